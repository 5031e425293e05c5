set_option maxRecDepth 100000 in
set_option maxHeartbeats 4000000 in
theorem c_X6_init (l : Launch) (D : va_G) (kc : Nat → ClassId) (adr : Nat → Nat) (cell : Nat → va_E) (hb : cell 0 = .inr (6, [.null, .null, .null, .null, .null, .null])) : MK l yX6_init wsX6_init ({ frames := 4, cells := 124, slots := 1227, locals := 82 }) 124 124 1227 D kc (1) adr cell [.ref (adr 0)] (fun (a1 : Nat → Nat) (c1 : Nat → va_E) => XAt c1 a1 kc s00 0 (fun _ => s00) 0 (fun _ => 0)) := by
  refine met_k (cc := cX6_init) (maxL := 1) (ret := none) (by decide) rfl (Nat.le_of_ble_eq_true rfl) (lv := [(0, .ref (adr 0))]) rfl ?_
  intro Pg Ev Sv Mi args below Me Cd Ar C hr hlk hnm hAO
  have in0 : ∀ w ∈ u_ws RX0 TX0 3, w ∈ wsX6_init := by decide +kernel
  have in1 : ∀ w ∈ u_ws RX1 TX1 3, w ∈ wsX6_init := by decide +kernel
  have in2 : ∀ w ∈ u_ws RX2 TX2 6, w ∈ wsX6_init := by decide +kernel
  have in3 : ∀ w ∈ u_ws RX3 TX3 3, w ∈ wsX6_init := by decide +kernel
  have in5 : ∀ w ∈ u_ws RX5 TX5 5, w ∈ wsX6_init := by decide +kernel
  have in6 : ∀ w ∈ u_ws RX6 TX6 6, w ∈ wsX6_init := by decide +kernel
  have w298666209 := C.2.2.2.2.1 (.methodLink RX6 1 objectInit) (by decide +kernel)
  have w5213295 := C.2.2.2.2.1 (.instanceMethod objectInit) (by decide +kernel)
  have w1100371547 := C.2.2.2.2.1 (.code objectInit ⟨#[0xb1]⟩ 1 none) (by decide +kernel)
  have w3686148953 := C.2.2.2.2.1 (.classLink RX6 7 RX5) (by decide +kernel)
  have w1850715547 := C.2.2.2.2.1 (.instantiable RX5 5) (by decide +kernel)
  have w4045515990 := C.2.2.2.2.1 (.initialized RX5) (by decide +kernel)
  have w2149222154 := C.2.2.2.2.1 (.instanceMethod yX5_init) (by decide +kernel)
  have w2409290729 := C.2.2.2.2.1 (.methodLink RX6 9 yX5_init) (by decide +kernel)
  have f10 := C.2.2.2.2.1 (.fieldLink RX6 10 "WordAnchors" "now" "LWordAnchors$State;") (by decide +kernel)
  have f16 := C.2.2.2.2.1 (.fieldLink RX6 16 "WordAnchors" "trial" "LWordAnchors$State;") (by decide +kernel)
  have w3638902565 := C.2.2.2.2.1 (.classLink RX6 19 RX3) (by decide +kernel)
  have w2208396316 := C.2.2.2.2.1 (.instantiable RX3 3) (by decide +kernel)
  have w406981091 := C.2.2.2.2.1 (.initialized RX3) (by decide +kernel)
  have w1447257111 := C.2.2.2.2.1 (.instanceMethod yX3_init) (by decide +kernel)
  have w2157023194 := C.2.2.2.2.1 (.methodLink RX6 21 yX3_init) (by decide +kernel)
  have f22 := C.2.2.2.2.1 (.fieldLink RX6 22 "WordAnchors" "history" "LWordAnchors$History;") (by decide +kernel)
  have w2871454412 := C.2.2.2.2.1 (.classLink RX6 26 RX2) (by decide +kernel)
  have w4060736164 := C.2.2.2.2.1 (.instantiable RX2 6) (by decide +kernel)
  have w1866807669 := C.2.2.2.2.1 (.initialized RX2) (by decide +kernel)
  have w2636101554 := C.2.2.2.2.1 (.instanceMethod yX2_init) (by decide +kernel)
  have f29 := C.2.2.2.2.1 (.fieldLink RX6 29 "WordAnchors" "text" "LWordAnchors$EditText;") (by decide +kernel)
  have w831776675 := C.2.2.2.2.1 (.classLink RX6 33 RX1) (by decide +kernel)
  have w2149949554 := C.2.2.2.2.1 (.instantiable RX1 3) (by decide +kernel)
  have w4132202703 := C.2.2.2.2.1 (.initialized RX1) (by decide +kernel)
  have w462144796 := C.2.2.2.2.1 (.instanceMethod yX1_init) (by decide +kernel)
  have f36 := C.2.2.2.2.1 (.fieldLink RX6 36 "WordAnchors" "blocks" "LWordAnchors$Blocks;") (by decide +kernel)
  have w473013597 := C.2.2.2.2.1 (.classLink RX6 40 RX0) (by decide +kernel)
  have w2179451461 := C.2.2.2.2.1 (.instantiable RX0 3) (by decide +kernel)
  have w2169198681 := C.2.2.2.2.1 (.initialized RX0) (by decide +kernel)
  have w3503756985 := C.2.2.2.2.1 (.instanceMethod yX0_init) (by decide +kernel)
  have f43 := C.2.2.2.2.1 (.fieldLink RX6 43 "WordAnchors" "probe" "LWordAnchors$Anchor;") (by decide +kernel)
  refine g_aload_n C 0 rfl dX6_init_0 ?_
  refine g_obj C w298666209 w5213295 w1100371547 dX6_init_1 (Nat.le_of_ble_eq_true rfl) (Nat.le_of_ble_eq_true rfl) ?_
  refine g_aload_n C 0 rfl dX6_init_4 ?_
  refine g_new C 5 rfl in5 tyX5 tyX5_ok w3686148953 w1850715547 w4045515990 [.null, .null, .null, .int 0, .int 0] (by intro j hj; revert j; decide +kernel) (Nat.le_of_ble_eq_true rfl) (Nat.le_of_ble_eq_true rfl) dX6_init_5 (2) (by omega) (fun a1 hg1 C => ?_)
  refine g_cell (fun c1 ec1 => ?_)
  have hc1 : ∀ j : Nat, j < 1 → c1 j = cell j := fun j hj => by rw [ec1, va_up_ne _ _ (by omega)]
  have h2 : c1 0 = .inr (6, [.null, .null, .null, .null, .null, .null]) := by rw [hc1 0 (by omega), hb]
  have h3 : c1 1 = .inr (5, [.null, .null, .null, .int 0, .int 0]) := by rw [ec1]; exact va_up_self _ _ _
  have ag4 : ∀ j : Nat, j < 1 → a1 j = adr j := fun j hj => hg1 j (by omega)
  refine g_eqlv (lv1 := [(0, .ref (a1 0))]) (by rw [hg1 0 (by omega)]) ?_
  refine g_eqst (st1 := ([.ref (a1 1), .ref (a1 0)] : List Value)) (by rw [hg1 0 (by omega)]) ?_
  refine g_dup C rfl dX6_init_8 ?_
  refine g_ctor C (c_X5_init l D kc a1 c1 1 h3) hAO (cwI 0 C.2.2.2.2.1 gX6_init_X5_init rfl rfl rfl w4045515990 w2409290729 w2149222154 rfl ⟨by decide, by decide, by decide +kernel⟩ ⟨Nat.le_of_ble_eq_true rfl, Nat.le_of_ble_eq_true rfl⟩) (Nat.le_of_ble_eq_true rfl) (Nat.le_of_ble_eq_true rfl) (Nat.le_of_ble_eq_true rfl) dX6_init_9 (20) (by omega) (fun a5 c5 hg5 hp5 C => ?_)
  obtain ⟨hx5, hc5⟩ := hp5
  have h6 : c5 0 = .inr (6, [.null, .null, .null, .null, .null, .null]) := by rw [hc5 0 (by omega), h2]
  have ag7 : ∀ j : Nat, j < 1 → a5 j = adr j := fun j hj => (hg5 j (by omega)).trans (ag4 j hj)
  refine g_eqlv (lv1 := [(0, .ref (a5 0))]) (by rw [hg5 0 (by omega)]) ?_
  refine g_eqst (st1 := ([.ref (a5 1), .ref (a5 0)] : List Value)) (by rw [hg5 1 (by omega), hg5 0 (by omega)]) ?_
  refine g_putF C 0 6 0 (by omega) h6 rfl in6 tyX6 tyX6_ok nmX6 (by decide) f10 (fun _ h9 => h9) rfl hnm rfl (tyX6_ok 0 (by decide)) rfl rfl (Nat.le_of_ble_eq_true rfl) dX6_init_12 ?_
  refine g_cell (fun c8 ec8 => ?_)
  have h9 : StAt c8 a5 kc (1) s00 := StAt.move hx5 (fun j h1 h2 => (show c8 j = c5 j by rw [ec8, va_up_ne _ _ (by omega)])) (fun _ _ _ => rfl)
  have h10 : c8 0 = .inr (6, [.ref (a5 1), .null, .null, .null, .null, .null]) := by rw [ec8]; exact va_up_self _ _ _
  refine g_aload_n C 0 rfl dX6_init_15 ?_
  refine g_new C 5 rfl in5 tyX5 tyX5_ok w3686148953 w1850715547 w4045515990 [.null, .null, .null, .int 0, .int 0] (by intro j hj; revert j; decide +kernel) (Nat.le_of_ble_eq_true rfl) (Nat.le_of_ble_eq_true rfl) dX6_init_16 (21) (by omega) (fun a11 hg11 C => ?_)
  refine g_cell (fun c11 ec11 => ?_)
  have hc11 : ∀ j : Nat, j < 20 → c11 j = c8 j := fun j hj => by rw [ec11, va_up_ne _ _ (by omega)]
  have h12 : StAt c11 a11 kc (1) s00 := StAt.move h9 (fun j h1 h2 => hc11 j (by omega)) (fun j h1 h2 => hg11 j (by omega))
  have h13 : c11 0 = .inr (6, [.ref (a11 1), .null, .null, .null, .null, .null]) := by rw [hc11 0 (by omega), h10, hg11 1 (by omega)]
  have h14 : c11 20 = .inr (5, [.null, .null, .null, .int 0, .int 0]) := by rw [ec11]; exact va_up_self _ _ _
  have ag15 : ∀ j : Nat, j < 1 → a11 j = adr j := fun j hj => (hg11 j (by omega)).trans (ag7 j hj)
  refine g_eqlv (lv1 := [(0, .ref (a11 0))]) (by rw [hg11 0 (by omega)]) ?_
  refine g_eqst (st1 := ([.ref (a11 20), .ref (a11 0)] : List Value)) (by rw [hg11 0 (by omega)]) ?_
  refine g_dup C rfl dX6_init_19 ?_
  refine g_ctor C (c_X5_init l D kc a11 c11 20 h14) hAO (cwI 0 C.2.2.2.2.1 gX6_init_X5_init rfl rfl rfl w4045515990 w2409290729 w2149222154 rfl ⟨by decide, by decide, by decide +kernel⟩ ⟨Nat.le_of_ble_eq_true rfl, Nat.le_of_ble_eq_true rfl⟩) (Nat.le_of_ble_eq_true rfl) (Nat.le_of_ble_eq_true rfl) (Nat.le_of_ble_eq_true rfl) dX6_init_20 (39) (by omega) (fun a16 c16 hg16 hp16 C => ?_)
  obtain ⟨hx16, hc16⟩ := hp16
  have h17 : StAt c16 a16 kc (1) s00 := StAt.move h12 (fun j h1 h2 => hc16 j (by omega)) (fun j h1 h2 => hg16 j (by omega))
  have h18 : c16 0 = .inr (6, [.ref (a16 1), .null, .null, .null, .null, .null]) := by rw [hc16 0 (by omega), h13, hg16 1 (by omega)]
  have ag19 : ∀ j : Nat, j < 1 → a16 j = adr j := fun j hj => (hg16 j (by omega)).trans (ag15 j hj)
  refine g_eqlv (lv1 := [(0, .ref (a16 0))]) (by rw [hg16 0 (by omega)]) ?_
  refine g_eqst (st1 := ([.ref (a16 20), .ref (a16 0)] : List Value)) (by rw [hg16 20 (by omega), hg16 0 (by omega)]) ?_
  refine g_putF C 0 6 1 (by omega) h18 rfl in6 tyX6 tyX6_ok nmX6 (by decide) f16 (fun _ h9 => h9) rfl hnm rfl (tyX6_ok 1 (by decide)) rfl rfl (Nat.le_of_ble_eq_true rfl) dX6_init_23 ?_
  refine g_cell (fun c20 ec20 => ?_)
  have h21 : StAt c20 a16 kc (1) s00 := StAt.move h17 (fun j h1 h2 => (show c20 j = c16 j by rw [ec20, va_up_ne _ _ (by omega)])) (fun _ _ _ => rfl)
  have h22 : StAt c20 a16 kc (20) s00 := StAt.move hx16 (fun j h1 h2 => (show c20 j = c16 j by rw [ec20, va_up_ne _ _ (by omega)])) (fun _ _ _ => rfl)
  have h23 : c20 0 = .inr (6, [.ref (a16 1), .ref (a16 20), .null, .null, .null, .null]) := by rw [ec20]; exact va_up_self _ _ _
  refine g_aload_n C 0 rfl dX6_init_26 ?_
  refine g_new C 3 rfl in3 tyX3 tyX3_ok w3638902565 w2208396316 w406981091 [.null, .int 0, .int 0] (by intro j hj; revert j; decide +kernel) (Nat.le_of_ble_eq_true rfl) (Nat.le_of_ble_eq_true rfl) dX6_init_27 (40) (by omega) (fun a24 hg24 C => ?_)
  refine g_cell (fun c24 ec24 => ?_)
  have hc24 : ∀ j : Nat, j < 39 → c24 j = c20 j := fun j hj => by rw [ec24, va_up_ne _ _ (by omega)]
  have h25 : StAt c24 a24 kc (1) s00 := StAt.move h21 (fun j h1 h2 => hc24 j (by omega)) (fun j h1 h2 => hg24 j (by omega))
  have h26 : StAt c24 a24 kc (20) s00 := StAt.move h22 (fun j h1 h2 => hc24 j (by omega)) (fun j h1 h2 => hg24 j (by omega))
  have h27 : c24 0 = .inr (6, [.ref (a24 1), .ref (a24 20), .null, .null, .null, .null]) := by rw [hc24 0 (by omega), h23, hg24 1 (by omega), hg24 20 (by omega)]
  have h28 : c24 39 = .inr (3, [.null, .int 0, .int 0]) := by rw [ec24]; exact va_up_self _ _ _
  have ag29 : ∀ j : Nat, j < 1 → a24 j = adr j := fun j hj => (hg24 j (by omega)).trans (ag19 j hj)
  refine g_eqlv (lv1 := [(0, .ref (a24 0))]) (by rw [hg24 0 (by omega)]) ?_
  refine g_eqst (st1 := ([.ref (a24 39), .ref (a24 0)] : List Value)) (by rw [hg24 0 (by omega)]) ?_
  refine g_dup C rfl dX6_init_30 ?_
  refine g_ctor C (c_X3_init l D kc a24 c24 39 h28) hAO (cwI 0 C.2.2.2.2.1 gX6_init_X3_init rfl rfl rfl w406981091 w2157023194 w1447257111 rfl ⟨by decide, by decide, by decide +kernel⟩ ⟨Nat.le_of_ble_eq_true rfl, Nat.le_of_ble_eq_true rfl⟩) (Nat.le_of_ble_eq_true rfl) (Nat.le_of_ble_eq_true rfl) (Nat.le_of_ble_eq_true rfl) dX6_init_31 (117) (by omega) (fun a30 c30 hg30 hp30 C => ?_)
  obtain ⟨hx30, hc30⟩ := hp30
  have h31 : StAt c30 a30 kc (1) s00 := StAt.move h25 (fun j h1 h2 => hc30 j (by omega)) (fun j h1 h2 => hg30 j (by omega))
  have h32 : StAt c30 a30 kc (20) s00 := StAt.move h26 (fun j h1 h2 => hc30 j (by omega)) (fun j h1 h2 => hg30 j (by omega))
  have h33 : c30 0 = .inr (6, [.ref (a30 1), .ref (a30 20), .null, .null, .null, .null]) := by rw [hc30 0 (by omega), h27, hg30 1 (by omega), hg30 20 (by omega)]
  have ag34 : ∀ j : Nat, j < 1 → a30 j = adr j := fun j hj => (hg30 j (by omega)).trans (ag29 j hj)
  refine g_eqlv (lv1 := [(0, .ref (a30 0))]) (by rw [hg30 0 (by omega)]) ?_
  refine g_eqst (st1 := ([.ref (a30 39), .ref (a30 0)] : List Value)) (by rw [hg30 39 (by omega), hg30 0 (by omega)]) ?_
  refine g_putF C 0 6 2 (by omega) h33 rfl in6 tyX6 tyX6_ok nmX6 (by decide) f22 (fun _ h9 => h9) rfl hnm rfl (tyX6_ok 2 (by decide)) rfl rfl (Nat.le_of_ble_eq_true rfl) dX6_init_34 ?_
  refine g_cell (fun c35 ec35 => ?_)
  have h36 : StAt c35 a30 kc (1) s00 := StAt.move h31 (fun j h1 h2 => (show c35 j = c30 j by rw [ec35, va_up_ne _ _ (by omega)])) (fun _ _ _ => rfl)
  have h37 : StAt c35 a30 kc (20) s00 := StAt.move h32 (fun j h1 h2 => (show c35 j = c30 j by rw [ec35, va_up_ne _ _ (by omega)])) (fun _ _ _ => rfl)
  have h38 : HiAt c35 a30 kc 39 0 0 (fun _ => s00) := HiAt.move hx30 (fun j h1 h2 => (show c35 j = c30 j by rw [ec35, va_up_ne _ _ (by omega)])) (fun _ _ _ => rfl)
  have h39 : c35 0 = .inr (6, [.ref (a30 1), .ref (a30 20), .ref (a30 39), .null, .null, .null]) := by rw [ec35]; exact va_up_self _ _ _
  refine g_aload_n C 0 rfl dX6_init_37 ?_
  refine g_new C 2 rfl in2 tyX2 tyX2_ok w2871454412 w4060736164 w1866807669 [.null, .null, .int 0, .int 0, .int 0, .int 0] (by intro j hj; revert j; decide +kernel) (Nat.le_of_ble_eq_true rfl) (Nat.le_of_ble_eq_true rfl) dX6_init_38 (118) (by omega) (fun a40 hg40 C => ?_)
  refine g_cell (fun c40 ec40 => ?_)
  have hc40 : ∀ j : Nat, j < 117 → c40 j = c35 j := fun j hj => by rw [ec40, va_up_ne _ _ (by omega)]
  have h41 : StAt c40 a40 kc (1) s00 := StAt.move h36 (fun j h1 h2 => hc40 j (by omega)) (fun j h1 h2 => hg40 j (by omega))
  have h42 : StAt c40 a40 kc (20) s00 := StAt.move h37 (fun j h1 h2 => hc40 j (by omega)) (fun j h1 h2 => hg40 j (by omega))
  have h43 : HiAt c40 a40 kc 39 0 0 (fun _ => s00) := HiAt.move h38 (fun j h1 h2 => hc40 j (by omega)) (fun j h1 h2 => hg40 j (by omega))
  have h44 : c40 0 = .inr (6, [.ref (a40 1), .ref (a40 20), .ref (a40 39), .null, .null, .null]) := by rw [hc40 0 (by omega), h39, hg40 1 (by omega), hg40 20 (by omega), hg40 39 (by omega)]
  have h45 : c40 117 = .inr (2, [.null, .null, .int 0, .int 0, .int 0, .int 0]) := by rw [ec40]; exact va_up_self _ _ _
  have ag46 : ∀ j : Nat, j < 1 → a40 j = adr j := fun j hj => (hg40 j (by omega)).trans (ag34 j hj)
  refine g_eqlv (lv1 := [(0, .ref (a40 0))]) (by rw [hg40 0 (by omega)]) ?_
  refine g_eqst (st1 := ([.ref (a40 117), .ref (a40 0)] : List Value)) (by rw [hg40 0 (by omega)]) ?_
  refine g_dup C rfl dX6_init_41 ?_
  refine g_ctorN C (c_X2_init l D kc a40 c40 117 h45) hAO ⟨va_cnB 0 C.2.2.2.2.1 gX6_init_X2_init_n28 rfl rfl rfl (hAO.2.2 (RX6, 28, yX2_init) (by decide +kernel)) w1866807669 ⟨by decide, by decide, by decide +kernel⟩ ⟨Nat.le_of_ble_eq_true rfl, Nat.le_of_ble_eq_true rfl⟩, rfl, w2636101554⟩ (Nat.le_of_ble_eq_true rfl) (Nat.le_of_ble_eq_true rfl) (Nat.le_of_ble_eq_true rfl) dX6_init_42 (120) (by omega) (fun a47 c47 hg47 hp47 C => ?_)
  obtain ⟨hx47, hc47⟩ := hp47
  have h48 : StAt c47 a47 kc (1) s00 := StAt.move h41 (fun j h1 h2 => hc47 j (by omega)) (fun j h1 h2 => hg47 j (by omega))
  have h49 : StAt c47 a47 kc (20) s00 := StAt.move h42 (fun j h1 h2 => hc47 j (by omega)) (fun j h1 h2 => hg47 j (by omega))
  have h50 : HiAt c47 a47 kc 39 0 0 (fun _ => s00) := HiAt.move h43 (fun j h1 h2 => hc47 j (by omega)) (fun j h1 h2 => hg47 j (by omega))
  have h51 : c47 0 = .inr (6, [.ref (a47 1), .ref (a47 20), .ref (a47 39), .null, .null, .null]) := by rw [hc47 0 (by omega), h44, hg47 1 (by omega), hg47 20 (by omega), hg47 39 (by omega)]
  have ag52 : ∀ j : Nat, j < 1 → a47 j = adr j := fun j hj => (hg47 j (by omega)).trans (ag46 j hj)
  refine g_eqlv (lv1 := [(0, .ref (a47 0))]) (by rw [hg47 0 (by omega)]) ?_
  refine g_eqst (st1 := ([.ref (a47 117), .ref (a47 0)] : List Value)) (by rw [hg47 117 (by omega), hg47 0 (by omega)]) ?_
  refine g_putF C 0 6 3 (by omega) h51 rfl in6 tyX6 tyX6_ok nmX6 (by decide) f29 (fun _ h9 => h9) rfl hnm rfl (tyX6_ok 3 (by decide)) rfl rfl (Nat.le_of_ble_eq_true rfl) dX6_init_45 ?_
  refine g_cell (fun c53 ec53 => ?_)
  have h54 : StAt c53 a47 kc (1) s00 := StAt.move h48 (fun j h1 h2 => (show c53 j = c47 j by rw [ec53, va_up_ne _ _ (by omega)])) (fun _ _ _ => rfl)
  have h55 : StAt c53 a47 kc (20) s00 := StAt.move h49 (fun j h1 h2 => (show c53 j = c47 j by rw [ec53, va_up_ne _ _ (by omega)])) (fun _ _ _ => rfl)
  have h56 : HiAt c53 a47 kc 39 0 0 (fun _ => s00) := HiAt.move h50 (fun j h1 h2 => (show c53 j = c47 j by rw [ec53, va_up_ne _ _ (by omega)])) (fun _ _ _ => rfl)
  have h57 : TxAt c53 a47 kc 117 0 0 0 0 (fun _ => 0) (fun _ => 0) := TxAt.move hx47 (fun j h1 h2 => (show c53 j = c47 j by rw [ec53, va_up_ne _ _ (by omega)])) (fun _ _ _ => rfl)
  have h58 : c53 0 = .inr (6, [.ref (a47 1), .ref (a47 20), .ref (a47 39), .ref (a47 117), .null, .null]) := by rw [ec53]; exact va_up_self _ _ _
  refine g_aload_n C 0 rfl dX6_init_48 ?_
  refine g_new C 1 rfl in1 tyX1 tyX1_ok w831776675 w2149949554 w4132202703 [.null, .null, .int 0] (by intro j hj; revert j; decide +kernel) (Nat.le_of_ble_eq_true rfl) (Nat.le_of_ble_eq_true rfl) dX6_init_49 (121) (by omega) (fun a59 hg59 C => ?_)
  refine g_cell (fun c59 ec59 => ?_)
  have hc59 : ∀ j : Nat, j < 120 → c59 j = c53 j := fun j hj => by rw [ec59, va_up_ne _ _ (by omega)]
  have h60 : StAt c59 a59 kc (1) s00 := StAt.move h54 (fun j h1 h2 => hc59 j (by omega)) (fun j h1 h2 => hg59 j (by omega))
  have h61 : StAt c59 a59 kc (20) s00 := StAt.move h55 (fun j h1 h2 => hc59 j (by omega)) (fun j h1 h2 => hg59 j (by omega))
  have h62 : HiAt c59 a59 kc 39 0 0 (fun _ => s00) := HiAt.move h56 (fun j h1 h2 => hc59 j (by omega)) (fun j h1 h2 => hg59 j (by omega))
  have h63 : TxAt c59 a59 kc 117 0 0 0 0 (fun _ => 0) (fun _ => 0) := TxAt.move h57 (fun j h1 h2 => hc59 j (by omega)) (fun j h1 h2 => hg59 j (by omega))
  have h64 : c59 0 = .inr (6, [.ref (a59 1), .ref (a59 20), .ref (a59 39), .ref (a59 117), .null, .null]) := by rw [hc59 0 (by omega), h58, hg59 1 (by omega), hg59 20 (by omega), hg59 39 (by omega), hg59 117 (by omega)]
  have h65 : c59 120 = .inr (1, [.null, .null, .int 0]) := by rw [ec59]; exact va_up_self _ _ _
  have ag66 : ∀ j : Nat, j < 1 → a59 j = adr j := fun j hj => (hg59 j (by omega)).trans (ag52 j hj)
  refine g_eqlv (lv1 := [(0, .ref (a59 0))]) (by rw [hg59 0 (by omega)]) ?_
  refine g_eqst (st1 := ([.ref (a59 120), .ref (a59 0)] : List Value)) (by rw [hg59 0 (by omega)]) ?_
  refine g_dup C rfl dX6_init_52 ?_
  refine g_ctorN C (c_X1_init l D kc a59 c59 120 h65) hAO ⟨va_cnB 0 C.2.2.2.2.1 gX6_init_X1_init_n35 rfl rfl rfl (hAO.2.2 (RX6, 35, yX1_init) (by decide +kernel)) w4132202703 ⟨by decide, by decide, by decide +kernel⟩ ⟨Nat.le_of_ble_eq_true rfl, Nat.le_of_ble_eq_true rfl⟩, rfl, w462144796⟩ (Nat.le_of_ble_eq_true rfl) (Nat.le_of_ble_eq_true rfl) (Nat.le_of_ble_eq_true rfl) dX6_init_53 (123) (by omega) (fun a67 c67 hg67 hp67 C => ?_)
  obtain ⟨hx67, hc67⟩ := hp67
  have h68 : StAt c67 a67 kc (1) s00 := StAt.move h60 (fun j h1 h2 => hc67 j (by omega)) (fun j h1 h2 => hg67 j (by omega))
  have h69 : StAt c67 a67 kc (20) s00 := StAt.move h61 (fun j h1 h2 => hc67 j (by omega)) (fun j h1 h2 => hg67 j (by omega))
  have h70 : HiAt c67 a67 kc 39 0 0 (fun _ => s00) := HiAt.move h62 (fun j h1 h2 => hc67 j (by omega)) (fun j h1 h2 => hg67 j (by omega))
  have h71 : TxAt c67 a67 kc 117 0 0 0 0 (fun _ => 0) (fun _ => 0) := TxAt.move h63 (fun j h1 h2 => hc67 j (by omega)) (fun j h1 h2 => hg67 j (by omega))
  have h72 : c67 0 = .inr (6, [.ref (a67 1), .ref (a67 20), .ref (a67 39), .ref (a67 117), .null, .null]) := by rw [hc67 0 (by omega), h64, hg67 1 (by omega), hg67 20 (by omega), hg67 39 (by omega), hg67 117 (by omega)]
  have ag73 : ∀ j : Nat, j < 1 → a67 j = adr j := fun j hj => (hg67 j (by omega)).trans (ag66 j hj)
  refine g_eqlv (lv1 := [(0, .ref (a67 0))]) (by rw [hg67 0 (by omega)]) ?_
  refine g_eqst (st1 := ([.ref (a67 120), .ref (a67 0)] : List Value)) (by rw [hg67 120 (by omega), hg67 0 (by omega)]) ?_
  refine g_putF C 0 6 4 (by omega) h72 rfl in6 tyX6 tyX6_ok nmX6 (by decide) f36 (fun _ h9 => h9) rfl hnm rfl (tyX6_ok 4 (by decide)) rfl rfl (Nat.le_of_ble_eq_true rfl) dX6_init_56 ?_
  refine g_cell (fun c74 ec74 => ?_)
  have h75 : StAt c74 a67 kc (1) s00 := StAt.move h68 (fun j h1 h2 => (show c74 j = c67 j by rw [ec74, va_up_ne _ _ (by omega)])) (fun _ _ _ => rfl)
  have h76 : StAt c74 a67 kc (20) s00 := StAt.move h69 (fun j h1 h2 => (show c74 j = c67 j by rw [ec74, va_up_ne _ _ (by omega)])) (fun _ _ _ => rfl)
  have h77 : HiAt c74 a67 kc 39 0 0 (fun _ => s00) := HiAt.move h70 (fun j h1 h2 => (show c74 j = c67 j by rw [ec74, va_up_ne _ _ (by omega)])) (fun _ _ _ => rfl)
  have h78 : TxAt c74 a67 kc 117 0 0 0 0 (fun _ => 0) (fun _ => 0) := TxAt.move h71 (fun j h1 h2 => (show c74 j = c67 j by rw [ec74, va_up_ne _ _ (by omega)])) (fun _ _ _ => rfl)
  have h79 : BlAt c74 a67 kc 120 0 (fun _ => 0) (fun _ => 0) := BlAt.move hx67 (fun j h1 h2 => (show c74 j = c67 j by rw [ec74, va_up_ne _ _ (by omega)])) (fun _ _ _ => rfl)
  have h80 : c74 0 = .inr (6, [.ref (a67 1), .ref (a67 20), .ref (a67 39), .ref (a67 117), .ref (a67 120), .null]) := by rw [ec74]; exact va_up_self _ _ _
  refine g_aload_n C 0 rfl dX6_init_59 ?_
  refine g_new C 0 rfl in0 tyX0 tyX0_ok w473013597 w2179451461 w2169198681 [.null, .int 0, .int 0] (by intro j hj; revert j; decide +kernel) (Nat.le_of_ble_eq_true rfl) (Nat.le_of_ble_eq_true rfl) dX6_init_60 (124) (by omega) (fun a81 hg81 C => ?_)
  refine g_cell (fun c81 ec81 => ?_)
  have hc81 : ∀ j : Nat, j < 123 → c81 j = c74 j := fun j hj => by rw [ec81, va_up_ne _ _ (by omega)]
  have h82 : StAt c81 a81 kc (1) s00 := StAt.move h75 (fun j h1 h2 => hc81 j (by omega)) (fun j h1 h2 => hg81 j (by omega))
  have h83 : StAt c81 a81 kc (20) s00 := StAt.move h76 (fun j h1 h2 => hc81 j (by omega)) (fun j h1 h2 => hg81 j (by omega))
  have h84 : HiAt c81 a81 kc 39 0 0 (fun _ => s00) := HiAt.move h77 (fun j h1 h2 => hc81 j (by omega)) (fun j h1 h2 => hg81 j (by omega))
  have h85 : TxAt c81 a81 kc 117 0 0 0 0 (fun _ => 0) (fun _ => 0) := TxAt.move h78 (fun j h1 h2 => hc81 j (by omega)) (fun j h1 h2 => hg81 j (by omega))
  have h86 : BlAt c81 a81 kc 120 0 (fun _ => 0) (fun _ => 0) := BlAt.move h79 (fun j h1 h2 => hc81 j (by omega)) (fun j h1 h2 => hg81 j (by omega))
  have h87 : c81 0 = .inr (6, [.ref (a81 1), .ref (a81 20), .ref (a81 39), .ref (a81 117), .ref (a81 120), .null]) := by rw [hc81 0 (by omega), h80, hg81 1 (by omega), hg81 20 (by omega), hg81 39 (by omega), hg81 117 (by omega), hg81 120 (by omega)]
  have h88 : c81 123 = .inr (0, [.null, .int 0, .int 0]) := by rw [ec81]; exact va_up_self _ _ _
  have ag89 : ∀ j : Nat, j < 1 → a81 j = adr j := fun j hj => (hg81 j (by omega)).trans (ag73 j hj)
  refine g_eqlv (lv1 := [(0, .ref (a81 0))]) (by rw [hg81 0 (by omega)]) ?_
  refine g_eqst (st1 := ([.ref (a81 123), .ref (a81 0)] : List Value)) (by rw [hg81 0 (by omega)]) ?_
  refine g_dup C rfl dX6_init_63 ?_
  refine g_ctorN C (c_X0_init l D kc a81 c81 123 h88) hAO ⟨va_cnB 0 C.2.2.2.2.1 gX6_init_X0_init_n42 rfl rfl rfl (hAO.2.2 (RX6, 42, yX0_init) (by decide +kernel)) w2169198681 ⟨by decide, by decide, by decide +kernel⟩ ⟨Nat.le_of_ble_eq_true rfl, Nat.le_of_ble_eq_true rfl⟩, rfl, w3503756985⟩ (Nat.le_of_ble_eq_true rfl) (Nat.le_of_ble_eq_true rfl) (Nat.le_of_ble_eq_true rfl) dX6_init_64 (125) (by omega) (fun a90 c90 hg90 hp90 C => ?_)
  obtain ⟨hx90, hc90⟩ := hp90
  have h91 : StAt c90 a90 kc (1) s00 := StAt.move h82 (fun j h1 h2 => hc90 j (by omega)) (fun j h1 h2 => hg90 j (by omega))
  have h92 : StAt c90 a90 kc (20) s00 := StAt.move h83 (fun j h1 h2 => hc90 j (by omega)) (fun j h1 h2 => hg90 j (by omega))
  have h93 : HiAt c90 a90 kc 39 0 0 (fun _ => s00) := HiAt.move h84 (fun j h1 h2 => hc90 j (by omega)) (fun j h1 h2 => hg90 j (by omega))
  have h94 : TxAt c90 a90 kc 117 0 0 0 0 (fun _ => 0) (fun _ => 0) := TxAt.move h85 (fun j h1 h2 => hc90 j (by omega)) (fun j h1 h2 => hg90 j (by omega))
  have h95 : BlAt c90 a90 kc 120 0 (fun _ => 0) (fun _ => 0) := BlAt.move h86 (fun j h1 h2 => hc90 j (by omega)) (fun j h1 h2 => hg90 j (by omega))
  have h96 : c90 0 = .inr (6, [.ref (a90 1), .ref (a90 20), .ref (a90 39), .ref (a90 117), .ref (a90 120), .null]) := by rw [hc90 0 (by omega), h87, hg90 1 (by omega), hg90 20 (by omega), hg90 39 (by omega), hg90 117 (by omega), hg90 120 (by omega)]
  have ag97 : ∀ j : Nat, j < 1 → a90 j = adr j := fun j hj => (hg90 j (by omega)).trans (ag89 j hj)
  refine g_eqlv (lv1 := [(0, .ref (a90 0))]) (by rw [hg90 0 (by omega)]) ?_
  refine g_eqst (st1 := ([.ref (a90 123), .ref (a90 0)] : List Value)) (by rw [hg90 123 (by omega), hg90 0 (by omega)]) ?_
  refine g_putF C 0 6 5 (by omega) h96 rfl in6 tyX6 tyX6_ok nmX6 (by decide) f43 (fun _ h9 => h9) rfl hnm rfl (tyX6_ok 5 (by decide)) rfl rfl (Nat.le_of_ble_eq_true rfl) dX6_init_67 ?_
  refine g_cell (fun c98 ec98 => ?_)
  have h99 : StAt c98 a90 kc (1) s00 := StAt.move h91 (fun j h1 h2 => (show c98 j = c90 j by rw [ec98, va_up_ne _ _ (by omega)])) (fun _ _ _ => rfl)
  have h100 : StAt c98 a90 kc (20) s00 := StAt.move h92 (fun j h1 h2 => (show c98 j = c90 j by rw [ec98, va_up_ne _ _ (by omega)])) (fun _ _ _ => rfl)
  have h101 : HiAt c98 a90 kc 39 0 0 (fun _ => s00) := HiAt.move h93 (fun j h1 h2 => (show c98 j = c90 j by rw [ec98, va_up_ne _ _ (by omega)])) (fun _ _ _ => rfl)
  have h102 : TxAt c98 a90 kc 117 0 0 0 0 (fun _ => 0) (fun _ => 0) := TxAt.move h94 (fun j h1 h2 => (show c98 j = c90 j by rw [ec98, va_up_ne _ _ (by omega)])) (fun _ _ _ => rfl)
  have h103 : BlAt c98 a90 kc 120 0 (fun _ => 0) (fun _ => 0) := BlAt.move h95 (fun j h1 h2 => (show c98 j = c90 j by rw [ec98, va_up_ne _ _ (by omega)])) (fun _ _ _ => rfl)
  have h104 : AncAt c98 a90 kc (123) 0 0 (fun _ => 0) := AncAt.move hx90 (fun j h1 h2 => (show c98 j = c90 j by rw [ec98, va_up_ne _ _ (by omega)])) (fun _ _ _ => rfl)
  have h105 : c98 0 = .inr (6, [.ref (a90 1), .ref (a90 20), .ref (a90 39), .ref (a90 117), .ref (a90 120), .ref (a90 123)]) := by rw [ec98]; exact va_up_self _ _ _
  refine g_kret (by omega) C hr hlk dX6_init_70 ag97 ?_
  exact ⟨h105, ⟨_, h99, Eqv.rf _⟩, ⟨_, h100⟩, ⟨0, fun _ => s00, h101, fun i hi => absurd hi (by omega)⟩, ⟨0, 0, 0, _, h102⟩, ⟨0, _, _, h103⟩, ⟨0, 0, _, h104⟩, fun j hj => absurd hj (by omega)⟩
