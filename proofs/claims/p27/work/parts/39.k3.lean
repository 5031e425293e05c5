set_option maxRecDepth 100000 in
set_option maxHeartbeats 4000000 in
theorem c_X3_init (l : Launch) (D : va_G) (kc : Nat → ClassId) (adr : Nat → Nat) (cell : Nat → va_E) (b : Nat) (hb : cell b = .inr (3, [.null, .int 0, .int 0])) : MK l yX3_init wsX3_init ({ frames := 3, cells := 77, slots := 756, locals := 61 }) 77 77 756 D kc (b + 1) adr cell [.ref (adr b)] (fun (a1 : Nat → Nat) (c1 : Nat → va_E) => HiAt c1 a1 kc b 0 0 (fun _ => s00) ∧ ∀ j : Nat, j < b → c1 j = cell j) := by
  refine met_k (cc := cX3_init) (maxL := 2) (ret := none) (by decide) rfl (Nat.le_of_ble_eq_true rfl) (lv := [(0, .ref (adr b))]) rfl ?_
  intro Pg Ev Sv Mi args below Me Cd Ar C hr hlk hnm hAO
  have in3 : ∀ w ∈ u_ws RX3 TX3 3, w ∈ wsX3_init := by decide +kernel
  have in5 : ∀ w ∈ u_ws RX5 TX5 5, w ∈ wsX3_init := by decide +kernel
  have w2035660819 := C.2.2.2.2.1 (.methodLink RX3 3 objectInit) (by decide +kernel)
  have w5213295 := C.2.2.2.2.1 (.instanceMethod objectInit) (by decide +kernel)
  have w1100371547 := C.2.2.2.2.1 (.code objectInit ⟨#[0xb1]⟩ 1 none) (by decide +kernel)
  have w918469279 := C.2.2.2.2.1 (.classLink RX3 9 RX5) (by decide +kernel)
  have f11 := C.2.2.2.2.1 (.fieldLink RX3 11 "WordAnchors$History" "states" "[LWordAnchors$State;") (by decide +kernel)
  have w1850715547 := C.2.2.2.2.1 (.instantiable RX5 5) (by decide +kernel)
  have w4045515990 := C.2.2.2.2.1 (.initialized RX5) (by decide +kernel)
  have w2149222154 := C.2.2.2.2.1 (.instanceMethod yX5_init) (by decide +kernel)
  have w3743140242 := C.2.2.2.2.1 (.methodLink RX3 17 yX5_init) (by decide +kernel)
  refine g_aload_n C 0 rfl dX3_init_0 ?_
  refine g_obj C w2035660819 w5213295 w1100371547 dX3_init_1 (Nat.le_of_ble_eq_true rfl) (Nat.le_of_ble_eq_true rfl) ?_
  refine g_aload_n C 0 rfl dX3_init_4 ?_
  refine g_iconst C 4 (by decide) dX3_init_5 ?_
  refine g_newq (N' := 4) C 3 rfl w918469279 hAO.2.1 (by decide) (by decide) (by decide) (Nat.le_of_ble_eq_true rfl) (Nat.le_of_ble_eq_true rfl) dX3_init_6 (b + 2) (by omega) (fun a1 hg1 C => ?_)
  refine g_cell (fun c1 ec1 => ?_)
  have hc1 : ∀ j : Nat, j < b + 1 → c1 j = cell j := fun j hj => by rw [ec1, va_up_ne _ _ (by omega)]
  have h2 : c1 b = .inr (3, [.null, .int 0, .int 0]) := by rw [hc1 b (by omega), hb]
  have h3 : c1 (b + 1) = .inl (kc 3, 4, .inr (.inr (.inr (.inr (fun _ => none : Nat → Option Nat))))) := by rw [ec1]; exact va_up_self _ _ _
  have hq4 : ∀ k, k < 0 → (fun _ => none : Nat → Option Nat) k = some (a1 (b + 2 + 19 * k)) := fun k hk => absurd hk (by omega)
  have fr5 : ∀ j : Nat, j < b → c1 j = cell j := fun j hj => hc1 j (by omega)
  have ag6 : ∀ j : Nat, j < b + 1 → a1 j = adr j := fun j hj => hg1 j (by omega)
  refine g_eqlv (lv1 := [(0, .ref (a1 b))]) (by rw [hg1 b (by omega)]) ?_
  refine g_eqst (st1 := ([.ref (a1 (b + 1)), .ref (a1 b)] : List Value)) (by rw [hg1 b (by omega)]) ?_
  refine g_putF C b 3 0 (by omega) h2 rfl in3 tyX3 tyX3_ok nmX3 (by decide) f11 (fun _ h9 => h9) rfl hnm rfl (tyX3_ok 0 (by decide)) rfl rfl (Nat.le_of_ble_eq_true rfl) dX3_init_9 ?_
  refine g_cell (fun c7 ec7 => ?_)
  have h8 : c7 (b + 1) = .inl (kc 3, 4, .inr (.inr (.inr (.inr (fun _ => none : Nat → Option Nat))))) := by rw [(show c7 (b + 1) = c1 (b + 1) by rw [ec7, va_up_ne _ _ (by omega)]), h3]
  have h9 : c7 b = .inr (3, [.ref (a1 (b + 1)), .int 0, .int 0]) := by rw [ec7]; exact va_up_self _ _ _
  have fr10 : ∀ j : Nat, j < b → c7 j = cell j := fun j hj => ((show c7 j = c1 j by rw [ec7, va_up_ne _ _ (by omega)])).trans (fr5 j hj)
  refine g_iconst C 0 (by decide) dX3_init_12 ?_
  refine g_istore_n C [(1, .int 0), (0, .ref (a1 b))] (by decide) rfl dX3_init_13 ?_
  refine g_iload_n C 0 rfl dX3_init_14 ?_
  refine g_aload_n C 1 rfl dX3_init_15 ?_
  refine g_get C b 3 0 (by omega) h9 rfl in3 (by decide) f11 (fun _ h9 => h9) rfl dX3_init_16 ?_
  refine g_alen C (b + 1) 3 (by omega) h8 rfl 4 rfl dX3_init_19 ?_
  refine g_icmp_ge C 42 rfl dX3_init_20 (fun h => absurd h (by decide)) (fun _ => ?_)
  refine g_aload_n C 1 rfl dX3_init_23 ?_
  refine g_get C b 3 0 (by omega) h9 rfl in3 (by decide) f11 (fun _ h9 => h9) rfl dX3_init_24 ?_
  refine g_iload_n C 0 rfl dX3_init_27 ?_
  refine g_new C 5 rfl in5 tyX5 tyX5_ok w918469279 w1850715547 w4045515990 [.null, .null, .null, .int 0, .int 0] (by intro j hj; revert j; decide +kernel) (Nat.le_of_ble_eq_true rfl) (Nat.le_of_ble_eq_true rfl) dX3_init_28 (b + 3) (by omega) (fun a11 hg11 C => ?_)
  refine g_cell (fun c11 ec11 => ?_)
  have hc11 : ∀ j : Nat, j < b + 2 → c11 j = c7 j := fun j hj => by rw [ec11, va_up_ne _ _ (by omega)]
  have h12 : c11 (b + 1) = .inl (kc 3, 4, .inr (.inr (.inr (.inr (fun _ => none : Nat → Option Nat))))) := by rw [hc11 (b + 1) (by omega), h8]
  have hq13 : ∀ k, k < 0 → (fun _ => none : Nat → Option Nat) k = some (a11 (b + 2 + 19 * k)) := fun k hk => by rw [hq4 k hk, hg11 (b + 2 + 19 * k) (by omega)]
  have h14 : c11 b = .inr (3, [.ref (a11 (b + 1)), .int 0, .int 0]) := by rw [hc11 b (by omega), h9, hg11 (b + 1) (by omega)]
  have h15 : c11 (b + 2) = .inr (5, [.null, .null, .null, .int 0, .int 0]) := by rw [ec11]; exact va_up_self _ _ _
  have fr16 : ∀ j : Nat, j < b → c11 j = cell j := fun j hj => (hc11 j (by omega)).trans (fr10 j hj)
  have ag17 : ∀ j : Nat, j < b + 1 → a11 j = adr j := fun j hj => (hg11 j (by omega)).trans (ag6 j hj)
  refine g_eqlv (lv1 := [(1, .int 0), (0, .ref (a11 b))]) (by rw [hg11 b (by omega)]) ?_
  refine g_eqst (st1 := ([.ref (a11 (b + 2)), .int 0, .ref (a11 (b + 1))] : List Value)) (by rw [hg11 (b + 1) (by omega)]) ?_
  refine g_dup C rfl dX3_init_31 ?_
  refine g_ctor C (c_X5_init l D kc a11 c11 (b + 2) h15) hAO (cwI 0 C.2.2.2.2.1 gX3_init_X5_init rfl rfl rfl w4045515990 w3743140242 w2149222154 rfl ⟨by decide, by decide, by decide +kernel⟩ ⟨Nat.le_of_ble_eq_true rfl, Nat.le_of_ble_eq_true rfl⟩) (Nat.le_of_ble_eq_true rfl) (Nat.le_of_ble_eq_true rfl) (Nat.le_of_ble_eq_true rfl) dX3_init_32 (b + 21) (by omega) (fun a18 c18 hg18 hp18 C => ?_)
  obtain ⟨hx18, hc18⟩ := hp18
  have h19 : c18 (b + 1) = .inl (kc 3, 4, .inr (.inr (.inr (.inr (fun _ => none : Nat → Option Nat))))) := by rw [hc18 (b + 1) (by omega), h12]
  have hq20 : ∀ k, k < 0 → (fun _ => none : Nat → Option Nat) k = some (a18 (b + 2 + 19 * k)) := fun k hk => by rw [hq13 k hk, hg18 (b + 2 + 19 * k) (by omega)]
  have h21 : c18 b = .inr (3, [.ref (a18 (b + 1)), .int 0, .int 0]) := by rw [hc18 b (by omega), h14, hg18 (b + 1) (by omega)]
  have fr22 : ∀ j : Nat, j < b → c18 j = cell j := fun j hj => (hc18 j (by omega)).trans (fr16 j hj)
  have ag23 : ∀ j : Nat, j < b + 1 → a18 j = adr j := fun j hj => (hg18 j (by omega)).trans (ag17 j hj)
  refine g_eqlv (lv1 := [(1, .int 0), (0, .ref (a18 b))]) (by rw [hg18 b (by omega)]) ?_
  refine g_eqst (st1 := ([.ref (a18 (b + 2)), .int 0, .ref (a18 (b + 1))] : List Value)) (by rw [hg18 (b + 2) (by omega), hg18 (b + 1) (by omega)]) ?_
  refine g_aast C (b + 1) 3 (b + 2) 5 (by omega) (by omega) h19 rfl hx18.1 rfl (by unfold vp_in; decide +kernel) dX3_init_35 ?_
  refine g_cell (fun c24 ec24 => ?_)
  have h25 : c24 b = .inr (3, [.ref (a18 (b + 1)), .int 0, .int 0]) := by rw [(show c24 b = c18 b by rw [ec24, va_up_ne _ _ (by omega)]), h21]
  have h26 : StAt c24 a18 kc (b + 2) s00 := StAt.move hx18 (fun j h1 h2 => (show c24 j = c18 j by rw [ec24, va_up_ne _ _ (by omega)])) (fun _ _ _ => rfl)
  obtain ⟨g24, h24, hq24⟩ : RArr c24 a18 kc 3 (b + 1) 4 (0 + 1) (b + 2) 19 := by rw [ec24]; exact RArr.put hq20
  have fr27 : ∀ j : Nat, j < b → c24 j = cell j := fun j hj => ((show c24 j = c18 j by rw [ec24, va_up_ne _ _ (by omega)])).trans (fr22 j hj)
  refine g_iinc C 0 [(1, .int 1), (0, .ref (a18 b))] rfl (by decide) (by decide) rfl dX3_init_36 ?_
  refine g_goto C 14 rfl dX3_init_39 ?_
  refine g_iload_n C 0 rfl dX3_init_14 ?_
  refine g_aload_n C 1 rfl dX3_init_15 ?_
  refine g_get C b 3 0 (by omega) h25 rfl in3 (by decide) f11 (fun _ h9 => h9) rfl dX3_init_16 ?_
  refine g_alen C (b + 1) 3 (by omega) h24 rfl 4 rfl dX3_init_19 ?_
  refine g_icmp_ge C 42 rfl dX3_init_20 (fun h => absurd h (by decide)) (fun _ => ?_)
  refine g_aload_n C 1 rfl dX3_init_23 ?_
  refine g_get C b 3 0 (by omega) h25 rfl in3 (by decide) f11 (fun _ h9 => h9) rfl dX3_init_24 ?_
  refine g_iload_n C 0 rfl dX3_init_27 ?_
  refine g_new C 5 rfl in5 tyX5 tyX5_ok w918469279 w1850715547 w4045515990 [.null, .null, .null, .int 0, .int 0] (by intro j hj; revert j; decide +kernel) (Nat.le_of_ble_eq_true rfl) (Nat.le_of_ble_eq_true rfl) dX3_init_28 (b + 22) (by omega) (fun a28 hg28 C => ?_)
  refine g_cell (fun c28 ec28 => ?_)
  have hc28 : ∀ j : Nat, j < b + 21 → c28 j = c24 j := fun j hj => by rw [ec28, va_up_ne _ _ (by omega)]
  have h29 : c28 b = .inr (3, [.ref (a28 (b + 1)), .int 0, .int 0]) := by rw [hc28 b (by omega), h25, hg28 (b + 1) (by omega)]
  have h30 : StAt c28 a28 kc (b + 2) s00 := StAt.move h26 (fun j h1 h2 => hc28 j (by omega)) (fun j h1 h2 => hg28 j (by omega))
  have h31 : c28 (b + 1) = .inl (kc 3, 4, .inr (.inr (.inr (.inr g24)))) := by rw [hc28 (b + 1) (by omega), h24]
  have hq32 : ∀ k, k < 1 → g24 k = some (a28 (b + 2 + 19 * k)) := fun k hk => by rw [hq24 k hk, hg28 (b + 2 + 19 * k) (by omega)]
  have h33 : c28 (b + 21) = .inr (5, [.null, .null, .null, .int 0, .int 0]) := by rw [ec28]; exact va_up_self _ _ _
  have fr34 : ∀ j : Nat, j < b → c28 j = cell j := fun j hj => (hc28 j (by omega)).trans (fr27 j hj)
  have ag35 : ∀ j : Nat, j < b + 1 → a28 j = adr j := fun j hj => (hg28 j (by omega)).trans (ag23 j hj)
  refine g_eqlv (lv1 := [(1, .int 1), (0, .ref (a28 b))]) (by rw [hg28 b (by omega)]) ?_
  refine g_eqst (st1 := ([.ref (a28 (b + 21)), .int 1, .ref (a28 (b + 1))] : List Value)) (by rw [hg28 (b + 1) (by omega)]) ?_
  refine g_dup C rfl dX3_init_31 ?_
  refine g_ctor C (c_X5_init l D kc a28 c28 (b + 21) h33) hAO (cwI 0 C.2.2.2.2.1 gX3_init_X5_init rfl rfl rfl w4045515990 w3743140242 w2149222154 rfl ⟨by decide, by decide, by decide +kernel⟩ ⟨Nat.le_of_ble_eq_true rfl, Nat.le_of_ble_eq_true rfl⟩) (Nat.le_of_ble_eq_true rfl) (Nat.le_of_ble_eq_true rfl) (Nat.le_of_ble_eq_true rfl) dX3_init_32 (b + 40) (by omega) (fun a36 c36 hg36 hp36 C => ?_)
  obtain ⟨hx36, hc36⟩ := hp36
  have h37 : c36 b = .inr (3, [.ref (a36 (b + 1)), .int 0, .int 0]) := by rw [hc36 b (by omega), h29, hg36 (b + 1) (by omega)]
  have h38 : StAt c36 a36 kc (b + 2) s00 := StAt.move h30 (fun j h1 h2 => hc36 j (by omega)) (fun j h1 h2 => hg36 j (by omega))
  have h39 : c36 (b + 1) = .inl (kc 3, 4, .inr (.inr (.inr (.inr g24)))) := by rw [hc36 (b + 1) (by omega), h31]
  have hq40 : ∀ k, k < 1 → g24 k = some (a36 (b + 2 + 19 * k)) := fun k hk => by rw [hq32 k hk, hg36 (b + 2 + 19 * k) (by omega)]
  have fr41 : ∀ j : Nat, j < b → c36 j = cell j := fun j hj => (hc36 j (by omega)).trans (fr34 j hj)
  have ag42 : ∀ j : Nat, j < b + 1 → a36 j = adr j := fun j hj => (hg36 j (by omega)).trans (ag35 j hj)
  refine g_eqlv (lv1 := [(1, .int 1), (0, .ref (a36 b))]) (by rw [hg36 b (by omega)]) ?_
  refine g_eqst (st1 := ([.ref (a36 (b + 21)), .int 1, .ref (a36 (b + 1))] : List Value)) (by rw [hg36 (b + 21) (by omega), hg36 (b + 1) (by omega)]) ?_
  refine g_aast C (b + 1) 3 (b + 21) 5 (by omega) (by omega) h39 rfl hx36.1 rfl (by unfold vp_in; decide +kernel) dX3_init_35 ?_
  refine g_cell (fun c43 ec43 => ?_)
  have h44 : c43 b = .inr (3, [.ref (a36 (b + 1)), .int 0, .int 0]) := by rw [(show c43 b = c36 b by rw [ec43, va_up_ne _ _ (by omega)]), h37]
  have h45 : StAt c43 a36 kc (b + 2) s00 := StAt.move h38 (fun j h1 h2 => (show c43 j = c36 j by rw [ec43, va_up_ne _ _ (by omega)])) (fun _ _ _ => rfl)
  have h46 : StAt c43 a36 kc (b + 21) s00 := StAt.move hx36 (fun j h1 h2 => (show c43 j = c36 j by rw [ec43, va_up_ne _ _ (by omega)])) (fun _ _ _ => rfl)
  obtain ⟨g43, h43, hq43⟩ : RArr c43 a36 kc 3 (b + 1) 4 (1 + 1) (b + 2) 19 := by rw [ec43]; exact RArr.put hq40
  have fr47 : ∀ j : Nat, j < b → c43 j = cell j := fun j hj => ((show c43 j = c36 j by rw [ec43, va_up_ne _ _ (by omega)])).trans (fr41 j hj)
  refine g_iinc C 0 [(1, .int 2), (0, .ref (a36 b))] rfl (by decide) (by decide) rfl dX3_init_36 ?_
  refine g_goto C 14 rfl dX3_init_39 ?_
  refine g_iload_n C 0 rfl dX3_init_14 ?_
  refine g_aload_n C 1 rfl dX3_init_15 ?_
  refine g_get C b 3 0 (by omega) h44 rfl in3 (by decide) f11 (fun _ h9 => h9) rfl dX3_init_16 ?_
  refine g_alen C (b + 1) 3 (by omega) h43 rfl 4 rfl dX3_init_19 ?_
  refine g_icmp_ge C 42 rfl dX3_init_20 (fun h => absurd h (by decide)) (fun _ => ?_)
  refine g_aload_n C 1 rfl dX3_init_23 ?_
  refine g_get C b 3 0 (by omega) h44 rfl in3 (by decide) f11 (fun _ h9 => h9) rfl dX3_init_24 ?_
  refine g_iload_n C 0 rfl dX3_init_27 ?_
  refine g_new C 5 rfl in5 tyX5 tyX5_ok w918469279 w1850715547 w4045515990 [.null, .null, .null, .int 0, .int 0] (by intro j hj; revert j; decide +kernel) (Nat.le_of_ble_eq_true rfl) (Nat.le_of_ble_eq_true rfl) dX3_init_28 (b + 41) (by omega) (fun a48 hg48 C => ?_)
  refine g_cell (fun c48 ec48 => ?_)
  have hc48 : ∀ j : Nat, j < b + 40 → c48 j = c43 j := fun j hj => by rw [ec48, va_up_ne _ _ (by omega)]
  have h49 : c48 b = .inr (3, [.ref (a48 (b + 1)), .int 0, .int 0]) := by rw [hc48 b (by omega), h44, hg48 (b + 1) (by omega)]
  have h50 : StAt c48 a48 kc (b + 2) s00 := StAt.move h45 (fun j h1 h2 => hc48 j (by omega)) (fun j h1 h2 => hg48 j (by omega))
  have h51 : StAt c48 a48 kc (b + 21) s00 := StAt.move h46 (fun j h1 h2 => hc48 j (by omega)) (fun j h1 h2 => hg48 j (by omega))
  have h52 : c48 (b + 1) = .inl (kc 3, 4, .inr (.inr (.inr (.inr g43)))) := by rw [hc48 (b + 1) (by omega), h43]
  have hq53 : ∀ k, k < 2 → g43 k = some (a48 (b + 2 + 19 * k)) := fun k hk => by rw [hq43 k hk, hg48 (b + 2 + 19 * k) (by omega)]
  have h54 : c48 (b + 40) = .inr (5, [.null, .null, .null, .int 0, .int 0]) := by rw [ec48]; exact va_up_self _ _ _
  have fr55 : ∀ j : Nat, j < b → c48 j = cell j := fun j hj => (hc48 j (by omega)).trans (fr47 j hj)
  have ag56 : ∀ j : Nat, j < b + 1 → a48 j = adr j := fun j hj => (hg48 j (by omega)).trans (ag42 j hj)
  refine g_eqlv (lv1 := [(1, .int 2), (0, .ref (a48 b))]) (by rw [hg48 b (by omega)]) ?_
  refine g_eqst (st1 := ([.ref (a48 (b + 40)), .int 2, .ref (a48 (b + 1))] : List Value)) (by rw [hg48 (b + 1) (by omega)]) ?_
  refine g_dup C rfl dX3_init_31 ?_
  refine g_ctor C (c_X5_init l D kc a48 c48 (b + 40) h54) hAO (cwI 0 C.2.2.2.2.1 gX3_init_X5_init rfl rfl rfl w4045515990 w3743140242 w2149222154 rfl ⟨by decide, by decide, by decide +kernel⟩ ⟨Nat.le_of_ble_eq_true rfl, Nat.le_of_ble_eq_true rfl⟩) (Nat.le_of_ble_eq_true rfl) (Nat.le_of_ble_eq_true rfl) (Nat.le_of_ble_eq_true rfl) dX3_init_32 (b + 59) (by omega) (fun a57 c57 hg57 hp57 C => ?_)
  obtain ⟨hx57, hc57⟩ := hp57
  have h58 : c57 b = .inr (3, [.ref (a57 (b + 1)), .int 0, .int 0]) := by rw [hc57 b (by omega), h49, hg57 (b + 1) (by omega)]
  have h59 : StAt c57 a57 kc (b + 2) s00 := StAt.move h50 (fun j h1 h2 => hc57 j (by omega)) (fun j h1 h2 => hg57 j (by omega))
  have h60 : StAt c57 a57 kc (b + 21) s00 := StAt.move h51 (fun j h1 h2 => hc57 j (by omega)) (fun j h1 h2 => hg57 j (by omega))
  have h61 : c57 (b + 1) = .inl (kc 3, 4, .inr (.inr (.inr (.inr g43)))) := by rw [hc57 (b + 1) (by omega), h52]
  have hq62 : ∀ k, k < 2 → g43 k = some (a57 (b + 2 + 19 * k)) := fun k hk => by rw [hq53 k hk, hg57 (b + 2 + 19 * k) (by omega)]
  have fr63 : ∀ j : Nat, j < b → c57 j = cell j := fun j hj => (hc57 j (by omega)).trans (fr55 j hj)
  have ag64 : ∀ j : Nat, j < b + 1 → a57 j = adr j := fun j hj => (hg57 j (by omega)).trans (ag56 j hj)
  refine g_eqlv (lv1 := [(1, .int 2), (0, .ref (a57 b))]) (by rw [hg57 b (by omega)]) ?_
  refine g_eqst (st1 := ([.ref (a57 (b + 40)), .int 2, .ref (a57 (b + 1))] : List Value)) (by rw [hg57 (b + 40) (by omega), hg57 (b + 1) (by omega)]) ?_
  refine g_aast C (b + 1) 3 (b + 40) 5 (by omega) (by omega) h61 rfl hx57.1 rfl (by unfold vp_in; decide +kernel) dX3_init_35 ?_
  refine g_cell (fun c65 ec65 => ?_)
  have h66 : c65 b = .inr (3, [.ref (a57 (b + 1)), .int 0, .int 0]) := by rw [(show c65 b = c57 b by rw [ec65, va_up_ne _ _ (by omega)]), h58]
  have h67 : StAt c65 a57 kc (b + 2) s00 := StAt.move h59 (fun j h1 h2 => (show c65 j = c57 j by rw [ec65, va_up_ne _ _ (by omega)])) (fun _ _ _ => rfl)
  have h68 : StAt c65 a57 kc (b + 21) s00 := StAt.move h60 (fun j h1 h2 => (show c65 j = c57 j by rw [ec65, va_up_ne _ _ (by omega)])) (fun _ _ _ => rfl)
  have h69 : StAt c65 a57 kc (b + 40) s00 := StAt.move hx57 (fun j h1 h2 => (show c65 j = c57 j by rw [ec65, va_up_ne _ _ (by omega)])) (fun _ _ _ => rfl)
  obtain ⟨g65, h65, hq65⟩ : RArr c65 a57 kc 3 (b + 1) 4 (2 + 1) (b + 2) 19 := by rw [ec65]; exact RArr.put hq62
  have fr70 : ∀ j : Nat, j < b → c65 j = cell j := fun j hj => ((show c65 j = c57 j by rw [ec65, va_up_ne _ _ (by omega)])).trans (fr63 j hj)
  refine g_iinc C 0 [(1, .int 3), (0, .ref (a57 b))] rfl (by decide) (by decide) rfl dX3_init_36 ?_
  refine g_goto C 14 rfl dX3_init_39 ?_
  refine g_iload_n C 0 rfl dX3_init_14 ?_
  refine g_aload_n C 1 rfl dX3_init_15 ?_
  refine g_get C b 3 0 (by omega) h66 rfl in3 (by decide) f11 (fun _ h9 => h9) rfl dX3_init_16 ?_
  refine g_alen C (b + 1) 3 (by omega) h65 rfl 4 rfl dX3_init_19 ?_
  refine g_icmp_ge C 42 rfl dX3_init_20 (fun h => absurd h (by decide)) (fun _ => ?_)
  refine g_aload_n C 1 rfl dX3_init_23 ?_
  refine g_get C b 3 0 (by omega) h66 rfl in3 (by decide) f11 (fun _ h9 => h9) rfl dX3_init_24 ?_
  refine g_iload_n C 0 rfl dX3_init_27 ?_
  refine g_new C 5 rfl in5 tyX5 tyX5_ok w918469279 w1850715547 w4045515990 [.null, .null, .null, .int 0, .int 0] (by intro j hj; revert j; decide +kernel) (Nat.le_of_ble_eq_true rfl) (Nat.le_of_ble_eq_true rfl) dX3_init_28 (b + 60) (by omega) (fun a71 hg71 C => ?_)
  refine g_cell (fun c71 ec71 => ?_)
  have hc71 : ∀ j : Nat, j < b + 59 → c71 j = c65 j := fun j hj => by rw [ec71, va_up_ne _ _ (by omega)]
  have h72 : c71 b = .inr (3, [.ref (a71 (b + 1)), .int 0, .int 0]) := by rw [hc71 b (by omega), h66, hg71 (b + 1) (by omega)]
  have h73 : StAt c71 a71 kc (b + 2) s00 := StAt.move h67 (fun j h1 h2 => hc71 j (by omega)) (fun j h1 h2 => hg71 j (by omega))
  have h74 : StAt c71 a71 kc (b + 21) s00 := StAt.move h68 (fun j h1 h2 => hc71 j (by omega)) (fun j h1 h2 => hg71 j (by omega))
  have h75 : StAt c71 a71 kc (b + 40) s00 := StAt.move h69 (fun j h1 h2 => hc71 j (by omega)) (fun j h1 h2 => hg71 j (by omega))
  have h76 : c71 (b + 1) = .inl (kc 3, 4, .inr (.inr (.inr (.inr g65)))) := by rw [hc71 (b + 1) (by omega), h65]
  have hq77 : ∀ k, k < 3 → g65 k = some (a71 (b + 2 + 19 * k)) := fun k hk => by rw [hq65 k hk, hg71 (b + 2 + 19 * k) (by omega)]
  have h78 : c71 (b + 59) = .inr (5, [.null, .null, .null, .int 0, .int 0]) := by rw [ec71]; exact va_up_self _ _ _
  have fr79 : ∀ j : Nat, j < b → c71 j = cell j := fun j hj => (hc71 j (by omega)).trans (fr70 j hj)
  have ag80 : ∀ j : Nat, j < b + 1 → a71 j = adr j := fun j hj => (hg71 j (by omega)).trans (ag64 j hj)
  refine g_eqlv (lv1 := [(1, .int 3), (0, .ref (a71 b))]) (by rw [hg71 b (by omega)]) ?_
  refine g_eqst (st1 := ([.ref (a71 (b + 59)), .int 3, .ref (a71 (b + 1))] : List Value)) (by rw [hg71 (b + 1) (by omega)]) ?_
  refine g_dup C rfl dX3_init_31 ?_
  refine g_ctor C (c_X5_init l D kc a71 c71 (b + 59) h78) hAO (cwI 0 C.2.2.2.2.1 gX3_init_X5_init rfl rfl rfl w4045515990 w3743140242 w2149222154 rfl ⟨by decide, by decide, by decide +kernel⟩ ⟨Nat.le_of_ble_eq_true rfl, Nat.le_of_ble_eq_true rfl⟩) (Nat.le_of_ble_eq_true rfl) (Nat.le_of_ble_eq_true rfl) (Nat.le_of_ble_eq_true rfl) dX3_init_32 (b + 78) (by omega) (fun a81 c81 hg81 hp81 C => ?_)
  obtain ⟨hx81, hc81⟩ := hp81
  have h82 : c81 b = .inr (3, [.ref (a81 (b + 1)), .int 0, .int 0]) := by rw [hc81 b (by omega), h72, hg81 (b + 1) (by omega)]
  have h83 : StAt c81 a81 kc (b + 2) s00 := StAt.move h73 (fun j h1 h2 => hc81 j (by omega)) (fun j h1 h2 => hg81 j (by omega))
  have h84 : StAt c81 a81 kc (b + 21) s00 := StAt.move h74 (fun j h1 h2 => hc81 j (by omega)) (fun j h1 h2 => hg81 j (by omega))
  have h85 : StAt c81 a81 kc (b + 40) s00 := StAt.move h75 (fun j h1 h2 => hc81 j (by omega)) (fun j h1 h2 => hg81 j (by omega))
  have h86 : c81 (b + 1) = .inl (kc 3, 4, .inr (.inr (.inr (.inr g65)))) := by rw [hc81 (b + 1) (by omega), h76]
  have hq87 : ∀ k, k < 3 → g65 k = some (a81 (b + 2 + 19 * k)) := fun k hk => by rw [hq77 k hk, hg81 (b + 2 + 19 * k) (by omega)]
  have fr88 : ∀ j : Nat, j < b → c81 j = cell j := fun j hj => (hc81 j (by omega)).trans (fr79 j hj)
  have ag89 : ∀ j : Nat, j < b + 1 → a81 j = adr j := fun j hj => (hg81 j (by omega)).trans (ag80 j hj)
  refine g_eqlv (lv1 := [(1, .int 3), (0, .ref (a81 b))]) (by rw [hg81 b (by omega)]) ?_
  refine g_eqst (st1 := ([.ref (a81 (b + 59)), .int 3, .ref (a81 (b + 1))] : List Value)) (by rw [hg81 (b + 59) (by omega), hg81 (b + 1) (by omega)]) ?_
  refine g_aast C (b + 1) 3 (b + 59) 5 (by omega) (by omega) h86 rfl hx81.1 rfl (by unfold vp_in; decide +kernel) dX3_init_35 ?_
  refine g_cell (fun c90 ec90 => ?_)
  have h91 : c90 b = .inr (3, [.ref (a81 (b + 1)), .int 0, .int 0]) := by rw [(show c90 b = c81 b by rw [ec90, va_up_ne _ _ (by omega)]), h82]
  have h92 : StAt c90 a81 kc (b + 2) s00 := StAt.move h83 (fun j h1 h2 => (show c90 j = c81 j by rw [ec90, va_up_ne _ _ (by omega)])) (fun _ _ _ => rfl)
  have h93 : StAt c90 a81 kc (b + 21) s00 := StAt.move h84 (fun j h1 h2 => (show c90 j = c81 j by rw [ec90, va_up_ne _ _ (by omega)])) (fun _ _ _ => rfl)
  have h94 : StAt c90 a81 kc (b + 40) s00 := StAt.move h85 (fun j h1 h2 => (show c90 j = c81 j by rw [ec90, va_up_ne _ _ (by omega)])) (fun _ _ _ => rfl)
  have h95 : StAt c90 a81 kc (b + 59) s00 := StAt.move hx81 (fun j h1 h2 => (show c90 j = c81 j by rw [ec90, va_up_ne _ _ (by omega)])) (fun _ _ _ => rfl)
  obtain ⟨g90, h90, hq90⟩ : RArr c90 a81 kc 3 (b + 1) 4 (3 + 1) (b + 2) 19 := by rw [ec90]; exact RArr.put hq87
  have fr96 : ∀ j : Nat, j < b → c90 j = cell j := fun j hj => ((show c90 j = c81 j by rw [ec90, va_up_ne _ _ (by omega)])).trans (fr88 j hj)
  refine g_iinc C 0 [(1, .int 4), (0, .ref (a81 b))] rfl (by decide) (by decide) rfl dX3_init_36 ?_
  refine g_goto C 14 rfl dX3_init_39 ?_
  refine g_iload_n C 0 rfl dX3_init_14 ?_
  refine g_aload_n C 1 rfl dX3_init_15 ?_
  refine g_get C b 3 0 (by omega) h91 rfl in3 (by decide) f11 (fun _ h9 => h9) rfl dX3_init_16 ?_
  refine g_alen C (b + 1) 3 (by omega) h90 rfl 4 rfl dX3_init_19 ?_
  refine g_icmp_ge C 42 rfl dX3_init_20 (fun _ => ?_) (fun h => absurd (by decide) h)
  refine g_kret (by omega) C hr hlk dX3_init_42 ag89 ?_
  refine ⟨⟨h91, ⟨_, h90, hq90⟩, ?_, by omega, by omega⟩, fr96⟩
  intro k hk
  match k, hk with
  | 0, _ => exact h92
  | 1, _ => exact h93
  | 2, _ => exact h94
  | 3, _ => exact h95
