def e00 : Nat → Int32 := upd (upd (upd (upd (upd (fun _ => 0) 0 6) 1 3) 2 1) 3 5) 4 2
def s00 : SD := (0, 0, 0, fun _ => 0, fun _ => 0, fun _ => 0, e00, fun _ => 0, fun _ => 0, fun _ _ => 0)
set_option maxRecDepth 100000 in
set_option maxHeartbeats 4000000 in
theorem c_X5_init (l : Launch) (D : va_G) (kc : Nat → ClassId) (adr : Nat → Nat) (cell : Nat → va_E) (b : Nat) (hb : cell b = .inr (5, [.null, .null, .null, .int 0, .int 0])) : MK l yX5_init wsX5_init ({ frames := 2, cells := 18, slots := 183, locals := 40 }) 18 18 183 D kc (b + 1) adr cell [.ref (adr b)] (fun (a1 : Nat → Nat) (c1 : Nat → va_E) => StAt c1 a1 kc b s00 ∧ ∀ j : Nat, j < b → c1 j = cell j) := by
  refine met_k (cc := cX5_init) (maxL := 2) (ret := none) (by decide) rfl (Nat.le_of_ble_eq_true rfl) (lv := [(0, .ref (adr b))]) rfl ?_
  intro Pg Ev Sv Mi args below Me Cd Ar C hr hlk hnm hAO
  have in0 : ∀ w ∈ u_ws RX0 TX0 3, w ∈ wsX5_init := by decide +kernel
  have in4 : ∀ w ∈ u_ws RX4 TX4 4, w ∈ wsX5_init := by decide +kernel
  have in5 : ∀ w ∈ u_ws RX5 TX5 5, w ∈ wsX5_init := by decide +kernel
  have w2174219173 := C.2.2.2.2.1 (.methodLink RX5 3 objectInit) (by decide +kernel)
  have w5213295 := C.2.2.2.2.1 (.instanceMethod objectInit) (by decide +kernel)
  have w1100371547 := C.2.2.2.2.1 (.code objectInit ⟨#[0xb1]⟩ 1 none) (by decide +kernel)
  have w577355571 := C.2.2.2.2.1 (.classLink RX5 9 RX4) (by decide +kernel)
  have w411760442 := C.2.2.2.2.1 (.instantiable RX4 4) (by decide +kernel)
  have w2250677312 := C.2.2.2.2.1 (.initialized RX4) (by decide +kernel)
  have w1262900399 := C.2.2.2.2.1 (.instanceMethod yX4_init) (by decide +kernel)
  have f12 := C.2.2.2.2.1 (.fieldLink RX5 12 "WordAnchors$State" "row" "LWordAnchors$Row;") (by decide +kernel)
  have w4060299468 := C.2.2.2.2.1 (.classLink RX5 18 RX0) (by decide +kernel)
  have f20 := C.2.2.2.2.1 (.fieldLink RX5 20 "WordAnchors$State" "anchors" "[LWordAnchors$Anchor;") (by decide +kernel)
  have w778274299 := C.2.2.2.2.1 (.arrayClass .int) (by decide +kernel)
  have f24 := C.2.2.2.2.1 (.fieldLink RX5 24 "WordAnchors$State" "settings" "[I") (by decide +kernel)
  have w2179451461 := C.2.2.2.2.1 (.instantiable RX0 3) (by decide +kernel)
  have w2169198681 := C.2.2.2.2.1 (.initialized RX0) (by decide +kernel)
  have w3503756985 := C.2.2.2.2.1 (.instanceMethod yX0_init) (by decide +kernel)
  refine g_aload_n C 0 rfl dX5_init_0 ?_
  refine g_obj C w2174219173 w5213295 w1100371547 dX5_init_1 (Nat.le_of_ble_eq_true rfl) (Nat.le_of_ble_eq_true rfl) ?_
  refine g_aload_n C 0 rfl dX5_init_4 ?_
  refine g_new C 4 rfl in4 tyX4 tyX4_ok w577355571 w411760442 w2250677312 [.null, .null, .null, .int 0] (by intro j hj; revert j; decide +kernel) (Nat.le_of_ble_eq_true rfl) (Nat.le_of_ble_eq_true rfl) dX5_init_5 (b + 2) (by omega) (fun a1 hg1 C => ?_)
  refine g_cell (fun c1 ec1 => ?_)
  have hc1 : ∀ j : Nat, j < b + 1 → c1 j = cell j := fun j hj => by rw [ec1, va_up_ne _ _ (by omega)]
  have h2 : c1 b = .inr (5, [.null, .null, .null, .int 0, .int 0]) := by rw [hc1 b (by omega), hb]
  have h3 : c1 (b + 1) = .inr (4, [.null, .null, .null, .int 0]) := by rw [ec1]; exact va_up_self _ _ _
  have fr4 : ∀ j : Nat, j < b → c1 j = cell j := fun j hj => hc1 j (by omega)
  have ag5 : ∀ j : Nat, j < b + 1 → a1 j = adr j := fun j hj => hg1 j (by omega)
  refine g_eqlv (lv1 := [(0, .ref (a1 b))]) (by rw [hg1 b (by omega)]) ?_
  refine g_eqst (st1 := ([.ref (a1 (b + 1)), .ref (a1 b)] : List Value)) (by rw [hg1 b (by omega)]) ?_
  refine g_dup C rfl dX5_init_8 ?_
  refine g_ctorN C (c_X4_init l D kc a1 c1 (b + 1) h3) hAO ⟨va_cnB 0 C.2.2.2.2.1 gX5_init_X4_init_n11 rfl rfl rfl (hAO.2.2 (RX5, 11, yX4_init) (by decide +kernel)) w2250677312 ⟨by decide, by decide, by decide +kernel⟩ ⟨Nat.le_of_ble_eq_true rfl, Nat.le_of_ble_eq_true rfl⟩, rfl, w1262900399⟩ (Nat.le_of_ble_eq_true rfl) (Nat.le_of_ble_eq_true rfl) (Nat.le_of_ble_eq_true rfl) dX5_init_9 (b + 5) (by omega) (fun a6 c6 hg6 hp6 C => ?_)
  obtain ⟨hx6, hc6⟩ := hp6
  have h7 : c6 b = .inr (5, [.null, .null, .null, .int 0, .int 0]) := by rw [hc6 b (by omega), h2]
  have fr8 : ∀ j : Nat, j < b → c6 j = cell j := fun j hj => (hc6 j (by omega)).trans (fr4 j hj)
  have ag9 : ∀ j : Nat, j < b + 1 → a6 j = adr j := fun j hj => (hg6 j (by omega)).trans (ag5 j hj)
  refine g_eqlv (lv1 := [(0, .ref (a6 b))]) (by rw [hg6 b (by omega)]) ?_
  refine g_eqst (st1 := ([.ref (a6 (b + 1)), .ref (a6 b)] : List Value)) (by rw [hg6 (b + 1) (by omega), hg6 b (by omega)]) ?_
  refine g_putF C b 5 0 (by omega) h7 rfl in5 tyX5 tyX5_ok nmX5 (by decide) f12 (fun _ h9 => h9) rfl hnm rfl (tyX5_ok 0 (by decide)) rfl rfl (Nat.le_of_ble_eq_true rfl) dX5_init_12 ?_
  refine g_cell (fun c10 ec10 => ?_)
  have h11 : RowAt c10 a6 kc (b + 1) (fun _ => 0) (fun _ => 0) (fun _ => 0) 0 := RowAt.move hx6 (fun j h1 h2 => (show c10 j = c6 j by rw [ec10, va_up_ne _ _ (by omega)])) (fun _ _ _ => rfl)
  have h12 : c10 b = .inr (5, [.ref (a6 (b + 1)), .null, .null, .int 0, .int 0]) := by rw [ec10]; exact va_up_self _ _ _
  have fr13 : ∀ j : Nat, j < b → c10 j = cell j := fun j hj => ((show c10 j = c6 j by rw [ec10, va_up_ne _ _ (by omega)])).trans (fr8 j hj)
  refine g_aload_n C 0 rfl dX5_init_15 ?_
  refine g_bipush C 6 (by decide) dX5_init_16 ?_
  refine g_newq (N' := 6) C 2 rfl w4060299468 hAO.1 (by decide) (by decide) (by decide) (Nat.le_of_ble_eq_true rfl) (Nat.le_of_ble_eq_true rfl) dX5_init_18 (b + 6) (by omega) (fun a14 hg14 C => ?_)
  refine g_cell (fun c14 ec14 => ?_)
  have hc14 : ∀ j : Nat, j < b + 5 → c14 j = c10 j := fun j hj => by rw [ec14, va_up_ne _ _ (by omega)]
  have h15 : RowAt c14 a14 kc (b + 1) (fun _ => 0) (fun _ => 0) (fun _ => 0) 0 := RowAt.move h11 (fun j h1 h2 => hc14 j (by omega)) (fun j h1 h2 => hg14 j (by omega))
  have h16 : c14 b = .inr (5, [.ref (a14 (b + 1)), .null, .null, .int 0, .int 0]) := by rw [hc14 b (by omega), h12, hg14 (b + 1) (by omega)]
  have h17 : c14 (b + 5) = .inl (kc 2, 6, .inr (.inr (.inr (.inr (fun _ => none : Nat → Option Nat))))) := by rw [ec14]; exact va_up_self _ _ _
  have hq18 : ∀ k, k < 0 → (fun _ => none : Nat → Option Nat) k = some (a14 (b + 7 + 2 * k)) := fun k hk => absurd hk (by omega)
  have fr19 : ∀ j : Nat, j < b → c14 j = cell j := fun j hj => (hc14 j (by omega)).trans (fr13 j hj)
  have ag20 : ∀ j : Nat, j < b + 1 → a14 j = adr j := fun j hj => (hg14 j (by omega)).trans (ag9 j hj)
  refine g_eqlv (lv1 := [(0, .ref (a14 b))]) (by rw [hg14 b (by omega)]) ?_
  refine g_eqst (st1 := ([.ref (a14 (b + 5)), .ref (a14 b)] : List Value)) (by rw [hg14 b (by omega)]) ?_
  refine g_putF C b 5 1 (by omega) h16 rfl in5 tyX5 tyX5_ok nmX5 (by decide) f20 (fun _ h9 => h9) rfl hnm rfl (tyX5_ok 1 (by decide)) rfl rfl (Nat.le_of_ble_eq_true rfl) dX5_init_21 ?_
  refine g_cell (fun c21 ec21 => ?_)
  have h22 : RowAt c21 a14 kc (b + 1) (fun _ => 0) (fun _ => 0) (fun _ => 0) 0 := RowAt.move h15 (fun j h1 h2 => (show c21 j = c14 j by rw [ec21, va_up_ne _ _ (by omega)])) (fun _ _ _ => rfl)
  have h23 : c21 (b + 5) = .inl (kc 2, 6, .inr (.inr (.inr (.inr (fun _ => none : Nat → Option Nat))))) := by rw [(show c21 (b + 5) = c14 (b + 5) by rw [ec21, va_up_ne _ _ (by omega)]), h17]
  have h24 : c21 b = .inr (5, [.ref (a14 (b + 1)), .ref (a14 (b + 5)), .null, .int 0, .int 0]) := by rw [ec21]; exact va_up_self _ _ _
  have fr25 : ∀ j : Nat, j < b → c21 j = cell j := fun j hj => ((show c21 j = c14 j by rw [ec21, va_up_ne _ _ (by omega)])).trans (fr19 j hj)
  refine g_aload_n C 0 rfl dX5_init_24 ?_
  refine g_iconst C 5 (by decide) dX5_init_25 ?_
  refine g_newa C 0 rfl rfl w778274299 (5, .inl (fun _ => 0)) (fun _ => rfl) (by decide) (by decide) (by decide) (Nat.le_of_ble_eq_true rfl) (Nat.le_of_ble_eq_true rfl) dX5_init_26 (b + 7) (by omega) (fun a26 hg26 C => ?_)
  refine g_cell (fun c26 ec26 => ?_)
  have hc26 : ∀ j : Nat, j < b + 6 → c26 j = c21 j := fun j hj => by rw [ec26, va_up_ne _ _ (by omega)]
  have h27 : RowAt c26 a26 kc (b + 1) (fun _ => 0) (fun _ => 0) (fun _ => 0) 0 := RowAt.move h22 (fun j h1 h2 => hc26 j (by omega)) (fun j h1 h2 => hg26 j (by omega))
  have h28 : c26 (b + 5) = .inl (kc 2, 6, .inr (.inr (.inr (.inr (fun _ => none : Nat → Option Nat))))) := by rw [hc26 (b + 5) (by omega), h23]
  have hq29 : ∀ k, k < 0 → (fun _ => none : Nat → Option Nat) k = some (a26 (b + 7 + 2 * k)) := fun k hk => by rw [hq18 k hk, hg26 (b + 7 + 2 * k) (by omega)]
  have h30 : c26 b = .inr (5, [.ref (a26 (b + 1)), .ref (a26 (b + 5)), .null, .int 0, .int 0]) := by rw [hc26 b (by omega), h24, hg26 (b + 1) (by omega), hg26 (b + 5) (by omega)]
  have h31 : c26 (b + 6) = .inl (kc 0, 5, .inl (fun _ => 0)) := by rw [ec26]; exact va_up_self _ _ _
  have fr32 : ∀ j : Nat, j < b → c26 j = cell j := fun j hj => (hc26 j (by omega)).trans (fr25 j hj)
  have ag33 : ∀ j : Nat, j < b + 1 → a26 j = adr j := fun j hj => (hg26 j (by omega)).trans (ag20 j hj)
  refine g_eqlv (lv1 := [(0, .ref (a26 b))]) (by rw [hg26 b (by omega)]) ?_
  refine g_eqst (st1 := ([.ref (a26 (b + 6)), .ref (a26 b)] : List Value)) (by rw [hg26 b (by omega)]) ?_
  refine g_dup C rfl dX5_init_28 ?_
  refine g_iconst C 0 (by decide) dX5_init_29 ?_
  refine g_bipush C 6 (by decide) dX5_init_30 ?_
  refine g_iast C (b + 6) (by omega) h31 (by unfold vp_in; decide +kernel) dX5_init_32 ?_
  refine g_cell (fun c34 ec34 => ?_)
  have h35 : RowAt c34 a26 kc (b + 1) (fun _ => 0) (fun _ => 0) (fun _ => 0) 0 := RowAt.move h27 (fun j h1 h2 => (show c34 j = c26 j by rw [ec34, va_up_ne _ _ (by omega)])) (fun _ _ _ => rfl)
  have h36 : c34 (b + 5) = .inl (kc 2, 6, .inr (.inr (.inr (.inr (fun _ => none : Nat → Option Nat))))) := by rw [(show c34 (b + 5) = c26 (b + 5) by rw [ec34, va_up_ne _ _ (by omega)]), h28]
  have h37 : c34 b = .inr (5, [.ref (a26 (b + 1)), .ref (a26 (b + 5)), .null, .int 0, .int 0]) := by rw [(show c34 b = c26 b by rw [ec34, va_up_ne _ _ (by omega)]), h30]
  have h38 : c34 (b + 6) = .inl (kc 0, 5, .inl (upd (fun _ => 0) (0 : Int32).toNatClampNeg 6)) := by rw [ec34]; exact va_up_self _ _ _
  have fr39 : ∀ j : Nat, j < b → c34 j = cell j := fun j hj => ((show c34 j = c26 j by rw [ec34, va_up_ne _ _ (by omega)])).trans (fr32 j hj)
  refine g_dup C rfl dX5_init_33 ?_
  refine g_iconst C 1 (by decide) dX5_init_34 ?_
  refine g_iconst C 3 (by decide) dX5_init_35 ?_
  refine g_iast C (b + 6) (by omega) h38 (by unfold vp_in; decide +kernel) dX5_init_36 ?_
  refine g_cell (fun c40 ec40 => ?_)
  have h41 : RowAt c40 a26 kc (b + 1) (fun _ => 0) (fun _ => 0) (fun _ => 0) 0 := RowAt.move h35 (fun j h1 h2 => (show c40 j = c34 j by rw [ec40, va_up_ne _ _ (by omega)])) (fun _ _ _ => rfl)
  have h42 : c40 (b + 5) = .inl (kc 2, 6, .inr (.inr (.inr (.inr (fun _ => none : Nat → Option Nat))))) := by rw [(show c40 (b + 5) = c34 (b + 5) by rw [ec40, va_up_ne _ _ (by omega)]), h36]
  have h43 : c40 b = .inr (5, [.ref (a26 (b + 1)), .ref (a26 (b + 5)), .null, .int 0, .int 0]) := by rw [(show c40 b = c34 b by rw [ec40, va_up_ne _ _ (by omega)]), h37]
  have h44 : c40 (b + 6) = .inl (kc 0, 5, .inl (upd (upd (fun _ => 0) (0 : Int32).toNatClampNeg 6) (1 : Int32).toNatClampNeg 3)) := by rw [ec40]; exact va_up_self _ _ _
  have fr45 : ∀ j : Nat, j < b → c40 j = cell j := fun j hj => ((show c40 j = c34 j by rw [ec40, va_up_ne _ _ (by omega)])).trans (fr39 j hj)
  refine g_dup C rfl dX5_init_37 ?_
  refine g_iconst C 2 (by decide) dX5_init_38 ?_
  refine g_iconst C 1 (by decide) dX5_init_39 ?_
  refine g_iast C (b + 6) (by omega) h44 (by unfold vp_in; decide +kernel) dX5_init_40 ?_
  refine g_cell (fun c46 ec46 => ?_)
  have h47 : RowAt c46 a26 kc (b + 1) (fun _ => 0) (fun _ => 0) (fun _ => 0) 0 := RowAt.move h41 (fun j h1 h2 => (show c46 j = c40 j by rw [ec46, va_up_ne _ _ (by omega)])) (fun _ _ _ => rfl)
  have h48 : c46 (b + 5) = .inl (kc 2, 6, .inr (.inr (.inr (.inr (fun _ => none : Nat → Option Nat))))) := by rw [(show c46 (b + 5) = c40 (b + 5) by rw [ec46, va_up_ne _ _ (by omega)]), h42]
  have h49 : c46 b = .inr (5, [.ref (a26 (b + 1)), .ref (a26 (b + 5)), .null, .int 0, .int 0]) := by rw [(show c46 b = c40 b by rw [ec46, va_up_ne _ _ (by omega)]), h43]
  have h50 : c46 (b + 6) = .inl (kc 0, 5, .inl (upd (upd (upd (fun _ => 0) (0 : Int32).toNatClampNeg 6) (1 : Int32).toNatClampNeg 3) (2 : Int32).toNatClampNeg 1)) := by rw [ec46]; exact va_up_self _ _ _
  have fr51 : ∀ j : Nat, j < b → c46 j = cell j := fun j hj => ((show c46 j = c40 j by rw [ec46, va_up_ne _ _ (by omega)])).trans (fr45 j hj)
  refine g_dup C rfl dX5_init_41 ?_
  refine g_iconst C 3 (by decide) dX5_init_42 ?_
  refine g_iconst C 5 (by decide) dX5_init_43 ?_
  refine g_iast C (b + 6) (by omega) h50 (by unfold vp_in; decide +kernel) dX5_init_44 ?_
  refine g_cell (fun c52 ec52 => ?_)
  have h53 : RowAt c52 a26 kc (b + 1) (fun _ => 0) (fun _ => 0) (fun _ => 0) 0 := RowAt.move h47 (fun j h1 h2 => (show c52 j = c46 j by rw [ec52, va_up_ne _ _ (by omega)])) (fun _ _ _ => rfl)
  have h54 : c52 (b + 5) = .inl (kc 2, 6, .inr (.inr (.inr (.inr (fun _ => none : Nat → Option Nat))))) := by rw [(show c52 (b + 5) = c46 (b + 5) by rw [ec52, va_up_ne _ _ (by omega)]), h48]
  have h55 : c52 b = .inr (5, [.ref (a26 (b + 1)), .ref (a26 (b + 5)), .null, .int 0, .int 0]) := by rw [(show c52 b = c46 b by rw [ec52, va_up_ne _ _ (by omega)]), h49]
  have h56 : c52 (b + 6) = .inl (kc 0, 5, .inl (upd (upd (upd (upd (fun _ => 0) (0 : Int32).toNatClampNeg 6) (1 : Int32).toNatClampNeg 3) (2 : Int32).toNatClampNeg 1) (3 : Int32).toNatClampNeg 5)) := by rw [ec52]; exact va_up_self _ _ _
  have fr57 : ∀ j : Nat, j < b → c52 j = cell j := fun j hj => ((show c52 j = c46 j by rw [ec52, va_up_ne _ _ (by omega)])).trans (fr51 j hj)
  refine g_dup C rfl dX5_init_45 ?_
  refine g_iconst C 4 (by decide) dX5_init_46 ?_
  refine g_iconst C 2 (by decide) dX5_init_47 ?_
  refine g_iast C (b + 6) (by omega) h56 (by unfold vp_in; decide +kernel) dX5_init_48 ?_
  refine g_cell (fun c58 ec58 => ?_)
  have h59 : RowAt c58 a26 kc (b + 1) (fun _ => 0) (fun _ => 0) (fun _ => 0) 0 := RowAt.move h53 (fun j h1 h2 => (show c58 j = c52 j by rw [ec58, va_up_ne _ _ (by omega)])) (fun _ _ _ => rfl)
  have h60 : c58 (b + 5) = .inl (kc 2, 6, .inr (.inr (.inr (.inr (fun _ => none : Nat → Option Nat))))) := by rw [(show c58 (b + 5) = c52 (b + 5) by rw [ec58, va_up_ne _ _ (by omega)]), h54]
  have h61 : c58 b = .inr (5, [.ref (a26 (b + 1)), .ref (a26 (b + 5)), .null, .int 0, .int 0]) := by rw [(show c58 b = c52 b by rw [ec58, va_up_ne _ _ (by omega)]), h55]
  have h62 : c58 (b + 6) = .inl (kc 0, 5, .inl (upd (upd (upd (upd (upd (fun _ => 0) (0 : Int32).toNatClampNeg 6) (1 : Int32).toNatClampNeg 3) (2 : Int32).toNatClampNeg 1) (3 : Int32).toNatClampNeg 5) (4 : Int32).toNatClampNeg 2)) := by rw [ec58]; exact va_up_self _ _ _
  have fr63 : ∀ j : Nat, j < b → c58 j = cell j := fun j hj => ((show c58 j = c52 j by rw [ec58, va_up_ne _ _ (by omega)])).trans (fr57 j hj)
  refine g_putF C b 5 2 (by omega) h61 rfl in5 tyX5 tyX5_ok nmX5 (by decide) f24 (fun _ h9 => h9) rfl hnm rfl (tyX5_ok 2 (by decide)) rfl rfl (Nat.le_of_ble_eq_true rfl) dX5_init_49 ?_
  refine g_cell (fun c64 ec64 => ?_)
  have h65 : RowAt c64 a26 kc (b + 1) (fun _ => 0) (fun _ => 0) (fun _ => 0) 0 := RowAt.move h59 (fun j h1 h2 => (show c64 j = c58 j by rw [ec64, va_up_ne _ _ (by omega)])) (fun _ _ _ => rfl)
  have h66 : c64 (b + 5) = .inl (kc 2, 6, .inr (.inr (.inr (.inr (fun _ => none : Nat → Option Nat))))) := by rw [(show c64 (b + 5) = c58 (b + 5) by rw [ec64, va_up_ne _ _ (by omega)]), h60]
  have h67 : c64 (b + 6) = .inl (kc 0, 5, .inl (upd (upd (upd (upd (upd (fun _ => 0) (0 : Int32).toNatClampNeg 6) (1 : Int32).toNatClampNeg 3) (2 : Int32).toNatClampNeg 1) (3 : Int32).toNatClampNeg 5) (4 : Int32).toNatClampNeg 2)) := by rw [(show c64 (b + 6) = c58 (b + 6) by rw [ec64, va_up_ne _ _ (by omega)]), h62]
  have h68 : c64 b = .inr (5, [.ref (a26 (b + 1)), .ref (a26 (b + 5)), .ref (a26 (b + 6)), .int 0, .int 0]) := by rw [ec64]; exact va_up_self _ _ _
  have fr69 : ∀ j : Nat, j < b → c64 j = cell j := fun j hj => ((show c64 j = c58 j by rw [ec64, va_up_ne _ _ (by omega)])).trans (fr63 j hj)
  refine g_iconst C 0 (by decide) dX5_init_52 ?_
  refine g_istore_n C [(1, .int 0), (0, .ref (a26 b))] (by decide) rfl dX5_init_53 ?_
  refine g_iload_n C 0 rfl dX5_init_54 ?_
  refine g_aload_n C 1 rfl dX5_init_55 ?_
  refine g_get C b 5 1 (by omega) h68 rfl in5 (by decide) f20 (fun _ h9 => h9) rfl dX5_init_56 ?_
  refine g_alen C (b + 5) 2 (by omega) h66 rfl 6 rfl dX5_init_59 ?_
  refine g_icmp_ge C 82 rfl dX5_init_60 (fun h => absurd h (by decide)) (fun _ => ?_)
  refine g_aload_n C 1 rfl dX5_init_63 ?_
  refine g_get C b 5 1 (by omega) h68 rfl in5 (by decide) f20 (fun _ h9 => h9) rfl dX5_init_64 ?_
  refine g_iload_n C 0 rfl dX5_init_67 ?_
  refine g_new C 0 rfl in0 tyX0 tyX0_ok w4060299468 w2179451461 w2169198681 [.null, .int 0, .int 0] (by intro j hj; revert j; decide +kernel) (Nat.le_of_ble_eq_true rfl) (Nat.le_of_ble_eq_true rfl) dX5_init_68 (b + 8) (by omega) (fun a70 hg70 C => ?_)
  refine g_cell (fun c70 ec70 => ?_)
  have hc70 : ∀ j : Nat, j < b + 7 → c70 j = c64 j := fun j hj => by rw [ec70, va_up_ne _ _ (by omega)]
  have h71 : RowAt c70 a70 kc (b + 1) (fun _ => 0) (fun _ => 0) (fun _ => 0) 0 := RowAt.move h65 (fun j h1 h2 => hc70 j (by omega)) (fun j h1 h2 => hg70 j (by omega))
  have h72 : c70 (b + 5) = .inl (kc 2, 6, .inr (.inr (.inr (.inr (fun _ => none : Nat → Option Nat))))) := by rw [hc70 (b + 5) (by omega), h66]
  have hq73 : ∀ k, k < 0 → (fun _ => none : Nat → Option Nat) k = some (a70 (b + 7 + 2 * k)) := fun k hk => by rw [hq29 k hk, hg70 (b + 7 + 2 * k) (by omega)]
  have h74 : c70 (b + 6) = .inl (kc 0, 5, .inl (upd (upd (upd (upd (upd (fun _ => 0) (0 : Int32).toNatClampNeg 6) (1 : Int32).toNatClampNeg 3) (2 : Int32).toNatClampNeg 1) (3 : Int32).toNatClampNeg 5) (4 : Int32).toNatClampNeg 2)) := by rw [hc70 (b + 6) (by omega), h67]
  have h75 : c70 b = .inr (5, [.ref (a70 (b + 1)), .ref (a70 (b + 5)), .ref (a70 (b + 6)), .int 0, .int 0]) := by rw [hc70 b (by omega), h68, hg70 (b + 1) (by omega), hg70 (b + 5) (by omega), hg70 (b + 6) (by omega)]
  have h76 : c70 (b + 7) = .inr (0, [.null, .int 0, .int 0]) := by rw [ec70]; exact va_up_self _ _ _
  have fr77 : ∀ j : Nat, j < b → c70 j = cell j := fun j hj => (hc70 j (by omega)).trans (fr69 j hj)
  have ag78 : ∀ j : Nat, j < b + 1 → a70 j = adr j := fun j hj => (hg70 j (by omega)).trans (ag33 j hj)
  refine g_eqlv (lv1 := [(1, .int 0), (0, .ref (a70 b))]) (by rw [hg70 b (by omega)]) ?_
  refine g_eqst (st1 := ([.ref (a70 (b + 7)), .int 0, .ref (a70 (b + 5))] : List Value)) (by rw [hg70 (b + 5) (by omega)]) ?_
  refine g_dup C rfl dX5_init_71 ?_
  refine g_ctorN C (c_X0_init l D kc a70 c70 (b + 7) h76) hAO ⟨va_cnB 0 C.2.2.2.2.1 gX5_init_X0_init_n28 rfl rfl rfl (hAO.2.2 (RX5, 28, yX0_init) (by decide +kernel)) w2169198681 ⟨by decide, by decide, by decide +kernel⟩ ⟨Nat.le_of_ble_eq_true rfl, Nat.le_of_ble_eq_true rfl⟩, rfl, w3503756985⟩ (Nat.le_of_ble_eq_true rfl) (Nat.le_of_ble_eq_true rfl) (Nat.le_of_ble_eq_true rfl) dX5_init_72 (b + 9) (by omega) (fun a79 c79 hg79 hp79 C => ?_)
  obtain ⟨hx79, hc79⟩ := hp79
  have h80 : RowAt c79 a79 kc (b + 1) (fun _ => 0) (fun _ => 0) (fun _ => 0) 0 := RowAt.move h71 (fun j h1 h2 => hc79 j (by omega)) (fun j h1 h2 => hg79 j (by omega))
  have h81 : c79 (b + 5) = .inl (kc 2, 6, .inr (.inr (.inr (.inr (fun _ => none : Nat → Option Nat))))) := by rw [hc79 (b + 5) (by omega), h72]
  have hq82 : ∀ k, k < 0 → (fun _ => none : Nat → Option Nat) k = some (a79 (b + 7 + 2 * k)) := fun k hk => by rw [hq73 k hk, hg79 (b + 7 + 2 * k) (by omega)]
  have h83 : c79 (b + 6) = .inl (kc 0, 5, .inl (upd (upd (upd (upd (upd (fun _ => 0) (0 : Int32).toNatClampNeg 6) (1 : Int32).toNatClampNeg 3) (2 : Int32).toNatClampNeg 1) (3 : Int32).toNatClampNeg 5) (4 : Int32).toNatClampNeg 2)) := by rw [hc79 (b + 6) (by omega), h74]
  have h84 : c79 b = .inr (5, [.ref (a79 (b + 1)), .ref (a79 (b + 5)), .ref (a79 (b + 6)), .int 0, .int 0]) := by rw [hc79 b (by omega), h75, hg79 (b + 1) (by omega), hg79 (b + 5) (by omega), hg79 (b + 6) (by omega)]
  have fr85 : ∀ j : Nat, j < b → c79 j = cell j := fun j hj => (hc79 j (by omega)).trans (fr77 j hj)
  have ag86 : ∀ j : Nat, j < b + 1 → a79 j = adr j := fun j hj => (hg79 j (by omega)).trans (ag78 j hj)
  refine g_eqlv (lv1 := [(1, .int 0), (0, .ref (a79 b))]) (by rw [hg79 b (by omega)]) ?_
  refine g_eqst (st1 := ([.ref (a79 (b + 7)), .int 0, .ref (a79 (b + 5))] : List Value)) (by rw [hg79 (b + 7) (by omega), hg79 (b + 5) (by omega)]) ?_
  refine g_aast C (b + 5) 2 (b + 7) 0 (by omega) (by omega) h81 rfl hx79.1 rfl (by unfold vp_in; decide +kernel) dX5_init_75 ?_
  refine g_cell (fun c87 ec87 => ?_)
  have h88 : RowAt c87 a79 kc (b + 1) (fun _ => 0) (fun _ => 0) (fun _ => 0) 0 := RowAt.move h80 (fun j h1 h2 => (show c87 j = c79 j by rw [ec87, va_up_ne _ _ (by omega)])) (fun _ _ _ => rfl)
  have h89 : c87 (b + 6) = .inl (kc 0, 5, .inl (upd (upd (upd (upd (upd (fun _ => 0) (0 : Int32).toNatClampNeg 6) (1 : Int32).toNatClampNeg 3) (2 : Int32).toNatClampNeg 1) (3 : Int32).toNatClampNeg 5) (4 : Int32).toNatClampNeg 2)) := by rw [(show c87 (b + 6) = c79 (b + 6) by rw [ec87, va_up_ne _ _ (by omega)]), h83]
  have h90 : c87 b = .inr (5, [.ref (a79 (b + 1)), .ref (a79 (b + 5)), .ref (a79 (b + 6)), .int 0, .int 0]) := by rw [(show c87 b = c79 b by rw [ec87, va_up_ne _ _ (by omega)]), h84]
  have h91 : AncAt c87 a79 kc (b + 7) 0 0 (fun _ => 0) := AncAt.move hx79 (fun j h1 h2 => (show c87 j = c79 j by rw [ec87, va_up_ne _ _ (by omega)])) (fun _ _ _ => rfl)
  obtain ⟨g87, h87, hq87⟩ : RArr c87 a79 kc 2 (b + 5) 6 (0 + 1) (b + 7) 2 := by rw [ec87]; exact RArr.put hq82
  have fr92 : ∀ j : Nat, j < b → c87 j = cell j := fun j hj => ((show c87 j = c79 j by rw [ec87, va_up_ne _ _ (by omega)])).trans (fr85 j hj)
  refine g_iinc C 0 [(1, .int 1), (0, .ref (a79 b))] rfl (by decide) (by decide) rfl dX5_init_76 ?_
  refine g_goto C 54 rfl dX5_init_79 ?_
  refine g_iload_n C 0 rfl dX5_init_54 ?_
  refine g_aload_n C 1 rfl dX5_init_55 ?_
  refine g_get C b 5 1 (by omega) h90 rfl in5 (by decide) f20 (fun _ h9 => h9) rfl dX5_init_56 ?_
  refine g_alen C (b + 5) 2 (by omega) h87 rfl 6 rfl dX5_init_59 ?_
  refine g_icmp_ge C 82 rfl dX5_init_60 (fun h => absurd h (by decide)) (fun _ => ?_)
  refine g_aload_n C 1 rfl dX5_init_63 ?_
  refine g_get C b 5 1 (by omega) h90 rfl in5 (by decide) f20 (fun _ h9 => h9) rfl dX5_init_64 ?_
  refine g_iload_n C 0 rfl dX5_init_67 ?_
  refine g_new C 0 rfl in0 tyX0 tyX0_ok w4060299468 w2179451461 w2169198681 [.null, .int 0, .int 0] (by intro j hj; revert j; decide +kernel) (Nat.le_of_ble_eq_true rfl) (Nat.le_of_ble_eq_true rfl) dX5_init_68 (b + 10) (by omega) (fun a93 hg93 C => ?_)
  refine g_cell (fun c93 ec93 => ?_)
  have hc93 : ∀ j : Nat, j < b + 9 → c93 j = c87 j := fun j hj => by rw [ec93, va_up_ne _ _ (by omega)]
  have h94 : RowAt c93 a93 kc (b + 1) (fun _ => 0) (fun _ => 0) (fun _ => 0) 0 := RowAt.move h88 (fun j h1 h2 => hc93 j (by omega)) (fun j h1 h2 => hg93 j (by omega))
  have h95 : c93 (b + 6) = .inl (kc 0, 5, .inl (upd (upd (upd (upd (upd (fun _ => 0) (0 : Int32).toNatClampNeg 6) (1 : Int32).toNatClampNeg 3) (2 : Int32).toNatClampNeg 1) (3 : Int32).toNatClampNeg 5) (4 : Int32).toNatClampNeg 2)) := by rw [hc93 (b + 6) (by omega), h89]
  have h96 : c93 b = .inr (5, [.ref (a93 (b + 1)), .ref (a93 (b + 5)), .ref (a93 (b + 6)), .int 0, .int 0]) := by rw [hc93 b (by omega), h90, hg93 (b + 1) (by omega), hg93 (b + 5) (by omega), hg93 (b + 6) (by omega)]
  have h97 : AncAt c93 a93 kc (b + 7) 0 0 (fun _ => 0) := AncAt.move h91 (fun j h1 h2 => hc93 j (by omega)) (fun j h1 h2 => hg93 j (by omega))
  have h98 : c93 (b + 5) = .inl (kc 2, 6, .inr (.inr (.inr (.inr g87)))) := by rw [hc93 (b + 5) (by omega), h87]
  have hq99 : ∀ k, k < 1 → g87 k = some (a93 (b + 7 + 2 * k)) := fun k hk => by rw [hq87 k hk, hg93 (b + 7 + 2 * k) (by omega)]
  have h100 : c93 (b + 9) = .inr (0, [.null, .int 0, .int 0]) := by rw [ec93]; exact va_up_self _ _ _
  have fr101 : ∀ j : Nat, j < b → c93 j = cell j := fun j hj => (hc93 j (by omega)).trans (fr92 j hj)
  have ag102 : ∀ j : Nat, j < b + 1 → a93 j = adr j := fun j hj => (hg93 j (by omega)).trans (ag86 j hj)
  refine g_eqlv (lv1 := [(1, .int 1), (0, .ref (a93 b))]) (by rw [hg93 b (by omega)]) ?_
  refine g_eqst (st1 := ([.ref (a93 (b + 9)), .int 1, .ref (a93 (b + 5))] : List Value)) (by rw [hg93 (b + 5) (by omega)]) ?_
  refine g_dup C rfl dX5_init_71 ?_
  refine g_ctorN C (c_X0_init l D kc a93 c93 (b + 9) h100) hAO ⟨va_cnB 0 C.2.2.2.2.1 gX5_init_X0_init_n28 rfl rfl rfl (hAO.2.2 (RX5, 28, yX0_init) (by decide +kernel)) w2169198681 ⟨by decide, by decide, by decide +kernel⟩ ⟨Nat.le_of_ble_eq_true rfl, Nat.le_of_ble_eq_true rfl⟩, rfl, w3503756985⟩ (Nat.le_of_ble_eq_true rfl) (Nat.le_of_ble_eq_true rfl) (Nat.le_of_ble_eq_true rfl) dX5_init_72 (b + 11) (by omega) (fun a103 c103 hg103 hp103 C => ?_)
  obtain ⟨hx103, hc103⟩ := hp103
  have h104 : RowAt c103 a103 kc (b + 1) (fun _ => 0) (fun _ => 0) (fun _ => 0) 0 := RowAt.move h94 (fun j h1 h2 => hc103 j (by omega)) (fun j h1 h2 => hg103 j (by omega))
  have h105 : c103 (b + 6) = .inl (kc 0, 5, .inl (upd (upd (upd (upd (upd (fun _ => 0) (0 : Int32).toNatClampNeg 6) (1 : Int32).toNatClampNeg 3) (2 : Int32).toNatClampNeg 1) (3 : Int32).toNatClampNeg 5) (4 : Int32).toNatClampNeg 2)) := by rw [hc103 (b + 6) (by omega), h95]
  have h106 : c103 b = .inr (5, [.ref (a103 (b + 1)), .ref (a103 (b + 5)), .ref (a103 (b + 6)), .int 0, .int 0]) := by rw [hc103 b (by omega), h96, hg103 (b + 1) (by omega), hg103 (b + 5) (by omega), hg103 (b + 6) (by omega)]
  have h107 : AncAt c103 a103 kc (b + 7) 0 0 (fun _ => 0) := AncAt.move h97 (fun j h1 h2 => hc103 j (by omega)) (fun j h1 h2 => hg103 j (by omega))
  have h108 : c103 (b + 5) = .inl (kc 2, 6, .inr (.inr (.inr (.inr g87)))) := by rw [hc103 (b + 5) (by omega), h98]
  have hq109 : ∀ k, k < 1 → g87 k = some (a103 (b + 7 + 2 * k)) := fun k hk => by rw [hq99 k hk, hg103 (b + 7 + 2 * k) (by omega)]
  have fr110 : ∀ j : Nat, j < b → c103 j = cell j := fun j hj => (hc103 j (by omega)).trans (fr101 j hj)
  have ag111 : ∀ j : Nat, j < b + 1 → a103 j = adr j := fun j hj => (hg103 j (by omega)).trans (ag102 j hj)
  refine g_eqlv (lv1 := [(1, .int 1), (0, .ref (a103 b))]) (by rw [hg103 b (by omega)]) ?_
  refine g_eqst (st1 := ([.ref (a103 (b + 9)), .int 1, .ref (a103 (b + 5))] : List Value)) (by rw [hg103 (b + 9) (by omega), hg103 (b + 5) (by omega)]) ?_
  refine g_aast C (b + 5) 2 (b + 9) 0 (by omega) (by omega) h108 rfl hx103.1 rfl (by unfold vp_in; decide +kernel) dX5_init_75 ?_
  refine g_cell (fun c112 ec112 => ?_)
  have h113 : RowAt c112 a103 kc (b + 1) (fun _ => 0) (fun _ => 0) (fun _ => 0) 0 := RowAt.move h104 (fun j h1 h2 => (show c112 j = c103 j by rw [ec112, va_up_ne _ _ (by omega)])) (fun _ _ _ => rfl)
  have h114 : c112 (b + 6) = .inl (kc 0, 5, .inl (upd (upd (upd (upd (upd (fun _ => 0) (0 : Int32).toNatClampNeg 6) (1 : Int32).toNatClampNeg 3) (2 : Int32).toNatClampNeg 1) (3 : Int32).toNatClampNeg 5) (4 : Int32).toNatClampNeg 2)) := by rw [(show c112 (b + 6) = c103 (b + 6) by rw [ec112, va_up_ne _ _ (by omega)]), h105]
  have h115 : c112 b = .inr (5, [.ref (a103 (b + 1)), .ref (a103 (b + 5)), .ref (a103 (b + 6)), .int 0, .int 0]) := by rw [(show c112 b = c103 b by rw [ec112, va_up_ne _ _ (by omega)]), h106]
  have h116 : AncAt c112 a103 kc (b + 7) 0 0 (fun _ => 0) := AncAt.move h107 (fun j h1 h2 => (show c112 j = c103 j by rw [ec112, va_up_ne _ _ (by omega)])) (fun _ _ _ => rfl)
  have h117 : AncAt c112 a103 kc (b + 9) 0 0 (fun _ => 0) := AncAt.move hx103 (fun j h1 h2 => (show c112 j = c103 j by rw [ec112, va_up_ne _ _ (by omega)])) (fun _ _ _ => rfl)
  obtain ⟨g112, h112, hq112⟩ : RArr c112 a103 kc 2 (b + 5) 6 (1 + 1) (b + 7) 2 := by rw [ec112]; exact RArr.put hq109
  have fr118 : ∀ j : Nat, j < b → c112 j = cell j := fun j hj => ((show c112 j = c103 j by rw [ec112, va_up_ne _ _ (by omega)])).trans (fr110 j hj)
  refine g_iinc C 0 [(1, .int 2), (0, .ref (a103 b))] rfl (by decide) (by decide) rfl dX5_init_76 ?_
  refine g_goto C 54 rfl dX5_init_79 ?_
  refine g_iload_n C 0 rfl dX5_init_54 ?_
  refine g_aload_n C 1 rfl dX5_init_55 ?_
  refine g_get C b 5 1 (by omega) h115 rfl in5 (by decide) f20 (fun _ h9 => h9) rfl dX5_init_56 ?_
  refine g_alen C (b + 5) 2 (by omega) h112 rfl 6 rfl dX5_init_59 ?_
  refine g_icmp_ge C 82 rfl dX5_init_60 (fun h => absurd h (by decide)) (fun _ => ?_)
  refine g_aload_n C 1 rfl dX5_init_63 ?_
  refine g_get C b 5 1 (by omega) h115 rfl in5 (by decide) f20 (fun _ h9 => h9) rfl dX5_init_64 ?_
  refine g_iload_n C 0 rfl dX5_init_67 ?_
  refine g_new C 0 rfl in0 tyX0 tyX0_ok w4060299468 w2179451461 w2169198681 [.null, .int 0, .int 0] (by intro j hj; revert j; decide +kernel) (Nat.le_of_ble_eq_true rfl) (Nat.le_of_ble_eq_true rfl) dX5_init_68 (b + 12) (by omega) (fun a119 hg119 C => ?_)
  refine g_cell (fun c119 ec119 => ?_)
  have hc119 : ∀ j : Nat, j < b + 11 → c119 j = c112 j := fun j hj => by rw [ec119, va_up_ne _ _ (by omega)]
  have h120 : RowAt c119 a119 kc (b + 1) (fun _ => 0) (fun _ => 0) (fun _ => 0) 0 := RowAt.move h113 (fun j h1 h2 => hc119 j (by omega)) (fun j h1 h2 => hg119 j (by omega))
  have h121 : c119 (b + 6) = .inl (kc 0, 5, .inl (upd (upd (upd (upd (upd (fun _ => 0) (0 : Int32).toNatClampNeg 6) (1 : Int32).toNatClampNeg 3) (2 : Int32).toNatClampNeg 1) (3 : Int32).toNatClampNeg 5) (4 : Int32).toNatClampNeg 2)) := by rw [hc119 (b + 6) (by omega), h114]
  have h122 : c119 b = .inr (5, [.ref (a119 (b + 1)), .ref (a119 (b + 5)), .ref (a119 (b + 6)), .int 0, .int 0]) := by rw [hc119 b (by omega), h115, hg119 (b + 1) (by omega), hg119 (b + 5) (by omega), hg119 (b + 6) (by omega)]
  have h123 : AncAt c119 a119 kc (b + 7) 0 0 (fun _ => 0) := AncAt.move h116 (fun j h1 h2 => hc119 j (by omega)) (fun j h1 h2 => hg119 j (by omega))
  have h124 : AncAt c119 a119 kc (b + 9) 0 0 (fun _ => 0) := AncAt.move h117 (fun j h1 h2 => hc119 j (by omega)) (fun j h1 h2 => hg119 j (by omega))
  have h125 : c119 (b + 5) = .inl (kc 2, 6, .inr (.inr (.inr (.inr g112)))) := by rw [hc119 (b + 5) (by omega), h112]
  have hq126 : ∀ k, k < 2 → g112 k = some (a119 (b + 7 + 2 * k)) := fun k hk => by rw [hq112 k hk, hg119 (b + 7 + 2 * k) (by omega)]
  have h127 : c119 (b + 11) = .inr (0, [.null, .int 0, .int 0]) := by rw [ec119]; exact va_up_self _ _ _
  have fr128 : ∀ j : Nat, j < b → c119 j = cell j := fun j hj => (hc119 j (by omega)).trans (fr118 j hj)
  have ag129 : ∀ j : Nat, j < b + 1 → a119 j = adr j := fun j hj => (hg119 j (by omega)).trans (ag111 j hj)
  refine g_eqlv (lv1 := [(1, .int 2), (0, .ref (a119 b))]) (by rw [hg119 b (by omega)]) ?_
  refine g_eqst (st1 := ([.ref (a119 (b + 11)), .int 2, .ref (a119 (b + 5))] : List Value)) (by rw [hg119 (b + 5) (by omega)]) ?_
  refine g_dup C rfl dX5_init_71 ?_
  refine g_ctorN C (c_X0_init l D kc a119 c119 (b + 11) h127) hAO ⟨va_cnB 0 C.2.2.2.2.1 gX5_init_X0_init_n28 rfl rfl rfl (hAO.2.2 (RX5, 28, yX0_init) (by decide +kernel)) w2169198681 ⟨by decide, by decide, by decide +kernel⟩ ⟨Nat.le_of_ble_eq_true rfl, Nat.le_of_ble_eq_true rfl⟩, rfl, w3503756985⟩ (Nat.le_of_ble_eq_true rfl) (Nat.le_of_ble_eq_true rfl) (Nat.le_of_ble_eq_true rfl) dX5_init_72 (b + 13) (by omega) (fun a130 c130 hg130 hp130 C => ?_)
  obtain ⟨hx130, hc130⟩ := hp130
  have h131 : RowAt c130 a130 kc (b + 1) (fun _ => 0) (fun _ => 0) (fun _ => 0) 0 := RowAt.move h120 (fun j h1 h2 => hc130 j (by omega)) (fun j h1 h2 => hg130 j (by omega))
  have h132 : c130 (b + 6) = .inl (kc 0, 5, .inl (upd (upd (upd (upd (upd (fun _ => 0) (0 : Int32).toNatClampNeg 6) (1 : Int32).toNatClampNeg 3) (2 : Int32).toNatClampNeg 1) (3 : Int32).toNatClampNeg 5) (4 : Int32).toNatClampNeg 2)) := by rw [hc130 (b + 6) (by omega), h121]
  have h133 : c130 b = .inr (5, [.ref (a130 (b + 1)), .ref (a130 (b + 5)), .ref (a130 (b + 6)), .int 0, .int 0]) := by rw [hc130 b (by omega), h122, hg130 (b + 1) (by omega), hg130 (b + 5) (by omega), hg130 (b + 6) (by omega)]
  have h134 : AncAt c130 a130 kc (b + 7) 0 0 (fun _ => 0) := AncAt.move h123 (fun j h1 h2 => hc130 j (by omega)) (fun j h1 h2 => hg130 j (by omega))
  have h135 : AncAt c130 a130 kc (b + 9) 0 0 (fun _ => 0) := AncAt.move h124 (fun j h1 h2 => hc130 j (by omega)) (fun j h1 h2 => hg130 j (by omega))
  have h136 : c130 (b + 5) = .inl (kc 2, 6, .inr (.inr (.inr (.inr g112)))) := by rw [hc130 (b + 5) (by omega), h125]
  have hq137 : ∀ k, k < 2 → g112 k = some (a130 (b + 7 + 2 * k)) := fun k hk => by rw [hq126 k hk, hg130 (b + 7 + 2 * k) (by omega)]
  have fr138 : ∀ j : Nat, j < b → c130 j = cell j := fun j hj => (hc130 j (by omega)).trans (fr128 j hj)
  have ag139 : ∀ j : Nat, j < b + 1 → a130 j = adr j := fun j hj => (hg130 j (by omega)).trans (ag129 j hj)
  refine g_eqlv (lv1 := [(1, .int 2), (0, .ref (a130 b))]) (by rw [hg130 b (by omega)]) ?_
  refine g_eqst (st1 := ([.ref (a130 (b + 11)), .int 2, .ref (a130 (b + 5))] : List Value)) (by rw [hg130 (b + 11) (by omega), hg130 (b + 5) (by omega)]) ?_
  refine g_aast C (b + 5) 2 (b + 11) 0 (by omega) (by omega) h136 rfl hx130.1 rfl (by unfold vp_in; decide +kernel) dX5_init_75 ?_
  refine g_cell (fun c140 ec140 => ?_)
  have h141 : RowAt c140 a130 kc (b + 1) (fun _ => 0) (fun _ => 0) (fun _ => 0) 0 := RowAt.move h131 (fun j h1 h2 => (show c140 j = c130 j by rw [ec140, va_up_ne _ _ (by omega)])) (fun _ _ _ => rfl)
  have h142 : c140 (b + 6) = .inl (kc 0, 5, .inl (upd (upd (upd (upd (upd (fun _ => 0) (0 : Int32).toNatClampNeg 6) (1 : Int32).toNatClampNeg 3) (2 : Int32).toNatClampNeg 1) (3 : Int32).toNatClampNeg 5) (4 : Int32).toNatClampNeg 2)) := by rw [(show c140 (b + 6) = c130 (b + 6) by rw [ec140, va_up_ne _ _ (by omega)]), h132]
  have h143 : c140 b = .inr (5, [.ref (a130 (b + 1)), .ref (a130 (b + 5)), .ref (a130 (b + 6)), .int 0, .int 0]) := by rw [(show c140 b = c130 b by rw [ec140, va_up_ne _ _ (by omega)]), h133]
  have h144 : AncAt c140 a130 kc (b + 7) 0 0 (fun _ => 0) := AncAt.move h134 (fun j h1 h2 => (show c140 j = c130 j by rw [ec140, va_up_ne _ _ (by omega)])) (fun _ _ _ => rfl)
  have h145 : AncAt c140 a130 kc (b + 9) 0 0 (fun _ => 0) := AncAt.move h135 (fun j h1 h2 => (show c140 j = c130 j by rw [ec140, va_up_ne _ _ (by omega)])) (fun _ _ _ => rfl)
  have h146 : AncAt c140 a130 kc (b + 11) 0 0 (fun _ => 0) := AncAt.move hx130 (fun j h1 h2 => (show c140 j = c130 j by rw [ec140, va_up_ne _ _ (by omega)])) (fun _ _ _ => rfl)
  obtain ⟨g140, h140, hq140⟩ : RArr c140 a130 kc 2 (b + 5) 6 (2 + 1) (b + 7) 2 := by rw [ec140]; exact RArr.put hq137
  have fr147 : ∀ j : Nat, j < b → c140 j = cell j := fun j hj => ((show c140 j = c130 j by rw [ec140, va_up_ne _ _ (by omega)])).trans (fr138 j hj)
  refine g_iinc C 0 [(1, .int 3), (0, .ref (a130 b))] rfl (by decide) (by decide) rfl dX5_init_76 ?_
  refine g_goto C 54 rfl dX5_init_79 ?_
  refine g_iload_n C 0 rfl dX5_init_54 ?_
  refine g_aload_n C 1 rfl dX5_init_55 ?_
  refine g_get C b 5 1 (by omega) h143 rfl in5 (by decide) f20 (fun _ h9 => h9) rfl dX5_init_56 ?_
  refine g_alen C (b + 5) 2 (by omega) h140 rfl 6 rfl dX5_init_59 ?_
  refine g_icmp_ge C 82 rfl dX5_init_60 (fun h => absurd h (by decide)) (fun _ => ?_)
  refine g_aload_n C 1 rfl dX5_init_63 ?_
  refine g_get C b 5 1 (by omega) h143 rfl in5 (by decide) f20 (fun _ h9 => h9) rfl dX5_init_64 ?_
  refine g_iload_n C 0 rfl dX5_init_67 ?_
  refine g_new C 0 rfl in0 tyX0 tyX0_ok w4060299468 w2179451461 w2169198681 [.null, .int 0, .int 0] (by intro j hj; revert j; decide +kernel) (Nat.le_of_ble_eq_true rfl) (Nat.le_of_ble_eq_true rfl) dX5_init_68 (b + 14) (by omega) (fun a148 hg148 C => ?_)
  refine g_cell (fun c148 ec148 => ?_)
  have hc148 : ∀ j : Nat, j < b + 13 → c148 j = c140 j := fun j hj => by rw [ec148, va_up_ne _ _ (by omega)]
  have h149 : RowAt c148 a148 kc (b + 1) (fun _ => 0) (fun _ => 0) (fun _ => 0) 0 := RowAt.move h141 (fun j h1 h2 => hc148 j (by omega)) (fun j h1 h2 => hg148 j (by omega))
  have h150 : c148 (b + 6) = .inl (kc 0, 5, .inl (upd (upd (upd (upd (upd (fun _ => 0) (0 : Int32).toNatClampNeg 6) (1 : Int32).toNatClampNeg 3) (2 : Int32).toNatClampNeg 1) (3 : Int32).toNatClampNeg 5) (4 : Int32).toNatClampNeg 2)) := by rw [hc148 (b + 6) (by omega), h142]
  have h151 : c148 b = .inr (5, [.ref (a148 (b + 1)), .ref (a148 (b + 5)), .ref (a148 (b + 6)), .int 0, .int 0]) := by rw [hc148 b (by omega), h143, hg148 (b + 1) (by omega), hg148 (b + 5) (by omega), hg148 (b + 6) (by omega)]
  have h152 : AncAt c148 a148 kc (b + 7) 0 0 (fun _ => 0) := AncAt.move h144 (fun j h1 h2 => hc148 j (by omega)) (fun j h1 h2 => hg148 j (by omega))
  have h153 : AncAt c148 a148 kc (b + 9) 0 0 (fun _ => 0) := AncAt.move h145 (fun j h1 h2 => hc148 j (by omega)) (fun j h1 h2 => hg148 j (by omega))
  have h154 : AncAt c148 a148 kc (b + 11) 0 0 (fun _ => 0) := AncAt.move h146 (fun j h1 h2 => hc148 j (by omega)) (fun j h1 h2 => hg148 j (by omega))
  have h155 : c148 (b + 5) = .inl (kc 2, 6, .inr (.inr (.inr (.inr g140)))) := by rw [hc148 (b + 5) (by omega), h140]
  have hq156 : ∀ k, k < 3 → g140 k = some (a148 (b + 7 + 2 * k)) := fun k hk => by rw [hq140 k hk, hg148 (b + 7 + 2 * k) (by omega)]
  have h157 : c148 (b + 13) = .inr (0, [.null, .int 0, .int 0]) := by rw [ec148]; exact va_up_self _ _ _
  have fr158 : ∀ j : Nat, j < b → c148 j = cell j := fun j hj => (hc148 j (by omega)).trans (fr147 j hj)
  have ag159 : ∀ j : Nat, j < b + 1 → a148 j = adr j := fun j hj => (hg148 j (by omega)).trans (ag139 j hj)
  refine g_eqlv (lv1 := [(1, .int 3), (0, .ref (a148 b))]) (by rw [hg148 b (by omega)]) ?_
  refine g_eqst (st1 := ([.ref (a148 (b + 13)), .int 3, .ref (a148 (b + 5))] : List Value)) (by rw [hg148 (b + 5) (by omega)]) ?_
  refine g_dup C rfl dX5_init_71 ?_
  refine g_ctorN C (c_X0_init l D kc a148 c148 (b + 13) h157) hAO ⟨va_cnB 0 C.2.2.2.2.1 gX5_init_X0_init_n28 rfl rfl rfl (hAO.2.2 (RX5, 28, yX0_init) (by decide +kernel)) w2169198681 ⟨by decide, by decide, by decide +kernel⟩ ⟨Nat.le_of_ble_eq_true rfl, Nat.le_of_ble_eq_true rfl⟩, rfl, w3503756985⟩ (Nat.le_of_ble_eq_true rfl) (Nat.le_of_ble_eq_true rfl) (Nat.le_of_ble_eq_true rfl) dX5_init_72 (b + 15) (by omega) (fun a160 c160 hg160 hp160 C => ?_)
  obtain ⟨hx160, hc160⟩ := hp160
  have h161 : RowAt c160 a160 kc (b + 1) (fun _ => 0) (fun _ => 0) (fun _ => 0) 0 := RowAt.move h149 (fun j h1 h2 => hc160 j (by omega)) (fun j h1 h2 => hg160 j (by omega))
  have h162 : c160 (b + 6) = .inl (kc 0, 5, .inl (upd (upd (upd (upd (upd (fun _ => 0) (0 : Int32).toNatClampNeg 6) (1 : Int32).toNatClampNeg 3) (2 : Int32).toNatClampNeg 1) (3 : Int32).toNatClampNeg 5) (4 : Int32).toNatClampNeg 2)) := by rw [hc160 (b + 6) (by omega), h150]
  have h163 : c160 b = .inr (5, [.ref (a160 (b + 1)), .ref (a160 (b + 5)), .ref (a160 (b + 6)), .int 0, .int 0]) := by rw [hc160 b (by omega), h151, hg160 (b + 1) (by omega), hg160 (b + 5) (by omega), hg160 (b + 6) (by omega)]
  have h164 : AncAt c160 a160 kc (b + 7) 0 0 (fun _ => 0) := AncAt.move h152 (fun j h1 h2 => hc160 j (by omega)) (fun j h1 h2 => hg160 j (by omega))
  have h165 : AncAt c160 a160 kc (b + 9) 0 0 (fun _ => 0) := AncAt.move h153 (fun j h1 h2 => hc160 j (by omega)) (fun j h1 h2 => hg160 j (by omega))
  have h166 : AncAt c160 a160 kc (b + 11) 0 0 (fun _ => 0) := AncAt.move h154 (fun j h1 h2 => hc160 j (by omega)) (fun j h1 h2 => hg160 j (by omega))
  have h167 : c160 (b + 5) = .inl (kc 2, 6, .inr (.inr (.inr (.inr g140)))) := by rw [hc160 (b + 5) (by omega), h155]
  have hq168 : ∀ k, k < 3 → g140 k = some (a160 (b + 7 + 2 * k)) := fun k hk => by rw [hq156 k hk, hg160 (b + 7 + 2 * k) (by omega)]
  have fr169 : ∀ j : Nat, j < b → c160 j = cell j := fun j hj => (hc160 j (by omega)).trans (fr158 j hj)
  have ag170 : ∀ j : Nat, j < b + 1 → a160 j = adr j := fun j hj => (hg160 j (by omega)).trans (ag159 j hj)
  refine g_eqlv (lv1 := [(1, .int 3), (0, .ref (a160 b))]) (by rw [hg160 b (by omega)]) ?_
  refine g_eqst (st1 := ([.ref (a160 (b + 13)), .int 3, .ref (a160 (b + 5))] : List Value)) (by rw [hg160 (b + 13) (by omega), hg160 (b + 5) (by omega)]) ?_
  refine g_aast C (b + 5) 2 (b + 13) 0 (by omega) (by omega) h167 rfl hx160.1 rfl (by unfold vp_in; decide +kernel) dX5_init_75 ?_
  refine g_cell (fun c171 ec171 => ?_)
  have h172 : RowAt c171 a160 kc (b + 1) (fun _ => 0) (fun _ => 0) (fun _ => 0) 0 := RowAt.move h161 (fun j h1 h2 => (show c171 j = c160 j by rw [ec171, va_up_ne _ _ (by omega)])) (fun _ _ _ => rfl)
  have h173 : c171 (b + 6) = .inl (kc 0, 5, .inl (upd (upd (upd (upd (upd (fun _ => 0) (0 : Int32).toNatClampNeg 6) (1 : Int32).toNatClampNeg 3) (2 : Int32).toNatClampNeg 1) (3 : Int32).toNatClampNeg 5) (4 : Int32).toNatClampNeg 2)) := by rw [(show c171 (b + 6) = c160 (b + 6) by rw [ec171, va_up_ne _ _ (by omega)]), h162]
  have h174 : c171 b = .inr (5, [.ref (a160 (b + 1)), .ref (a160 (b + 5)), .ref (a160 (b + 6)), .int 0, .int 0]) := by rw [(show c171 b = c160 b by rw [ec171, va_up_ne _ _ (by omega)]), h163]
  have h175 : AncAt c171 a160 kc (b + 7) 0 0 (fun _ => 0) := AncAt.move h164 (fun j h1 h2 => (show c171 j = c160 j by rw [ec171, va_up_ne _ _ (by omega)])) (fun _ _ _ => rfl)
  have h176 : AncAt c171 a160 kc (b + 9) 0 0 (fun _ => 0) := AncAt.move h165 (fun j h1 h2 => (show c171 j = c160 j by rw [ec171, va_up_ne _ _ (by omega)])) (fun _ _ _ => rfl)
  have h177 : AncAt c171 a160 kc (b + 11) 0 0 (fun _ => 0) := AncAt.move h166 (fun j h1 h2 => (show c171 j = c160 j by rw [ec171, va_up_ne _ _ (by omega)])) (fun _ _ _ => rfl)
  have h178 : AncAt c171 a160 kc (b + 13) 0 0 (fun _ => 0) := AncAt.move hx160 (fun j h1 h2 => (show c171 j = c160 j by rw [ec171, va_up_ne _ _ (by omega)])) (fun _ _ _ => rfl)
  obtain ⟨g171, h171, hq171⟩ : RArr c171 a160 kc 2 (b + 5) 6 (3 + 1) (b + 7) 2 := by rw [ec171]; exact RArr.put hq168
  have fr179 : ∀ j : Nat, j < b → c171 j = cell j := fun j hj => ((show c171 j = c160 j by rw [ec171, va_up_ne _ _ (by omega)])).trans (fr169 j hj)
  refine g_iinc C 0 [(1, .int 4), (0, .ref (a160 b))] rfl (by decide) (by decide) rfl dX5_init_76 ?_
  refine g_goto C 54 rfl dX5_init_79 ?_
  refine g_iload_n C 0 rfl dX5_init_54 ?_
  refine g_aload_n C 1 rfl dX5_init_55 ?_
  refine g_get C b 5 1 (by omega) h174 rfl in5 (by decide) f20 (fun _ h9 => h9) rfl dX5_init_56 ?_
  refine g_alen C (b + 5) 2 (by omega) h171 rfl 6 rfl dX5_init_59 ?_
  refine g_icmp_ge C 82 rfl dX5_init_60 (fun h => absurd h (by decide)) (fun _ => ?_)
  refine g_aload_n C 1 rfl dX5_init_63 ?_
  refine g_get C b 5 1 (by omega) h174 rfl in5 (by decide) f20 (fun _ h9 => h9) rfl dX5_init_64 ?_
  refine g_iload_n C 0 rfl dX5_init_67 ?_
  refine g_new C 0 rfl in0 tyX0 tyX0_ok w4060299468 w2179451461 w2169198681 [.null, .int 0, .int 0] (by intro j hj; revert j; decide +kernel) (Nat.le_of_ble_eq_true rfl) (Nat.le_of_ble_eq_true rfl) dX5_init_68 (b + 16) (by omega) (fun a180 hg180 C => ?_)
  refine g_cell (fun c180 ec180 => ?_)
  have hc180 : ∀ j : Nat, j < b + 15 → c180 j = c171 j := fun j hj => by rw [ec180, va_up_ne _ _ (by omega)]
  have h181 : RowAt c180 a180 kc (b + 1) (fun _ => 0) (fun _ => 0) (fun _ => 0) 0 := RowAt.move h172 (fun j h1 h2 => hc180 j (by omega)) (fun j h1 h2 => hg180 j (by omega))
  have h182 : c180 (b + 6) = .inl (kc 0, 5, .inl (upd (upd (upd (upd (upd (fun _ => 0) (0 : Int32).toNatClampNeg 6) (1 : Int32).toNatClampNeg 3) (2 : Int32).toNatClampNeg 1) (3 : Int32).toNatClampNeg 5) (4 : Int32).toNatClampNeg 2)) := by rw [hc180 (b + 6) (by omega), h173]
  have h183 : c180 b = .inr (5, [.ref (a180 (b + 1)), .ref (a180 (b + 5)), .ref (a180 (b + 6)), .int 0, .int 0]) := by rw [hc180 b (by omega), h174, hg180 (b + 1) (by omega), hg180 (b + 5) (by omega), hg180 (b + 6) (by omega)]
  have h184 : AncAt c180 a180 kc (b + 7) 0 0 (fun _ => 0) := AncAt.move h175 (fun j h1 h2 => hc180 j (by omega)) (fun j h1 h2 => hg180 j (by omega))
  have h185 : AncAt c180 a180 kc (b + 9) 0 0 (fun _ => 0) := AncAt.move h176 (fun j h1 h2 => hc180 j (by omega)) (fun j h1 h2 => hg180 j (by omega))
  have h186 : AncAt c180 a180 kc (b + 11) 0 0 (fun _ => 0) := AncAt.move h177 (fun j h1 h2 => hc180 j (by omega)) (fun j h1 h2 => hg180 j (by omega))
  have h187 : AncAt c180 a180 kc (b + 13) 0 0 (fun _ => 0) := AncAt.move h178 (fun j h1 h2 => hc180 j (by omega)) (fun j h1 h2 => hg180 j (by omega))
  have h188 : c180 (b + 5) = .inl (kc 2, 6, .inr (.inr (.inr (.inr g171)))) := by rw [hc180 (b + 5) (by omega), h171]
  have hq189 : ∀ k, k < 4 → g171 k = some (a180 (b + 7 + 2 * k)) := fun k hk => by rw [hq171 k hk, hg180 (b + 7 + 2 * k) (by omega)]
  have h190 : c180 (b + 15) = .inr (0, [.null, .int 0, .int 0]) := by rw [ec180]; exact va_up_self _ _ _
  have fr191 : ∀ j : Nat, j < b → c180 j = cell j := fun j hj => (hc180 j (by omega)).trans (fr179 j hj)
  have ag192 : ∀ j : Nat, j < b + 1 → a180 j = adr j := fun j hj => (hg180 j (by omega)).trans (ag170 j hj)
  refine g_eqlv (lv1 := [(1, .int 4), (0, .ref (a180 b))]) (by rw [hg180 b (by omega)]) ?_
  refine g_eqst (st1 := ([.ref (a180 (b + 15)), .int 4, .ref (a180 (b + 5))] : List Value)) (by rw [hg180 (b + 5) (by omega)]) ?_
  refine g_dup C rfl dX5_init_71 ?_
  refine g_ctorN C (c_X0_init l D kc a180 c180 (b + 15) h190) hAO ⟨va_cnB 0 C.2.2.2.2.1 gX5_init_X0_init_n28 rfl rfl rfl (hAO.2.2 (RX5, 28, yX0_init) (by decide +kernel)) w2169198681 ⟨by decide, by decide, by decide +kernel⟩ ⟨Nat.le_of_ble_eq_true rfl, Nat.le_of_ble_eq_true rfl⟩, rfl, w3503756985⟩ (Nat.le_of_ble_eq_true rfl) (Nat.le_of_ble_eq_true rfl) (Nat.le_of_ble_eq_true rfl) dX5_init_72 (b + 17) (by omega) (fun a193 c193 hg193 hp193 C => ?_)
  obtain ⟨hx193, hc193⟩ := hp193
  have h194 : RowAt c193 a193 kc (b + 1) (fun _ => 0) (fun _ => 0) (fun _ => 0) 0 := RowAt.move h181 (fun j h1 h2 => hc193 j (by omega)) (fun j h1 h2 => hg193 j (by omega))
  have h195 : c193 (b + 6) = .inl (kc 0, 5, .inl (upd (upd (upd (upd (upd (fun _ => 0) (0 : Int32).toNatClampNeg 6) (1 : Int32).toNatClampNeg 3) (2 : Int32).toNatClampNeg 1) (3 : Int32).toNatClampNeg 5) (4 : Int32).toNatClampNeg 2)) := by rw [hc193 (b + 6) (by omega), h182]
  have h196 : c193 b = .inr (5, [.ref (a193 (b + 1)), .ref (a193 (b + 5)), .ref (a193 (b + 6)), .int 0, .int 0]) := by rw [hc193 b (by omega), h183, hg193 (b + 1) (by omega), hg193 (b + 5) (by omega), hg193 (b + 6) (by omega)]
  have h197 : AncAt c193 a193 kc (b + 7) 0 0 (fun _ => 0) := AncAt.move h184 (fun j h1 h2 => hc193 j (by omega)) (fun j h1 h2 => hg193 j (by omega))
  have h198 : AncAt c193 a193 kc (b + 9) 0 0 (fun _ => 0) := AncAt.move h185 (fun j h1 h2 => hc193 j (by omega)) (fun j h1 h2 => hg193 j (by omega))
  have h199 : AncAt c193 a193 kc (b + 11) 0 0 (fun _ => 0) := AncAt.move h186 (fun j h1 h2 => hc193 j (by omega)) (fun j h1 h2 => hg193 j (by omega))
  have h200 : AncAt c193 a193 kc (b + 13) 0 0 (fun _ => 0) := AncAt.move h187 (fun j h1 h2 => hc193 j (by omega)) (fun j h1 h2 => hg193 j (by omega))
  have h201 : c193 (b + 5) = .inl (kc 2, 6, .inr (.inr (.inr (.inr g171)))) := by rw [hc193 (b + 5) (by omega), h188]
  have hq202 : ∀ k, k < 4 → g171 k = some (a193 (b + 7 + 2 * k)) := fun k hk => by rw [hq189 k hk, hg193 (b + 7 + 2 * k) (by omega)]
  have fr203 : ∀ j : Nat, j < b → c193 j = cell j := fun j hj => (hc193 j (by omega)).trans (fr191 j hj)
  have ag204 : ∀ j : Nat, j < b + 1 → a193 j = adr j := fun j hj => (hg193 j (by omega)).trans (ag192 j hj)
  refine g_eqlv (lv1 := [(1, .int 4), (0, .ref (a193 b))]) (by rw [hg193 b (by omega)]) ?_
  refine g_eqst (st1 := ([.ref (a193 (b + 15)), .int 4, .ref (a193 (b + 5))] : List Value)) (by rw [hg193 (b + 15) (by omega), hg193 (b + 5) (by omega)]) ?_
  refine g_aast C (b + 5) 2 (b + 15) 0 (by omega) (by omega) h201 rfl hx193.1 rfl (by unfold vp_in; decide +kernel) dX5_init_75 ?_
  refine g_cell (fun c205 ec205 => ?_)
  have h206 : RowAt c205 a193 kc (b + 1) (fun _ => 0) (fun _ => 0) (fun _ => 0) 0 := RowAt.move h194 (fun j h1 h2 => (show c205 j = c193 j by rw [ec205, va_up_ne _ _ (by omega)])) (fun _ _ _ => rfl)
  have h207 : c205 (b + 6) = .inl (kc 0, 5, .inl (upd (upd (upd (upd (upd (fun _ => 0) (0 : Int32).toNatClampNeg 6) (1 : Int32).toNatClampNeg 3) (2 : Int32).toNatClampNeg 1) (3 : Int32).toNatClampNeg 5) (4 : Int32).toNatClampNeg 2)) := by rw [(show c205 (b + 6) = c193 (b + 6) by rw [ec205, va_up_ne _ _ (by omega)]), h195]
  have h208 : c205 b = .inr (5, [.ref (a193 (b + 1)), .ref (a193 (b + 5)), .ref (a193 (b + 6)), .int 0, .int 0]) := by rw [(show c205 b = c193 b by rw [ec205, va_up_ne _ _ (by omega)]), h196]
  have h209 : AncAt c205 a193 kc (b + 7) 0 0 (fun _ => 0) := AncAt.move h197 (fun j h1 h2 => (show c205 j = c193 j by rw [ec205, va_up_ne _ _ (by omega)])) (fun _ _ _ => rfl)
  have h210 : AncAt c205 a193 kc (b + 9) 0 0 (fun _ => 0) := AncAt.move h198 (fun j h1 h2 => (show c205 j = c193 j by rw [ec205, va_up_ne _ _ (by omega)])) (fun _ _ _ => rfl)
  have h211 : AncAt c205 a193 kc (b + 11) 0 0 (fun _ => 0) := AncAt.move h199 (fun j h1 h2 => (show c205 j = c193 j by rw [ec205, va_up_ne _ _ (by omega)])) (fun _ _ _ => rfl)
  have h212 : AncAt c205 a193 kc (b + 13) 0 0 (fun _ => 0) := AncAt.move h200 (fun j h1 h2 => (show c205 j = c193 j by rw [ec205, va_up_ne _ _ (by omega)])) (fun _ _ _ => rfl)
  have h213 : AncAt c205 a193 kc (b + 15) 0 0 (fun _ => 0) := AncAt.move hx193 (fun j h1 h2 => (show c205 j = c193 j by rw [ec205, va_up_ne _ _ (by omega)])) (fun _ _ _ => rfl)
  obtain ⟨g205, h205, hq205⟩ : RArr c205 a193 kc 2 (b + 5) 6 (4 + 1) (b + 7) 2 := by rw [ec205]; exact RArr.put hq202
  have fr214 : ∀ j : Nat, j < b → c205 j = cell j := fun j hj => ((show c205 j = c193 j by rw [ec205, va_up_ne _ _ (by omega)])).trans (fr203 j hj)
  refine g_iinc C 0 [(1, .int 5), (0, .ref (a193 b))] rfl (by decide) (by decide) rfl dX5_init_76 ?_
  refine g_goto C 54 rfl dX5_init_79 ?_
  refine g_iload_n C 0 rfl dX5_init_54 ?_
  refine g_aload_n C 1 rfl dX5_init_55 ?_
  refine g_get C b 5 1 (by omega) h208 rfl in5 (by decide) f20 (fun _ h9 => h9) rfl dX5_init_56 ?_
  refine g_alen C (b + 5) 2 (by omega) h205 rfl 6 rfl dX5_init_59 ?_
  refine g_icmp_ge C 82 rfl dX5_init_60 (fun h => absurd h (by decide)) (fun _ => ?_)
  refine g_aload_n C 1 rfl dX5_init_63 ?_
  refine g_get C b 5 1 (by omega) h208 rfl in5 (by decide) f20 (fun _ h9 => h9) rfl dX5_init_64 ?_
  refine g_iload_n C 0 rfl dX5_init_67 ?_
  refine g_new C 0 rfl in0 tyX0 tyX0_ok w4060299468 w2179451461 w2169198681 [.null, .int 0, .int 0] (by intro j hj; revert j; decide +kernel) (Nat.le_of_ble_eq_true rfl) (Nat.le_of_ble_eq_true rfl) dX5_init_68 (b + 18) (by omega) (fun a215 hg215 C => ?_)
  refine g_cell (fun c215 ec215 => ?_)
  have hc215 : ∀ j : Nat, j < b + 17 → c215 j = c205 j := fun j hj => by rw [ec215, va_up_ne _ _ (by omega)]
  have h216 : RowAt c215 a215 kc (b + 1) (fun _ => 0) (fun _ => 0) (fun _ => 0) 0 := RowAt.move h206 (fun j h1 h2 => hc215 j (by omega)) (fun j h1 h2 => hg215 j (by omega))
  have h217 : c215 (b + 6) = .inl (kc 0, 5, .inl (upd (upd (upd (upd (upd (fun _ => 0) (0 : Int32).toNatClampNeg 6) (1 : Int32).toNatClampNeg 3) (2 : Int32).toNatClampNeg 1) (3 : Int32).toNatClampNeg 5) (4 : Int32).toNatClampNeg 2)) := by rw [hc215 (b + 6) (by omega), h207]
  have h218 : c215 b = .inr (5, [.ref (a215 (b + 1)), .ref (a215 (b + 5)), .ref (a215 (b + 6)), .int 0, .int 0]) := by rw [hc215 b (by omega), h208, hg215 (b + 1) (by omega), hg215 (b + 5) (by omega), hg215 (b + 6) (by omega)]
  have h219 : AncAt c215 a215 kc (b + 7) 0 0 (fun _ => 0) := AncAt.move h209 (fun j h1 h2 => hc215 j (by omega)) (fun j h1 h2 => hg215 j (by omega))
  have h220 : AncAt c215 a215 kc (b + 9) 0 0 (fun _ => 0) := AncAt.move h210 (fun j h1 h2 => hc215 j (by omega)) (fun j h1 h2 => hg215 j (by omega))
  have h221 : AncAt c215 a215 kc (b + 11) 0 0 (fun _ => 0) := AncAt.move h211 (fun j h1 h2 => hc215 j (by omega)) (fun j h1 h2 => hg215 j (by omega))
  have h222 : AncAt c215 a215 kc (b + 13) 0 0 (fun _ => 0) := AncAt.move h212 (fun j h1 h2 => hc215 j (by omega)) (fun j h1 h2 => hg215 j (by omega))
  have h223 : AncAt c215 a215 kc (b + 15) 0 0 (fun _ => 0) := AncAt.move h213 (fun j h1 h2 => hc215 j (by omega)) (fun j h1 h2 => hg215 j (by omega))
  have h224 : c215 (b + 5) = .inl (kc 2, 6, .inr (.inr (.inr (.inr g205)))) := by rw [hc215 (b + 5) (by omega), h205]
  have hq225 : ∀ k, k < 5 → g205 k = some (a215 (b + 7 + 2 * k)) := fun k hk => by rw [hq205 k hk, hg215 (b + 7 + 2 * k) (by omega)]
  have h226 : c215 (b + 17) = .inr (0, [.null, .int 0, .int 0]) := by rw [ec215]; exact va_up_self _ _ _
  have fr227 : ∀ j : Nat, j < b → c215 j = cell j := fun j hj => (hc215 j (by omega)).trans (fr214 j hj)
  have ag228 : ∀ j : Nat, j < b + 1 → a215 j = adr j := fun j hj => (hg215 j (by omega)).trans (ag204 j hj)
  refine g_eqlv (lv1 := [(1, .int 5), (0, .ref (a215 b))]) (by rw [hg215 b (by omega)]) ?_
  refine g_eqst (st1 := ([.ref (a215 (b + 17)), .int 5, .ref (a215 (b + 5))] : List Value)) (by rw [hg215 (b + 5) (by omega)]) ?_
  refine g_dup C rfl dX5_init_71 ?_
  refine g_ctorN C (c_X0_init l D kc a215 c215 (b + 17) h226) hAO ⟨va_cnB 0 C.2.2.2.2.1 gX5_init_X0_init_n28 rfl rfl rfl (hAO.2.2 (RX5, 28, yX0_init) (by decide +kernel)) w2169198681 ⟨by decide, by decide, by decide +kernel⟩ ⟨Nat.le_of_ble_eq_true rfl, Nat.le_of_ble_eq_true rfl⟩, rfl, w3503756985⟩ (Nat.le_of_ble_eq_true rfl) (Nat.le_of_ble_eq_true rfl) (Nat.le_of_ble_eq_true rfl) dX5_init_72 (b + 19) (by omega) (fun a229 c229 hg229 hp229 C => ?_)
  obtain ⟨hx229, hc229⟩ := hp229
  have h230 : RowAt c229 a229 kc (b + 1) (fun _ => 0) (fun _ => 0) (fun _ => 0) 0 := RowAt.move h216 (fun j h1 h2 => hc229 j (by omega)) (fun j h1 h2 => hg229 j (by omega))
  have h231 : c229 (b + 6) = .inl (kc 0, 5, .inl (upd (upd (upd (upd (upd (fun _ => 0) (0 : Int32).toNatClampNeg 6) (1 : Int32).toNatClampNeg 3) (2 : Int32).toNatClampNeg 1) (3 : Int32).toNatClampNeg 5) (4 : Int32).toNatClampNeg 2)) := by rw [hc229 (b + 6) (by omega), h217]
  have h232 : c229 b = .inr (5, [.ref (a229 (b + 1)), .ref (a229 (b + 5)), .ref (a229 (b + 6)), .int 0, .int 0]) := by rw [hc229 b (by omega), h218, hg229 (b + 1) (by omega), hg229 (b + 5) (by omega), hg229 (b + 6) (by omega)]
  have h233 : AncAt c229 a229 kc (b + 7) 0 0 (fun _ => 0) := AncAt.move h219 (fun j h1 h2 => hc229 j (by omega)) (fun j h1 h2 => hg229 j (by omega))
  have h234 : AncAt c229 a229 kc (b + 9) 0 0 (fun _ => 0) := AncAt.move h220 (fun j h1 h2 => hc229 j (by omega)) (fun j h1 h2 => hg229 j (by omega))
  have h235 : AncAt c229 a229 kc (b + 11) 0 0 (fun _ => 0) := AncAt.move h221 (fun j h1 h2 => hc229 j (by omega)) (fun j h1 h2 => hg229 j (by omega))
  have h236 : AncAt c229 a229 kc (b + 13) 0 0 (fun _ => 0) := AncAt.move h222 (fun j h1 h2 => hc229 j (by omega)) (fun j h1 h2 => hg229 j (by omega))
  have h237 : AncAt c229 a229 kc (b + 15) 0 0 (fun _ => 0) := AncAt.move h223 (fun j h1 h2 => hc229 j (by omega)) (fun j h1 h2 => hg229 j (by omega))
  have h238 : c229 (b + 5) = .inl (kc 2, 6, .inr (.inr (.inr (.inr g205)))) := by rw [hc229 (b + 5) (by omega), h224]
  have hq239 : ∀ k, k < 5 → g205 k = some (a229 (b + 7 + 2 * k)) := fun k hk => by rw [hq225 k hk, hg229 (b + 7 + 2 * k) (by omega)]
  have fr240 : ∀ j : Nat, j < b → c229 j = cell j := fun j hj => (hc229 j (by omega)).trans (fr227 j hj)
  have ag241 : ∀ j : Nat, j < b + 1 → a229 j = adr j := fun j hj => (hg229 j (by omega)).trans (ag228 j hj)
  refine g_eqlv (lv1 := [(1, .int 5), (0, .ref (a229 b))]) (by rw [hg229 b (by omega)]) ?_
  refine g_eqst (st1 := ([.ref (a229 (b + 17)), .int 5, .ref (a229 (b + 5))] : List Value)) (by rw [hg229 (b + 17) (by omega), hg229 (b + 5) (by omega)]) ?_
  refine g_aast C (b + 5) 2 (b + 17) 0 (by omega) (by omega) h238 rfl hx229.1 rfl (by unfold vp_in; decide +kernel) dX5_init_75 ?_
  refine g_cell (fun c242 ec242 => ?_)
  have h243 : RowAt c242 a229 kc (b + 1) (fun _ => 0) (fun _ => 0) (fun _ => 0) 0 := RowAt.move h230 (fun j h1 h2 => (show c242 j = c229 j by rw [ec242, va_up_ne _ _ (by omega)])) (fun _ _ _ => rfl)
  have h244 : c242 (b + 6) = .inl (kc 0, 5, .inl (upd (upd (upd (upd (upd (fun _ => 0) (0 : Int32).toNatClampNeg 6) (1 : Int32).toNatClampNeg 3) (2 : Int32).toNatClampNeg 1) (3 : Int32).toNatClampNeg 5) (4 : Int32).toNatClampNeg 2)) := by rw [(show c242 (b + 6) = c229 (b + 6) by rw [ec242, va_up_ne _ _ (by omega)]), h231]
  have h245 : c242 b = .inr (5, [.ref (a229 (b + 1)), .ref (a229 (b + 5)), .ref (a229 (b + 6)), .int 0, .int 0]) := by rw [(show c242 b = c229 b by rw [ec242, va_up_ne _ _ (by omega)]), h232]
  have h246 : AncAt c242 a229 kc (b + 7) 0 0 (fun _ => 0) := AncAt.move h233 (fun j h1 h2 => (show c242 j = c229 j by rw [ec242, va_up_ne _ _ (by omega)])) (fun _ _ _ => rfl)
  have h247 : AncAt c242 a229 kc (b + 9) 0 0 (fun _ => 0) := AncAt.move h234 (fun j h1 h2 => (show c242 j = c229 j by rw [ec242, va_up_ne _ _ (by omega)])) (fun _ _ _ => rfl)
  have h248 : AncAt c242 a229 kc (b + 11) 0 0 (fun _ => 0) := AncAt.move h235 (fun j h1 h2 => (show c242 j = c229 j by rw [ec242, va_up_ne _ _ (by omega)])) (fun _ _ _ => rfl)
  have h249 : AncAt c242 a229 kc (b + 13) 0 0 (fun _ => 0) := AncAt.move h236 (fun j h1 h2 => (show c242 j = c229 j by rw [ec242, va_up_ne _ _ (by omega)])) (fun _ _ _ => rfl)
  have h250 : AncAt c242 a229 kc (b + 15) 0 0 (fun _ => 0) := AncAt.move h237 (fun j h1 h2 => (show c242 j = c229 j by rw [ec242, va_up_ne _ _ (by omega)])) (fun _ _ _ => rfl)
  have h251 : AncAt c242 a229 kc (b + 17) 0 0 (fun _ => 0) := AncAt.move hx229 (fun j h1 h2 => (show c242 j = c229 j by rw [ec242, va_up_ne _ _ (by omega)])) (fun _ _ _ => rfl)
  obtain ⟨g242, h242, hq242⟩ : RArr c242 a229 kc 2 (b + 5) 6 (5 + 1) (b + 7) 2 := by rw [ec242]; exact RArr.put hq239
  have fr252 : ∀ j : Nat, j < b → c242 j = cell j := fun j hj => ((show c242 j = c229 j by rw [ec242, va_up_ne _ _ (by omega)])).trans (fr240 j hj)
  refine g_iinc C 0 [(1, .int 6), (0, .ref (a229 b))] rfl (by decide) (by decide) rfl dX5_init_76 ?_
  refine g_goto C 54 rfl dX5_init_79 ?_
  refine g_iload_n C 0 rfl dX5_init_54 ?_
  refine g_aload_n C 1 rfl dX5_init_55 ?_
  refine g_get C b 5 1 (by omega) h245 rfl in5 (by decide) f20 (fun _ h9 => h9) rfl dX5_init_56 ?_
  refine g_alen C (b + 5) 2 (by omega) h242 rfl 6 rfl dX5_init_59 ?_
  refine g_icmp_ge C 82 rfl dX5_init_60 (fun _ => ?_) (fun h => absurd (by decide) h)
  refine g_kret (by omega) C hr hlk dX5_init_82 ag241 ?_
  refine ⟨⟨h245, h243, ⟨_, h242, hq242⟩, h244, ?_, by show (0 : Nat) ≤ 6; omega⟩, fr252⟩
  intro k hk
  match k, hk with
  | 0, _ => exact h246
  | 1, _ => exact h247
  | 2, _ => exact h248
  | 3, _ => exact h249
  | 4, _ => exact h250
  | 5, _ => exact h251
