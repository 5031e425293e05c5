set_option maxRecDepth 100000 in
set_option maxHeartbeats 4000000 in
theorem c_X0_place (l : Launch) (D : va_G) (kc : Nat → ClassId) (N : Nat) (adr : Nat → Nat) (cell : Nat → va_E) (a : Nat) (p v : Int32) (f : Nat → Int32)  (hA : AncAt cell adr kc a p v f) (hNa : a + 2 ≤ N) : MI l yX0_place wsX0_place ({ frames := 0, cells := 0, slots := 0, locals := 0 }) D kc N adr cell [.ref (adr a)] (fun (w : Int32) (cell1 : Nat → va_E) => p = w ∧ cell = cell1) := by
  refine met_i (cc := cX0_place) (maxL := 1) (ret := (some .int)) (by decide) rfl (Nat.le_of_ble_eq_true rfl) (lv := [(0, .ref (adr a))]) rfl ?_
  intro Pg Ev Sv Mi args below Me Cd Ar C hr hlk hnm
  have in0 : ∀ w ∈ u_ws RX0 TX0 3, w ∈ wsX0_place := by decide +kernel
  have f15 := C.2.2.2.2.1 (.fieldLink RX0 15 "WordAnchors$Anchor" "place" "I") (by decide +kernel)
  obtain ⟨a0, a1⟩ := hA
  have litm1 : ((-1) : Int32).toInt = -1 := rfl
  have lit0 : (0 : Int32).toInt = 0 := rfl
  have lit1 : (1 : Int32).toInt = 1 := rfl
  refine g_aload_n C 0 rfl dX0_place_0 ?_
  refine g_get C a 0 1 (by omega) a0 rfl in0 (by decide) f15 (fun _ h9 => h9) rfl dX0_place_1 ?_
  refine g_iret C hr rfl hlk dX0_place_4 ?_
  exact ⟨by first | rfl | exact bI_1 (by omega) | exact bI_0 (by omega) | exact if_pos (by omega) | exact if_neg (by omega), rfl⟩
set_option maxRecDepth 100000 in
set_option maxHeartbeats 4000000 in
theorem c_X0_truePlace (l : Launch) (D : va_G) (kc : Nat → ClassId) (N : Nat) (adr : Nat → Nat) (cell : Nat → va_E) (a : Nat) (p v : Int32) (f : Nat → Int32)  (hA : AncAt cell adr kc a p v f) (hNa : a + 2 ≤ N) : MI l yX0_truePlace wsX0_truePlace ({ frames := 0, cells := 0, slots := 0, locals := 0 }) D kc N adr cell [.ref (adr a)] (fun (w : Int32) (cell1 : Nat → va_E) => v = w ∧ cell = cell1) := by
  refine met_i (cc := cX0_truePlace) (maxL := 1) (ret := (some .int)) (by decide) rfl (Nat.le_of_ble_eq_true rfl) (lv := [(0, .ref (adr a))]) rfl ?_
  intro Pg Ev Sv Mi args below Me Cd Ar C hr hlk hnm
  have in0 : ∀ w ∈ u_ws RX0 TX0 3, w ∈ wsX0_truePlace := by decide +kernel
  have f19 := C.2.2.2.2.1 (.fieldLink RX0 19 "WordAnchors$Anchor" "truePlace" "I") (by decide +kernel)
  obtain ⟨a0, a1⟩ := hA
  have litm1 : ((-1) : Int32).toInt = -1 := rfl
  have lit0 : (0 : Int32).toInt = 0 := rfl
  have lit1 : (1 : Int32).toInt = 1 := rfl
  refine g_aload_n C 0 rfl dX0_truePlace_0 ?_
  refine g_get C a 0 2 (by omega) a0 rfl in0 (by decide) f19 (fun _ h9 => h9) rfl dX0_truePlace_1 ?_
  refine g_iret C hr rfl hlk dX0_truePlace_4 ?_
  exact ⟨by first | rfl | exact bI_1 (by omega) | exact bI_0 (by omega) | exact if_pos (by omega) | exact if_neg (by omega), rfl⟩
set_option maxRecDepth 100000 in
set_option maxHeartbeats 4000000 in
theorem c_X0_thing (l : Launch) (D : va_G) (kc : Nat → ClassId) (N : Nat) (adr : Nat → Nat) (cell : Nat → va_E) (a : Nat) (p v : Int32) (f : Nat → Int32) (x : Int32) (hA : AncAt cell adr kc a p v f) (hNa : a + 2 ≤ N) : MI l yX0_thing wsX0_thing ({ frames := 0, cells := 0, slots := 0, locals := 0 }) D kc N adr cell [.ref (adr a), .int x] (fun (w : Int32) (cell1 : Nat → va_E) => atF 5 f x = w ∧ cell = cell1) := by
  refine met_i (cc := cX0_thing) (maxL := 2) (ret := (some .int)) (by decide) rfl (Nat.le_of_ble_eq_true rfl) (lv := [(0, .ref (adr a)), (1, .int x)]) rfl ?_
  intro Pg Ev Sv Mi args below Me Cd Ar C hr hlk hnm
  have in0 : ∀ w ∈ u_ws RX0 TX0 3, w ∈ wsX0_thing := by decide +kernel
  have f9 := C.2.2.2.2.1 (.fieldLink RX0 9 "WordAnchors$Anchor" "things" "[I") (by decide +kernel)
  obtain ⟨a0, a1⟩ := hA
  have litm1 : ((-1) : Int32).toInt = -1 := rfl
  have lit0 : (0 : Int32).toInt = 0 := rfl
  have lit1 : (1 : Int32).toInt = 1 := rfl
  have lit5 : (5 : Int32).toInt = 5 := rfl
  refine g_iload_n C 1 rfl dX0_thing_0 ?_
  refine g_if_lt C 22 (by decide) dX0_thing_1 (fun c1 => ?_) (fun c1 => ?_)
  · -- taken at 1
    have c1' := i_lt c1
    refine g_iconst C (-1) (by decide) dX0_thing_22 ?_
    refine g_iret C hr rfl hlk dX0_thing_23 ?_
    exact ⟨by first | rfl | exact bI_1 (by omega) | exact bI_0 (by omega) | exact if_pos (by omega) | exact if_neg (by omega), rfl⟩
  · -- not taken at 1
    have c1' := i_nlt c1
    refine g_iload_n C 1 rfl dX0_thing_4 ?_
    refine g_aload_n C 0 rfl dX0_thing_5 ?_
    refine g_get C a 0 0 (by omega) a0 rfl in0 (by decide) f9 (fun _ h9 => h9) rfl dX0_thing_6 ?_
    refine g_alen C (a + 1) 0 (by omega) a1 rfl 5 rfl dX0_thing_9 ?_
    refine g_icmp_ge C 22 (by decide) dX0_thing_10 (fun c10 => ?_) (fun c10 => ?_)
    · -- taken at 10
      have c10' := i_le c10
      refine g_iconst C (-1) (by decide) dX0_thing_22 ?_
      refine g_iret C hr rfl hlk dX0_thing_23 ?_
      exact ⟨by first | rfl | exact bI_1 (by omega) | exact bI_0 (by omega) | exact if_pos (by omega) | exact if_neg (by omega), rfl⟩
    · -- not taken at 10
      have c10' := i_nle c10
      refine g_aload_n C 0 rfl dX0_thing_13 ?_
      refine g_get C a 0 0 (by omega) a0 rfl in0 (by decide) f9 (fun _ h9 => h9) rfl dX0_thing_14 ?_
      refine g_iload_n C 1 rfl dX0_thing_17 ?_
      refine g_iald C (a + 1) (by omega) a1 (vp_in_iff.mpr (by omega)) dX0_thing_18 ?_
      refine g_goto C 23 (by decide) dX0_thing_19 ?_
      refine g_iret C hr rfl hlk dX0_thing_23 ?_
      exact ⟨by first | rfl | exact bI_1 (by omega) | exact bI_0 (by omega) | exact if_pos (by omega) | exact if_neg (by omega), rfl⟩
set_option maxRecDepth 100000 in
set_option maxHeartbeats 4000000 in
theorem c_X0_goTo (l : Launch) (D : va_G) (kc : Nat → ClassId) (N : Nat) (adr : Nat → Nat) (cell : Nat → va_E) (a : Nat) (p v : Int32) (f : Nat → Int32) (x : Int32) (hA : AncAt cell adr kc a p v f) (hNa : a + 2 ≤ N) : MV l yX0_goTo wsX0_goTo ({ frames := 0, cells := 0, slots := 0, locals := 0 }) D kc N adr cell [.ref (adr a), .int x] (fun (cell1 : Nat → va_E) => AncAt cell1 adr kc a x v f ∧ ∀ j : Nat, (j ≠ a ∧ j ≠ a + 1) → cell1 j = cell j) := by
  refine met_v (cc := cX0_goTo) (maxL := 2) (ret := none) (by decide) rfl (Nat.le_of_ble_eq_true rfl) (lv := [(0, .ref (adr a)), (1, .int x)]) rfl ?_
  intro Pg Ev Sv Mi args below Me Cd Ar C hr hlk hnm
  have in0 : ∀ w ∈ u_ws RX0 TX0 3, w ∈ wsX0_goTo := by decide +kernel
  have f15 := C.2.2.2.2.1 (.fieldLink RX0 15 "WordAnchors$Anchor" "place" "I") (by decide +kernel)
  obtain ⟨a0, a1⟩ := hA
  have litm1 : ((-1) : Int32).toInt = -1 := rfl
  have lit0 : (0 : Int32).toInt = 0 := rfl
  have lit1 : (1 : Int32).toInt = 1 := rfl
  refine g_aload_n C 0 rfl dX0_goTo_0 ?_
  refine g_iload_n C 1 rfl dX0_goTo_1 ?_
  refine g_put C a 0 1 (by omega) a0 rfl in0 tyX0 tyX0_ok nmX0 (by decide) f15 (fun _ h9 => h9) rfl (ty := .int) (by decide +kernel) rfl rfl (Nat.le_of_ble_eq_true rfl) dX0_goTo_2 ?_
  refine g_cell (fun cell1 ec1 => ?_)
  have h_2 : cell1 a = .inr (0, [.ref (adr (a + 1)), .int x, .int v]) := by rw [ec1]; exact va_up_self _ _ _
  have h_3 : cell1 (a + 1) = .inl (kc 0, 5, .inl f) := by rw [ec1, va_up_ne _ _ (by omega)]; exact a1
  have fr_4 : ∀ j : Nat, (j ≠ a ∧ j ≠ a + 1) → cell1 j = cell j := fun j hj => by rw [ec1, va_up_ne _ _ (by omega)]
  refine g_vret C hr hlk dX0_goTo_5 ?_
  exact ⟨⟨h_2, h_3⟩, fr_4⟩
set_option maxRecDepth 100000 in
set_option maxHeartbeats 4000000 in
theorem c_X0_look (l : Launch) (D : va_G) (kc : Nat → ClassId) (N : Nat) (adr : Nat → Nat) (cell : Nat → va_E) (a : Nat) (p v : Int32) (f : Nat → Int32) (r : Nat) (W T U : Nat → Int32) (n : Nat) (hA : AncAt cell adr kc a p v f) (hNa : a + 2 ≤ N) (hR : RowAt cell adr kc r W T U n) (hN : r + 4 ≤ N) (hd : a + 2 ≤ r ∨ r + 4 ≤ a) : MI l yX0_look wsX0_look ({ frames := 1, cells := 0, slots := 0, locals := 21 }) D kc N adr cell [.ref (adr a), .ref (adr r)] (fun (w : Int32) (cell1 : Nat → va_E) => nI (cnt (fun k => decide (f k ≠ lookF n W p k)) 5) = w ∧ AncAt cell1 adr kc a p p (fill (lookF n W p) f 5) ∧ ∀ j : Nat, (j ≠ a ∧ j ≠ a + 1) → cell1 j = cell j) := by
  refine met_i (cc := cX0_look) (maxL := 5) (ret := (some .int)) (by decide) rfl (Nat.le_of_ble_eq_true rfl) (lv := [(0, .ref (adr a)), (1, .ref (adr r))]) rfl ?_
  intro Pg Ev Sv Mi args below Me Cd Ar C hr hlk hnm
  have in0 : ∀ w ∈ u_ws RX0 TX0 3, w ∈ wsX0_look := by decide +kernel
  have f9 := C.2.2.2.2.1 (.fieldLink RX0 9 "WordAnchors$Anchor" "things" "[I") (by decide +kernel)
  have f15 := C.2.2.2.2.1 (.fieldLink RX0 15 "WordAnchors$Anchor" "place" "I") (by decide +kernel)
  have f19 := C.2.2.2.2.1 (.fieldLink RX0 19 "WordAnchors$Anchor" "truePlace" "I") (by decide +kernel)
  obtain ⟨a0, a1⟩ := hA
  obtain ⟨h0, h1, h2, h3, hn⟩ := hR
  have litm1 : ((-1) : Int32).toInt = -1 := rfl
  have lit0 : (0 : Int32).toInt = 0 := rfl
  have lit1 : (1 : Int32).toInt = 1 := rfl
  have lit2 : (2 : Int32).toInt = 2 := rfl
  have lit5 : (5 : Int32).toInt = 5 := rfl
  have tn_n : (nI n).toInt = ((n : Nat) : Int) := nI_toInt (by omega)
  refine g_iconst C 0 (by decide) dX0_look_0 ?_
  refine g_istore_n C [(2, .int 0), (0, .ref (adr a)), (1, .ref (adr r))] (by decide) rfl dX0_look_1 ?_
  refine g_iconst C 0 (by decide) dX0_look_2 ?_
  refine g_istore_n C [(3, .int 0), (2, .int 0), (0, .ref (adr a)), (1, .ref (adr r))] (by decide) rfl dX0_look_3 ?_
  have L4 : ∀ (fu i : Nat) (cl : Nat → va_E) , i ≤ 5 → 5 < i + fu → (q0 : cl a = .inr (0, [.ref (adr (a + 1)), .int p, .int v])) → (q1 : cl (a + 1) = .inl (kc 0, 5, .inl (fill (lookF n W p) f i))) → (g0 : cl r = .inr (4, [.ref (adr (r + 1)), .ref (adr (r + 2)), .ref (adr (r + 3)), .int (nI n)])) → (g1 : cl (r + 1) = .inl (kc 0, 40, .inl W)) → (g2 : cl (r + 2) = .inl (kc 0, 40, .inl T)) → (g3 : cl (r + 3) = .inl (kc 0, 40, .inl U)) → (frl4 : ∀ j : Nat, (j ≠ a ∧ j ≠ a + 1) → cl j = cell j) → G Pg l Ev (headSpec wsX0_look { frames := 1, cells := 0, slots := 0, locals := 21 }).room Sv Mi args below Me Cd D N adr Ar Sv.heap 5 0 0 (MQ below (va_Qi (fun (w : Int32) (cell1 : Nat → va_E) => nI (cnt (fun k => decide (f k ≠ lookF n W p k)) 5) = w ∧ AncAt cell1 adr kc a p p (fill (lookF n W p) f 5) ∧ ∀ j : Nat, (j ≠ a ∧ j ≠ a + 1) → cell1 j = cell j) (fun (cell1 : Nat → va_E) (t : State) => va_P D vwCl (wld N adr cell1) t.heap) Ar) args Sv 0 0 Ar) cl 4 [(0, .ref (adr a)), (1, .ref (adr r)), (2, .int (nI (cnt (fun k => decide (f k ≠ lookF n W p k)) i))), (3, .int (nI i))] ([] : List Value) := by
    intro fu
    induction fu with
    | zero => intro i cl  hle hfu; exact absurd hfu (by omega)
    | succ fu ih =>
      intro i cl  hle4 hfu4 q0 q1 g0 g1 g2 g3 frl4 
      have tn_i : (nI i).toInt = ((i : Nat) : Int) := nI_toInt (by omega)
      refine g_iload_n C 3 rfl dX0_look_4 ?_
      refine g_aload_n C 0 rfl dX0_look_5 ?_
      refine g_get C a 0 0 (by omega) q0 rfl in0 (by decide) f9 (fun _ h9 => h9) rfl dX0_look_6 ?_
      refine g_alen C (a + 1) 0 (by omega) q1 rfl 5 rfl dX0_look_9 ?_
      refine g_icmp_ge C 55 (by decide) dX0_look_10 (fun c10 => ?_) (fun c10 => ?_)
      · -- taken at 10
        have c10' := i_le c10
        obtain rfl : 5 = i := by omega
        refine g_aload_n C 0 rfl dX0_look_55 ?_
        refine g_aload_n C 0 rfl dX0_look_56 ?_
        refine g_get C a 0 1 (by omega) q0 rfl in0 (by decide) f15 (fun _ h9 => h9) rfl dX0_look_57 ?_
        refine g_put C a 0 2 (by omega) q0 rfl in0 tyX0 tyX0_ok nmX0 (by decide) f19 (fun _ h9 => h9) rfl (ty := .int) (by decide +kernel) rfl rfl (Nat.le_of_ble_eq_true rfl) dX0_look_60 ?_
        refine g_cell (fun cell1 ec1 => ?_)
        have h_2 : cell1 a = .inr (0, [.ref (adr (a + 1)), .int p, .int p]) := by rw [ec1]; exact va_up_self _ _ _
        have h_3 : cell1 (a + 1) = .inl (kc 0, 5, .inl (fill (lookF n W p) f 5)) := by rw [ec1, va_up_ne _ _ (by omega)]; exact q1
        have h_4 : cell1 r = .inr (4, [.ref (adr (r + 1)), .ref (adr (r + 2)), .ref (adr (r + 3)), .int (nI n)]) := by rw [ec1, va_up_ne _ _ (by omega)]; exact g0
        have h_5 : cell1 (r + 1) = .inl (kc 0, 40, .inl W) := by rw [ec1, va_up_ne _ _ (by omega)]; exact g1
        have h_6 : cell1 (r + 2) = .inl (kc 0, 40, .inl T) := by rw [ec1, va_up_ne _ _ (by omega)]; exact g2
        have h_7 : cell1 (r + 3) = .inl (kc 0, 40, .inl U) := by rw [ec1, va_up_ne _ _ (by omega)]; exact g3
        have fr_8 : ∀ j : Nat, (j ≠ a ∧ j ≠ a + 1) → cell1 j = cell j := fun j hj => by rw [ec1, va_up_ne _ _ (by omega)]; exact frl4 j hj
        refine g_iload_n C 2 rfl dX0_look_63 ?_
        refine g_iret C hr rfl hlk dX0_look_64 ?_
        exact ⟨rfl, ⟨h_2, h_3⟩, fr_8⟩
      · -- not taken at 10
        have c10' := i_nle c10
        refine g_aload_n C 1 rfl dX0_look_13 ?_
        refine g_aload_n C 0 rfl dX0_look_14 ?_
        refine g_get C a 0 1 (by omega) q0 rfl in0 (by decide) f15 (fun _ h9 => h9) rfl dX0_look_15 ?_
        refine g_iload_n C 3 rfl dX0_look_18 ?_
        refine g_iadd C dX0_look_19 ?_
        refine g_iconst C 2 (by decide) dX0_look_20 ?_
        refine g_isub C dX0_look_21 ?_
        refine g_Vi C [.int ((p + (nI i)) - 2)] r 4 (by omega) g0 rfl (c_X4_at l D kc N adr cl r W T U n ((p + (nI i)) - 2) ⟨g0, g1, g2, g3, by omega⟩ (by omega)) (cwV 1 C.2.2.2.2.1 gX0_look_X4_at rfl rfl rfl (by decide +kernel) ⟨Nat.le_of_ble_eq_true rfl, Nat.le_of_ble_eq_true rfl⟩) rfl rfl (Nat.le_of_ble_eq_true rfl) (Nat.zero_le _) (Nat.zero_le _) dX0_look_22 (fun v9 cell9 q9 => ?_)
        obtain ⟨rfl, rfl⟩ := q9
        refine g_istore C [(4, .int (lookF n W p i)), (0, .ref (adr a)), (1, .ref (adr r)), (2, .int (nI (cnt (fun k => decide (f k ≠ lookF n W p k)) i))), (3, .int (nI i))] (by decide) rfl dX0_look_25 ?_
        refine g_aload_n C 1 rfl dX0_look_27 ?_
        refine g_get C a 0 0 (by omega) q0 rfl in0 (by decide) f9 (fun _ h9 => h9) rfl dX0_look_28 ?_
        refine g_iload_n C 4 rfl dX0_look_31 ?_
        refine g_iald C (a + 1) (by omega) q1 (vp_in_nI (by omega) (by omega)) dX0_look_32 ?_
        refine g_eqst (show ([.int ((fill (lookF n W p) f i) (nI i).toNatClampNeg)] : List Value) = ([.int ((fill (lookF n W p) f i) i)] : List Value) from by rw [nI_clamp (by omega)]) ?_
        refine g_iload C 0 rfl dX0_look_33 ?_
        refine g_icmp_eq C 41 (by decide) dX0_look_35 (fun c35 => ?_) (fun c35 => ?_)
        · -- taken at 35
          have c35' := i_eq c35
          refine g_aload_n C 1 rfl dX0_look_41 ?_
          refine g_get C a 0 0 (by omega) q0 rfl in0 (by decide) f9 (fun _ h9 => h9) rfl dX0_look_42 ?_
          refine g_iload_n C 4 rfl dX0_look_45 ?_
          refine g_iload C 0 rfl dX0_look_46 ?_
          refine g_iast C (a + 1) (by omega) q1 (vp_in_nI (by omega) (by omega)) dX0_look_48 ?_
          refine g_cell (fun cell10 ec10 => ?_)
          have h_11 : cell10 a = .inr (0, [.ref (adr (a + 1)), .int p, .int v]) := by rw [ec10, va_up_ne _ _ (by omega)]; exact q0
          have h_12 : cell10 (a + 1) = .inl (kc 0, 5, .inl (upd (fill (lookF n W p) f i) (nI i).toNatClampNeg (lookF n W p i))) := by rw [ec10]; exact va_up_self _ _ _
          have h_13 : cell10 r = .inr (4, [.ref (adr (r + 1)), .ref (adr (r + 2)), .ref (adr (r + 3)), .int (nI n)]) := by rw [ec10, va_up_ne _ _ (by omega)]; exact g0
          have h_14 : cell10 (r + 1) = .inl (kc 0, 40, .inl W) := by rw [ec10, va_up_ne _ _ (by omega)]; exact g1
          have h_15 : cell10 (r + 2) = .inl (kc 0, 40, .inl T) := by rw [ec10, va_up_ne _ _ (by omega)]; exact g2
          have h_16 : cell10 (r + 3) = .inl (kc 0, 40, .inl U) := by rw [ec10, va_up_ne _ _ (by omega)]; exact g3
          have fr_17 : ∀ j : Nat, (j ≠ a ∧ j ≠ a + 1) → cell10 j = cell j := fun j hj => by rw [ec10, va_up_ne _ _ (by omega)]; exact frl4 j hj
          have h_18 : cell10 (a + 1) = .inl (kc 0, 5, .inl (upd (fill (lookF n W p) f i) i (lookF n W p i))) := by rw [h_12, nI_clamp (by omega)]
          refine g_iinc C 4 [(3, .int (nI (i + 1))), (4, .int (lookF n W p i)), (0, .ref (adr a)), (1, .ref (adr r)), (2, .int (nI (cnt (fun k => decide (f k ≠ lookF n W p k)) i)))] rfl (iinc_nI i) (by decide) rfl dX0_look_49 ?_
          refine g_goto C 4 (by decide) dX0_look_52 ?_
          refine g_sub [2, 3, 4, 0] rfl ?_
          have ev_19 : nI (cnt (fun k => decide (f k ≠ lookF n W p k)) i) = nI (cnt (fun k => decide (f k ≠ lookF n W p k)) (i + 1)) := by first | exact cnt_yes (by have hq := c35; rw [fill_out (Nat.le_refl _)] at hq; simpa using hq) | exact cnt_no (by have hq := c35; rw [fill_out (Nat.le_refl _)] at hq; simpa using hq)
          refine g_eqlv (lv1 := [(0, .ref (adr a)), (1, .ref (adr r)), (2, .int (nI (cnt (fun k => decide (f k ≠ lookF n W p k)) (i + 1)))), (3, .int (nI (i + 1)))]) (congrArg (fun z0 : Int32 => ([(0, .ref (adr a)), (1, .ref (adr r)), (2, .int z0), (3, .int (nI (i + 1)))] : List (Nat × Value))) ev_19) ?_
          have hx_20 : cell10 (a + 1) = .inl (kc 0, 5, .inl (fill (lookF n W p) f (i + 1))) := h_18.trans (congrArg (fun f0 : Nat → Int32 => (.inl (kc 0, 5, .inl f0) : va_E)) (show (upd (fill (lookF n W p) f i) i (lookF n W p i)) = (fill (lookF n W p) f (i + 1)) from by exact fill_upd rfl))
          exact ih (i + 1) _ (by omega) (by omega) h_11 hx_20 h_13 h_14 h_15 h_16 fr_17 
        · -- not taken at 35
          have c35' := i_ne c35
          refine g_iinc C 3 [(2, .int (nI (cnt (fun k => decide (f k ≠ lookF n W p k)) i + 1))), (4, .int (lookF n W p i)), (0, .ref (adr a)), (1, .ref (adr r)), (3, .int (nI i))] rfl (iinc_nI (cnt (fun k => decide (f k ≠ lookF n W p k)) i)) (by decide) rfl dX0_look_38 ?_
          refine g_aload_n C 2 rfl dX0_look_41 ?_
          refine g_get C a 0 0 (by omega) q0 rfl in0 (by decide) f9 (fun _ h9 => h9) rfl dX0_look_42 ?_
          refine g_iload_n C 4 rfl dX0_look_45 ?_
          refine g_iload C 1 rfl dX0_look_46 ?_
          refine g_iast C (a + 1) (by omega) q1 (vp_in_nI (by omega) (by omega)) dX0_look_48 ?_
          refine g_cell (fun cell21 ec21 => ?_)
          have h_22 : cell21 a = .inr (0, [.ref (adr (a + 1)), .int p, .int v]) := by rw [ec21, va_up_ne _ _ (by omega)]; exact q0
          have h_23 : cell21 (a + 1) = .inl (kc 0, 5, .inl (upd (fill (lookF n W p) f i) (nI i).toNatClampNeg (lookF n W p i))) := by rw [ec21]; exact va_up_self _ _ _
          have h_24 : cell21 r = .inr (4, [.ref (adr (r + 1)), .ref (adr (r + 2)), .ref (adr (r + 3)), .int (nI n)]) := by rw [ec21, va_up_ne _ _ (by omega)]; exact g0
          have h_25 : cell21 (r + 1) = .inl (kc 0, 40, .inl W) := by rw [ec21, va_up_ne _ _ (by omega)]; exact g1
          have h_26 : cell21 (r + 2) = .inl (kc 0, 40, .inl T) := by rw [ec21, va_up_ne _ _ (by omega)]; exact g2
          have h_27 : cell21 (r + 3) = .inl (kc 0, 40, .inl U) := by rw [ec21, va_up_ne _ _ (by omega)]; exact g3
          have fr_28 : ∀ j : Nat, (j ≠ a ∧ j ≠ a + 1) → cell21 j = cell j := fun j hj => by rw [ec21, va_up_ne _ _ (by omega)]; exact frl4 j hj
          have h_29 : cell21 (a + 1) = .inl (kc 0, 5, .inl (upd (fill (lookF n W p) f i) i (lookF n W p i))) := by rw [h_23, nI_clamp (by omega)]
          refine g_iinc C 4 [(3, .int (nI (i + 1))), (2, .int (nI (cnt (fun k => decide (f k ≠ lookF n W p k)) i + 1))), (4, .int (lookF n W p i)), (0, .ref (adr a)), (1, .ref (adr r))] rfl (iinc_nI i) (by decide) rfl dX0_look_49 ?_
          refine g_goto C 4 (by decide) dX0_look_52 ?_
          refine g_sub [3, 4, 1, 0] rfl ?_
          have ev_30 : nI (cnt (fun k => decide (f k ≠ lookF n W p k)) i + 1) = nI (cnt (fun k => decide (f k ≠ lookF n W p k)) (i + 1)) := by first | exact cnt_yes (by have hq := c35; rw [fill_out (Nat.le_refl _)] at hq; simpa using hq) | exact cnt_no (by have hq := c35; rw [fill_out (Nat.le_refl _)] at hq; simpa using hq)
          refine g_eqlv (lv1 := [(0, .ref (adr a)), (1, .ref (adr r)), (2, .int (nI (cnt (fun k => decide (f k ≠ lookF n W p k)) (i + 1)))), (3, .int (nI (i + 1)))]) (congrArg (fun z0 : Int32 => ([(0, .ref (adr a)), (1, .ref (adr r)), (2, .int z0), (3, .int (nI (i + 1)))] : List (Nat × Value))) ev_30) ?_
          have hx_31 : cell21 (a + 1) = .inl (kc 0, 5, .inl (fill (lookF n W p) f (i + 1))) := h_29.trans (congrArg (fun f0 : Nat → Int32 => (.inl (kc 0, 5, .inl f0) : va_E)) (show (upd (fill (lookF n W p) f i) i (lookF n W p i)) = (fill (lookF n W p) f (i + 1)) from by exact fill_upd rfl))
          exact ih (i + 1) _ (by omega) (by omega) h_22 hx_31 h_24 h_25 h_26 h_27 fr_28 
  refine g_sub [2, 3, 1, 0] rfl ?_
  have ev_32 : 0 = nI (cnt (fun k => decide (f k ≠ lookF n W p k)) 0) := by rfl
  refine g_eqlv (lv1 := [(0, .ref (adr a)), (1, .ref (adr r)), (2, .int (nI (cnt (fun k => decide (f k ≠ lookF n W p k)) 0))), (3, .int 0)]) (congrArg (fun z0 : Int32 => ([(0, .ref (adr a)), (1, .ref (adr r)), (2, .int z0), (3, .int 0)] : List (Nat × Value))) ev_32) ?_
  have hx_33 : cell (a + 1) = .inl (kc 0, 5, .inl (fill (lookF n W p) f 0)) := a1.trans (congrArg (fun f0 : Nat → Int32 => (.inl (kc 0, 5, .inl f0) : va_E)) (show f = (fill (lookF n W p) f 0) from by exact fill_0))
  exact L4 (5 + 1) 0 _ (by omega) (by omega) a0 hx_33 h0 h1 h2 h3 (fun _ _ => rfl) 
set_option maxRecDepth 100000 in
set_option maxHeartbeats 4000000 in
theorem c_X0_setAt (l : Launch) (D : va_G) (kc : Nat → ClassId) (N : Nat) (adr : Nat → Nat) (cell : Nat → va_E) (a : Nat) (p v : Int32) (f : Nat → Int32) (r : Nat) (W T U : Nat → Int32) (n : Nat) (x : Int32) (hA : AncAt cell adr kc a p v f) (hNa : a + 2 ≤ N) (hR : RowAt cell adr kc r W T U n) (hN : r + 4 ≤ N) (hd : a + 2 ≤ r ∨ r + 4 ≤ a) : MV l yX0_setAt wsX0_setAt ({ frames := 2, cells := 0, slots := 0, locals := 45 }) D kc N adr cell [.ref (adr a), .ref (adr r), .int x] (fun (cell1 : Nat → va_E) => AncAt cell1 adr kc a x x (fill (lookF n W x) f 5) ∧ ∀ j : Nat, (j ≠ a ∧ j ≠ a + 1) → cell1 j = cell j) := by
  refine met_v (cc := cX0_setAt) (maxL := 3) (ret := none) (by decide) rfl (Nat.le_of_ble_eq_true rfl) (lv := [(0, .ref (adr a)), (1, .ref (adr r)), (2, .int x)]) rfl ?_
  intro Pg Ev Sv Mi args below Me Cd Ar C hr hlk hnm
  obtain ⟨a0, a1⟩ := hA
  obtain ⟨h0, h1, h2, h3, hn⟩ := hR
  have litm1 : ((-1) : Int32).toInt = -1 := rfl
  have lit0 : (0 : Int32).toInt = 0 := rfl
  have lit1 : (1 : Int32).toInt = 1 := rfl
  refine g_aload_n C 0 rfl dX0_setAt_0 ?_
  refine g_iload_n C 2 rfl dX0_setAt_1 ?_
  refine g_Vv C [.int x] a 0 (by omega) a0 rfl (c_X0_goTo l D kc N adr cell a p v f x ⟨a0, a1⟩ (by omega)) (cwV 1 C.2.2.2.2.1 gX0_setAt_X0_goTo rfl rfl rfl (by decide +kernel) ⟨Nat.le_of_ble_eq_true rfl, Nat.le_of_ble_eq_true rfl⟩) rfl rfl (Nat.le_of_ble_eq_true rfl) (Nat.zero_le _) (Nat.zero_le _) dX0_setAt_2 (fun cell1 q1 => ?_)
  obtain ⟨⟨g_2, g_3⟩, gf_4⟩ := q1
  have h_5 : cell1 r = .inr (4, [.ref (adr (r + 1)), .ref (adr (r + 2)), .ref (adr (r + 3)), .int (nI n)]) := (gf_4 r (by omega)).trans h0
  have h_6 : cell1 (r + 1) = .inl (kc 0, 40, .inl W) := (gf_4 (r + 1) (by omega)).trans h1
  have h_7 : cell1 (r + 2) = .inl (kc 0, 40, .inl T) := (gf_4 (r + 2) (by omega)).trans h2
  have h_8 : cell1 (r + 3) = .inl (kc 0, 40, .inl U) := (gf_4 (r + 3) (by omega)).trans h3
  have fr_9 : ∀ j : Nat, (j ≠ a ∧ j ≠ a + 1) → cell1 j = cell j := fun j hj => gf_4 j (by omega)
  refine g_aload_n C 0 rfl dX0_setAt_5 ?_
  refine g_aload_n C 1 rfl dX0_setAt_6 ?_
  refine g_Vi C [.ref (adr r)] a 0 (by omega) g_2 rfl (c_X0_look l D kc N adr cell1 a x v f r W T U n  ⟨g_2, g_3⟩ (by omega) ⟨h_5, h_6, h_7, h_8, by omega⟩ (by omega) (by omega)) (cwV 1 C.2.2.2.2.1 gX0_setAt_X0_look rfl rfl rfl (by decide +kernel) ⟨Nat.le_of_ble_eq_true rfl, Nat.le_of_ble_eq_true rfl⟩) rfl rfl (Nat.le_of_ble_eq_true rfl) (Nat.zero_le _) (Nat.zero_le _) dX0_setAt_7 (fun v10 cell10 q10 => ?_)
  obtain ⟨rfl, ⟨g_11, g_12⟩, gf_13⟩ := q10
  have h_14 : cell10 r = .inr (4, [.ref (adr (r + 1)), .ref (adr (r + 2)), .ref (adr (r + 3)), .int (nI n)]) := (gf_13 r (by omega)).trans h_5
  have h_15 : cell10 (r + 1) = .inl (kc 0, 40, .inl W) := (gf_13 (r + 1) (by omega)).trans h_6
  have h_16 : cell10 (r + 2) = .inl (kc 0, 40, .inl T) := (gf_13 (r + 2) (by omega)).trans h_7
  have h_17 : cell10 (r + 3) = .inl (kc 0, 40, .inl U) := (gf_13 (r + 3) (by omega)).trans h_8
  have fr_18 : ∀ j : Nat, (j ≠ a ∧ j ≠ a + 1) → cell10 j = cell j := fun j hj => (gf_13 j (by omega)).trans (fr_9 j hj)
  refine g_pop C rfl dX0_setAt_10 ?_
  refine g_vret C hr hlk dX0_setAt_11 ?_
  exact ⟨⟨g_11, g_12⟩, fr_18⟩
set_option maxRecDepth 100000 in
set_option maxHeartbeats 4000000 in
theorem c_X0_followWord (l : Launch) (D : va_G) (kc : Nat → ClassId) (N : Nat) (adr : Nat → Nat) (cell : Nat → va_E) (a : Nat) (p v : Int32) (f : Nat → Int32) (r : Nat) (W T U : Nat → Int32) (n : Nat) (hA : AncAt cell adr kc a p v f) (hNa : a + 2 ≤ N) (hR : RowAt cell adr kc r W T U n) (hN : r + 4 ≤ N) (hd : a + 2 ≤ r ∨ r + 4 ≤ a) : MV l yX0_followWord wsX0_followWord ({ frames := 1, cells := 0, slots := 0, locals := 21 }) D kc N adr cell [.ref (adr a), .ref (adr r)] (fun (cell1 : Nat → va_E) => AncAt cell1 adr kc a p (atF 40 T v) f ∧ ∀ j : Nat, (j ≠ a ∧ j ≠ a + 1) → cell1 j = cell j) := by
  refine met_v (cc := cX0_followWord) (maxL := 2) (ret := none) (by decide) rfl (Nat.le_of_ble_eq_true rfl) (lv := [(0, .ref (adr a)), (1, .ref (adr r))]) rfl ?_
  intro Pg Ev Sv Mi args below Me Cd Ar C hr hlk hnm
  have in0 : ∀ w ∈ u_ws RX0 TX0 3, w ∈ wsX0_followWord := by decide +kernel
  have f19 := C.2.2.2.2.1 (.fieldLink RX0 19 "WordAnchors$Anchor" "truePlace" "I") (by decide +kernel)
  obtain ⟨a0, a1⟩ := hA
  obtain ⟨h0, h1, h2, h3, hn⟩ := hR
  have litm1 : ((-1) : Int32).toInt = -1 := rfl
  have lit0 : (0 : Int32).toInt = 0 := rfl
  have lit1 : (1 : Int32).toInt = 1 := rfl
  refine g_aload_n C 0 rfl dX0_followWord_0 ?_
  refine g_aload_n C 1 rfl dX0_followWord_1 ?_
  refine g_aload_n C 0 rfl dX0_followWord_2 ?_
  refine g_get C a 0 2 (by omega) a0 rfl in0 (by decide) f19 (fun _ h9 => h9) rfl dX0_followWord_3 ?_
  refine g_Vi C [.int v] r 4 (by omega) h0 rfl (c_X4_targetOf l D kc N adr cell r W T U n v ⟨h0, h1, h2, h3, by omega⟩ (by omega)) (cwV 1 C.2.2.2.2.1 gX0_followWord_X4_targetOf rfl rfl rfl (by decide +kernel) ⟨Nat.le_of_ble_eq_true rfl, Nat.le_of_ble_eq_true rfl⟩) rfl rfl (Nat.le_of_ble_eq_true rfl) (Nat.zero_le _) (Nat.zero_le _) dX0_followWord_6 (fun v1 cell1 q1 => ?_)
  obtain ⟨rfl, rfl⟩ := q1
  refine g_put C a 0 2 (by omega) a0 rfl in0 tyX0 tyX0_ok nmX0 (by decide) f19 (fun _ h9 => h9) rfl (ty := .int) (by decide +kernel) rfl rfl (Nat.le_of_ble_eq_true rfl) dX0_followWord_9 ?_
  refine g_cell (fun cell2 ec2 => ?_)
  have h_3 : cell2 a = .inr (0, [.ref (adr (a + 1)), .int p, .int (atF 40 T v)]) := by rw [ec2]; exact va_up_self _ _ _
  have h_4 : cell2 (a + 1) = .inl (kc 0, 5, .inl f) := by rw [ec2, va_up_ne _ _ (by omega)]; exact a1
  have h_5 : cell2 r = .inr (4, [.ref (adr (r + 1)), .ref (adr (r + 2)), .ref (adr (r + 3)), .int (nI n)]) := by rw [ec2, va_up_ne _ _ (by omega)]; exact h0
  have h_6 : cell2 (r + 1) = .inl (kc 0, 40, .inl W) := by rw [ec2, va_up_ne _ _ (by omega)]; exact h1
  have h_7 : cell2 (r + 2) = .inl (kc 0, 40, .inl T) := by rw [ec2, va_up_ne _ _ (by omega)]; exact h2
  have h_8 : cell2 (r + 3) = .inl (kc 0, 40, .inl U) := by rw [ec2, va_up_ne _ _ (by omega)]; exact h3
  have fr_9 : ∀ j : Nat, (j ≠ a ∧ j ≠ a + 1) → cell2 j = cell j := fun j hj => by rw [ec2, va_up_ne _ _ (by omega)]
  refine g_vret C hr hlk dX0_followWord_12 ?_
  exact ⟨⟨h_3, h_4⟩, fr_9⟩
set_option maxRecDepth 100000 in
set_option maxHeartbeats 4000000 in
theorem c_X0_copyFrom (l : Launch) (D : va_G) (kc : Nat → ClassId) (N : Nat) (adr : Nat → Nat) (cell : Nat → va_E) (a : Nat) (p v : Int32) (f : Nat → Int32) (a2 : Nat) (p2 v2 : Int32) (f2 : Nat → Int32) (hA : AncAt cell adr kc a p v f) (hNa : a + 2 ≤ N) (hA2 : AncAt cell adr kc a2 p2 v2 f2) (hNa2 : a2 + 2 ≤ N) (hd : a + 2 ≤ a2 ∨ a2 + 2 ≤ a) : MV l yX0_copyFrom wsX0_copyFrom ({ frames := 1, cells := 0, slots := 0, locals := 21 }) D kc N adr cell [.ref (adr a), .ref (adr a2)] (fun (cell1 : Nat → va_E) => AncAt cell1 adr kc a p2 v2 (fill f2 f 5) ∧ ∀ j : Nat, (j ≠ a ∧ j ≠ a + 1) → cell1 j = cell j) := by
  refine met_v (cc := cX0_copyFrom) (maxL := 3) (ret := none) (by decide) rfl (Nat.le_of_ble_eq_true rfl) (lv := [(0, .ref (adr a)), (1, .ref (adr a2))]) rfl ?_
  intro Pg Ev Sv Mi args below Me Cd Ar C hr hlk hnm
  have in0 : ∀ w ∈ u_ws RX0 TX0 3, w ∈ wsX0_copyFrom := by decide +kernel
  have f15 := C.2.2.2.2.1 (.fieldLink RX0 15 "WordAnchors$Anchor" "place" "I") (by decide +kernel)
  have f19 := C.2.2.2.2.1 (.fieldLink RX0 19 "WordAnchors$Anchor" "truePlace" "I") (by decide +kernel)
  have f9 := C.2.2.2.2.1 (.fieldLink RX0 9 "WordAnchors$Anchor" "things" "[I") (by decide +kernel)
  obtain ⟨a0, a1⟩ := hA
  obtain ⟨b0, b1⟩ := hA2
  have litm1 : ((-1) : Int32).toInt = -1 := rfl
  have lit0 : (0 : Int32).toInt = 0 := rfl
  have lit1 : (1 : Int32).toInt = 1 := rfl
  have lit5 : (5 : Int32).toInt = 5 := rfl
  refine g_aload_n C 0 rfl dX0_copyFrom_0 ?_
  refine g_aload_n C 1 rfl dX0_copyFrom_1 ?_
  refine g_get C a2 0 1 (by omega) b0 rfl in0 (by decide) f15 (fun _ h9 => h9) rfl dX0_copyFrom_2 ?_
  refine g_put C a 0 1 (by omega) a0 rfl in0 tyX0 tyX0_ok nmX0 (by decide) f15 (fun _ h9 => h9) rfl (ty := .int) (by decide +kernel) rfl rfl (Nat.le_of_ble_eq_true rfl) dX0_copyFrom_5 ?_
  refine g_cell (fun cell1 ec1 => ?_)
  have h_2 : cell1 a = .inr (0, [.ref (adr (a + 1)), .int p2, .int v]) := by rw [ec1]; exact va_up_self _ _ _
  have h_3 : cell1 (a + 1) = .inl (kc 0, 5, .inl f) := by rw [ec1, va_up_ne _ _ (by omega)]; exact a1
  have h_4 : cell1 a2 = .inr (0, [.ref (adr (a2 + 1)), .int p2, .int v2]) := by rw [ec1, va_up_ne _ _ (by omega)]; exact b0
  have h_5 : cell1 (a2 + 1) = .inl (kc 0, 5, .inl f2) := by rw [ec1, va_up_ne _ _ (by omega)]; exact b1
  have fr_6 : ∀ j : Nat, (j ≠ a ∧ j ≠ a + 1) → cell1 j = cell j := fun j hj => by rw [ec1, va_up_ne _ _ (by omega)]
  refine g_aload_n C 0 rfl dX0_copyFrom_8 ?_
  refine g_aload_n C 1 rfl dX0_copyFrom_9 ?_
  refine g_get C a2 0 2 (by omega) h_4 rfl in0 (by decide) f19 (fun _ h9 => h9) rfl dX0_copyFrom_10 ?_
  refine g_put C a 0 2 (by omega) h_2 rfl in0 tyX0 tyX0_ok nmX0 (by decide) f19 (fun _ h9 => h9) rfl (ty := .int) (by decide +kernel) rfl rfl (Nat.le_of_ble_eq_true rfl) dX0_copyFrom_13 ?_
  refine g_cell (fun cell7 ec7 => ?_)
  have h_8 : cell7 a = .inr (0, [.ref (adr (a + 1)), .int p2, .int v2]) := by rw [ec7]; exact va_up_self _ _ _
  have h_9 : cell7 (a + 1) = .inl (kc 0, 5, .inl f) := by rw [ec7, va_up_ne _ _ (by omega)]; exact h_3
  have h_10 : cell7 a2 = .inr (0, [.ref (adr (a2 + 1)), .int p2, .int v2]) := by rw [ec7, va_up_ne _ _ (by omega)]; exact h_4
  have h_11 : cell7 (a2 + 1) = .inl (kc 0, 5, .inl f2) := by rw [ec7, va_up_ne _ _ (by omega)]; exact h_5
  have fr_12 : ∀ j : Nat, (j ≠ a ∧ j ≠ a + 1) → cell7 j = cell j := fun j hj => by rw [ec7, va_up_ne _ _ (by omega)]; exact fr_6 j hj
  refine g_iconst C 0 (by decide) dX0_copyFrom_16 ?_
  refine g_istore_n C [(2, .int 0), (0, .ref (adr a)), (1, .ref (adr a2))] (by decide) rfl dX0_copyFrom_17 ?_
  have L18 : ∀ (fu i : Nat) (cl : Nat → va_E) , i ≤ 5 → 5 < i + fu → (q0 : cl a = .inr (0, [.ref (adr (a + 1)), .int p2, .int v2])) → (q1 : cl (a + 1) = .inl (kc 0, 5, .inl (fill f2 f i))) → (q2 : cl a2 = .inr (0, [.ref (adr (a2 + 1)), .int p2, .int v2])) → (q3 : cl (a2 + 1) = .inl (kc 0, 5, .inl f2)) → (frl18 : ∀ j : Nat, (j ≠ a ∧ j ≠ a + 1) → cl j = cell j) → G Pg l Ev (headSpec wsX0_copyFrom { frames := 1, cells := 0, slots := 0, locals := 21 }).room Sv Mi args below Me Cd D N adr Ar Sv.heap 3 0 0 (MQ below (va_Qv (fun (cell1 : Nat → va_E) => AncAt cell1 adr kc a p2 v2 (fill f2 f 5) ∧ ∀ j : Nat, (j ≠ a ∧ j ≠ a + 1) → cell1 j = cell j) (fun (cell1 : Nat → va_E) (t : State) => va_P D vwCl (wld N adr cell1) t.heap) Ar) args Sv 0 0 Ar) cl 18 [(0, .ref (adr a)), (1, .ref (adr a2)), (2, .int (nI i))] ([] : List Value) := by
    intro fu
    induction fu with
    | zero => intro i cl  hle hfu; exact absurd hfu (by omega)
    | succ fu ih =>
      intro i cl  hle18 hfu18 q0 q1 q2 q3 frl18 
      have tn_i : (nI i).toInt = ((i : Nat) : Int) := nI_toInt (by omega)
      refine g_iload_n C 2 rfl dX0_copyFrom_18 ?_
      refine g_aload_n C 0 rfl dX0_copyFrom_19 ?_
      refine g_get C a 0 0 (by omega) q0 rfl in0 (by decide) f9 (fun _ h9 => h9) rfl dX0_copyFrom_20 ?_
      refine g_alen C (a + 1) 0 (by omega) q1 rfl 5 rfl dX0_copyFrom_23 ?_
      refine g_icmp_ge C 44 (by decide) dX0_copyFrom_24 (fun c24 => ?_) (fun c24 => ?_)
      · -- taken at 24
        have c24' := i_le c24
        obtain rfl : 5 = i := by omega
        refine g_vret C hr hlk dX0_copyFrom_44 ?_
        exact ⟨⟨q0, q1⟩, frl18⟩
      · -- not taken at 24
        have c24' := i_nle c24
        refine g_aload_n C 0 rfl dX0_copyFrom_27 ?_
        refine g_get C a 0 0 (by omega) q0 rfl in0 (by decide) f9 (fun _ h9 => h9) rfl dX0_copyFrom_28 ?_
        refine g_iload_n C 2 rfl dX0_copyFrom_31 ?_
        refine g_aload_n C 1 rfl dX0_copyFrom_32 ?_
        refine g_iload_n C 2 rfl dX0_copyFrom_33 ?_
        refine g_Vi C [.int (nI i)] a2 0 (by omega) q2 rfl (c_X0_thing l D kc N adr cl a2 p2 v2 f2 (nI i) ⟨q2, q3⟩ (by omega)) (cwV 1 C.2.2.2.2.1 gX0_copyFrom_X0_thing rfl rfl rfl (by decide +kernel) ⟨Nat.le_of_ble_eq_true rfl, Nat.le_of_ble_eq_true rfl⟩) rfl rfl (Nat.le_of_ble_eq_true rfl) (Nat.zero_le _) (Nat.zero_le _) dX0_copyFrom_34 (fun v13 cell13 q13 => ?_)
        obtain ⟨rfl, rfl⟩ := q13
        refine g_eqst (st1 := ([.int (f2 i), .int (nI i), .ref (adr (a + 1))] : List Value)) (by rw [atF_nI (by omega) (by omega)]) ?_
        refine g_iast C (a + 1) (by omega) q1 (vp_in_nI (by omega) (by omega)) dX0_copyFrom_37 ?_
        refine g_cell (fun cell15 ec15 => ?_)
        have h_16 : cell15 a = .inr (0, [.ref (adr (a + 1)), .int p2, .int v2]) := by rw [ec15, va_up_ne _ _ (by omega)]; exact q0
        have h_17 : cell15 (a + 1) = .inl (kc 0, 5, .inl (upd (fill f2 f i) (nI i).toNatClampNeg (f2 i))) := by rw [ec15]; exact va_up_self _ _ _
        have h_18 : cell15 a2 = .inr (0, [.ref (adr (a2 + 1)), .int p2, .int v2]) := by rw [ec15, va_up_ne _ _ (by omega)]; exact q2
        have h_19 : cell15 (a2 + 1) = .inl (kc 0, 5, .inl f2) := by rw [ec15, va_up_ne _ _ (by omega)]; exact q3
        have fr_20 : ∀ j : Nat, (j ≠ a ∧ j ≠ a + 1) → cell15 j = cell j := fun j hj => by rw [ec15, va_up_ne _ _ (by omega)]; exact frl18 j hj
        have h_21 : cell15 (a + 1) = .inl (kc 0, 5, .inl (upd (fill f2 f i) i (f2 i))) := by rw [h_17, nI_clamp (by omega)]
        refine g_iinc C 2 [(2, .int (nI (i + 1))), (0, .ref (adr a)), (1, .ref (adr a2))] rfl (iinc_nI i) (by decide) rfl dX0_copyFrom_38 ?_
        refine g_goto C 18 (by decide) dX0_copyFrom_41 ?_
        refine g_sub [1, 2, 0] rfl ?_
        have hx_22 : cell15 (a + 1) = .inl (kc 0, 5, .inl (fill f2 f (i + 1))) := h_21.trans (congrArg (fun f0 : Nat → Int32 => (.inl (kc 0, 5, .inl f0) : va_E)) (show (upd (fill f2 f i) i (f2 i)) = (fill f2 f (i + 1)) from by exact fill_upd rfl))
        exact ih (i + 1) _ (by omega) (by omega) h_16 hx_22 h_18 h_19 fr_20 
  refine g_sub [1, 2, 0] rfl ?_
  have hx_23 : cell7 (a + 1) = .inl (kc 0, 5, .inl (fill f2 f 0)) := h_9.trans (congrArg (fun f0 : Nat → Int32 => (.inl (kc 0, 5, .inl f0) : va_E)) (show f = (fill f2 f 0) from by exact fill_0))
  exact L18 (5 + 1) 0 _ (by omega) (by omega) h_8 hx_23 h_10 h_11 fr_12 
