set_option maxRecDepth 100000 in
set_option maxHeartbeats 4000000 in
theorem whole_start {p : Program} {e : Env} {s : State} {m : MethodId} {below : List Frame} {meth : Method} {c : Code} (l : Launch) (hflags : l.flags = flags0) {b L : Nat} {xs : Nat → Int32} (hL : L ≤ 2048) (C0 : lw_At p s m meth c b L xs) : W p l e room_1 s m #[Value.ref b] below meth c s.heap [] 0 0 (lw_Z below #[Value.ref b] s) (entryFrame m ([Value.ref b] : List Value).toArray 4) := by
  have C1 := C0
  obtain ⟨hx, hb, hr, hml, hown, hts, hX, hbl, hlocks, hgv⟩ := C1
  have htl : ∀ w ∈ wsL_law, w.before #[Value.ref b] s = true := fun w h => hts w (wsL_law_in w h)
  obtain ⟨D, kc, hK⟩ := law_K hts
  have hAO := law_AO hts
  have hZ := law_Z hts hgv
  have hl := lv_entry ([.ref b]) (n := 4) (Nat.le_of_ble_eq_true rfl)
  rw [lg_entry_eq]
  generalize (lg_sl ([.ref b]) ++ List.replicate (4 - (lg_sl ([.ref b])).length) Slot.unset).toArray = ls at hl ⊢
  have hl : lv_has ls 4 [(0, .ref b)] := hl
  have CA : CX p s m #[Value.ref b] c cL_law RL wsL_law D kc 0 (fun _ => 0) (AL s) s.heap 4 := ⟨hx, hb, hml, hown, htl, hK, fun cell => ⟨fun i j q z h => by simp [wld] at h, fun k q h => by simp [wld] at h⟩, fun q h => h⟩
  refine (?_ : G p l e room_1 s m #[Value.ref b] below meth c D 0 (fun _ => 0) (AL s) s.heap 4 0 0 (lw_Z below #[Value.ref b] s) (fun _ => .inr (0, [])) 0 [(0, .ref b)] []) s.heap [] ls (fun k q h => by simp [wld] at h) va_S.rf hl
  refine g_new CA 6 rfl inlX6 tyX6 tyX6_ok (hts _ cl6) (hts _ it6) (hts _ in6) [.null, .null, .null, .null, .null, .null] (by intro j hj; revert j; decide +kernel) (Nat.le_of_ble_eq_true rfl) (Nat.le_of_ble_eq_true rfl) dL_law_0 1 rfl (fun a1 _ CB => ?_)
  refine g_dup CB rfl dL_law_3 ?_
  refine g_ctor CB (c_X6_init l D kc a1 _ (va_up_self _ _ _)) hAO (cwI 0 CB.2.2.2.2.1 gL_law_X6_init rfl rfl rfl (hts _ in6) (hts _ ml6) (hts _ im6) rfl ⟨by decide, by decide, by decide +kernel⟩ ⟨(Nat.le_of_ble_eq_true rfl), (Nat.le_of_ble_eq_true rfl)⟩) (Nat.le_of_ble_eq_true rfl) (Nat.le_of_ble_eq_true rfl) (Nat.le_of_ble_eq_true rfl) dL_law_4 125 rfl (fun ax cx hg1 hXA CX1 => ?_)
  rw [← hg1 0 (by omega)]
  refine g_astore_n CX1 [(1, .ref (ax 0)), (0, .ref b)] (by decide) rfl dL_law_7 ?_
  intro H locs ls1 hPx hS hl1
  refine va_forget (fun q hq => hS.2.2 q hq) ?_
  have CM : CX p s m #[Value.ref b] c cL_law RL wsL_law D kc 0 (fun _ => 0) (fun q : Nat => H.size ≤ q) H 4 := ⟨hx, hb, hml, hown, htl, hK, fun cell => ⟨fun i j q z h => by simp [wld] at h, fun k q h => by simp [wld] at h⟩, fun q h => h⟩
  refine (?_ : G p l e room_1 s m #[Value.ref b] below meth c D 0 (fun _ => 0) (fun q : Nat => H.size ≤ q) H 4 125 1233 (lw_Z below #[Value.ref b] s) (fun _ => .inr (0, [])) 8 [(1, .ref (ax 0)), (0, .ref b)] []) H [] ls1 (fun k q h => by simp [wld] at h) va_S.rf hl1
  refine g_new CM 7 rfl inlX7 tyX7 tyX7_ok (hts _ cl7) (hts _ it7) (hts _ in7) [.null, .null, .null, .null, .int 0, .null, .int 0, .int 0, .int 0, .null, .null, .null] (by intro j hj; revert j; decide +kernel) (Nat.le_of_ble_eq_true rfl) (Nat.le_of_ble_eq_true rfl) dL_law_8 1 rfl (fun a2 _ CB2 => ?_)
  refine g_dup CB2 rfl dL_law_11 ?_
  refine g_ctor CB2 (c_X7_init l D kc a2 _ (va_up_self _ _ _)) hAO (cwI 0 CB2.2.2.2.2.1 gL_law_X7_init rfl rfl rfl (hts _ in7) (hts _ ml7) (hts _ im7) rfl ⟨by decide, by decide, by decide +kernel⟩ ⟨(Nat.le_of_ble_eq_true rfl), (Nat.le_of_ble_eq_true rfl)⟩) (Nat.le_of_ble_eq_true rfl) (Nat.le_of_ble_eq_true rfl) (Nat.le_of_ble_eq_true rfl) dL_law_12 9 rfl (fun am cm hg2 hMA CX2 => ?_)
  rw [← hg2 0 (by omega)]
  refine g_astore_n CX2 [(2, .ref (am 0)), (1, .ref (ax 0)), (0, .ref b)] (by decide) rfl dL_law_15 ?_
  refine g_iconst CX2 0 (by decide) dL_law_16 ?_
  refine g_istore_n CX2 [(3, .int 0), (2, .ref (am 0)), (1, .ref (ax 0)), (0, .ref b)] (by decide) rfl dL_law_17 ?_
  intro H2 locs2 ls2 hPm hS2 hl2
  have hlx : ∀ i, i < 125 → ax i < H.size := fun i hi => (hPx i _ (wld_at hi rfl)).lt
  have hgm : ∀ j, j < 9 → H.size ≤ am j := fun j hj => (CX2.2.2.2.2.2.2.1 cm).2 j _ (wld_at hj rfl)
  refine va_forget (fun q hq => Nat.le_trans hS.1 (hS2.2.2 q hq)) ?_
  have hPx2 : va_P D vwCl (wld 125 ax cx) H2 := hPx.kept (fun k q hk => by
    obtain ⟨hkl, rfl⟩ := wld_of hk
    exact hS2.2.1 _ (hlx k hkl) (Nat.not_le.mpr (hlx k hkl)))
  have hSL : va_S (AL s) s.heap H2 [] := ⟨Nat.le_trans hS.1 hS2.1, fun q h1 h2 => by
    have h3 : q < H.size := Nat.lt_of_lt_of_le h1 hS.1
    rw [hS2.2.1 q h3 (Nat.not_le.mpr h3)]; exact hS.2.1 q h1 h2, fun q hq => by cases hq⟩
  have CY : CX p s m #[Value.ref b] c cL_law RL wsL_law D kc 9 am (AL s) s.heap 4 := ⟨hx, hb, hml, hown, htl, hK, fun cell => (CX2.2.2.2.2.2.2.1 cell).weaken (fun _ _ _ h => Nat.le_trans hS.1 h), fun q h => h⟩
  have Q0 : LCtx p s m meth c b L xs D kc ax am := ⟨C0, CX1, CY, fun i j hi hj q => absurd (hlx i hi) (Nat.not_lt.mpr (by rw [q]; exact hgm j hj)), hZ, hL⟩
  exact law_loop Q0 (L + 1) 0 (Nat.zero_le _) (by omega) H2 [] ls2 ⟨cx, cm, s00, 0, fun _ => s00, 0, fun _ => 0, hPx2, hPm, hSL, hXA, hMA, ge_s00, fun j hj => absurd hj (Nat.not_lt_zero j)⟩ (lv_sub hl2 [3, 2, 1, 0] rfl)
