set_option maxRecDepth 100000 in
set_option maxHeartbeats 4000000 in
theorem whole_start {p : Program} {e : Env} {s : State} {m : MethodId} {below : List Frame} {meth : Method} {c : Code} (l : Launch) (hflags : l.flags = flags0) {b L : Nat} {xs : Nat → Int32} (hL : L ≤ 260) (C0 : lw_At p s m meth c b L xs) : W p l e room_1 s m #[Value.ref b] below meth c s.heap [] 0 0 (lw_Z below #[Value.ref b] s) (entryFrame m ([Value.ref b] : List Value).toArray 5) := by
  have C1 := C0
  obtain ⟨hx, hb, hr, hml, hown, hts, hX, hbl, hlocks, hgv⟩ := C1
  have htl : ∀ w ∈ wsL_law, w.before #[Value.ref b] s = true := fun w h => hts w (wsL_law_in w h)
  obtain ⟨D, kc, hK⟩ := law_K hts
  have hAO := law_AO hts
  have hl := lv_entry ([.ref b]) (n := 5) (Nat.le_of_ble_eq_true rfl)
  rw [lg_entry_eq]
  generalize (lg_sl ([.ref b]) ++ List.replicate (5 - (lg_sl ([.ref b])).length) Slot.unset).toArray = ls at hl ⊢
  have hl : lv_has ls 5 [(0, .ref b)] := hl
  have CA : CX p s m #[Value.ref b] c cL_law RL wsL_law D kc 0 (fun _ => 0) (AL s) s.heap 5 := ⟨hx, hb, hml, hown, htl, hK, fun cell => ⟨fun i j q z h => by simp [wld] at h, fun k q h => by simp [wld] at h⟩, fun q h => h⟩
  refine (?_ : G p l e room_1 s m #[Value.ref b] below meth c D 0 (fun _ => 0) (AL s) s.heap 5 0 0 (lw_Z below #[Value.ref b] s) (fun _ => .inr (0, [])) 0 [(0, .ref b)] []) s.heap [] ls (fun k q h => by simp [wld] at h) va_S.rf hl
  refine g_new CA 6 rfl inlX6 tyX6 tyX6_ok (hts _ cl6) (hts _ it6) (hts _ in6) [.null, .null, .null, .null, .null, .null] (by intro j hj; revert j; decide +kernel) (Nat.le_of_ble_eq_true rfl) (Nat.le_of_ble_eq_true rfl) dL_law_0 1 rfl (fun a1 _ CB => ?_)
  refine g_dup CB rfl dL_law_3 ?_
  refine g_ctor CB (c_X6_init l D kc a1 _ (va_up_self _ _ _)) hAO (cwI 0 CB.2.2.2.2.1 gL_law_X6_init rfl rfl rfl (hts _ in6) (hts _ ml6) (hts _ im6) rfl ⟨by decide, by decide, by decide +kernel⟩ ⟨(Nat.le_of_ble_eq_true rfl), (Nat.le_of_ble_eq_true rfl)⟩) (Nat.le_of_ble_eq_true rfl) (Nat.le_of_ble_eq_true rfl) (Nat.le_of_ble_eq_true rfl) dL_law_4 125 rfl (fun ax cx hg1 hXA CX1 => ?_)
  rw [← hg1 0 (by omega)]
  refine g_astore_n CX1 [(1, .ref (ax 0)), (0, .ref b)] (by decide) rfl dL_law_7 ?_
  exact law_body l hL C0 CX1 hXA
