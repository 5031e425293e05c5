set_option maxRecDepth 100000 in
set_option maxHeartbeats 4000000 in
theorem lc_put {p : Program} {l : Launch} {e : Env} {s : State} {m : MethodId} {below : List Frame} {meth : Method} {c : Code} {b L : Nat} {xs : Nat → Int32} {D : va_G} {kc : Nat → ClassId} {ax am : Nat → Nat} (Q0 : LCtx p s m meth c b L xs D kc ax am) {i : Nat} (hi4 : i + 4 ≤ L) {H : Heap} {locs : List Loc} {ls : Array Slot} (hI : LI D kc s ax am H locs) (hl : lv_has ls 4 [(0, .ref b), (1, .ref (ax 0)), (2, .ref (am 0)), (3, .int (nI i))]) (kk : ∀ (H1 : Heap) (locs1 : List Loc), LI D kc s ax am H1 locs1 → W p l e room_1 s m #[Value.ref b] below meth c H1 locs1 134 1984 (lw_Z below #[Value.ref b] s) (F0 m 746 ls [])) : W p l e room_1 s m #[Value.ref b] below meth c H locs 134 1984 (lw_Z below #[Value.ref b] s) (F0 m 144 ls []) := by
  obtain ⟨C0, CX1, CX2, hap, hZ, hL⟩ := Q0
  obtain ⟨hx, hb, hr, hml, hown, hts, hX, hbl, hlocks, hgv⟩ := C0
  have hbA : ¬ AL s b := Nat.not_le.mpr hbl
  have hap2 : ∀ i j, i < 9 → j < 125 → am i ≠ ax j := fun i j h1 h2 q => hap j i h2 h1 q.symm
  obtain ⟨cx, cm, σ, hn, hh, T, ch, hPx, hPm, hS, hXA, hMA, hg, hgh⟩ := hI
  obtain ⟨fs, hm0⟩ := hMA.c0
  have hin1 : vp_in (nI i + 1) L := by rw [show nI i + 1 = nI (i + 1) from mI_add i 1]; exact vp_in_nI (by omega) (by omega)
  have hin2 : vp_in (nI i + 2) L := by rw [show nI i + 2 = nI (i + 2) from mI_add i 2]; exact vp_in_nI (by omega) (by omega)
  refine lv_aload_n hx hb dL_law_144 rfl (lv_at hl 1 rfl) ?_
  refine lv_aload_n hx hb dL_law_145 rfl (lv_at hl 0 rfl) ?_
  refine lv_iload_n hx hb dL_law_146 rfl (lv_at hl 3 rfl) ?_
  refine lv_iconst (v := 1) hx hb dL_law_147 (by decide) ?_
  refine lv_iadd hx hb dL_law_148 ?_
  refine va_sld hx hb hX hbl hbA hS hin1 dL_law_149 ?_
  refine lv_aload_n hx hb dL_law_150 rfl (lv_at hl 0 rfl) ?_
  refine lv_iload_n hx hb dL_law_151 rfl (lv_at hl 3 rfl) ?_
  refine lv_iconst (v := 2) hx hb dL_law_152 (by decide) ?_
  refine lv_iadd hx hb dL_law_153 ?_
  refine va_sld hx hb hX hbl hbA hS hin2 dL_law_154 ?_
  refine lw_call CX1 hap [.int (xs (nI i + 1).toNatClampNeg), .int (xs (nI i + 2).toNatClampNeg)] 6 (by omega) hXA.1 rfl (c_X6_put l D kc 125 ax cx σ hn hh T ch (xs (nI i + 1).toNatClampNeg) (xs (nI i + 2).toNatClampNeg) hXA hg.1 (Nat.le_refl 125)) (cwV 2 CX1.2.2.2.2.1 gL_law_X6_put rfl rfl rfl (by decide +kernel) ⟨(Nat.le_of_ble_eq_true rfl), (Nat.le_of_ble_eq_true rfl)⟩) rfl rfl (Nat.le_of_ble_eq_true rfl) (Nat.le_of_ble_eq_true rfl) (Nat.le_of_ble_eq_true rfl) dL_law_155 hPx hPm hS hl (fun r1 cx1 H1 locs1 hp1 hPx1 hPm1 hS1 => ?_)
  obtain ⟨rfl, hx1⟩ := hp1
  refine lv_aload_n hx hb dL_law_158 rfl (lv_at hl 2 rfl) ?_
  refine lv_aload_n hx hb dL_law_159 rfl (lv_at hl 0 rfl) ?_
  refine lv_iload_n hx hb dL_law_160 rfl (lv_at hl 3 rfl) ?_
  refine lv_iconst (v := 1) hx hb dL_law_161 (by decide) ?_
  refine lv_iadd hx hb dL_law_162 ?_
  refine va_sld hx hb hX hbl hbA hS1 hin1 dL_law_163 ?_
  refine lv_aload_n hx hb dL_law_164 rfl (lv_at hl 0 rfl) ?_
  refine lv_iload_n hx hb dL_law_165 rfl (lv_at hl 3 rfl) ?_
  refine lv_iconst (v := 2) hx hb dL_law_166 (by decide) ?_
  refine lv_iadd hx hb dL_law_167 ?_
  refine va_sld hx hb hX hbl hbA hS1 hin2 dL_law_168 ?_
  refine lw_call CX2 hap2 [.int (xs (nI i + 1).toNatClampNeg), .int (xs (nI i + 2).toNatClampNeg)] 7 (by omega) hm0 rfl (c_X7_put l D kc 9 am cm σ hn hh T ch (xs (nI i + 1).toNatClampNeg) (xs (nI i + 2).toNatClampNeg) hMA hg.1 (Nat.le_refl 9) (fun j hj => (hgh j hj).1)) (cwV 2 CX2.2.2.2.2.1 gL_law_X7_put rfl rfl rfl (by decide +kernel) ⟨(Nat.le_of_ble_eq_true rfl), (Nat.le_of_ble_eq_true rfl)⟩) rfl rfl (Nat.le_of_ble_eq_true rfl) (Nat.le_of_ble_eq_true rfl) (Nat.le_of_ble_eq_true rfl) dL_law_169 hPm1 hPx1 hS1 hl (fun r2 cm2 H2 locs2 hp2 hPm2 hPx2 hS2 => ?_)
  obtain ⟨rfl, hm2⟩ := hp2
  refine lv_icmp_eq (tgt := 746) hx hb dL_law_172 (by decide) (fun _ => ?_) (fun hc => absurd rfl hc)
  have hge := ge_nx hg hgh hMA.h4 (ge_put (p := (xs (nI i + 1).toNatClampNeg)) (w := (xs (nI i + 2).toNatClampNeg)) hg)
  exact kk _ _ ⟨_, _, _, _, _, _, _, hPx2, hPm2, hS2, hx1, hm2, hge.1, hge.2⟩
set_option maxRecDepth 100000 in
set_option maxHeartbeats 4000000 in
theorem lc_take {p : Program} {l : Launch} {e : Env} {s : State} {m : MethodId} {below : List Frame} {meth : Method} {c : Code} {b L : Nat} {xs : Nat → Int32} {D : va_G} {kc : Nat → ClassId} {ax am : Nat → Nat} (Q0 : LCtx p s m meth c b L xs D kc ax am) {i : Nat} (hi4 : i + 4 ≤ L) {H : Heap} {locs : List Loc} {ls : Array Slot} (hI : LI D kc s ax am H locs) (hl : lv_has ls 4 [(0, .ref b), (1, .ref (ax 0)), (2, .ref (am 0)), (3, .int (nI i))]) (kk : ∀ (H1 : Heap) (locs1 : List Loc), LI D kc s ax am H1 locs1 → W p l e room_1 s m #[Value.ref b] below meth c H1 locs1 134 1984 (lw_Z below #[Value.ref b] s) (F0 m 746 ls [])) : W p l e room_1 s m #[Value.ref b] below meth c H locs 134 1984 (lw_Z below #[Value.ref b] s) (F0 m 177 ls []) := by
  obtain ⟨C0, CX1, CX2, hap, hZ, hL⟩ := Q0
  obtain ⟨hx, hb, hr, hml, hown, hts, hX, hbl, hlocks, hgv⟩ := C0
  have hbA : ¬ AL s b := Nat.not_le.mpr hbl
  have hap2 : ∀ i j, i < 9 → j < 125 → am i ≠ ax j := fun i j h1 h2 q => hap j i h2 h1 q.symm
  obtain ⟨cx, cm, σ, hn, hh, T, ch, hPx, hPm, hS, hXA, hMA, hg, hgh⟩ := hI
  obtain ⟨fs, hm0⟩ := hMA.c0
  have hin1 : vp_in (nI i + 1) L := by rw [show nI i + 1 = nI (i + 1) from mI_add i 1]; exact vp_in_nI (by omega) (by omega)
  refine lv_aload_n hx hb dL_law_177 rfl (lv_at hl 1 rfl) ?_
  refine lv_aload_n hx hb dL_law_178 rfl (lv_at hl 0 rfl) ?_
  refine lv_iload_n hx hb dL_law_179 rfl (lv_at hl 3 rfl) ?_
  refine lv_iconst (v := 1) hx hb dL_law_180 (by decide) ?_
  refine lv_iadd hx hb dL_law_181 ?_
  refine va_sld hx hb hX hbl hbA hS hin1 dL_law_182 ?_
  refine lw_call CX1 hap [.int (xs (nI i + 1).toNatClampNeg)] 6 (by omega) hXA.1 rfl (c_X6_take l D kc 125 ax cx σ hn hh T ch (xs (nI i + 1).toNatClampNeg) hXA hg.1 (Nat.le_refl 125)) (cwV 1 CX1.2.2.2.2.1 gL_law_X6_take rfl rfl rfl (by decide +kernel) ⟨(Nat.le_of_ble_eq_true rfl), (Nat.le_of_ble_eq_true rfl)⟩) rfl rfl (Nat.le_of_ble_eq_true rfl) (Nat.le_of_ble_eq_true rfl) (Nat.le_of_ble_eq_true rfl) dL_law_183 hPx hPm hS hl (fun r1 cx1 H1 locs1 hp1 hPx1 hPm1 hS1 => ?_)
  obtain ⟨rfl, hx1⟩ := hp1
  refine lv_aload_n hx hb dL_law_186 rfl (lv_at hl 2 rfl) ?_
  refine lv_aload_n hx hb dL_law_187 rfl (lv_at hl 0 rfl) ?_
  refine lv_iload_n hx hb dL_law_188 rfl (lv_at hl 3 rfl) ?_
  refine lv_iconst (v := 1) hx hb dL_law_189 (by decide) ?_
  refine lv_iadd hx hb dL_law_190 ?_
  refine va_sld hx hb hX hbl hbA hS1 hin1 dL_law_191 ?_
  refine lw_call CX2 hap2 [.int (xs (nI i + 1).toNatClampNeg)] 7 (by omega) hm0 rfl (c_X7_take l D kc 9 am cm σ hn hh T ch (xs (nI i + 1).toNatClampNeg) hMA hg.1 (Nat.le_refl 9) (fun j hj => (hgh j hj).1)) (cwV 1 CX2.2.2.2.2.1 gL_law_X7_take rfl rfl rfl (by decide +kernel) ⟨(Nat.le_of_ble_eq_true rfl), (Nat.le_of_ble_eq_true rfl)⟩) rfl rfl (Nat.le_of_ble_eq_true rfl) (Nat.le_of_ble_eq_true rfl) (Nat.le_of_ble_eq_true rfl) dL_law_192 hPm1 hPx1 hS1 hl (fun r2 cm2 H2 locs2 hp2 hPm2 hPx2 hS2 => ?_)
  obtain ⟨rfl, hm2⟩ := hp2
  refine lv_icmp_eq (tgt := 746) hx hb dL_law_195 (by decide) (fun _ => ?_) (fun hc => absurd rfl hc)
  have hge := ge_nx hg hgh hMA.h4 (ge_take (p := (xs (nI i + 1).toNatClampNeg)) hg)
  exact kk _ _ ⟨_, _, _, _, _, _, _, hPx2, hPm2, hS2, hx1, hm2, hge.1, hge.2⟩
set_option maxRecDepth 100000 in
set_option maxHeartbeats 4000000 in
theorem lc_change {p : Program} {l : Launch} {e : Env} {s : State} {m : MethodId} {below : List Frame} {meth : Method} {c : Code} {b L : Nat} {xs : Nat → Int32} {D : va_G} {kc : Nat → ClassId} {ax am : Nat → Nat} (Q0 : LCtx p s m meth c b L xs D kc ax am) {i : Nat} (hi4 : i + 4 ≤ L) {H : Heap} {locs : List Loc} {ls : Array Slot} (hI : LI D kc s ax am H locs) (hl : lv_has ls 4 [(0, .ref b), (1, .ref (ax 0)), (2, .ref (am 0)), (3, .int (nI i))]) (kk : ∀ (H1 : Heap) (locs1 : List Loc), LI D kc s ax am H1 locs1 → W p l e room_1 s m #[Value.ref b] below meth c H1 locs1 134 1984 (lw_Z below #[Value.ref b] s) (F0 m 746 ls [])) : W p l e room_1 s m #[Value.ref b] below meth c H locs 134 1984 (lw_Z below #[Value.ref b] s) (F0 m 200 ls []) := by
  obtain ⟨C0, CX1, CX2, hap, hZ, hL⟩ := Q0
  obtain ⟨hx, hb, hr, hml, hown, hts, hX, hbl, hlocks, hgv⟩ := C0
  have hbA : ¬ AL s b := Nat.not_le.mpr hbl
  have hap2 : ∀ i j, i < 9 → j < 125 → am i ≠ ax j := fun i j h1 h2 q => hap j i h2 h1 q.symm
  obtain ⟨cx, cm, σ, hn, hh, T, ch, hPx, hPm, hS, hXA, hMA, hg, hgh⟩ := hI
  obtain ⟨fs, hm0⟩ := hMA.c0
  have hin1 : vp_in (nI i + 1) L := by rw [show nI i + 1 = nI (i + 1) from mI_add i 1]; exact vp_in_nI (by omega) (by omega)
  have hin2 : vp_in (nI i + 2) L := by rw [show nI i + 2 = nI (i + 2) from mI_add i 2]; exact vp_in_nI (by omega) (by omega)
  refine lv_aload_n hx hb dL_law_200 rfl (lv_at hl 1 rfl) ?_
  refine lv_aload_n hx hb dL_law_201 rfl (lv_at hl 0 rfl) ?_
  refine lv_iload_n hx hb dL_law_202 rfl (lv_at hl 3 rfl) ?_
  refine lv_iconst (v := 1) hx hb dL_law_203 (by decide) ?_
  refine lv_iadd hx hb dL_law_204 ?_
  refine va_sld hx hb hX hbl hbA hS hin1 dL_law_205 ?_
  refine lv_aload_n hx hb dL_law_206 rfl (lv_at hl 0 rfl) ?_
  refine lv_iload_n hx hb dL_law_207 rfl (lv_at hl 3 rfl) ?_
  refine lv_iconst (v := 2) hx hb dL_law_208 (by decide) ?_
  refine lv_iadd hx hb dL_law_209 ?_
  refine va_sld hx hb hX hbl hbA hS hin2 dL_law_210 ?_
  refine lw_call CX1 hap [.int (xs (nI i + 1).toNatClampNeg), .int (xs (nI i + 2).toNatClampNeg)] 6 (by omega) hXA.1 rfl (c_X6_change l D kc 125 ax cx σ hn hh T ch (xs (nI i + 1).toNatClampNeg) (xs (nI i + 2).toNatClampNeg) hXA hg.1 (Nat.le_refl 125)) (cwV 2 CX1.2.2.2.2.1 gL_law_X6_change rfl rfl rfl (by decide +kernel) ⟨(Nat.le_of_ble_eq_true rfl), (Nat.le_of_ble_eq_true rfl)⟩) rfl rfl (Nat.le_of_ble_eq_true rfl) (Nat.le_of_ble_eq_true rfl) (Nat.le_of_ble_eq_true rfl) dL_law_211 hPx hPm hS hl (fun r1 cx1 H1 locs1 hp1 hPx1 hPm1 hS1 => ?_)
  obtain ⟨rfl, hx1⟩ := hp1
  refine lv_aload_n hx hb dL_law_214 rfl (lv_at hl 2 rfl) ?_
  refine lv_aload_n hx hb dL_law_215 rfl (lv_at hl 0 rfl) ?_
  refine lv_iload_n hx hb dL_law_216 rfl (lv_at hl 3 rfl) ?_
  refine lv_iconst (v := 1) hx hb dL_law_217 (by decide) ?_
  refine lv_iadd hx hb dL_law_218 ?_
  refine va_sld hx hb hX hbl hbA hS1 hin1 dL_law_219 ?_
  refine lv_aload_n hx hb dL_law_220 rfl (lv_at hl 0 rfl) ?_
  refine lv_iload_n hx hb dL_law_221 rfl (lv_at hl 3 rfl) ?_
  refine lv_iconst (v := 2) hx hb dL_law_222 (by decide) ?_
  refine lv_iadd hx hb dL_law_223 ?_
  refine va_sld hx hb hX hbl hbA hS1 hin2 dL_law_224 ?_
  refine lw_call CX2 hap2 [.int (xs (nI i + 1).toNatClampNeg), .int (xs (nI i + 2).toNatClampNeg)] 7 (by omega) hm0 rfl (c_X7_change l D kc 9 am cm σ hn hh T ch (xs (nI i + 1).toNatClampNeg) (xs (nI i + 2).toNatClampNeg) hMA hg.1 (Nat.le_refl 9) (fun j hj => (hgh j hj).1)) (cwV 2 CX2.2.2.2.2.1 gL_law_X7_change rfl rfl rfl (by decide +kernel) ⟨(Nat.le_of_ble_eq_true rfl), (Nat.le_of_ble_eq_true rfl)⟩) rfl rfl (Nat.le_of_ble_eq_true rfl) (Nat.le_of_ble_eq_true rfl) (Nat.le_of_ble_eq_true rfl) dL_law_225 hPm1 hPx1 hS1 hl (fun r2 cm2 H2 locs2 hp2 hPm2 hPx2 hS2 => ?_)
  obtain ⟨rfl, hm2⟩ := hp2
  refine lv_icmp_eq (tgt := 746) hx hb dL_law_228 (by decide) (fun _ => ?_) (fun hc => absurd rfl hc)
  have hge := ge_nx hg hgh hMA.h4 (ge_change (p := (xs (nI i + 1).toNatClampNeg)) (w := (xs (nI i + 2).toNatClampNeg)) hg)
  exact kk _ _ ⟨_, _, _, _, _, _, _, hPx2, hPm2, hS2, hx1, hm2, hge.1, hge.2⟩
set_option maxRecDepth 100000 in
set_option maxHeartbeats 4000000 in
theorem lc_move {p : Program} {l : Launch} {e : Env} {s : State} {m : MethodId} {below : List Frame} {meth : Method} {c : Code} {b L : Nat} {xs : Nat → Int32} {D : va_G} {kc : Nat → ClassId} {ax am : Nat → Nat} (Q0 : LCtx p s m meth c b L xs D kc ax am) {i : Nat} (hi4 : i + 4 ≤ L) {H : Heap} {locs : List Loc} {ls : Array Slot} (hI : LI D kc s ax am H locs) (hl : lv_has ls 4 [(0, .ref b), (1, .ref (ax 0)), (2, .ref (am 0)), (3, .int (nI i))]) (kk : ∀ (H1 : Heap) (locs1 : List Loc), LI D kc s ax am H1 locs1 → W p l e room_1 s m #[Value.ref b] below meth c H1 locs1 134 1984 (lw_Z below #[Value.ref b] s) (F0 m 746 ls [])) : W p l e room_1 s m #[Value.ref b] below meth c H locs 134 1984 (lw_Z below #[Value.ref b] s) (F0 m 233 ls []) := by
  obtain ⟨C0, CX1, CX2, hap, hZ, hL⟩ := Q0
  obtain ⟨hx, hb, hr, hml, hown, hts, hX, hbl, hlocks, hgv⟩ := C0
  have hbA : ¬ AL s b := Nat.not_le.mpr hbl
  have hap2 : ∀ i j, i < 9 → j < 125 → am i ≠ ax j := fun i j h1 h2 q => hap j i h2 h1 q.symm
  obtain ⟨cx, cm, σ, hn, hh, T, ch, hPx, hPm, hS, hXA, hMA, hg, hgh⟩ := hI
  obtain ⟨fs, hm0⟩ := hMA.c0
  have hin1 : vp_in (nI i + 1) L := by rw [show nI i + 1 = nI (i + 1) from mI_add i 1]; exact vp_in_nI (by omega) (by omega)
  have hin2 : vp_in (nI i + 2) L := by rw [show nI i + 2 = nI (i + 2) from mI_add i 2]; exact vp_in_nI (by omega) (by omega)
  have hin3 : vp_in (nI i + 3) L := by rw [show nI i + 3 = nI (i + 3) from mI_add i 3]; exact vp_in_nI (by omega) (by omega)
  refine lv_aload_n hx hb dL_law_233 rfl (lv_at hl 1 rfl) ?_
  refine lv_aload_n hx hb dL_law_234 rfl (lv_at hl 0 rfl) ?_
  refine lv_iload_n hx hb dL_law_235 rfl (lv_at hl 3 rfl) ?_
  refine lv_iconst (v := 1) hx hb dL_law_236 (by decide) ?_
  refine lv_iadd hx hb dL_law_237 ?_
  refine va_sld hx hb hX hbl hbA hS hin1 dL_law_238 ?_
  refine lv_aload_n hx hb dL_law_239 rfl (lv_at hl 0 rfl) ?_
  refine lv_iload_n hx hb dL_law_240 rfl (lv_at hl 3 rfl) ?_
  refine lv_iconst (v := 2) hx hb dL_law_241 (by decide) ?_
  refine lv_iadd hx hb dL_law_242 ?_
  refine va_sld hx hb hX hbl hbA hS hin2 dL_law_243 ?_
  refine lv_aload_n hx hb dL_law_244 rfl (lv_at hl 0 rfl) ?_
  refine lv_iload_n hx hb dL_law_245 rfl (lv_at hl 3 rfl) ?_
  refine lv_iconst (v := 3) hx hb dL_law_246 (by decide) ?_
  refine lv_iadd hx hb dL_law_247 ?_
  refine va_sld hx hb hX hbl hbA hS hin3 dL_law_248 ?_
  refine lw_call CX1 hap [.int (xs (nI i + 1).toNatClampNeg), .int (xs (nI i + 2).toNatClampNeg), .int (xs (nI i + 3).toNatClampNeg)] 6 (by omega) hXA.1 rfl (c_X6_move l D kc 125 ax cx σ hn hh T ch (xs (nI i + 1).toNatClampNeg) (xs (nI i + 2).toNatClampNeg) (xs (nI i + 3).toNatClampNeg) hXA hg.1 (Nat.le_refl 125)) (cwV 3 CX1.2.2.2.2.1 gL_law_X6_move rfl rfl rfl (by decide +kernel) ⟨(Nat.le_of_ble_eq_true rfl), (Nat.le_of_ble_eq_true rfl)⟩) rfl rfl (Nat.le_of_ble_eq_true rfl) (Nat.le_of_ble_eq_true rfl) (Nat.le_of_ble_eq_true rfl) dL_law_249 hPx hPm hS hl (fun r1 cx1 H1 locs1 hp1 hPx1 hPm1 hS1 => ?_)
  obtain ⟨rfl, hx1⟩ := hp1
  refine lv_aload_n hx hb dL_law_252 rfl (lv_at hl 2 rfl) ?_
  refine lv_aload_n hx hb dL_law_253 rfl (lv_at hl 0 rfl) ?_
  refine lv_iload_n hx hb dL_law_254 rfl (lv_at hl 3 rfl) ?_
  refine lv_iconst (v := 1) hx hb dL_law_255 (by decide) ?_
  refine lv_iadd hx hb dL_law_256 ?_
  refine va_sld hx hb hX hbl hbA hS1 hin1 dL_law_257 ?_
  refine lv_aload_n hx hb dL_law_258 rfl (lv_at hl 0 rfl) ?_
  refine lv_iload_n hx hb dL_law_259 rfl (lv_at hl 3 rfl) ?_
  refine lv_iconst (v := 2) hx hb dL_law_260 (by decide) ?_
  refine lv_iadd hx hb dL_law_261 ?_
  refine va_sld hx hb hX hbl hbA hS1 hin2 dL_law_262 ?_
  refine lv_aload_n hx hb dL_law_263 rfl (lv_at hl 0 rfl) ?_
  refine lv_iload_n hx hb dL_law_264 rfl (lv_at hl 3 rfl) ?_
  refine lv_iconst (v := 3) hx hb dL_law_265 (by decide) ?_
  refine lv_iadd hx hb dL_law_266 ?_
  refine va_sld hx hb hX hbl hbA hS1 hin3 dL_law_267 ?_
  refine lw_call CX2 hap2 [.int (xs (nI i + 1).toNatClampNeg), .int (xs (nI i + 2).toNatClampNeg), .int (xs (nI i + 3).toNatClampNeg)] 7 (by omega) hm0 rfl (c_X7_move l D kc 9 am cm σ hn hh T ch (xs (nI i + 1).toNatClampNeg) (xs (nI i + 2).toNatClampNeg) (xs (nI i + 3).toNatClampNeg) hMA hg.1 (Nat.le_refl 9) (fun j hj => (hgh j hj).1)) (cwV 3 CX2.2.2.2.2.1 gL_law_X7_move rfl rfl rfl (by decide +kernel) ⟨(Nat.le_of_ble_eq_true rfl), (Nat.le_of_ble_eq_true rfl)⟩) rfl rfl (Nat.le_of_ble_eq_true rfl) (Nat.le_of_ble_eq_true rfl) (Nat.le_of_ble_eq_true rfl) dL_law_268 hPm1 hPx1 hS1 hl (fun r2 cm2 H2 locs2 hp2 hPm2 hPx2 hS2 => ?_)
  obtain ⟨rfl, hm2⟩ := hp2
  refine lv_icmp_eq (tgt := 746) hx hb dL_law_271 (by decide) (fun _ => ?_) (fun hc => absurd rfl hc)
  have hge := ge_nx hg hgh hMA.h4 (ge_move (f := (xs (nI i + 1).toNatClampNeg)) (k := (xs (nI i + 2).toNatClampNeg)) (t := (xs (nI i + 3).toNatClampNeg)) hg)
  exact kk _ _ ⟨_, _, _, _, _, _, _, hPx2, hPm2, hS2, hx1, hm2, hge.1, hge.2⟩
set_option maxRecDepth 100000 in
set_option maxHeartbeats 4000000 in
theorem lc_anchor {p : Program} {l : Launch} {e : Env} {s : State} {m : MethodId} {below : List Frame} {meth : Method} {c : Code} {b L : Nat} {xs : Nat → Int32} {D : va_G} {kc : Nat → ClassId} {ax am : Nat → Nat} (Q0 : LCtx p s m meth c b L xs D kc ax am) {i : Nat} (hi4 : i + 4 ≤ L) {H : Heap} {locs : List Loc} {ls : Array Slot} (hI : LI D kc s ax am H locs) (hl : lv_has ls 4 [(0, .ref b), (1, .ref (ax 0)), (2, .ref (am 0)), (3, .int (nI i))]) (kk : ∀ (H1 : Heap) (locs1 : List Loc), LI D kc s ax am H1 locs1 → W p l e room_1 s m #[Value.ref b] below meth c H1 locs1 134 1984 (lw_Z below #[Value.ref b] s) (F0 m 746 ls [])) : W p l e room_1 s m #[Value.ref b] below meth c H locs 134 1984 (lw_Z below #[Value.ref b] s) (F0 m 276 ls []) := by
  obtain ⟨C0, CX1, CX2, hap, hZ, hL⟩ := Q0
  obtain ⟨hx, hb, hr, hml, hown, hts, hX, hbl, hlocks, hgv⟩ := C0
  have hbA : ¬ AL s b := Nat.not_le.mpr hbl
  have hap2 : ∀ i j, i < 9 → j < 125 → am i ≠ ax j := fun i j h1 h2 q => hap j i h2 h1 q.symm
  obtain ⟨cx, cm, σ, hn, hh, T, ch, hPx, hPm, hS, hXA, hMA, hg, hgh⟩ := hI
  obtain ⟨fs, hm0⟩ := hMA.c0
  have hin1 : vp_in (nI i + 1) L := by rw [show nI i + 1 = nI (i + 1) from mI_add i 1]; exact vp_in_nI (by omega) (by omega)
  refine lv_aload_n hx hb dL_law_276 rfl (lv_at hl 1 rfl) ?_
  refine lv_aload_n hx hb dL_law_277 rfl (lv_at hl 0 rfl) ?_
  refine lv_iload_n hx hb dL_law_278 rfl (lv_at hl 3 rfl) ?_
  refine lv_iconst (v := 1) hx hb dL_law_279 (by decide) ?_
  refine lv_iadd hx hb dL_law_280 ?_
  refine va_sld hx hb hX hbl hbA hS hin1 dL_law_281 ?_
  refine lw_call CX1 hap [.int (xs (nI i + 1).toNatClampNeg)] 6 (by omega) hXA.1 rfl (c_X6_anchor l D kc 125 ax cx σ hn hh T ch (xs (nI i + 1).toNatClampNeg) hXA hg.1 (Nat.le_refl 125)) (cwV 1 CX1.2.2.2.2.1 gL_law_X6_anchor rfl rfl rfl (by decide +kernel) ⟨(Nat.le_of_ble_eq_true rfl), (Nat.le_of_ble_eq_true rfl)⟩) rfl rfl (Nat.le_of_ble_eq_true rfl) (Nat.le_of_ble_eq_true rfl) (Nat.le_of_ble_eq_true rfl) dL_law_282 hPx hPm hS hl (fun r1 cx1 H1 locs1 hp1 hPx1 hPm1 hS1 => ?_)
  obtain ⟨rfl, hx1⟩ := hp1
  refine lv_aload_n hx hb dL_law_285 rfl (lv_at hl 2 rfl) ?_
  refine lv_aload_n hx hb dL_law_286 rfl (lv_at hl 0 rfl) ?_
  refine lv_iload_n hx hb dL_law_287 rfl (lv_at hl 3 rfl) ?_
  refine lv_iconst (v := 1) hx hb dL_law_288 (by decide) ?_
  refine lv_iadd hx hb dL_law_289 ?_
  refine va_sld hx hb hX hbl hbA hS1 hin1 dL_law_290 ?_
  refine lw_call CX2 hap2 [.int (xs (nI i + 1).toNatClampNeg)] 7 (by omega) hm0 rfl (c_X7_anchor l D kc 9 am cm σ hn hh T ch (xs (nI i + 1).toNatClampNeg) hMA hg.1 (Nat.le_refl 9) (fun j hj => (hgh j hj).1)) (cwV 1 CX2.2.2.2.2.1 gL_law_X7_anchor rfl rfl rfl (by decide +kernel) ⟨(Nat.le_of_ble_eq_true rfl), (Nat.le_of_ble_eq_true rfl)⟩) rfl rfl (Nat.le_of_ble_eq_true rfl) (Nat.le_of_ble_eq_true rfl) (Nat.le_of_ble_eq_true rfl) dL_law_291 hPm1 hPx1 hS1 hl (fun r2 cm2 H2 locs2 hp2 hPm2 hPx2 hS2 => ?_)
  obtain ⟨rfl, hm2⟩ := hp2
  refine lv_icmp_eq (tgt := 746) hx hb dL_law_294 (by decide) (fun _ => ?_) (fun hc => absurd rfl hc)
  have hge := ge_nx hg hgh hMA.h4 (ge_anchor (x := (xs (nI i + 1).toNatClampNeg)) hg)
  exact kk _ _ ⟨_, _, _, _, _, _, _, hPx2, hPm2, hS2, hx1, hm2, hge.1, hge.2⟩
set_option maxRecDepth 100000 in
set_option maxHeartbeats 4000000 in
theorem lc_drop {p : Program} {l : Launch} {e : Env} {s : State} {m : MethodId} {below : List Frame} {meth : Method} {c : Code} {b L : Nat} {xs : Nat → Int32} {D : va_G} {kc : Nat → ClassId} {ax am : Nat → Nat} (Q0 : LCtx p s m meth c b L xs D kc ax am) {i : Nat} (hi4 : i + 4 ≤ L) {H : Heap} {locs : List Loc} {ls : Array Slot} (hI : LI D kc s ax am H locs) (hl : lv_has ls 4 [(0, .ref b), (1, .ref (ax 0)), (2, .ref (am 0)), (3, .int (nI i))]) (kk : ∀ (H1 : Heap) (locs1 : List Loc), LI D kc s ax am H1 locs1 → W p l e room_1 s m #[Value.ref b] below meth c H1 locs1 134 1984 (lw_Z below #[Value.ref b] s) (F0 m 746 ls [])) : W p l e room_1 s m #[Value.ref b] below meth c H locs 134 1984 (lw_Z below #[Value.ref b] s) (F0 m 299 ls []) := by
  obtain ⟨C0, CX1, CX2, hap, hZ, hL⟩ := Q0
  obtain ⟨hx, hb, hr, hml, hown, hts, hX, hbl, hlocks, hgv⟩ := C0
  have hbA : ¬ AL s b := Nat.not_le.mpr hbl
  have hap2 : ∀ i j, i < 9 → j < 125 → am i ≠ ax j := fun i j h1 h2 q => hap j i h2 h1 q.symm
  obtain ⟨cx, cm, σ, hn, hh, T, ch, hPx, hPm, hS, hXA, hMA, hg, hgh⟩ := hI
  obtain ⟨fs, hm0⟩ := hMA.c0
  have hin1 : vp_in (nI i + 1) L := by rw [show nI i + 1 = nI (i + 1) from mI_add i 1]; exact vp_in_nI (by omega) (by omega)
  refine lv_aload_n hx hb dL_law_299 rfl (lv_at hl 1 rfl) ?_
  refine lv_aload_n hx hb dL_law_300 rfl (lv_at hl 0 rfl) ?_
  refine lv_iload_n hx hb dL_law_301 rfl (lv_at hl 3 rfl) ?_
  refine lv_iconst (v := 1) hx hb dL_law_302 (by decide) ?_
  refine lv_iadd hx hb dL_law_303 ?_
  refine va_sld hx hb hX hbl hbA hS hin1 dL_law_304 ?_
  refine lw_call CX1 hap [.int (xs (nI i + 1).toNatClampNeg)] 6 (by omega) hXA.1 rfl (c_X6_drop l D kc 125 ax cx σ hn hh T ch (xs (nI i + 1).toNatClampNeg) hXA hg.1 (Nat.le_refl 125)) (cwV 1 CX1.2.2.2.2.1 gL_law_X6_drop rfl rfl rfl (by decide +kernel) ⟨(Nat.le_of_ble_eq_true rfl), (Nat.le_of_ble_eq_true rfl)⟩) rfl rfl (Nat.le_of_ble_eq_true rfl) (Nat.le_of_ble_eq_true rfl) (Nat.le_of_ble_eq_true rfl) dL_law_305 hPx hPm hS hl (fun r1 cx1 H1 locs1 hp1 hPx1 hPm1 hS1 => ?_)
  obtain ⟨rfl, hx1⟩ := hp1
  refine lv_aload_n hx hb dL_law_308 rfl (lv_at hl 2 rfl) ?_
  refine lv_aload_n hx hb dL_law_309 rfl (lv_at hl 0 rfl) ?_
  refine lv_iload_n hx hb dL_law_310 rfl (lv_at hl 3 rfl) ?_
  refine lv_iconst (v := 1) hx hb dL_law_311 (by decide) ?_
  refine lv_iadd hx hb dL_law_312 ?_
  refine va_sld hx hb hX hbl hbA hS1 hin1 dL_law_313 ?_
  refine lw_call CX2 hap2 [.int (xs (nI i + 1).toNatClampNeg)] 7 (by omega) hm0 rfl (c_X7_drop l D kc 9 am cm σ hn hh T ch (xs (nI i + 1).toNatClampNeg) hMA hg.1 (Nat.le_refl 9) (fun j hj => (hgh j hj).1)) (cwV 1 CX2.2.2.2.2.1 gL_law_X7_drop rfl rfl rfl (by decide +kernel) ⟨(Nat.le_of_ble_eq_true rfl), (Nat.le_of_ble_eq_true rfl)⟩) rfl rfl (Nat.le_of_ble_eq_true rfl) (Nat.le_of_ble_eq_true rfl) (Nat.le_of_ble_eq_true rfl) dL_law_314 hPm1 hPx1 hS1 hl (fun r2 cm2 H2 locs2 hp2 hPm2 hPx2 hS2 => ?_)
  obtain ⟨rfl, hm2⟩ := hp2
  refine lv_icmp_eq (tgt := 746) hx hb dL_law_317 (by decide) (fun _ => ?_) (fun hc => absurd rfl hc)
  have hge := ge_nx hg hgh hMA.h4 (ge_drop (x := (xs (nI i + 1).toNatClampNeg)) hg)
  exact kk _ _ ⟨_, _, _, _, _, _, _, hPx2, hPm2, hS2, hx1, hm2, hge.1, hge.2⟩
set_option maxRecDepth 100000 in
set_option maxHeartbeats 4000000 in
theorem lc_find {p : Program} {l : Launch} {e : Env} {s : State} {m : MethodId} {below : List Frame} {meth : Method} {c : Code} {b L : Nat} {xs : Nat → Int32} {D : va_G} {kc : Nat → ClassId} {ax am : Nat → Nat} (Q0 : LCtx p s m meth c b L xs D kc ax am) {i : Nat} (hi4 : i + 4 ≤ L) {H : Heap} {locs : List Loc} {ls : Array Slot} (hI : LI D kc s ax am H locs) (hl : lv_has ls 4 [(0, .ref b), (1, .ref (ax 0)), (2, .ref (am 0)), (3, .int (nI i))]) (kk : ∀ (H1 : Heap) (locs1 : List Loc), LI D kc s ax am H1 locs1 → W p l e room_1 s m #[Value.ref b] below meth c H1 locs1 134 1984 (lw_Z below #[Value.ref b] s) (F0 m 746 ls [])) : W p l e room_1 s m #[Value.ref b] below meth c H locs 134 1984 (lw_Z below #[Value.ref b] s) (F0 m 322 ls []) := by
  obtain ⟨C0, CX1, CX2, hap, hZ, hL⟩ := Q0
  obtain ⟨hx, hb, hr, hml, hown, hts, hX, hbl, hlocks, hgv⟩ := C0
  have hbA : ¬ AL s b := Nat.not_le.mpr hbl
  have hap2 : ∀ i j, i < 9 → j < 125 → am i ≠ ax j := fun i j h1 h2 q => hap j i h2 h1 q.symm
  obtain ⟨cx, cm, σ, hn, hh, T, ch, hPx, hPm, hS, hXA, hMA, hg, hgh⟩ := hI
  obtain ⟨fs, hm0⟩ := hMA.c0
  have hin1 : vp_in (nI i + 1) L := by rw [show nI i + 1 = nI (i + 1) from mI_add i 1]; exact vp_in_nI (by omega) (by omega)
  refine lv_aload_n hx hb dL_law_322 rfl (lv_at hl 1 rfl) ?_
  refine lv_aload_n hx hb dL_law_323 rfl (lv_at hl 0 rfl) ?_
  refine lv_iload_n hx hb dL_law_324 rfl (lv_at hl 3 rfl) ?_
  refine lv_iconst (v := 1) hx hb dL_law_325 (by decide) ?_
  refine lv_iadd hx hb dL_law_326 ?_
  refine va_sld hx hb hX hbl hbA hS hin1 dL_law_327 ?_
  refine lw_call CX1 hap [.int (xs (nI i + 1).toNatClampNeg)] 6 (by omega) hXA.1 rfl (c_X6_find l D kc 125 ax cx σ hn hh T ch (xs (nI i + 1).toNatClampNeg) hXA hg.1 (Nat.le_refl 125)) (cwV 1 CX1.2.2.2.2.1 gL_law_X6_find rfl rfl rfl (by decide +kernel) ⟨(Nat.le_of_ble_eq_true rfl), (Nat.le_of_ble_eq_true rfl)⟩) rfl rfl (Nat.le_of_ble_eq_true rfl) (Nat.le_of_ble_eq_true rfl) (Nat.le_of_ble_eq_true rfl) dL_law_328 hPx hPm hS hl (fun r1 cx1 H1 locs1 hp1 hPx1 hPm1 hS1 => ?_)
  obtain ⟨rfl, hx1⟩ := hp1
  refine lv_aload_n hx hb dL_law_331 rfl (lv_at hl 2 rfl) ?_
  refine lv_aload_n hx hb dL_law_332 rfl (lv_at hl 0 rfl) ?_
  refine lv_iload_n hx hb dL_law_333 rfl (lv_at hl 3 rfl) ?_
  refine lv_iconst (v := 1) hx hb dL_law_334 (by decide) ?_
  refine lv_iadd hx hb dL_law_335 ?_
  refine va_sld hx hb hX hbl hbA hS1 hin1 dL_law_336 ?_
  refine lw_call CX2 hap2 [.int (xs (nI i + 1).toNatClampNeg)] 7 (by omega) hm0 rfl (c_X7_find l D kc 9 am cm σ hn hh T ch (xs (nI i + 1).toNatClampNeg) hMA hg.1 (Nat.le_refl 9) (fun j hj => (hgh j hj).1)) (cwV 1 CX2.2.2.2.2.1 gL_law_X7_find rfl rfl rfl (by decide +kernel) ⟨(Nat.le_of_ble_eq_true rfl), (Nat.le_of_ble_eq_true rfl)⟩) rfl rfl (Nat.le_of_ble_eq_true rfl) (Nat.le_of_ble_eq_true rfl) (Nat.le_of_ble_eq_true rfl) dL_law_337 hPm1 hPx1 hS1 hl (fun r2 cm2 H2 locs2 hp2 hPm2 hPx2 hS2 => ?_)
  obtain ⟨rfl, hm2⟩ := hp2
  refine lv_icmp_eq (tgt := 746) hx hb dL_law_340 (by decide) (fun _ => ?_) (fun hc => absurd rfl hc)
  have hge := ge_nx hg hgh hMA.h4 (ge_find (x := (xs (nI i + 1).toNatClampNeg)) hg)
  exact kk _ _ ⟨_, _, _, _, _, _, _, hPx2, hPm2, hS2, hx1, hm2, hge.1, hge.2⟩
set_option maxRecDepth 100000 in
set_option maxHeartbeats 4000000 in
theorem lc_findAll {p : Program} {l : Launch} {e : Env} {s : State} {m : MethodId} {below : List Frame} {meth : Method} {c : Code} {b L : Nat} {xs : Nat → Int32} {D : va_G} {kc : Nat → ClassId} {ax am : Nat → Nat} (Q0 : LCtx p s m meth c b L xs D kc ax am) {i : Nat} (hi4 : i + 4 ≤ L) {H : Heap} {locs : List Loc} {ls : Array Slot} (hI : LI D kc s ax am H locs) (hl : lv_has ls 4 [(0, .ref b), (1, .ref (ax 0)), (2, .ref (am 0)), (3, .int (nI i))]) (kk : ∀ (H1 : Heap) (locs1 : List Loc), LI D kc s ax am H1 locs1 → W p l e room_1 s m #[Value.ref b] below meth c H1 locs1 134 1984 (lw_Z below #[Value.ref b] s) (F0 m 746 ls [])) : W p l e room_1 s m #[Value.ref b] below meth c H locs 134 1984 (lw_Z below #[Value.ref b] s) (F0 m 345 ls []) := by
  obtain ⟨C0, CX1, CX2, hap, hZ, hL⟩ := Q0
  obtain ⟨hx, hb, hr, hml, hown, hts, hX, hbl, hlocks, hgv⟩ := C0
  have hbA : ¬ AL s b := Nat.not_le.mpr hbl
  have hap2 : ∀ i j, i < 9 → j < 125 → am i ≠ ax j := fun i j h1 h2 q => hap j i h2 h1 q.symm
  obtain ⟨cx, cm, σ, hn, hh, T, ch, hPx, hPm, hS, hXA, hMA, hg, hgh⟩ := hI
  obtain ⟨fs, hm0⟩ := hMA.c0
  refine lv_aload_n hx hb dL_law_345 rfl (lv_at hl 1 rfl) ?_
  refine lw_call CX1 hap [] 6 (by omega) hXA.1 rfl (c_X6_findAll l D kc 125 ax cx σ hn hh T ch  hXA hg.1 (Nat.le_refl 125)) (cwV 0 CX1.2.2.2.2.1 gL_law_X6_findAll rfl rfl rfl (by decide +kernel) ⟨(Nat.le_of_ble_eq_true rfl), (Nat.le_of_ble_eq_true rfl)⟩) rfl rfl (Nat.le_of_ble_eq_true rfl) (Nat.le_of_ble_eq_true rfl) (Nat.le_of_ble_eq_true rfl) dL_law_346 hPx hPm hS hl (fun r1 cx1 H1 locs1 hp1 hPx1 hPm1 hS1 => ?_)
  obtain ⟨rfl, hx1⟩ := hp1
  refine lv_aload_n hx hb dL_law_349 rfl (lv_at hl 2 rfl) ?_
  refine lw_call CX2 hap2 [] 7 (by omega) hm0 rfl (c_X7_findAll l D kc 9 am cm σ hn hh T ch  hMA hg.1 (Nat.le_refl 9) (fun j hj => (hgh j hj).1)) (cwV 0 CX2.2.2.2.2.1 gL_law_X7_findAll rfl rfl rfl (by decide +kernel) ⟨(Nat.le_of_ble_eq_true rfl), (Nat.le_of_ble_eq_true rfl)⟩) rfl rfl (Nat.le_of_ble_eq_true rfl) (Nat.le_of_ble_eq_true rfl) (Nat.le_of_ble_eq_true rfl) dL_law_350 hPm1 hPx1 hS1 hl (fun r2 cm2 H2 locs2 hp2 hPm2 hPx2 hS2 => ?_)
  obtain ⟨rfl, hm2⟩ := hp2
  refine lv_icmp_eq (tgt := 746) hx hb dL_law_353 (by decide) (fun _ => ?_) (fun hc => absurd rfl hc)
  have hge := ge_nx hg hgh hMA.h4 (ge_findAll (σ := σ) hg)
  exact kk _ _ ⟨_, _, _, _, _, _, _, hPx2, hPm2, hS2, hx1, hm2, hge.1, hge.2⟩
set_option maxRecDepth 100000 in
set_option maxHeartbeats 4000000 in
theorem lc_remember {p : Program} {l : Launch} {e : Env} {s : State} {m : MethodId} {below : List Frame} {meth : Method} {c : Code} {b L : Nat} {xs : Nat → Int32} {D : va_G} {kc : Nat → ClassId} {ax am : Nat → Nat} (Q0 : LCtx p s m meth c b L xs D kc ax am) {i : Nat} (hi4 : i + 4 ≤ L) {H : Heap} {locs : List Loc} {ls : Array Slot} (hI : LI D kc s ax am H locs) (hl : lv_has ls 4 [(0, .ref b), (1, .ref (ax 0)), (2, .ref (am 0)), (3, .int (nI i))]) (kk : ∀ (H1 : Heap) (locs1 : List Loc), LI D kc s ax am H1 locs1 → W p l e room_1 s m #[Value.ref b] below meth c H1 locs1 134 1984 (lw_Z below #[Value.ref b] s) (F0 m 746 ls [])) : W p l e room_1 s m #[Value.ref b] below meth c H locs 134 1984 (lw_Z below #[Value.ref b] s) (F0 m 358 ls []) := by
  obtain ⟨C0, CX1, CX2, hap, hZ, hL⟩ := Q0
  obtain ⟨hx, hb, hr, hml, hown, hts, hX, hbl, hlocks, hgv⟩ := C0
  have hbA : ¬ AL s b := Nat.not_le.mpr hbl
  have hap2 : ∀ i j, i < 9 → j < 125 → am i ≠ ax j := fun i j h1 h2 q => hap j i h2 h1 q.symm
  obtain ⟨cx, cm, σ, hn, hh, T, ch, hPx, hPm, hS, hXA, hMA, hg, hgh⟩ := hI
  obtain ⟨fs, hm0⟩ := hMA.c0
  have hin1 : vp_in (nI i + 1) L := by rw [show nI i + 1 = nI (i + 1) from mI_add i 1]; exact vp_in_nI (by omega) (by omega)
  refine lv_aload_n hx hb dL_law_358 rfl (lv_at hl 1 rfl) ?_
  refine lv_aload_n hx hb dL_law_359 rfl (lv_at hl 0 rfl) ?_
  refine lv_iload_n hx hb dL_law_360 rfl (lv_at hl 3 rfl) ?_
  refine lv_iconst (v := 1) hx hb dL_law_361 (by decide) ?_
  refine lv_iadd hx hb dL_law_362 ?_
  refine va_sld hx hb hX hbl hbA hS hin1 dL_law_363 ?_
  refine lw_call CX1 hap [.int (xs (nI i + 1).toNatClampNeg)] 6 (by omega) hXA.1 rfl (c_X6_remember l D kc 125 ax cx σ hn hh T ch (xs (nI i + 1).toNatClampNeg) hXA hg.1 (Nat.le_refl 125)) (cwV 1 CX1.2.2.2.2.1 gL_law_X6_remember rfl rfl rfl (by decide +kernel) ⟨(Nat.le_of_ble_eq_true rfl), (Nat.le_of_ble_eq_true rfl)⟩) rfl rfl (Nat.le_of_ble_eq_true rfl) (Nat.le_of_ble_eq_true rfl) (Nat.le_of_ble_eq_true rfl) dL_law_364 hPx hPm hS hl (fun r1 cx1 H1 locs1 hp1 hPx1 hPm1 hS1 => ?_)
  obtain ⟨rfl, hx1⟩ := hp1
  refine lv_aload_n hx hb dL_law_367 rfl (lv_at hl 2 rfl) ?_
  refine lv_aload_n hx hb dL_law_368 rfl (lv_at hl 0 rfl) ?_
  refine lv_iload_n hx hb dL_law_369 rfl (lv_at hl 3 rfl) ?_
  refine lv_iconst (v := 1) hx hb dL_law_370 (by decide) ?_
  refine lv_iadd hx hb dL_law_371 ?_
  refine va_sld hx hb hX hbl hbA hS1 hin1 dL_law_372 ?_
  refine lw_call CX2 hap2 [.int (xs (nI i + 1).toNatClampNeg)] 7 (by omega) hm0 rfl (c_X7_remember l D kc 9 am cm σ hn hh T ch (xs (nI i + 1).toNatClampNeg) hMA hg.1 (Nat.le_refl 9) (fun j hj => (hgh j hj).1)) (cwV 1 CX2.2.2.2.2.1 gL_law_X7_remember rfl rfl rfl (by decide +kernel) ⟨(Nat.le_of_ble_eq_true rfl), (Nat.le_of_ble_eq_true rfl)⟩) rfl rfl (Nat.le_of_ble_eq_true rfl) (Nat.le_of_ble_eq_true rfl) (Nat.le_of_ble_eq_true rfl) dL_law_373 hPm1 hPx1 hS1 hl (fun r2 cm2 H2 locs2 hp2 hPm2 hPx2 hS2 => ?_)
  obtain ⟨rfl, hm2⟩ := hp2
  refine lv_icmp_eq (tgt := 746) hx hb dL_law_376 (by decide) (fun _ => ?_) (fun hc => absurd rfl hc)
  have hge := ge_nx hg hgh hMA.h4 (ge_remember (x := (xs (nI i + 1).toNatClampNeg)) hg)
  exact kk _ _ ⟨_, _, _, _, _, _, _, hPx2, hPm2, hS2, hx1, hm2, hge.1, hge.2⟩
set_option maxRecDepth 100000 in
set_option maxHeartbeats 4000000 in
theorem lc_set {p : Program} {l : Launch} {e : Env} {s : State} {m : MethodId} {below : List Frame} {meth : Method} {c : Code} {b L : Nat} {xs : Nat → Int32} {D : va_G} {kc : Nat → ClassId} {ax am : Nat → Nat} (Q0 : LCtx p s m meth c b L xs D kc ax am) {i : Nat} (hi4 : i + 4 ≤ L) {H : Heap} {locs : List Loc} {ls : Array Slot} (hI : LI D kc s ax am H locs) (hl : lv_has ls 4 [(0, .ref b), (1, .ref (ax 0)), (2, .ref (am 0)), (3, .int (nI i))]) (kk : ∀ (H1 : Heap) (locs1 : List Loc), LI D kc s ax am H1 locs1 → W p l e room_1 s m #[Value.ref b] below meth c H1 locs1 134 1984 (lw_Z below #[Value.ref b] s) (F0 m 746 ls [])) : W p l e room_1 s m #[Value.ref b] below meth c H locs 134 1984 (lw_Z below #[Value.ref b] s) (F0 m 381 ls []) := by
  obtain ⟨C0, CX1, CX2, hap, hZ, hL⟩ := Q0
  obtain ⟨hx, hb, hr, hml, hown, hts, hX, hbl, hlocks, hgv⟩ := C0
  have hbA : ¬ AL s b := Nat.not_le.mpr hbl
  have hap2 : ∀ i j, i < 9 → j < 125 → am i ≠ ax j := fun i j h1 h2 q => hap j i h2 h1 q.symm
  obtain ⟨cx, cm, σ, hn, hh, T, ch, hPx, hPm, hS, hXA, hMA, hg, hgh⟩ := hI
  obtain ⟨fs, hm0⟩ := hMA.c0
  have hin1 : vp_in (nI i + 1) L := by rw [show nI i + 1 = nI (i + 1) from mI_add i 1]; exact vp_in_nI (by omega) (by omega)
  have hin2 : vp_in (nI i + 2) L := by rw [show nI i + 2 = nI (i + 2) from mI_add i 2]; exact vp_in_nI (by omega) (by omega)
  refine lv_aload_n hx hb dL_law_381 rfl (lv_at hl 1 rfl) ?_
  refine lv_aload_n hx hb dL_law_382 rfl (lv_at hl 0 rfl) ?_
  refine lv_iload_n hx hb dL_law_383 rfl (lv_at hl 3 rfl) ?_
  refine lv_iconst (v := 1) hx hb dL_law_384 (by decide) ?_
  refine lv_iadd hx hb dL_law_385 ?_
  refine va_sld hx hb hX hbl hbA hS hin1 dL_law_386 ?_
  refine lv_aload_n hx hb dL_law_387 rfl (lv_at hl 0 rfl) ?_
  refine lv_iload_n hx hb dL_law_388 rfl (lv_at hl 3 rfl) ?_
  refine lv_iconst (v := 2) hx hb dL_law_389 (by decide) ?_
  refine lv_iadd hx hb dL_law_390 ?_
  refine va_sld hx hb hX hbl hbA hS hin2 dL_law_391 ?_
  refine lw_callZ CX1 hap hZ [.int (xs (nI i + 1).toNatClampNeg), .int (xs (nI i + 2).toNatClampNeg)] 6 (by omega) hXA.1 rfl (c_X6_set l D kc 125 ax cx σ hn hh T ch (xs (nI i + 1).toNatClampNeg) (xs (nI i + 2).toNatClampNeg) hXA hg.1 (Nat.le_refl 125)) (cwV 2 CX1.2.2.2.2.1 gL_law_X6_set rfl rfl rfl (by decide +kernel) ⟨(Nat.le_of_ble_eq_true rfl), (Nat.le_of_ble_eq_true rfl)⟩) rfl rfl (Nat.le_of_ble_eq_true rfl) (Nat.le_of_ble_eq_true rfl) (Nat.le_of_ble_eq_true rfl) dL_law_392 hPx hPm hS hl (fun r1 cx1 H1 locs1 hp1 hPx1 hPm1 hS1 => ?_)
  obtain ⟨rfl, hx1⟩ := hp1
  refine lv_aload_n hx hb dL_law_395 rfl (lv_at hl 2 rfl) ?_
  refine lv_aload_n hx hb dL_law_396 rfl (lv_at hl 0 rfl) ?_
  refine lv_iload_n hx hb dL_law_397 rfl (lv_at hl 3 rfl) ?_
  refine lv_iconst (v := 1) hx hb dL_law_398 (by decide) ?_
  refine lv_iadd hx hb dL_law_399 ?_
  refine va_sld hx hb hX hbl hbA hS1 hin1 dL_law_400 ?_
  refine lv_aload_n hx hb dL_law_401 rfl (lv_at hl 0 rfl) ?_
  refine lv_iload_n hx hb dL_law_402 rfl (lv_at hl 3 rfl) ?_
  refine lv_iconst (v := 2) hx hb dL_law_403 (by decide) ?_
  refine lv_iadd hx hb dL_law_404 ?_
  refine va_sld hx hb hX hbl hbA hS1 hin2 dL_law_405 ?_
  refine lw_call CX2 hap2 [.int (xs (nI i + 1).toNatClampNeg), .int (xs (nI i + 2).toNatClampNeg)] 7 (by omega) hm0 rfl (c_X7_set l D kc 9 am cm σ hn hh T ch (xs (nI i + 1).toNatClampNeg) (xs (nI i + 2).toNatClampNeg) hMA hg.1 (Nat.le_refl 9) (fun j hj => (hgh j hj).1) hg.2) (cwV 2 CX2.2.2.2.2.1 gL_law_X7_set rfl rfl rfl (by decide +kernel) ⟨(Nat.le_of_ble_eq_true rfl), (Nat.le_of_ble_eq_true rfl)⟩) rfl rfl (Nat.le_of_ble_eq_true rfl) (Nat.le_of_ble_eq_true rfl) (Nat.le_of_ble_eq_true rfl) dL_law_406 hPm1 hPx1 hS1 hl (fun r2 cm2 H2 locs2 hp2 hPm2 hPx2 hS2 => ?_)
  obtain ⟨rfl, hm2⟩ := hp2
  refine lv_icmp_eq (tgt := 746) hx hb dL_law_409 (by decide) (fun _ => ?_) (fun hc => absurd rfl hc)
  have hge := ge_nx hg hgh hMA.h4 (ge_set (x := (xs (nI i + 1).toNatClampNeg)) (v := (xs (nI i + 2).toNatClampNeg)) hg)
  exact kk _ _ ⟨_, _, _, _, _, _, _, hPx2, hPm2, hS2, hx1, hm2, hge.1, hge.2⟩
set_option maxRecDepth 100000 in
set_option maxHeartbeats 4000000 in
theorem lc_wordAt {p : Program} {l : Launch} {e : Env} {s : State} {m : MethodId} {below : List Frame} {meth : Method} {c : Code} {b L : Nat} {xs : Nat → Int32} {D : va_G} {kc : Nat → ClassId} {ax am : Nat → Nat} (Q0 : LCtx p s m meth c b L xs D kc ax am) {i : Nat} (hi4 : i + 4 ≤ L) {H : Heap} {locs : List Loc} {ls : Array Slot} (hI : LI D kc s ax am H locs) (hl : lv_has ls 4 [(0, .ref b), (1, .ref (ax 0)), (2, .ref (am 0)), (3, .int (nI i))]) (kk : ∀ (H1 : Heap) (locs1 : List Loc), LI D kc s ax am H1 locs1 → W p l e room_1 s m #[Value.ref b] below meth c H1 locs1 134 1984 (lw_Z below #[Value.ref b] s) (F0 m 746 ls [])) : W p l e room_1 s m #[Value.ref b] below meth c H locs 134 1984 (lw_Z below #[Value.ref b] s) (F0 m 414 ls []) := by
  obtain ⟨C0, CX1, CX2, hap, hZ, hL⟩ := Q0
  obtain ⟨hx, hb, hr, hml, hown, hts, hX, hbl, hlocks, hgv⟩ := C0
  have hbA : ¬ AL s b := Nat.not_le.mpr hbl
  have hap2 : ∀ i j, i < 9 → j < 125 → am i ≠ ax j := fun i j h1 h2 q => hap j i h2 h1 q.symm
  obtain ⟨cx, cm, σ, hn, hh, T, ch, hPx, hPm, hS, hXA, hMA, hg, hgh⟩ := hI
  obtain ⟨fs, hm0⟩ := hMA.c0
  have hin1 : vp_in (nI i + 1) L := by rw [show nI i + 1 = nI (i + 1) from mI_add i 1]; exact vp_in_nI (by omega) (by omega)
  refine lv_aload_n hx hb dL_law_414 rfl (lv_at hl 1 rfl) ?_
  refine lv_aload_n hx hb dL_law_415 rfl (lv_at hl 0 rfl) ?_
  refine lv_iload_n hx hb dL_law_416 rfl (lv_at hl 3 rfl) ?_
  refine lv_iconst (v := 1) hx hb dL_law_417 (by decide) ?_
  refine lv_iadd hx hb dL_law_418 ?_
  refine va_sld hx hb hX hbl hbA hS hin1 dL_law_419 ?_
  refine lw_call CX1 hap [.int (xs (nI i + 1).toNatClampNeg)] 6 (by omega) hXA.1 rfl (c_X6_wordAt l D kc 125 ax cx σ hn hh T ch (xs (nI i + 1).toNatClampNeg) hXA hg.1 (Nat.le_refl 125)) (cwV 1 CX1.2.2.2.2.1 gL_law_X6_wordAt rfl rfl rfl (by decide +kernel) ⟨(Nat.le_of_ble_eq_true rfl), (Nat.le_of_ble_eq_true rfl)⟩) rfl rfl (Nat.le_of_ble_eq_true rfl) (Nat.le_of_ble_eq_true rfl) (Nat.le_of_ble_eq_true rfl) dL_law_420 hPx hPm hS hl (fun r1 cx1 H1 locs1 hp1 hPx1 hPm1 hS1 => ?_)
  obtain ⟨rfl, rfl⟩ := hp1
  refine lv_aload_n hx hb dL_law_423 rfl (lv_at hl 2 rfl) ?_
  refine lv_aload_n hx hb dL_law_424 rfl (lv_at hl 0 rfl) ?_
  refine lv_iload_n hx hb dL_law_425 rfl (lv_at hl 3 rfl) ?_
  refine lv_iconst (v := 1) hx hb dL_law_426 (by decide) ?_
  refine lv_iadd hx hb dL_law_427 ?_
  refine va_sld hx hb hX hbl hbA hS1 hin1 dL_law_428 ?_
  refine lw_call CX2 hap2 [.int (xs (nI i + 1).toNatClampNeg)] 7 (by omega) hm0 rfl (c_X7_wordAt l D kc 9 am cm σ hn hh T ch (xs (nI i + 1).toNatClampNeg) hMA hg.1 (Nat.le_refl 9)) (cwV 1 CX2.2.2.2.2.1 gL_law_X7_wordAt rfl rfl rfl (by decide +kernel) ⟨(Nat.le_of_ble_eq_true rfl), (Nat.le_of_ble_eq_true rfl)⟩) rfl rfl (Nat.le_of_ble_eq_true rfl) (Nat.le_of_ble_eq_true rfl) (Nat.le_of_ble_eq_true rfl) dL_law_429 hPm1 hPx1 hS1 hl (fun r2 cm2 H2 locs2 hp2 hPm2 hPx2 hS2 => ?_)
  obtain ⟨rfl, rfl⟩ := hp2
  refine lv_icmp_eq (tgt := 746) hx hb dL_law_432 (by decide) (fun _ => ?_) (fun hc => absurd rfl hc)
  exact kk _ _ ⟨_, _, _, _, _, _, _, hPx2, hPm2, hS2, hXA, hMA, hg, hgh⟩
set_option maxRecDepth 100000 in
set_option maxHeartbeats 4000000 in
theorem lc_anchorOf {p : Program} {l : Launch} {e : Env} {s : State} {m : MethodId} {below : List Frame} {meth : Method} {c : Code} {b L : Nat} {xs : Nat → Int32} {D : va_G} {kc : Nat → ClassId} {ax am : Nat → Nat} (Q0 : LCtx p s m meth c b L xs D kc ax am) {i : Nat} (hi4 : i + 4 ≤ L) {H : Heap} {locs : List Loc} {ls : Array Slot} (hI : LI D kc s ax am H locs) (hl : lv_has ls 4 [(0, .ref b), (1, .ref (ax 0)), (2, .ref (am 0)), (3, .int (nI i))]) (kk : ∀ (H1 : Heap) (locs1 : List Loc), LI D kc s ax am H1 locs1 → W p l e room_1 s m #[Value.ref b] below meth c H1 locs1 134 1984 (lw_Z below #[Value.ref b] s) (F0 m 746 ls [])) : W p l e room_1 s m #[Value.ref b] below meth c H locs 134 1984 (lw_Z below #[Value.ref b] s) (F0 m 437 ls []) := by
  obtain ⟨C0, CX1, CX2, hap, hZ, hL⟩ := Q0
  obtain ⟨hx, hb, hr, hml, hown, hts, hX, hbl, hlocks, hgv⟩ := C0
  have hbA : ¬ AL s b := Nat.not_le.mpr hbl
  have hap2 : ∀ i j, i < 9 → j < 125 → am i ≠ ax j := fun i j h1 h2 q => hap j i h2 h1 q.symm
  obtain ⟨cx, cm, σ, hn, hh, T, ch, hPx, hPm, hS, hXA, hMA, hg, hgh⟩ := hI
  obtain ⟨fs, hm0⟩ := hMA.c0
  have hin1 : vp_in (nI i + 1) L := by rw [show nI i + 1 = nI (i + 1) from mI_add i 1]; exact vp_in_nI (by omega) (by omega)
  have hin2 : vp_in (nI i + 2) L := by rw [show nI i + 2 = nI (i + 2) from mI_add i 2]; exact vp_in_nI (by omega) (by omega)
  refine lv_aload_n hx hb dL_law_437 rfl (lv_at hl 1 rfl) ?_
  refine lv_aload_n hx hb dL_law_438 rfl (lv_at hl 0 rfl) ?_
  refine lv_iload_n hx hb dL_law_439 rfl (lv_at hl 3 rfl) ?_
  refine lv_iconst (v := 1) hx hb dL_law_440 (by decide) ?_
  refine lv_iadd hx hb dL_law_441 ?_
  refine va_sld hx hb hX hbl hbA hS hin1 dL_law_442 ?_
  refine lv_aload_n hx hb dL_law_443 rfl (lv_at hl 0 rfl) ?_
  refine lv_iload_n hx hb dL_law_444 rfl (lv_at hl 3 rfl) ?_
  refine lv_iconst (v := 2) hx hb dL_law_445 (by decide) ?_
  refine lv_iadd hx hb dL_law_446 ?_
  refine va_sld hx hb hX hbl hbA hS hin2 dL_law_447 ?_
  refine lw_call CX1 hap [.int (xs (nI i + 1).toNatClampNeg), .int (xs (nI i + 2).toNatClampNeg)] 6 (by omega) hXA.1 rfl (c_X6_anchorOf l D kc 125 ax cx σ hn hh T ch (xs (nI i + 1).toNatClampNeg) (xs (nI i + 2).toNatClampNeg) hXA hg.1 (Nat.le_refl 125)) (cwV 2 CX1.2.2.2.2.1 gL_law_X6_anchorOf rfl rfl rfl (by decide +kernel) ⟨(Nat.le_of_ble_eq_true rfl), (Nat.le_of_ble_eq_true rfl)⟩) rfl rfl (Nat.le_of_ble_eq_true rfl) (Nat.le_of_ble_eq_true rfl) (Nat.le_of_ble_eq_true rfl) dL_law_448 hPx hPm hS hl (fun r1 cx1 H1 locs1 hp1 hPx1 hPm1 hS1 => ?_)
  obtain ⟨rfl, rfl⟩ := hp1
  refine lv_aload_n hx hb dL_law_451 rfl (lv_at hl 2 rfl) ?_
  refine lv_aload_n hx hb dL_law_452 rfl (lv_at hl 0 rfl) ?_
  refine lv_iload_n hx hb dL_law_453 rfl (lv_at hl 3 rfl) ?_
  refine lv_iconst (v := 1) hx hb dL_law_454 (by decide) ?_
  refine lv_iadd hx hb dL_law_455 ?_
  refine va_sld hx hb hX hbl hbA hS1 hin1 dL_law_456 ?_
  refine lv_aload_n hx hb dL_law_457 rfl (lv_at hl 0 rfl) ?_
  refine lv_iload_n hx hb dL_law_458 rfl (lv_at hl 3 rfl) ?_
  refine lv_iconst (v := 2) hx hb dL_law_459 (by decide) ?_
  refine lv_iadd hx hb dL_law_460 ?_
  refine va_sld hx hb hX hbl hbA hS1 hin2 dL_law_461 ?_
  refine lw_call CX2 hap2 [.int (xs (nI i + 1).toNatClampNeg), .int (xs (nI i + 2).toNatClampNeg)] 7 (by omega) hm0 rfl (c_X7_anchorOf l D kc 9 am cm σ hn hh T ch (xs (nI i + 1).toNatClampNeg) (xs (nI i + 2).toNatClampNeg) hMA hg.1 (Nat.le_refl 9)) (cwV 2 CX2.2.2.2.2.1 gL_law_X7_anchorOf rfl rfl rfl (by decide +kernel) ⟨(Nat.le_of_ble_eq_true rfl), (Nat.le_of_ble_eq_true rfl)⟩) rfl rfl (Nat.le_of_ble_eq_true rfl) (Nat.le_of_ble_eq_true rfl) (Nat.le_of_ble_eq_true rfl) dL_law_462 hPm1 hPx1 hS1 hl (fun r2 cm2 H2 locs2 hp2 hPm2 hPx2 hS2 => ?_)
  obtain ⟨rfl, rfl⟩ := hp2
  refine lv_icmp_eq (tgt := 746) hx hb dL_law_465 (by decide) (fun _ => ?_) (fun hc => absurd rfl hc)
  exact kk _ _ ⟨_, _, _, _, _, _, _, hPx2, hPm2, hS2, hXA, hMA, hg, hgh⟩
