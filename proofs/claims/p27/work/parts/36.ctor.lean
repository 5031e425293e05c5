/-! Constructors: the world grows. The new addresses come with the answer; those before stay. -/
def knest : List (String × Nat × MethodName) := [(RX5, 11, yX4_init), (RX5, 28, yX0_init), (RX6, 28, yX2_init), (RX6, 35, yX1_init), (RX6, 42, yX0_init)]
def AO2 (U : State) : Prop := va_AO RX0 U ∧ va_AO RX5 U ∧ ∀ q ∈ knest, va_Nw (.methodLinkNest q.1 q.2.1 q.2.2 "WordAnchors") U
theorem AO2.warm {u U : State} (hW : u.WarmedH U.vm) (h : AO2 u) : AO2 U := ⟨h.1.moved hW.alike, h.2.1.moved hW.alike, fun q hq => va_Nw.warmM hW (h.2.2 q hq)⟩
theorem AO2.same {u U : State} (hW : u.vm = U.vm) (h : AO2 u) : AO2 U := ⟨h.1.moved (hW ▸ Vm.Alike.refl u.vm), h.2.1.moved (hW ▸ Vm.Alike.refl u.vm), fun q hq => va_Nw.same rfl hW (h.2.2 q hq)⟩
def QK (k N : Nat) (D : va_G) (adr : Nat → Nat) (post : (Nat → Nat) → (Nat → va_E) → Prop) (A : Nat → Prop) : Array Value → State → Outcome → State → Prop :=
  va_Qv (S := (Nat → Nat) × (Nat → va_E)) (fun z => (∀ j, j < N → z.1 j = adr j) ∧ post z.1 z.2) (fun z t => va_P D vwCl (wld (N + k) z.1 z.2) t.heap ∧ va_D A (wld (N + k) z.1 z.2)) A
def MK (l : Launch) (y : MethodName) (ws : List Cond) (rm : Room) (k mc ms : Nat) (D : va_G) (kc : Nat → ClassId) (N : Nat) (adr : Nat → Nat) (cell : Nat → va_E) (av : List Value) (post : (Nat → Nat) → (Nat → va_E) → Prop) : Prop := ∀ sz : Nat, Met l y ws rm (va_Pc av (fun U => Pre D kc N adr cell sz U ∧ AO2 U)) (QK k N D adr post (AA N adr sz)) mc ms (AA N adr sz)
theorem blindPreK {av : List Value} {D : va_G} {kc : Nat → ClassId} {N : Nat} {adr : Nat → Nat} {cell : Nat → va_E} {sz : Nat} : FrameBlind (va_Pc av (fun U => Pre D kc N adr cell sz U ∧ AO2 U)) := by
  intro a U g mk q
  obtain ⟨q0, ⟨q1, qP, qK, qD⟩, hA⟩ := q
  exact ⟨q0, ⟨q1, qP, va_K.moved (u := U) (U := U.calling g mk a) (Vm.Alike.refl U.vm) qK, qD⟩, AO2.same (u := U) (U := U.calling g mk a) rfl hA⟩
theorem met_k {l : Launch} {y : MethodName} {ws ws' : List Cond} {rm : Room} {k mc ms : Nat} {D : va_G} {kc : Nat → ClassId} {N : Nat} {adr : Nat → Nat} {cell : Nat → va_E} {av : List Value} {post : (Nat → Nat) → (Nat → va_E) → Prop} {cc : ByteArray} {maxL : Nat} {ret : Option FieldType} {lv : List (Nat × Value)} (hy : plainName y.cls = true) (hw : ws = Cond.code y cc maxL ret :: ws') (hlen : (lg_sl av).length ≤ maxL) (hlv : lv_args 0 av = lv)
    (body : ∀ (p : Program) (e : Env) (s : State) (m : MethodId) (args : Array Value) (below : List Frame) (meth : Method) (c : Code) (A : Nat → Prop), CX p s m args c cc y.cls ws D kc N adr A s.heap maxL → meth.sig.returnType = ret → meth.locks = false → meth.name = y.name → AO2 s →
      G p l e (headSpec ws rm).room s m args below meth c D N adr A s.heap maxL 0 0 (MQ below (QK k N D adr post A) args s mc ms A) cell 0 lv []) : MK l y ws rm k mc ms D kc N adr cell av post := by
  intro sz
  refine Met.ofW (cc := cc) (maxL := maxL) (ret := ret) hy hw ?_
  intro p e s m args below meth c s₁ B hml hv
  obtain ⟨rfl, ⟨rfl, hP, hK, hD0⟩, hAO⟩ := hv
  have hCX : CX p s m av.toArray c cc y.cls ws D kc N adr (AA N adr s.heap.size) s.heap maxL := ⟨B.exec, B.bytes, hml, findClass_of_methodNamed B.named, atoms_spec (ws := ws) B.pre, hK, fun cell' => ⟨(wld_D (cell' := cell') hD0).1, fun k q hk => Or.inl ⟨k, (wld_of hk).1, by rw [(wld_of hk).2]⟩⟩, fun q h => Or.inr h⟩
  have hl := lv_entry av (n := maxL) hlen
  rw [lg_entry_eq]
  exact body p e s m _ below meth c _ hCX B.returns B.notSynchronized (name_of_methodNamed B.named B.method).1 hAO s.heap [] _ hP va_S.rf (hlv ▸ hl)
theorem kc_eq {D : va_G} {tys : List (ClassId × FieldType)} {s : State} {cA c0 : ClassId} {ty : FieldType} (t0 : Nat) (h : va_K D vwCl (tys ++ [(cA, ty)]) s) (h0 : tys[t0]? = some (c0, ty)) : cA = c0 := by
  have hl : t0 < tys.length := (List.getElem?_eq_some_iff.mp h0).1
  have a := (h.2 t0 (c0, ty) (by rw [List.getElem?_append_left hl]; exact h0)).2
  have b := (h.2 tys.length (cA, ty) (by simp)).2
  unfold va_RA at a b
  cases ty with
  | object C =>
    obtain ⟨_, _, _, _, _, a4⟩ := a
    obtain ⟨_, _, _, _, _, b4⟩ := b
    exact Option.some.inj (b4.symm.trans a4)
  | _ => exact Option.some.inj (b.symm.trans a)
section KROWS
variable {p : Program} {l : Launch} {e : Env} {R : Room} {s : State} {m : MethodId} {args : Array Value} {below : List Frame} {meth : Method} {c : Code} {D : va_G} {N : Nat} {adr : Nat → Nat} {A : Nat → Prop} {H0 : Heap} {nL ka kn : Nat} {Q : State → Prop} {cell : Nat → va_E} {pc : Nat} {lv : List (Nat × Value)} {st rest : List Value} {cc : ByteArray} {own : String} {Ts : List Cond} {kc : Nat → ClassId}
theorem CX.grow (C : CX p s m args c cc own Ts D kc N adr A H0 nL) {N1 : Nat} {adr1 : Nat → Nat} {cell1 : Nat → va_E} (h : va_D A (wld N1 adr1 cell1)) : CX p s m args c cc own Ts D kc N1 adr1 A H0 nL :=
  ⟨C.1, C.2.1, C.2.2.1, C.2.2.2.1, C.2.2.2.2.1, C.2.2.2.2.2.1, fun _ => wld_D h, C.2.2.2.2.2.2.2⟩
theorem g_kret {N0 k : Nat} {adr0 : Nat → Nat} (hN : N = N0 + k) (C : CX p s m args c cc own Ts D kc N adr A s.heap nL) {post : (Nat → Nat) → (Nat → va_E) → Prop} (hr : meth.sig.returnType = none) (hlk : meth.locks = false) (d : decode cc pc = .ok (.return_, 1)) (hag : ∀ j, j < N0 → adr j = adr0 j) (hp : post adr cell) : G p l e R s m args below meth c D N adr A s.heap nL ka kn (MQ below (QK k N0 D adr0 post A) args s ka kn A) cell pc lv [] := fun H locs ls hP hS hl => by
  subst hN
  exact W.vret C.1 C.2.1 hr (fun t ht _ => ⟨⟨(adr, cell), rfl, ⟨hag, hp⟩, (show va_P D vwCl (wld (N0 + k) adr cell) t.heap by rw [ht]; exact hP), C.2.2.2.2.2.2.1 cell⟩, hS.F ht⟩) hS.2.2 d hlk
theorem g_new (C : CX p s m args c cc own Ts D kc N adr A H0 nL) {C0 : String} {T : u_T} {M index : Nat} (ci : Nat) (hc : vwCl[ci]? = some (C0, T, M)) (hin : ∀ w ∈ u_ws C0 T M, w ∈ Ts) (ty : Nat → FieldType) (hty : ∀ k, k < M → parseFieldDescriptor (T k).2.2.1 = some (ty k)) (hcl : (Cond.classLink own index C0).before args s = true) (hinst : (Cond.instantiable C0 M).before args s = true) (hini : (Cond.initialized C0).before args s = true) (fs : List Value) (hfs : ∀ j, j < M → defaultValue (ty j) = vp_V fs j) (h1 : ka + 1 ≤ R.cells) (h2 : kn + M ≤ R.slots) (d : decode cc pc = .ok (.new index, 3))
    (N1 : Nat) (hN1 : N1 = N + 1) (kk : ∀ adr1 : Nat → Nat, (∀ j, j < N → adr1 j = adr j) → CX p s m args c cc own Ts D kc N1 adr1 A H0 nL → G p l e R s m args below meth c D N1 adr1 A H0 nL (ka + 1) (kn + M) Q (va_up cell N (.inr (ci, fs))) (pc + 3) lv (.ref (adr1 N) :: st)) : G p l e R s m args below meth c D N adr A H0 nL ka kn Q cell pc lv st := fun H locs ls hP hS hl =>
  va_new C.1 C.2.1 C.2.2.2.2.1 hin ty hty C.2.2.2.1 hcl hinst hini C.2.2.2.2.2.1 hP (C.2.2.2.2.2.2.1 cell) hS C.2.2.2.2.2.2.2 hc hfs h1 h2 d (fun q H1 hP1 hD1 hS1 => by
    rw [wld_push] at hP1 hD1
    subst hN1
    have := kk (va_up adr N q) (fun j hj => va_up_ne _ _ (Nat.ne_of_lt hj)) (C.grow hD1) H1 locs ls hP1 hS1 hl
    rw [va_up_self] at this
    exact this)
theorem g_newa (C : CX p s m args c cc own Ts D kc N adr A H0 nL) {atype : ArrayType} {ty : FieldType} (t0 : Nat) {c0 : ClassId} (ht : (tyl kc)[t0]? = some (c0, ty)) (hty : newarray.typeOf atype = ty) (harr : (Cond.arrayClass ty).before args s = true) {n : Int32} {N' : Nat} (a0 : vp_A) (ha : ∀ cA : ClassId, vp_cell cA a0 = arrV cA N' (fun _ => defaultValue ty)) (hn : ¬ n < 0) (hN : n.toNatClampNeg = N') (hbytes : N' * componentBytes ty ≤ 536870912) (h1 : ka + 1 ≤ R.cells) (h2 : kn + N' ≤ R.slots) (d : decode cc pc = .ok (.newarray atype, 2))
    (N1 : Nat) (hN1 : N1 = N + 1) (kk : ∀ adr1 : Nat → Nat, (∀ j, j < N → adr1 j = adr j) → CX p s m args c cc own Ts D kc N1 adr1 A H0 nL → G p l e R s m args below meth c D N1 adr1 A H0 nL (ka + 1) (kn + N') Q (va_up cell N (.inl (c0, a0))) (pc + 2) lv (.ref (adr1 N) :: st)) : G p l e R s m args below meth c D N adr A H0 nL ka kn Q cell pc lv (.int n :: st) := fun H locs ls hP hS hl =>
  va_newa C.1 C.2.1 (hty ▸ harr) hty C.2.2.2.2.2.1 hP (C.2.2.2.2.2.2.1 cell) hS C.2.2.2.2.2.2.2 ha hn hN hbytes h1 h2 d (fun q cA H1 hK1 hP1 hD1 hS1 => by
    have hcA := kc_eq t0 hK1 ht
    subst hcA
    rw [wld_push] at hP1 hD1
    subst hN1
    have := kk (va_up adr N q) (fun j hj => va_up_ne _ _ (Nat.ne_of_lt hj)) (C.grow hD1) H1 locs ls hP1 hS1 hl
    rw [va_up_self] at this
    exact this)
theorem g_newq (C : CX p s m args c cc own Ts D kc N adr A H0 nL) {C1 : String} {index : Nat} (t0 : Nat) {c0 : ClassId} (ht : (tyl kc)[t0]? = some (c0, .object C1)) (hcl : (Cond.classLink own index C1).before args s = true) (hov : va_AO C1 s) {n : Int32} {N' : Nat} (hn : ¬ n < 0) (hN : n.toNatClampNeg = N') (hbytes : N' * 4 ≤ 536870912) (h1 : ka + 1 ≤ R.cells) (h2 : kn + N' ≤ R.slots) (d : decode cc pc = .ok (.anewarray index, 3))
    (N1 : Nat) (hN1 : N1 = N + 1) (kk : ∀ adr1 : Nat → Nat, (∀ j, j < N → adr1 j = adr j) → CX p s m args c cc own Ts D kc N1 adr1 A H0 nL → G p l e R s m args below meth c D N1 adr1 A H0 nL (ka + 1) (kn + N') Q (va_up cell N (.inl (c0, N', .inr (.inr (.inr (.inr (fun _ => none))))))) (pc + 3) lv (.ref (adr1 N) :: st)) : G p l e R s m args below meth c D N adr A H0 nL ka kn Q cell pc lv (.int n :: st) := fun H locs ls hP hS hl =>
  va_newq C.1 C.2.1 C.2.2.2.1 hcl hov C.2.2.2.2.2.1 hP (C.2.2.2.2.2.2.1 cell) hS C.2.2.2.2.2.2.2 hn hN hbytes h1 h2 d (fun q cA H1 hK1 hP1 hD1 hS1 => by
    have hcA := kc_eq t0 hK1 ht
    subst hcA
    rw [wld_push] at hP1 hD1
    subst hN1
    have := kk (va_up adr N q) (fun j hj => va_up_ne _ _ (Nat.ne_of_lt hj)) (C.grow hD1) H1 locs ls hP1 hS1 hl
    rw [va_up_self] at this
    exact this)
theorem g_putF (C : CX p s m args c cc own Ts D kc N adr A H0 nL) {ref C0 : String} {T : u_T} {M index : Nat} {v : Value} (i ci k : Nat) (hi : i < N) {fs : List Value} (he : cell i = .inr (ci, fs)) (hc : vwCl[ci]? = some (C0, T, M)) (hin : ∀ w ∈ u_ws C0 T M, w ∈ Ts) (ty0 : Nat → FieldType) (hty : ∀ k, k < M → parseFieldDescriptor (T k).2.2.1 = some (ty0 k)) (hnm : ∀ a, a < M → ∀ b, b < M → a ≠ b → (T a).2.1 ≠ (T b).2.1) (hk : k < M) (hlink : (Cond.fieldLink own index ref (T k).2.1 (T k).2.2.1).before args s = true) (hsame : ∀ x, s.fieldFound? (T k).1 (T k).2.1 (T k).2.2.1 = some x → s.fieldFound? ref (T k).2.1 (T k).2.2.1 = some x) (hfin : (T k).2.2.2 = true) (hin2 : meth.name = "<init>") (hdecl : (T k).1 = own) {ty : FieldType} (hd : parseFieldDescriptor (T k).2.2.1 = some ty) (hn : narrow ty v = v) (hfit : fits ty v = true) (hl0 : k < fs.length) (d : decode cc pc = .ok (.putfield index, 3)) (kk : G p l e R s m args below meth c D N adr A H0 nL ka kn Q (va_up cell i (.inr (ci, fs.set k v))) (pc + 3) lv st) : G p l e R s m args below meth c D N adr A H0 nL ka kn Q cell pc lv (v :: .ref (adr i) :: st) := fun H locs ls hP hS hl => va_putF C.1 C.2.1 C.2.2.2.2.1 hin ty0 hty hnm C.2.2.2.1 C.2.2.2.2.2.1 hP (C.2.2.2.2.2.2.1 cell) hS i (wld_at hi he) hc k hk hlink hsame hfin hin2 hdecl hd hn hfit hl0 d (fun H1 locs1 hP1 _ hS1 => kk H1 locs1 ls (wld_set ▸ hP1) hS1 hl)
theorem g_obj (C : CX p s m args c cc own Ts D kc N adr A H0 nL) {index a : Nat} (hlink : (Cond.methodLink own index Lib.objectInit).before args s = true) (hinst : (Cond.instanceMethod Lib.objectInit).before args s = true) (hcode : (Cond.code Lib.objectInit ⟨#[0xb1]⟩ 1 none).before args s = true) (d : decode cc pc = .ok (.invokespecial index, 3)) (hfr : 1 ≤ R.frames) (hlo : (st.map fun v => v.category).sum + 12 ≤ R.locals) (kk : G p l e R s m args below meth c D N adr A H0 nL ka kn Q cell (pc + 3) lv st) : G p l e R s m args below meth c D N adr A H0 nL ka kn Q cell pc lv (.ref a :: st) := fun H locs ls hP hS hl => W.objInit C.1 C.2.1 C.2.2.2.1 hlink hinst hcode rfl (hl.1.trans C.2.2.1.symm) rfl d hfr (by show 2 * 0 + _ + 12 ≤ _; omega) (kk H locs ls hP hS hl)
theorem g_aast (C : CX p s m args c cc own Ts D kc N adr A H0 nL) {x : Int32} (i t0 j ci : Nat) (hi : i < N) (hj : j < N) {cA : ClassId} {r : vw_C} {z : Nat} {vs : List Value} {f : Nat → Option Nat} (ha : cell i = .inl (cA, z, .inr (.inr (.inr (.inr f))))) (ht : (tyl kc)[t0]? = some (cA, .object r.1)) (hv : cell j = .inr (ci, vs)) (hc : vwCl[ci]? = some r) (hin : vp_in x z) (d : decode cc pc = .ok (.aastore, 1)) (kk : G p l e R s m args below meth c D N adr A H0 nL ka kn Q (va_up cell i (.inl (cA, z, .inr (.inr (.inr (.inr (va_up f x.toNatClampNeg (some (adr j)))))))) ) (pc + 1) lv st) : G p l e R s m args below meth c D N adr A H0 nL ka kn Q cell pc lv (.ref (adr j) :: .int x :: .ref (adr i) :: st) := fun H locs ls hP hS hl => va_astq C.1 C.2.1 C.2.2.2.2.2.1 hP (C.2.2.2.2.2.2.1 cell) hS i t0 j ci (wld_at hi ha) ht (wld_at hj hv) hc hin d (fun H1 locs1 hP1 _ hS1 => kk H1 locs1 ls (wld_set ▸ hP1) hS1 hl)
theorem g_ctor (C : CX p s m args c cc own Ts D kc N adr A H0 nL) {y : MethodName} {ws : List Cond} {rm : Room} {k mc ms maxL index b : Nat} {bytes : ByteArray} {post : (Nat → Nat) → (Nat → va_E) → Prop} (hM : MK l y ws rm k mc ms D kc N adr cell [.ref b] post) (hAO : AO2 s) (cw : CallB R s args own index y bytes maxL none ws rm mc ms 0 ∧ y.name = "<init>" ∧ (Cond.instanceMethod y).before args s = true) (hW : (st.map fun v => v.category).sum ≤ 8) (h1 : ka + mc ≤ R.cells) (h2 : kn + ms ≤ R.slots) (d : decode cc pc = .ok (.invokespecial index, 3))
    (N1 : Nat) (hN1 : N1 = N + k) (kk : ∀ (adr1 : Nat → Nat) (cell1 : Nat → va_E), (∀ j, j < N → adr1 j = adr j) → post adr1 cell1 → CX p s m args c cc own Ts D kc N1 adr1 A H0 nL → G p l e R s m args below meth c D N1 adr1 A H0 nL (ka + mc) (kn + ms) Q cell1 (pc + 3) lv st) : G p l e R s m args below meth c D N adr A H0 nL ka kn Q cell pc lv (.ref b :: st) := fun H locs ls hP hS hl => by
  subst hN1
  exact va_callv (va_runI (As := []) (rest := st) ⟨C.1, C.2.1, C.2.2.1, C.2.2.2.1, C.2.2.2.2.1⟩ (hM H.size) cw ⟨blindPreK, fun U hU hW => ⟨rfl, preP C hP hU hW, AO2.warm hW hAO⟩⟩ rfl rfl hl.1 rfl (lv_room hW) d ⟨h1, h2⟩) hS (fun q _ h => aaF C hS q h) (aaF C hS) (fun u t H1 locs1 ht hvm hw hB hz1 hk1 hS1 => kk u.1 u.2 hw.1 hw.2 (C.grow (hB.2.weaken (fun _ _ _ h => aaF C hS _ h))) H1 locs1 ls (ht ▸ hB.1) hS1 hl)
theorem g_ctorN (C : CX p s m args c cc own Ts D kc N adr A H0 nL) {y : MethodName} {ws : List Cond} {rm : Room} {k mc ms maxL index b : Nat} {bytes : ByteArray} {post : (Nat → Nat) → (Nat → va_E) → Prop} (hM : MK l y ws rm k mc ms D kc N adr cell [.ref b] post) (hAO : AO2 s) {host : String} (cw : va_CN R s args own index y host bytes maxL none ws rm mc ms 0 ∧ y.name = "<init>" ∧ (Cond.instanceMethod y).before args s = true) (hW : (st.map fun v => v.category).sum ≤ 8) (h1 : ka + mc ≤ R.cells) (h2 : kn + ms ≤ R.slots) (d : decode cc pc = .ok (.invokespecial index, 3))
    (N1 : Nat) (hN1 : N1 = N + k) (kk : ∀ (adr1 : Nat → Nat) (cell1 : Nat → va_E), (∀ j, j < N → adr1 j = adr j) → post adr1 cell1 → CX p s m args c cc own Ts D kc N1 adr1 A H0 nL → G p l e R s m args below meth c D N1 adr1 A H0 nL (ka + mc) (kn + ms) Q cell1 (pc + 3) lv st) : G p l e R s m args below meth c D N adr A H0 nL ka kn Q cell pc lv (.ref b :: st) := fun H locs ls hP hS hl => by
  subst hN1
  exact va_callv (va_runIN (As := []) (rest := st) ⟨C.1, C.2.1, C.2.2.1, C.2.2.2.1, C.2.2.2.2.1⟩ (hM H.size) cw ⟨blindPreK, fun U hU hW => ⟨rfl, preP C hP hU hW, AO2.warm hW hAO⟩⟩ rfl rfl hl.1 rfl (lv_room hW) d ⟨h1, h2⟩) hS (fun q _ h => aaF C hS q h) (aaF C hS) (fun u t H1 locs1 ht hvm hw hB hz1 hk1 hS1 => kk u.1 u.2 hw.1 hw.2 (C.grow (hB.2.weaken (fun _ _ _ h => aaF C hS _ h))) H1 locs1 ls (ht ▸ hB.1) hS1 hl)
end KROWS
/-- what was made before stays when the world grows -/
theorem AncAt.move {cell cell1 : Nat → va_E} {adr adr1 : Nat → Nat} {kc : Nat → ClassId} {a : Nat} {p v : Int32} {f : Nat → Int32} (h : AncAt cell adr kc a p v f) (hf : ∀ j : Nat, a ≤ j → j < a + 2 → cell1 j = cell j) (hg : ∀ j : Nat, a ≤ j → j < a + 2 → adr1 j = adr j) : AncAt cell1 adr1 kc a p v f :=
  ⟨(hf _ (by omega) (by omega)).trans (by rw [h.1, hg (a + 1) (by omega) (by omega)]), (hf _ (by omega) (by omega)).trans h.2⟩
theorem RowAt.move {cell cell1 : Nat → va_E} {adr adr1 : Nat → Nat} {kc : Nat → ClassId} {r : Nat} {W T U : Nat → Int32} {n : Nat} (h : RowAt cell adr kc r W T U n) (hf : ∀ j : Nat, r ≤ j → j < r + 4 → cell1 j = cell j) (hg : ∀ j : Nat, r ≤ j → j < r + 4 → adr1 j = adr j) : RowAt cell1 adr1 kc r W T U n :=
  ⟨(hf _ (by omega) (by omega)).trans (by rw [h.1, hg (r + 1) (by omega) (by omega), hg (r + 2) (by omega) (by omega), hg (r + 3) (by omega) (by omega)]), (hf _ (by omega) (by omega)).trans h.2.1, (hf _ (by omega) (by omega)).trans h.2.2.1, (hf _ (by omega) (by omega)).trans h.2.2.2.1, h.2.2.2.2⟩
theorem TxAt.move {cell cell1 : Nat → va_E} {adr adr1 : Nat → Nat} {kc : Nat → ClassId} {t L : Nat} {sx nx sg : Int32} {ch nu : Nat → Int32} (h : TxAt cell adr kc t L sx nx sg ch nu) (hf : ∀ j : Nat, t ≤ j → j < t + 3 → cell1 j = cell j) (hg : ∀ j : Nat, t ≤ j → j < t + 3 → adr1 j = adr j) : TxAt cell1 adr1 kc t L sx nx sg ch nu :=
  ⟨(hf _ (by omega) (by omega)).trans (by rw [h.1, hg (t + 1) (by omega) (by omega), hg (t + 2) (by omega) (by omega)]), (hf _ (by omega) (by omega)).trans h.2.1, (hf _ (by omega) (by omega)).trans h.2.2.1, h.2.2.2⟩
theorem BlAt.move {cell cell1 : Nat → va_E} {adr adr1 : Nat → Nat} {kc : Nat → ClassId} {z sz : Nat} {Sf Mf : Nat → Int32} (h : BlAt cell adr kc z sz Sf Mf) (hf : ∀ j : Nat, z ≤ j → j < z + 3 → cell1 j = cell j) (hg : ∀ j : Nat, z ≤ j → j < z + 3 → adr1 j = adr j) : BlAt cell1 adr1 kc z sz Sf Mf :=
  ⟨(hf _ (by omega) (by omega)).trans (by rw [h.1, hg (z + 1) (by omega) (by omega), hg (z + 2) (by omega) (by omega)]), (hf _ (by omega) (by omega)).trans h.2.1, (hf _ (by omega) (by omega)).trans h.2.2.1, h.2.2.2⟩
theorem StAt.move {cell cell1 : Nat → va_E} {adr adr1 : Nat → Nat} {kc : Nat → ClassId} {b : Nat} {d : SD} (h : StAt cell adr kc b d) (hf : ∀ j : Nat, b ≤ j → j < b + 19 → cell1 j = cell j) (hg : ∀ j : Nat, b ≤ j → j < b + 19 → adr1 j = adr j) : StAt cell1 adr1 kc b d := by
  obtain ⟨h0, hr, ⟨g, h5, hgk⟩, h6, hA, hm⟩ := h
  refine ⟨(hf _ (by omega) (by omega)).trans (by rw [h0, hg (b + 1) (by omega) (by omega), hg (b + 5) (by omega) (by omega), hg (b + 6) (by omega) (by omega)]), hr.move (fun j a c => hf j (by omega) (by omega)) (fun j a c => hg j (by omega) (by omega)), ⟨g, (hf _ (by omega) (by omega)).trans h5, fun k hk => by rw [hgk k hk, hg _ (by omega) (by omega)]⟩, (hf _ (by omega) (by omega)).trans h6, fun k hk => (hA k hk).move (fun j a c => hf j (by omega) (by omega)) (fun j a c => hg j (by omega) (by omega)), hm⟩
theorem HiAt.move {cell cell1 : Nat → va_E} {adr adr1 : Nat → Nat} {kc : Nat → ClassId} {h od sz : Nat} {dh : Nat → SD} (hs : HiAt cell adr kc h od sz dh) (hf : ∀ j : Nat, h ≤ j → j < h + 78 → cell1 j = cell j) (hg : ∀ j : Nat, h ≤ j → j < h + 78 → adr1 j = adr j) : HiAt cell1 adr1 kc h od sz dh := by
  obtain ⟨h0, ⟨g, h1, hgk⟩, h2, h3⟩ := hs
  exact ⟨(hf _ (by omega) (by omega)).trans (by rw [h0, hg (h + 1) (by omega) (by omega)]), ⟨g, (hf _ (by omega) (by omega)).trans h1, fun k hk => by rw [hgk k hk, hg _ (by omega) (by omega)]⟩, fun k hk => (h2 k hk).move (fun j a c => hf j (by omega) (by omega)) (fun j a c => hg j (by omega) (by omega)), h3⟩
/-- an array of references, filled up to i -/
def RArr (cell : Nat → va_E) (adr : Nat → Nat) (kc : Nat → ClassId) (t q z i ba st : Nat) : Prop := ∃ g : Nat → Option Nat, cell q = .inl (kc t, z, .inr (.inr (.inr (.inr g)))) ∧ ∀ k, k < i → g k = some (adr (ba + st * k))
theorem RArr.move {cell cell1 : Nat → va_E} {adr adr1 : Nat → Nat} {kc : Nat → ClassId} {t q z i ba st : Nat} (h : RArr cell adr kc t q z i ba st) (hf : cell1 q = cell q) (hg : ∀ k, k < i → adr1 (ba + st * k) = adr (ba + st * k)) : RArr cell1 adr1 kc t q z i ba st := by
  obtain ⟨g, h1, h2⟩ := h
  exact ⟨g, hf.trans h1, fun k hk => by rw [h2 k hk, hg k hk]⟩
theorem RArr.put {cell : Nat → va_E} {adr : Nat → Nat} {kc : Nat → ClassId} {t q z i ba st : Nat} {g : Nat → Option Nat} (h2 : ∀ k, k < i → g k = some (adr (ba + st * k))) : RArr (va_up cell q (.inl (kc t, z, .inr (.inr (.inr (.inr (va_up g i (some (adr (ba + st * i)))))))))) adr kc t q z (i + 1) ba st := by
  refine ⟨_, va_up_self _ _ _, fun k hk => ?_⟩
  by_cases hki : k = i
  · subst hki; exact va_up_self _ _ _
  · rw [va_up_ne _ _ hki]; exact h2 k (by omega)
