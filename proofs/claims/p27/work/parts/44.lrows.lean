/-! THE LAW'S OWN METHODS: rows that the class didn't need -/
theorem mI_add (a b : Nat) : nI a + nI b = nI (a + b) := nI_add a b
theorem mI_mul (a b : Nat) : nI a * nI b = nI (a * b) := pk_mul a b
section LROWS
variable {p : Program} {l : Launch} {e : Env} {R : Room} {s : State} {m : MethodId} {args : Array Value} {below : List Frame} {meth : Method} {c : Code} {D : va_G} {N : Nat} {adr : Nat → Nat} {A : Nat → Prop} {H0 : Heap} {nL ka kn : Nat} {Q : State → Prop} {cell : Nat → va_E} {pc : Nat} {lv : List (Nat × Value)} {st rest : List Value} {cc : ByteArray} {own : String} {Ts : List Cond} {kc : Nat → ClassId}
theorem g_ixor (C : CX p s m args c cc own Ts D kc N adr A H0 nL) {x y : Int32} (d : decode cc pc = .ok (.ixor, 1)) (kk : G p l e R s m args below meth c D N adr A H0 nL ka kn Q cell (pc + 1) lv (.int (x ^^^ y) :: st)) : G p l e R s m args below meth c D N adr A H0 nL ka kn Q cell pc lv (.int y :: .int x :: st) := fun H locs ls hP hS hl => lv_ixor C.1 C.2.1 d (kk H locs ls hP hS hl)
theorem g_idiv (C : CX p s m args c cc own Ts D kc N adr A H0 nL) {x y : Int32} (hne : ¬ y = 0) (d : decode cc pc = .ok (.idiv, 1)) (kk : G p l e R s m args below meth c D N adr A H0 nL ka kn Q cell (pc + 1) lv (.int (x / y) :: st)) : G p l e R s m args below meth c D N adr A H0 nL ka kn Q cell pc lv (.int y :: .int x :: st) := fun H locs ls hP hS hl => lv_idiv C.1 C.2.1 d hne (kk H locs ls hP hS hl)
end LROWS
theorem XAt.h4 {cell : Nat → va_E} {adr : Nat → Nat} {kc : Nat → ClassId} {σ : SD} {hn : Nat} {hi : Nat → SD} {L : Nat} {ch : Nat → Int32} (h : XAt cell adr kc σ hn hi L ch) : hn ≤ 4 := by
  obtain ⟨-, -, -, ⟨_, _, hH, -⟩, -⟩ := h
  exact hH.2.2.2.2
/-- a method over the script alone: it makes nothing, writes nothing -/
abbrev ew0 : Nat → va_E := fun _ => .inr (0, [])
abbrev ad0 : Nat → Nat := fun _ => 0
def MIT (l : Launch) (y : MethodName) (ws : List Cond) (rm : Room) (D : va_G) (kc : Nat → ClassId) (b L : Nat) (xs : Nat → Int32) (av : List Value) (post : Int32 → (Nat → va_E) → Prop) : Prop := ∀ sz : Nat, Met l y ws rm (va_Pc av (fun U => Pre D kc 0 ad0 ew0 sz U ∧ va_T .int b L (fun j => .int (xs j)) (AA 0 ad0 sz) U U.heap)) (va_Qi post (fun cell' t => va_P D vwCl (wld 0 ad0 cell') t.heap) (AA 0 ad0 sz)) 0 0 (AA 0 ad0 sz)
theorem blindPreT {av : List Value} {D : va_G} {kc : Nat → ClassId} {b L : Nat} {xs : Nat → Int32} {sz : Nat} : FrameBlind (va_Pc av (fun U => Pre D kc 0 ad0 ew0 sz U ∧ va_T .int b L (fun j => .int (xs j)) (AA 0 ad0 sz) U U.heap)) := by
  intro a U g mk q
  obtain ⟨q0, ⟨q1, qP, qK, qD⟩, hT⟩ := q
  exact ⟨q0, ⟨q1, qP, va_K.moved (u := U) (U := U.calling g mk a) (Vm.Alike.refl U.vm) qK, qD⟩, va_T.moved (u := U) (U := U.calling g mk a) (Vm.Alike.refl U.vm) hT⟩
theorem met_it {l : Launch} {y : MethodName} {ws ws' : List Cond} {rm : Room} {D : va_G} {kc : Nat → ClassId} {b L : Nat} {xs : Nat → Int32} {av : List Value} {post : Int32 → (Nat → va_E) → Prop} {cc : ByteArray} {maxL : Nat} {ret : Option FieldType} {lv : List (Nat × Value)} (hy : plainName y.cls = true) (hw : ws = Cond.code y cc maxL ret :: ws') (hlen : (lg_sl av).length ≤ maxL) (hlv : lv_args 0 av = lv)
    (body : ∀ (p : Program) (e : Env) (s : State) (m : MethodId) (args : Array Value) (below : List Frame) (meth : Method) (c : Code) (A : Nat → Prop), CX p s m args c cc y.cls ws D kc 0 ad0 A s.heap maxL → meth.sig.returnType = ret → meth.locks = false → meth.name = y.name → va_T .int b L (fun j => .int (xs j)) A s s.heap →
      G p l e (headSpec ws rm).room s m args below meth c D 0 ad0 A s.heap maxL 0 0 (MQ below (va_Qi post (fun cell1 t => va_P D vwCl (wld 0 ad0 cell1) t.heap) A) args s 0 0 A) ew0 0 lv []) : MIT l y ws rm D kc b L xs av post := by
  intro sz
  refine Met.ofW (cc := cc) (maxL := maxL) (ret := ret) hy hw ?_
  intro p e s m args below meth c s₁ B hml hv
  obtain ⟨rfl, ⟨rfl, hP, hK, hD0⟩, hT⟩ := hv
  have hCX : CX p s m av.toArray c cc y.cls ws D kc 0 ad0 (AA 0 ad0 s.heap.size) s.heap maxL := ⟨B.exec, B.bytes, hml, findClass_of_methodNamed B.named, atoms_spec (ws := ws) B.pre, hK, fun cell' => ⟨(wld_D (cell' := cell') hD0).1, fun k q hk => Or.inl ⟨k, (wld_of hk).1, by rw [(wld_of hk).2]⟩⟩, fun q h => Or.inr h⟩
  have hl := lv_entry av (n := maxL) hlen
  rw [lg_entry_eq]
  exact body p e s m _ below meth c _ hCX B.returns B.notSynchronized (name_of_methodNamed B.named B.method).1 hT s.heap [] _ hP va_S.rf (hlv ▸ hl)
section TROWS
variable {p : Program} {l : Launch} {e : Env} {R : Room} {s : State} {m : MethodId} {args : Array Value} {below : List Frame} {meth : Method} {c : Code} {D : va_G} {N : Nat} {adr : Nat → Nat} {A : Nat → Prop} {nL ka kn : Nat} {Q : State → Prop} {cell : Nat → va_E} {pc : Nat} {lv : List (Nat × Value)} {st rest : List Value} {cc : ByteArray} {own : String} {Ts : List Cond} {kc : Nat → ClassId}
theorem wld_0D {A : Nat → Prop} {cell : Nat → va_E} : va_D A (wld 0 ad0 cell) := ⟨fun i j x y h => by simp [wld] at h, fun k q h => by simp [wld] at h⟩
theorem wld_0P {D : va_G} {cl : List vw_C} {cell : Nat → va_E} {H : Heap} : va_P D cl (wld 0 ad0 cell) H := fun k q h => by simp [wld] at h
/-- a call of such a method leaves the world as it was -/
theorem g_St (C : CX p s m args c cc own Ts D kc N adr A s.heap nL) {b L : Nat} {xs : Nat → Int32} (hT : va_T .int b L (fun j => .int (xs j)) A s s.heap) {y : MethodName} {ws : List Cond} {rm : Room} {maxL n index : Nat} {bytes : ByteArray} {ret : Option FieldType} {post : Int32 → (Nat → va_E) → Prop} (As : List Value) (hM : MIT l y ws rm D kc b L xs As post) (cw : CallB R s args own index y bytes maxL ret ws rm 0 0 n ∧ (Cond.static y).before args s = true) (hn : As.length = n) (hst : st = As.reverse ++ rest) (hW : (rest.map fun v => v.category).sum ≤ 8) (h1 : ka ≤ R.cells) (h2 : kn ≤ R.slots) (d : decode cc pc = .ok (.invokestatic index, 3)) (kk : ∀ (r : Int32) (cell1 : Nat → va_E), post r cell1 → G p l e R s m args below meth c D N adr A s.heap nL ka kn Q cell (pc + 3) lv (.int r :: rest)) : G p l e R s m args below meth c D N adr A s.heap nL ka kn Q cell pc lv st := fun H locs ls hP hS hl => by
  subst hst
  have hAF : ∀ q, AA 0 ad0 H.size q → A q := fun q h => h.elim (fun ⟨i, hi, _⟩ => absurd hi (Nat.not_lt_zero i)) (fun h => C.2.2.2.2.2.2.2 q (Nat.le_trans hS.1 h))
  exact va_calli (va_runS (As := As) (rest := rest) ⟨C.1, C.2.1, C.2.2.1, C.2.2.2.1, C.2.2.2.2.1⟩ (hM H.size) cw ⟨blindPreT, fun U hU hW => ⟨rfl, ⟨by rw [hU], wld_0P, va_K.moved hW.alike C.2.2.2.2.2.1, wld_0D⟩, by rw [hU]; exact va_T.moved hW.alike ((hT.kept hS.2.1).narrow hAF)⟩⟩ rfl hn hl.1 rfl (lv_room hW) d ⟨h1, h2⟩) hS (fun q _ h => hAF q h) hAF (fun r u t H1 locs1 ht hvm hw hB hz1 hk1 hS1 => kk r u hw H1 locs1 ls (hP.kept (fun k q hk => by
    obtain ⟨hkl, rfl⟩ := wld_of hk
    have hlt : adr k < H.size := (hP k _ hk).lt
    exact hk1 _ hlt (fun h => h.elim (fun ⟨i, hi, _⟩ => absurd hi (Nat.not_lt_zero i)) (fun h => absurd hlt (Nat.not_lt.mpr h))))) hS1 hl)
end TROWS
theorem and_nn (x : Int32) : 0 ≤ (x &&& 2147483647).toInt := by
  obtain ⟨j, hj, e⟩ := pk_andE x (m := 2147483647) 31 (by decide +kernel)
  rw [e, nI_toInt hj]; omega
set_option maxRecDepth 100000 in
set_option maxHeartbeats 4000000 in
theorem c_L_cell (l : Launch) (D : va_G) (kc : Nat → ClassId) (b L : Nat) (xs : Nat → Int32) (k : Nat) (hk : k < 1000) (hL : L ≤ 260) : MIT l yL_cell wsL_cell ({ frames := 0, cells := 0, slots := 0, locals := 0 }) D kc b L xs [.ref b, .int (nI k)] (fun (v : Int32) (_ : Nat → va_E) => 0 ≤ v.toInt) := by
  refine met_it (cc := cL_cell) (maxL := 2) (ret := (some .int)) (by decide) rfl (Nat.le_of_ble_eq_true rfl) (lv := [(0, .ref b), (1, .int (nI k))]) rfl ?_
  intro Pg Ev Sv Mi args below Me Cd Ar C hr hlk hnm hT
  have k7 := C.2.2.2.2.1 (.constant RL 7 (2147483647)) (by decide +kernel)
  have tk : (nI k).toInt = (k : Int) := nI_toInt (by omega)
  have tL : (nI L).toInt = (L : Int) := nI_toInt (by omega)
  refine g_iload_n C 1 rfl dL_cell_0 ?_
  refine g_aload_n C 0 rfl dL_cell_1 ?_
  refine g_tlen C hT (nI L) rfl dL_cell_2 ?_
  refine g_icmp_ge C 12 (by decide) dL_cell_3 (fun c3 => ?_) (fun c3 => ?_)
  · refine g_sipush C 25889 (by decide) dL_cell_12 ?_
    refine g_iload_n C 1 rfl dL_cell_15 ?_
    refine g_bipush C 97 (by decide) dL_cell_16 ?_
    refine g_iadd C dL_cell_18 ?_
    refine g_imul C dL_cell_19 ?_
    refine g_ldc C (2147483647) k7 dL_cell_20 ?_
    refine g_iand C dL_cell_22 ?_
    refine g_iret C hr rfl hlk dL_cell_23 ?_
    exact and_nn _
  · have c3' := i_nle c3
    refine g_aload_n C 0 rfl dL_cell_6 ?_
    refine g_iload_n C 1 rfl dL_cell_7 ?_
    refine g_ti C hT (vp_in_nI (by omega) (by omega)) (.int (xs (nI k).toNatClampNeg)) rfl dL_cell_8 ?_
    refine g_goto C 20 (by decide) dL_cell_9 ?_
    refine g_ldc C (2147483647) k7 dL_cell_20 ?_
    refine g_iand C dL_cell_22 ?_
    refine g_iret C hr rfl hlk dL_cell_23 ?_
    exact and_nn _
theorem inv_s00 : Inv s00 := by
  refine ⟨⟨by decide, by decide, fun p hp => absurd hp (Nat.not_lt_zero p), fun k hk => ?_, fun k hk => absurd hk (Nat.not_lt_zero k)⟩, fun k hk => absurd hk (Nat.not_lt_zero k)⟩
  match k, hk with
  | 0, _ => decide
  | 1, _ => decide
  | 2, _ => decide
