/-! The static array of the greatest settings: read only; it lies outside what a method may change. -/
def gsI (j : Nat) : Int32 := if j < 3 then 20 else 60
def Zs (A : Nat → Prop) (U : State) : Prop := ∃ t : Nat, va_Z "WordAnchors" "GREATEST_SETTINGS" "[I" (.ref t) A U U.heap ∧ va_T .int t 5 (fun j => .int (gsI j)) A U U.heap
def MIZ (l : Launch) (y : MethodName) (ws : List Cond) (rm : Room) (D : va_G) (kc : Nat → ClassId) (N : Nat) (adr : Nat → Nat) (cell : Nat → va_E) (av : List Value) (post : Int32 → (Nat → va_E) → Prop) : Prop := ∀ sz : Nat, Met l y ws rm (va_Pc av (fun U => Pre D kc N adr cell sz U ∧ Zs (AA N adr sz) U)) (va_Qi post (fun cell' t => va_P D vwCl (wld N adr cell') t.heap) (AA N adr sz)) 0 0 (AA N adr sz)
theorem blindPreZ {av : List Value} {D : va_G} {kc : Nat → ClassId} {N : Nat} {adr : Nat → Nat} {cell : Nat → va_E} {sz : Nat} : FrameBlind (va_Pc av (fun U => Pre D kc N adr cell sz U ∧ Zs (AA N adr sz) U)) := by
  intro a U g mk q
  obtain ⟨q0, ⟨q1, qP, qK, qD⟩, t, hZ, hT⟩ := q
  exact ⟨q0, ⟨q1, qP, va_K.moved (u := U) (U := U.calling g mk a) (Vm.Alike.refl U.vm) qK, qD⟩, t, va_Z.moved (u := U) (U := U.calling g mk a) (Vm.Alike.refl U.vm) hZ, va_T.moved (u := U) (U := U.calling g mk a) (Vm.Alike.refl U.vm) hT⟩
theorem met_iz {l : Launch} {y : MethodName} {ws ws' : List Cond} {rm : Room} {D : va_G} {kc : Nat → ClassId} {N : Nat} {adr : Nat → Nat} {cell : Nat → va_E} {av : List Value} {post : Int32 → (Nat → va_E) → Prop} {cc : ByteArray} {maxL : Nat} {ret : Option FieldType} {lv : List (Nat × Value)} (hy : plainName y.cls = true) (hw : ws = Cond.code y cc maxL ret :: ws') (hlen : (lg_sl av).length ≤ maxL) (hlv : lv_args 0 av = lv)
    (body : ∀ (p : Program) (e : Env) (s : State) (m : MethodId) (args : Array Value) (below : List Frame) (meth : Method) (c : Code) (A : Nat → Prop), CX p s m args c cc y.cls ws D kc N adr A s.heap maxL → meth.sig.returnType = ret → meth.locks = false → meth.name = y.name → Zs A s →
      G p l e (headSpec ws rm).room s m args below meth c D N adr A s.heap maxL 0 0 (MQ below (va_Qi post (fun cell1 t => va_P D vwCl (wld N adr cell1) t.heap) A) args s 0 0 A) cell 0 lv []) : MIZ l y ws rm D kc N adr cell av post := by
  intro sz
  refine Met.ofW (cc := cc) (maxL := maxL) (ret := ret) hy hw ?_
  intro p e s m args below meth c s₁ B hml hv
  obtain ⟨rfl, ⟨rfl, hP, hK, hD0⟩, hZs⟩ := hv
  have hCX : CX p s m av.toArray c cc y.cls ws D kc N adr (AA N adr s.heap.size) s.heap maxL := ⟨B.exec, B.bytes, hml, findClass_of_methodNamed B.named, atoms_spec (ws := ws) B.pre, hK, fun cell' => ⟨(wld_D (cell' := cell') hD0).1, fun k q hk => Or.inl ⟨k, (wld_of hk).1, by rw [(wld_of hk).2]⟩⟩, fun q h => Or.inr h⟩
  have hl := lv_entry av (n := maxL) hlen
  rw [lg_entry_eq]
  exact body p e s m _ below meth c _ hCX B.returns B.notSynchronized (name_of_methodNamed B.named B.method).1 hZs s.heap [] _ hP va_S.rf (hlv ▸ hl)
section ZROWS
variable {p : Program} {l : Launch} {e : Env} {R : Room} {s : State} {m : MethodId} {args : Array Value} {below : List Frame} {meth : Method} {c : Code} {D : va_G} {N : Nat} {adr : Nat → Nat} {A : Nat → Prop} {nL ka kn : Nat} {Q : State → Prop} {cell : Nat → va_E} {pc : Nat} {lv : List (Nat × Value)} {rest : List Value} {cc : ByteArray} {own : String} {Ts : List Cond} {kc : Nat → ClassId}
theorem g_tlen (C : CX p s m args c cc own Ts D kc N adr A s.heap nL) {t k : Nat} {f : Nat → Value} {ty : FieldType} (hT : va_T ty t k f A s s.heap) (v : Int32) (hv : Int32.ofNat k = v) (d : decode cc pc = .ok (.arraylength, 1)) (kk : G p l e R s m args below meth c D N adr A s.heap nL ka kn Q cell (pc + 1) lv (.int v :: rest)) : G p l e R s m args below meth c D N adr A s.heap nL ka kn Q cell pc lv (.ref t :: rest) := fun H locs ls hP hS hl => va_tlen C.1 C.2.1 hT hS hv d (kk H locs ls hP hS hl)
theorem g_ti (C : CX p s m args c cc own Ts D kc N adr A s.heap nL) {t k : Nat} {f : Nat → Value} (hT : va_T .int t k f A s s.heap) {x : Int32} (hin : vp_in x k) (v : Value) (hv : f x.toNatClampNeg = v) (d : decode cc pc = .ok (.iaload, 1)) (kk : G p l e R s m args below meth c D N adr A s.heap nL ka kn Q cell (pc + 1) lv (v :: rest)) : G p l e R s m args below meth c D N adr A s.heap nL ka kn Q cell pc lv (.int x :: .ref t :: rest) := fun H locs ls hP hS hl => va_ti C.1 C.2.1 hT hS hin hv d (kk H locs ls hP hS hl)
end ZROWS
theorem gsI_gsF {x : Int32} (h : 0 ≤ x.toInt ∧ x.toInt < 5) : (gsI x.toNatClampNeg).toInt = gsF x := by
  have := cl_toInt h.1
  unfold gsI gsF
  by_cases h3 : x.toInt < 3
  · rw [if_pos h3, if_pos (by omega)]; rfl
  · rw [if_neg h3, if_neg (by omega)]; rfl
