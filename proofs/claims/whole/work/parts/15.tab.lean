section TB1
/-- the class's table of words -/
def NB : Nat → Int64
  | 0 => -6148914691236517206
  | 1 => -3689348814741910324
  | 2 => -1085102592571150096
  | 3 => -71777214294589696
  | 4 => -281470681808896
  | _ => -4294967296
def TBh (A : Nat → Prop) (U : State) (H : Heap) : Prop := ∃ t : Nat, va_Z "RumourReasoner" "NUMBERS_WITH_BIT" "[J" (.ref t) A U H ∧ va_T .long t 6 (fun j => .long (NB j)) A U H
theorem TBh.moved {A : Nat → Prop} {u U : State} {H : Heap} (hvm : u.vm.Alike U.vm) (h : TBh A u H) : TBh A U H := by
  obtain ⟨t, h1, h2⟩ := h
  exact ⟨t, va_Z.moved hvm h1, va_T.moved hvm h2⟩
theorem TBh.kept {A : Nat → Prop} {U : State} {H H1 : Heap} (h : TBh A U H) (hk : ∀ q : Nat, q < H.size → ¬ A q → H1[q]? = H[q]?) : TBh A U H1 := by
  obtain ⟨t, h1, h2⟩ := h
  exact ⟨t, h1.kept hk, h2.kept hk⟩
theorem TBh.narrow {A B : Nat → Prop} {U : State} {H : Heap} (h : TBh A U H) (hAB : ∀ q, B q → A q) : TBh B U H := by
  obtain ⟨t, h1, h2⟩ := h
  exact ⟨t, h1.narrow hAB, h2.narrow hAB⟩
theorem TBh.blind {A : Nat → Prop} {U : State} {g : JFrame} {mk : MethodId} {a : Array Value} (h : TBh A U U.heap) : TBh A (U.calling g mk a) (U.calling g mk a).heap := TBh.moved (u := U) (U := U.calling g mk a) (Vm.Alike.refl U.vm) h
def PuIe (l : Launch) (y : MethodName) (ws : List Cond) (rm : Room) (D : va_G) (cl : List vw_C) (w : va_W) (tys : List (ClassId × FieldType)) (As : List Value) (f : Int32) : Prop :=
  Met l y ws rm (va_Pc As (fun U => va_P D cl w U.heap ∧ va_K D cl tys U ∧ TBh (fun _ => False) U U.heap)) (va_Qi (fun r (_ : Unit) => r = f) (fun _ _ => True) (fun _ => False)) 0 0 (fun _ => False)
def PuLe (l : Launch) (y : MethodName) (ws : List Cond) (rm : Room) (D : va_G) (cl : List vw_C) (w : va_W) (tys : List (ClassId × FieldType)) (As : List Value) (f : Int64) : Prop :=
  Met l y ws rm (va_Pc As (fun U => va_P D cl w U.heap ∧ va_K D cl tys U ∧ TBh (fun _ => False) U U.heap)) (va_Ql (fun r (_ : Unit) => r = f) (fun _ _ => True) (fun _ => False)) 0 0 (fun _ => False)
def MuIe (l : Launch) (y : MethodName) (ws : List Cond) (rm : Room) (D : va_G) (cl : List vw_C) (w : va_W) (w' : (Nat → Int32) → va_W) (tys : List (ClassId × FieldType)) (As : List Value) (f : Int32) : Prop :=
  ∀ A : Nat → Prop, Met l y ws rm (va_Pc As (fun U => va_P D cl w U.heap ∧ va_K D cl tys U ∧ va_D A w ∧ TBh A U U.heap)) (va_Qi (fun r (_ : Nat → Int32) => r = f) (fun u t => va_P D cl (w' u) t.heap) A) 0 0 A

theorem PuIe.of {l : Launch} {y : MethodName} {ws ws' : List Cond} {rm : Room} {D : va_G} {cl : List vw_C} {w : va_W} {tys : List (ClassId × FieldType)} {As : List Value} {cc : ByteArray} {maxL : Nat} (hy : plainName y.cls = true) {f : Int32} {ty : FieldType} (hw : ws = Cond.code y cc maxL (some ty) :: ws') (hlen : (lg_sl As).length ≤ maxL) (hn : narrow ty (.int f) = .int f)
    (body : ∀ (p : Program) (e : Env) (s : State) (m : MethodId) (args : Array Value) (below : List Frame) (meth : Method) (c : Code) (Q : State → Prop) (ls : Array Slot), p.tables.exec = Jvm.exec → c.code = cc → c.maxLocals = maxL → s.vm.findClass y.cls = some m.cls → (∀ w ∈ ws, w.before args s = true) → va_P D cl w s.heap → va_K D cl tys s → TBh (fun _ => False) s s.heap → (∀ (v : Int32) (H : Heap) (locs : List Loc) (pc : Nat) (ls : Array Slot), v = f → va_S (fun _ => False) s.heap H locs → decode cc pc = .ok (.ireturn, 1) → W p l e rm s m args below meth c H locs 0 0 Q (F0 m pc ls [.int v])) → lv_has ls maxL (lv_args 0 As) → W p l e rm s m args below meth c s.heap [] 0 0 Q (F0 m 0 ls [])) : PuIe l y ws rm D cl w tys As f := by
  refine Met.ofW (cc := cc) (maxL := maxL) (ret := (some ty)) hy hw ?_
  intro p e s m args below meth c s₁ B hml hv
  obtain ⟨rfl, hP, hK, hTB⟩ := hv
  have hl := lv_entry As (n := maxL) hlen
  have hlocks := B.notSynchronized
  rw [lg_entry_eq]
  exact body p e s m _ below meth c _ _ B.exec B.bytes hml (findClass_of_methodNamed B.named) (atoms_spec (ws := ws) B.pre) hP hK hTB (fun v H locs pc ls hv hS hd => by subst hv; exact W.zret B.exec B.bytes B.returns hn (fun t ht hW => ⟨⟨_, (), rfl, rfl, trivial⟩, hS.F ht⟩) hS.2.2 hd) hl
theorem PuLe.of {l : Launch} {y : MethodName} {ws ws' : List Cond} {rm : Room} {D : va_G} {cl : List vw_C} {w : va_W} {tys : List (ClassId × FieldType)} {As : List Value} {cc : ByteArray} {maxL : Nat} (hy : plainName y.cls = true) {f : Int64}  (hw : ws = Cond.code y cc maxL (some .long) :: ws') (hlen : (lg_sl As).length ≤ maxL) 
    (body : ∀ (p : Program) (e : Env) (s : State) (m : MethodId) (args : Array Value) (below : List Frame) (meth : Method) (c : Code) (Q : State → Prop) (ls : Array Slot), p.tables.exec = Jvm.exec → c.code = cc → c.maxLocals = maxL → s.vm.findClass y.cls = some m.cls → (∀ w ∈ ws, w.before args s = true) → va_P D cl w s.heap → va_K D cl tys s → TBh (fun _ => False) s s.heap → (∀ (v : Int64) (H : Heap) (locs : List Loc) (pc : Nat) (ls : Array Slot), v = f → va_S (fun _ => False) s.heap H locs → decode cc pc = .ok (.lreturn, 1) → W p l e rm s m args below meth c H locs 0 0 Q (F0 m pc ls [.long v])) → lv_has ls maxL (lv_args 0 As) → W p l e rm s m args below meth c s.heap [] 0 0 Q (F0 m 0 ls [])) : PuLe l y ws rm D cl w tys As f := by
  refine Met.ofW (cc := cc) (maxL := maxL) (ret := (some .long)) hy hw ?_
  intro p e s m args below meth c s₁ B hml hv
  obtain ⟨rfl, hP, hK, hTB⟩ := hv
  have hl := lv_entry As (n := maxL) hlen
  have hlocks := B.notSynchronized
  rw [lg_entry_eq]
  exact body p e s m _ below meth c _ _ B.exec B.bytes hml (findClass_of_methodNamed B.named) (atoms_spec (ws := ws) B.pre) hP hK hTB (fun v H locs pc ls hv hS hd => by subst hv; exact W.lret B.exec B.bytes B.returns (fun t ht hW => ⟨⟨_, (), rfl, rfl, trivial⟩, hS.F ht⟩) hS.2.2 hd) hl
theorem MuIe.of {l : Launch} {y : MethodName} {ws ws' : List Cond} {rm : Room} {D : va_G} {cl : List vw_C} {w : va_W} {tys : List (ClassId × FieldType)} {As : List Value} {cc : ByteArray} {maxL : Nat} (hy : plainName y.cls = true) {f : Int32} {ty : FieldType} {w' : (Nat → Int32) → va_W} (hw : ws = Cond.code y cc maxL (some ty) :: ws') (hlen : (lg_sl As).length ≤ maxL) (hn : narrow ty (.int f) = .int f)
    (body : ∀ A : Nat → Prop, ∀ (p : Program) (e : Env) (s : State) (m : MethodId) (args : Array Value) (below : List Frame) (meth : Method) (c : Code) (Q : State → Prop) (ls : Array Slot), p.tables.exec = Jvm.exec → c.code = cc → c.maxLocals = maxL → s.vm.findClass y.cls = some m.cls → (∀ w ∈ ws, w.before args s = true) → va_P D cl w s.heap → va_K D cl tys s → va_D A w → TBh A s s.heap → (∀ (v : Int32) (u : Nat → Int32) (H : Heap) (locs : List Loc) (pc : Nat) (ls : Array Slot), v = f → va_P D cl (w' u) H → va_S A s.heap H locs → decode cc pc = .ok (.ireturn, 1) → W p l e rm s m args below meth c H locs 0 0 Q (F0 m pc ls [.int v])) → lv_has ls maxL (lv_args 0 As) → W p l e rm s m args below meth c s.heap [] 0 0 Q (F0 m 0 ls [])) : MuIe l y ws rm D cl w w' tys As f := by
  intro A
  refine Met.ofW (cc := cc) (maxL := maxL) (ret := (some ty)) hy hw ?_
  intro p e s m args below meth c s₁ B hml hv
  obtain ⟨rfl, hP, hK, hD, hTB⟩ := hv
  have hl := lv_entry As (n := maxL) hlen
  have hlocks := B.notSynchronized
  rw [lg_entry_eq]
  exact body A p e s m _ below meth c _ _ B.exec B.bytes hml (findClass_of_methodNamed B.named) (atoms_spec (ws := ws) B.pre) hP hK hD hTB (fun v u H locs pc ls hv hP9 hS hd => by subst hv; exact W.zret B.exec B.bytes B.returns hn (fun t ht hW => ⟨⟨_, u, rfl, rfl, by subst ht; exact hP9⟩, hS.F ht⟩) hS.2.2 hd) hl
end TB1
section TB2
variable {p : Program} {l : Launch} {e : Env} {R : Room} {s : State} {m : MethodId} {args : Array Value} {below : List Frame} {meth : Method} {c : Code} {H : Heap} {locs : List Loc} {cells slots : Nat} {Q : State → Prop} {cc : ByteArray} {pc : Nat} {ls : Array Slot} {rest : List Value}
variable {D : va_G} {cl : List vw_C} {A : Nat → Prop} {tys : List (ClassId × FieldType)} {H0 : Heap}
theorem puL_Se {y : MethodName} {wsY ws' : List Cond} {rm : Room} {bytes : ByteArray} {maxL nL index : Nat} {ret : Option FieldType} {Ts : List Cond} {own : String} {As st0 : List Value} {w : va_W} {tysY : List (ClassId × FieldType)} {A0 : Nat → Prop} {f : Int64} (S : CallFix p m c cc nL s args Ts own) (hM : PuLe l y wsY rm D cl w tysY As f) (hT : GoodIn Ts (va_wsS own index y wsY)) (hw : wsY = Cond.code y bytes maxL ret :: ws') (hrm : rm.cells = 0 ∧ rm.slots = 0) (nA : Nat) (hnA : As.length = nA) (hd : y.cls ≠ "java/lang/invoke/MethodHandle" ∧ y.cls ≠ "java/lang/invoke/VarHandle" ∧ (parseMethodDescriptor y.desc).map (fun d => d.parameters.length) = some nA) (hR : rm.frames + 1 ≤ R.frames ∧ 8 + (maxL + 11) + rm.locals ≤ R.locals)
    (hP : va_P D cl w H) (hK : va_K D cl tysY s) (hTB : TBh (fun _ => False) s H) (hS : va_S A0 H0 H locs) (hsz : ls.size = nL) (hst : st0 = As.reverse ++ rest) (hcat : (rest.map fun v => v.category).sum ≤ 8) (hdg : decode cc pc = .ok (.invokestatic index, 3)) (hf : cells + 0 ≤ R.cells ∧ slots + 0 ≤ R.slots)
    (kk : ∀ (H1 : Heap) (locs1 : List Loc), (∀ q : Nat, q < H.size → H1[q]? = H[q]?) → va_S A0 H0 H1 locs1 → W p l e R s m args below meth c H1 locs1 cells slots Q (F0 m (pc + 3) ls (.long f :: rest))) : W p l e R s m args below meth c H locs cells slots Q (F0 m pc ls st0) := by
  refine va_calll (va_runS (As := As) (rest := rest) S hM (va_cwS nA S.2.2.2.2 hT hw hrm.1 hrm.2 hd hR) ⟨fun a U g mk q => ⟨q.1, q.2.1, va_K.moved (u := U) (U := U.calling g mk a) (Vm.Alike.refl U.vm) q.2.2.1, TBh.blind q.2.2.2⟩, fun U hU hW => ⟨rfl, by rw [hU]; exact hP, va_K.moved hW.alike hK, by rw [hU]; exact hTB.moved hW.alike⟩⟩ rfl hnA hsz hst (lv_room hcat) hdg hf) hS (fun q _ h => h.elim) (fun q h => h.elim) (fun r u t H1 locs1 ht hvm hw9 hB hz1 hk1 hS1 => ?_)
  subst hw9
  exact kk H1 locs1 (fun q hq => hk1 q hq id) hS1
theorem puI_Ve {y : MethodName} {wsY ws' : List Cond} {rm : Room} {bytes : ByteArray} {maxL nL index : Nat} {ret : Option FieldType} {Ts : List Cond} {own : String} {As st0 : List Value} {w : va_W} {tysY : List (ClassId × FieldType)} {A0 : Nat → Prop} {f : Int32} {b ci q0 : Nat} {C : String} {qc : vw_C} {fs : List Value} (S : CallFix p m c cc nL s args Ts own) (hM : PuIe l y wsY rm D cl w tysY (.ref b :: As) f) (hT : GoodIn Ts (wsV own index C y wsY)) (hw : wsY = Cond.code y bytes maxL ret :: ws') (hrm : rm.cells = 0 ∧ rm.slots = 0) (nA : Nat) (hnA : As.length = nA) (hd : y.cls = C ∧ y.cls ≠ "java/lang/invoke/MethodHandle" ∧ y.cls ≠ "java/lang/invoke/VarHandle" ∧ (parseMethodDescriptor y.desc).map (fun d => d.parameters.length) = some nA) (hR : rm.frames + 1 ≤ R.frames ∧ 8 + (maxL + 11) + rm.locals ≤ R.locals)
    (hP : va_P D cl w H) (hK : va_K D cl tysY s) (hTB : TBh (fun _ => False) s H) (hc : cl[ci]? = some qc) (hq : qc.1 = C) (he : w[q0]? = some (b, .inr (ci, fs))) (hS : va_S A0 H0 H locs) (hsz : ls.size = nL) (hst : st0 = As.reverse ++ .ref b :: rest) (hcat : (rest.map fun v => v.category).sum ≤ 8) (hdg : decode cc pc = .ok (.invokevirtual index, 3)) (hf : cells + 0 ≤ R.cells ∧ slots + 0 ≤ R.slots)
    (kk : ∀ (H1 : Heap) (locs1 : List Loc), (∀ q : Nat, q < H.size → H1[q]? = H[q]?) → va_S A0 H0 H1 locs1 → W p l e R s m args below meth c H1 locs1 cells slots Q (F0 m (pc + 3) ls (.int f :: rest))) : W p l e R s m args below meth c H locs cells slots Q (F0 m pc ls st0) := by
  subst hq
  refine va_calli (va_runV (As := As) (rest := rest) S hM (cwV nA S.2.2.2.2 hT hw hrm.1 hrm.2 hd hR) ⟨fun a U g mk q => ⟨q.1, q.2.1, va_K.moved (u := U) (U := U.calling g mk a) (Vm.Alike.refl U.vm) q.2.2.1, TBh.blind q.2.2.2⟩, va_recv hK hP hc he, fun U hU hW => ⟨rfl, by rw [hU]; exact hP, va_K.moved hW.alike hK, by rw [hU]; exact hTB.moved hW.alike⟩⟩ rfl hnA hsz hst (lv_room hcat) hdg hf) hS (fun q _ h => h.elim) (fun q h => h.elim) (fun r u t H1 locs1 ht hvm hw9 hB hz1 hk1 hS1 => ?_)
  subst hw9
  exact kk H1 locs1 (fun q hq => hk1 q hq id) hS1
end TB2
