section EX1
abbrev eIO : String := "java/lang/IndexOutOfBoundsException"
abbrev eIA : String := "java/lang/IllegalArgumentException"
abbrev eIS : String := "java/lang/IllegalStateException"
abbrev eNM : List String := ["java/lang/RuntimeException", "java/lang/Exception"]
abbrev aIO : List Cond := vx_atS RX0 201 eIO eNM
abbrev aIA : List Cond := vx_atS RX0 84 eIA eNM
abbrev aIS : List Cond := vx_atS RX0 216 eIS eNM
/-- the words that aren't stable by the kit's own rule, carried by hand -/
def XW : List Cond := aIO.filter (fun w => !goodWord w) ++ (aIA.filter (fun w => !goodWord w) ++ (aIS.filter (fun w => !goodWord w) ++ [.castable eIO eIO, .castable eIA eIA, .castable eIS eIS]))
set_option maxRecDepth 100000 in
theorem XW_face : XW.all (fun w => w.keepsFace && w.onTables) = true := by decide +kernel
def XS : List (Nat × String) := [(152, "values is not 1 to 15"), (184, "valuation is not 0 to 4095"), (199, "no such atom"), (202, "no such source"), (204, "value is not 0 to 3"), (206, "trust is not 1 to 100"), (208, "no such formula"), (210, "the formula is not steady"), (214, "there are 40 formulas"), (82, "kind is not 2 or 8"), (87, "kind is not 3 to 7")]
/-- what a throw needs of the state -/
def XEh (A : Nat → Prop) (U : State) (H : Heap) : Prop := vx_Zq Bundle.tN "UNASSIGNED_STACK" Bundle.steD A U H ∧ vx_Zq Bundle.tN "SUPPRESSED_SENTINEL" Bundle.listD A U H ∧ (∀ w ∈ XW, w.before #[] U = true) ∧ (∀ q ∈ XS, ∃ sa, vk_R RX0 q.1 q.2 sa U) ∧ (va_Nc eIO eIA U ∧ va_Nc eIO eIS U ∧ va_Nc eIA eIO U ∧ va_Nc eIA eIS U ∧ va_Nc eIS eIO U ∧ va_Nc eIS eIA U)
abbrev XE (U : State) : Prop := XEh (fun _ => False) U U.heap
theorem word_face {A A' : Array Value} {s U : State} {w : Cond} (hW : s.WarmedH U.vm) (hk : w.keepsFace = true) (ho : w.onTables = true) (h : w.before A s = true) : w.before A' U = true := va_tabs ho (rfl : (s.setVm U.vm).vm = U.vm) (Cond.before_shiftedFace (State.Shifted.of_warmed hW) w hk h)
theorem XW_at {A A' : Array Value} {s U : State} (hW : s.WarmedH U.vm) (h : ∀ w ∈ XW, w.before A s = true) : ∀ w ∈ XW, w.before A' U = true := by
  intro w hw
  have h1 := List.all_eq_true.mp XW_face w hw
  simp only [Bool.and_eq_true] at h1
  exact word_face hW h1.1 h1.2 (h w hw)
theorem XEh.warm {A : Nat → Prop} {s U : State} {H : Heap} (hW : s.WarmedH U.vm) (h : XEh A s H) : XEh A U H :=
  ⟨h.1.moved hW.alike, h.2.1.moved hW.alike, XW_at hW h.2.2.1, fun q hq => (h.2.2.2.1 q hq).elim (fun sa hs => ⟨sa, hs.warm hW⟩), h.2.2.2.2.1.moved hW.alike, h.2.2.2.2.2.1.moved hW.alike, h.2.2.2.2.2.2.1.moved hW.alike, h.2.2.2.2.2.2.2.1.moved hW.alike, h.2.2.2.2.2.2.2.2.1.moved hW.alike, h.2.2.2.2.2.2.2.2.2.moved hW.alike⟩
theorem XEh.kept {A : Nat → Prop} {s : State} {H H1 : Heap} (h : XEh A s H) (hk : ∀ q : Nat, q < H.size → ¬ A q → H1[q]? = H[q]?) : XEh A s H1 := ⟨h.1.kept hk, h.2.1.kept hk, h.2.2⟩
theorem XEh.narrow {A B : Nat → Prop} {s : State} {H : Heap} (h : XEh A s H) (hAB : ∀ q, B q → A q) : XEh B s H := ⟨h.1.narrow hAB, h.2.1.narrow hAB, h.2.2⟩
theorem va_Z_up {C n d : String} {v : Value} {A : Nat → Prop} {U : State} {H : Heap} (h : va_Z C n d v A U H) : va_Z C n d v (fun q => H.size ≤ q) U H := by
  obtain ⟨cf, kf, fi, f, a, cell, h1, h2, h3, h4, h5, h6, h7, h8⟩ := h
  exact ⟨cf, kf, fi, f, a, cell, h1, h2, h3, h4, h5, h6, h7, Nat.not_le.mpr (Array.getElem?_eq_some_iff.mp h5).1⟩
theorem vx_Zq_up {C n d : String} {A : Nat → Prop} {U : State} {H : Heap} (h : vx_Zq C n d A U H) : vx_Zq C n d (fun q => H.size ≤ q) U H := by
  refine ⟨?_, ?_⟩
  · rcases h.1 with h | ⟨t, h⟩
    · exact Or.inl (va_Z_up h)
    · exact Or.inr ⟨t, va_Z_up h⟩
  · obtain ⟨c, k, i, f, a, cell, h1, h2, h3, h4, h5, h6, h7, h8, h9, h10⟩ := h.2
    exact ⟨c, k, i, f, a, cell, h1, h2, h3, h4, h5, h6, h7, h8, h9, Nat.not_le.mpr (Array.getElem?_eq_some_iff.mp h5).1⟩
theorem XEh.up {A : Nat → Prop} {s : State} {H : Heap} (h : XEh A s H) : XEh (fun q => H.size ≤ q) s H := ⟨vx_Zq_up h.1, vx_Zq_up h.2.1, h.2.2⟩
theorem XEh.blind {A : Nat → Prop} {U : State} {g : JFrame} {mk : MethodId} {a : Array Value} (h : XEh A U U.heap) : XEh A (U.calling g mk a) (U.calling g mk a).heap := XEh.warm (s := U) (U := U.calling g mk a) (State.WarmedH.refl U) h
/-- a method that always throws E, from arguments that the document refuses -/
def Bd (l : Launch) (y : MethodName) (ws : List Cond) (rm : Room) (D : va_G) (cl : List vw_C) (w : va_W) (tys : List (ClassId × FieldType)) (As : List Value) (E : String) : Prop :=
  ∀ sz : Nat, vx_Met l y ws rm (va_Pc As (fun U => U.heap.size = sz ∧ va_P D cl w U.heap ∧ va_K D cl tys U ∧ XE U)) (fun _ _ _ _ => False) (vx_X (fun _ : Unit => True) (fun E' _ _ => E' = E) (fun q => sz ≤ q)) 1 6 (fun q => sz ≤ q)
/-- what is owed at the end of such a body -/
abbrev BQ (below : List Frame) (E : String) (args : Array Value) (s : State) : State → Prop := vx_MQ below (fun _ _ _ _ => False) (vx_X (fun _ : Unit => True) (fun E' _ _ => E' = E) (fun q => s.heap.size ≤ q)) args s 1 6 (fun q => s.heap.size ≤ q)
theorem Bd.of {l : Launch} {y : MethodName} {ws ws' : List Cond} {rm : Room} {D : va_G} {cl : List vw_C} {w : va_W} {tys : List (ClassId × FieldType)} {As : List Value} {E : String} {cc : ByteArray} {maxL : Nat} {ret : Option FieldType} (hy : plainName y.cls = true) (hw : ws = Cond.code y cc maxL ret :: ws') (hlen : (lg_sl As).length ≤ maxL)
    (body : ∀ (p : Program) (e : Env) (s : State) (m : MethodId) (args : Array Value) (below : List Frame) (meth : Method) (c : Code) (ls : Array Slot), p.tables.exec = Jvm.exec → c.code = cc → c.maxLocals = maxL → s.vm.findClass y.cls = some m.cls → (∀ w ∈ ws, w.before args s = true) → (∀ x ∈ c.exceptionTable.toList, False) → meth.locks = false → va_P D cl w s.heap → va_K D cl tys s → XE s → lv_has ls maxL (lv_args 0 As) → W p l e rm s m args below meth c s.heap [] 0 0 (BQ below E args s) (F0 m 0 ls [])) : Bd l y ws rm D cl w tys As E := by
  intro sz
  refine vx_ofW (cc := cc) (maxL := maxL) (ret := ret) hy hw ?_
  intro p e s m args below meth c s₁ B hml htab hv
  obtain ⟨rfl, rfl, hP, hK, hX⟩ := hv
  have hl := lv_entry As (n := maxL) hlen
  rw [lg_entry_eq]
  exact body p e s m _ below meth c _ B.exec B.bytes hml (findClass_of_methodNamed B.named) (atoms_spec (ws := ws) B.pre) htab B.notSynchronized hP hK hX hl
end EX1
section EX2
variable {p : Program} {l : Launch} {e : Env} {R : Room} {s : State} {m : MethodId} {args : Array Value} {below : List Frame} {meth : Method} {c : Code} {H : Heap} {locs : List Loc} {cells slots : Nat} {Q : State → Prop} {cc : ByteArray} {pc : Nat} {ls : Array Slot} {rest : List Value}
variable {D : va_G} {cl : List vw_C} {tys : List (ClassId × FieldType)}
/-- 'throw new E("text")' in such a body -/
theorem bd_throw {own E text : String} {ik is ic : Nat} {Ts : List Cond} (S : CallFix p m c cc ls.size s args Ts own) (hl : l.stackTraces = false) (hO : own = RX0) (hfit : Bundle.fit E = true) (hk : Cond.classLink own ik E ∈ Ts) (hini : Cond.initialized E ∈ Ts) (hq : (is, text) ∈ XS) (hg : ∀ w ∈ (vx_atS own ic E eNM).filter goodWord, w ∈ Ts) (hb : ∀ w ∈ (vx_atS own ic E eNM).filter (fun w => !goodWord w), w ∈ XW)
    (hot : ∀ w ∈ Cond.classLink own ik E :: Cond.initialized E :: vx_atS own ic E eNM, vx_ot w = true) (hX : XE s) (htab : ∀ x ∈ c.exceptionTable.toList, False) (hlocks : meth.locks = false) (hS : va_S (fun q => s.heap.size ≤ q) s.heap H locs)
    (d0 : decode cc pc = .ok (.new ik, 3)) (d3 : decode cc (pc + 3) = .ok (.dup, 1)) (d4 : decode cc (pc + 4) = .ok (.ldc is, 2)) (d6 : decode cc (pc + 6) = .ok (.invokespecial ic, 3)) (d9 : decode cc (pc + 9) = .ok (.athrow, 1))
    (hR : 5 < R.frames ∧ (rest.map fun v => v.category).sum + 82 ≤ R.locals ∧ 1 ≤ R.cells ∧ 6 ≤ R.slots) : W p l e R s m args below meth c H locs 0 0 (BQ below E args s) (F0 m pc ls rest) := by
  obtain ⟨hx, hbb, hml, hown, hts⟩ := S
  subst hO
  obtain ⟨sa, hsa⟩ := hX.2.2.2.1 _ hq
  have hX2 := hX.up
  have hfn : ∀ n ∈ eNM, Bundle.fit n = true := by decide +kernel
  refine vx_throwS (names := eNM) (ik := ik) (is := is) (ic := ic) (sa := sa) (text := text) hx hbb hl hown hfit hfn (hts _ hk) (hts _ hini) hsa ?_ hot hX2.1 hX2.2.1 hS hml.symm d0 d3 d4 d6 d9 (fun x h => (htab x h).elim) hR.1 hR.2.1 (by simpa using hR.2.2.1) (by simpa using hR.2.2.2) hlocks ?_ hS.2.2 (Nat.le_refl 1) (Nat.le_refl 6)
  · exact vx_hat (B := XW) (fun w h => hts w (hg w h)) hb (XW_at (State.WarmedH.refl s) hX.2.2.1)
  · intro t hvm hz hk9
    exact ⟨(), trivial, rfl, Nat.le_trans hS.1 hz, fun q h1 h2 => by rw [hk9 q (Nat.lt_of_lt_of_le h1 hS.1)]; exact hS.2.1 q h1 h2⟩
/-- a call that throws, in such a body: it goes on to the caller -/
theorem bd_S {y : MethodName} {wsY ws' : List Cond} {rm : Room} {bytes : ByteArray} {maxL nL index : Nat} {ret : Option FieldType} {Ts : List Cond} {own : String} {As st0 : List Value} {w : va_W} {tysY : List (ClassId × FieldType)} {E : String} (S : CallFix p m c cc nL s args Ts own) (hM : Bd l y wsY rm D cl w tysY As E) (hT : GoodIn Ts (va_wsS own index y wsY)) (hw : wsY = Cond.code y bytes maxL ret :: ws') (hrm : rm.cells = 1 ∧ rm.slots = 6) (nA : Nat) (hnA : As.length = nA) (hd : y.cls ≠ "java/lang/invoke/MethodHandle" ∧ y.cls ≠ "java/lang/invoke/VarHandle" ∧ (parseMethodDescriptor y.desc).map (fun d => d.parameters.length) = some nA) (hR : rm.frames + 1 ≤ R.frames ∧ 8 + (maxL + 11) + rm.locals ≤ R.locals)
    (hP : va_P D cl w H) (hK : va_K D cl tysY s) (hX : XEh (fun _ => False) s H) (hS : va_S (fun q => s.heap.size ≤ q) s.heap H locs) (htab : ∀ x ∈ c.exceptionTable.toList, False) (hlocks : meth.locks = false) (hsz : ls.size = nL) (hst : st0 = As.reverse ++ rest) (hcat : (rest.map fun v => v.category).sum ≤ 8) (hdg : decode cc pc = .ok (.invokestatic index, 3)) (hf : 0 + 1 ≤ R.cells ∧ 0 + 6 ≤ R.slots) : W p l e R s m args below meth c H locs 0 0 (BQ below E args s) (F0 m pc ls st0) := by
  have hrun := vx_runS (As := As) (rest := rest) (H := H) (locs := locs) (cells := 0) (slots := 0) (g := F0 m pc ls st0) (e := e) (below := below) (meth := meth) S (hM H.size) (va_cwS nA S.2.2.2.2 hT hw hrm.1 hrm.2 hd hR) ⟨fun a U g mk q => ⟨q.1, q.2.1, q.2.2.1, va_K.moved (u := U) (U := U.calling g mk a) (Vm.Alike.refl U.vm) q.2.2.2.1, XEh.blind q.2.2.2.2⟩, fun U hU hW => ⟨rfl, by rw [hU], by rw [hU]; exact hP, va_K.moved hW.alike hK, by show XEh _ U U.heap; rw [hU]; exact hX.warm hW⟩⟩ rfl hnA hsz hst (lv_room hcat) hdg hf
  intro T hT9 X9
  rcases hrun T hT9 X9 with ⟨v, st₀, t, T', L, h0, X', hL, e1, e2, hq, st⟩ | ⟨q, st₀, t, T', L, E9, ce, h0, X', hL, e1, e2, ⟨u, hpu, hbE, hF⟩, hce, hcv, hcl, st⟩
  · exact hq.elim
  · subst hbE
    obtain ⟨k1, k2, k3⟩ := vx_keep h0 e1 hS (fun q hq h => Nat.le_trans hS.1 h) (fun q h => Nat.le_trans hS.1 h) hL hF
    obtain ⟨t2, a1, b1⟩ := (vx_out (p := p) (l := l) (e := e) (R := R) (meth := meth) (c := c) (below := below) (ls := ls) (rest := rest) (cells := 0 + 1) (slots := 0 + 6) (Qc := fun _ _ _ _ => False) (XC := vx_X (fun _ : Unit => True) (fun E' _ _ => E' = E9) (fun q => s.heap.size ≤ q)) (free := fun q => s.heap.size ≤ q) (pc := pc) (fun x h => (htab x h).elim) hlocks (by rw [e1]; exact hce) hcv hcl (fun t9 ht9 hv9 => ⟨(), trivial, rfl, va_S.F k3 ht9⟩) k3.2.2 (Nat.le_refl 1) (Nat.le_refl 6)) T' rfl X'
    exact ⟨t2, st.trans a1, b1⟩
theorem bd_V {y : MethodName} {wsY ws' : List Cond} {rm : Room} {bytes : ByteArray} {maxL nL index : Nat} {ret : Option FieldType} {Ts : List Cond} {own C : String} {As st0 : List Value} {w : va_W} {tysY : List (ClassId × FieldType)} {E : String} {b ci q0 : Nat} {qc : vw_C} {fs : List Value} (S : CallFix p m c cc nL s args Ts own) (hM : Bd l y wsY rm D cl w tysY (.ref b :: As) E) (hT : GoodIn Ts (wsV own index C y wsY)) (hw : wsY = Cond.code y bytes maxL ret :: ws') (hrm : rm.cells = 1 ∧ rm.slots = 6) (nA : Nat) (hnA : As.length = nA) (hd : y.cls = C ∧ y.cls ≠ "java/lang/invoke/MethodHandle" ∧ y.cls ≠ "java/lang/invoke/VarHandle" ∧ (parseMethodDescriptor y.desc).map (fun d => d.parameters.length) = some nA) (hR : rm.frames + 1 ≤ R.frames ∧ 8 + (maxL + 11) + rm.locals ≤ R.locals)
    (hP : va_P D cl w H) (hK : va_K D cl tysY s) (hc9 : cl[ci]? = some qc) (hq9 : qc.1 = C) (he9 : w[q0]? = some (b, .inr (ci, fs))) (hX : XEh (fun _ => False) s H) (hS : va_S (fun q => s.heap.size ≤ q) s.heap H locs) (htab : ∀ x ∈ c.exceptionTable.toList, False) (hlocks : meth.locks = false) (hsz : ls.size = nL) (hst : st0 = As.reverse ++ .ref b :: rest) (hcat : (rest.map fun v => v.category).sum ≤ 8) (hdg : decode cc pc = .ok (.invokevirtual index, 3)) (hf : 0 + 1 ≤ R.cells ∧ 0 + 6 ≤ R.slots) : W p l e R s m args below meth c H locs 0 0 (BQ below E args s) (F0 m pc ls st0) := by
  subst hq9
  have hrun := vx_runV (As := As) (rest := rest) (H := H) (locs := locs) (cells := 0) (slots := 0) (g := F0 m pc ls st0) (e := e) (below := below) (meth := meth) S (hM H.size) (cwV nA S.2.2.2.2 hT hw hrm.1 hrm.2 hd hR) ⟨fun a U g mk q => ⟨q.1, q.2.1, q.2.2.1, va_K.moved (u := U) (U := U.calling g mk a) (Vm.Alike.refl U.vm) q.2.2.2.1, XEh.blind q.2.2.2.2⟩, va_recv hK hP hc9 he9, fun U hU hW => ⟨rfl, by rw [hU], by rw [hU]; exact hP, va_K.moved hW.alike hK, by show XEh _ U U.heap; rw [hU]; exact hX.warm hW⟩⟩ rfl hnA hsz hst (lv_room hcat) hdg hf
  intro T hT9 X9
  rcases hrun T hT9 X9 with ⟨v, st₀, t, T', L, h0, X', hL, e1, e2, hq, st⟩ | ⟨q, st₀, t, T', L, E9, ce, h0, X', hL, e1, e2, ⟨u, hpu, hbE, hF⟩, hce, hcv, hcl, st⟩
  · exact hq.elim
  · subst hbE
    obtain ⟨k1, k2, k3⟩ := vx_keep h0 e1 hS (fun q hq h => Nat.le_trans hS.1 h) (fun q h => Nat.le_trans hS.1 h) hL hF
    obtain ⟨t2, a1, b1⟩ := (vx_out (p := p) (l := l) (e := e) (R := R) (meth := meth) (c := c) (below := below) (ls := ls) (rest := rest) (cells := 0 + 1) (slots := 0 + 6) (Qc := fun _ _ _ _ => False) (XC := vx_X (fun _ : Unit => True) (fun E' _ _ => E' = E9) (fun q => s.heap.size ≤ q)) (free := fun q => s.heap.size ≤ q) (pc := pc) (fun x h => (htab x h).elim) hlocks (by rw [e1]; exact hce) hcv hcl (fun t9 ht9 hv9 => ⟨(), trivial, rfl, va_S.F k3 ht9⟩) k3.2.2 (Nat.le_refl 1) (Nat.le_refl 6)) T' rfl X'
    exact ⟨t2, st.trans a1, b1⟩
end EX2
theorem xwIO : ∀ w ∈ aIO.filter (fun w => !goodWord w), w ∈ XW := fun _ h => List.mem_append_left _ h
theorem xwIA : ∀ w ∈ aIA.filter (fun w => !goodWord w), w ∈ XW := fun _ h => List.mem_append_right _ (List.mem_append_left _ h)
theorem xwIS : ∀ w ∈ aIS.filter (fun w => !goodWord w), w ∈ XW := fun _ h => List.mem_append_right _ (List.mem_append_right _ (List.mem_append_left _ h))
set_option maxRecDepth 100000 in
theorem otIO : ∀ w ∈ Cond.classLink RX0 197 eIO :: Cond.initialized eIO :: aIO, vx_ot w = true := by decide +kernel
set_option maxRecDepth 100000 in
theorem otIA : ∀ w ∈ Cond.classLink RX0 80 eIA :: Cond.initialized eIA :: aIA, vx_ot w = true := by decide +kernel
set_option maxRecDepth 100000 in
theorem otIS : ∀ w ∈ Cond.classLink RX0 212 eIS :: Cond.initialized eIS :: aIS, vx_ot w = true := by decide +kernel
