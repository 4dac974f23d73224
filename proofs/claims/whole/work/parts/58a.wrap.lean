/-! the law's own methods: they call, store, or catch -/
section WR1
theorem met_mono {l : Launch} {y : MethodName} {ws : List Cond} {rm : Room} {Pc Pc' : Array Value → State → Prop} {Qc Qc' : Array Value → State → Outcome → State → Prop} {mc ms : Nat} {free free' : Addr → Prop} (h : Met l y ws rm Pc Qc mc ms free) (hp : ∀ a s, Pc' a s → Pc a s) (hq : ∀ a s o t, Pc' a s → Qc a s o t → Qc' a s o t) (hf : ∀ q, free q → free' q) : Met l y ws rm Pc' Qc' mc ms free' := by
  intro p e ha hc hk s m args below hf0 happ hP htr
  obtain ⟨n, o, h1, h2, h3, hQ, L, hL1, hL2⟩ := h p e ha hc hk s m args below hf0 happ (hp _ _ hP) trivial
  exact ⟨n, o, h1, h2, h3, hq _ _ _ _ hP hQ, L, hL1, fun q hq9 => hf _ (hL2 q hq9)⟩
theorem metWH {l : Launch} {y : MethodName} {ws ws' : List Cond} {rm : Room} {Pc : Array Value → State → Prop} {Qc : Array Value → State → Outcome → State → Prop} {mc ms : Nat} {free : Addr → Prop} {cc : ByteArray} {maxL : Nat} {ret : Option FieldType} {hh : List (Nat × Nat × Nat × Nat)}
    (hy : plainName y.cls = true) (hw : ws = Cond.codeWith y cc maxL ret hh :: ws')
    (body : ∀ p e s m args below meth c s₁, BodyLoose p l y (headSpec ws rm) cc maxL ret e s m args below meth c s₁ → c.maxLocals = maxL → Pc args s →
      W p l e (headSpec ws rm).room s m args below meth c s.heap [] 0 0 (MQ below Qc args s mc ms free) (entryFrame m args maxL)) : Met l y ws rm Pc Qc mc ms free := by
  refine MetFree.of_bodyS (code := cc) (maxLocals := maxL) (ret := ret) hy ?_ ?_
  · intro args s m h hn
    obtain ⟨m9, meth, c, hn9, h1, h2, h3, h4, -, h5, h6, -⟩ := Cond.codeWith_spec (atoms_spec (ws := ws) h _ (by rw [hw]; exact List.mem_cons_self))
    cases hn.symm.trans hn9
    exact ⟨meth, c, h1, h2, h3, h4, h5, h6⟩
  · intro p e s m args below meth c s₁ B hml hP _
    have hh0 : s₁.heap = s.heap := by rw [B.state]; rfl
    obtain ⟨t, a1, o, b1, b2, b3⟩ := body p e s m args below meth c s₁ B hml hP s₁ hh0 (Stand.of_body B)
    exact ⟨t, o, a1, b1, b2, b3⟩
theorem PuIe.e {l : Launch} {y : MethodName} {ws : List Cond} {rm : Room} {D : va_G} {cl : List vw_C} {w : va_W} {tys : List (ClassId × FieldType)} {As : List Value} {f : Int32} (h : PuIe l y ws rm D cl w tys As f) : MuIe l y ws rm D cl w (fun _ => w) tys As f := fun A =>
  met_mono h (fun a s hp => ⟨hp.1, hp.2.1, hp.2.2.1, hp.2.2.2.2.narrow (fun _ z => z.elim)⟩) (fun a s o t hp hq => by
    obtain ⟨⟨r, u, ho, hr, -⟩, hF⟩ := hq
    exact ⟨⟨r, fun _ => 0, ho, hr, keptP hp.2.1 (fun q hq9 => hF.2 q hq9 (fun z => z))⟩, hF.1, fun q h1 _ => hF.2 q h1 (fun z => z)⟩) (fun q z => z.elim)
theorem PuI.e {l : Launch} {y : MethodName} {ws : List Cond} {rm : Room} {D : va_G} {cl : List vw_C} {w : va_W} {tys : List (ClassId × FieldType)} {As : List Value} {f : Int32} (h : PuI l y ws rm D cl w tys As f) : MuIe l y ws rm D cl w (fun _ => w) tys As f := fun A =>
  met_mono h (fun a s hp => ⟨hp.1, hp.2.1, hp.2.2.1⟩) (fun a s o t hp hq => by
    obtain ⟨⟨r, u, ho, hr, -⟩, hF⟩ := hq
    exact ⟨⟨r, fun _ => 0, ho, hr, keptP hp.2.1 (fun q hq9 => hF.2 q hq9 (fun z => z))⟩, hF.1, fun q h1 _ => hF.2 q h1 (fun z => z)⟩) (fun q z => z.elim)
theorem MuI.e {l : Launch} {y : MethodName} {ws : List Cond} {rm : Room} {D : va_G} {cl : List vw_C} {w : va_W} {w' : (Nat → Int32) → va_W} {tys : List (ClassId × FieldType)} {As : List Value} {f : Int32} (h : MuI l y ws rm D cl w w' tys As f) : MuIe l y ws rm D cl w w' tys As f := fun A =>
  met_mono (h A) (fun a s hp => ⟨hp.1, hp.2.1, hp.2.2.1, hp.2.2.2.1⟩) (fun a s o t _ hq => hq) (fun q z => z)
/-- the law's method: it answers k, its world goes from w to w' -/
def LW (l : Launch) (y : MethodName) (ws : List Cond) (rm : Room) (D : va_G) (w w' : va_W) (tys : List (ClassId × FieldType)) (As : List Value) (k : Int32) : Prop :=
  ∀ (A : Nat → Prop) (sz : Nat), Met l y ws rm (va_Pc As (fun U => U.heap.size = sz ∧ va_P D vwCl w U.heap ∧ va_K D vwCl tys U ∧ va_D A w ∧ XE U ∧ TBh A U U.heap)) (va_Qi (fun r (_ : Unit) => r = k) (fun _ t => va_P D vwCl w' t.heap) (fun q => A q ∨ sz ≤ q)) 1 6 (fun q => A q ∨ sz ≤ q)
/-- the addresses of a world -/
def AW (w : va_W) (q : Nat) : Prop := ∃ (k : Nat) (x : Nat × va_E), w[k]? = some x ∧ x.1 = q
theorem AW.same {w w' : va_W} (h : w.map Prod.fst = w'.map Prod.fst) {q : Nat} (hq : AW w q) : AW w' q := by
  obtain ⟨k, x, h1, h2⟩ := hq
  have h3 : (w.map Prod.fst)[k]? = some x.1 := by rw [List.getElem?_map, h1]; rfl
  rw [h, List.getElem?_map] at h3
  cases h4 : w'[k]? with
  | none => rw [h4] at h3; cases h3
  | some y =>
    rw [h4] at h3
    exact ⟨k, y, h4, by rw [← h2]; exact Option.some.inj h3⟩
theorem va_P.l {D : va_G} {cl : List vw_C} {w1 w2 : va_W} {H : Heap} (h : va_P D cl (w1 ++ w2) H) : va_P D cl w1 H := fun k q hk => h k q (by rw [List.getElem?_append_left (List.getElem?_eq_some_iff.mp hk).1]; exact hk)
theorem va_P.r {D : va_G} {cl : List vw_C} {w1 w2 : va_W} {H : Heap} (h : va_P D cl (w1 ++ w2) H) : va_P D cl w2 H := fun k q hk => h (w1.length + k) q (by rw [List.getElem?_append_right (Nat.le_add_right _ _), Nat.add_sub_cancel_left]; exact hk)
theorem va_D.l {A : Nat → Prop} {w1 w2 : va_W} (h : va_D A (w1 ++ w2)) : va_D A w1 := by
  have key : ∀ (k : Nat) (q : Nat × va_E), w1[k]? = some q → (w1 ++ w2)[k]? = some q := fun k q hk => by rw [List.getElem?_append_left (List.getElem?_eq_some_iff.mp hk).1]; exact hk
  exact ⟨fun i j x y hx hy e => h.1 i j x y (key i x hx) (key j y hy) e, fun k x hx => h.2 k x (key k x hx)⟩
theorem va_D.dis {A : Nat → Prop} {w1 w2 : va_W} (h : va_D A (w1 ++ w2)) {q : Nat} (h1 : AW w1 q) (h2 : AW w2 q) : False := by
  obtain ⟨i, x, hx, ex⟩ := h1
  obtain ⟨j, y, hy, ey⟩ := h2
  have hi := (List.getElem?_eq_some_iff.mp hx).1
  have := h.1 i (w1.length + j) x y (by rw [List.getElem?_append_left hi]; exact hx) (by rw [List.getElem?_append_right (Nat.le_add_right _ _), Nat.add_sub_cancel_left]; exact hy) (by rw [ex, ey])
  omega
theorem va_D.aw {A : Nat → Prop} {w : va_W} (h : va_D A w) : va_D (AW w) w := ⟨h.1, fun k x hx => ⟨k, x, hx, rfl⟩⟩
theorem va_D.awA {A : Nat → Prop} {w : va_W} (h : va_D A w) {q : Nat} (hq : AW w q) : A q := by
  obtain ⟨k, x, hx, e⟩ := hq
  rw [← e]; exact h.2 k x hx
/-- what lies elsewhere stays -/
theorem va_P.off {D : va_G} {cl : List vw_C} {w : va_W} {H H1 : Heap} {A1 : Nat → Prop} (hP : va_P D cl w H) (hk : ∀ q : Nat, q < H.size → ¬ A1 q → H1[q]? = H[q]?) (hd : ∀ q, AW w q → ¬ A1 q) : va_P D cl w H1 := hP.kept (fun k q hq => hk q.1 ((hP k q hq).lt) (hd q.1 ⟨k, q, hq, rfl⟩))
end WR1
section WR2
variable {p : Program} {l : Launch} {e : Env} {R : Room} {s : State} {m : MethodId} {args : Array Value} {below : List Frame} {meth : Method} {c : Code} {H : Heap} {locs : List Loc} {cells slots : Nat} {Q : State → Prop} {cc : ByteArray} {pc : Nat} {ls : Array Slot} {rest : List Value}
variable {D : va_G} {cl : List vw_C} {H0 : Heap}
theorem muI_Ve {y : MethodName} {wsY ws' : List Cond} {rm : Room} {bytes : ByteArray} {maxL nL index : Nat} {ret : Option FieldType} {Ts : List Cond} {own : String} {As st0 : List Value} {w : va_W} {tysY : List (ClassId × FieldType)} {A0 : Nat → Prop} {f : Int32} {w' : (Nat → Int32) → va_W} {A1 : Nat → Prop} {b ci q0 : Nat} {C : String} {qc : vw_C} {fs : List Value} (S : CallFix p m c cc nL s args Ts own) (hM : MuIe l y wsY rm D cl w w' tysY (.ref b :: As) f) (hT : GoodIn Ts (wsV own index C y wsY)) (hw : wsY = Cond.code y bytes maxL ret :: ws') (hrm : rm.cells = 0 ∧ rm.slots = 0) (nA : Nat) (hnA : As.length = nA) (hd : y.cls = C ∧ y.cls ≠ "java/lang/invoke/MethodHandle" ∧ y.cls ≠ "java/lang/invoke/VarHandle" ∧ (parseMethodDescriptor y.desc).map (fun d => d.parameters.length) = some nA) (hR : rm.frames + 1 ≤ R.frames ∧ 8 + (maxL + 11) + rm.locals ≤ R.locals)
    (hP : va_P D cl w H) (hK : va_K D cl tysY s) (hD : va_D A1 w) (hTB : TBh A1 s H) (hA : ∀ q, A1 q → A0 q) (hc : cl[ci]? = some qc) (hq : qc.1 = C) (he : w[q0]? = some (b, .inr (ci, fs))) (hS : va_S A0 H0 H locs) (hsz : ls.size = nL) (hst : st0 = As.reverse ++ .ref b :: rest) (hcat : (rest.map fun v => v.category).sum ≤ 8) (hdg : decode cc pc = .ok (.invokevirtual index, 3)) (hf : cells + 0 ≤ R.cells ∧ slots + 0 ≤ R.slots)
    (kk : ∀ (u : Nat → Int32) (H1 : Heap) (locs1 : List Loc), va_P D cl (w' u) H1 → H.size ≤ H1.size → (∀ q : Nat, q < H.size → ¬ A1 q → H1[q]? = H[q]?) → va_S A0 H0 H1 locs1 → W p l e R s m args below meth c H1 locs1 cells slots Q (F0 m (pc + 3) ls (.int f :: rest))) : W p l e R s m args below meth c H locs cells slots Q (F0 m pc ls st0) := by
  subst hq
  refine va_calli (va_runV (As := As) (rest := rest) S (hM A1) (cwV nA S.2.2.2.2 hT hw hrm.1 hrm.2 hd hR) ⟨fun a U g mk q => ⟨q.1, q.2.1, va_K.moved (u := U) (U := U.calling g mk a) (Vm.Alike.refl U.vm) q.2.2.1, q.2.2.2.1, TBh.blind q.2.2.2.2⟩, va_recv hK hP hc he, fun U hU hW => ⟨rfl, by rw [hU]; exact hP, va_K.moved hW.alike hK, hD, by show TBh _ U U.heap; rw [hU]; exact hTB.moved hW.alike⟩⟩ rfl hnA hsz hst (lv_room hcat) hdg hf) hS (fun q _ h => hA q h) hA (fun r u t H1 locs1 ht hvm hw9 hB hz1 hk1 hS1 => ?_)
  subst hw9
  exact kk u H1 locs1 (by rw [← ht]; exact hB) hz1 hk1 hS1
/-- a call that throws E: what was thrown goes over this frame -/
theorem bd_C {y : MethodName} {wsY ws' : List Cond} {rm : Room} {bytes : ByteArray} {maxL nL index : Nat} {ret : Option FieldType} {Ts : List Cond} {own C : String} {As st0 : List Value} {w : va_W} {tysY : List (ClassId × FieldType)} {A0 : Nat → Prop} {E : String} {b ci q0 : Nat} {qc : vw_C} {fs : List Value} (S : CallFix p m c cc nL s args Ts own) (hM : Bd l y wsY rm D cl w tysY (.ref b :: As) E) (hT : GoodIn Ts (wsV own index C y wsY)) (hw : wsY = Cond.code y bytes maxL ret :: ws') (hrm : rm.cells = 1 ∧ rm.slots = 6) (nA : Nat) (hnA : As.length = nA) (hd : y.cls = C ∧ y.cls ≠ "java/lang/invoke/MethodHandle" ∧ y.cls ≠ "java/lang/invoke/VarHandle" ∧ (parseMethodDescriptor y.desc).map (fun d => d.parameters.length) = some nA) (hR : rm.frames + 1 ≤ R.frames ∧ 8 + (maxL + 11) + rm.locals ≤ R.locals)
    (hP : va_P D cl w H) (hK : va_K D cl tysY s) (hc9 : cl[ci]? = some qc) (hq9 : qc.1 = C) (he9 : w[q0]? = some (b, .inr (ci, fs))) (hX : XEh (fun _ => False) s H) (hS : va_S A0 H0 H locs) (hA : ∀ q, H.size ≤ q → A0 q) (hsz : ls.size = nL) (hst : st0 = As.reverse ++ .ref b :: rest) (hcat : (rest.map fun v => v.category).sum ≤ 8) (hdg : decode cc pc = .ok (.invokevirtual index, 3)) (hf : cells + 1 ≤ R.cells ∧ slots + 6 ≤ R.slots)
    (kx : ∀ (q9 : Addr) (ce : Cell) (H1 : Heap) (locs1 : List Loc), H.size ≤ H1.size → (∀ q : Nat, q < H.size → H1[q]? = H[q]?) → va_S A0 H0 H1 locs1 → H1[q9]? = some ce → ce.vm = .none → s.vm.findClass E = some ce.cls → vx_W p l e R s m args below meth c H1 locs1 (cells + 1) (slots + 6) Q (F0 m pc ls rest) q9) : W p l e R s m args below meth c H locs cells slots Q (F0 m pc ls st0) := by
  subst hq9
  have hrun := vx_runV (As := As) (rest := rest) (H := H) (locs := locs) (cells := cells) (slots := slots) (g := F0 m pc ls st0) (e := e) (below := below) (meth := meth) S (hM H.size) (cwV nA S.2.2.2.2 hT hw hrm.1 hrm.2 hd hR) ⟨fun a U g mk q => ⟨q.1, q.2.1, q.2.2.1, va_K.moved (u := U) (U := U.calling g mk a) (Vm.Alike.refl U.vm) q.2.2.2.1, XEh.blind q.2.2.2.2⟩, va_recv hK hP hc9 he9, fun U hU hW => ⟨rfl, by rw [hU], by rw [hU]; exact hP, va_K.moved hW.alike hK, by show XEh _ U U.heap; rw [hU]; exact hX.warm hW⟩⟩ rfl hnA hsz hst (lv_room hcat) hdg hf
  intro T hT9 X9
  rcases hrun T hT9 X9 with ⟨v, st₀, t, T', L, h0, X', hL, e1, e2, hq, st⟩ | ⟨q, st₀, t, T', L, E9, ce, h0, X', hL, e1, e2, ⟨u, hpu, hbE, hF⟩, hce, hcv, hcl, st⟩
  · exact hq.elim
  · subst hbE
    obtain ⟨k1, k2, k3⟩ := vx_keep h0 e1 hS (fun q hq h => hA q h) hA hL hF
    obtain ⟨t2, a1, b1⟩ := kx q ce T'.heap (locs ++ L) k1 (fun q hq => k2 q hq (Nat.not_le.mpr hq)) k3 (by rw [e1]; exact hce) hcv hcl T' rfl X'
    exact ⟨t2, st.trans a1, b1⟩
/-- a call of one of the law's methods -/
theorem lw_S {y : MethodName} {wsY ws' : List Cond} {rm : Room} {bytes : ByteArray} {maxL nL index : Nat} {ret : Option FieldType} {hh : List (Nat × Nat × Nat × Nat)} {Ts : List Cond} {own : String} {As st0 : List Value} {w w' : va_W} {tysY : List (ClassId × FieldType)} {A0 A1 : Nat → Prop} {k : Int32} (S : CallFix p m c cc nL s args Ts own) (hM : LW l y wsY rm D w w' tysY As k) (hT : GoodIn Ts (va_wsS own index y wsY)) (hw : wsY = Cond.codeWith y bytes maxL ret hh :: ws') (hrm : rm.cells = 1 ∧ rm.slots = 6) (nA : Nat) (hnA : As.length = nA) (hd : y.cls ≠ "java/lang/invoke/MethodHandle" ∧ y.cls ≠ "java/lang/invoke/VarHandle" ∧ (parseMethodDescriptor y.desc).map (fun d => d.parameters.length) = some nA) (hR : rm.frames + 1 ≤ R.frames ∧ 8 + (maxL + 11) + rm.locals ≤ R.locals)
    (hP : va_P D vwCl w H) (hK : va_K D vwCl tysY s) (hD : va_D A1 w) (hX : XEh (fun _ => False) s H) (hTB : TBh A1 s H) (hA : ∀ q, A1 q → A0 q) (hA9 : ∀ q, H.size ≤ q → A0 q) (hS : va_S A0 H0 H locs) (hsz : ls.size = nL) (hst : st0 = As.reverse ++ rest) (hcat : (rest.map fun v => v.category).sum ≤ 8) (hdg : decode cc pc = .ok (.invokestatic index, 3)) (hf : cells + 1 ≤ R.cells ∧ slots + 6 ≤ R.slots)
    (kk : ∀ (H1 : Heap) (locs1 : List Loc), va_P D vwCl w' H1 → H.size ≤ H1.size → (∀ q : Nat, q < H.size → ¬ A1 q → H1[q]? = H[q]?) → va_S A0 H0 H1 locs1 → W p l e R s m args below meth c H1 locs1 (cells + 1) (slots + 6) Q (F0 m (pc + 3) ls (.int k :: rest))) : W p l e R s m args below meth c H locs cells slots Q (F0 m pc ls st0) := by
  refine va_calli (vx_runSW (As := As) (rest := rest) S (hM A1 H.size) (vx_cwSW nA S.2.2.2.2 hT hw hrm.1 hrm.2 hd hR) ⟨fun a U g mk q => ⟨q.1, q.2.1, q.2.2.1, va_K.moved (u := U) (U := U.calling g mk a) (Vm.Alike.refl U.vm) q.2.2.2.1, q.2.2.2.2.1, XEh.blind q.2.2.2.2.2.1, TBh.blind q.2.2.2.2.2.2⟩, fun U hU hW => ⟨rfl, by rw [hU], by rw [hU]; exact hP, va_K.moved hW.alike hK, hD, by show XEh _ U U.heap; rw [hU]; exact hX.warm hW, by show TBh _ U U.heap; rw [hU]; exact hTB.moved hW.alike⟩⟩ rfl hnA hsz hst (lv_room hcat) hdg hf) hS (fun q h1 h2 => h2.elim (hA q) (hA9 q)) (fun q h2 => h2.elim (hA q) (hA9 q)) (fun r u t H1 locs1 ht hvm hw9 hB hz1 hk1 hS1 => ?_)
  subst hw9
  exact kk H1 locs1 (by rw [← ht]; exact hB) hz1 (fun q h1 h2 => hk1 q h1 (fun z => z.elim h2 (fun z => Nat.not_le.mpr h1 z))) hS1
end WR2
