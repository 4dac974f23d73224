theorem castIO {s : State} {args : Array Value} (h : XE s) : (Cond.castable eIO eIO).before args s = true := XW_at (State.WarmedH.refl s) h.2.2.1 _ (List.mem_append_right _ (List.mem_append_right _ (List.mem_append_right _ (by decide))))
theorem castIA {s : State} {args : Array Value} (h : XE s) : (Cond.castable eIA eIA).before args s = true := XW_at (State.WarmedH.refl s) h.2.2.1 _ (List.mem_append_right _ (List.mem_append_right _ (List.mem_append_right _ (by decide))))
theorem castIS {s : State} {args : Array Value} (h : XE s) : (Cond.castable eIS eIS).before args s = true := XW_at (State.WarmedH.refl s) h.2.2.1 _ (List.mem_append_right _ (List.mem_append_right _ (List.mem_append_right _ (by decide))))
def rm_L_atom : Room := { frames := 8, cells := 1, slots := 6, locals := 126 }
set_option maxHeartbeats 4000000 in
set_option maxRecDepth 100000 in
theorem k_atom_ok (l : Launch) (D : va_G) (ad : Nat → Nat) (cI cZ cJ : ClassId) (n : Nat) (kd : Nat → Nat) (sd : Nat → Bool) (ts : Nat → Int64) (fs : Nat → Int64) (tr : Nat → Nat) (on : Nat → Bool) (rp : Nat → Nat) (lt : Nat) (ru : Nat → Option Nat) (lg : Nat) (lp : Int64) (n' : Nat) (kd' : Nat → Nat) (sd' : Nat → Bool) (ts' : Nat → Int64) (fs' : Nat → Int64) (tr' : Nat → Nat) (on' : Nat → Bool) (rp' : Nat → Nat) (lt' : Nat) (ru' : Nat → Option Nat) (lg' : Nat) (lp' : Int64) (o : Nat) (g : Nat → Int64) (x1 : Int32) (f : Int32) (hM : MuIe l yX0_atom wsX0_atom rm_X0_atom D vwCl (wC ad cI cZ cJ n kd sd ts fs tr on rp lt ru lg lp) (fun _ => (wC ad cI cZ cJ n' kd' sd' ts' fs' tr' on' rp' lt' ru' lg' lp')) (tyC cI cZ cJ) [.ref (ad 0), .int x1] f) : LW l yL_atom wsL_atom rm_L_atom D ((wC ad cI cZ cJ n kd sd ts fs tr on rp lt ru lg lp) ++ [(o, .inl (cJ, 1, .inr (.inl g)))]) ((wC ad cI cZ cJ n' kd' sd' ts' fs' tr' on' rp' lt' ru' lg' lp') ++ [(o, .inl (cJ, 1, .inr (.inl (vp_updL g 0 f.toInt64))))]) (tyC cI cZ cJ) [.ref (ad 0), .int x1, .ref o] (nI 0) := by
  intro A sz
  refine metWH (cc := cL_atom) (maxL := 4) (ret := some .int) (by decide) rfl ?_
  intro p e s m args below meth c s₁ B hml hv
  obtain ⟨rfl, rfl, hP, hK, hD, hXE, hTB⟩ := hv
  have hx := B.exec
  have hb := B.bytes
  have hr := B.returns
  have hts := atoms_spec (ws := wsL_atom) B.pre
  have hown : s.vm.findClass RL = some m.cls := findClass_of_methodNamed B.named
  have hlocks := B.notSynchronized
  have hS : va_S (fun q => A q ∨ s.heap.size ≤ q) s.heap s.heap [] := va_S.rf
  have hl := lv_entry ([.ref (ad 0), .int x1, .ref o]) (n := 4) (Nat.le_of_ble_eq_true rfl)
  rw [lg_entry_eq]
  generalize (lg_sl ([.ref (ad 0), .int x1, .ref o]) ++ List.replicate (4 - (lg_sl ([.ref (ad 0), .int x1, .ref o])).length) Slot.unset).toArray = ls at hl ⊢
  have hl : lv_has ls 4 [(0, .ref (ad 0)), (1, .int x1), (2, .ref o)] := hl
  have hPc := hP.l (w1 := (wC ad cI cZ cJ n kd sd ts fs tr on rp lt ru lg lp))
  have hDc := hD.l (w1 := (wC ad cI cZ cJ n kd sd ts fs tr on rp lt ru lg lp))
  refine lv_aload_n hx hb dL_atom_0 rfl (lv_at hl 2 rfl) ?_
  refine lv_iconst (v := nI 0) hx hb dL_atom_1 (by decide) ?_
  refine lv_aload_n hx hb dL_atom_2 rfl (lv_at hl 0 rfl) ?_
  refine lv_iload_n hx hb dL_atom_3 rfl (lv_at hl 1 rfl) ?_
  refine muI_Ve (own := RL) (As := [.int x1]) (rest := [.int (nI 0), .ref o]) (C := RX0) (ci := 0) (q0 := 0) (A1 := AW (wC ad cI cZ cJ n kd sd ts fs tr on rp lt ru lg lp)) (A0 := fun q => A q ∨ s.heap.size ≤ q) ⟨hx, hb, hml, hown, hts⟩ hM gL_atom_X0_atom rfl ⟨rfl, rfl⟩ 1 rfl (by decide +kernel) ⟨Nat.le_of_ble_eq_true rfl, Nat.le_of_ble_eq_true rfl⟩ hPc hK hDc.aw (hTB.narrow (fun q h => hDc.awA h)) (fun q h => Or.inl (hDc.awA h)) rfl rfl rfl hS hl.1 rfl (Nat.le_of_ble_eq_true rfl) dL_atom_4 ⟨Nat.zero_le _, Nat.zero_le _⟩ (fun u H locs hP2 hz1 hk1 hS => ?_)
  have hPo := (hP.r (w1 := (wC ad cI cZ cJ n kd sd ts fs tr on rp lt ru lg lp))).off hk1 (fun q h1 h2 => hD.dis h2 h1)
  have hPj := hP2.app hPo
  have hDj : va_D (fun q => A q ∨ s.heap.size ≤ q) ((wC ad cI cZ cJ n' kd' sd' ts' fs' tr' on' rp' lt' ru' lg' lp') ++ [(o, .inl (cJ, 1, .inr (.inl g)))]) := sameD2 (hD.weaken (fun _ _ _ h => Or.inl h)) rfl
  refine lv_i2l (v := f.toInt64) hx hb dL_atom_7 rfl ?_
  refine st_nl hx hb hK hPj hDj hS 9 2 rfl rfl (j := 0) (by decide) (by decide) dL_atom_8 (fun H locs hP3 hD3 hS => ?_)
  replace hP3 : va_P D vwCl ((wC ad cI cZ cJ n' kd' sd' ts' fs' tr' on' rp' lt' ru' lg' lp') ++ [(o, .inl (cJ, 1, .inr (.inl (vp_updL g 0 f.toInt64))))]) H := by exact hP3
  refine lv_goto (tgt := 18) hx hb dL_atom_9 (by decide) ?_
  refine lv_iconst (v := nI 0) hx hb dL_atom_18 (by decide) ?_
  refine W.widen (k := 1) (n := 6) (Nat.le_of_ble_eq_true rfl) (Nat.le_of_ble_eq_true rfl) ?_
  exact W.zret hx hb hr (vp_nar_int _) (fun t ht hW => ⟨⟨_, (), rfl, rfl, by subst ht; exact hP3⟩, hS.F ht⟩) hS.2.2 dL_atom_19
set_option maxHeartbeats 4000000 in
set_option maxRecDepth 100000 in
theorem k_atom_b1 (l : Launch) (D : va_G) (ad : Nat → Nat) (cI cZ cJ : ClassId) (n : Nat) (kd : Nat → Nat) (sd : Nat → Bool) (ts : Nat → Int64) (fs : Nat → Int64) (tr : Nat → Nat) (on : Nat → Bool) (rp : Nat → Nat) (lt : Nat) (ru : Nat → Option Nat) (lg : Nat) (lp : Int64) (o : Nat) (g : Nat → Int64) (x1 : Int32) (hM : Bd l yX0_atom wsX0_atom rb_X0_atom D vwCl (wC ad cI cZ cJ n kd sd ts fs tr on rp lt ru lg lp) (tyC cI cZ cJ) [.ref (ad 0), .int x1] eIO) : LW l yL_atom wsL_atom rm_L_atom D ((wC ad cI cZ cJ n kd sd ts fs tr on rp lt ru lg lp) ++ [(o, .inl (cJ, 1, .inr (.inl g)))]) ((wC ad cI cZ cJ n kd sd ts fs tr on rp lt ru lg lp) ++ [(o, .inl (cJ, 1, .inr (.inl g)))]) (tyC cI cZ cJ) [.ref (ad 0), .int x1, .ref o] (nI 1) := by
  intro A sz
  refine metWH (cc := cL_atom) (maxL := 4) (ret := some .int) (by decide) rfl ?_
  intro p e s m args below meth c s₁ B hml hv
  obtain ⟨rfl, rfl, hP, hK, hD, hXE, hTB⟩ := hv
  have hx := B.exec
  have hb := B.bytes
  have hr := B.returns
  have hts := atoms_spec (ws := wsL_atom) B.pre
  have hown : s.vm.findClass RL = some m.cls := findClass_of_methodNamed B.named
  have hlocks := B.notSynchronized
  have hS : va_S (fun q => A q ∨ s.heap.size ≤ q) s.heap s.heap [] := va_S.rf
  have hl := lv_entry ([.ref (ad 0), .int x1, .ref o]) (n := 4) (Nat.le_of_ble_eq_true rfl)
  rw [lg_entry_eq]
  generalize (lg_sl ([.ref (ad 0), .int x1, .ref o]) ++ List.replicate (4 - (lg_sl ([.ref (ad 0), .int x1, .ref o])).length) Slot.unset).toArray = ls at hl ⊢
  have hl : lv_has ls 4 [(0, .ref (ad 0)), (1, .int x1), (2, .ref o)] := hl
  have hPc := hP.l (w1 := (wC ad cI cZ cJ n kd sd ts fs tr on rp lt ru lg lp))
  have hDc := hD.l (w1 := (wC ad cI cZ cJ n kd sd ts fs tr on rp lt ru lg lp))
  have htab : c.exceptionTable.toList = [⟨0, 9, 12, 13⟩, ⟨0, 9, 15, 15⟩] := vx_table (x := yL_atom) B (hts (.codeWith yL_atom cL_atom 4 (some .int) [(0, 9, 12, 13), (0, 9, 15, 15)]) List.mem_cons_self)
  refine lv_aload_n hx hb dL_atom_0 rfl (lv_at hl 2 rfl) ?_
  refine lv_iconst (v := nI 0) hx hb dL_atom_1 (by decide) ?_
  refine lv_aload_n hx hb dL_atom_2 rfl (lv_at hl 0 rfl) ?_
  refine lv_iload_n hx hb dL_atom_3 rfl (lv_at hl 1 rfl) ?_
  refine bd_C (own := RL) (As := [.int x1]) (rest := [.int (nI 0), .ref o]) (C := RX0) (ci := 0) (q0 := 0) (A0 := fun q => A q ∨ s.heap.size ≤ q) ⟨hx, hb, hml, hown, hts⟩ hM gL_atom_X0_atom rfl ⟨rfl, rfl⟩ 1 rfl (by decide +kernel) ⟨Nat.le_of_ble_eq_true rfl, Nat.le_of_ble_eq_true rfl⟩ hPc hK rfl rfl rfl hXE hS (fun q h => Or.inr h) hl.1 rfl (Nat.le_of_ble_eq_true rfl) dL_atom_4 ⟨Nat.le_of_ble_eq_true rfl, Nat.le_of_ble_eq_true rfl⟩ (fun q9 ce H locs hz1 hk1 hS hce hcv hcl => ?_)
  refine vx_catch (own := RL) (name := eIO) hown [] ⟨0, 9, 12, 13⟩ [⟨0, 9, 15, 15⟩] htab (fun _ h => absurd h List.not_mem_nil) (by decide) (by decide) (hts (.classLink RL 13 eIO) (by decide +kernel)) (castIO hXE) hce hcv hcl ?_
  refine W.eq (g2 := F0 m 12 ls [.ref q9]) rfl ?_
  refine lv_astore_n (lv' := [(3, .ref q9), (0, .ref (ad 0)), (1, .int x1), (2, .ref o)]) hx hb dL_atom_12 rfl hl (by decide) rfl (fun ls hl => ?_)
  refine lv_iconst (v := nI 1) hx hb dL_atom_13 (by decide) ?_
  refine W.widen (k := 1) (n := 6) (Nat.le_of_ble_eq_true rfl) (Nat.le_of_ble_eq_true rfl) ?_
  exact W.zret hx hb hr (vp_nar_int _) (fun t ht hW => ⟨⟨_, (), rfl, rfl, by subst ht; exact keptP hP hk1⟩, hS.F ht⟩) hS.2.2 dL_atom_14
set_option maxHeartbeats 4000000 in
set_option maxRecDepth 100000 in
theorem k_atom_b2 (l : Launch) (D : va_G) (ad : Nat → Nat) (cI cZ cJ : ClassId) (n : Nat) (kd : Nat → Nat) (sd : Nat → Bool) (ts : Nat → Int64) (fs : Nat → Int64) (tr : Nat → Nat) (on : Nat → Bool) (rp : Nat → Nat) (lt : Nat) (ru : Nat → Option Nat) (lg : Nat) (lp : Int64) (o : Nat) (g : Nat → Int64) (x1 : Int32) (hM : Bd l yX0_atom wsX0_atom rb_X0_atom D vwCl (wC ad cI cZ cJ n kd sd ts fs tr on rp lt ru lg lp) (tyC cI cZ cJ) [.ref (ad 0), .int x1] eIS) : LW l yL_atom wsL_atom rm_L_atom D ((wC ad cI cZ cJ n kd sd ts fs tr on rp lt ru lg lp) ++ [(o, .inl (cJ, 1, .inr (.inl g)))]) ((wC ad cI cZ cJ n kd sd ts fs tr on rp lt ru lg lp) ++ [(o, .inl (cJ, 1, .inr (.inl g)))]) (tyC cI cZ cJ) [.ref (ad 0), .int x1, .ref o] (nI 2) := by
  intro A sz
  refine metWH (cc := cL_atom) (maxL := 4) (ret := some .int) (by decide) rfl ?_
  intro p e s m args below meth c s₁ B hml hv
  obtain ⟨rfl, rfl, hP, hK, hD, hXE, hTB⟩ := hv
  have hx := B.exec
  have hb := B.bytes
  have hr := B.returns
  have hts := atoms_spec (ws := wsL_atom) B.pre
  have hown : s.vm.findClass RL = some m.cls := findClass_of_methodNamed B.named
  have hlocks := B.notSynchronized
  have hS : va_S (fun q => A q ∨ s.heap.size ≤ q) s.heap s.heap [] := va_S.rf
  have hl := lv_entry ([.ref (ad 0), .int x1, .ref o]) (n := 4) (Nat.le_of_ble_eq_true rfl)
  rw [lg_entry_eq]
  generalize (lg_sl ([.ref (ad 0), .int x1, .ref o]) ++ List.replicate (4 - (lg_sl ([.ref (ad 0), .int x1, .ref o])).length) Slot.unset).toArray = ls at hl ⊢
  have hl : lv_has ls 4 [(0, .ref (ad 0)), (1, .int x1), (2, .ref o)] := hl
  have hPc := hP.l (w1 := (wC ad cI cZ cJ n kd sd ts fs tr on rp lt ru lg lp))
  have hDc := hD.l (w1 := (wC ad cI cZ cJ n kd sd ts fs tr on rp lt ru lg lp))
  have htab : c.exceptionTable.toList = [⟨0, 9, 12, 13⟩, ⟨0, 9, 15, 15⟩] := vx_table (x := yL_atom) B (hts (.codeWith yL_atom cL_atom 4 (some .int) [(0, 9, 12, 13), (0, 9, 15, 15)]) List.mem_cons_self)
  refine lv_aload_n hx hb dL_atom_0 rfl (lv_at hl 2 rfl) ?_
  refine lv_iconst (v := nI 0) hx hb dL_atom_1 (by decide) ?_
  refine lv_aload_n hx hb dL_atom_2 rfl (lv_at hl 0 rfl) ?_
  refine lv_iload_n hx hb dL_atom_3 rfl (lv_at hl 1 rfl) ?_
  refine bd_C (own := RL) (As := [.int x1]) (rest := [.int (nI 0), .ref o]) (C := RX0) (ci := 0) (q0 := 0) (A0 := fun q => A q ∨ s.heap.size ≤ q) ⟨hx, hb, hml, hown, hts⟩ hM gL_atom_X0_atom rfl ⟨rfl, rfl⟩ 1 rfl (by decide +kernel) ⟨Nat.le_of_ble_eq_true rfl, Nat.le_of_ble_eq_true rfl⟩ hPc hK rfl rfl rfl hXE hS (fun q h => Or.inr h) hl.1 rfl (Nat.le_of_ble_eq_true rfl) dL_atom_4 ⟨Nat.le_of_ble_eq_true rfl, Nat.le_of_ble_eq_true rfl⟩ (fun q9 ce H locs hz1 hk1 hS hce hcv hcl => ?_)
  refine vx_catch (own := RL) (name := eIS) hown [⟨0, 9, 12, 13⟩] ⟨0, 9, 15, 15⟩ [] htab (fun z hz => by rcases List.mem_singleton.mp hz with rfl; exact Or.inr ⟨by decide, eIO, hts (.classLink RL 13 eIO) (by decide +kernel), hXE.2.2.2.2.2.2.2.2.1⟩) (by decide) (by decide) (hts (.classLink RL 15 eIS) (by decide +kernel)) (castIS hXE) hce hcv hcl ?_
  refine W.eq (g2 := F0 m 15 ls [.ref q9]) rfl ?_
  refine lv_astore_n (lv' := [(3, .ref q9), (0, .ref (ad 0)), (1, .int x1), (2, .ref o)]) hx hb dL_atom_15 rfl hl (by decide) rfl (fun ls hl => ?_)
  refine lv_iconst (v := nI 2) hx hb dL_atom_16 (by decide) ?_
  refine W.widen (k := 1) (n := 6) (Nat.le_of_ble_eq_true rfl) (Nat.le_of_ble_eq_true rfl) ?_
  exact W.zret hx hb hr (vp_nar_int _) (fun t ht hW => ⟨⟨_, (), rfl, rfl, by subst ht; exact keptP hP hk1⟩, hS.F ht⟩) hS.2.2 dL_atom_17
def rm_L_constant : Room := { frames := 8, cells := 1, slots := 6, locals := 125 }
set_option maxHeartbeats 4000000 in
set_option maxRecDepth 100000 in
theorem k_constant_ok (l : Launch) (D : va_G) (ad : Nat → Nat) (cI cZ cJ : ClassId) (n : Nat) (kd : Nat → Nat) (sd : Nat → Bool) (ts : Nat → Int64) (fs : Nat → Int64) (tr : Nat → Nat) (on : Nat → Bool) (rp : Nat → Nat) (lt : Nat) (ru : Nat → Option Nat) (lg : Nat) (lp : Int64) (n' : Nat) (kd' : Nat → Nat) (sd' : Nat → Bool) (ts' : Nat → Int64) (fs' : Nat → Int64) (tr' : Nat → Nat) (on' : Nat → Bool) (rp' : Nat → Nat) (lt' : Nat) (ru' : Nat → Option Nat) (lg' : Nat) (lp' : Int64) (o : Nat) (g : Nat → Int64) (x1 : Int32) (f : Int32) (hM : MuIe l yX0_constant wsX0_constant rm_X0_constant D vwCl (wC ad cI cZ cJ n kd sd ts fs tr on rp lt ru lg lp) (fun _ => (wC ad cI cZ cJ n' kd' sd' ts' fs' tr' on' rp' lt' ru' lg' lp')) (tyC cI cZ cJ) [.ref (ad 0), .int x1] f) : LW l yL_constant wsL_constant rm_L_constant D ((wC ad cI cZ cJ n kd sd ts fs tr on rp lt ru lg lp) ++ [(o, .inl (cJ, 1, .inr (.inl g)))]) ((wC ad cI cZ cJ n' kd' sd' ts' fs' tr' on' rp' lt' ru' lg' lp') ++ [(o, .inl (cJ, 1, .inr (.inl (vp_updL g 0 f.toInt64))))]) (tyC cI cZ cJ) [.ref (ad 0), .int x1, .ref o] (nI 0) := by
  intro A sz
  refine metWH (cc := cL_constant) (maxL := 4) (ret := some .int) (by decide) rfl ?_
  intro p e s m args below meth c s₁ B hml hv
  obtain ⟨rfl, rfl, hP, hK, hD, hXE, hTB⟩ := hv
  have hx := B.exec
  have hb := B.bytes
  have hr := B.returns
  have hts := atoms_spec (ws := wsL_constant) B.pre
  have hown : s.vm.findClass RL = some m.cls := findClass_of_methodNamed B.named
  have hlocks := B.notSynchronized
  have hS : va_S (fun q => A q ∨ s.heap.size ≤ q) s.heap s.heap [] := va_S.rf
  have hl := lv_entry ([.ref (ad 0), .int x1, .ref o]) (n := 4) (Nat.le_of_ble_eq_true rfl)
  rw [lg_entry_eq]
  generalize (lg_sl ([.ref (ad 0), .int x1, .ref o]) ++ List.replicate (4 - (lg_sl ([.ref (ad 0), .int x1, .ref o])).length) Slot.unset).toArray = ls at hl ⊢
  have hl : lv_has ls 4 [(0, .ref (ad 0)), (1, .int x1), (2, .ref o)] := hl
  have hPc := hP.l (w1 := (wC ad cI cZ cJ n kd sd ts fs tr on rp lt ru lg lp))
  have hDc := hD.l (w1 := (wC ad cI cZ cJ n kd sd ts fs tr on rp lt ru lg lp))
  refine lv_aload_n hx hb dL_constant_0 rfl (lv_at hl 2 rfl) ?_
  refine lv_iconst (v := nI 0) hx hb dL_constant_1 (by decide) ?_
  refine lv_aload_n hx hb dL_constant_2 rfl (lv_at hl 0 rfl) ?_
  refine lv_iload_n hx hb dL_constant_3 rfl (lv_at hl 1 rfl) ?_
  refine muI_Ve (own := RL) (As := [.int x1]) (rest := [.int (nI 0), .ref o]) (C := RX0) (ci := 0) (q0 := 0) (A1 := AW (wC ad cI cZ cJ n kd sd ts fs tr on rp lt ru lg lp)) (A0 := fun q => A q ∨ s.heap.size ≤ q) ⟨hx, hb, hml, hown, hts⟩ hM gL_constant_X0_constant rfl ⟨rfl, rfl⟩ 1 rfl (by decide +kernel) ⟨Nat.le_of_ble_eq_true rfl, Nat.le_of_ble_eq_true rfl⟩ hPc hK hDc.aw (hTB.narrow (fun q h => hDc.awA h)) (fun q h => Or.inl (hDc.awA h)) rfl rfl rfl hS hl.1 rfl (Nat.le_of_ble_eq_true rfl) dL_constant_4 ⟨Nat.zero_le _, Nat.zero_le _⟩ (fun u H locs hP2 hz1 hk1 hS => ?_)
  have hPo := (hP.r (w1 := (wC ad cI cZ cJ n kd sd ts fs tr on rp lt ru lg lp))).off hk1 (fun q h1 h2 => hD.dis h2 h1)
  have hPj := hP2.app hPo
  have hDj : va_D (fun q => A q ∨ s.heap.size ≤ q) ((wC ad cI cZ cJ n' kd' sd' ts' fs' tr' on' rp' lt' ru' lg' lp') ++ [(o, .inl (cJ, 1, .inr (.inl g)))]) := sameD2 (hD.weaken (fun _ _ _ h => Or.inl h)) rfl
  refine lv_i2l (v := f.toInt64) hx hb dL_constant_7 rfl ?_
  refine st_nl hx hb hK hPj hDj hS 9 2 rfl rfl (j := 0) (by decide) (by decide) dL_constant_8 (fun H locs hP3 hD3 hS => ?_)
  replace hP3 : va_P D vwCl ((wC ad cI cZ cJ n' kd' sd' ts' fs' tr' on' rp' lt' ru' lg' lp') ++ [(o, .inl (cJ, 1, .inr (.inl (vp_updL g 0 f.toInt64))))]) H := by exact hP3
  refine lv_goto (tgt := 18) hx hb dL_constant_9 (by decide) ?_
  refine lv_iconst (v := nI 0) hx hb dL_constant_18 (by decide) ?_
  refine W.widen (k := 1) (n := 6) (Nat.le_of_ble_eq_true rfl) (Nat.le_of_ble_eq_true rfl) ?_
  exact W.zret hx hb hr (vp_nar_int _) (fun t ht hW => ⟨⟨_, (), rfl, rfl, by subst ht; exact hP3⟩, hS.F ht⟩) hS.2.2 dL_constant_19
set_option maxHeartbeats 4000000 in
set_option maxRecDepth 100000 in
theorem k_constant_b1 (l : Launch) (D : va_G) (ad : Nat → Nat) (cI cZ cJ : ClassId) (n : Nat) (kd : Nat → Nat) (sd : Nat → Bool) (ts : Nat → Int64) (fs : Nat → Int64) (tr : Nat → Nat) (on : Nat → Bool) (rp : Nat → Nat) (lt : Nat) (ru : Nat → Option Nat) (lg : Nat) (lp : Int64) (o : Nat) (g : Nat → Int64) (x1 : Int32) (hM : Bd l yX0_constant wsX0_constant rb_X0_constant D vwCl (wC ad cI cZ cJ n kd sd ts fs tr on rp lt ru lg lp) (tyC cI cZ cJ) [.ref (ad 0), .int x1] eIA) : LW l yL_constant wsL_constant rm_L_constant D ((wC ad cI cZ cJ n kd sd ts fs tr on rp lt ru lg lp) ++ [(o, .inl (cJ, 1, .inr (.inl g)))]) ((wC ad cI cZ cJ n kd sd ts fs tr on rp lt ru lg lp) ++ [(o, .inl (cJ, 1, .inr (.inl g)))]) (tyC cI cZ cJ) [.ref (ad 0), .int x1, .ref o] (nI 1) := by
  intro A sz
  refine metWH (cc := cL_constant) (maxL := 4) (ret := some .int) (by decide) rfl ?_
  intro p e s m args below meth c s₁ B hml hv
  obtain ⟨rfl, rfl, hP, hK, hD, hXE, hTB⟩ := hv
  have hx := B.exec
  have hb := B.bytes
  have hr := B.returns
  have hts := atoms_spec (ws := wsL_constant) B.pre
  have hown : s.vm.findClass RL = some m.cls := findClass_of_methodNamed B.named
  have hlocks := B.notSynchronized
  have hS : va_S (fun q => A q ∨ s.heap.size ≤ q) s.heap s.heap [] := va_S.rf
  have hl := lv_entry ([.ref (ad 0), .int x1, .ref o]) (n := 4) (Nat.le_of_ble_eq_true rfl)
  rw [lg_entry_eq]
  generalize (lg_sl ([.ref (ad 0), .int x1, .ref o]) ++ List.replicate (4 - (lg_sl ([.ref (ad 0), .int x1, .ref o])).length) Slot.unset).toArray = ls at hl ⊢
  have hl : lv_has ls 4 [(0, .ref (ad 0)), (1, .int x1), (2, .ref o)] := hl
  have hPc := hP.l (w1 := (wC ad cI cZ cJ n kd sd ts fs tr on rp lt ru lg lp))
  have hDc := hD.l (w1 := (wC ad cI cZ cJ n kd sd ts fs tr on rp lt ru lg lp))
  have htab : c.exceptionTable.toList = [⟨0, 9, 12, 20⟩, ⟨0, 9, 15, 15⟩] := vx_table (x := yL_constant) B (hts (.codeWith yL_constant cL_constant 4 (some .int) [(0, 9, 12, 20), (0, 9, 15, 15)]) List.mem_cons_self)
  refine lv_aload_n hx hb dL_constant_0 rfl (lv_at hl 2 rfl) ?_
  refine lv_iconst (v := nI 0) hx hb dL_constant_1 (by decide) ?_
  refine lv_aload_n hx hb dL_constant_2 rfl (lv_at hl 0 rfl) ?_
  refine lv_iload_n hx hb dL_constant_3 rfl (lv_at hl 1 rfl) ?_
  refine bd_C (own := RL) (As := [.int x1]) (rest := [.int (nI 0), .ref o]) (C := RX0) (ci := 0) (q0 := 0) (A0 := fun q => A q ∨ s.heap.size ≤ q) ⟨hx, hb, hml, hown, hts⟩ hM gL_constant_X0_constant rfl ⟨rfl, rfl⟩ 1 rfl (by decide +kernel) ⟨Nat.le_of_ble_eq_true rfl, Nat.le_of_ble_eq_true rfl⟩ hPc hK rfl rfl rfl hXE hS (fun q h => Or.inr h) hl.1 rfl (Nat.le_of_ble_eq_true rfl) dL_constant_4 ⟨Nat.le_of_ble_eq_true rfl, Nat.le_of_ble_eq_true rfl⟩ (fun q9 ce H locs hz1 hk1 hS hce hcv hcl => ?_)
  refine vx_catch (own := RL) (name := eIA) hown [] ⟨0, 9, 12, 20⟩ [⟨0, 9, 15, 15⟩] htab (fun _ h => absurd h List.not_mem_nil) (by decide) (by decide) (hts (.classLink RL 20 eIA) (by decide +kernel)) (castIA hXE) hce hcv hcl ?_
  refine W.eq (g2 := F0 m 12 ls [.ref q9]) rfl ?_
  refine lv_astore_n (lv' := [(3, .ref q9), (0, .ref (ad 0)), (1, .int x1), (2, .ref o)]) hx hb dL_constant_12 rfl hl (by decide) rfl (fun ls hl => ?_)
  refine lv_iconst (v := nI 1) hx hb dL_constant_13 (by decide) ?_
  refine W.widen (k := 1) (n := 6) (Nat.le_of_ble_eq_true rfl) (Nat.le_of_ble_eq_true rfl) ?_
  exact W.zret hx hb hr (vp_nar_int _) (fun t ht hW => ⟨⟨_, (), rfl, rfl, by subst ht; exact keptP hP hk1⟩, hS.F ht⟩) hS.2.2 dL_constant_14
set_option maxHeartbeats 4000000 in
set_option maxRecDepth 100000 in
theorem k_constant_b2 (l : Launch) (D : va_G) (ad : Nat → Nat) (cI cZ cJ : ClassId) (n : Nat) (kd : Nat → Nat) (sd : Nat → Bool) (ts : Nat → Int64) (fs : Nat → Int64) (tr : Nat → Nat) (on : Nat → Bool) (rp : Nat → Nat) (lt : Nat) (ru : Nat → Option Nat) (lg : Nat) (lp : Int64) (o : Nat) (g : Nat → Int64) (x1 : Int32) (hM : Bd l yX0_constant wsX0_constant rb_X0_constant D vwCl (wC ad cI cZ cJ n kd sd ts fs tr on rp lt ru lg lp) (tyC cI cZ cJ) [.ref (ad 0), .int x1] eIS) : LW l yL_constant wsL_constant rm_L_constant D ((wC ad cI cZ cJ n kd sd ts fs tr on rp lt ru lg lp) ++ [(o, .inl (cJ, 1, .inr (.inl g)))]) ((wC ad cI cZ cJ n kd sd ts fs tr on rp lt ru lg lp) ++ [(o, .inl (cJ, 1, .inr (.inl g)))]) (tyC cI cZ cJ) [.ref (ad 0), .int x1, .ref o] (nI 2) := by
  intro A sz
  refine metWH (cc := cL_constant) (maxL := 4) (ret := some .int) (by decide) rfl ?_
  intro p e s m args below meth c s₁ B hml hv
  obtain ⟨rfl, rfl, hP, hK, hD, hXE, hTB⟩ := hv
  have hx := B.exec
  have hb := B.bytes
  have hr := B.returns
  have hts := atoms_spec (ws := wsL_constant) B.pre
  have hown : s.vm.findClass RL = some m.cls := findClass_of_methodNamed B.named
  have hlocks := B.notSynchronized
  have hS : va_S (fun q => A q ∨ s.heap.size ≤ q) s.heap s.heap [] := va_S.rf
  have hl := lv_entry ([.ref (ad 0), .int x1, .ref o]) (n := 4) (Nat.le_of_ble_eq_true rfl)
  rw [lg_entry_eq]
  generalize (lg_sl ([.ref (ad 0), .int x1, .ref o]) ++ List.replicate (4 - (lg_sl ([.ref (ad 0), .int x1, .ref o])).length) Slot.unset).toArray = ls at hl ⊢
  have hl : lv_has ls 4 [(0, .ref (ad 0)), (1, .int x1), (2, .ref o)] := hl
  have hPc := hP.l (w1 := (wC ad cI cZ cJ n kd sd ts fs tr on rp lt ru lg lp))
  have hDc := hD.l (w1 := (wC ad cI cZ cJ n kd sd ts fs tr on rp lt ru lg lp))
  have htab : c.exceptionTable.toList = [⟨0, 9, 12, 20⟩, ⟨0, 9, 15, 15⟩] := vx_table (x := yL_constant) B (hts (.codeWith yL_constant cL_constant 4 (some .int) [(0, 9, 12, 20), (0, 9, 15, 15)]) List.mem_cons_self)
  refine lv_aload_n hx hb dL_constant_0 rfl (lv_at hl 2 rfl) ?_
  refine lv_iconst (v := nI 0) hx hb dL_constant_1 (by decide) ?_
  refine lv_aload_n hx hb dL_constant_2 rfl (lv_at hl 0 rfl) ?_
  refine lv_iload_n hx hb dL_constant_3 rfl (lv_at hl 1 rfl) ?_
  refine bd_C (own := RL) (As := [.int x1]) (rest := [.int (nI 0), .ref o]) (C := RX0) (ci := 0) (q0 := 0) (A0 := fun q => A q ∨ s.heap.size ≤ q) ⟨hx, hb, hml, hown, hts⟩ hM gL_constant_X0_constant rfl ⟨rfl, rfl⟩ 1 rfl (by decide +kernel) ⟨Nat.le_of_ble_eq_true rfl, Nat.le_of_ble_eq_true rfl⟩ hPc hK rfl rfl rfl hXE hS (fun q h => Or.inr h) hl.1 rfl (Nat.le_of_ble_eq_true rfl) dL_constant_4 ⟨Nat.le_of_ble_eq_true rfl, Nat.le_of_ble_eq_true rfl⟩ (fun q9 ce H locs hz1 hk1 hS hce hcv hcl => ?_)
  refine vx_catch (own := RL) (name := eIS) hown [⟨0, 9, 12, 20⟩] ⟨0, 9, 15, 15⟩ [] htab (fun z hz => by rcases List.mem_singleton.mp hz with rfl; exact Or.inr ⟨by decide, eIA, hts (.classLink RL 20 eIA) (by decide +kernel), hXE.2.2.2.2.2.2.2.2.2⟩) (by decide) (by decide) (hts (.classLink RL 15 eIS) (by decide +kernel)) (castIS hXE) hce hcv hcl ?_
  refine W.eq (g2 := F0 m 15 ls [.ref q9]) rfl ?_
  refine lv_astore_n (lv' := [(3, .ref q9), (0, .ref (ad 0)), (1, .int x1), (2, .ref o)]) hx hb dL_constant_15 rfl hl (by decide) rfl (fun ls hl => ?_)
  refine lv_iconst (v := nI 2) hx hb dL_constant_16 (by decide) ?_
  refine W.widen (k := 1) (n := 6) (Nat.le_of_ble_eq_true rfl) (Nat.le_of_ble_eq_true rfl) ?_
  exact W.zret hx hb hr (vp_nar_int _) (fun t ht hW => ⟨⟨_, (), rfl, rfl, by subst ht; exact keptP hP hk1⟩, hS.F ht⟩) hS.2.2 dL_constant_17
def rm_L_turn : Room := { frames := 8, cells := 1, slots := 6, locals := 132 }
set_option maxHeartbeats 4000000 in
set_option maxRecDepth 100000 in
theorem k_turn_ok (l : Launch) (D : va_G) (ad : Nat → Nat) (cI cZ cJ : ClassId) (n : Nat) (kd : Nat → Nat) (sd : Nat → Bool) (ts : Nat → Int64) (fs : Nat → Int64) (tr : Nat → Nat) (on : Nat → Bool) (rp : Nat → Nat) (lt : Nat) (ru : Nat → Option Nat) (lg : Nat) (lp : Int64) (n' : Nat) (kd' : Nat → Nat) (sd' : Nat → Bool) (ts' : Nat → Int64) (fs' : Nat → Int64) (tr' : Nat → Nat) (on' : Nat → Bool) (rp' : Nat → Nat) (lt' : Nat) (ru' : Nat → Option Nat) (lg' : Nat) (lp' : Int64) (o : Nat) (g : Nat → Int64) (x1 x2 : Int32) (f : Int32) (hM : MuIe l yX0_turn wsX0_turn rm_X0_turn D vwCl (wC ad cI cZ cJ n kd sd ts fs tr on rp lt ru lg lp) (fun _ => (wC ad cI cZ cJ n' kd' sd' ts' fs' tr' on' rp' lt' ru' lg' lp')) (tyC cI cZ cJ) [.ref (ad 0), .int x1, .int x2] f) : LW l yL_turn wsL_turn rm_L_turn D ((wC ad cI cZ cJ n kd sd ts fs tr on rp lt ru lg lp) ++ [(o, .inl (cJ, 1, .inr (.inl g)))]) ((wC ad cI cZ cJ n' kd' sd' ts' fs' tr' on' rp' lt' ru' lg' lp') ++ [(o, .inl (cJ, 1, .inr (.inl (vp_updL g 0 f.toInt64))))]) (tyC cI cZ cJ) [.ref (ad 0), .int x1, .int x2, .ref o] (nI 0) := by
  intro A sz
  refine metWH (cc := cL_turn) (maxL := 5) (ret := some .int) (by decide) rfl ?_
  intro p e s m args below meth c s₁ B hml hv
  obtain ⟨rfl, rfl, hP, hK, hD, hXE, hTB⟩ := hv
  have hx := B.exec
  have hb := B.bytes
  have hr := B.returns
  have hts := atoms_spec (ws := wsL_turn) B.pre
  have hown : s.vm.findClass RL = some m.cls := findClass_of_methodNamed B.named
  have hlocks := B.notSynchronized
  have hS : va_S (fun q => A q ∨ s.heap.size ≤ q) s.heap s.heap [] := va_S.rf
  have hl := lv_entry ([.ref (ad 0), .int x1, .int x2, .ref o]) (n := 5) (Nat.le_of_ble_eq_true rfl)
  rw [lg_entry_eq]
  generalize (lg_sl ([.ref (ad 0), .int x1, .int x2, .ref o]) ++ List.replicate (5 - (lg_sl ([.ref (ad 0), .int x1, .int x2, .ref o])).length) Slot.unset).toArray = ls at hl ⊢
  have hl : lv_has ls 5 [(0, .ref (ad 0)), (1, .int x1), (2, .int x2), (3, .ref o)] := hl
  have hPc := hP.l (w1 := (wC ad cI cZ cJ n kd sd ts fs tr on rp lt ru lg lp))
  have hDc := hD.l (w1 := (wC ad cI cZ cJ n kd sd ts fs tr on rp lt ru lg lp))
  refine lv_aload_n hx hb dL_turn_0 rfl (lv_at hl 3 rfl) ?_
  refine lv_iconst (v := nI 0) hx hb dL_turn_1 (by decide) ?_
  refine lv_aload_n hx hb dL_turn_2 rfl (lv_at hl 0 rfl) ?_
  refine lv_iload_n hx hb dL_turn_3 rfl (lv_at hl 1 rfl) ?_
  refine lv_iload_n hx hb dL_turn_4 rfl (lv_at hl 2 rfl) ?_
  refine muI_Ve (own := RL) (As := [.int x1, .int x2]) (rest := [.int (nI 0), .ref o]) (C := RX0) (ci := 0) (q0 := 0) (A1 := AW (wC ad cI cZ cJ n kd sd ts fs tr on rp lt ru lg lp)) (A0 := fun q => A q ∨ s.heap.size ≤ q) ⟨hx, hb, hml, hown, hts⟩ hM gL_turn_X0_turn rfl ⟨rfl, rfl⟩ 2 rfl (by decide +kernel) ⟨Nat.le_of_ble_eq_true rfl, Nat.le_of_ble_eq_true rfl⟩ hPc hK hDc.aw (hTB.narrow (fun q h => hDc.awA h)) (fun q h => Or.inl (hDc.awA h)) rfl rfl rfl hS hl.1 rfl (Nat.le_of_ble_eq_true rfl) dL_turn_5 ⟨Nat.zero_le _, Nat.zero_le _⟩ (fun u H locs hP2 hz1 hk1 hS => ?_)
  have hPo := (hP.r (w1 := (wC ad cI cZ cJ n kd sd ts fs tr on rp lt ru lg lp))).off hk1 (fun q h1 h2 => hD.dis h2 h1)
  have hPj := hP2.app hPo
  have hDj : va_D (fun q => A q ∨ s.heap.size ≤ q) ((wC ad cI cZ cJ n' kd' sd' ts' fs' tr' on' rp' lt' ru' lg' lp') ++ [(o, .inl (cJ, 1, .inr (.inl g)))]) := sameD2 (hD.weaken (fun _ _ _ h => Or.inl h)) rfl
  refine lv_i2l (v := f.toInt64) hx hb dL_turn_8 rfl ?_
  refine st_nl hx hb hK hPj hDj hS 9 2 rfl rfl (j := 0) (by decide) (by decide) dL_turn_9 (fun H locs hP3 hD3 hS => ?_)
  replace hP3 : va_P D vwCl ((wC ad cI cZ cJ n' kd' sd' ts' fs' tr' on' rp' lt' ru' lg' lp') ++ [(o, .inl (cJ, 1, .inr (.inl (vp_updL g 0 f.toInt64))))]) H := by exact hP3
  refine lv_goto (tgt := 25) hx hb dL_turn_10 (by decide) ?_
  refine lv_iconst (v := nI 0) hx hb dL_turn_25 (by decide) ?_
  refine W.widen (k := 1) (n := 6) (Nat.le_of_ble_eq_true rfl) (Nat.le_of_ble_eq_true rfl) ?_
  exact W.zret hx hb hr (vp_nar_int _) (fun t ht hW => ⟨⟨_, (), rfl, rfl, by subst ht; exact hP3⟩, hS.F ht⟩) hS.2.2 dL_turn_26
set_option maxHeartbeats 4000000 in
set_option maxRecDepth 100000 in
theorem k_turn_b1 (l : Launch) (D : va_G) (ad : Nat → Nat) (cI cZ cJ : ClassId) (n : Nat) (kd : Nat → Nat) (sd : Nat → Bool) (ts : Nat → Int64) (fs : Nat → Int64) (tr : Nat → Nat) (on : Nat → Bool) (rp : Nat → Nat) (lt : Nat) (ru : Nat → Option Nat) (lg : Nat) (lp : Int64) (o : Nat) (g : Nat → Int64) (x1 x2 : Int32) (hM : Bd l yX0_turn wsX0_turn rb_X0_turn D vwCl (wC ad cI cZ cJ n kd sd ts fs tr on rp lt ru lg lp) (tyC cI cZ cJ) [.ref (ad 0), .int x1, .int x2] eIO) : LW l yL_turn wsL_turn rm_L_turn D ((wC ad cI cZ cJ n kd sd ts fs tr on rp lt ru lg lp) ++ [(o, .inl (cJ, 1, .inr (.inl g)))]) ((wC ad cI cZ cJ n kd sd ts fs tr on rp lt ru lg lp) ++ [(o, .inl (cJ, 1, .inr (.inl g)))]) (tyC cI cZ cJ) [.ref (ad 0), .int x1, .int x2, .ref o] (nI 1) := by
  intro A sz
  refine metWH (cc := cL_turn) (maxL := 5) (ret := some .int) (by decide) rfl ?_
  intro p e s m args below meth c s₁ B hml hv
  obtain ⟨rfl, rfl, hP, hK, hD, hXE, hTB⟩ := hv
  have hx := B.exec
  have hb := B.bytes
  have hr := B.returns
  have hts := atoms_spec (ws := wsL_turn) B.pre
  have hown : s.vm.findClass RL = some m.cls := findClass_of_methodNamed B.named
  have hlocks := B.notSynchronized
  have hS : va_S (fun q => A q ∨ s.heap.size ≤ q) s.heap s.heap [] := va_S.rf
  have hl := lv_entry ([.ref (ad 0), .int x1, .int x2, .ref o]) (n := 5) (Nat.le_of_ble_eq_true rfl)
  rw [lg_entry_eq]
  generalize (lg_sl ([.ref (ad 0), .int x1, .int x2, .ref o]) ++ List.replicate (5 - (lg_sl ([.ref (ad 0), .int x1, .int x2, .ref o])).length) Slot.unset).toArray = ls at hl ⊢
  have hl : lv_has ls 5 [(0, .ref (ad 0)), (1, .int x1), (2, .int x2), (3, .ref o)] := hl
  have hPc := hP.l (w1 := (wC ad cI cZ cJ n kd sd ts fs tr on rp lt ru lg lp))
  have hDc := hD.l (w1 := (wC ad cI cZ cJ n kd sd ts fs tr on rp lt ru lg lp))
  have htab : c.exceptionTable.toList = [⟨0, 10, 13, 13⟩, ⟨0, 10, 17, 20⟩, ⟨0, 10, 21, 15⟩] := vx_table (x := yL_turn) B (hts (.codeWith yL_turn cL_turn 5 (some .int) [(0, 10, 13, 13), (0, 10, 17, 20), (0, 10, 21, 15)]) List.mem_cons_self)
  refine lv_aload_n hx hb dL_turn_0 rfl (lv_at hl 3 rfl) ?_
  refine lv_iconst (v := nI 0) hx hb dL_turn_1 (by decide) ?_
  refine lv_aload_n hx hb dL_turn_2 rfl (lv_at hl 0 rfl) ?_
  refine lv_iload_n hx hb dL_turn_3 rfl (lv_at hl 1 rfl) ?_
  refine lv_iload_n hx hb dL_turn_4 rfl (lv_at hl 2 rfl) ?_
  refine bd_C (own := RL) (As := [.int x1, .int x2]) (rest := [.int (nI 0), .ref o]) (C := RX0) (ci := 0) (q0 := 0) (A0 := fun q => A q ∨ s.heap.size ≤ q) ⟨hx, hb, hml, hown, hts⟩ hM gL_turn_X0_turn rfl ⟨rfl, rfl⟩ 2 rfl (by decide +kernel) ⟨Nat.le_of_ble_eq_true rfl, Nat.le_of_ble_eq_true rfl⟩ hPc hK rfl rfl rfl hXE hS (fun q h => Or.inr h) hl.1 rfl (Nat.le_of_ble_eq_true rfl) dL_turn_5 ⟨Nat.le_of_ble_eq_true rfl, Nat.le_of_ble_eq_true rfl⟩ (fun q9 ce H locs hz1 hk1 hS hce hcv hcl => ?_)
  refine vx_catch (own := RL) (name := eIO) hown [] ⟨0, 10, 13, 13⟩ [⟨0, 10, 17, 20⟩, ⟨0, 10, 21, 15⟩] htab (fun _ h => absurd h List.not_mem_nil) (by decide) (by decide) (hts (.classLink RL 13 eIO) (by decide +kernel)) (castIO hXE) hce hcv hcl ?_
  refine W.eq (g2 := F0 m 13 ls [.ref q9]) rfl ?_
  refine lv_astore (lv' := [(4, .ref q9), (0, .ref (ad 0)), (1, .int x1), (2, .int x2), (3, .ref o)]) hx hb dL_turn_13 hl (by decide) rfl (fun ls hl => ?_)
  refine lv_iconst (v := nI 1) hx hb dL_turn_15 (by decide) ?_
  refine W.widen (k := 1) (n := 6) (Nat.le_of_ble_eq_true rfl) (Nat.le_of_ble_eq_true rfl) ?_
  exact W.zret hx hb hr (vp_nar_int _) (fun t ht hW => ⟨⟨_, (), rfl, rfl, by subst ht; exact keptP hP hk1⟩, hS.F ht⟩) hS.2.2 dL_turn_16
set_option maxHeartbeats 4000000 in
set_option maxRecDepth 100000 in
theorem k_turn_b2 (l : Launch) (D : va_G) (ad : Nat → Nat) (cI cZ cJ : ClassId) (n : Nat) (kd : Nat → Nat) (sd : Nat → Bool) (ts : Nat → Int64) (fs : Nat → Int64) (tr : Nat → Nat) (on : Nat → Bool) (rp : Nat → Nat) (lt : Nat) (ru : Nat → Option Nat) (lg : Nat) (lp : Int64) (o : Nat) (g : Nat → Int64) (x1 x2 : Int32) (hM : Bd l yX0_turn wsX0_turn rb_X0_turn D vwCl (wC ad cI cZ cJ n kd sd ts fs tr on rp lt ru lg lp) (tyC cI cZ cJ) [.ref (ad 0), .int x1, .int x2] eIA) : LW l yL_turn wsL_turn rm_L_turn D ((wC ad cI cZ cJ n kd sd ts fs tr on rp lt ru lg lp) ++ [(o, .inl (cJ, 1, .inr (.inl g)))]) ((wC ad cI cZ cJ n kd sd ts fs tr on rp lt ru lg lp) ++ [(o, .inl (cJ, 1, .inr (.inl g)))]) (tyC cI cZ cJ) [.ref (ad 0), .int x1, .int x2, .ref o] (nI 2) := by
  intro A sz
  refine metWH (cc := cL_turn) (maxL := 5) (ret := some .int) (by decide) rfl ?_
  intro p e s m args below meth c s₁ B hml hv
  obtain ⟨rfl, rfl, hP, hK, hD, hXE, hTB⟩ := hv
  have hx := B.exec
  have hb := B.bytes
  have hr := B.returns
  have hts := atoms_spec (ws := wsL_turn) B.pre
  have hown : s.vm.findClass RL = some m.cls := findClass_of_methodNamed B.named
  have hlocks := B.notSynchronized
  have hS : va_S (fun q => A q ∨ s.heap.size ≤ q) s.heap s.heap [] := va_S.rf
  have hl := lv_entry ([.ref (ad 0), .int x1, .int x2, .ref o]) (n := 5) (Nat.le_of_ble_eq_true rfl)
  rw [lg_entry_eq]
  generalize (lg_sl ([.ref (ad 0), .int x1, .int x2, .ref o]) ++ List.replicate (5 - (lg_sl ([.ref (ad 0), .int x1, .int x2, .ref o])).length) Slot.unset).toArray = ls at hl ⊢
  have hl : lv_has ls 5 [(0, .ref (ad 0)), (1, .int x1), (2, .int x2), (3, .ref o)] := hl
  have hPc := hP.l (w1 := (wC ad cI cZ cJ n kd sd ts fs tr on rp lt ru lg lp))
  have hDc := hD.l (w1 := (wC ad cI cZ cJ n kd sd ts fs tr on rp lt ru lg lp))
  have htab : c.exceptionTable.toList = [⟨0, 10, 13, 13⟩, ⟨0, 10, 17, 20⟩, ⟨0, 10, 21, 15⟩] := vx_table (x := yL_turn) B (hts (.codeWith yL_turn cL_turn 5 (some .int) [(0, 10, 13, 13), (0, 10, 17, 20), (0, 10, 21, 15)]) List.mem_cons_self)
  refine lv_aload_n hx hb dL_turn_0 rfl (lv_at hl 3 rfl) ?_
  refine lv_iconst (v := nI 0) hx hb dL_turn_1 (by decide) ?_
  refine lv_aload_n hx hb dL_turn_2 rfl (lv_at hl 0 rfl) ?_
  refine lv_iload_n hx hb dL_turn_3 rfl (lv_at hl 1 rfl) ?_
  refine lv_iload_n hx hb dL_turn_4 rfl (lv_at hl 2 rfl) ?_
  refine bd_C (own := RL) (As := [.int x1, .int x2]) (rest := [.int (nI 0), .ref o]) (C := RX0) (ci := 0) (q0 := 0) (A0 := fun q => A q ∨ s.heap.size ≤ q) ⟨hx, hb, hml, hown, hts⟩ hM gL_turn_X0_turn rfl ⟨rfl, rfl⟩ 2 rfl (by decide +kernel) ⟨Nat.le_of_ble_eq_true rfl, Nat.le_of_ble_eq_true rfl⟩ hPc hK rfl rfl rfl hXE hS (fun q h => Or.inr h) hl.1 rfl (Nat.le_of_ble_eq_true rfl) dL_turn_5 ⟨Nat.le_of_ble_eq_true rfl, Nat.le_of_ble_eq_true rfl⟩ (fun q9 ce H locs hz1 hk1 hS hce hcv hcl => ?_)
  refine vx_catch (own := RL) (name := eIA) hown [⟨0, 10, 13, 13⟩] ⟨0, 10, 17, 20⟩ [⟨0, 10, 21, 15⟩] htab (fun z hz => by rcases List.mem_singleton.mp hz with rfl; exact Or.inr ⟨by decide, eIO, hts (.classLink RL 13 eIO) (by decide +kernel), hXE.2.2.2.2.2.2.1⟩) (by decide) (by decide) (hts (.classLink RL 20 eIA) (by decide +kernel)) (castIA hXE) hce hcv hcl ?_
  refine W.eq (g2 := F0 m 17 ls [.ref q9]) rfl ?_
  refine lv_astore (lv' := [(4, .ref q9), (0, .ref (ad 0)), (1, .int x1), (2, .int x2), (3, .ref o)]) hx hb dL_turn_17 hl (by decide) rfl (fun ls hl => ?_)
  refine lv_iconst (v := nI 2) hx hb dL_turn_19 (by decide) ?_
  refine W.widen (k := 1) (n := 6) (Nat.le_of_ble_eq_true rfl) (Nat.le_of_ble_eq_true rfl) ?_
  exact W.zret hx hb hr (vp_nar_int _) (fun t ht hW => ⟨⟨_, (), rfl, rfl, by subst ht; exact keptP hP hk1⟩, hS.F ht⟩) hS.2.2 dL_turn_20
set_option maxHeartbeats 4000000 in
set_option maxRecDepth 100000 in
theorem k_turn_b3 (l : Launch) (D : va_G) (ad : Nat → Nat) (cI cZ cJ : ClassId) (n : Nat) (kd : Nat → Nat) (sd : Nat → Bool) (ts : Nat → Int64) (fs : Nat → Int64) (tr : Nat → Nat) (on : Nat → Bool) (rp : Nat → Nat) (lt : Nat) (ru : Nat → Option Nat) (lg : Nat) (lp : Int64) (o : Nat) (g : Nat → Int64) (x1 x2 : Int32) (hM : Bd l yX0_turn wsX0_turn rb_X0_turn D vwCl (wC ad cI cZ cJ n kd sd ts fs tr on rp lt ru lg lp) (tyC cI cZ cJ) [.ref (ad 0), .int x1, .int x2] eIS) : LW l yL_turn wsL_turn rm_L_turn D ((wC ad cI cZ cJ n kd sd ts fs tr on rp lt ru lg lp) ++ [(o, .inl (cJ, 1, .inr (.inl g)))]) ((wC ad cI cZ cJ n kd sd ts fs tr on rp lt ru lg lp) ++ [(o, .inl (cJ, 1, .inr (.inl g)))]) (tyC cI cZ cJ) [.ref (ad 0), .int x1, .int x2, .ref o] (nI 3) := by
  intro A sz
  refine metWH (cc := cL_turn) (maxL := 5) (ret := some .int) (by decide) rfl ?_
  intro p e s m args below meth c s₁ B hml hv
  obtain ⟨rfl, rfl, hP, hK, hD, hXE, hTB⟩ := hv
  have hx := B.exec
  have hb := B.bytes
  have hr := B.returns
  have hts := atoms_spec (ws := wsL_turn) B.pre
  have hown : s.vm.findClass RL = some m.cls := findClass_of_methodNamed B.named
  have hlocks := B.notSynchronized
  have hS : va_S (fun q => A q ∨ s.heap.size ≤ q) s.heap s.heap [] := va_S.rf
  have hl := lv_entry ([.ref (ad 0), .int x1, .int x2, .ref o]) (n := 5) (Nat.le_of_ble_eq_true rfl)
  rw [lg_entry_eq]
  generalize (lg_sl ([.ref (ad 0), .int x1, .int x2, .ref o]) ++ List.replicate (5 - (lg_sl ([.ref (ad 0), .int x1, .int x2, .ref o])).length) Slot.unset).toArray = ls at hl ⊢
  have hl : lv_has ls 5 [(0, .ref (ad 0)), (1, .int x1), (2, .int x2), (3, .ref o)] := hl
  have hPc := hP.l (w1 := (wC ad cI cZ cJ n kd sd ts fs tr on rp lt ru lg lp))
  have hDc := hD.l (w1 := (wC ad cI cZ cJ n kd sd ts fs tr on rp lt ru lg lp))
  have htab : c.exceptionTable.toList = [⟨0, 10, 13, 13⟩, ⟨0, 10, 17, 20⟩, ⟨0, 10, 21, 15⟩] := vx_table (x := yL_turn) B (hts (.codeWith yL_turn cL_turn 5 (some .int) [(0, 10, 13, 13), (0, 10, 17, 20), (0, 10, 21, 15)]) List.mem_cons_self)
  refine lv_aload_n hx hb dL_turn_0 rfl (lv_at hl 3 rfl) ?_
  refine lv_iconst (v := nI 0) hx hb dL_turn_1 (by decide) ?_
  refine lv_aload_n hx hb dL_turn_2 rfl (lv_at hl 0 rfl) ?_
  refine lv_iload_n hx hb dL_turn_3 rfl (lv_at hl 1 rfl) ?_
  refine lv_iload_n hx hb dL_turn_4 rfl (lv_at hl 2 rfl) ?_
  refine bd_C (own := RL) (As := [.int x1, .int x2]) (rest := [.int (nI 0), .ref o]) (C := RX0) (ci := 0) (q0 := 0) (A0 := fun q => A q ∨ s.heap.size ≤ q) ⟨hx, hb, hml, hown, hts⟩ hM gL_turn_X0_turn rfl ⟨rfl, rfl⟩ 2 rfl (by decide +kernel) ⟨Nat.le_of_ble_eq_true rfl, Nat.le_of_ble_eq_true rfl⟩ hPc hK rfl rfl rfl hXE hS (fun q h => Or.inr h) hl.1 rfl (Nat.le_of_ble_eq_true rfl) dL_turn_5 ⟨Nat.le_of_ble_eq_true rfl, Nat.le_of_ble_eq_true rfl⟩ (fun q9 ce H locs hz1 hk1 hS hce hcv hcl => ?_)
  refine vx_catch (own := RL) (name := eIS) hown [⟨0, 10, 13, 13⟩, ⟨0, 10, 17, 20⟩] ⟨0, 10, 21, 15⟩ [] htab (fun z hz => (List.mem_cons.mp hz).elim (fun h => by subst h; exact Or.inr ⟨by decide, eIO, hts (.classLink RL 13 eIO) (by decide +kernel), hXE.2.2.2.2.2.2.2.2.1⟩) (fun hz => by rcases List.mem_singleton.mp hz with rfl; exact Or.inr ⟨by decide, eIA, hts (.classLink RL 20 eIA) (by decide +kernel), hXE.2.2.2.2.2.2.2.2.2⟩)) (by decide) (by decide) (hts (.classLink RL 15 eIS) (by decide +kernel)) (castIS hXE) hce hcv hcl ?_
  refine W.eq (g2 := F0 m 21 ls [.ref q9]) rfl ?_
  refine lv_astore (lv' := [(4, .ref q9), (0, .ref (ad 0)), (1, .int x1), (2, .int x2), (3, .ref o)]) hx hb dL_turn_21 hl (by decide) rfl (fun ls hl => ?_)
  refine lv_iconst (v := nI 3) hx hb dL_turn_23 (by decide) ?_
  refine W.widen (k := 1) (n := 6) (Nat.le_of_ble_eq_true rfl) (Nat.le_of_ble_eq_true rfl) ?_
  exact W.zret hx hb hr (vp_nar_int _) (fun t ht hW => ⟨⟨_, (), rfl, rfl, by subst ht; exact keptP hP hk1⟩, hS.F ht⟩) hS.2.2 dL_turn_24
def rm_L_join : Room := { frames := 8, cells := 1, slots := 6, locals := 132 }
set_option maxHeartbeats 4000000 in
set_option maxRecDepth 100000 in
theorem k_join_ok (l : Launch) (D : va_G) (ad : Nat → Nat) (cI cZ cJ : ClassId) (n : Nat) (kd : Nat → Nat) (sd : Nat → Bool) (ts : Nat → Int64) (fs : Nat → Int64) (tr : Nat → Nat) (on : Nat → Bool) (rp : Nat → Nat) (lt : Nat) (ru : Nat → Option Nat) (lg : Nat) (lp : Int64) (n' : Nat) (kd' : Nat → Nat) (sd' : Nat → Bool) (ts' : Nat → Int64) (fs' : Nat → Int64) (tr' : Nat → Nat) (on' : Nat → Bool) (rp' : Nat → Nat) (lt' : Nat) (ru' : Nat → Option Nat) (lg' : Nat) (lp' : Int64) (o : Nat) (g : Nat → Int64) (x1 x2 x3 : Int32) (f : Int32) (hM : MuIe l yX0_join wsX0_join rm_X0_join D vwCl (wC ad cI cZ cJ n kd sd ts fs tr on rp lt ru lg lp) (fun _ => (wC ad cI cZ cJ n' kd' sd' ts' fs' tr' on' rp' lt' ru' lg' lp')) (tyC cI cZ cJ) [.ref (ad 0), .int x1, .int x2, .int x3] f) : LW l yL_join wsL_join rm_L_join D ((wC ad cI cZ cJ n kd sd ts fs tr on rp lt ru lg lp) ++ [(o, .inl (cJ, 1, .inr (.inl g)))]) ((wC ad cI cZ cJ n' kd' sd' ts' fs' tr' on' rp' lt' ru' lg' lp') ++ [(o, .inl (cJ, 1, .inr (.inl (vp_updL g 0 f.toInt64))))]) (tyC cI cZ cJ) [.ref (ad 0), .int x1, .int x2, .int x3, .ref o] (nI 0) := by
  intro A sz
  refine metWH (cc := cL_join) (maxL := 6) (ret := some .int) (by decide) rfl ?_
  intro p e s m args below meth c s₁ B hml hv
  obtain ⟨rfl, rfl, hP, hK, hD, hXE, hTB⟩ := hv
  have hx := B.exec
  have hb := B.bytes
  have hr := B.returns
  have hts := atoms_spec (ws := wsL_join) B.pre
  have hown : s.vm.findClass RL = some m.cls := findClass_of_methodNamed B.named
  have hlocks := B.notSynchronized
  have hS : va_S (fun q => A q ∨ s.heap.size ≤ q) s.heap s.heap [] := va_S.rf
  have hl := lv_entry ([.ref (ad 0), .int x1, .int x2, .int x3, .ref o]) (n := 6) (Nat.le_of_ble_eq_true rfl)
  rw [lg_entry_eq]
  generalize (lg_sl ([.ref (ad 0), .int x1, .int x2, .int x3, .ref o]) ++ List.replicate (6 - (lg_sl ([.ref (ad 0), .int x1, .int x2, .int x3, .ref o])).length) Slot.unset).toArray = ls at hl ⊢
  have hl : lv_has ls 6 [(0, .ref (ad 0)), (1, .int x1), (2, .int x2), (3, .int x3), (4, .ref o)] := hl
  have hPc := hP.l (w1 := (wC ad cI cZ cJ n kd sd ts fs tr on rp lt ru lg lp))
  have hDc := hD.l (w1 := (wC ad cI cZ cJ n kd sd ts fs tr on rp lt ru lg lp))
  refine lv_aload hx hb dL_join_0 (lv_at hl 4 rfl) ?_
  refine lv_iconst (v := nI 0) hx hb dL_join_2 (by decide) ?_
  refine lv_aload_n hx hb dL_join_3 rfl (lv_at hl 0 rfl) ?_
  refine lv_iload_n hx hb dL_join_4 rfl (lv_at hl 1 rfl) ?_
  refine lv_iload_n hx hb dL_join_5 rfl (lv_at hl 2 rfl) ?_
  refine lv_iload_n hx hb dL_join_6 rfl (lv_at hl 3 rfl) ?_
  refine muI_Ve (own := RL) (As := [.int x1, .int x2, .int x3]) (rest := [.int (nI 0), .ref o]) (C := RX0) (ci := 0) (q0 := 0) (A1 := AW (wC ad cI cZ cJ n kd sd ts fs tr on rp lt ru lg lp)) (A0 := fun q => A q ∨ s.heap.size ≤ q) ⟨hx, hb, hml, hown, hts⟩ hM gL_join_X0_join rfl ⟨rfl, rfl⟩ 3 rfl (by decide +kernel) ⟨Nat.le_of_ble_eq_true rfl, Nat.le_of_ble_eq_true rfl⟩ hPc hK hDc.aw (hTB.narrow (fun q h => hDc.awA h)) (fun q h => Or.inl (hDc.awA h)) rfl rfl rfl hS hl.1 rfl (Nat.le_of_ble_eq_true rfl) dL_join_7 ⟨Nat.zero_le _, Nat.zero_le _⟩ (fun u H locs hP2 hz1 hk1 hS => ?_)
  have hPo := (hP.r (w1 := (wC ad cI cZ cJ n kd sd ts fs tr on rp lt ru lg lp))).off hk1 (fun q h1 h2 => hD.dis h2 h1)
  have hPj := hP2.app hPo
  have hDj : va_D (fun q => A q ∨ s.heap.size ≤ q) ((wC ad cI cZ cJ n' kd' sd' ts' fs' tr' on' rp' lt' ru' lg' lp') ++ [(o, .inl (cJ, 1, .inr (.inl g)))]) := sameD2 (hD.weaken (fun _ _ _ h => Or.inl h)) rfl
  refine lv_i2l (v := f.toInt64) hx hb dL_join_10 rfl ?_
  refine st_nl hx hb hK hPj hDj hS 9 2 rfl rfl (j := 0) (by decide) (by decide) dL_join_11 (fun H locs hP3 hD3 hS => ?_)
  replace hP3 : va_P D vwCl ((wC ad cI cZ cJ n' kd' sd' ts' fs' tr' on' rp' lt' ru' lg' lp') ++ [(o, .inl (cJ, 1, .inr (.inl (vp_updL g 0 f.toInt64))))]) H := by exact hP3
  refine lv_goto (tgt := 27) hx hb dL_join_12 (by decide) ?_
  refine lv_iconst (v := nI 0) hx hb dL_join_27 (by decide) ?_
  refine W.widen (k := 1) (n := 6) (Nat.le_of_ble_eq_true rfl) (Nat.le_of_ble_eq_true rfl) ?_
  exact W.zret hx hb hr (vp_nar_int _) (fun t ht hW => ⟨⟨_, (), rfl, rfl, by subst ht; exact hP3⟩, hS.F ht⟩) hS.2.2 dL_join_28
set_option maxHeartbeats 4000000 in
set_option maxRecDepth 100000 in
theorem k_join_b1 (l : Launch) (D : va_G) (ad : Nat → Nat) (cI cZ cJ : ClassId) (n : Nat) (kd : Nat → Nat) (sd : Nat → Bool) (ts : Nat → Int64) (fs : Nat → Int64) (tr : Nat → Nat) (on : Nat → Bool) (rp : Nat → Nat) (lt : Nat) (ru : Nat → Option Nat) (lg : Nat) (lp : Int64) (o : Nat) (g : Nat → Int64) (x1 x2 x3 : Int32) (hM : Bd l yX0_join wsX0_join rb_X0_join D vwCl (wC ad cI cZ cJ n kd sd ts fs tr on rp lt ru lg lp) (tyC cI cZ cJ) [.ref (ad 0), .int x1, .int x2, .int x3] eIO) : LW l yL_join wsL_join rm_L_join D ((wC ad cI cZ cJ n kd sd ts fs tr on rp lt ru lg lp) ++ [(o, .inl (cJ, 1, .inr (.inl g)))]) ((wC ad cI cZ cJ n kd sd ts fs tr on rp lt ru lg lp) ++ [(o, .inl (cJ, 1, .inr (.inl g)))]) (tyC cI cZ cJ) [.ref (ad 0), .int x1, .int x2, .int x3, .ref o] (nI 1) := by
  intro A sz
  refine metWH (cc := cL_join) (maxL := 6) (ret := some .int) (by decide) rfl ?_
  intro p e s m args below meth c s₁ B hml hv
  obtain ⟨rfl, rfl, hP, hK, hD, hXE, hTB⟩ := hv
  have hx := B.exec
  have hb := B.bytes
  have hr := B.returns
  have hts := atoms_spec (ws := wsL_join) B.pre
  have hown : s.vm.findClass RL = some m.cls := findClass_of_methodNamed B.named
  have hlocks := B.notSynchronized
  have hS : va_S (fun q => A q ∨ s.heap.size ≤ q) s.heap s.heap [] := va_S.rf
  have hl := lv_entry ([.ref (ad 0), .int x1, .int x2, .int x3, .ref o]) (n := 6) (Nat.le_of_ble_eq_true rfl)
  rw [lg_entry_eq]
  generalize (lg_sl ([.ref (ad 0), .int x1, .int x2, .int x3, .ref o]) ++ List.replicate (6 - (lg_sl ([.ref (ad 0), .int x1, .int x2, .int x3, .ref o])).length) Slot.unset).toArray = ls at hl ⊢
  have hl : lv_has ls 6 [(0, .ref (ad 0)), (1, .int x1), (2, .int x2), (3, .int x3), (4, .ref o)] := hl
  have hPc := hP.l (w1 := (wC ad cI cZ cJ n kd sd ts fs tr on rp lt ru lg lp))
  have hDc := hD.l (w1 := (wC ad cI cZ cJ n kd sd ts fs tr on rp lt ru lg lp))
  have htab : c.exceptionTable.toList = [⟨0, 12, 15, 13⟩, ⟨0, 12, 19, 20⟩, ⟨0, 12, 23, 15⟩] := vx_table (x := yL_join) B (hts (.codeWith yL_join cL_join 6 (some .int) [(0, 12, 15, 13), (0, 12, 19, 20), (0, 12, 23, 15)]) List.mem_cons_self)
  refine lv_aload hx hb dL_join_0 (lv_at hl 4 rfl) ?_
  refine lv_iconst (v := nI 0) hx hb dL_join_2 (by decide) ?_
  refine lv_aload_n hx hb dL_join_3 rfl (lv_at hl 0 rfl) ?_
  refine lv_iload_n hx hb dL_join_4 rfl (lv_at hl 1 rfl) ?_
  refine lv_iload_n hx hb dL_join_5 rfl (lv_at hl 2 rfl) ?_
  refine lv_iload_n hx hb dL_join_6 rfl (lv_at hl 3 rfl) ?_
  refine bd_C (own := RL) (As := [.int x1, .int x2, .int x3]) (rest := [.int (nI 0), .ref o]) (C := RX0) (ci := 0) (q0 := 0) (A0 := fun q => A q ∨ s.heap.size ≤ q) ⟨hx, hb, hml, hown, hts⟩ hM gL_join_X0_join rfl ⟨rfl, rfl⟩ 3 rfl (by decide +kernel) ⟨Nat.le_of_ble_eq_true rfl, Nat.le_of_ble_eq_true rfl⟩ hPc hK rfl rfl rfl hXE hS (fun q h => Or.inr h) hl.1 rfl (Nat.le_of_ble_eq_true rfl) dL_join_7 ⟨Nat.le_of_ble_eq_true rfl, Nat.le_of_ble_eq_true rfl⟩ (fun q9 ce H locs hz1 hk1 hS hce hcv hcl => ?_)
  refine vx_catch (own := RL) (name := eIO) hown [] ⟨0, 12, 15, 13⟩ [⟨0, 12, 19, 20⟩, ⟨0, 12, 23, 15⟩] htab (fun _ h => absurd h List.not_mem_nil) (by decide) (by decide) (hts (.classLink RL 13 eIO) (by decide +kernel)) (castIO hXE) hce hcv hcl ?_
  refine W.eq (g2 := F0 m 15 ls [.ref q9]) rfl ?_
  refine lv_astore (lv' := [(5, .ref q9), (0, .ref (ad 0)), (1, .int x1), (2, .int x2), (3, .int x3), (4, .ref o)]) hx hb dL_join_15 hl (by decide) rfl (fun ls hl => ?_)
  refine lv_iconst (v := nI 1) hx hb dL_join_17 (by decide) ?_
  refine W.widen (k := 1) (n := 6) (Nat.le_of_ble_eq_true rfl) (Nat.le_of_ble_eq_true rfl) ?_
  exact W.zret hx hb hr (vp_nar_int _) (fun t ht hW => ⟨⟨_, (), rfl, rfl, by subst ht; exact keptP hP hk1⟩, hS.F ht⟩) hS.2.2 dL_join_18
set_option maxHeartbeats 4000000 in
set_option maxRecDepth 100000 in
theorem k_join_b2 (l : Launch) (D : va_G) (ad : Nat → Nat) (cI cZ cJ : ClassId) (n : Nat) (kd : Nat → Nat) (sd : Nat → Bool) (ts : Nat → Int64) (fs : Nat → Int64) (tr : Nat → Nat) (on : Nat → Bool) (rp : Nat → Nat) (lt : Nat) (ru : Nat → Option Nat) (lg : Nat) (lp : Int64) (o : Nat) (g : Nat → Int64) (x1 x2 x3 : Int32) (hM : Bd l yX0_join wsX0_join rb_X0_join D vwCl (wC ad cI cZ cJ n kd sd ts fs tr on rp lt ru lg lp) (tyC cI cZ cJ) [.ref (ad 0), .int x1, .int x2, .int x3] eIA) : LW l yL_join wsL_join rm_L_join D ((wC ad cI cZ cJ n kd sd ts fs tr on rp lt ru lg lp) ++ [(o, .inl (cJ, 1, .inr (.inl g)))]) ((wC ad cI cZ cJ n kd sd ts fs tr on rp lt ru lg lp) ++ [(o, .inl (cJ, 1, .inr (.inl g)))]) (tyC cI cZ cJ) [.ref (ad 0), .int x1, .int x2, .int x3, .ref o] (nI 2) := by
  intro A sz
  refine metWH (cc := cL_join) (maxL := 6) (ret := some .int) (by decide) rfl ?_
  intro p e s m args below meth c s₁ B hml hv
  obtain ⟨rfl, rfl, hP, hK, hD, hXE, hTB⟩ := hv
  have hx := B.exec
  have hb := B.bytes
  have hr := B.returns
  have hts := atoms_spec (ws := wsL_join) B.pre
  have hown : s.vm.findClass RL = some m.cls := findClass_of_methodNamed B.named
  have hlocks := B.notSynchronized
  have hS : va_S (fun q => A q ∨ s.heap.size ≤ q) s.heap s.heap [] := va_S.rf
  have hl := lv_entry ([.ref (ad 0), .int x1, .int x2, .int x3, .ref o]) (n := 6) (Nat.le_of_ble_eq_true rfl)
  rw [lg_entry_eq]
  generalize (lg_sl ([.ref (ad 0), .int x1, .int x2, .int x3, .ref o]) ++ List.replicate (6 - (lg_sl ([.ref (ad 0), .int x1, .int x2, .int x3, .ref o])).length) Slot.unset).toArray = ls at hl ⊢
  have hl : lv_has ls 6 [(0, .ref (ad 0)), (1, .int x1), (2, .int x2), (3, .int x3), (4, .ref o)] := hl
  have hPc := hP.l (w1 := (wC ad cI cZ cJ n kd sd ts fs tr on rp lt ru lg lp))
  have hDc := hD.l (w1 := (wC ad cI cZ cJ n kd sd ts fs tr on rp lt ru lg lp))
  have htab : c.exceptionTable.toList = [⟨0, 12, 15, 13⟩, ⟨0, 12, 19, 20⟩, ⟨0, 12, 23, 15⟩] := vx_table (x := yL_join) B (hts (.codeWith yL_join cL_join 6 (some .int) [(0, 12, 15, 13), (0, 12, 19, 20), (0, 12, 23, 15)]) List.mem_cons_self)
  refine lv_aload hx hb dL_join_0 (lv_at hl 4 rfl) ?_
  refine lv_iconst (v := nI 0) hx hb dL_join_2 (by decide) ?_
  refine lv_aload_n hx hb dL_join_3 rfl (lv_at hl 0 rfl) ?_
  refine lv_iload_n hx hb dL_join_4 rfl (lv_at hl 1 rfl) ?_
  refine lv_iload_n hx hb dL_join_5 rfl (lv_at hl 2 rfl) ?_
  refine lv_iload_n hx hb dL_join_6 rfl (lv_at hl 3 rfl) ?_
  refine bd_C (own := RL) (As := [.int x1, .int x2, .int x3]) (rest := [.int (nI 0), .ref o]) (C := RX0) (ci := 0) (q0 := 0) (A0 := fun q => A q ∨ s.heap.size ≤ q) ⟨hx, hb, hml, hown, hts⟩ hM gL_join_X0_join rfl ⟨rfl, rfl⟩ 3 rfl (by decide +kernel) ⟨Nat.le_of_ble_eq_true rfl, Nat.le_of_ble_eq_true rfl⟩ hPc hK rfl rfl rfl hXE hS (fun q h => Or.inr h) hl.1 rfl (Nat.le_of_ble_eq_true rfl) dL_join_7 ⟨Nat.le_of_ble_eq_true rfl, Nat.le_of_ble_eq_true rfl⟩ (fun q9 ce H locs hz1 hk1 hS hce hcv hcl => ?_)
  refine vx_catch (own := RL) (name := eIA) hown [⟨0, 12, 15, 13⟩] ⟨0, 12, 19, 20⟩ [⟨0, 12, 23, 15⟩] htab (fun z hz => by rcases List.mem_singleton.mp hz with rfl; exact Or.inr ⟨by decide, eIO, hts (.classLink RL 13 eIO) (by decide +kernel), hXE.2.2.2.2.2.2.1⟩) (by decide) (by decide) (hts (.classLink RL 20 eIA) (by decide +kernel)) (castIA hXE) hce hcv hcl ?_
  refine W.eq (g2 := F0 m 19 ls [.ref q9]) rfl ?_
  refine lv_astore (lv' := [(5, .ref q9), (0, .ref (ad 0)), (1, .int x1), (2, .int x2), (3, .int x3), (4, .ref o)]) hx hb dL_join_19 hl (by decide) rfl (fun ls hl => ?_)
  refine lv_iconst (v := nI 2) hx hb dL_join_21 (by decide) ?_
  refine W.widen (k := 1) (n := 6) (Nat.le_of_ble_eq_true rfl) (Nat.le_of_ble_eq_true rfl) ?_
  exact W.zret hx hb hr (vp_nar_int _) (fun t ht hW => ⟨⟨_, (), rfl, rfl, by subst ht; exact keptP hP hk1⟩, hS.F ht⟩) hS.2.2 dL_join_22
set_option maxHeartbeats 4000000 in
set_option maxRecDepth 100000 in
theorem k_join_b3 (l : Launch) (D : va_G) (ad : Nat → Nat) (cI cZ cJ : ClassId) (n : Nat) (kd : Nat → Nat) (sd : Nat → Bool) (ts : Nat → Int64) (fs : Nat → Int64) (tr : Nat → Nat) (on : Nat → Bool) (rp : Nat → Nat) (lt : Nat) (ru : Nat → Option Nat) (lg : Nat) (lp : Int64) (o : Nat) (g : Nat → Int64) (x1 x2 x3 : Int32) (hM : Bd l yX0_join wsX0_join rb_X0_join D vwCl (wC ad cI cZ cJ n kd sd ts fs tr on rp lt ru lg lp) (tyC cI cZ cJ) [.ref (ad 0), .int x1, .int x2, .int x3] eIS) : LW l yL_join wsL_join rm_L_join D ((wC ad cI cZ cJ n kd sd ts fs tr on rp lt ru lg lp) ++ [(o, .inl (cJ, 1, .inr (.inl g)))]) ((wC ad cI cZ cJ n kd sd ts fs tr on rp lt ru lg lp) ++ [(o, .inl (cJ, 1, .inr (.inl g)))]) (tyC cI cZ cJ) [.ref (ad 0), .int x1, .int x2, .int x3, .ref o] (nI 3) := by
  intro A sz
  refine metWH (cc := cL_join) (maxL := 6) (ret := some .int) (by decide) rfl ?_
  intro p e s m args below meth c s₁ B hml hv
  obtain ⟨rfl, rfl, hP, hK, hD, hXE, hTB⟩ := hv
  have hx := B.exec
  have hb := B.bytes
  have hr := B.returns
  have hts := atoms_spec (ws := wsL_join) B.pre
  have hown : s.vm.findClass RL = some m.cls := findClass_of_methodNamed B.named
  have hlocks := B.notSynchronized
  have hS : va_S (fun q => A q ∨ s.heap.size ≤ q) s.heap s.heap [] := va_S.rf
  have hl := lv_entry ([.ref (ad 0), .int x1, .int x2, .int x3, .ref o]) (n := 6) (Nat.le_of_ble_eq_true rfl)
  rw [lg_entry_eq]
  generalize (lg_sl ([.ref (ad 0), .int x1, .int x2, .int x3, .ref o]) ++ List.replicate (6 - (lg_sl ([.ref (ad 0), .int x1, .int x2, .int x3, .ref o])).length) Slot.unset).toArray = ls at hl ⊢
  have hl : lv_has ls 6 [(0, .ref (ad 0)), (1, .int x1), (2, .int x2), (3, .int x3), (4, .ref o)] := hl
  have hPc := hP.l (w1 := (wC ad cI cZ cJ n kd sd ts fs tr on rp lt ru lg lp))
  have hDc := hD.l (w1 := (wC ad cI cZ cJ n kd sd ts fs tr on rp lt ru lg lp))
  have htab : c.exceptionTable.toList = [⟨0, 12, 15, 13⟩, ⟨0, 12, 19, 20⟩, ⟨0, 12, 23, 15⟩] := vx_table (x := yL_join) B (hts (.codeWith yL_join cL_join 6 (some .int) [(0, 12, 15, 13), (0, 12, 19, 20), (0, 12, 23, 15)]) List.mem_cons_self)
  refine lv_aload hx hb dL_join_0 (lv_at hl 4 rfl) ?_
  refine lv_iconst (v := nI 0) hx hb dL_join_2 (by decide) ?_
  refine lv_aload_n hx hb dL_join_3 rfl (lv_at hl 0 rfl) ?_
  refine lv_iload_n hx hb dL_join_4 rfl (lv_at hl 1 rfl) ?_
  refine lv_iload_n hx hb dL_join_5 rfl (lv_at hl 2 rfl) ?_
  refine lv_iload_n hx hb dL_join_6 rfl (lv_at hl 3 rfl) ?_
  refine bd_C (own := RL) (As := [.int x1, .int x2, .int x3]) (rest := [.int (nI 0), .ref o]) (C := RX0) (ci := 0) (q0 := 0) (A0 := fun q => A q ∨ s.heap.size ≤ q) ⟨hx, hb, hml, hown, hts⟩ hM gL_join_X0_join rfl ⟨rfl, rfl⟩ 3 rfl (by decide +kernel) ⟨Nat.le_of_ble_eq_true rfl, Nat.le_of_ble_eq_true rfl⟩ hPc hK rfl rfl rfl hXE hS (fun q h => Or.inr h) hl.1 rfl (Nat.le_of_ble_eq_true rfl) dL_join_7 ⟨Nat.le_of_ble_eq_true rfl, Nat.le_of_ble_eq_true rfl⟩ (fun q9 ce H locs hz1 hk1 hS hce hcv hcl => ?_)
  refine vx_catch (own := RL) (name := eIS) hown [⟨0, 12, 15, 13⟩, ⟨0, 12, 19, 20⟩] ⟨0, 12, 23, 15⟩ [] htab (fun z hz => (List.mem_cons.mp hz).elim (fun h => by subst h; exact Or.inr ⟨by decide, eIO, hts (.classLink RL 13 eIO) (by decide +kernel), hXE.2.2.2.2.2.2.2.2.1⟩) (fun hz => by rcases List.mem_singleton.mp hz with rfl; exact Or.inr ⟨by decide, eIA, hts (.classLink RL 20 eIA) (by decide +kernel), hXE.2.2.2.2.2.2.2.2.2⟩)) (by decide) (by decide) (hts (.classLink RL 15 eIS) (by decide +kernel)) (castIS hXE) hce hcv hcl ?_
  refine W.eq (g2 := F0 m 23 ls [.ref q9]) rfl ?_
  refine lv_astore (lv' := [(5, .ref q9), (0, .ref (ad 0)), (1, .int x1), (2, .int x2), (3, .int x3), (4, .ref o)]) hx hb dL_join_23 hl (by decide) rfl (fun ls hl => ?_)
  refine lv_iconst (v := nI 3) hx hb dL_join_25 (by decide) ?_
  refine W.widen (k := 1) (n := 6) (Nat.le_of_ble_eq_true rfl) (Nat.le_of_ble_eq_true rfl) ?_
  exact W.zret hx hb hr (vp_nar_int _) (fun t ht hW => ⟨⟨_, (), rfl, rfl, by subst ht; exact keptP hP hk1⟩, hS.F ht⟩) hS.2.2 dL_join_26
def rm_L_isSteady : Room := { frames := 8, cells := 1, slots := 6, locals := 124 }
set_option maxHeartbeats 4000000 in
set_option maxRecDepth 100000 in
theorem k_isSteady_ok (l : Launch) (D : va_G) (ad : Nat → Nat) (cI cZ cJ : ClassId) (n : Nat) (kd : Nat → Nat) (sd : Nat → Bool) (ts : Nat → Int64) (fs : Nat → Int64) (tr : Nat → Nat) (on : Nat → Bool) (rp : Nat → Nat) (lt : Nat) (ru : Nat → Option Nat) (lg : Nat) (lp : Int64) (n' : Nat) (kd' : Nat → Nat) (sd' : Nat → Bool) (ts' : Nat → Int64) (fs' : Nat → Int64) (tr' : Nat → Nat) (on' : Nat → Bool) (rp' : Nat → Nat) (lt' : Nat) (ru' : Nat → Option Nat) (lg' : Nat) (lp' : Int64) (o : Nat) (g : Nat → Int64) (x1 : Int32) (f : Int32) (hM : MuIe l yX0_isSteady wsX0_isSteady rm_X0_isSteady D vwCl (wC ad cI cZ cJ n kd sd ts fs tr on rp lt ru lg lp) (fun _ => (wC ad cI cZ cJ n' kd' sd' ts' fs' tr' on' rp' lt' ru' lg' lp')) (tyC cI cZ cJ) [.ref (ad 0), .int x1] f) : LW l yL_isSteady wsL_isSteady rm_L_isSteady D ((wC ad cI cZ cJ n kd sd ts fs tr on rp lt ru lg lp) ++ [(o, .inl (cJ, 1, .inr (.inl g)))]) ((wC ad cI cZ cJ n' kd' sd' ts' fs' tr' on' rp' lt' ru' lg' lp') ++ [(o, .inl (cJ, 1, .inr (.inl (vp_updL g 0 (if f = 0 then 0 else 1)))))]) (tyC cI cZ cJ) [.ref (ad 0), .int x1, .ref o] (nI 0) := by
  intro A sz
  refine metWH (cc := cL_isSteady) (maxL := 4) (ret := some .int) (by decide) rfl ?_
  intro p e s m args below meth c s₁ B hml hv
  obtain ⟨rfl, rfl, hP, hK, hD, hXE, hTB⟩ := hv
  have hx := B.exec
  have hb := B.bytes
  have hr := B.returns
  have hts := atoms_spec (ws := wsL_isSteady) B.pre
  have hown : s.vm.findClass RL = some m.cls := findClass_of_methodNamed B.named
  have hlocks := B.notSynchronized
  have hS : va_S (fun q => A q ∨ s.heap.size ≤ q) s.heap s.heap [] := va_S.rf
  have hl := lv_entry ([.ref (ad 0), .int x1, .ref o]) (n := 4) (Nat.le_of_ble_eq_true rfl)
  rw [lg_entry_eq]
  generalize (lg_sl ([.ref (ad 0), .int x1, .ref o]) ++ List.replicate (4 - (lg_sl ([.ref (ad 0), .int x1, .ref o])).length) Slot.unset).toArray = ls at hl ⊢
  have hl : lv_has ls 4 [(0, .ref (ad 0)), (1, .int x1), (2, .ref o)] := hl
  have hPc := hP.l (w1 := (wC ad cI cZ cJ n kd sd ts fs tr on rp lt ru lg lp))
  have hDc := hD.l (w1 := (wC ad cI cZ cJ n kd sd ts fs tr on rp lt ru lg lp))
  refine lv_aload_n hx hb dL_isSteady_0 rfl (lv_at hl 2 rfl) ?_
  refine lv_iconst (v := nI 0) hx hb dL_isSteady_1 (by decide) ?_
  refine lv_aload_n hx hb dL_isSteady_2 rfl (lv_at hl 0 rfl) ?_
  refine lv_iload_n hx hb dL_isSteady_3 rfl (lv_at hl 1 rfl) ?_
  refine muI_Ve (own := RL) (As := [.int x1]) (rest := [.int (nI 0), .ref o]) (C := RX0) (ci := 0) (q0 := 0) (A1 := AW (wC ad cI cZ cJ n kd sd ts fs tr on rp lt ru lg lp)) (A0 := fun q => A q ∨ s.heap.size ≤ q) ⟨hx, hb, hml, hown, hts⟩ hM gL_isSteady_X0_isSteady rfl ⟨rfl, rfl⟩ 1 rfl (by decide +kernel) ⟨Nat.le_of_ble_eq_true rfl, Nat.le_of_ble_eq_true rfl⟩ hPc hK hDc.aw (hTB.narrow (fun q h => hDc.awA h)) (fun q h => Or.inl (hDc.awA h)) rfl rfl rfl hS hl.1 rfl (Nat.le_of_ble_eq_true rfl) dL_isSteady_4 ⟨Nat.zero_le _, Nat.zero_le _⟩ (fun u H locs hP2 hz1 hk1 hS => ?_)
  have hPo := (hP.r (w1 := (wC ad cI cZ cJ n kd sd ts fs tr on rp lt ru lg lp))).off hk1 (fun q h1 h2 => hD.dis h2 h1)
  have hPj := hP2.app hPo
  have hDj : va_D (fun q => A q ∨ s.heap.size ≤ q) ((wC ad cI cZ cJ n' kd' sd' ts' fs' tr' on' rp' lt' ru' lg' lp') ++ [(o, .inl (cJ, 1, .inr (.inl g)))]) := sameD2 (hD.weaken (fun _ _ _ h => Or.inl h)) rfl
  refine lv_if_eq (tgt := 14) hx hb dL_isSteady_7 (by decide) (fun c_1 => ?_) (fun c_1 => ?_)
  · refine lv_lconst (v := 0) hx hb dL_isSteady_14 (by decide) ?_
    refine st_nl hx hb hK hPj hDj hS 9 2 rfl rfl (j := 0) (by decide) (by decide) dL_isSteady_15 (fun H locs hP3 hD3 hS => ?_)
    replace hP3 : va_P D vwCl ((wC ad cI cZ cJ n' kd' sd' ts' fs' tr' on' rp' lt' ru' lg' lp') ++ [(o, .inl (cJ, 1, .inr (.inl (vp_updL g 0 (if f = 0 then 0 else 1)))))]) H := by rw [if_pos c_1]; exact hP3
    refine lv_goto (tgt := 22) hx hb dL_isSteady_16 (by decide) ?_
    refine lv_iconst (v := nI 0) hx hb dL_isSteady_22 (by decide) ?_
    refine W.widen (k := 1) (n := 6) (Nat.le_of_ble_eq_true rfl) (Nat.le_of_ble_eq_true rfl) ?_
    exact W.zret hx hb hr (vp_nar_int _) (fun t ht hW => ⟨⟨_, (), rfl, rfl, by subst ht; exact hP3⟩, hS.F ht⟩) hS.2.2 dL_isSteady_23
  · refine lv_lconst (v := 1) hx hb dL_isSteady_10 (by decide) ?_
    refine lv_goto (tgt := 15) hx hb dL_isSteady_11 (by decide) ?_
    refine st_nl hx hb hK hPj hDj hS 9 2 rfl rfl (j := 0) (by decide) (by decide) dL_isSteady_15 (fun H locs hP3 hD3 hS => ?_)
    replace hP3 : va_P D vwCl ((wC ad cI cZ cJ n' kd' sd' ts' fs' tr' on' rp' lt' ru' lg' lp') ++ [(o, .inl (cJ, 1, .inr (.inl (vp_updL g 0 (if f = 0 then 0 else 1)))))]) H := by rw [if_neg c_1]; exact hP3
    refine lv_goto (tgt := 22) hx hb dL_isSteady_16 (by decide) ?_
    refine lv_iconst (v := nI 0) hx hb dL_isSteady_22 (by decide) ?_
    refine W.widen (k := 1) (n := 6) (Nat.le_of_ble_eq_true rfl) (Nat.le_of_ble_eq_true rfl) ?_
    exact W.zret hx hb hr (vp_nar_int _) (fun t ht hW => ⟨⟨_, (), rfl, rfl, by subst ht; exact hP3⟩, hS.F ht⟩) hS.2.2 dL_isSteady_23
set_option maxHeartbeats 4000000 in
set_option maxRecDepth 100000 in
theorem k_isSteady_b1 (l : Launch) (D : va_G) (ad : Nat → Nat) (cI cZ cJ : ClassId) (n : Nat) (kd : Nat → Nat) (sd : Nat → Bool) (ts : Nat → Int64) (fs : Nat → Int64) (tr : Nat → Nat) (on : Nat → Bool) (rp : Nat → Nat) (lt : Nat) (ru : Nat → Option Nat) (lg : Nat) (lp : Int64) (o : Nat) (g : Nat → Int64) (x1 : Int32) (hM : Bd l yX0_isSteady wsX0_isSteady rb_X0_isSteady D vwCl (wC ad cI cZ cJ n kd sd ts fs tr on rp lt ru lg lp) (tyC cI cZ cJ) [.ref (ad 0), .int x1] eIO) : LW l yL_isSteady wsL_isSteady rm_L_isSteady D ((wC ad cI cZ cJ n kd sd ts fs tr on rp lt ru lg lp) ++ [(o, .inl (cJ, 1, .inr (.inl g)))]) ((wC ad cI cZ cJ n kd sd ts fs tr on rp lt ru lg lp) ++ [(o, .inl (cJ, 1, .inr (.inl g)))]) (tyC cI cZ cJ) [.ref (ad 0), .int x1, .ref o] (nI 1) := by
  intro A sz
  refine metWH (cc := cL_isSteady) (maxL := 4) (ret := some .int) (by decide) rfl ?_
  intro p e s m args below meth c s₁ B hml hv
  obtain ⟨rfl, rfl, hP, hK, hD, hXE, hTB⟩ := hv
  have hx := B.exec
  have hb := B.bytes
  have hr := B.returns
  have hts := atoms_spec (ws := wsL_isSteady) B.pre
  have hown : s.vm.findClass RL = some m.cls := findClass_of_methodNamed B.named
  have hlocks := B.notSynchronized
  have hS : va_S (fun q => A q ∨ s.heap.size ≤ q) s.heap s.heap [] := va_S.rf
  have hl := lv_entry ([.ref (ad 0), .int x1, .ref o]) (n := 4) (Nat.le_of_ble_eq_true rfl)
  rw [lg_entry_eq]
  generalize (lg_sl ([.ref (ad 0), .int x1, .ref o]) ++ List.replicate (4 - (lg_sl ([.ref (ad 0), .int x1, .ref o])).length) Slot.unset).toArray = ls at hl ⊢
  have hl : lv_has ls 4 [(0, .ref (ad 0)), (1, .int x1), (2, .ref o)] := hl
  have hPc := hP.l (w1 := (wC ad cI cZ cJ n kd sd ts fs tr on rp lt ru lg lp))
  have hDc := hD.l (w1 := (wC ad cI cZ cJ n kd sd ts fs tr on rp lt ru lg lp))
  have htab : c.exceptionTable.toList = [⟨0, 16, 19, 13⟩] := vx_table (x := yL_isSteady) B (hts (.codeWith yL_isSteady cL_isSteady 4 (some .int) [(0, 16, 19, 13)]) List.mem_cons_self)
  refine lv_aload_n hx hb dL_isSteady_0 rfl (lv_at hl 2 rfl) ?_
  refine lv_iconst (v := nI 0) hx hb dL_isSteady_1 (by decide) ?_
  refine lv_aload_n hx hb dL_isSteady_2 rfl (lv_at hl 0 rfl) ?_
  refine lv_iload_n hx hb dL_isSteady_3 rfl (lv_at hl 1 rfl) ?_
  refine bd_C (own := RL) (As := [.int x1]) (rest := [.int (nI 0), .ref o]) (C := RX0) (ci := 0) (q0 := 0) (A0 := fun q => A q ∨ s.heap.size ≤ q) ⟨hx, hb, hml, hown, hts⟩ hM gL_isSteady_X0_isSteady rfl ⟨rfl, rfl⟩ 1 rfl (by decide +kernel) ⟨Nat.le_of_ble_eq_true rfl, Nat.le_of_ble_eq_true rfl⟩ hPc hK rfl rfl rfl hXE hS (fun q h => Or.inr h) hl.1 rfl (Nat.le_of_ble_eq_true rfl) dL_isSteady_4 ⟨Nat.le_of_ble_eq_true rfl, Nat.le_of_ble_eq_true rfl⟩ (fun q9 ce H locs hz1 hk1 hS hce hcv hcl => ?_)
  refine vx_catch (own := RL) (name := eIO) hown [] ⟨0, 16, 19, 13⟩ [] htab (fun _ h => absurd h List.not_mem_nil) (by decide) (by decide) (hts (.classLink RL 13 eIO) (by decide +kernel)) (castIO hXE) hce hcv hcl ?_
  refine W.eq (g2 := F0 m 19 ls [.ref q9]) rfl ?_
  refine lv_astore_n (lv' := [(3, .ref q9), (0, .ref (ad 0)), (1, .int x1), (2, .ref o)]) hx hb dL_isSteady_19 rfl hl (by decide) rfl (fun ls hl => ?_)
  refine lv_iconst (v := nI 1) hx hb dL_isSteady_20 (by decide) ?_
  refine W.widen (k := 1) (n := 6) (Nat.le_of_ble_eq_true rfl) (Nat.le_of_ble_eq_true rfl) ?_
  exact W.zret hx hb hr (vp_nar_int _) (fun t ht hW => ⟨⟨_, (), rfl, rfl, by subst ht; exact keptP hP hk1⟩, hS.F ht⟩) hS.2.2 dL_isSteady_21
def rm_L_report : Room := { frames := 8, cells := 1, slots := 6, locals := 127 }
set_option maxHeartbeats 4000000 in
set_option maxRecDepth 100000 in
theorem k_report_ok (l : Launch) (D : va_G) (ad : Nat → Nat) (cI cZ cJ : ClassId) (n : Nat) (kd : Nat → Nat) (sd : Nat → Bool) (ts : Nat → Int64) (fs : Nat → Int64) (tr : Nat → Nat) (on : Nat → Bool) (rp : Nat → Nat) (lt : Nat) (ru : Nat → Option Nat) (lg : Nat) (lp : Int64) (n' : Nat) (kd' : Nat → Nat) (sd' : Nat → Bool) (ts' : Nat → Int64) (fs' : Nat → Int64) (tr' : Nat → Nat) (on' : Nat → Bool) (rp' : Nat → Nat) (lt' : Nat) (ru' : Nat → Option Nat) (lg' : Nat) (lp' : Int64) (o : Nat) (g : Nat → Int64) (x1 x2 x3 : Int32) (f : Int32) (hM : MuIe l yX0_report wsX0_report rm_X0_report D vwCl (wC ad cI cZ cJ n kd sd ts fs tr on rp lt ru lg lp) (fun _ => (wC ad cI cZ cJ n' kd' sd' ts' fs' tr' on' rp' lt' ru' lg' lp')) (tyC cI cZ cJ) [.ref (ad 0), .int x1, .int x2, .int x3] f) : LW l yL_report wsL_report rm_L_report D ((wC ad cI cZ cJ n kd sd ts fs tr on rp lt ru lg lp) ++ [(o, .inl (cJ, 1, .inr (.inl g)))]) ((wC ad cI cZ cJ n' kd' sd' ts' fs' tr' on' rp' lt' ru' lg' lp') ++ [(o, .inl (cJ, 1, .inr (.inl (vp_updL g 0 f.toInt64))))]) (tyC cI cZ cJ) [.ref (ad 0), .int x1, .int x2, .int x3, .ref o] (nI 0) := by
  intro A sz
  refine metWH (cc := cL_report) (maxL := 6) (ret := some .int) (by decide) rfl ?_
  intro p e s m args below meth c s₁ B hml hv
  obtain ⟨rfl, rfl, hP, hK, hD, hXE, hTB⟩ := hv
  have hx := B.exec
  have hb := B.bytes
  have hr := B.returns
  have hts := atoms_spec (ws := wsL_report) B.pre
  have hown : s.vm.findClass RL = some m.cls := findClass_of_methodNamed B.named
  have hlocks := B.notSynchronized
  have hS : va_S (fun q => A q ∨ s.heap.size ≤ q) s.heap s.heap [] := va_S.rf
  have hl := lv_entry ([.ref (ad 0), .int x1, .int x2, .int x3, .ref o]) (n := 6) (Nat.le_of_ble_eq_true rfl)
  rw [lg_entry_eq]
  generalize (lg_sl ([.ref (ad 0), .int x1, .int x2, .int x3, .ref o]) ++ List.replicate (6 - (lg_sl ([.ref (ad 0), .int x1, .int x2, .int x3, .ref o])).length) Slot.unset).toArray = ls at hl ⊢
  have hl : lv_has ls 6 [(0, .ref (ad 0)), (1, .int x1), (2, .int x2), (3, .int x3), (4, .ref o)] := hl
  have hPc := hP.l (w1 := (wC ad cI cZ cJ n kd sd ts fs tr on rp lt ru lg lp))
  have hDc := hD.l (w1 := (wC ad cI cZ cJ n kd sd ts fs tr on rp lt ru lg lp))
  refine lv_aload hx hb dL_report_0 (lv_at hl 4 rfl) ?_
  refine lv_iconst (v := nI 0) hx hb dL_report_2 (by decide) ?_
  refine lv_aload_n hx hb dL_report_3 rfl (lv_at hl 0 rfl) ?_
  refine lv_iload_n hx hb dL_report_4 rfl (lv_at hl 1 rfl) ?_
  refine lv_iload_n hx hb dL_report_5 rfl (lv_at hl 2 rfl) ?_
  refine lv_iload_n hx hb dL_report_6 rfl (lv_at hl 3 rfl) ?_
  refine muI_Ve (own := RL) (As := [.int x1, .int x2, .int x3]) (rest := [.int (nI 0), .ref o]) (C := RX0) (ci := 0) (q0 := 0) (A1 := AW (wC ad cI cZ cJ n kd sd ts fs tr on rp lt ru lg lp)) (A0 := fun q => A q ∨ s.heap.size ≤ q) ⟨hx, hb, hml, hown, hts⟩ hM gL_report_X0_report rfl ⟨rfl, rfl⟩ 3 rfl (by decide +kernel) ⟨Nat.le_of_ble_eq_true rfl, Nat.le_of_ble_eq_true rfl⟩ hPc hK hDc.aw (hTB.narrow (fun q h => hDc.awA h)) (fun q h => Or.inl (hDc.awA h)) rfl rfl rfl hS hl.1 rfl (Nat.le_of_ble_eq_true rfl) dL_report_7 ⟨Nat.zero_le _, Nat.zero_le _⟩ (fun u H locs hP2 hz1 hk1 hS => ?_)
  have hPo := (hP.r (w1 := (wC ad cI cZ cJ n kd sd ts fs tr on rp lt ru lg lp))).off hk1 (fun q h1 h2 => hD.dis h2 h1)
  have hPj := hP2.app hPo
  have hDj : va_D (fun q => A q ∨ s.heap.size ≤ q) ((wC ad cI cZ cJ n' kd' sd' ts' fs' tr' on' rp' lt' ru' lg' lp') ++ [(o, .inl (cJ, 1, .inr (.inl g)))]) := sameD2 (hD.weaken (fun _ _ _ h => Or.inl h)) rfl
  refine lv_i2l (v := f.toInt64) hx hb dL_report_10 rfl ?_
  refine st_nl hx hb hK hPj hDj hS 9 2 rfl rfl (j := 0) (by decide) (by decide) dL_report_11 (fun H locs hP3 hD3 hS => ?_)
  replace hP3 : va_P D vwCl ((wC ad cI cZ cJ n' kd' sd' ts' fs' tr' on' rp' lt' ru' lg' lp') ++ [(o, .inl (cJ, 1, .inr (.inl (vp_updL g 0 f.toInt64))))]) H := by exact hP3
  refine lv_goto (tgt := 23) hx hb dL_report_12 (by decide) ?_
  refine lv_iconst (v := nI 0) hx hb dL_report_23 (by decide) ?_
  refine W.widen (k := 1) (n := 6) (Nat.le_of_ble_eq_true rfl) (Nat.le_of_ble_eq_true rfl) ?_
  exact W.zret hx hb hr (vp_nar_int _) (fun t ht hW => ⟨⟨_, (), rfl, rfl, by subst ht; exact hP3⟩, hS.F ht⟩) hS.2.2 dL_report_24
set_option maxHeartbeats 4000000 in
set_option maxRecDepth 100000 in
theorem k_report_b1 (l : Launch) (D : va_G) (ad : Nat → Nat) (cI cZ cJ : ClassId) (n : Nat) (kd : Nat → Nat) (sd : Nat → Bool) (ts : Nat → Int64) (fs : Nat → Int64) (tr : Nat → Nat) (on : Nat → Bool) (rp : Nat → Nat) (lt : Nat) (ru : Nat → Option Nat) (lg : Nat) (lp : Int64) (o : Nat) (g : Nat → Int64) (x1 x2 x3 : Int32) (hM : Bd l yX0_report wsX0_report rb_X0_report D vwCl (wC ad cI cZ cJ n kd sd ts fs tr on rp lt ru lg lp) (tyC cI cZ cJ) [.ref (ad 0), .int x1, .int x2, .int x3] eIO) : LW l yL_report wsL_report rm_L_report D ((wC ad cI cZ cJ n kd sd ts fs tr on rp lt ru lg lp) ++ [(o, .inl (cJ, 1, .inr (.inl g)))]) ((wC ad cI cZ cJ n kd sd ts fs tr on rp lt ru lg lp) ++ [(o, .inl (cJ, 1, .inr (.inl g)))]) (tyC cI cZ cJ) [.ref (ad 0), .int x1, .int x2, .int x3, .ref o] (nI 1) := by
  intro A sz
  refine metWH (cc := cL_report) (maxL := 6) (ret := some .int) (by decide) rfl ?_
  intro p e s m args below meth c s₁ B hml hv
  obtain ⟨rfl, rfl, hP, hK, hD, hXE, hTB⟩ := hv
  have hx := B.exec
  have hb := B.bytes
  have hr := B.returns
  have hts := atoms_spec (ws := wsL_report) B.pre
  have hown : s.vm.findClass RL = some m.cls := findClass_of_methodNamed B.named
  have hlocks := B.notSynchronized
  have hS : va_S (fun q => A q ∨ s.heap.size ≤ q) s.heap s.heap [] := va_S.rf
  have hl := lv_entry ([.ref (ad 0), .int x1, .int x2, .int x3, .ref o]) (n := 6) (Nat.le_of_ble_eq_true rfl)
  rw [lg_entry_eq]
  generalize (lg_sl ([.ref (ad 0), .int x1, .int x2, .int x3, .ref o]) ++ List.replicate (6 - (lg_sl ([.ref (ad 0), .int x1, .int x2, .int x3, .ref o])).length) Slot.unset).toArray = ls at hl ⊢
  have hl : lv_has ls 6 [(0, .ref (ad 0)), (1, .int x1), (2, .int x2), (3, .int x3), (4, .ref o)] := hl
  have hPc := hP.l (w1 := (wC ad cI cZ cJ n kd sd ts fs tr on rp lt ru lg lp))
  have hDc := hD.l (w1 := (wC ad cI cZ cJ n kd sd ts fs tr on rp lt ru lg lp))
  have htab : c.exceptionTable.toList = [⟨0, 12, 15, 13⟩, ⟨0, 12, 19, 20⟩] := vx_table (x := yL_report) B (hts (.codeWith yL_report cL_report 6 (some .int) [(0, 12, 15, 13), (0, 12, 19, 20)]) List.mem_cons_self)
  refine lv_aload hx hb dL_report_0 (lv_at hl 4 rfl) ?_
  refine lv_iconst (v := nI 0) hx hb dL_report_2 (by decide) ?_
  refine lv_aload_n hx hb dL_report_3 rfl (lv_at hl 0 rfl) ?_
  refine lv_iload_n hx hb dL_report_4 rfl (lv_at hl 1 rfl) ?_
  refine lv_iload_n hx hb dL_report_5 rfl (lv_at hl 2 rfl) ?_
  refine lv_iload_n hx hb dL_report_6 rfl (lv_at hl 3 rfl) ?_
  refine bd_C (own := RL) (As := [.int x1, .int x2, .int x3]) (rest := [.int (nI 0), .ref o]) (C := RX0) (ci := 0) (q0 := 0) (A0 := fun q => A q ∨ s.heap.size ≤ q) ⟨hx, hb, hml, hown, hts⟩ hM gL_report_X0_report rfl ⟨rfl, rfl⟩ 3 rfl (by decide +kernel) ⟨Nat.le_of_ble_eq_true rfl, Nat.le_of_ble_eq_true rfl⟩ hPc hK rfl rfl rfl hXE hS (fun q h => Or.inr h) hl.1 rfl (Nat.le_of_ble_eq_true rfl) dL_report_7 ⟨Nat.le_of_ble_eq_true rfl, Nat.le_of_ble_eq_true rfl⟩ (fun q9 ce H locs hz1 hk1 hS hce hcv hcl => ?_)
  refine vx_catch (own := RL) (name := eIO) hown [] ⟨0, 12, 15, 13⟩ [⟨0, 12, 19, 20⟩] htab (fun _ h => absurd h List.not_mem_nil) (by decide) (by decide) (hts (.classLink RL 13 eIO) (by decide +kernel)) (castIO hXE) hce hcv hcl ?_
  refine W.eq (g2 := F0 m 15 ls [.ref q9]) rfl ?_
  refine lv_astore (lv' := [(5, .ref q9), (0, .ref (ad 0)), (1, .int x1), (2, .int x2), (3, .int x3), (4, .ref o)]) hx hb dL_report_15 hl (by decide) rfl (fun ls hl => ?_)
  refine lv_iconst (v := nI 1) hx hb dL_report_17 (by decide) ?_
  refine W.widen (k := 1) (n := 6) (Nat.le_of_ble_eq_true rfl) (Nat.le_of_ble_eq_true rfl) ?_
  exact W.zret hx hb hr (vp_nar_int _) (fun t ht hW => ⟨⟨_, (), rfl, rfl, by subst ht; exact keptP hP hk1⟩, hS.F ht⟩) hS.2.2 dL_report_18
set_option maxHeartbeats 4000000 in
set_option maxRecDepth 100000 in
theorem k_report_b2 (l : Launch) (D : va_G) (ad : Nat → Nat) (cI cZ cJ : ClassId) (n : Nat) (kd : Nat → Nat) (sd : Nat → Bool) (ts : Nat → Int64) (fs : Nat → Int64) (tr : Nat → Nat) (on : Nat → Bool) (rp : Nat → Nat) (lt : Nat) (ru : Nat → Option Nat) (lg : Nat) (lp : Int64) (o : Nat) (g : Nat → Int64) (x1 x2 x3 : Int32) (hM : Bd l yX0_report wsX0_report rb_X0_report D vwCl (wC ad cI cZ cJ n kd sd ts fs tr on rp lt ru lg lp) (tyC cI cZ cJ) [.ref (ad 0), .int x1, .int x2, .int x3] eIA) : LW l yL_report wsL_report rm_L_report D ((wC ad cI cZ cJ n kd sd ts fs tr on rp lt ru lg lp) ++ [(o, .inl (cJ, 1, .inr (.inl g)))]) ((wC ad cI cZ cJ n kd sd ts fs tr on rp lt ru lg lp) ++ [(o, .inl (cJ, 1, .inr (.inl g)))]) (tyC cI cZ cJ) [.ref (ad 0), .int x1, .int x2, .int x3, .ref o] (nI 2) := by
  intro A sz
  refine metWH (cc := cL_report) (maxL := 6) (ret := some .int) (by decide) rfl ?_
  intro p e s m args below meth c s₁ B hml hv
  obtain ⟨rfl, rfl, hP, hK, hD, hXE, hTB⟩ := hv
  have hx := B.exec
  have hb := B.bytes
  have hr := B.returns
  have hts := atoms_spec (ws := wsL_report) B.pre
  have hown : s.vm.findClass RL = some m.cls := findClass_of_methodNamed B.named
  have hlocks := B.notSynchronized
  have hS : va_S (fun q => A q ∨ s.heap.size ≤ q) s.heap s.heap [] := va_S.rf
  have hl := lv_entry ([.ref (ad 0), .int x1, .int x2, .int x3, .ref o]) (n := 6) (Nat.le_of_ble_eq_true rfl)
  rw [lg_entry_eq]
  generalize (lg_sl ([.ref (ad 0), .int x1, .int x2, .int x3, .ref o]) ++ List.replicate (6 - (lg_sl ([.ref (ad 0), .int x1, .int x2, .int x3, .ref o])).length) Slot.unset).toArray = ls at hl ⊢
  have hl : lv_has ls 6 [(0, .ref (ad 0)), (1, .int x1), (2, .int x2), (3, .int x3), (4, .ref o)] := hl
  have hPc := hP.l (w1 := (wC ad cI cZ cJ n kd sd ts fs tr on rp lt ru lg lp))
  have hDc := hD.l (w1 := (wC ad cI cZ cJ n kd sd ts fs tr on rp lt ru lg lp))
  have htab : c.exceptionTable.toList = [⟨0, 12, 15, 13⟩, ⟨0, 12, 19, 20⟩] := vx_table (x := yL_report) B (hts (.codeWith yL_report cL_report 6 (some .int) [(0, 12, 15, 13), (0, 12, 19, 20)]) List.mem_cons_self)
  refine lv_aload hx hb dL_report_0 (lv_at hl 4 rfl) ?_
  refine lv_iconst (v := nI 0) hx hb dL_report_2 (by decide) ?_
  refine lv_aload_n hx hb dL_report_3 rfl (lv_at hl 0 rfl) ?_
  refine lv_iload_n hx hb dL_report_4 rfl (lv_at hl 1 rfl) ?_
  refine lv_iload_n hx hb dL_report_5 rfl (lv_at hl 2 rfl) ?_
  refine lv_iload_n hx hb dL_report_6 rfl (lv_at hl 3 rfl) ?_
  refine bd_C (own := RL) (As := [.int x1, .int x2, .int x3]) (rest := [.int (nI 0), .ref o]) (C := RX0) (ci := 0) (q0 := 0) (A0 := fun q => A q ∨ s.heap.size ≤ q) ⟨hx, hb, hml, hown, hts⟩ hM gL_report_X0_report rfl ⟨rfl, rfl⟩ 3 rfl (by decide +kernel) ⟨Nat.le_of_ble_eq_true rfl, Nat.le_of_ble_eq_true rfl⟩ hPc hK rfl rfl rfl hXE hS (fun q h => Or.inr h) hl.1 rfl (Nat.le_of_ble_eq_true rfl) dL_report_7 ⟨Nat.le_of_ble_eq_true rfl, Nat.le_of_ble_eq_true rfl⟩ (fun q9 ce H locs hz1 hk1 hS hce hcv hcl => ?_)
  refine vx_catch (own := RL) (name := eIA) hown [⟨0, 12, 15, 13⟩] ⟨0, 12, 19, 20⟩ [] htab (fun z hz => by rcases List.mem_singleton.mp hz with rfl; exact Or.inr ⟨by decide, eIO, hts (.classLink RL 13 eIO) (by decide +kernel), hXE.2.2.2.2.2.2.1⟩) (by decide) (by decide) (hts (.classLink RL 20 eIA) (by decide +kernel)) (castIA hXE) hce hcv hcl ?_
  refine W.eq (g2 := F0 m 19 ls [.ref q9]) rfl ?_
  refine lv_astore (lv' := [(5, .ref q9), (0, .ref (ad 0)), (1, .int x1), (2, .int x2), (3, .int x3), (4, .ref o)]) hx hb dL_report_19 hl (by decide) rfl (fun ls hl => ?_)
  refine lv_iconst (v := nI 2) hx hb dL_report_21 (by decide) ?_
  refine W.widen (k := 1) (n := 6) (Nat.le_of_ble_eq_true rfl) (Nat.le_of_ble_eq_true rfl) ?_
  exact W.zret hx hb hr (vp_nar_int _) (fun t ht hW => ⟨⟨_, (), rfl, rfl, by subst ht; exact keptP hP hk1⟩, hS.F ht⟩) hS.2.2 dL_report_22
def rm_L_setTrust : Room := { frames := 8, cells := 1, slots := 6, locals := 125 }
set_option maxHeartbeats 4000000 in
set_option maxRecDepth 100000 in
theorem k_setTrust_ok (l : Launch) (D : va_G) (ad : Nat → Nat) (cI cZ cJ : ClassId) (n : Nat) (kd : Nat → Nat) (sd : Nat → Bool) (ts : Nat → Int64) (fs : Nat → Int64) (tr : Nat → Nat) (on : Nat → Bool) (rp : Nat → Nat) (lt : Nat) (ru : Nat → Option Nat) (lg : Nat) (lp : Int64) (n' : Nat) (kd' : Nat → Nat) (sd' : Nat → Bool) (ts' : Nat → Int64) (fs' : Nat → Int64) (tr' : Nat → Nat) (on' : Nat → Bool) (rp' : Nat → Nat) (lt' : Nat) (ru' : Nat → Option Nat) (lg' : Nat) (lp' : Int64) (o : Nat) (g : Nat → Int64) (x1 x2 : Int32) (f : Int32) (hM : MuIe l yX0_setTrust wsX0_setTrust rm_X0_setTrust D vwCl (wC ad cI cZ cJ n kd sd ts fs tr on rp lt ru lg lp) (fun _ => (wC ad cI cZ cJ n' kd' sd' ts' fs' tr' on' rp' lt' ru' lg' lp')) (tyC cI cZ cJ) [.ref (ad 0), .int x1, .int x2] f) : LW l yL_setTrust wsL_setTrust rm_L_setTrust D ((wC ad cI cZ cJ n kd sd ts fs tr on rp lt ru lg lp) ++ [(o, .inl (cJ, 1, .inr (.inl g)))]) ((wC ad cI cZ cJ n' kd' sd' ts' fs' tr' on' rp' lt' ru' lg' lp') ++ [(o, .inl (cJ, 1, .inr (.inl (vp_updL g 0 f.toInt64))))]) (tyC cI cZ cJ) [.ref (ad 0), .int x1, .int x2, .ref o] (nI 0) := by
  intro A sz
  refine metWH (cc := cL_setTrust) (maxL := 5) (ret := some .int) (by decide) rfl ?_
  intro p e s m args below meth c s₁ B hml hv
  obtain ⟨rfl, rfl, hP, hK, hD, hXE, hTB⟩ := hv
  have hx := B.exec
  have hb := B.bytes
  have hr := B.returns
  have hts := atoms_spec (ws := wsL_setTrust) B.pre
  have hown : s.vm.findClass RL = some m.cls := findClass_of_methodNamed B.named
  have hlocks := B.notSynchronized
  have hS : va_S (fun q => A q ∨ s.heap.size ≤ q) s.heap s.heap [] := va_S.rf
  have hl := lv_entry ([.ref (ad 0), .int x1, .int x2, .ref o]) (n := 5) (Nat.le_of_ble_eq_true rfl)
  rw [lg_entry_eq]
  generalize (lg_sl ([.ref (ad 0), .int x1, .int x2, .ref o]) ++ List.replicate (5 - (lg_sl ([.ref (ad 0), .int x1, .int x2, .ref o])).length) Slot.unset).toArray = ls at hl ⊢
  have hl : lv_has ls 5 [(0, .ref (ad 0)), (1, .int x1), (2, .int x2), (3, .ref o)] := hl
  have hPc := hP.l (w1 := (wC ad cI cZ cJ n kd sd ts fs tr on rp lt ru lg lp))
  have hDc := hD.l (w1 := (wC ad cI cZ cJ n kd sd ts fs tr on rp lt ru lg lp))
  refine lv_aload_n hx hb dL_setTrust_0 rfl (lv_at hl 3 rfl) ?_
  refine lv_iconst (v := nI 0) hx hb dL_setTrust_1 (by decide) ?_
  refine lv_aload_n hx hb dL_setTrust_2 rfl (lv_at hl 0 rfl) ?_
  refine lv_iload_n hx hb dL_setTrust_3 rfl (lv_at hl 1 rfl) ?_
  refine lv_iload_n hx hb dL_setTrust_4 rfl (lv_at hl 2 rfl) ?_
  refine muI_Ve (own := RL) (As := [.int x1, .int x2]) (rest := [.int (nI 0), .ref o]) (C := RX0) (ci := 0) (q0 := 0) (A1 := AW (wC ad cI cZ cJ n kd sd ts fs tr on rp lt ru lg lp)) (A0 := fun q => A q ∨ s.heap.size ≤ q) ⟨hx, hb, hml, hown, hts⟩ hM gL_setTrust_X0_setTrust rfl ⟨rfl, rfl⟩ 2 rfl (by decide +kernel) ⟨Nat.le_of_ble_eq_true rfl, Nat.le_of_ble_eq_true rfl⟩ hPc hK hDc.aw (hTB.narrow (fun q h => hDc.awA h)) (fun q h => Or.inl (hDc.awA h)) rfl rfl rfl hS hl.1 rfl (Nat.le_of_ble_eq_true rfl) dL_setTrust_5 ⟨Nat.zero_le _, Nat.zero_le _⟩ (fun u H locs hP2 hz1 hk1 hS => ?_)
  have hPo := (hP.r (w1 := (wC ad cI cZ cJ n kd sd ts fs tr on rp lt ru lg lp))).off hk1 (fun q h1 h2 => hD.dis h2 h1)
  have hPj := hP2.app hPo
  have hDj : va_D (fun q => A q ∨ s.heap.size ≤ q) ((wC ad cI cZ cJ n' kd' sd' ts' fs' tr' on' rp' lt' ru' lg' lp') ++ [(o, .inl (cJ, 1, .inr (.inl g)))]) := sameD2 (hD.weaken (fun _ _ _ h => Or.inl h)) rfl
  refine lv_i2l (v := f.toInt64) hx hb dL_setTrust_8 rfl ?_
  refine st_nl hx hb hK hPj hDj hS 9 2 rfl rfl (j := 0) (by decide) (by decide) dL_setTrust_9 (fun H locs hP3 hD3 hS => ?_)
  replace hP3 : va_P D vwCl ((wC ad cI cZ cJ n' kd' sd' ts' fs' tr' on' rp' lt' ru' lg' lp') ++ [(o, .inl (cJ, 1, .inr (.inl (vp_updL g 0 f.toInt64))))]) H := by exact hP3
  refine lv_goto (tgt := 21) hx hb dL_setTrust_10 (by decide) ?_
  refine lv_iconst (v := nI 0) hx hb dL_setTrust_21 (by decide) ?_
  refine W.widen (k := 1) (n := 6) (Nat.le_of_ble_eq_true rfl) (Nat.le_of_ble_eq_true rfl) ?_
  exact W.zret hx hb hr (vp_nar_int _) (fun t ht hW => ⟨⟨_, (), rfl, rfl, by subst ht; exact hP3⟩, hS.F ht⟩) hS.2.2 dL_setTrust_22
set_option maxHeartbeats 4000000 in
set_option maxRecDepth 100000 in
theorem k_setTrust_b1 (l : Launch) (D : va_G) (ad : Nat → Nat) (cI cZ cJ : ClassId) (n : Nat) (kd : Nat → Nat) (sd : Nat → Bool) (ts : Nat → Int64) (fs : Nat → Int64) (tr : Nat → Nat) (on : Nat → Bool) (rp : Nat → Nat) (lt : Nat) (ru : Nat → Option Nat) (lg : Nat) (lp : Int64) (o : Nat) (g : Nat → Int64) (x1 x2 : Int32) (hM : Bd l yX0_setTrust wsX0_setTrust rb_X0_setTrust D vwCl (wC ad cI cZ cJ n kd sd ts fs tr on rp lt ru lg lp) (tyC cI cZ cJ) [.ref (ad 0), .int x1, .int x2] eIO) : LW l yL_setTrust wsL_setTrust rm_L_setTrust D ((wC ad cI cZ cJ n kd sd ts fs tr on rp lt ru lg lp) ++ [(o, .inl (cJ, 1, .inr (.inl g)))]) ((wC ad cI cZ cJ n kd sd ts fs tr on rp lt ru lg lp) ++ [(o, .inl (cJ, 1, .inr (.inl g)))]) (tyC cI cZ cJ) [.ref (ad 0), .int x1, .int x2, .ref o] (nI 1) := by
  intro A sz
  refine metWH (cc := cL_setTrust) (maxL := 5) (ret := some .int) (by decide) rfl ?_
  intro p e s m args below meth c s₁ B hml hv
  obtain ⟨rfl, rfl, hP, hK, hD, hXE, hTB⟩ := hv
  have hx := B.exec
  have hb := B.bytes
  have hr := B.returns
  have hts := atoms_spec (ws := wsL_setTrust) B.pre
  have hown : s.vm.findClass RL = some m.cls := findClass_of_methodNamed B.named
  have hlocks := B.notSynchronized
  have hS : va_S (fun q => A q ∨ s.heap.size ≤ q) s.heap s.heap [] := va_S.rf
  have hl := lv_entry ([.ref (ad 0), .int x1, .int x2, .ref o]) (n := 5) (Nat.le_of_ble_eq_true rfl)
  rw [lg_entry_eq]
  generalize (lg_sl ([.ref (ad 0), .int x1, .int x2, .ref o]) ++ List.replicate (5 - (lg_sl ([.ref (ad 0), .int x1, .int x2, .ref o])).length) Slot.unset).toArray = ls at hl ⊢
  have hl : lv_has ls 5 [(0, .ref (ad 0)), (1, .int x1), (2, .int x2), (3, .ref o)] := hl
  have hPc := hP.l (w1 := (wC ad cI cZ cJ n kd sd ts fs tr on rp lt ru lg lp))
  have hDc := hD.l (w1 := (wC ad cI cZ cJ n kd sd ts fs tr on rp lt ru lg lp))
  have htab : c.exceptionTable.toList = [⟨0, 10, 13, 13⟩, ⟨0, 10, 17, 20⟩] := vx_table (x := yL_setTrust) B (hts (.codeWith yL_setTrust cL_setTrust 5 (some .int) [(0, 10, 13, 13), (0, 10, 17, 20)]) List.mem_cons_self)
  refine lv_aload_n hx hb dL_setTrust_0 rfl (lv_at hl 3 rfl) ?_
  refine lv_iconst (v := nI 0) hx hb dL_setTrust_1 (by decide) ?_
  refine lv_aload_n hx hb dL_setTrust_2 rfl (lv_at hl 0 rfl) ?_
  refine lv_iload_n hx hb dL_setTrust_3 rfl (lv_at hl 1 rfl) ?_
  refine lv_iload_n hx hb dL_setTrust_4 rfl (lv_at hl 2 rfl) ?_
  refine bd_C (own := RL) (As := [.int x1, .int x2]) (rest := [.int (nI 0), .ref o]) (C := RX0) (ci := 0) (q0 := 0) (A0 := fun q => A q ∨ s.heap.size ≤ q) ⟨hx, hb, hml, hown, hts⟩ hM gL_setTrust_X0_setTrust rfl ⟨rfl, rfl⟩ 2 rfl (by decide +kernel) ⟨Nat.le_of_ble_eq_true rfl, Nat.le_of_ble_eq_true rfl⟩ hPc hK rfl rfl rfl hXE hS (fun q h => Or.inr h) hl.1 rfl (Nat.le_of_ble_eq_true rfl) dL_setTrust_5 ⟨Nat.le_of_ble_eq_true rfl, Nat.le_of_ble_eq_true rfl⟩ (fun q9 ce H locs hz1 hk1 hS hce hcv hcl => ?_)
  refine vx_catch (own := RL) (name := eIO) hown [] ⟨0, 10, 13, 13⟩ [⟨0, 10, 17, 20⟩] htab (fun _ h => absurd h List.not_mem_nil) (by decide) (by decide) (hts (.classLink RL 13 eIO) (by decide +kernel)) (castIO hXE) hce hcv hcl ?_
  refine W.eq (g2 := F0 m 13 ls [.ref q9]) rfl ?_
  refine lv_astore (lv' := [(4, .ref q9), (0, .ref (ad 0)), (1, .int x1), (2, .int x2), (3, .ref o)]) hx hb dL_setTrust_13 hl (by decide) rfl (fun ls hl => ?_)
  refine lv_iconst (v := nI 1) hx hb dL_setTrust_15 (by decide) ?_
  refine W.widen (k := 1) (n := 6) (Nat.le_of_ble_eq_true rfl) (Nat.le_of_ble_eq_true rfl) ?_
  exact W.zret hx hb hr (vp_nar_int _) (fun t ht hW => ⟨⟨_, (), rfl, rfl, by subst ht; exact keptP hP hk1⟩, hS.F ht⟩) hS.2.2 dL_setTrust_16
set_option maxHeartbeats 4000000 in
set_option maxRecDepth 100000 in
theorem k_setTrust_b2 (l : Launch) (D : va_G) (ad : Nat → Nat) (cI cZ cJ : ClassId) (n : Nat) (kd : Nat → Nat) (sd : Nat → Bool) (ts : Nat → Int64) (fs : Nat → Int64) (tr : Nat → Nat) (on : Nat → Bool) (rp : Nat → Nat) (lt : Nat) (ru : Nat → Option Nat) (lg : Nat) (lp : Int64) (o : Nat) (g : Nat → Int64) (x1 x2 : Int32) (hM : Bd l yX0_setTrust wsX0_setTrust rb_X0_setTrust D vwCl (wC ad cI cZ cJ n kd sd ts fs tr on rp lt ru lg lp) (tyC cI cZ cJ) [.ref (ad 0), .int x1, .int x2] eIA) : LW l yL_setTrust wsL_setTrust rm_L_setTrust D ((wC ad cI cZ cJ n kd sd ts fs tr on rp lt ru lg lp) ++ [(o, .inl (cJ, 1, .inr (.inl g)))]) ((wC ad cI cZ cJ n kd sd ts fs tr on rp lt ru lg lp) ++ [(o, .inl (cJ, 1, .inr (.inl g)))]) (tyC cI cZ cJ) [.ref (ad 0), .int x1, .int x2, .ref o] (nI 2) := by
  intro A sz
  refine metWH (cc := cL_setTrust) (maxL := 5) (ret := some .int) (by decide) rfl ?_
  intro p e s m args below meth c s₁ B hml hv
  obtain ⟨rfl, rfl, hP, hK, hD, hXE, hTB⟩ := hv
  have hx := B.exec
  have hb := B.bytes
  have hr := B.returns
  have hts := atoms_spec (ws := wsL_setTrust) B.pre
  have hown : s.vm.findClass RL = some m.cls := findClass_of_methodNamed B.named
  have hlocks := B.notSynchronized
  have hS : va_S (fun q => A q ∨ s.heap.size ≤ q) s.heap s.heap [] := va_S.rf
  have hl := lv_entry ([.ref (ad 0), .int x1, .int x2, .ref o]) (n := 5) (Nat.le_of_ble_eq_true rfl)
  rw [lg_entry_eq]
  generalize (lg_sl ([.ref (ad 0), .int x1, .int x2, .ref o]) ++ List.replicate (5 - (lg_sl ([.ref (ad 0), .int x1, .int x2, .ref o])).length) Slot.unset).toArray = ls at hl ⊢
  have hl : lv_has ls 5 [(0, .ref (ad 0)), (1, .int x1), (2, .int x2), (3, .ref o)] := hl
  have hPc := hP.l (w1 := (wC ad cI cZ cJ n kd sd ts fs tr on rp lt ru lg lp))
  have hDc := hD.l (w1 := (wC ad cI cZ cJ n kd sd ts fs tr on rp lt ru lg lp))
  have htab : c.exceptionTable.toList = [⟨0, 10, 13, 13⟩, ⟨0, 10, 17, 20⟩] := vx_table (x := yL_setTrust) B (hts (.codeWith yL_setTrust cL_setTrust 5 (some .int) [(0, 10, 13, 13), (0, 10, 17, 20)]) List.mem_cons_self)
  refine lv_aload_n hx hb dL_setTrust_0 rfl (lv_at hl 3 rfl) ?_
  refine lv_iconst (v := nI 0) hx hb dL_setTrust_1 (by decide) ?_
  refine lv_aload_n hx hb dL_setTrust_2 rfl (lv_at hl 0 rfl) ?_
  refine lv_iload_n hx hb dL_setTrust_3 rfl (lv_at hl 1 rfl) ?_
  refine lv_iload_n hx hb dL_setTrust_4 rfl (lv_at hl 2 rfl) ?_
  refine bd_C (own := RL) (As := [.int x1, .int x2]) (rest := [.int (nI 0), .ref o]) (C := RX0) (ci := 0) (q0 := 0) (A0 := fun q => A q ∨ s.heap.size ≤ q) ⟨hx, hb, hml, hown, hts⟩ hM gL_setTrust_X0_setTrust rfl ⟨rfl, rfl⟩ 2 rfl (by decide +kernel) ⟨Nat.le_of_ble_eq_true rfl, Nat.le_of_ble_eq_true rfl⟩ hPc hK rfl rfl rfl hXE hS (fun q h => Or.inr h) hl.1 rfl (Nat.le_of_ble_eq_true rfl) dL_setTrust_5 ⟨Nat.le_of_ble_eq_true rfl, Nat.le_of_ble_eq_true rfl⟩ (fun q9 ce H locs hz1 hk1 hS hce hcv hcl => ?_)
  refine vx_catch (own := RL) (name := eIA) hown [⟨0, 10, 13, 13⟩] ⟨0, 10, 17, 20⟩ [] htab (fun z hz => by rcases List.mem_singleton.mp hz with rfl; exact Or.inr ⟨by decide, eIO, hts (.classLink RL 13 eIO) (by decide +kernel), hXE.2.2.2.2.2.2.1⟩) (by decide) (by decide) (hts (.classLink RL 20 eIA) (by decide +kernel)) (castIA hXE) hce hcv hcl ?_
  refine W.eq (g2 := F0 m 17 ls [.ref q9]) rfl ?_
  refine lv_astore (lv' := [(4, .ref q9), (0, .ref (ad 0)), (1, .int x1), (2, .int x2), (3, .ref o)]) hx hb dL_setTrust_17 hl (by decide) rfl (fun ls hl => ?_)
  refine lv_iconst (v := nI 2) hx hb dL_setTrust_19 (by decide) ?_
  refine W.widen (k := 1) (n := 6) (Nat.le_of_ble_eq_true rfl) (Nat.le_of_ble_eq_true rfl) ?_
  exact W.zret hx hb hr (vp_nar_int _) (fun t ht hW => ⟨⟨_, (), rfl, rfl, by subst ht; exact keptP hP hk1⟩, hS.F ht⟩) hS.2.2 dL_setTrust_20
def rm_L_setLeastTrust : Room := { frames := 8, cells := 1, slots := 6, locals := 124 }
set_option maxHeartbeats 4000000 in
set_option maxRecDepth 100000 in
theorem k_setLeastTrust_ok (l : Launch) (D : va_G) (ad : Nat → Nat) (cI cZ cJ : ClassId) (n : Nat) (kd : Nat → Nat) (sd : Nat → Bool) (ts : Nat → Int64) (fs : Nat → Int64) (tr : Nat → Nat) (on : Nat → Bool) (rp : Nat → Nat) (lt : Nat) (ru : Nat → Option Nat) (lg : Nat) (lp : Int64) (n' : Nat) (kd' : Nat → Nat) (sd' : Nat → Bool) (ts' : Nat → Int64) (fs' : Nat → Int64) (tr' : Nat → Nat) (on' : Nat → Bool) (rp' : Nat → Nat) (lt' : Nat) (ru' : Nat → Option Nat) (lg' : Nat) (lp' : Int64) (o : Nat) (g : Nat → Int64) (x1 : Int32) (f : Int32) (hM : MuIe l yX0_setLeastTrust wsX0_setLeastTrust rm_X0_setLeastTrust D vwCl (wC ad cI cZ cJ n kd sd ts fs tr on rp lt ru lg lp) (fun _ => (wC ad cI cZ cJ n' kd' sd' ts' fs' tr' on' rp' lt' ru' lg' lp')) (tyC cI cZ cJ) [.ref (ad 0), .int x1] f) : LW l yL_setLeastTrust wsL_setLeastTrust rm_L_setLeastTrust D ((wC ad cI cZ cJ n kd sd ts fs tr on rp lt ru lg lp) ++ [(o, .inl (cJ, 1, .inr (.inl g)))]) ((wC ad cI cZ cJ n' kd' sd' ts' fs' tr' on' rp' lt' ru' lg' lp') ++ [(o, .inl (cJ, 1, .inr (.inl (vp_updL g 0 f.toInt64))))]) (tyC cI cZ cJ) [.ref (ad 0), .int x1, .ref o] (nI 0) := by
  intro A sz
  refine metWH (cc := cL_setLeastTrust) (maxL := 4) (ret := some .int) (by decide) rfl ?_
  intro p e s m args below meth c s₁ B hml hv
  obtain ⟨rfl, rfl, hP, hK, hD, hXE, hTB⟩ := hv
  have hx := B.exec
  have hb := B.bytes
  have hr := B.returns
  have hts := atoms_spec (ws := wsL_setLeastTrust) B.pre
  have hown : s.vm.findClass RL = some m.cls := findClass_of_methodNamed B.named
  have hlocks := B.notSynchronized
  have hS : va_S (fun q => A q ∨ s.heap.size ≤ q) s.heap s.heap [] := va_S.rf
  have hl := lv_entry ([.ref (ad 0), .int x1, .ref o]) (n := 4) (Nat.le_of_ble_eq_true rfl)
  rw [lg_entry_eq]
  generalize (lg_sl ([.ref (ad 0), .int x1, .ref o]) ++ List.replicate (4 - (lg_sl ([.ref (ad 0), .int x1, .ref o])).length) Slot.unset).toArray = ls at hl ⊢
  have hl : lv_has ls 4 [(0, .ref (ad 0)), (1, .int x1), (2, .ref o)] := hl
  have hPc := hP.l (w1 := (wC ad cI cZ cJ n kd sd ts fs tr on rp lt ru lg lp))
  have hDc := hD.l (w1 := (wC ad cI cZ cJ n kd sd ts fs tr on rp lt ru lg lp))
  refine lv_aload_n hx hb dL_setLeastTrust_0 rfl (lv_at hl 2 rfl) ?_
  refine lv_iconst (v := nI 0) hx hb dL_setLeastTrust_1 (by decide) ?_
  refine lv_aload_n hx hb dL_setLeastTrust_2 rfl (lv_at hl 0 rfl) ?_
  refine lv_iload_n hx hb dL_setLeastTrust_3 rfl (lv_at hl 1 rfl) ?_
  refine muI_Ve (own := RL) (As := [.int x1]) (rest := [.int (nI 0), .ref o]) (C := RX0) (ci := 0) (q0 := 0) (A1 := AW (wC ad cI cZ cJ n kd sd ts fs tr on rp lt ru lg lp)) (A0 := fun q => A q ∨ s.heap.size ≤ q) ⟨hx, hb, hml, hown, hts⟩ hM gL_setLeastTrust_X0_setLeastTrust rfl ⟨rfl, rfl⟩ 1 rfl (by decide +kernel) ⟨Nat.le_of_ble_eq_true rfl, Nat.le_of_ble_eq_true rfl⟩ hPc hK hDc.aw (hTB.narrow (fun q h => hDc.awA h)) (fun q h => Or.inl (hDc.awA h)) rfl rfl rfl hS hl.1 rfl (Nat.le_of_ble_eq_true rfl) dL_setLeastTrust_4 ⟨Nat.zero_le _, Nat.zero_le _⟩ (fun u H locs hP2 hz1 hk1 hS => ?_)
  have hPo := (hP.r (w1 := (wC ad cI cZ cJ n kd sd ts fs tr on rp lt ru lg lp))).off hk1 (fun q h1 h2 => hD.dis h2 h1)
  have hPj := hP2.app hPo
  have hDj : va_D (fun q => A q ∨ s.heap.size ≤ q) ((wC ad cI cZ cJ n' kd' sd' ts' fs' tr' on' rp' lt' ru' lg' lp') ++ [(o, .inl (cJ, 1, .inr (.inl g)))]) := sameD2 (hD.weaken (fun _ _ _ h => Or.inl h)) rfl
  refine lv_i2l (v := f.toInt64) hx hb dL_setLeastTrust_7 rfl ?_
  refine st_nl hx hb hK hPj hDj hS 9 2 rfl rfl (j := 0) (by decide) (by decide) dL_setLeastTrust_8 (fun H locs hP3 hD3 hS => ?_)
  replace hP3 : va_P D vwCl ((wC ad cI cZ cJ n' kd' sd' ts' fs' tr' on' rp' lt' ru' lg' lp') ++ [(o, .inl (cJ, 1, .inr (.inl (vp_updL g 0 f.toInt64))))]) H := by exact hP3
  refine lv_goto (tgt := 15) hx hb dL_setLeastTrust_9 (by decide) ?_
  refine lv_iconst (v := nI 0) hx hb dL_setLeastTrust_15 (by decide) ?_
  refine W.widen (k := 1) (n := 6) (Nat.le_of_ble_eq_true rfl) (Nat.le_of_ble_eq_true rfl) ?_
  exact W.zret hx hb hr (vp_nar_int _) (fun t ht hW => ⟨⟨_, (), rfl, rfl, by subst ht; exact hP3⟩, hS.F ht⟩) hS.2.2 dL_setLeastTrust_16
set_option maxHeartbeats 4000000 in
set_option maxRecDepth 100000 in
theorem k_setLeastTrust_b1 (l : Launch) (D : va_G) (ad : Nat → Nat) (cI cZ cJ : ClassId) (n : Nat) (kd : Nat → Nat) (sd : Nat → Bool) (ts : Nat → Int64) (fs : Nat → Int64) (tr : Nat → Nat) (on : Nat → Bool) (rp : Nat → Nat) (lt : Nat) (ru : Nat → Option Nat) (lg : Nat) (lp : Int64) (o : Nat) (g : Nat → Int64) (x1 : Int32) (hM : Bd l yX0_setLeastTrust wsX0_setLeastTrust rb_X0_setLeastTrust D vwCl (wC ad cI cZ cJ n kd sd ts fs tr on rp lt ru lg lp) (tyC cI cZ cJ) [.ref (ad 0), .int x1] eIA) : LW l yL_setLeastTrust wsL_setLeastTrust rm_L_setLeastTrust D ((wC ad cI cZ cJ n kd sd ts fs tr on rp lt ru lg lp) ++ [(o, .inl (cJ, 1, .inr (.inl g)))]) ((wC ad cI cZ cJ n kd sd ts fs tr on rp lt ru lg lp) ++ [(o, .inl (cJ, 1, .inr (.inl g)))]) (tyC cI cZ cJ) [.ref (ad 0), .int x1, .ref o] (nI 1) := by
  intro A sz
  refine metWH (cc := cL_setLeastTrust) (maxL := 4) (ret := some .int) (by decide) rfl ?_
  intro p e s m args below meth c s₁ B hml hv
  obtain ⟨rfl, rfl, hP, hK, hD, hXE, hTB⟩ := hv
  have hx := B.exec
  have hb := B.bytes
  have hr := B.returns
  have hts := atoms_spec (ws := wsL_setLeastTrust) B.pre
  have hown : s.vm.findClass RL = some m.cls := findClass_of_methodNamed B.named
  have hlocks := B.notSynchronized
  have hS : va_S (fun q => A q ∨ s.heap.size ≤ q) s.heap s.heap [] := va_S.rf
  have hl := lv_entry ([.ref (ad 0), .int x1, .ref o]) (n := 4) (Nat.le_of_ble_eq_true rfl)
  rw [lg_entry_eq]
  generalize (lg_sl ([.ref (ad 0), .int x1, .ref o]) ++ List.replicate (4 - (lg_sl ([.ref (ad 0), .int x1, .ref o])).length) Slot.unset).toArray = ls at hl ⊢
  have hl : lv_has ls 4 [(0, .ref (ad 0)), (1, .int x1), (2, .ref o)] := hl
  have hPc := hP.l (w1 := (wC ad cI cZ cJ n kd sd ts fs tr on rp lt ru lg lp))
  have hDc := hD.l (w1 := (wC ad cI cZ cJ n kd sd ts fs tr on rp lt ru lg lp))
  have htab : c.exceptionTable.toList = [⟨0, 9, 12, 20⟩] := vx_table (x := yL_setLeastTrust) B (hts (.codeWith yL_setLeastTrust cL_setLeastTrust 4 (some .int) [(0, 9, 12, 20)]) List.mem_cons_self)
  refine lv_aload_n hx hb dL_setLeastTrust_0 rfl (lv_at hl 2 rfl) ?_
  refine lv_iconst (v := nI 0) hx hb dL_setLeastTrust_1 (by decide) ?_
  refine lv_aload_n hx hb dL_setLeastTrust_2 rfl (lv_at hl 0 rfl) ?_
  refine lv_iload_n hx hb dL_setLeastTrust_3 rfl (lv_at hl 1 rfl) ?_
  refine bd_C (own := RL) (As := [.int x1]) (rest := [.int (nI 0), .ref o]) (C := RX0) (ci := 0) (q0 := 0) (A0 := fun q => A q ∨ s.heap.size ≤ q) ⟨hx, hb, hml, hown, hts⟩ hM gL_setLeastTrust_X0_setLeastTrust rfl ⟨rfl, rfl⟩ 1 rfl (by decide +kernel) ⟨Nat.le_of_ble_eq_true rfl, Nat.le_of_ble_eq_true rfl⟩ hPc hK rfl rfl rfl hXE hS (fun q h => Or.inr h) hl.1 rfl (Nat.le_of_ble_eq_true rfl) dL_setLeastTrust_4 ⟨Nat.le_of_ble_eq_true rfl, Nat.le_of_ble_eq_true rfl⟩ (fun q9 ce H locs hz1 hk1 hS hce hcv hcl => ?_)
  refine vx_catch (own := RL) (name := eIA) hown [] ⟨0, 9, 12, 20⟩ [] htab (fun _ h => absurd h List.not_mem_nil) (by decide) (by decide) (hts (.classLink RL 20 eIA) (by decide +kernel)) (castIA hXE) hce hcv hcl ?_
  refine W.eq (g2 := F0 m 12 ls [.ref q9]) rfl ?_
  refine lv_astore_n (lv' := [(3, .ref q9), (0, .ref (ad 0)), (1, .int x1), (2, .ref o)]) hx hb dL_setLeastTrust_12 rfl hl (by decide) rfl (fun ls hl => ?_)
  refine lv_iconst (v := nI 1) hx hb dL_setLeastTrust_13 (by decide) ?_
  refine W.widen (k := 1) (n := 6) (Nat.le_of_ble_eq_true rfl) (Nat.le_of_ble_eq_true rfl) ?_
  exact W.zret hx hb hr (vp_nar_int _) (fun t ht hW => ⟨⟨_, (), rfl, rfl, by subst ht; exact keptP hP hk1⟩, hS.F ht⟩) hS.2.2 dL_setLeastTrust_14
def rm_L_let : Room := { frames := 8, cells := 1, slots := 6, locals := 124 }
set_option maxHeartbeats 4000000 in
set_option maxRecDepth 100000 in
theorem k_let_ok (l : Launch) (D : va_G) (ad : Nat → Nat) (cI cZ cJ : ClassId) (n : Nat) (kd : Nat → Nat) (sd : Nat → Bool) (ts : Nat → Int64) (fs : Nat → Int64) (tr : Nat → Nat) (on : Nat → Bool) (rp : Nat → Nat) (lt : Nat) (ru : Nat → Option Nat) (lg : Nat) (lp : Int64) (n' : Nat) (kd' : Nat → Nat) (sd' : Nat → Bool) (ts' : Nat → Int64) (fs' : Nat → Int64) (tr' : Nat → Nat) (on' : Nat → Bool) (rp' : Nat → Nat) (lt' : Nat) (ru' : Nat → Option Nat) (lg' : Nat) (lp' : Int64) (o : Nat) (g : Nat → Int64) (x1 x2 : Int32) (f : Int32) (hM : MuIe l yX0_let wsX0_let rm_X0_let D vwCl (wC ad cI cZ cJ n kd sd ts fs tr on rp lt ru lg lp) (fun _ => (wC ad cI cZ cJ n' kd' sd' ts' fs' tr' on' rp' lt' ru' lg' lp')) (tyC cI cZ cJ) [.ref (ad 0), .int x1, .int x2] f) : LW l yL_let wsL_let rm_L_let D ((wC ad cI cZ cJ n kd sd ts fs tr on rp lt ru lg lp) ++ [(o, .inl (cJ, 1, .inr (.inl g)))]) ((wC ad cI cZ cJ n' kd' sd' ts' fs' tr' on' rp' lt' ru' lg' lp') ++ [(o, .inl (cJ, 1, .inr (.inl (vp_updL g 0 (if f = 0 then 0 else 1)))))]) (tyC cI cZ cJ) [.ref (ad 0), .int x1, .int x2, .ref o] (nI 0) := by
  intro A sz
  refine metWH (cc := cL_let) (maxL := 5) (ret := some .int) (by decide) rfl ?_
  intro p e s m args below meth c s₁ B hml hv
  obtain ⟨rfl, rfl, hP, hK, hD, hXE, hTB⟩ := hv
  have hx := B.exec
  have hb := B.bytes
  have hr := B.returns
  have hts := atoms_spec (ws := wsL_let) B.pre
  have hown : s.vm.findClass RL = some m.cls := findClass_of_methodNamed B.named
  have hlocks := B.notSynchronized
  have hS : va_S (fun q => A q ∨ s.heap.size ≤ q) s.heap s.heap [] := va_S.rf
  have hl := lv_entry ([.ref (ad 0), .int x1, .int x2, .ref o]) (n := 5) (Nat.le_of_ble_eq_true rfl)
  rw [lg_entry_eq]
  generalize (lg_sl ([.ref (ad 0), .int x1, .int x2, .ref o]) ++ List.replicate (5 - (lg_sl ([.ref (ad 0), .int x1, .int x2, .ref o])).length) Slot.unset).toArray = ls at hl ⊢
  have hl : lv_has ls 5 [(0, .ref (ad 0)), (1, .int x1), (2, .int x2), (3, .ref o)] := hl
  have hPc := hP.l (w1 := (wC ad cI cZ cJ n kd sd ts fs tr on rp lt ru lg lp))
  have hDc := hD.l (w1 := (wC ad cI cZ cJ n kd sd ts fs tr on rp lt ru lg lp))
  refine lv_aload_n hx hb dL_let_0 rfl (lv_at hl 3 rfl) ?_
  refine lv_iconst (v := nI 0) hx hb dL_let_1 (by decide) ?_
  refine lv_aload_n hx hb dL_let_2 rfl (lv_at hl 0 rfl) ?_
  refine lv_iload_n hx hb dL_let_3 rfl (lv_at hl 1 rfl) ?_
  refine lv_iload_n hx hb dL_let_4 rfl (lv_at hl 2 rfl) ?_
  refine muI_Ve (own := RL) (As := [.int x1, .int x2]) (rest := [.int (nI 0), .ref o]) (C := RX0) (ci := 0) (q0 := 0) (A1 := AW (wC ad cI cZ cJ n kd sd ts fs tr on rp lt ru lg lp)) (A0 := fun q => A q ∨ s.heap.size ≤ q) ⟨hx, hb, hml, hown, hts⟩ hM gL_let_X0_let rfl ⟨rfl, rfl⟩ 2 rfl (by decide +kernel) ⟨Nat.le_of_ble_eq_true rfl, Nat.le_of_ble_eq_true rfl⟩ hPc hK hDc.aw (hTB.narrow (fun q h => hDc.awA h)) (fun q h => Or.inl (hDc.awA h)) rfl rfl rfl hS hl.1 rfl (Nat.le_of_ble_eq_true rfl) dL_let_5 ⟨Nat.zero_le _, Nat.zero_le _⟩ (fun u H locs hP2 hz1 hk1 hS => ?_)
  have hPo := (hP.r (w1 := (wC ad cI cZ cJ n kd sd ts fs tr on rp lt ru lg lp))).off hk1 (fun q h1 h2 => hD.dis h2 h1)
  have hPj := hP2.app hPo
  have hDj : va_D (fun q => A q ∨ s.heap.size ≤ q) ((wC ad cI cZ cJ n' kd' sd' ts' fs' tr' on' rp' lt' ru' lg' lp') ++ [(o, .inl (cJ, 1, .inr (.inl g)))]) := sameD2 (hD.weaken (fun _ _ _ h => Or.inl h)) rfl
  refine lv_if_eq (tgt := 15) hx hb dL_let_8 (by decide) (fun c_1 => ?_) (fun c_1 => ?_)
  · refine lv_lconst (v := 0) hx hb dL_let_15 (by decide) ?_
    refine st_nl hx hb hK hPj hDj hS 9 2 rfl rfl (j := 0) (by decide) (by decide) dL_let_16 (fun H locs hP3 hD3 hS => ?_)
    replace hP3 : va_P D vwCl ((wC ad cI cZ cJ n' kd' sd' ts' fs' tr' on' rp' lt' ru' lg' lp') ++ [(o, .inl (cJ, 1, .inr (.inl (vp_updL g 0 (if f = 0 then 0 else 1)))))]) H := by rw [if_pos c_1]; exact hP3
    refine lv_goto (tgt := 24) hx hb dL_let_17 (by decide) ?_
    refine lv_iconst (v := nI 0) hx hb dL_let_24 (by decide) ?_
    refine W.widen (k := 1) (n := 6) (Nat.le_of_ble_eq_true rfl) (Nat.le_of_ble_eq_true rfl) ?_
    exact W.zret hx hb hr (vp_nar_int _) (fun t ht hW => ⟨⟨_, (), rfl, rfl, by subst ht; exact hP3⟩, hS.F ht⟩) hS.2.2 dL_let_25
  · refine lv_lconst (v := 1) hx hb dL_let_11 (by decide) ?_
    refine lv_goto (tgt := 16) hx hb dL_let_12 (by decide) ?_
    refine st_nl hx hb hK hPj hDj hS 9 2 rfl rfl (j := 0) (by decide) (by decide) dL_let_16 (fun H locs hP3 hD3 hS => ?_)
    replace hP3 : va_P D vwCl ((wC ad cI cZ cJ n' kd' sd' ts' fs' tr' on' rp' lt' ru' lg' lp') ++ [(o, .inl (cJ, 1, .inr (.inl (vp_updL g 0 (if f = 0 then 0 else 1)))))]) H := by rw [if_neg c_1]; exact hP3
    refine lv_goto (tgt := 24) hx hb dL_let_17 (by decide) ?_
    refine lv_iconst (v := nI 0) hx hb dL_let_24 (by decide) ?_
    refine W.widen (k := 1) (n := 6) (Nat.le_of_ble_eq_true rfl) (Nat.le_of_ble_eq_true rfl) ?_
    exact W.zret hx hb hr (vp_nar_int _) (fun t ht hW => ⟨⟨_, (), rfl, rfl, by subst ht; exact hP3⟩, hS.F ht⟩) hS.2.2 dL_let_25
set_option maxHeartbeats 4000000 in
set_option maxRecDepth 100000 in
theorem k_let_b1 (l : Launch) (D : va_G) (ad : Nat → Nat) (cI cZ cJ : ClassId) (n : Nat) (kd : Nat → Nat) (sd : Nat → Bool) (ts : Nat → Int64) (fs : Nat → Int64) (tr : Nat → Nat) (on : Nat → Bool) (rp : Nat → Nat) (lt : Nat) (ru : Nat → Option Nat) (lg : Nat) (lp : Int64) (o : Nat) (g : Nat → Int64) (x1 x2 : Int32) (hM : Bd l yX0_let wsX0_let rb_X0_let D vwCl (wC ad cI cZ cJ n kd sd ts fs tr on rp lt ru lg lp) (tyC cI cZ cJ) [.ref (ad 0), .int x1, .int x2] eIO) : LW l yL_let wsL_let rm_L_let D ((wC ad cI cZ cJ n kd sd ts fs tr on rp lt ru lg lp) ++ [(o, .inl (cJ, 1, .inr (.inl g)))]) ((wC ad cI cZ cJ n kd sd ts fs tr on rp lt ru lg lp) ++ [(o, .inl (cJ, 1, .inr (.inl g)))]) (tyC cI cZ cJ) [.ref (ad 0), .int x1, .int x2, .ref o] (nI 1) := by
  intro A sz
  refine metWH (cc := cL_let) (maxL := 5) (ret := some .int) (by decide) rfl ?_
  intro p e s m args below meth c s₁ B hml hv
  obtain ⟨rfl, rfl, hP, hK, hD, hXE, hTB⟩ := hv
  have hx := B.exec
  have hb := B.bytes
  have hr := B.returns
  have hts := atoms_spec (ws := wsL_let) B.pre
  have hown : s.vm.findClass RL = some m.cls := findClass_of_methodNamed B.named
  have hlocks := B.notSynchronized
  have hS : va_S (fun q => A q ∨ s.heap.size ≤ q) s.heap s.heap [] := va_S.rf
  have hl := lv_entry ([.ref (ad 0), .int x1, .int x2, .ref o]) (n := 5) (Nat.le_of_ble_eq_true rfl)
  rw [lg_entry_eq]
  generalize (lg_sl ([.ref (ad 0), .int x1, .int x2, .ref o]) ++ List.replicate (5 - (lg_sl ([.ref (ad 0), .int x1, .int x2, .ref o])).length) Slot.unset).toArray = ls at hl ⊢
  have hl : lv_has ls 5 [(0, .ref (ad 0)), (1, .int x1), (2, .int x2), (3, .ref o)] := hl
  have hPc := hP.l (w1 := (wC ad cI cZ cJ n kd sd ts fs tr on rp lt ru lg lp))
  have hDc := hD.l (w1 := (wC ad cI cZ cJ n kd sd ts fs tr on rp lt ru lg lp))
  have htab : c.exceptionTable.toList = [⟨0, 17, 20, 13⟩] := vx_table (x := yL_let) B (hts (.codeWith yL_let cL_let 5 (some .int) [(0, 17, 20, 13)]) List.mem_cons_self)
  refine lv_aload_n hx hb dL_let_0 rfl (lv_at hl 3 rfl) ?_
  refine lv_iconst (v := nI 0) hx hb dL_let_1 (by decide) ?_
  refine lv_aload_n hx hb dL_let_2 rfl (lv_at hl 0 rfl) ?_
  refine lv_iload_n hx hb dL_let_3 rfl (lv_at hl 1 rfl) ?_
  refine lv_iload_n hx hb dL_let_4 rfl (lv_at hl 2 rfl) ?_
  refine bd_C (own := RL) (As := [.int x1, .int x2]) (rest := [.int (nI 0), .ref o]) (C := RX0) (ci := 0) (q0 := 0) (A0 := fun q => A q ∨ s.heap.size ≤ q) ⟨hx, hb, hml, hown, hts⟩ hM gL_let_X0_let rfl ⟨rfl, rfl⟩ 2 rfl (by decide +kernel) ⟨Nat.le_of_ble_eq_true rfl, Nat.le_of_ble_eq_true rfl⟩ hPc hK rfl rfl rfl hXE hS (fun q h => Or.inr h) hl.1 rfl (Nat.le_of_ble_eq_true rfl) dL_let_5 ⟨Nat.le_of_ble_eq_true rfl, Nat.le_of_ble_eq_true rfl⟩ (fun q9 ce H locs hz1 hk1 hS hce hcv hcl => ?_)
  refine vx_catch (own := RL) (name := eIO) hown [] ⟨0, 17, 20, 13⟩ [] htab (fun _ h => absurd h List.not_mem_nil) (by decide) (by decide) (hts (.classLink RL 13 eIO) (by decide +kernel)) (castIO hXE) hce hcv hcl ?_
  refine W.eq (g2 := F0 m 20 ls [.ref q9]) rfl ?_
  refine lv_astore (lv' := [(4, .ref q9), (0, .ref (ad 0)), (1, .int x1), (2, .int x2), (3, .ref o)]) hx hb dL_let_20 hl (by decide) rfl (fun ls hl => ?_)
  refine lv_iconst (v := nI 1) hx hb dL_let_22 (by decide) ?_
  refine W.widen (k := 1) (n := 6) (Nat.le_of_ble_eq_true rfl) (Nat.le_of_ble_eq_true rfl) ?_
  exact W.zret hx hb hr (vp_nar_int _) (fun t ht hW => ⟨⟨_, (), rfl, rfl, by subst ht; exact keptP hP hk1⟩, hS.F ht⟩) hS.2.2 dL_let_23
