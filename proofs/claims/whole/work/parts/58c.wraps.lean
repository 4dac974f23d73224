def rm_L_setRule : Room := { frames := 8, cells := 1, slots := 6, locals := 126 }
set_option maxHeartbeats 4000000 in
set_option maxRecDepth 100000 in
theorem k_setRule_ok (l : Launch) (D : va_G) (ad : Nat → Nat) (cI cZ cJ : ClassId) (n : Nat) (kd : Nat → Nat) (sd : Nat → Bool) (ts : Nat → Int64) (fs : Nat → Int64) (tr : Nat → Nat) (on : Nat → Bool) (rp : Nat → Nat) (lt : Nat) (ru : Nat → Option Nat) (lg : Nat) (lp : Int64) (n' : Nat) (kd' : Nat → Nat) (sd' : Nat → Bool) (ts' : Nat → Int64) (fs' : Nat → Int64) (tr' : Nat → Nat) (on' : Nat → Bool) (rp' : Nat → Nat) (lt' : Nat) (ru' : Nat → Option Nat) (lg' : Nat) (lp' : Int64) (o : Nat) (g : Nat → Int64) (x1 x2 : Int32) (f : Int32) (hM : MuIe l yX0_setRule wsX0_setRule rm_X0_setRule D vwCl (wC ad cI cZ cJ n kd sd ts fs tr on rp lt ru lg lp) (fun _ => (wC ad cI cZ cJ n' kd' sd' ts' fs' tr' on' rp' lt' ru' lg' lp')) (tyC cI cZ cJ) [.ref (ad 0), .int x1, .int x2] f) : LW l yL_setRule wsL_setRule rm_L_setRule D ((wC ad cI cZ cJ n kd sd ts fs tr on rp lt ru lg lp) ++ [(o, .inl (cJ, 1, .inr (.inl g)))]) ((wC ad cI cZ cJ n' kd' sd' ts' fs' tr' on' rp' lt' ru' lg' lp') ++ [(o, .inl (cJ, 1, .inr (.inl (vp_updL g 0 f.toInt64))))]) (tyC cI cZ cJ) [.ref (ad 0), .int x1, .int x2, .ref o] (nI 0) := by
  intro A sz
  refine metWH (cc := cL_setRule) (maxL := 5) (ret := some .int) (by decide) rfl ?_
  intro p e s m args below meth c s₁ B hml hv
  obtain ⟨rfl, rfl, hP, hK, hD, hXE, hTB⟩ := hv
  have hx := B.exec
  have hb := B.bytes
  have hr := B.returns
  have hts := atoms_spec (ws := wsL_setRule) B.pre
  have hown : s.vm.findClass RL = some m.cls := findClass_of_methodNamed B.named
  have hlocks := B.notSynchronized
  have hS : va_S (fun q => A q ∨ s.heap.size ≤ q) s.heap s.heap [] := va_S.rf
  have hl := lv_entry ([.ref (ad 0), .int x1, .int x2, .ref o]) (n := 5) (Nat.le_of_ble_eq_true rfl)
  rw [lg_entry_eq]
  generalize (lg_sl ([.ref (ad 0), .int x1, .int x2, .ref o]) ++ List.replicate (5 - (lg_sl ([.ref (ad 0), .int x1, .int x2, .ref o])).length) Slot.unset).toArray = ls at hl ⊢
  have hl : lv_has ls 5 [(0, .ref (ad 0)), (1, .int x1), (2, .int x2), (3, .ref o)] := hl
  have hPc := hP.l (w1 := (wC ad cI cZ cJ n kd sd ts fs tr on rp lt ru lg lp))
  have hDc := hD.l (w1 := (wC ad cI cZ cJ n kd sd ts fs tr on rp lt ru lg lp))
  refine lv_aload_n hx hb dL_setRule_0 rfl (lv_at hl 3 rfl) ?_
  refine lv_iconst (v := nI 0) hx hb dL_setRule_1 (by decide) ?_
  refine lv_aload_n hx hb dL_setRule_2 rfl (lv_at hl 0 rfl) ?_
  refine lv_iload_n hx hb dL_setRule_3 rfl (lv_at hl 1 rfl) ?_
  refine lv_iload_n hx hb dL_setRule_4 rfl (lv_at hl 2 rfl) ?_
  refine muI_Ve (own := RL) (As := [.int x1, .int x2]) (rest := [.int (nI 0), .ref o]) (C := RX0) (ci := 0) (q0 := 0) (A1 := AW (wC ad cI cZ cJ n kd sd ts fs tr on rp lt ru lg lp)) (A0 := fun q => A q ∨ s.heap.size ≤ q) ⟨hx, hb, hml, hown, hts⟩ hM gL_setRule_X0_setRule rfl ⟨rfl, rfl⟩ 2 rfl (by decide +kernel) ⟨Nat.le_of_ble_eq_true rfl, Nat.le_of_ble_eq_true rfl⟩ hPc hK hDc.aw (hTB.narrow (fun q h => hDc.awA h)) (fun q h => Or.inl (hDc.awA h)) rfl rfl rfl hS hl.1 rfl (Nat.le_of_ble_eq_true rfl) dL_setRule_5 ⟨Nat.zero_le _, Nat.zero_le _⟩ (fun u H locs hP2 hz1 hk1 hS => ?_)
  have hPo := (hP.r (w1 := (wC ad cI cZ cJ n kd sd ts fs tr on rp lt ru lg lp))).off hk1 (fun q h1 h2 => hD.dis h2 h1)
  have hPj := hP2.app hPo
  have hDj : va_D (fun q => A q ∨ s.heap.size ≤ q) ((wC ad cI cZ cJ n' kd' sd' ts' fs' tr' on' rp' lt' ru' lg' lp') ++ [(o, .inl (cJ, 1, .inr (.inl g)))]) := sameD2 (hD.weaken (fun _ _ _ h => Or.inl h)) rfl
  refine lv_i2l (v := f.toInt64) hx hb dL_setRule_8 rfl ?_
  refine st_nl hx hb hK hPj hDj hS 9 2 rfl rfl (j := 0) (by decide) (by decide) dL_setRule_9 (fun H locs hP3 hD3 hS => ?_)
  replace hP3 : va_P D vwCl ((wC ad cI cZ cJ n' kd' sd' ts' fs' tr' on' rp' lt' ru' lg' lp') ++ [(o, .inl (cJ, 1, .inr (.inl (vp_updL g 0 f.toInt64))))]) H := by exact hP3
  refine lv_goto (tgt := 21) hx hb dL_setRule_10 (by decide) ?_
  refine lv_iconst (v := nI 0) hx hb dL_setRule_21 (by decide) ?_
  refine W.widen (k := 1) (n := 6) (Nat.le_of_ble_eq_true rfl) (Nat.le_of_ble_eq_true rfl) ?_
  exact W.zret hx hb hr (vp_nar_int _) (fun t ht hW => ⟨⟨_, (), rfl, rfl, by subst ht; exact hP3⟩, hS.F ht⟩) hS.2.2 dL_setRule_22
set_option maxHeartbeats 4000000 in
set_option maxRecDepth 100000 in
theorem k_setRule_b1 (l : Launch) (D : va_G) (ad : Nat → Nat) (cI cZ cJ : ClassId) (n : Nat) (kd : Nat → Nat) (sd : Nat → Bool) (ts : Nat → Int64) (fs : Nat → Int64) (tr : Nat → Nat) (on : Nat → Bool) (rp : Nat → Nat) (lt : Nat) (ru : Nat → Option Nat) (lg : Nat) (lp : Int64) (o : Nat) (g : Nat → Int64) (x1 x2 : Int32) (hM : Bd l yX0_setRule wsX0_setRule rb_X0_setRule D vwCl (wC ad cI cZ cJ n kd sd ts fs tr on rp lt ru lg lp) (tyC cI cZ cJ) [.ref (ad 0), .int x1, .int x2] eIO) : LW l yL_setRule wsL_setRule rm_L_setRule D ((wC ad cI cZ cJ n kd sd ts fs tr on rp lt ru lg lp) ++ [(o, .inl (cJ, 1, .inr (.inl g)))]) ((wC ad cI cZ cJ n kd sd ts fs tr on rp lt ru lg lp) ++ [(o, .inl (cJ, 1, .inr (.inl g)))]) (tyC cI cZ cJ) [.ref (ad 0), .int x1, .int x2, .ref o] (nI 1) := by
  intro A sz
  refine metWH (cc := cL_setRule) (maxL := 5) (ret := some .int) (by decide) rfl ?_
  intro p e s m args below meth c s₁ B hml hv
  obtain ⟨rfl, rfl, hP, hK, hD, hXE, hTB⟩ := hv
  have hx := B.exec
  have hb := B.bytes
  have hr := B.returns
  have hts := atoms_spec (ws := wsL_setRule) B.pre
  have hown : s.vm.findClass RL = some m.cls := findClass_of_methodNamed B.named
  have hlocks := B.notSynchronized
  have hS : va_S (fun q => A q ∨ s.heap.size ≤ q) s.heap s.heap [] := va_S.rf
  have hl := lv_entry ([.ref (ad 0), .int x1, .int x2, .ref o]) (n := 5) (Nat.le_of_ble_eq_true rfl)
  rw [lg_entry_eq]
  generalize (lg_sl ([.ref (ad 0), .int x1, .int x2, .ref o]) ++ List.replicate (5 - (lg_sl ([.ref (ad 0), .int x1, .int x2, .ref o])).length) Slot.unset).toArray = ls at hl ⊢
  have hl : lv_has ls 5 [(0, .ref (ad 0)), (1, .int x1), (2, .int x2), (3, .ref o)] := hl
  have hPc := hP.l (w1 := (wC ad cI cZ cJ n kd sd ts fs tr on rp lt ru lg lp))
  have hDc := hD.l (w1 := (wC ad cI cZ cJ n kd sd ts fs tr on rp lt ru lg lp))
  have htab : c.exceptionTable.toList = [⟨0, 10, 13, 13⟩, ⟨0, 10, 17, 20⟩] := vx_table (x := yL_setRule) B (hts (.codeWith yL_setRule cL_setRule 5 (some .int) [(0, 10, 13, 13), (0, 10, 17, 20)]) List.mem_cons_self)
  refine lv_aload_n hx hb dL_setRule_0 rfl (lv_at hl 3 rfl) ?_
  refine lv_iconst (v := nI 0) hx hb dL_setRule_1 (by decide) ?_
  refine lv_aload_n hx hb dL_setRule_2 rfl (lv_at hl 0 rfl) ?_
  refine lv_iload_n hx hb dL_setRule_3 rfl (lv_at hl 1 rfl) ?_
  refine lv_iload_n hx hb dL_setRule_4 rfl (lv_at hl 2 rfl) ?_
  refine bd_C (own := RL) (As := [.int x1, .int x2]) (rest := [.int (nI 0), .ref o]) (C := RX0) (ci := 0) (q0 := 0) (A0 := fun q => A q ∨ s.heap.size ≤ q) ⟨hx, hb, hml, hown, hts⟩ hM gL_setRule_X0_setRule rfl ⟨rfl, rfl⟩ 2 rfl (by decide +kernel) ⟨Nat.le_of_ble_eq_true rfl, Nat.le_of_ble_eq_true rfl⟩ hPc hK rfl rfl rfl hXE hS (fun q h => Or.inr h) hl.1 rfl (Nat.le_of_ble_eq_true rfl) dL_setRule_5 ⟨Nat.le_of_ble_eq_true rfl, Nat.le_of_ble_eq_true rfl⟩ (fun q9 ce H locs hz1 hk1 hS hce hcv hcl => ?_)
  refine vx_catch (own := RL) (name := eIO) hown [] ⟨0, 10, 13, 13⟩ [⟨0, 10, 17, 20⟩] htab (fun _ h => absurd h List.not_mem_nil) (by decide) (by decide) (hts (.classLink RL 13 eIO) (by decide +kernel)) (castIO hXE) hce hcv hcl ?_
  refine W.eq (g2 := F0 m 13 ls [.ref q9]) rfl ?_
  refine lv_astore (lv' := [(4, .ref q9), (0, .ref (ad 0)), (1, .int x1), (2, .int x2), (3, .ref o)]) hx hb dL_setRule_13 hl (by decide) rfl (fun ls hl => ?_)
  refine lv_iconst (v := nI 1) hx hb dL_setRule_15 (by decide) ?_
  refine W.widen (k := 1) (n := 6) (Nat.le_of_ble_eq_true rfl) (Nat.le_of_ble_eq_true rfl) ?_
  exact W.zret hx hb hr (vp_nar_int _) (fun t ht hW => ⟨⟨_, (), rfl, rfl, by subst ht; exact keptP hP hk1⟩, hS.F ht⟩) hS.2.2 dL_setRule_16
set_option maxHeartbeats 4000000 in
set_option maxRecDepth 100000 in
theorem k_setRule_b2 (l : Launch) (D : va_G) (ad : Nat → Nat) (cI cZ cJ : ClassId) (n : Nat) (kd : Nat → Nat) (sd : Nat → Bool) (ts : Nat → Int64) (fs : Nat → Int64) (tr : Nat → Nat) (on : Nat → Bool) (rp : Nat → Nat) (lt : Nat) (ru : Nat → Option Nat) (lg : Nat) (lp : Int64) (o : Nat) (g : Nat → Int64) (x1 x2 : Int32) (hM : Bd l yX0_setRule wsX0_setRule rb_X0_setRule D vwCl (wC ad cI cZ cJ n kd sd ts fs tr on rp lt ru lg lp) (tyC cI cZ cJ) [.ref (ad 0), .int x1, .int x2] eIA) : LW l yL_setRule wsL_setRule rm_L_setRule D ((wC ad cI cZ cJ n kd sd ts fs tr on rp lt ru lg lp) ++ [(o, .inl (cJ, 1, .inr (.inl g)))]) ((wC ad cI cZ cJ n kd sd ts fs tr on rp lt ru lg lp) ++ [(o, .inl (cJ, 1, .inr (.inl g)))]) (tyC cI cZ cJ) [.ref (ad 0), .int x1, .int x2, .ref o] (nI 2) := by
  intro A sz
  refine metWH (cc := cL_setRule) (maxL := 5) (ret := some .int) (by decide) rfl ?_
  intro p e s m args below meth c s₁ B hml hv
  obtain ⟨rfl, rfl, hP, hK, hD, hXE, hTB⟩ := hv
  have hx := B.exec
  have hb := B.bytes
  have hr := B.returns
  have hts := atoms_spec (ws := wsL_setRule) B.pre
  have hown : s.vm.findClass RL = some m.cls := findClass_of_methodNamed B.named
  have hlocks := B.notSynchronized
  have hS : va_S (fun q => A q ∨ s.heap.size ≤ q) s.heap s.heap [] := va_S.rf
  have hl := lv_entry ([.ref (ad 0), .int x1, .int x2, .ref o]) (n := 5) (Nat.le_of_ble_eq_true rfl)
  rw [lg_entry_eq]
  generalize (lg_sl ([.ref (ad 0), .int x1, .int x2, .ref o]) ++ List.replicate (5 - (lg_sl ([.ref (ad 0), .int x1, .int x2, .ref o])).length) Slot.unset).toArray = ls at hl ⊢
  have hl : lv_has ls 5 [(0, .ref (ad 0)), (1, .int x1), (2, .int x2), (3, .ref o)] := hl
  have hPc := hP.l (w1 := (wC ad cI cZ cJ n kd sd ts fs tr on rp lt ru lg lp))
  have hDc := hD.l (w1 := (wC ad cI cZ cJ n kd sd ts fs tr on rp lt ru lg lp))
  have htab : c.exceptionTable.toList = [⟨0, 10, 13, 13⟩, ⟨0, 10, 17, 20⟩] := vx_table (x := yL_setRule) B (hts (.codeWith yL_setRule cL_setRule 5 (some .int) [(0, 10, 13, 13), (0, 10, 17, 20)]) List.mem_cons_self)
  refine lv_aload_n hx hb dL_setRule_0 rfl (lv_at hl 3 rfl) ?_
  refine lv_iconst (v := nI 0) hx hb dL_setRule_1 (by decide) ?_
  refine lv_aload_n hx hb dL_setRule_2 rfl (lv_at hl 0 rfl) ?_
  refine lv_iload_n hx hb dL_setRule_3 rfl (lv_at hl 1 rfl) ?_
  refine lv_iload_n hx hb dL_setRule_4 rfl (lv_at hl 2 rfl) ?_
  refine bd_C (own := RL) (As := [.int x1, .int x2]) (rest := [.int (nI 0), .ref o]) (C := RX0) (ci := 0) (q0 := 0) (A0 := fun q => A q ∨ s.heap.size ≤ q) ⟨hx, hb, hml, hown, hts⟩ hM gL_setRule_X0_setRule rfl ⟨rfl, rfl⟩ 2 rfl (by decide +kernel) ⟨Nat.le_of_ble_eq_true rfl, Nat.le_of_ble_eq_true rfl⟩ hPc hK rfl rfl rfl hXE hS (fun q h => Or.inr h) hl.1 rfl (Nat.le_of_ble_eq_true rfl) dL_setRule_5 ⟨Nat.le_of_ble_eq_true rfl, Nat.le_of_ble_eq_true rfl⟩ (fun q9 ce H locs hz1 hk1 hS hce hcv hcl => ?_)
  refine vx_catch (own := RL) (name := eIA) hown [⟨0, 10, 13, 13⟩] ⟨0, 10, 17, 20⟩ [] htab (fun z hz => by rcases List.mem_singleton.mp hz with rfl; exact Or.inr ⟨by decide, eIO, hts (.classLink RL 13 eIO) (by decide +kernel), hXE.2.2.2.2.2.2.1⟩) (by decide) (by decide) (hts (.classLink RL 20 eIA) (by decide +kernel)) (castIA hXE) hce hcv hcl ?_
  refine W.eq (g2 := F0 m 17 ls [.ref q9]) rfl ?_
  refine lv_astore (lv' := [(4, .ref q9), (0, .ref (ad 0)), (1, .int x1), (2, .int x2), (3, .ref o)]) hx hb dL_setRule_17 hl (by decide) rfl (fun ls hl => ?_)
  refine lv_iconst (v := nI 2) hx hb dL_setRule_19 (by decide) ?_
  refine W.widen (k := 1) (n := 6) (Nat.le_of_ble_eq_true rfl) (Nat.le_of_ble_eq_true rfl) ?_
  exact W.zret hx hb hr (vp_nar_int _) (fun t ht hW => ⟨⟨_, (), rfl, rfl, by subst ht; exact keptP hP hk1⟩, hS.F ht⟩) hS.2.2 dL_setRule_20
def rm_L_given : Room := { frames := 8, cells := 1, slots := 6, locals := 123 }
set_option maxHeartbeats 4000000 in
set_option maxRecDepth 100000 in
theorem k_given_ok (l : Launch) (D : va_G) (ad : Nat → Nat) (cI cZ cJ : ClassId) (n : Nat) (kd : Nat → Nat) (sd : Nat → Bool) (ts : Nat → Int64) (fs : Nat → Int64) (tr : Nat → Nat) (on : Nat → Bool) (rp : Nat → Nat) (lt : Nat) (ru : Nat → Option Nat) (lg : Nat) (lp : Int64) (n' : Nat) (kd' : Nat → Nat) (sd' : Nat → Bool) (ts' : Nat → Int64) (fs' : Nat → Int64) (tr' : Nat → Nat) (on' : Nat → Bool) (rp' : Nat → Nat) (lt' : Nat) (ru' : Nat → Option Nat) (lg' : Nat) (lp' : Int64) (o : Nat) (g : Nat → Int64) (x1 : Int32) (f : Int32) (hM : MuIe l yX0_given wsX0_given rm_X0_given D vwCl (wC ad cI cZ cJ n kd sd ts fs tr on rp lt ru lg lp) (fun _ => (wC ad cI cZ cJ n' kd' sd' ts' fs' tr' on' rp' lt' ru' lg' lp')) (tyC cI cZ cJ) [.ref (ad 0), .int x1] f) : LW l yL_given wsL_given rm_L_given D ((wC ad cI cZ cJ n kd sd ts fs tr on rp lt ru lg lp) ++ [(o, .inl (cJ, 1, .inr (.inl g)))]) ((wC ad cI cZ cJ n' kd' sd' ts' fs' tr' on' rp' lt' ru' lg' lp') ++ [(o, .inl (cJ, 1, .inr (.inl (vp_updL g 0 f.toInt64))))]) (tyC cI cZ cJ) [.ref (ad 0), .int x1, .ref o] (nI 0) := by
  intro A sz
  refine metWH (cc := cL_given) (maxL := 4) (ret := some .int) (by decide) rfl ?_
  intro p e s m args below meth c s₁ B hml hv
  obtain ⟨rfl, rfl, hP, hK, hD, hXE, hTB⟩ := hv
  have hx := B.exec
  have hb := B.bytes
  have hr := B.returns
  have hts := atoms_spec (ws := wsL_given) B.pre
  have hown : s.vm.findClass RL = some m.cls := findClass_of_methodNamed B.named
  have hlocks := B.notSynchronized
  have hS : va_S (fun q => A q ∨ s.heap.size ≤ q) s.heap s.heap [] := va_S.rf
  have hl := lv_entry ([.ref (ad 0), .int x1, .ref o]) (n := 4) (Nat.le_of_ble_eq_true rfl)
  rw [lg_entry_eq]
  generalize (lg_sl ([.ref (ad 0), .int x1, .ref o]) ++ List.replicate (4 - (lg_sl ([.ref (ad 0), .int x1, .ref o])).length) Slot.unset).toArray = ls at hl ⊢
  have hl : lv_has ls 4 [(0, .ref (ad 0)), (1, .int x1), (2, .ref o)] := hl
  have hPc := hP.l (w1 := (wC ad cI cZ cJ n kd sd ts fs tr on rp lt ru lg lp))
  have hDc := hD.l (w1 := (wC ad cI cZ cJ n kd sd ts fs tr on rp lt ru lg lp))
  refine lv_aload_n hx hb dL_given_0 rfl (lv_at hl 2 rfl) ?_
  refine lv_iconst (v := nI 0) hx hb dL_given_1 (by decide) ?_
  refine lv_aload_n hx hb dL_given_2 rfl (lv_at hl 0 rfl) ?_
  refine lv_iload_n hx hb dL_given_3 rfl (lv_at hl 1 rfl) ?_
  refine muI_Ve (own := RL) (As := [.int x1]) (rest := [.int (nI 0), .ref o]) (C := RX0) (ci := 0) (q0 := 0) (A1 := AW (wC ad cI cZ cJ n kd sd ts fs tr on rp lt ru lg lp)) (A0 := fun q => A q ∨ s.heap.size ≤ q) ⟨hx, hb, hml, hown, hts⟩ hM gL_given_X0_given rfl ⟨rfl, rfl⟩ 1 rfl (by decide +kernel) ⟨Nat.le_of_ble_eq_true rfl, Nat.le_of_ble_eq_true rfl⟩ hPc hK hDc.aw (hTB.narrow (fun q h => hDc.awA h)) (fun q h => Or.inl (hDc.awA h)) rfl rfl rfl hS hl.1 rfl (Nat.le_of_ble_eq_true rfl) dL_given_4 ⟨Nat.zero_le _, Nat.zero_le _⟩ (fun u H locs hP2 hz1 hk1 hS => ?_)
  have hPo := (hP.r (w1 := (wC ad cI cZ cJ n kd sd ts fs tr on rp lt ru lg lp))).off hk1 (fun q h1 h2 => hD.dis h2 h1)
  have hPj := hP2.app hPo
  have hDj : va_D (fun q => A q ∨ s.heap.size ≤ q) ((wC ad cI cZ cJ n' kd' sd' ts' fs' tr' on' rp' lt' ru' lg' lp') ++ [(o, .inl (cJ, 1, .inr (.inl g)))]) := sameD2 (hD.weaken (fun _ _ _ h => Or.inl h)) rfl
  refine lv_i2l (v := f.toInt64) hx hb dL_given_7 rfl ?_
  refine st_nl hx hb hK hPj hDj hS 9 2 rfl rfl (j := 0) (by decide) (by decide) dL_given_8 (fun H locs hP3 hD3 hS => ?_)
  replace hP3 : va_P D vwCl ((wC ad cI cZ cJ n' kd' sd' ts' fs' tr' on' rp' lt' ru' lg' lp') ++ [(o, .inl (cJ, 1, .inr (.inl (vp_updL g 0 f.toInt64))))]) H := by exact hP3
  refine lv_goto (tgt := 15) hx hb dL_given_9 (by decide) ?_
  refine lv_iconst (v := nI 0) hx hb dL_given_15 (by decide) ?_
  refine W.widen (k := 1) (n := 6) (Nat.le_of_ble_eq_true rfl) (Nat.le_of_ble_eq_true rfl) ?_
  exact W.zret hx hb hr (vp_nar_int _) (fun t ht hW => ⟨⟨_, (), rfl, rfl, by subst ht; exact hP3⟩, hS.F ht⟩) hS.2.2 dL_given_16
set_option maxHeartbeats 4000000 in
set_option maxRecDepth 100000 in
theorem k_given_b1 (l : Launch) (D : va_G) (ad : Nat → Nat) (cI cZ cJ : ClassId) (n : Nat) (kd : Nat → Nat) (sd : Nat → Bool) (ts : Nat → Int64) (fs : Nat → Int64) (tr : Nat → Nat) (on : Nat → Bool) (rp : Nat → Nat) (lt : Nat) (ru : Nat → Option Nat) (lg : Nat) (lp : Int64) (o : Nat) (g : Nat → Int64) (x1 : Int32) (hM : Bd l yX0_given wsX0_given rb_X0_given D vwCl (wC ad cI cZ cJ n kd sd ts fs tr on rp lt ru lg lp) (tyC cI cZ cJ) [.ref (ad 0), .int x1] eIO) : LW l yL_given wsL_given rm_L_given D ((wC ad cI cZ cJ n kd sd ts fs tr on rp lt ru lg lp) ++ [(o, .inl (cJ, 1, .inr (.inl g)))]) ((wC ad cI cZ cJ n kd sd ts fs tr on rp lt ru lg lp) ++ [(o, .inl (cJ, 1, .inr (.inl g)))]) (tyC cI cZ cJ) [.ref (ad 0), .int x1, .ref o] (nI 1) := by
  intro A sz
  refine metWH (cc := cL_given) (maxL := 4) (ret := some .int) (by decide) rfl ?_
  intro p e s m args below meth c s₁ B hml hv
  obtain ⟨rfl, rfl, hP, hK, hD, hXE, hTB⟩ := hv
  have hx := B.exec
  have hb := B.bytes
  have hr := B.returns
  have hts := atoms_spec (ws := wsL_given) B.pre
  have hown : s.vm.findClass RL = some m.cls := findClass_of_methodNamed B.named
  have hlocks := B.notSynchronized
  have hS : va_S (fun q => A q ∨ s.heap.size ≤ q) s.heap s.heap [] := va_S.rf
  have hl := lv_entry ([.ref (ad 0), .int x1, .ref o]) (n := 4) (Nat.le_of_ble_eq_true rfl)
  rw [lg_entry_eq]
  generalize (lg_sl ([.ref (ad 0), .int x1, .ref o]) ++ List.replicate (4 - (lg_sl ([.ref (ad 0), .int x1, .ref o])).length) Slot.unset).toArray = ls at hl ⊢
  have hl : lv_has ls 4 [(0, .ref (ad 0)), (1, .int x1), (2, .ref o)] := hl
  have hPc := hP.l (w1 := (wC ad cI cZ cJ n kd sd ts fs tr on rp lt ru lg lp))
  have hDc := hD.l (w1 := (wC ad cI cZ cJ n kd sd ts fs tr on rp lt ru lg lp))
  have htab : c.exceptionTable.toList = [⟨0, 9, 12, 13⟩] := vx_table (x := yL_given) B (hts (.codeWith yL_given cL_given 4 (some .int) [(0, 9, 12, 13)]) List.mem_cons_self)
  refine lv_aload_n hx hb dL_given_0 rfl (lv_at hl 2 rfl) ?_
  refine lv_iconst (v := nI 0) hx hb dL_given_1 (by decide) ?_
  refine lv_aload_n hx hb dL_given_2 rfl (lv_at hl 0 rfl) ?_
  refine lv_iload_n hx hb dL_given_3 rfl (lv_at hl 1 rfl) ?_
  refine bd_C (own := RL) (As := [.int x1]) (rest := [.int (nI 0), .ref o]) (C := RX0) (ci := 0) (q0 := 0) (A0 := fun q => A q ∨ s.heap.size ≤ q) ⟨hx, hb, hml, hown, hts⟩ hM gL_given_X0_given rfl ⟨rfl, rfl⟩ 1 rfl (by decide +kernel) ⟨Nat.le_of_ble_eq_true rfl, Nat.le_of_ble_eq_true rfl⟩ hPc hK rfl rfl rfl hXE hS (fun q h => Or.inr h) hl.1 rfl (Nat.le_of_ble_eq_true rfl) dL_given_4 ⟨Nat.le_of_ble_eq_true rfl, Nat.le_of_ble_eq_true rfl⟩ (fun q9 ce H locs hz1 hk1 hS hce hcv hcl => ?_)
  refine vx_catch (own := RL) (name := eIO) hown [] ⟨0, 9, 12, 13⟩ [] htab (fun _ h => absurd h List.not_mem_nil) (by decide) (by decide) (hts (.classLink RL 13 eIO) (by decide +kernel)) (castIO hXE) hce hcv hcl ?_
  refine W.eq (g2 := F0 m 12 ls [.ref q9]) rfl ?_
  refine lv_astore_n (lv' := [(3, .ref q9), (0, .ref (ad 0)), (1, .int x1), (2, .ref o)]) hx hb dL_given_12 rfl hl (by decide) rfl (fun ls hl => ?_)
  refine lv_iconst (v := nI 1) hx hb dL_given_13 (by decide) ?_
  refine W.widen (k := 1) (n := 6) (Nat.le_of_ble_eq_true rfl) (Nat.le_of_ble_eq_true rfl) ?_
  exact W.zret hx hb hr (vp_nar_int _) (fun t ht hW => ⟨⟨_, (), rfl, rfl, by subst ht; exact keptP hP hk1⟩, hS.F ht⟩) hS.2.2 dL_given_14
def rm_L_settled : Room := { frames := 8, cells := 1, slots := 6, locals := 136 }
set_option maxHeartbeats 4000000 in
set_option maxRecDepth 100000 in
theorem k_settled_ok (l : Launch) (D : va_G) (ad : Nat → Nat) (cI cZ cJ : ClassId) (n : Nat) (kd : Nat → Nat) (sd : Nat → Bool) (ts : Nat → Int64) (fs : Nat → Int64) (tr : Nat → Nat) (on : Nat → Bool) (rp : Nat → Nat) (lt : Nat) (ru : Nat → Option Nat) (lg : Nat) (lp : Int64) (n' : Nat) (kd' : Nat → Nat) (sd' : Nat → Bool) (ts' : Nat → Int64) (fs' : Nat → Int64) (tr' : Nat → Nat) (on' : Nat → Bool) (rp' : Nat → Nat) (lt' : Nat) (ru' : Nat → Option Nat) (lg' : Nat) (lp' : Int64) (o : Nat) (g : Nat → Int64) (x1 : Int32) (f : Int32) (hM : MuIe l yX0_settled wsX0_settled rm_X0_settled D vwCl (wC ad cI cZ cJ n kd sd ts fs tr on rp lt ru lg lp) (fun _ => (wC ad cI cZ cJ n' kd' sd' ts' fs' tr' on' rp' lt' ru' lg' lp')) (tyC cI cZ cJ) [.ref (ad 0), .int x1] f) : LW l yL_settled wsL_settled rm_L_settled D ((wC ad cI cZ cJ n kd sd ts fs tr on rp lt ru lg lp) ++ [(o, .inl (cJ, 1, .inr (.inl g)))]) ((wC ad cI cZ cJ n' kd' sd' ts' fs' tr' on' rp' lt' ru' lg' lp') ++ [(o, .inl (cJ, 1, .inr (.inl (vp_updL g 0 f.toInt64))))]) (tyC cI cZ cJ) [.ref (ad 0), .int x1, .ref o] (nI 0) := by
  intro A sz
  refine metWH (cc := cL_settled) (maxL := 4) (ret := some .int) (by decide) rfl ?_
  intro p e s m args below meth c s₁ B hml hv
  obtain ⟨rfl, rfl, hP, hK, hD, hXE, hTB⟩ := hv
  have hx := B.exec
  have hb := B.bytes
  have hr := B.returns
  have hts := atoms_spec (ws := wsL_settled) B.pre
  have hown : s.vm.findClass RL = some m.cls := findClass_of_methodNamed B.named
  have hlocks := B.notSynchronized
  have hS : va_S (fun q => A q ∨ s.heap.size ≤ q) s.heap s.heap [] := va_S.rf
  have hl := lv_entry ([.ref (ad 0), .int x1, .ref o]) (n := 4) (Nat.le_of_ble_eq_true rfl)
  rw [lg_entry_eq]
  generalize (lg_sl ([.ref (ad 0), .int x1, .ref o]) ++ List.replicate (4 - (lg_sl ([.ref (ad 0), .int x1, .ref o])).length) Slot.unset).toArray = ls at hl ⊢
  have hl : lv_has ls 4 [(0, .ref (ad 0)), (1, .int x1), (2, .ref o)] := hl
  have hPc := hP.l (w1 := (wC ad cI cZ cJ n kd sd ts fs tr on rp lt ru lg lp))
  have hDc := hD.l (w1 := (wC ad cI cZ cJ n kd sd ts fs tr on rp lt ru lg lp))
  refine lv_aload_n hx hb dL_settled_0 rfl (lv_at hl 2 rfl) ?_
  refine lv_iconst (v := nI 0) hx hb dL_settled_1 (by decide) ?_
  refine lv_aload_n hx hb dL_settled_2 rfl (lv_at hl 0 rfl) ?_
  refine lv_iload_n hx hb dL_settled_3 rfl (lv_at hl 1 rfl) ?_
  refine muI_Ve (own := RL) (As := [.int x1]) (rest := [.int (nI 0), .ref o]) (C := RX0) (ci := 0) (q0 := 0) (A1 := AW (wC ad cI cZ cJ n kd sd ts fs tr on rp lt ru lg lp)) (A0 := fun q => A q ∨ s.heap.size ≤ q) ⟨hx, hb, hml, hown, hts⟩ hM gL_settled_X0_settled rfl ⟨rfl, rfl⟩ 1 rfl (by decide +kernel) ⟨Nat.le_of_ble_eq_true rfl, Nat.le_of_ble_eq_true rfl⟩ hPc hK hDc.aw (hTB.narrow (fun q h => hDc.awA h)) (fun q h => Or.inl (hDc.awA h)) rfl rfl rfl hS hl.1 rfl (Nat.le_of_ble_eq_true rfl) dL_settled_4 ⟨Nat.zero_le _, Nat.zero_le _⟩ (fun u H locs hP2 hz1 hk1 hS => ?_)
  have hPo := (hP.r (w1 := (wC ad cI cZ cJ n kd sd ts fs tr on rp lt ru lg lp))).off hk1 (fun q h1 h2 => hD.dis h2 h1)
  have hPj := hP2.app hPo
  have hDj : va_D (fun q => A q ∨ s.heap.size ≤ q) ((wC ad cI cZ cJ n' kd' sd' ts' fs' tr' on' rp' lt' ru' lg' lp') ++ [(o, .inl (cJ, 1, .inr (.inl g)))]) := sameD2 (hD.weaken (fun _ _ _ h => Or.inl h)) rfl
  refine lv_i2l (v := f.toInt64) hx hb dL_settled_7 rfl ?_
  refine st_nl hx hb hK hPj hDj hS 9 2 rfl rfl (j := 0) (by decide) (by decide) dL_settled_8 (fun H locs hP3 hD3 hS => ?_)
  replace hP3 : va_P D vwCl ((wC ad cI cZ cJ n' kd' sd' ts' fs' tr' on' rp' lt' ru' lg' lp') ++ [(o, .inl (cJ, 1, .inr (.inl (vp_updL g 0 f.toInt64))))]) H := by exact hP3
  refine lv_goto (tgt := 15) hx hb dL_settled_9 (by decide) ?_
  refine lv_iconst (v := nI 0) hx hb dL_settled_15 (by decide) ?_
  refine W.widen (k := 1) (n := 6) (Nat.le_of_ble_eq_true rfl) (Nat.le_of_ble_eq_true rfl) ?_
  exact W.zret hx hb hr (vp_nar_int _) (fun t ht hW => ⟨⟨_, (), rfl, rfl, by subst ht; exact hP3⟩, hS.F ht⟩) hS.2.2 dL_settled_16
set_option maxHeartbeats 4000000 in
set_option maxRecDepth 100000 in
theorem k_settled_b1 (l : Launch) (D : va_G) (ad : Nat → Nat) (cI cZ cJ : ClassId) (n : Nat) (kd : Nat → Nat) (sd : Nat → Bool) (ts : Nat → Int64) (fs : Nat → Int64) (tr : Nat → Nat) (on : Nat → Bool) (rp : Nat → Nat) (lt : Nat) (ru : Nat → Option Nat) (lg : Nat) (lp : Int64) (o : Nat) (g : Nat → Int64) (x1 : Int32) (hM : Bd l yX0_settled wsX0_settled rb_X0_settled D vwCl (wC ad cI cZ cJ n kd sd ts fs tr on rp lt ru lg lp) (tyC cI cZ cJ) [.ref (ad 0), .int x1] eIO) : LW l yL_settled wsL_settled rm_L_settled D ((wC ad cI cZ cJ n kd sd ts fs tr on rp lt ru lg lp) ++ [(o, .inl (cJ, 1, .inr (.inl g)))]) ((wC ad cI cZ cJ n kd sd ts fs tr on rp lt ru lg lp) ++ [(o, .inl (cJ, 1, .inr (.inl g)))]) (tyC cI cZ cJ) [.ref (ad 0), .int x1, .ref o] (nI 1) := by
  intro A sz
  refine metWH (cc := cL_settled) (maxL := 4) (ret := some .int) (by decide) rfl ?_
  intro p e s m args below meth c s₁ B hml hv
  obtain ⟨rfl, rfl, hP, hK, hD, hXE, hTB⟩ := hv
  have hx := B.exec
  have hb := B.bytes
  have hr := B.returns
  have hts := atoms_spec (ws := wsL_settled) B.pre
  have hown : s.vm.findClass RL = some m.cls := findClass_of_methodNamed B.named
  have hlocks := B.notSynchronized
  have hS : va_S (fun q => A q ∨ s.heap.size ≤ q) s.heap s.heap [] := va_S.rf
  have hl := lv_entry ([.ref (ad 0), .int x1, .ref o]) (n := 4) (Nat.le_of_ble_eq_true rfl)
  rw [lg_entry_eq]
  generalize (lg_sl ([.ref (ad 0), .int x1, .ref o]) ++ List.replicate (4 - (lg_sl ([.ref (ad 0), .int x1, .ref o])).length) Slot.unset).toArray = ls at hl ⊢
  have hl : lv_has ls 4 [(0, .ref (ad 0)), (1, .int x1), (2, .ref o)] := hl
  have hPc := hP.l (w1 := (wC ad cI cZ cJ n kd sd ts fs tr on rp lt ru lg lp))
  have hDc := hD.l (w1 := (wC ad cI cZ cJ n kd sd ts fs tr on rp lt ru lg lp))
  have htab : c.exceptionTable.toList = [⟨0, 9, 12, 13⟩] := vx_table (x := yL_settled) B (hts (.codeWith yL_settled cL_settled 4 (some .int) [(0, 9, 12, 13)]) List.mem_cons_self)
  refine lv_aload_n hx hb dL_settled_0 rfl (lv_at hl 2 rfl) ?_
  refine lv_iconst (v := nI 0) hx hb dL_settled_1 (by decide) ?_
  refine lv_aload_n hx hb dL_settled_2 rfl (lv_at hl 0 rfl) ?_
  refine lv_iload_n hx hb dL_settled_3 rfl (lv_at hl 1 rfl) ?_
  refine bd_C (own := RL) (As := [.int x1]) (rest := [.int (nI 0), .ref o]) (C := RX0) (ci := 0) (q0 := 0) (A0 := fun q => A q ∨ s.heap.size ≤ q) ⟨hx, hb, hml, hown, hts⟩ hM gL_settled_X0_settled rfl ⟨rfl, rfl⟩ 1 rfl (by decide +kernel) ⟨Nat.le_of_ble_eq_true rfl, Nat.le_of_ble_eq_true rfl⟩ hPc hK rfl rfl rfl hXE hS (fun q h => Or.inr h) hl.1 rfl (Nat.le_of_ble_eq_true rfl) dL_settled_4 ⟨Nat.le_of_ble_eq_true rfl, Nat.le_of_ble_eq_true rfl⟩ (fun q9 ce H locs hz1 hk1 hS hce hcv hcl => ?_)
  refine vx_catch (own := RL) (name := eIO) hown [] ⟨0, 9, 12, 13⟩ [] htab (fun _ h => absurd h List.not_mem_nil) (by decide) (by decide) (hts (.classLink RL 13 eIO) (by decide +kernel)) (castIO hXE) hce hcv hcl ?_
  refine W.eq (g2 := F0 m 12 ls [.ref q9]) rfl ?_
  refine lv_astore_n (lv' := [(3, .ref q9), (0, .ref (ad 0)), (1, .int x1), (2, .ref o)]) hx hb dL_settled_12 rfl hl (by decide) rfl (fun ls hl => ?_)
  refine lv_iconst (v := nI 1) hx hb dL_settled_13 (by decide) ?_
  refine W.widen (k := 1) (n := 6) (Nat.le_of_ble_eq_true rfl) (Nat.le_of_ble_eq_true rfl) ?_
  exact W.zret hx hb hr (vp_nar_int _) (fun t ht hW => ⟨⟨_, (), rfl, rfl, by subst ht; exact keptP hP hk1⟩, hS.F ht⟩) hS.2.2 dL_settled_14
def rm_L_since : Room := { frames := 8, cells := 1, slots := 6, locals := 127 }
set_option maxHeartbeats 4000000 in
set_option maxRecDepth 100000 in
theorem k_since_ok (l : Launch) (D : va_G) (ad : Nat → Nat) (cI cZ cJ : ClassId) (n : Nat) (kd : Nat → Nat) (sd : Nat → Bool) (ts : Nat → Int64) (fs : Nat → Int64) (tr : Nat → Nat) (on : Nat → Bool) (rp : Nat → Nat) (lt : Nat) (ru : Nat → Option Nat) (lg : Nat) (lp : Int64) (n' : Nat) (kd' : Nat → Nat) (sd' : Nat → Bool) (ts' : Nat → Int64) (fs' : Nat → Int64) (tr' : Nat → Nat) (on' : Nat → Bool) (rp' : Nat → Nat) (lt' : Nat) (ru' : Nat → Option Nat) (lg' : Nat) (lp' : Int64) (o : Nat) (g : Nat → Int64) (x1 x2 : Int32) (f : Int32) (hM : MuIe l yX0_since wsX0_since rm_X0_since D vwCl (wC ad cI cZ cJ n kd sd ts fs tr on rp lt ru lg lp) (fun _ => (wC ad cI cZ cJ n' kd' sd' ts' fs' tr' on' rp' lt' ru' lg' lp')) (tyC cI cZ cJ) [.ref (ad 0), .int x1, .int x2] f) : LW l yL_since wsL_since rm_L_since D ((wC ad cI cZ cJ n kd sd ts fs tr on rp lt ru lg lp) ++ [(o, .inl (cJ, 1, .inr (.inl g)))]) ((wC ad cI cZ cJ n' kd' sd' ts' fs' tr' on' rp' lt' ru' lg' lp') ++ [(o, .inl (cJ, 1, .inr (.inl (vp_updL g 0 f.toInt64))))]) (tyC cI cZ cJ) [.ref (ad 0), .int x1, .int x2, .ref o] (nI 0) := by
  intro A sz
  refine metWH (cc := cL_since) (maxL := 5) (ret := some .int) (by decide) rfl ?_
  intro p e s m args below meth c s₁ B hml hv
  obtain ⟨rfl, rfl, hP, hK, hD, hXE, hTB⟩ := hv
  have hx := B.exec
  have hb := B.bytes
  have hr := B.returns
  have hts := atoms_spec (ws := wsL_since) B.pre
  have hown : s.vm.findClass RL = some m.cls := findClass_of_methodNamed B.named
  have hlocks := B.notSynchronized
  have hS : va_S (fun q => A q ∨ s.heap.size ≤ q) s.heap s.heap [] := va_S.rf
  have hl := lv_entry ([.ref (ad 0), .int x1, .int x2, .ref o]) (n := 5) (Nat.le_of_ble_eq_true rfl)
  rw [lg_entry_eq]
  generalize (lg_sl ([.ref (ad 0), .int x1, .int x2, .ref o]) ++ List.replicate (5 - (lg_sl ([.ref (ad 0), .int x1, .int x2, .ref o])).length) Slot.unset).toArray = ls at hl ⊢
  have hl : lv_has ls 5 [(0, .ref (ad 0)), (1, .int x1), (2, .int x2), (3, .ref o)] := hl
  have hPc := hP.l (w1 := (wC ad cI cZ cJ n kd sd ts fs tr on rp lt ru lg lp))
  have hDc := hD.l (w1 := (wC ad cI cZ cJ n kd sd ts fs tr on rp lt ru lg lp))
  refine lv_aload_n hx hb dL_since_0 rfl (lv_at hl 3 rfl) ?_
  refine lv_iconst (v := nI 0) hx hb dL_since_1 (by decide) ?_
  refine lv_aload_n hx hb dL_since_2 rfl (lv_at hl 0 rfl) ?_
  refine lv_iload_n hx hb dL_since_3 rfl (lv_at hl 1 rfl) ?_
  refine lv_iload_n hx hb dL_since_4 rfl (lv_at hl 2 rfl) ?_
  refine muI_Ve (own := RL) (As := [.int x1, .int x2]) (rest := [.int (nI 0), .ref o]) (C := RX0) (ci := 0) (q0 := 0) (A1 := AW (wC ad cI cZ cJ n kd sd ts fs tr on rp lt ru lg lp)) (A0 := fun q => A q ∨ s.heap.size ≤ q) ⟨hx, hb, hml, hown, hts⟩ hM gL_since_X0_since rfl ⟨rfl, rfl⟩ 2 rfl (by decide +kernel) ⟨Nat.le_of_ble_eq_true rfl, Nat.le_of_ble_eq_true rfl⟩ hPc hK hDc.aw (hTB.narrow (fun q h => hDc.awA h)) (fun q h => Or.inl (hDc.awA h)) rfl rfl rfl hS hl.1 rfl (Nat.le_of_ble_eq_true rfl) dL_since_5 ⟨Nat.zero_le _, Nat.zero_le _⟩ (fun u H locs hP2 hz1 hk1 hS => ?_)
  have hPo := (hP.r (w1 := (wC ad cI cZ cJ n kd sd ts fs tr on rp lt ru lg lp))).off hk1 (fun q h1 h2 => hD.dis h2 h1)
  have hPj := hP2.app hPo
  have hDj : va_D (fun q => A q ∨ s.heap.size ≤ q) ((wC ad cI cZ cJ n' kd' sd' ts' fs' tr' on' rp' lt' ru' lg' lp') ++ [(o, .inl (cJ, 1, .inr (.inl g)))]) := sameD2 (hD.weaken (fun _ _ _ h => Or.inl h)) rfl
  refine lv_i2l (v := f.toInt64) hx hb dL_since_8 rfl ?_
  refine st_nl hx hb hK hPj hDj hS 9 2 rfl rfl (j := 0) (by decide) (by decide) dL_since_9 (fun H locs hP3 hD3 hS => ?_)
  replace hP3 : va_P D vwCl ((wC ad cI cZ cJ n' kd' sd' ts' fs' tr' on' rp' lt' ru' lg' lp') ++ [(o, .inl (cJ, 1, .inr (.inl (vp_updL g 0 f.toInt64))))]) H := by exact hP3
  refine lv_goto (tgt := 17) hx hb dL_since_10 (by decide) ?_
  refine lv_iconst (v := nI 0) hx hb dL_since_17 (by decide) ?_
  refine W.widen (k := 1) (n := 6) (Nat.le_of_ble_eq_true rfl) (Nat.le_of_ble_eq_true rfl) ?_
  exact W.zret hx hb hr (vp_nar_int _) (fun t ht hW => ⟨⟨_, (), rfl, rfl, by subst ht; exact hP3⟩, hS.F ht⟩) hS.2.2 dL_since_18
set_option maxHeartbeats 4000000 in
set_option maxRecDepth 100000 in
theorem k_since_b1 (l : Launch) (D : va_G) (ad : Nat → Nat) (cI cZ cJ : ClassId) (n : Nat) (kd : Nat → Nat) (sd : Nat → Bool) (ts : Nat → Int64) (fs : Nat → Int64) (tr : Nat → Nat) (on : Nat → Bool) (rp : Nat → Nat) (lt : Nat) (ru : Nat → Option Nat) (lg : Nat) (lp : Int64) (o : Nat) (g : Nat → Int64) (x1 x2 : Int32) (hM : Bd l yX0_since wsX0_since rb_X0_since D vwCl (wC ad cI cZ cJ n kd sd ts fs tr on rp lt ru lg lp) (tyC cI cZ cJ) [.ref (ad 0), .int x1, .int x2] eIO) : LW l yL_since wsL_since rm_L_since D ((wC ad cI cZ cJ n kd sd ts fs tr on rp lt ru lg lp) ++ [(o, .inl (cJ, 1, .inr (.inl g)))]) ((wC ad cI cZ cJ n kd sd ts fs tr on rp lt ru lg lp) ++ [(o, .inl (cJ, 1, .inr (.inl g)))]) (tyC cI cZ cJ) [.ref (ad 0), .int x1, .int x2, .ref o] (nI 1) := by
  intro A sz
  refine metWH (cc := cL_since) (maxL := 5) (ret := some .int) (by decide) rfl ?_
  intro p e s m args below meth c s₁ B hml hv
  obtain ⟨rfl, rfl, hP, hK, hD, hXE, hTB⟩ := hv
  have hx := B.exec
  have hb := B.bytes
  have hr := B.returns
  have hts := atoms_spec (ws := wsL_since) B.pre
  have hown : s.vm.findClass RL = some m.cls := findClass_of_methodNamed B.named
  have hlocks := B.notSynchronized
  have hS : va_S (fun q => A q ∨ s.heap.size ≤ q) s.heap s.heap [] := va_S.rf
  have hl := lv_entry ([.ref (ad 0), .int x1, .int x2, .ref o]) (n := 5) (Nat.le_of_ble_eq_true rfl)
  rw [lg_entry_eq]
  generalize (lg_sl ([.ref (ad 0), .int x1, .int x2, .ref o]) ++ List.replicate (5 - (lg_sl ([.ref (ad 0), .int x1, .int x2, .ref o])).length) Slot.unset).toArray = ls at hl ⊢
  have hl : lv_has ls 5 [(0, .ref (ad 0)), (1, .int x1), (2, .int x2), (3, .ref o)] := hl
  have hPc := hP.l (w1 := (wC ad cI cZ cJ n kd sd ts fs tr on rp lt ru lg lp))
  have hDc := hD.l (w1 := (wC ad cI cZ cJ n kd sd ts fs tr on rp lt ru lg lp))
  have htab : c.exceptionTable.toList = [⟨0, 10, 13, 13⟩] := vx_table (x := yL_since) B (hts (.codeWith yL_since cL_since 5 (some .int) [(0, 10, 13, 13)]) List.mem_cons_self)
  refine lv_aload_n hx hb dL_since_0 rfl (lv_at hl 3 rfl) ?_
  refine lv_iconst (v := nI 0) hx hb dL_since_1 (by decide) ?_
  refine lv_aload_n hx hb dL_since_2 rfl (lv_at hl 0 rfl) ?_
  refine lv_iload_n hx hb dL_since_3 rfl (lv_at hl 1 rfl) ?_
  refine lv_iload_n hx hb dL_since_4 rfl (lv_at hl 2 rfl) ?_
  refine bd_C (own := RL) (As := [.int x1, .int x2]) (rest := [.int (nI 0), .ref o]) (C := RX0) (ci := 0) (q0 := 0) (A0 := fun q => A q ∨ s.heap.size ≤ q) ⟨hx, hb, hml, hown, hts⟩ hM gL_since_X0_since rfl ⟨rfl, rfl⟩ 2 rfl (by decide +kernel) ⟨Nat.le_of_ble_eq_true rfl, Nat.le_of_ble_eq_true rfl⟩ hPc hK rfl rfl rfl hXE hS (fun q h => Or.inr h) hl.1 rfl (Nat.le_of_ble_eq_true rfl) dL_since_5 ⟨Nat.le_of_ble_eq_true rfl, Nat.le_of_ble_eq_true rfl⟩ (fun q9 ce H locs hz1 hk1 hS hce hcv hcl => ?_)
  refine vx_catch (own := RL) (name := eIO) hown [] ⟨0, 10, 13, 13⟩ [] htab (fun _ h => absurd h List.not_mem_nil) (by decide) (by decide) (hts (.classLink RL 13 eIO) (by decide +kernel)) (castIO hXE) hce hcv hcl ?_
  refine W.eq (g2 := F0 m 13 ls [.ref q9]) rfl ?_
  refine lv_astore (lv' := [(4, .ref q9), (0, .ref (ad 0)), (1, .int x1), (2, .int x2), (3, .ref o)]) hx hb dL_since_13 hl (by decide) rfl (fun ls hl => ?_)
  refine lv_iconst (v := nI 1) hx hb dL_since_15 (by decide) ?_
  refine W.widen (k := 1) (n := 6) (Nat.le_of_ble_eq_true rfl) (Nat.le_of_ble_eq_true rfl) ?_
  exact W.zret hx hb hr (vp_nar_int _) (fun t ht hW => ⟨⟨_, (), rfl, rfl, by subst ht; exact keptP hP hk1⟩, hS.F ht⟩) hS.2.2 dL_since_16
def rm_L_value : Room := { frames := 8, cells := 1, slots := 6, locals := 136 }
set_option maxHeartbeats 4000000 in
set_option maxRecDepth 100000 in
theorem k_value_ok (l : Launch) (D : va_G) (ad : Nat → Nat) (cI cZ cJ : ClassId) (n : Nat) (kd : Nat → Nat) (sd : Nat → Bool) (ts : Nat → Int64) (fs : Nat → Int64) (tr : Nat → Nat) (on : Nat → Bool) (rp : Nat → Nat) (lt : Nat) (ru : Nat → Option Nat) (lg : Nat) (lp : Int64) (n' : Nat) (kd' : Nat → Nat) (sd' : Nat → Bool) (ts' : Nat → Int64) (fs' : Nat → Int64) (tr' : Nat → Nat) (on' : Nat → Bool) (rp' : Nat → Nat) (lt' : Nat) (ru' : Nat → Option Nat) (lg' : Nat) (lp' : Int64) (o : Nat) (g : Nat → Int64) (x1 : Int32) (f : Int32) (hM : MuIe l yX0_value wsX0_value rm_X0_value D vwCl (wC ad cI cZ cJ n kd sd ts fs tr on rp lt ru lg lp) (fun _ => (wC ad cI cZ cJ n' kd' sd' ts' fs' tr' on' rp' lt' ru' lg' lp')) (tyC cI cZ cJ) [.ref (ad 0), .int x1] f) : LW l yL_value wsL_value rm_L_value D ((wC ad cI cZ cJ n kd sd ts fs tr on rp lt ru lg lp) ++ [(o, .inl (cJ, 1, .inr (.inl g)))]) ((wC ad cI cZ cJ n' kd' sd' ts' fs' tr' on' rp' lt' ru' lg' lp') ++ [(o, .inl (cJ, 1, .inr (.inl (vp_updL g 0 f.toInt64))))]) (tyC cI cZ cJ) [.ref (ad 0), .int x1, .ref o] (nI 0) := by
  intro A sz
  refine metWH (cc := cL_value) (maxL := 4) (ret := some .int) (by decide) rfl ?_
  intro p e s m args below meth c s₁ B hml hv
  obtain ⟨rfl, rfl, hP, hK, hD, hXE, hTB⟩ := hv
  have hx := B.exec
  have hb := B.bytes
  have hr := B.returns
  have hts := atoms_spec (ws := wsL_value) B.pre
  have hown : s.vm.findClass RL = some m.cls := findClass_of_methodNamed B.named
  have hlocks := B.notSynchronized
  have hS : va_S (fun q => A q ∨ s.heap.size ≤ q) s.heap s.heap [] := va_S.rf
  have hl := lv_entry ([.ref (ad 0), .int x1, .ref o]) (n := 4) (Nat.le_of_ble_eq_true rfl)
  rw [lg_entry_eq]
  generalize (lg_sl ([.ref (ad 0), .int x1, .ref o]) ++ List.replicate (4 - (lg_sl ([.ref (ad 0), .int x1, .ref o])).length) Slot.unset).toArray = ls at hl ⊢
  have hl : lv_has ls 4 [(0, .ref (ad 0)), (1, .int x1), (2, .ref o)] := hl
  have hPc := hP.l (w1 := (wC ad cI cZ cJ n kd sd ts fs tr on rp lt ru lg lp))
  have hDc := hD.l (w1 := (wC ad cI cZ cJ n kd sd ts fs tr on rp lt ru lg lp))
  refine lv_aload_n hx hb dL_value_0 rfl (lv_at hl 2 rfl) ?_
  refine lv_iconst (v := nI 0) hx hb dL_value_1 (by decide) ?_
  refine lv_aload_n hx hb dL_value_2 rfl (lv_at hl 0 rfl) ?_
  refine lv_iload_n hx hb dL_value_3 rfl (lv_at hl 1 rfl) ?_
  refine muI_Ve (own := RL) (As := [.int x1]) (rest := [.int (nI 0), .ref o]) (C := RX0) (ci := 0) (q0 := 0) (A1 := AW (wC ad cI cZ cJ n kd sd ts fs tr on rp lt ru lg lp)) (A0 := fun q => A q ∨ s.heap.size ≤ q) ⟨hx, hb, hml, hown, hts⟩ hM gL_value_X0_value rfl ⟨rfl, rfl⟩ 1 rfl (by decide +kernel) ⟨Nat.le_of_ble_eq_true rfl, Nat.le_of_ble_eq_true rfl⟩ hPc hK hDc.aw (hTB.narrow (fun q h => hDc.awA h)) (fun q h => Or.inl (hDc.awA h)) rfl rfl rfl hS hl.1 rfl (Nat.le_of_ble_eq_true rfl) dL_value_4 ⟨Nat.zero_le _, Nat.zero_le _⟩ (fun u H locs hP2 hz1 hk1 hS => ?_)
  have hPo := (hP.r (w1 := (wC ad cI cZ cJ n kd sd ts fs tr on rp lt ru lg lp))).off hk1 (fun q h1 h2 => hD.dis h2 h1)
  have hPj := hP2.app hPo
  have hDj : va_D (fun q => A q ∨ s.heap.size ≤ q) ((wC ad cI cZ cJ n' kd' sd' ts' fs' tr' on' rp' lt' ru' lg' lp') ++ [(o, .inl (cJ, 1, .inr (.inl g)))]) := sameD2 (hD.weaken (fun _ _ _ h => Or.inl h)) rfl
  refine lv_i2l (v := f.toInt64) hx hb dL_value_7 rfl ?_
  refine st_nl hx hb hK hPj hDj hS 9 2 rfl rfl (j := 0) (by decide) (by decide) dL_value_8 (fun H locs hP3 hD3 hS => ?_)
  replace hP3 : va_P D vwCl ((wC ad cI cZ cJ n' kd' sd' ts' fs' tr' on' rp' lt' ru' lg' lp') ++ [(o, .inl (cJ, 1, .inr (.inl (vp_updL g 0 f.toInt64))))]) H := by exact hP3
  refine lv_goto (tgt := 15) hx hb dL_value_9 (by decide) ?_
  refine lv_iconst (v := nI 0) hx hb dL_value_15 (by decide) ?_
  refine W.widen (k := 1) (n := 6) (Nat.le_of_ble_eq_true rfl) (Nat.le_of_ble_eq_true rfl) ?_
  exact W.zret hx hb hr (vp_nar_int _) (fun t ht hW => ⟨⟨_, (), rfl, rfl, by subst ht; exact hP3⟩, hS.F ht⟩) hS.2.2 dL_value_16
set_option maxHeartbeats 4000000 in
set_option maxRecDepth 100000 in
theorem k_value_b1 (l : Launch) (D : va_G) (ad : Nat → Nat) (cI cZ cJ : ClassId) (n : Nat) (kd : Nat → Nat) (sd : Nat → Bool) (ts : Nat → Int64) (fs : Nat → Int64) (tr : Nat → Nat) (on : Nat → Bool) (rp : Nat → Nat) (lt : Nat) (ru : Nat → Option Nat) (lg : Nat) (lp : Int64) (o : Nat) (g : Nat → Int64) (x1 : Int32) (hM : Bd l yX0_value wsX0_value rb_X0_value D vwCl (wC ad cI cZ cJ n kd sd ts fs tr on rp lt ru lg lp) (tyC cI cZ cJ) [.ref (ad 0), .int x1] eIO) : LW l yL_value wsL_value rm_L_value D ((wC ad cI cZ cJ n kd sd ts fs tr on rp lt ru lg lp) ++ [(o, .inl (cJ, 1, .inr (.inl g)))]) ((wC ad cI cZ cJ n kd sd ts fs tr on rp lt ru lg lp) ++ [(o, .inl (cJ, 1, .inr (.inl g)))]) (tyC cI cZ cJ) [.ref (ad 0), .int x1, .ref o] (nI 1) := by
  intro A sz
  refine metWH (cc := cL_value) (maxL := 4) (ret := some .int) (by decide) rfl ?_
  intro p e s m args below meth c s₁ B hml hv
  obtain ⟨rfl, rfl, hP, hK, hD, hXE, hTB⟩ := hv
  have hx := B.exec
  have hb := B.bytes
  have hr := B.returns
  have hts := atoms_spec (ws := wsL_value) B.pre
  have hown : s.vm.findClass RL = some m.cls := findClass_of_methodNamed B.named
  have hlocks := B.notSynchronized
  have hS : va_S (fun q => A q ∨ s.heap.size ≤ q) s.heap s.heap [] := va_S.rf
  have hl := lv_entry ([.ref (ad 0), .int x1, .ref o]) (n := 4) (Nat.le_of_ble_eq_true rfl)
  rw [lg_entry_eq]
  generalize (lg_sl ([.ref (ad 0), .int x1, .ref o]) ++ List.replicate (4 - (lg_sl ([.ref (ad 0), .int x1, .ref o])).length) Slot.unset).toArray = ls at hl ⊢
  have hl : lv_has ls 4 [(0, .ref (ad 0)), (1, .int x1), (2, .ref o)] := hl
  have hPc := hP.l (w1 := (wC ad cI cZ cJ n kd sd ts fs tr on rp lt ru lg lp))
  have hDc := hD.l (w1 := (wC ad cI cZ cJ n kd sd ts fs tr on rp lt ru lg lp))
  have htab : c.exceptionTable.toList = [⟨0, 9, 12, 13⟩] := vx_table (x := yL_value) B (hts (.codeWith yL_value cL_value 4 (some .int) [(0, 9, 12, 13)]) List.mem_cons_self)
  refine lv_aload_n hx hb dL_value_0 rfl (lv_at hl 2 rfl) ?_
  refine lv_iconst (v := nI 0) hx hb dL_value_1 (by decide) ?_
  refine lv_aload_n hx hb dL_value_2 rfl (lv_at hl 0 rfl) ?_
  refine lv_iload_n hx hb dL_value_3 rfl (lv_at hl 1 rfl) ?_
  refine bd_C (own := RL) (As := [.int x1]) (rest := [.int (nI 0), .ref o]) (C := RX0) (ci := 0) (q0 := 0) (A0 := fun q => A q ∨ s.heap.size ≤ q) ⟨hx, hb, hml, hown, hts⟩ hM gL_value_X0_value rfl ⟨rfl, rfl⟩ 1 rfl (by decide +kernel) ⟨Nat.le_of_ble_eq_true rfl, Nat.le_of_ble_eq_true rfl⟩ hPc hK rfl rfl rfl hXE hS (fun q h => Or.inr h) hl.1 rfl (Nat.le_of_ble_eq_true rfl) dL_value_4 ⟨Nat.le_of_ble_eq_true rfl, Nat.le_of_ble_eq_true rfl⟩ (fun q9 ce H locs hz1 hk1 hS hce hcv hcl => ?_)
  refine vx_catch (own := RL) (name := eIO) hown [] ⟨0, 9, 12, 13⟩ [] htab (fun _ h => absurd h List.not_mem_nil) (by decide) (by decide) (hts (.classLink RL 13 eIO) (by decide +kernel)) (castIO hXE) hce hcv hcl ?_
  refine W.eq (g2 := F0 m 12 ls [.ref q9]) rfl ?_
  refine lv_astore_n (lv' := [(3, .ref q9), (0, .ref (ad 0)), (1, .int x1), (2, .ref o)]) hx hb dL_value_12 rfl hl (by decide) rfl (fun ls hl => ?_)
  refine lv_iconst (v := nI 1) hx hb dL_value_13 (by decide) ?_
  refine W.widen (k := 1) (n := 6) (Nat.le_of_ble_eq_true rfl) (Nat.le_of_ble_eq_true rfl) ?_
  exact W.zret hx hb hr (vp_nar_int _) (fun t ht hW => ⟨⟨_, (), rfl, rfl, by subst ht; exact keptP hP hk1⟩, hS.F ht⟩) hS.2.2 dL_value_14
def rm_L_sayers : Room := { frames := 8, cells := 1, slots := 6, locals := 126 }
set_option maxHeartbeats 4000000 in
set_option maxRecDepth 100000 in
theorem k_sayers_ok (l : Launch) (D : va_G) (ad : Nat → Nat) (cI cZ cJ : ClassId) (n : Nat) (kd : Nat → Nat) (sd : Nat → Bool) (ts : Nat → Int64) (fs : Nat → Int64) (tr : Nat → Nat) (on : Nat → Bool) (rp : Nat → Nat) (lt : Nat) (ru : Nat → Option Nat) (lg : Nat) (lp : Int64) (n' : Nat) (kd' : Nat → Nat) (sd' : Nat → Bool) (ts' : Nat → Int64) (fs' : Nat → Int64) (tr' : Nat → Nat) (on' : Nat → Bool) (rp' : Nat → Nat) (lt' : Nat) (ru' : Nat → Option Nat) (lg' : Nat) (lp' : Int64) (o : Nat) (g : Nat → Int64) (x1 x2 : Int32) (f : Int32) (hM : MuIe l yX0_sayers wsX0_sayers rm_X0_sayers D vwCl (wC ad cI cZ cJ n kd sd ts fs tr on rp lt ru lg lp) (fun _ => (wC ad cI cZ cJ n' kd' sd' ts' fs' tr' on' rp' lt' ru' lg' lp')) (tyC cI cZ cJ) [.ref (ad 0), .int x1, .int x2] f) : LW l yL_sayers wsL_sayers rm_L_sayers D ((wC ad cI cZ cJ n kd sd ts fs tr on rp lt ru lg lp) ++ [(o, .inl (cJ, 1, .inr (.inl g)))]) ((wC ad cI cZ cJ n' kd' sd' ts' fs' tr' on' rp' lt' ru' lg' lp') ++ [(o, .inl (cJ, 1, .inr (.inl (vp_updL g 0 f.toInt64))))]) (tyC cI cZ cJ) [.ref (ad 0), .int x1, .int x2, .ref o] (nI 0) := by
  intro A sz
  refine metWH (cc := cL_sayers) (maxL := 5) (ret := some .int) (by decide) rfl ?_
  intro p e s m args below meth c s₁ B hml hv
  obtain ⟨rfl, rfl, hP, hK, hD, hXE, hTB⟩ := hv
  have hx := B.exec
  have hb := B.bytes
  have hr := B.returns
  have hts := atoms_spec (ws := wsL_sayers) B.pre
  have hown : s.vm.findClass RL = some m.cls := findClass_of_methodNamed B.named
  have hlocks := B.notSynchronized
  have hS : va_S (fun q => A q ∨ s.heap.size ≤ q) s.heap s.heap [] := va_S.rf
  have hl := lv_entry ([.ref (ad 0), .int x1, .int x2, .ref o]) (n := 5) (Nat.le_of_ble_eq_true rfl)
  rw [lg_entry_eq]
  generalize (lg_sl ([.ref (ad 0), .int x1, .int x2, .ref o]) ++ List.replicate (5 - (lg_sl ([.ref (ad 0), .int x1, .int x2, .ref o])).length) Slot.unset).toArray = ls at hl ⊢
  have hl : lv_has ls 5 [(0, .ref (ad 0)), (1, .int x1), (2, .int x2), (3, .ref o)] := hl
  have hPc := hP.l (w1 := (wC ad cI cZ cJ n kd sd ts fs tr on rp lt ru lg lp))
  have hDc := hD.l (w1 := (wC ad cI cZ cJ n kd sd ts fs tr on rp lt ru lg lp))
  refine lv_aload_n hx hb dL_sayers_0 rfl (lv_at hl 3 rfl) ?_
  refine lv_iconst (v := nI 0) hx hb dL_sayers_1 (by decide) ?_
  refine lv_aload_n hx hb dL_sayers_2 rfl (lv_at hl 0 rfl) ?_
  refine lv_iload_n hx hb dL_sayers_3 rfl (lv_at hl 1 rfl) ?_
  refine lv_iload_n hx hb dL_sayers_4 rfl (lv_at hl 2 rfl) ?_
  refine muI_Ve (own := RL) (As := [.int x1, .int x2]) (rest := [.int (nI 0), .ref o]) (C := RX0) (ci := 0) (q0 := 0) (A1 := AW (wC ad cI cZ cJ n kd sd ts fs tr on rp lt ru lg lp)) (A0 := fun q => A q ∨ s.heap.size ≤ q) ⟨hx, hb, hml, hown, hts⟩ hM gL_sayers_X0_sayers rfl ⟨rfl, rfl⟩ 2 rfl (by decide +kernel) ⟨Nat.le_of_ble_eq_true rfl, Nat.le_of_ble_eq_true rfl⟩ hPc hK hDc.aw (hTB.narrow (fun q h => hDc.awA h)) (fun q h => Or.inl (hDc.awA h)) rfl rfl rfl hS hl.1 rfl (Nat.le_of_ble_eq_true rfl) dL_sayers_5 ⟨Nat.zero_le _, Nat.zero_le _⟩ (fun u H locs hP2 hz1 hk1 hS => ?_)
  have hPo := (hP.r (w1 := (wC ad cI cZ cJ n kd sd ts fs tr on rp lt ru lg lp))).off hk1 (fun q h1 h2 => hD.dis h2 h1)
  have hPj := hP2.app hPo
  have hDj : va_D (fun q => A q ∨ s.heap.size ≤ q) ((wC ad cI cZ cJ n' kd' sd' ts' fs' tr' on' rp' lt' ru' lg' lp') ++ [(o, .inl (cJ, 1, .inr (.inl g)))]) := sameD2 (hD.weaken (fun _ _ _ h => Or.inl h)) rfl
  refine lv_i2l (v := f.toInt64) hx hb dL_sayers_8 rfl ?_
  refine st_nl hx hb hK hPj hDj hS 9 2 rfl rfl (j := 0) (by decide) (by decide) dL_sayers_9 (fun H locs hP3 hD3 hS => ?_)
  replace hP3 : va_P D vwCl ((wC ad cI cZ cJ n' kd' sd' ts' fs' tr' on' rp' lt' ru' lg' lp') ++ [(o, .inl (cJ, 1, .inr (.inl (vp_updL g 0 f.toInt64))))]) H := by exact hP3
  refine lv_goto (tgt := 17) hx hb dL_sayers_10 (by decide) ?_
  refine lv_iconst (v := nI 0) hx hb dL_sayers_17 (by decide) ?_
  refine W.widen (k := 1) (n := 6) (Nat.le_of_ble_eq_true rfl) (Nat.le_of_ble_eq_true rfl) ?_
  exact W.zret hx hb hr (vp_nar_int _) (fun t ht hW => ⟨⟨_, (), rfl, rfl, by subst ht; exact hP3⟩, hS.F ht⟩) hS.2.2 dL_sayers_18
set_option maxHeartbeats 4000000 in
set_option maxRecDepth 100000 in
theorem k_sayers_b1 (l : Launch) (D : va_G) (ad : Nat → Nat) (cI cZ cJ : ClassId) (n : Nat) (kd : Nat → Nat) (sd : Nat → Bool) (ts : Nat → Int64) (fs : Nat → Int64) (tr : Nat → Nat) (on : Nat → Bool) (rp : Nat → Nat) (lt : Nat) (ru : Nat → Option Nat) (lg : Nat) (lp : Int64) (o : Nat) (g : Nat → Int64) (x1 x2 : Int32) (hM : Bd l yX0_sayers wsX0_sayers rb_X0_sayers D vwCl (wC ad cI cZ cJ n kd sd ts fs tr on rp lt ru lg lp) (tyC cI cZ cJ) [.ref (ad 0), .int x1, .int x2] eIO) : LW l yL_sayers wsL_sayers rm_L_sayers D ((wC ad cI cZ cJ n kd sd ts fs tr on rp lt ru lg lp) ++ [(o, .inl (cJ, 1, .inr (.inl g)))]) ((wC ad cI cZ cJ n kd sd ts fs tr on rp lt ru lg lp) ++ [(o, .inl (cJ, 1, .inr (.inl g)))]) (tyC cI cZ cJ) [.ref (ad 0), .int x1, .int x2, .ref o] (nI 1) := by
  intro A sz
  refine metWH (cc := cL_sayers) (maxL := 5) (ret := some .int) (by decide) rfl ?_
  intro p e s m args below meth c s₁ B hml hv
  obtain ⟨rfl, rfl, hP, hK, hD, hXE, hTB⟩ := hv
  have hx := B.exec
  have hb := B.bytes
  have hr := B.returns
  have hts := atoms_spec (ws := wsL_sayers) B.pre
  have hown : s.vm.findClass RL = some m.cls := findClass_of_methodNamed B.named
  have hlocks := B.notSynchronized
  have hS : va_S (fun q => A q ∨ s.heap.size ≤ q) s.heap s.heap [] := va_S.rf
  have hl := lv_entry ([.ref (ad 0), .int x1, .int x2, .ref o]) (n := 5) (Nat.le_of_ble_eq_true rfl)
  rw [lg_entry_eq]
  generalize (lg_sl ([.ref (ad 0), .int x1, .int x2, .ref o]) ++ List.replicate (5 - (lg_sl ([.ref (ad 0), .int x1, .int x2, .ref o])).length) Slot.unset).toArray = ls at hl ⊢
  have hl : lv_has ls 5 [(0, .ref (ad 0)), (1, .int x1), (2, .int x2), (3, .ref o)] := hl
  have hPc := hP.l (w1 := (wC ad cI cZ cJ n kd sd ts fs tr on rp lt ru lg lp))
  have hDc := hD.l (w1 := (wC ad cI cZ cJ n kd sd ts fs tr on rp lt ru lg lp))
  have htab : c.exceptionTable.toList = [⟨0, 10, 13, 13⟩] := vx_table (x := yL_sayers) B (hts (.codeWith yL_sayers cL_sayers 5 (some .int) [(0, 10, 13, 13)]) List.mem_cons_self)
  refine lv_aload_n hx hb dL_sayers_0 rfl (lv_at hl 3 rfl) ?_
  refine lv_iconst (v := nI 0) hx hb dL_sayers_1 (by decide) ?_
  refine lv_aload_n hx hb dL_sayers_2 rfl (lv_at hl 0 rfl) ?_
  refine lv_iload_n hx hb dL_sayers_3 rfl (lv_at hl 1 rfl) ?_
  refine lv_iload_n hx hb dL_sayers_4 rfl (lv_at hl 2 rfl) ?_
  refine bd_C (own := RL) (As := [.int x1, .int x2]) (rest := [.int (nI 0), .ref o]) (C := RX0) (ci := 0) (q0 := 0) (A0 := fun q => A q ∨ s.heap.size ≤ q) ⟨hx, hb, hml, hown, hts⟩ hM gL_sayers_X0_sayers rfl ⟨rfl, rfl⟩ 2 rfl (by decide +kernel) ⟨Nat.le_of_ble_eq_true rfl, Nat.le_of_ble_eq_true rfl⟩ hPc hK rfl rfl rfl hXE hS (fun q h => Or.inr h) hl.1 rfl (Nat.le_of_ble_eq_true rfl) dL_sayers_5 ⟨Nat.le_of_ble_eq_true rfl, Nat.le_of_ble_eq_true rfl⟩ (fun q9 ce H locs hz1 hk1 hS hce hcv hcl => ?_)
  refine vx_catch (own := RL) (name := eIO) hown [] ⟨0, 10, 13, 13⟩ [] htab (fun _ h => absurd h List.not_mem_nil) (by decide) (by decide) (hts (.classLink RL 13 eIO) (by decide +kernel)) (castIO hXE) hce hcv hcl ?_
  refine W.eq (g2 := F0 m 13 ls [.ref q9]) rfl ?_
  refine lv_astore (lv' := [(4, .ref q9), (0, .ref (ad 0)), (1, .int x1), (2, .int x2), (3, .ref o)]) hx hb dL_sayers_13 hl (by decide) rfl (fun ls hl => ?_)
  refine lv_iconst (v := nI 1) hx hb dL_sayers_15 (by decide) ?_
  refine W.widen (k := 1) (n := 6) (Nat.le_of_ble_eq_true rfl) (Nat.le_of_ble_eq_true rfl) ?_
  exact W.zret hx hb hr (vp_nar_int _) (fun t ht hW => ⟨⟨_, (), rfl, rfl, by subst ht; exact keptP hP hk1⟩, hS.F ht⟩) hS.2.2 dL_sayers_16
def rm_L_matters : Room := { frames := 8, cells := 1, slots := 6, locals := 126 }
set_option maxHeartbeats 4000000 in
set_option maxRecDepth 100000 in
theorem k_matters_ok (l : Launch) (D : va_G) (ad : Nat → Nat) (cI cZ cJ : ClassId) (n : Nat) (kd : Nat → Nat) (sd : Nat → Bool) (ts : Nat → Int64) (fs : Nat → Int64) (tr : Nat → Nat) (on : Nat → Bool) (rp : Nat → Nat) (lt : Nat) (ru : Nat → Option Nat) (lg : Nat) (lp : Int64) (n' : Nat) (kd' : Nat → Nat) (sd' : Nat → Bool) (ts' : Nat → Int64) (fs' : Nat → Int64) (tr' : Nat → Nat) (on' : Nat → Bool) (rp' : Nat → Nat) (lt' : Nat) (ru' : Nat → Option Nat) (lg' : Nat) (lp' : Int64) (o : Nat) (g : Nat → Int64) (x1 x2 : Int32) (f : Int32) (hM : MuIe l yX0_matters wsX0_matters rm_X0_matters D vwCl (wC ad cI cZ cJ n kd sd ts fs tr on rp lt ru lg lp) (fun _ => (wC ad cI cZ cJ n' kd' sd' ts' fs' tr' on' rp' lt' ru' lg' lp')) (tyC cI cZ cJ) [.ref (ad 0), .int x1, .int x2] f) : LW l yL_matters wsL_matters rm_L_matters D ((wC ad cI cZ cJ n kd sd ts fs tr on rp lt ru lg lp) ++ [(o, .inl (cJ, 1, .inr (.inl g)))]) ((wC ad cI cZ cJ n' kd' sd' ts' fs' tr' on' rp' lt' ru' lg' lp') ++ [(o, .inl (cJ, 1, .inr (.inl (vp_updL g 0 (if f = 0 then 0 else 1)))))]) (tyC cI cZ cJ) [.ref (ad 0), .int x1, .int x2, .ref o] (nI 0) := by
  intro A sz
  refine metWH (cc := cL_matters) (maxL := 5) (ret := some .int) (by decide) rfl ?_
  intro p e s m args below meth c s₁ B hml hv
  obtain ⟨rfl, rfl, hP, hK, hD, hXE, hTB⟩ := hv
  have hx := B.exec
  have hb := B.bytes
  have hr := B.returns
  have hts := atoms_spec (ws := wsL_matters) B.pre
  have hown : s.vm.findClass RL = some m.cls := findClass_of_methodNamed B.named
  have hlocks := B.notSynchronized
  have hS : va_S (fun q => A q ∨ s.heap.size ≤ q) s.heap s.heap [] := va_S.rf
  have hl := lv_entry ([.ref (ad 0), .int x1, .int x2, .ref o]) (n := 5) (Nat.le_of_ble_eq_true rfl)
  rw [lg_entry_eq]
  generalize (lg_sl ([.ref (ad 0), .int x1, .int x2, .ref o]) ++ List.replicate (5 - (lg_sl ([.ref (ad 0), .int x1, .int x2, .ref o])).length) Slot.unset).toArray = ls at hl ⊢
  have hl : lv_has ls 5 [(0, .ref (ad 0)), (1, .int x1), (2, .int x2), (3, .ref o)] := hl
  have hPc := hP.l (w1 := (wC ad cI cZ cJ n kd sd ts fs tr on rp lt ru lg lp))
  have hDc := hD.l (w1 := (wC ad cI cZ cJ n kd sd ts fs tr on rp lt ru lg lp))
  refine lv_aload_n hx hb dL_matters_0 rfl (lv_at hl 3 rfl) ?_
  refine lv_iconst (v := nI 0) hx hb dL_matters_1 (by decide) ?_
  refine lv_aload_n hx hb dL_matters_2 rfl (lv_at hl 0 rfl) ?_
  refine lv_iload_n hx hb dL_matters_3 rfl (lv_at hl 1 rfl) ?_
  refine lv_iload_n hx hb dL_matters_4 rfl (lv_at hl 2 rfl) ?_
  refine muI_Ve (own := RL) (As := [.int x1, .int x2]) (rest := [.int (nI 0), .ref o]) (C := RX0) (ci := 0) (q0 := 0) (A1 := AW (wC ad cI cZ cJ n kd sd ts fs tr on rp lt ru lg lp)) (A0 := fun q => A q ∨ s.heap.size ≤ q) ⟨hx, hb, hml, hown, hts⟩ hM gL_matters_X0_matters rfl ⟨rfl, rfl⟩ 2 rfl (by decide +kernel) ⟨Nat.le_of_ble_eq_true rfl, Nat.le_of_ble_eq_true rfl⟩ hPc hK hDc.aw (hTB.narrow (fun q h => hDc.awA h)) (fun q h => Or.inl (hDc.awA h)) rfl rfl rfl hS hl.1 rfl (Nat.le_of_ble_eq_true rfl) dL_matters_5 ⟨Nat.zero_le _, Nat.zero_le _⟩ (fun u H locs hP2 hz1 hk1 hS => ?_)
  have hPo := (hP.r (w1 := (wC ad cI cZ cJ n kd sd ts fs tr on rp lt ru lg lp))).off hk1 (fun q h1 h2 => hD.dis h2 h1)
  have hPj := hP2.app hPo
  have hDj : va_D (fun q => A q ∨ s.heap.size ≤ q) ((wC ad cI cZ cJ n' kd' sd' ts' fs' tr' on' rp' lt' ru' lg' lp') ++ [(o, .inl (cJ, 1, .inr (.inl g)))]) := sameD2 (hD.weaken (fun _ _ _ h => Or.inl h)) rfl
  refine lv_if_eq (tgt := 15) hx hb dL_matters_8 (by decide) (fun c_1 => ?_) (fun c_1 => ?_)
  · refine lv_lconst (v := 0) hx hb dL_matters_15 (by decide) ?_
    refine st_nl hx hb hK hPj hDj hS 9 2 rfl rfl (j := 0) (by decide) (by decide) dL_matters_16 (fun H locs hP3 hD3 hS => ?_)
    replace hP3 : va_P D vwCl ((wC ad cI cZ cJ n' kd' sd' ts' fs' tr' on' rp' lt' ru' lg' lp') ++ [(o, .inl (cJ, 1, .inr (.inl (vp_updL g 0 (if f = 0 then 0 else 1)))))]) H := by rw [if_pos c_1]; exact hP3
    refine lv_goto (tgt := 24) hx hb dL_matters_17 (by decide) ?_
    refine lv_iconst (v := nI 0) hx hb dL_matters_24 (by decide) ?_
    refine W.widen (k := 1) (n := 6) (Nat.le_of_ble_eq_true rfl) (Nat.le_of_ble_eq_true rfl) ?_
    exact W.zret hx hb hr (vp_nar_int _) (fun t ht hW => ⟨⟨_, (), rfl, rfl, by subst ht; exact hP3⟩, hS.F ht⟩) hS.2.2 dL_matters_25
  · refine lv_lconst (v := 1) hx hb dL_matters_11 (by decide) ?_
    refine lv_goto (tgt := 16) hx hb dL_matters_12 (by decide) ?_
    refine st_nl hx hb hK hPj hDj hS 9 2 rfl rfl (j := 0) (by decide) (by decide) dL_matters_16 (fun H locs hP3 hD3 hS => ?_)
    replace hP3 : va_P D vwCl ((wC ad cI cZ cJ n' kd' sd' ts' fs' tr' on' rp' lt' ru' lg' lp') ++ [(o, .inl (cJ, 1, .inr (.inl (vp_updL g 0 (if f = 0 then 0 else 1)))))]) H := by rw [if_neg c_1]; exact hP3
    refine lv_goto (tgt := 24) hx hb dL_matters_17 (by decide) ?_
    refine lv_iconst (v := nI 0) hx hb dL_matters_24 (by decide) ?_
    refine W.widen (k := 1) (n := 6) (Nat.le_of_ble_eq_true rfl) (Nat.le_of_ble_eq_true rfl) ?_
    exact W.zret hx hb hr (vp_nar_int _) (fun t ht hW => ⟨⟨_, (), rfl, rfl, by subst ht; exact hP3⟩, hS.F ht⟩) hS.2.2 dL_matters_25
set_option maxHeartbeats 4000000 in
set_option maxRecDepth 100000 in
theorem k_matters_b1 (l : Launch) (D : va_G) (ad : Nat → Nat) (cI cZ cJ : ClassId) (n : Nat) (kd : Nat → Nat) (sd : Nat → Bool) (ts : Nat → Int64) (fs : Nat → Int64) (tr : Nat → Nat) (on : Nat → Bool) (rp : Nat → Nat) (lt : Nat) (ru : Nat → Option Nat) (lg : Nat) (lp : Int64) (o : Nat) (g : Nat → Int64) (x1 x2 : Int32) (hM : Bd l yX0_matters wsX0_matters rb_X0_matters D vwCl (wC ad cI cZ cJ n kd sd ts fs tr on rp lt ru lg lp) (tyC cI cZ cJ) [.ref (ad 0), .int x1, .int x2] eIO) : LW l yL_matters wsL_matters rm_L_matters D ((wC ad cI cZ cJ n kd sd ts fs tr on rp lt ru lg lp) ++ [(o, .inl (cJ, 1, .inr (.inl g)))]) ((wC ad cI cZ cJ n kd sd ts fs tr on rp lt ru lg lp) ++ [(o, .inl (cJ, 1, .inr (.inl g)))]) (tyC cI cZ cJ) [.ref (ad 0), .int x1, .int x2, .ref o] (nI 1) := by
  intro A sz
  refine metWH (cc := cL_matters) (maxL := 5) (ret := some .int) (by decide) rfl ?_
  intro p e s m args below meth c s₁ B hml hv
  obtain ⟨rfl, rfl, hP, hK, hD, hXE, hTB⟩ := hv
  have hx := B.exec
  have hb := B.bytes
  have hr := B.returns
  have hts := atoms_spec (ws := wsL_matters) B.pre
  have hown : s.vm.findClass RL = some m.cls := findClass_of_methodNamed B.named
  have hlocks := B.notSynchronized
  have hS : va_S (fun q => A q ∨ s.heap.size ≤ q) s.heap s.heap [] := va_S.rf
  have hl := lv_entry ([.ref (ad 0), .int x1, .int x2, .ref o]) (n := 5) (Nat.le_of_ble_eq_true rfl)
  rw [lg_entry_eq]
  generalize (lg_sl ([.ref (ad 0), .int x1, .int x2, .ref o]) ++ List.replicate (5 - (lg_sl ([.ref (ad 0), .int x1, .int x2, .ref o])).length) Slot.unset).toArray = ls at hl ⊢
  have hl : lv_has ls 5 [(0, .ref (ad 0)), (1, .int x1), (2, .int x2), (3, .ref o)] := hl
  have hPc := hP.l (w1 := (wC ad cI cZ cJ n kd sd ts fs tr on rp lt ru lg lp))
  have hDc := hD.l (w1 := (wC ad cI cZ cJ n kd sd ts fs tr on rp lt ru lg lp))
  have htab : c.exceptionTable.toList = [⟨0, 17, 20, 13⟩] := vx_table (x := yL_matters) B (hts (.codeWith yL_matters cL_matters 5 (some .int) [(0, 17, 20, 13)]) List.mem_cons_self)
  refine lv_aload_n hx hb dL_matters_0 rfl (lv_at hl 3 rfl) ?_
  refine lv_iconst (v := nI 0) hx hb dL_matters_1 (by decide) ?_
  refine lv_aload_n hx hb dL_matters_2 rfl (lv_at hl 0 rfl) ?_
  refine lv_iload_n hx hb dL_matters_3 rfl (lv_at hl 1 rfl) ?_
  refine lv_iload_n hx hb dL_matters_4 rfl (lv_at hl 2 rfl) ?_
  refine bd_C (own := RL) (As := [.int x1, .int x2]) (rest := [.int (nI 0), .ref o]) (C := RX0) (ci := 0) (q0 := 0) (A0 := fun q => A q ∨ s.heap.size ≤ q) ⟨hx, hb, hml, hown, hts⟩ hM gL_matters_X0_matters rfl ⟨rfl, rfl⟩ 2 rfl (by decide +kernel) ⟨Nat.le_of_ble_eq_true rfl, Nat.le_of_ble_eq_true rfl⟩ hPc hK rfl rfl rfl hXE hS (fun q h => Or.inr h) hl.1 rfl (Nat.le_of_ble_eq_true rfl) dL_matters_5 ⟨Nat.le_of_ble_eq_true rfl, Nat.le_of_ble_eq_true rfl⟩ (fun q9 ce H locs hz1 hk1 hS hce hcv hcl => ?_)
  refine vx_catch (own := RL) (name := eIO) hown [] ⟨0, 17, 20, 13⟩ [] htab (fun _ h => absurd h List.not_mem_nil) (by decide) (by decide) (hts (.classLink RL 13 eIO) (by decide +kernel)) (castIO hXE) hce hcv hcl ?_
  refine W.eq (g2 := F0 m 20 ls [.ref q9]) rfl ?_
  refine lv_astore (lv' := [(4, .ref q9), (0, .ref (ad 0)), (1, .int x1), (2, .int x2), (3, .ref o)]) hx hb dL_matters_20 hl (by decide) rfl (fun ls hl => ?_)
  refine lv_iconst (v := nI 1) hx hb dL_matters_22 (by decide) ?_
  refine W.widen (k := 1) (n := 6) (Nat.le_of_ble_eq_true rfl) (Nat.le_of_ble_eq_true rfl) ?_
  exact W.zret hx hb hr (vp_nar_int _) (fun t ht hW => ⟨⟨_, (), rfl, rfl, by subst ht; exact keptP hP hk1⟩, hS.F ht⟩) hS.2.2 dL_matters_23
def rm_L_contradicted : Room := { frames := 8, cells := 1, slots := 6, locals := 139 }
set_option maxHeartbeats 4000000 in
set_option maxRecDepth 100000 in
theorem k_contradicted_ok (l : Launch) (D : va_G) (ad : Nat → Nat) (cI cZ cJ : ClassId) (n : Nat) (kd : Nat → Nat) (sd : Nat → Bool) (ts : Nat → Int64) (fs : Nat → Int64) (tr : Nat → Nat) (on : Nat → Bool) (rp : Nat → Nat) (lt : Nat) (ru : Nat → Option Nat) (lg : Nat) (lp : Int64) (n' : Nat) (kd' : Nat → Nat) (sd' : Nat → Bool) (ts' : Nat → Int64) (fs' : Nat → Int64) (tr' : Nat → Nat) (on' : Nat → Bool) (rp' : Nat → Nat) (lt' : Nat) (ru' : Nat → Option Nat) (lg' : Nat) (lp' : Int64) (o : Nat) (g : Nat → Int64) (x1 : Int32) (f : Int32) (hM : MuIe l yX0_contradicted wsX0_contradicted rm_X0_contradicted D vwCl (wC ad cI cZ cJ n kd sd ts fs tr on rp lt ru lg lp) (fun _ => (wC ad cI cZ cJ n' kd' sd' ts' fs' tr' on' rp' lt' ru' lg' lp')) (tyC cI cZ cJ) [.ref (ad 0), .int x1] f) : LW l yL_contradicted wsL_contradicted rm_L_contradicted D ((wC ad cI cZ cJ n kd sd ts fs tr on rp lt ru lg lp) ++ [(o, .inl (cJ, 1, .inr (.inl g)))]) ((wC ad cI cZ cJ n' kd' sd' ts' fs' tr' on' rp' lt' ru' lg' lp') ++ [(o, .inl (cJ, 1, .inr (.inl (vp_updL g 0 f.toInt64))))]) (tyC cI cZ cJ) [.ref (ad 0), .int x1, .ref o] (nI 0) := by
  intro A sz
  refine metWH (cc := cL_contradicted) (maxL := 4) (ret := some .int) (by decide) rfl ?_
  intro p e s m args below meth c s₁ B hml hv
  obtain ⟨rfl, rfl, hP, hK, hD, hXE, hTB⟩ := hv
  have hx := B.exec
  have hb := B.bytes
  have hr := B.returns
  have hts := atoms_spec (ws := wsL_contradicted) B.pre
  have hown : s.vm.findClass RL = some m.cls := findClass_of_methodNamed B.named
  have hlocks := B.notSynchronized
  have hS : va_S (fun q => A q ∨ s.heap.size ≤ q) s.heap s.heap [] := va_S.rf
  have hl := lv_entry ([.ref (ad 0), .int x1, .ref o]) (n := 4) (Nat.le_of_ble_eq_true rfl)
  rw [lg_entry_eq]
  generalize (lg_sl ([.ref (ad 0), .int x1, .ref o]) ++ List.replicate (4 - (lg_sl ([.ref (ad 0), .int x1, .ref o])).length) Slot.unset).toArray = ls at hl ⊢
  have hl : lv_has ls 4 [(0, .ref (ad 0)), (1, .int x1), (2, .ref o)] := hl
  have hPc := hP.l (w1 := (wC ad cI cZ cJ n kd sd ts fs tr on rp lt ru lg lp))
  have hDc := hD.l (w1 := (wC ad cI cZ cJ n kd sd ts fs tr on rp lt ru lg lp))
  refine lv_aload_n hx hb dL_contradicted_0 rfl (lv_at hl 2 rfl) ?_
  refine lv_iconst (v := nI 0) hx hb dL_contradicted_1 (by decide) ?_
  refine lv_aload_n hx hb dL_contradicted_2 rfl (lv_at hl 0 rfl) ?_
  refine lv_iload_n hx hb dL_contradicted_3 rfl (lv_at hl 1 rfl) ?_
  refine muI_Ve (own := RL) (As := [.int x1]) (rest := [.int (nI 0), .ref o]) (C := RX0) (ci := 0) (q0 := 0) (A1 := AW (wC ad cI cZ cJ n kd sd ts fs tr on rp lt ru lg lp)) (A0 := fun q => A q ∨ s.heap.size ≤ q) ⟨hx, hb, hml, hown, hts⟩ hM gL_contradicted_X0_contradicted rfl ⟨rfl, rfl⟩ 1 rfl (by decide +kernel) ⟨Nat.le_of_ble_eq_true rfl, Nat.le_of_ble_eq_true rfl⟩ hPc hK hDc.aw (hTB.narrow (fun q h => hDc.awA h)) (fun q h => Or.inl (hDc.awA h)) rfl rfl rfl hS hl.1 rfl (Nat.le_of_ble_eq_true rfl) dL_contradicted_4 ⟨Nat.zero_le _, Nat.zero_le _⟩ (fun u H locs hP2 hz1 hk1 hS => ?_)
  have hPo := (hP.r (w1 := (wC ad cI cZ cJ n kd sd ts fs tr on rp lt ru lg lp))).off hk1 (fun q h1 h2 => hD.dis h2 h1)
  have hPj := hP2.app hPo
  have hDj : va_D (fun q => A q ∨ s.heap.size ≤ q) ((wC ad cI cZ cJ n' kd' sd' ts' fs' tr' on' rp' lt' ru' lg' lp') ++ [(o, .inl (cJ, 1, .inr (.inl g)))]) := sameD2 (hD.weaken (fun _ _ _ h => Or.inl h)) rfl
  refine lv_i2l (v := f.toInt64) hx hb dL_contradicted_7 rfl ?_
  refine st_nl hx hb hK hPj hDj hS 9 2 rfl rfl (j := 0) (by decide) (by decide) dL_contradicted_8 (fun H locs hP3 hD3 hS => ?_)
  replace hP3 : va_P D vwCl ((wC ad cI cZ cJ n' kd' sd' ts' fs' tr' on' rp' lt' ru' lg' lp') ++ [(o, .inl (cJ, 1, .inr (.inl (vp_updL g 0 f.toInt64))))]) H := by exact hP3
  refine lv_goto (tgt := 15) hx hb dL_contradicted_9 (by decide) ?_
  refine lv_iconst (v := nI 0) hx hb dL_contradicted_15 (by decide) ?_
  refine W.widen (k := 1) (n := 6) (Nat.le_of_ble_eq_true rfl) (Nat.le_of_ble_eq_true rfl) ?_
  exact W.zret hx hb hr (vp_nar_int _) (fun t ht hW => ⟨⟨_, (), rfl, rfl, by subst ht; exact hP3⟩, hS.F ht⟩) hS.2.2 dL_contradicted_16
set_option maxHeartbeats 4000000 in
set_option maxRecDepth 100000 in
theorem k_contradicted_b1 (l : Launch) (D : va_G) (ad : Nat → Nat) (cI cZ cJ : ClassId) (n : Nat) (kd : Nat → Nat) (sd : Nat → Bool) (ts : Nat → Int64) (fs : Nat → Int64) (tr : Nat → Nat) (on : Nat → Bool) (rp : Nat → Nat) (lt : Nat) (ru : Nat → Option Nat) (lg : Nat) (lp : Int64) (o : Nat) (g : Nat → Int64) (x1 : Int32) (hM : Bd l yX0_contradicted wsX0_contradicted rb_X0_contradicted D vwCl (wC ad cI cZ cJ n kd sd ts fs tr on rp lt ru lg lp) (tyC cI cZ cJ) [.ref (ad 0), .int x1] eIO) : LW l yL_contradicted wsL_contradicted rm_L_contradicted D ((wC ad cI cZ cJ n kd sd ts fs tr on rp lt ru lg lp) ++ [(o, .inl (cJ, 1, .inr (.inl g)))]) ((wC ad cI cZ cJ n kd sd ts fs tr on rp lt ru lg lp) ++ [(o, .inl (cJ, 1, .inr (.inl g)))]) (tyC cI cZ cJ) [.ref (ad 0), .int x1, .ref o] (nI 1) := by
  intro A sz
  refine metWH (cc := cL_contradicted) (maxL := 4) (ret := some .int) (by decide) rfl ?_
  intro p e s m args below meth c s₁ B hml hv
  obtain ⟨rfl, rfl, hP, hK, hD, hXE, hTB⟩ := hv
  have hx := B.exec
  have hb := B.bytes
  have hr := B.returns
  have hts := atoms_spec (ws := wsL_contradicted) B.pre
  have hown : s.vm.findClass RL = some m.cls := findClass_of_methodNamed B.named
  have hlocks := B.notSynchronized
  have hS : va_S (fun q => A q ∨ s.heap.size ≤ q) s.heap s.heap [] := va_S.rf
  have hl := lv_entry ([.ref (ad 0), .int x1, .ref o]) (n := 4) (Nat.le_of_ble_eq_true rfl)
  rw [lg_entry_eq]
  generalize (lg_sl ([.ref (ad 0), .int x1, .ref o]) ++ List.replicate (4 - (lg_sl ([.ref (ad 0), .int x1, .ref o])).length) Slot.unset).toArray = ls at hl ⊢
  have hl : lv_has ls 4 [(0, .ref (ad 0)), (1, .int x1), (2, .ref o)] := hl
  have hPc := hP.l (w1 := (wC ad cI cZ cJ n kd sd ts fs tr on rp lt ru lg lp))
  have hDc := hD.l (w1 := (wC ad cI cZ cJ n kd sd ts fs tr on rp lt ru lg lp))
  have htab : c.exceptionTable.toList = [⟨0, 9, 12, 13⟩] := vx_table (x := yL_contradicted) B (hts (.codeWith yL_contradicted cL_contradicted 4 (some .int) [(0, 9, 12, 13)]) List.mem_cons_self)
  refine lv_aload_n hx hb dL_contradicted_0 rfl (lv_at hl 2 rfl) ?_
  refine lv_iconst (v := nI 0) hx hb dL_contradicted_1 (by decide) ?_
  refine lv_aload_n hx hb dL_contradicted_2 rfl (lv_at hl 0 rfl) ?_
  refine lv_iload_n hx hb dL_contradicted_3 rfl (lv_at hl 1 rfl) ?_
  refine bd_C (own := RL) (As := [.int x1]) (rest := [.int (nI 0), .ref o]) (C := RX0) (ci := 0) (q0 := 0) (A0 := fun q => A q ∨ s.heap.size ≤ q) ⟨hx, hb, hml, hown, hts⟩ hM gL_contradicted_X0_contradicted rfl ⟨rfl, rfl⟩ 1 rfl (by decide +kernel) ⟨Nat.le_of_ble_eq_true rfl, Nat.le_of_ble_eq_true rfl⟩ hPc hK rfl rfl rfl hXE hS (fun q h => Or.inr h) hl.1 rfl (Nat.le_of_ble_eq_true rfl) dL_contradicted_4 ⟨Nat.le_of_ble_eq_true rfl, Nat.le_of_ble_eq_true rfl⟩ (fun q9 ce H locs hz1 hk1 hS hce hcv hcl => ?_)
  refine vx_catch (own := RL) (name := eIO) hown [] ⟨0, 9, 12, 13⟩ [] htab (fun _ h => absurd h List.not_mem_nil) (by decide) (by decide) (hts (.classLink RL 13 eIO) (by decide +kernel)) (castIO hXE) hce hcv hcl ?_
  refine W.eq (g2 := F0 m 12 ls [.ref q9]) rfl ?_
  refine lv_astore_n (lv' := [(3, .ref q9), (0, .ref (ad 0)), (1, .int x1), (2, .ref o)]) hx hb dL_contradicted_12 rfl hl (by decide) rfl (fun ls hl => ?_)
  refine lv_iconst (v := nI 1) hx hb dL_contradicted_13 (by decide) ?_
  refine W.widen (k := 1) (n := 6) (Nat.le_of_ble_eq_true rfl) (Nat.le_of_ble_eq_true rfl) ?_
  exact W.zret hx hb hr (vp_nar_int _) (fun t ht hW => ⟨⟨_, (), rfl, rfl, by subst ht; exact keptP hP hk1⟩, hS.F ht⟩) hS.2.2 dL_contradicted_14
def rm_L_setLogic : Room := { frames := 7, cells := 1, slots := 6, locals := 104 }
set_option maxHeartbeats 4000000 in
set_option maxRecDepth 100000 in
theorem k_setLogic_ok (l : Launch) (D : va_G) (ad : Nat → Nat) (cI cZ cJ : ClassId) (n : Nat) (kd : Nat → Nat) (sd : Nat → Bool) (ts : Nat → Int64) (fs : Nat → Int64) (tr : Nat → Nat) (on : Nat → Bool) (rp : Nat → Nat) (lt : Nat) (ru : Nat → Option Nat) (lg : Nat) (lp : Int64) (n' : Nat) (kd' : Nat → Nat) (sd' : Nat → Bool) (ts' : Nat → Int64) (fs' : Nat → Int64) (tr' : Nat → Nat) (on' : Nat → Bool) (rp' : Nat → Nat) (lt' : Nat) (ru' : Nat → Option Nat) (lg' : Nat) (lp' : Int64) (o : Nat) (g : Nat → Int64) (x1 : Int32) (f : Int32) (hM : MuIe l yX0_setLogic wsX0_setLogic rm_X0_setLogic D vwCl (wC ad cI cZ cJ n kd sd ts fs tr on rp lt ru lg lp) (fun _ => (wC ad cI cZ cJ n' kd' sd' ts' fs' tr' on' rp' lt' ru' lg' lp')) (tyC cI cZ cJ) [.ref (ad 0), .int x1] f) : LW l yL_setLogic wsL_setLogic rm_L_setLogic D ((wC ad cI cZ cJ n kd sd ts fs tr on rp lt ru lg lp) ++ [(o, .inl (cJ, 1, .inr (.inl g)))]) ((wC ad cI cZ cJ n' kd' sd' ts' fs' tr' on' rp' lt' ru' lg' lp') ++ [(o, .inl (cJ, 1, .inr (.inl (vp_updL g 0 f.toInt64))))]) (tyC cI cZ cJ) [.ref (ad 0), .int x1, .ref o] (nI 0) := by
  intro A sz
  refine metWH (cc := cL_setLogic) (maxL := 4) (ret := some .int) (by decide) rfl ?_
  intro p e s m args below meth c s₁ B hml hv
  obtain ⟨rfl, rfl, hP, hK, hD, hXE, hTB⟩ := hv
  have hx := B.exec
  have hb := B.bytes
  have hr := B.returns
  have hts := atoms_spec (ws := wsL_setLogic) B.pre
  have hown : s.vm.findClass RL = some m.cls := findClass_of_methodNamed B.named
  have hlocks := B.notSynchronized
  have hS : va_S (fun q => A q ∨ s.heap.size ≤ q) s.heap s.heap [] := va_S.rf
  have hl := lv_entry ([.ref (ad 0), .int x1, .ref o]) (n := 4) (Nat.le_of_ble_eq_true rfl)
  rw [lg_entry_eq]
  generalize (lg_sl ([.ref (ad 0), .int x1, .ref o]) ++ List.replicate (4 - (lg_sl ([.ref (ad 0), .int x1, .ref o])).length) Slot.unset).toArray = ls at hl ⊢
  have hl : lv_has ls 4 [(0, .ref (ad 0)), (1, .int x1), (2, .ref o)] := hl
  have hPc := hP.l (w1 := (wC ad cI cZ cJ n kd sd ts fs tr on rp lt ru lg lp))
  have hDc := hD.l (w1 := (wC ad cI cZ cJ n kd sd ts fs tr on rp lt ru lg lp))
  refine lv_aload_n hx hb dL_setLogic_0 rfl (lv_at hl 2 rfl) ?_
  refine lv_iconst (v := nI 0) hx hb dL_setLogic_1 (by decide) ?_
  refine lv_aload_n hx hb dL_setLogic_2 rfl (lv_at hl 0 rfl) ?_
  refine lv_iload_n hx hb dL_setLogic_3 rfl (lv_at hl 1 rfl) ?_
  refine muI_Ve (own := RL) (As := [.int x1]) (rest := [.int (nI 0), .ref o]) (C := RX0) (ci := 0) (q0 := 0) (A1 := AW (wC ad cI cZ cJ n kd sd ts fs tr on rp lt ru lg lp)) (A0 := fun q => A q ∨ s.heap.size ≤ q) ⟨hx, hb, hml, hown, hts⟩ hM gL_setLogic_X0_setLogic rfl ⟨rfl, rfl⟩ 1 rfl (by decide +kernel) ⟨Nat.le_of_ble_eq_true rfl, Nat.le_of_ble_eq_true rfl⟩ hPc hK hDc.aw (hTB.narrow (fun q h => hDc.awA h)) (fun q h => Or.inl (hDc.awA h)) rfl rfl rfl hS hl.1 rfl (Nat.le_of_ble_eq_true rfl) dL_setLogic_4 ⟨Nat.zero_le _, Nat.zero_le _⟩ (fun u H locs hP2 hz1 hk1 hS => ?_)
  have hPo := (hP.r (w1 := (wC ad cI cZ cJ n kd sd ts fs tr on rp lt ru lg lp))).off hk1 (fun q h1 h2 => hD.dis h2 h1)
  have hPj := hP2.app hPo
  have hDj : va_D (fun q => A q ∨ s.heap.size ≤ q) ((wC ad cI cZ cJ n' kd' sd' ts' fs' tr' on' rp' lt' ru' lg' lp') ++ [(o, .inl (cJ, 1, .inr (.inl g)))]) := sameD2 (hD.weaken (fun _ _ _ h => Or.inl h)) rfl
  refine lv_i2l (v := f.toInt64) hx hb dL_setLogic_7 rfl ?_
  refine st_nl hx hb hK hPj hDj hS 9 2 rfl rfl (j := 0) (by decide) (by decide) dL_setLogic_8 (fun H locs hP3 hD3 hS => ?_)
  replace hP3 : va_P D vwCl ((wC ad cI cZ cJ n' kd' sd' ts' fs' tr' on' rp' lt' ru' lg' lp') ++ [(o, .inl (cJ, 1, .inr (.inl (vp_updL g 0 f.toInt64))))]) H := by exact hP3
  refine lv_goto (tgt := 15) hx hb dL_setLogic_9 (by decide) ?_
  refine lv_iconst (v := nI 0) hx hb dL_setLogic_15 (by decide) ?_
  refine W.widen (k := 1) (n := 6) (Nat.le_of_ble_eq_true rfl) (Nat.le_of_ble_eq_true rfl) ?_
  exact W.zret hx hb hr (vp_nar_int _) (fun t ht hW => ⟨⟨_, (), rfl, rfl, by subst ht; exact hP3⟩, hS.F ht⟩) hS.2.2 dL_setLogic_16
set_option maxHeartbeats 4000000 in
set_option maxRecDepth 100000 in
theorem k_setLogic_b1 (l : Launch) (D : va_G) (ad : Nat → Nat) (cI cZ cJ : ClassId) (n : Nat) (kd : Nat → Nat) (sd : Nat → Bool) (ts : Nat → Int64) (fs : Nat → Int64) (tr : Nat → Nat) (on : Nat → Bool) (rp : Nat → Nat) (lt : Nat) (ru : Nat → Option Nat) (lg : Nat) (lp : Int64) (o : Nat) (g : Nat → Int64) (x1 : Int32) (hM : Bd l yX0_setLogic wsX0_setLogic rb_X0_setLogic D vwCl (wC ad cI cZ cJ n kd sd ts fs tr on rp lt ru lg lp) (tyC cI cZ cJ) [.ref (ad 0), .int x1] eIA) : LW l yL_setLogic wsL_setLogic rm_L_setLogic D ((wC ad cI cZ cJ n kd sd ts fs tr on rp lt ru lg lp) ++ [(o, .inl (cJ, 1, .inr (.inl g)))]) ((wC ad cI cZ cJ n kd sd ts fs tr on rp lt ru lg lp) ++ [(o, .inl (cJ, 1, .inr (.inl g)))]) (tyC cI cZ cJ) [.ref (ad 0), .int x1, .ref o] (nI 1) := by
  intro A sz
  refine metWH (cc := cL_setLogic) (maxL := 4) (ret := some .int) (by decide) rfl ?_
  intro p e s m args below meth c s₁ B hml hv
  obtain ⟨rfl, rfl, hP, hK, hD, hXE, hTB⟩ := hv
  have hx := B.exec
  have hb := B.bytes
  have hr := B.returns
  have hts := atoms_spec (ws := wsL_setLogic) B.pre
  have hown : s.vm.findClass RL = some m.cls := findClass_of_methodNamed B.named
  have hlocks := B.notSynchronized
  have hS : va_S (fun q => A q ∨ s.heap.size ≤ q) s.heap s.heap [] := va_S.rf
  have hl := lv_entry ([.ref (ad 0), .int x1, .ref o]) (n := 4) (Nat.le_of_ble_eq_true rfl)
  rw [lg_entry_eq]
  generalize (lg_sl ([.ref (ad 0), .int x1, .ref o]) ++ List.replicate (4 - (lg_sl ([.ref (ad 0), .int x1, .ref o])).length) Slot.unset).toArray = ls at hl ⊢
  have hl : lv_has ls 4 [(0, .ref (ad 0)), (1, .int x1), (2, .ref o)] := hl
  have hPc := hP.l (w1 := (wC ad cI cZ cJ n kd sd ts fs tr on rp lt ru lg lp))
  have hDc := hD.l (w1 := (wC ad cI cZ cJ n kd sd ts fs tr on rp lt ru lg lp))
  have htab : c.exceptionTable.toList = [⟨0, 9, 12, 20⟩] := vx_table (x := yL_setLogic) B (hts (.codeWith yL_setLogic cL_setLogic 4 (some .int) [(0, 9, 12, 20)]) List.mem_cons_self)
  refine lv_aload_n hx hb dL_setLogic_0 rfl (lv_at hl 2 rfl) ?_
  refine lv_iconst (v := nI 0) hx hb dL_setLogic_1 (by decide) ?_
  refine lv_aload_n hx hb dL_setLogic_2 rfl (lv_at hl 0 rfl) ?_
  refine lv_iload_n hx hb dL_setLogic_3 rfl (lv_at hl 1 rfl) ?_
  refine bd_C (own := RL) (As := [.int x1]) (rest := [.int (nI 0), .ref o]) (C := RX0) (ci := 0) (q0 := 0) (A0 := fun q => A q ∨ s.heap.size ≤ q) ⟨hx, hb, hml, hown, hts⟩ hM gL_setLogic_X0_setLogic rfl ⟨rfl, rfl⟩ 1 rfl (by decide +kernel) ⟨Nat.le_of_ble_eq_true rfl, Nat.le_of_ble_eq_true rfl⟩ hPc hK rfl rfl rfl hXE hS (fun q h => Or.inr h) hl.1 rfl (Nat.le_of_ble_eq_true rfl) dL_setLogic_4 ⟨Nat.le_of_ble_eq_true rfl, Nat.le_of_ble_eq_true rfl⟩ (fun q9 ce H locs hz1 hk1 hS hce hcv hcl => ?_)
  refine vx_catch (own := RL) (name := eIA) hown [] ⟨0, 9, 12, 20⟩ [] htab (fun _ h => absurd h List.not_mem_nil) (by decide) (by decide) (hts (.classLink RL 20 eIA) (by decide +kernel)) (castIA hXE) hce hcv hcl ?_
  refine W.eq (g2 := F0 m 12 ls [.ref q9]) rfl ?_
  refine lv_astore_n (lv' := [(3, .ref q9), (0, .ref (ad 0)), (1, .int x1), (2, .ref o)]) hx hb dL_setLogic_12 rfl hl (by decide) rfl (fun ls hl => ?_)
  refine lv_iconst (v := nI 1) hx hb dL_setLogic_13 (by decide) ?_
  refine W.widen (k := 1) (n := 6) (Nat.le_of_ble_eq_true rfl) (Nat.le_of_ble_eq_true rfl) ?_
  exact W.zret hx hb hr (vp_nar_int _) (fun t ht hW => ⟨⟨_, (), rfl, rfl, by subst ht; exact keptP hP hk1⟩, hS.F ht⟩) hS.2.2 dL_setLogic_14
def rm_L_models : Room := { frames := 8, cells := 1, slots := 6, locals := 127 }
set_option maxHeartbeats 4000000 in
set_option maxRecDepth 100000 in
theorem k_models_ok (l : Launch) (D : va_G) (ad : Nat → Nat) (cI cZ cJ : ClassId) (n : Nat) (kd : Nat → Nat) (sd : Nat → Bool) (ts : Nat → Int64) (fs : Nat → Int64) (tr : Nat → Nat) (on : Nat → Bool) (rp : Nat → Nat) (lt : Nat) (ru : Nat → Option Nat) (lg : Nat) (lp : Int64) (n' : Nat) (kd' : Nat → Nat) (sd' : Nat → Bool) (ts' : Nat → Int64) (fs' : Nat → Int64) (tr' : Nat → Nat) (on' : Nat → Bool) (rp' : Nat → Nat) (lt' : Nat) (ru' : Nat → Option Nat) (lg' : Nat) (lp' : Int64) (o : Nat) (g : Nat → Int64) (x1 : Int32) (f : Int32) (hM : MuIe l yX0_models wsX0_models rm_X0_models D vwCl (wC ad cI cZ cJ n kd sd ts fs tr on rp lt ru lg lp) (fun _ => (wC ad cI cZ cJ n' kd' sd' ts' fs' tr' on' rp' lt' ru' lg' lp')) (tyC cI cZ cJ) [.ref (ad 0), .int x1] f) : LW l yL_models wsL_models rm_L_models D ((wC ad cI cZ cJ n kd sd ts fs tr on rp lt ru lg lp) ++ [(o, .inl (cJ, 1, .inr (.inl g)))]) ((wC ad cI cZ cJ n' kd' sd' ts' fs' tr' on' rp' lt' ru' lg' lp') ++ [(o, .inl (cJ, 1, .inr (.inl (vp_updL g 0 f.toInt64))))]) (tyC cI cZ cJ) [.ref (ad 0), .int x1, .ref o] (nI 0) := by
  intro A sz
  refine metWH (cc := cL_models) (maxL := 4) (ret := some .int) (by decide) rfl ?_
  intro p e s m args below meth c s₁ B hml hv
  obtain ⟨rfl, rfl, hP, hK, hD, hXE, hTB⟩ := hv
  have hx := B.exec
  have hb := B.bytes
  have hr := B.returns
  have hts := atoms_spec (ws := wsL_models) B.pre
  have hown : s.vm.findClass RL = some m.cls := findClass_of_methodNamed B.named
  have hlocks := B.notSynchronized
  have hS : va_S (fun q => A q ∨ s.heap.size ≤ q) s.heap s.heap [] := va_S.rf
  have hl := lv_entry ([.ref (ad 0), .int x1, .ref o]) (n := 4) (Nat.le_of_ble_eq_true rfl)
  rw [lg_entry_eq]
  generalize (lg_sl ([.ref (ad 0), .int x1, .ref o]) ++ List.replicate (4 - (lg_sl ([.ref (ad 0), .int x1, .ref o])).length) Slot.unset).toArray = ls at hl ⊢
  have hl : lv_has ls 4 [(0, .ref (ad 0)), (1, .int x1), (2, .ref o)] := hl
  have hPc := hP.l (w1 := (wC ad cI cZ cJ n kd sd ts fs tr on rp lt ru lg lp))
  have hDc := hD.l (w1 := (wC ad cI cZ cJ n kd sd ts fs tr on rp lt ru lg lp))
  refine lv_aload_n hx hb dL_models_0 rfl (lv_at hl 2 rfl) ?_
  refine lv_iconst (v := nI 0) hx hb dL_models_1 (by decide) ?_
  refine lv_aload_n hx hb dL_models_2 rfl (lv_at hl 0 rfl) ?_
  refine lv_iload_n hx hb dL_models_3 rfl (lv_at hl 1 rfl) ?_
  refine muI_Ve (own := RL) (As := [.int x1]) (rest := [.int (nI 0), .ref o]) (C := RX0) (ci := 0) (q0 := 0) (A1 := AW (wC ad cI cZ cJ n kd sd ts fs tr on rp lt ru lg lp)) (A0 := fun q => A q ∨ s.heap.size ≤ q) ⟨hx, hb, hml, hown, hts⟩ hM gL_models_X0_models rfl ⟨rfl, rfl⟩ 1 rfl (by decide +kernel) ⟨Nat.le_of_ble_eq_true rfl, Nat.le_of_ble_eq_true rfl⟩ hPc hK hDc.aw (hTB.narrow (fun q h => hDc.awA h)) (fun q h => Or.inl (hDc.awA h)) rfl rfl rfl hS hl.1 rfl (Nat.le_of_ble_eq_true rfl) dL_models_4 ⟨Nat.zero_le _, Nat.zero_le _⟩ (fun u H locs hP2 hz1 hk1 hS => ?_)
  have hPo := (hP.r (w1 := (wC ad cI cZ cJ n kd sd ts fs tr on rp lt ru lg lp))).off hk1 (fun q h1 h2 => hD.dis h2 h1)
  have hPj := hP2.app hPo
  have hDj : va_D (fun q => A q ∨ s.heap.size ≤ q) ((wC ad cI cZ cJ n' kd' sd' ts' fs' tr' on' rp' lt' ru' lg' lp') ++ [(o, .inl (cJ, 1, .inr (.inl g)))]) := sameD2 (hD.weaken (fun _ _ _ h => Or.inl h)) rfl
  refine lv_i2l (v := f.toInt64) hx hb dL_models_7 rfl ?_
  refine st_nl hx hb hK hPj hDj hS 9 2 rfl rfl (j := 0) (by decide) (by decide) dL_models_8 (fun H locs hP3 hD3 hS => ?_)
  replace hP3 : va_P D vwCl ((wC ad cI cZ cJ n' kd' sd' ts' fs' tr' on' rp' lt' ru' lg' lp') ++ [(o, .inl (cJ, 1, .inr (.inl (vp_updL g 0 f.toInt64))))]) H := by exact hP3
  refine lv_goto (tgt := 15) hx hb dL_models_9 (by decide) ?_
  refine lv_iconst (v := nI 0) hx hb dL_models_15 (by decide) ?_
  refine W.widen (k := 1) (n := 6) (Nat.le_of_ble_eq_true rfl) (Nat.le_of_ble_eq_true rfl) ?_
  exact W.zret hx hb hr (vp_nar_int _) (fun t ht hW => ⟨⟨_, (), rfl, rfl, by subst ht; exact hP3⟩, hS.F ht⟩) hS.2.2 dL_models_16
set_option maxHeartbeats 4000000 in
set_option maxRecDepth 100000 in
theorem k_models_b1 (l : Launch) (D : va_G) (ad : Nat → Nat) (cI cZ cJ : ClassId) (n : Nat) (kd : Nat → Nat) (sd : Nat → Bool) (ts : Nat → Int64) (fs : Nat → Int64) (tr : Nat → Nat) (on : Nat → Bool) (rp : Nat → Nat) (lt : Nat) (ru : Nat → Option Nat) (lg : Nat) (lp : Int64) (o : Nat) (g : Nat → Int64) (x1 : Int32) (hM : Bd l yX0_models wsX0_models rb_X0_models D vwCl (wC ad cI cZ cJ n kd sd ts fs tr on rp lt ru lg lp) (tyC cI cZ cJ) [.ref (ad 0), .int x1] eIO) : LW l yL_models wsL_models rm_L_models D ((wC ad cI cZ cJ n kd sd ts fs tr on rp lt ru lg lp) ++ [(o, .inl (cJ, 1, .inr (.inl g)))]) ((wC ad cI cZ cJ n kd sd ts fs tr on rp lt ru lg lp) ++ [(o, .inl (cJ, 1, .inr (.inl g)))]) (tyC cI cZ cJ) [.ref (ad 0), .int x1, .ref o] (nI 1) := by
  intro A sz
  refine metWH (cc := cL_models) (maxL := 4) (ret := some .int) (by decide) rfl ?_
  intro p e s m args below meth c s₁ B hml hv
  obtain ⟨rfl, rfl, hP, hK, hD, hXE, hTB⟩ := hv
  have hx := B.exec
  have hb := B.bytes
  have hr := B.returns
  have hts := atoms_spec (ws := wsL_models) B.pre
  have hown : s.vm.findClass RL = some m.cls := findClass_of_methodNamed B.named
  have hlocks := B.notSynchronized
  have hS : va_S (fun q => A q ∨ s.heap.size ≤ q) s.heap s.heap [] := va_S.rf
  have hl := lv_entry ([.ref (ad 0), .int x1, .ref o]) (n := 4) (Nat.le_of_ble_eq_true rfl)
  rw [lg_entry_eq]
  generalize (lg_sl ([.ref (ad 0), .int x1, .ref o]) ++ List.replicate (4 - (lg_sl ([.ref (ad 0), .int x1, .ref o])).length) Slot.unset).toArray = ls at hl ⊢
  have hl : lv_has ls 4 [(0, .ref (ad 0)), (1, .int x1), (2, .ref o)] := hl
  have hPc := hP.l (w1 := (wC ad cI cZ cJ n kd sd ts fs tr on rp lt ru lg lp))
  have hDc := hD.l (w1 := (wC ad cI cZ cJ n kd sd ts fs tr on rp lt ru lg lp))
  have htab : c.exceptionTable.toList = [⟨0, 9, 12, 13⟩] := vx_table (x := yL_models) B (hts (.codeWith yL_models cL_models 4 (some .int) [(0, 9, 12, 13)]) List.mem_cons_self)
  refine lv_aload_n hx hb dL_models_0 rfl (lv_at hl 2 rfl) ?_
  refine lv_iconst (v := nI 0) hx hb dL_models_1 (by decide) ?_
  refine lv_aload_n hx hb dL_models_2 rfl (lv_at hl 0 rfl) ?_
  refine lv_iload_n hx hb dL_models_3 rfl (lv_at hl 1 rfl) ?_
  refine bd_C (own := RL) (As := [.int x1]) (rest := [.int (nI 0), .ref o]) (C := RX0) (ci := 0) (q0 := 0) (A0 := fun q => A q ∨ s.heap.size ≤ q) ⟨hx, hb, hml, hown, hts⟩ hM gL_models_X0_models rfl ⟨rfl, rfl⟩ 1 rfl (by decide +kernel) ⟨Nat.le_of_ble_eq_true rfl, Nat.le_of_ble_eq_true rfl⟩ hPc hK rfl rfl rfl hXE hS (fun q h => Or.inr h) hl.1 rfl (Nat.le_of_ble_eq_true rfl) dL_models_4 ⟨Nat.le_of_ble_eq_true rfl, Nat.le_of_ble_eq_true rfl⟩ (fun q9 ce H locs hz1 hk1 hS hce hcv hcl => ?_)
  refine vx_catch (own := RL) (name := eIO) hown [] ⟨0, 9, 12, 13⟩ [] htab (fun _ h => absurd h List.not_mem_nil) (by decide) (by decide) (hts (.classLink RL 13 eIO) (by decide +kernel)) (castIO hXE) hce hcv hcl ?_
  refine W.eq (g2 := F0 m 12 ls [.ref q9]) rfl ?_
  refine lv_astore_n (lv' := [(3, .ref q9), (0, .ref (ad 0)), (1, .int x1), (2, .ref o)]) hx hb dL_models_12 rfl hl (by decide) rfl (fun ls hl => ?_)
  refine lv_iconst (v := nI 1) hx hb dL_models_13 (by decide) ?_
  refine W.widen (k := 1) (n := 6) (Nat.le_of_ble_eq_true rfl) (Nat.le_of_ble_eq_true rfl) ?_
  exact W.zret hx hb hr (vp_nar_int _) (fun t ht hW => ⟨⟨_, (), rfl, rfl, by subst ht; exact keptP hP hk1⟩, hS.F ht⟩) hS.2.2 dL_models_14
def rm_L_range : Room := { frames := 8, cells := 1, slots := 6, locals := 130 }
set_option maxHeartbeats 4000000 in
set_option maxRecDepth 100000 in
theorem k_range_ok (l : Launch) (D : va_G) (ad : Nat → Nat) (cI cZ cJ : ClassId) (n : Nat) (kd : Nat → Nat) (sd : Nat → Bool) (ts : Nat → Int64) (fs : Nat → Int64) (tr : Nat → Nat) (on : Nat → Bool) (rp : Nat → Nat) (lt : Nat) (ru : Nat → Option Nat) (lg : Nat) (lp : Int64) (n' : Nat) (kd' : Nat → Nat) (sd' : Nat → Bool) (ts' : Nat → Int64) (fs' : Nat → Int64) (tr' : Nat → Nat) (on' : Nat → Bool) (rp' : Nat → Nat) (lt' : Nat) (ru' : Nat → Option Nat) (lg' : Nat) (lp' : Int64) (o : Nat) (g : Nat → Int64) (x1 : Int32) (f : Int32) (hM : MuIe l yX0_range wsX0_range rm_X0_range D vwCl (wC ad cI cZ cJ n kd sd ts fs tr on rp lt ru lg lp) (fun _ => (wC ad cI cZ cJ n' kd' sd' ts' fs' tr' on' rp' lt' ru' lg' lp')) (tyC cI cZ cJ) [.ref (ad 0), .int x1] f) : LW l yL_range wsL_range rm_L_range D ((wC ad cI cZ cJ n kd sd ts fs tr on rp lt ru lg lp) ++ [(o, .inl (cJ, 1, .inr (.inl g)))]) ((wC ad cI cZ cJ n' kd' sd' ts' fs' tr' on' rp' lt' ru' lg' lp') ++ [(o, .inl (cJ, 1, .inr (.inl (vp_updL g 0 f.toInt64))))]) (tyC cI cZ cJ) [.ref (ad 0), .int x1, .ref o] (nI 0) := by
  intro A sz
  refine metWH (cc := cL_range) (maxL := 4) (ret := some .int) (by decide) rfl ?_
  intro p e s m args below meth c s₁ B hml hv
  obtain ⟨rfl, rfl, hP, hK, hD, hXE, hTB⟩ := hv
  have hx := B.exec
  have hb := B.bytes
  have hr := B.returns
  have hts := atoms_spec (ws := wsL_range) B.pre
  have hown : s.vm.findClass RL = some m.cls := findClass_of_methodNamed B.named
  have hlocks := B.notSynchronized
  have hS : va_S (fun q => A q ∨ s.heap.size ≤ q) s.heap s.heap [] := va_S.rf
  have hl := lv_entry ([.ref (ad 0), .int x1, .ref o]) (n := 4) (Nat.le_of_ble_eq_true rfl)
  rw [lg_entry_eq]
  generalize (lg_sl ([.ref (ad 0), .int x1, .ref o]) ++ List.replicate (4 - (lg_sl ([.ref (ad 0), .int x1, .ref o])).length) Slot.unset).toArray = ls at hl ⊢
  have hl : lv_has ls 4 [(0, .ref (ad 0)), (1, .int x1), (2, .ref o)] := hl
  have hPc := hP.l (w1 := (wC ad cI cZ cJ n kd sd ts fs tr on rp lt ru lg lp))
  have hDc := hD.l (w1 := (wC ad cI cZ cJ n kd sd ts fs tr on rp lt ru lg lp))
  refine lv_aload_n hx hb dL_range_0 rfl (lv_at hl 2 rfl) ?_
  refine lv_iconst (v := nI 0) hx hb dL_range_1 (by decide) ?_
  refine lv_aload_n hx hb dL_range_2 rfl (lv_at hl 0 rfl) ?_
  refine lv_iload_n hx hb dL_range_3 rfl (lv_at hl 1 rfl) ?_
  refine muI_Ve (own := RL) (As := [.int x1]) (rest := [.int (nI 0), .ref o]) (C := RX0) (ci := 0) (q0 := 0) (A1 := AW (wC ad cI cZ cJ n kd sd ts fs tr on rp lt ru lg lp)) (A0 := fun q => A q ∨ s.heap.size ≤ q) ⟨hx, hb, hml, hown, hts⟩ hM gL_range_X0_range rfl ⟨rfl, rfl⟩ 1 rfl (by decide +kernel) ⟨Nat.le_of_ble_eq_true rfl, Nat.le_of_ble_eq_true rfl⟩ hPc hK hDc.aw (hTB.narrow (fun q h => hDc.awA h)) (fun q h => Or.inl (hDc.awA h)) rfl rfl rfl hS hl.1 rfl (Nat.le_of_ble_eq_true rfl) dL_range_4 ⟨Nat.zero_le _, Nat.zero_le _⟩ (fun u H locs hP2 hz1 hk1 hS => ?_)
  have hPo := (hP.r (w1 := (wC ad cI cZ cJ n kd sd ts fs tr on rp lt ru lg lp))).off hk1 (fun q h1 h2 => hD.dis h2 h1)
  have hPj := hP2.app hPo
  have hDj : va_D (fun q => A q ∨ s.heap.size ≤ q) ((wC ad cI cZ cJ n' kd' sd' ts' fs' tr' on' rp' lt' ru' lg' lp') ++ [(o, .inl (cJ, 1, .inr (.inl g)))]) := sameD2 (hD.weaken (fun _ _ _ h => Or.inl h)) rfl
  refine lv_i2l (v := f.toInt64) hx hb dL_range_7 rfl ?_
  refine st_nl hx hb hK hPj hDj hS 9 2 rfl rfl (j := 0) (by decide) (by decide) dL_range_8 (fun H locs hP3 hD3 hS => ?_)
  replace hP3 : va_P D vwCl ((wC ad cI cZ cJ n' kd' sd' ts' fs' tr' on' rp' lt' ru' lg' lp') ++ [(o, .inl (cJ, 1, .inr (.inl (vp_updL g 0 f.toInt64))))]) H := by exact hP3
  refine lv_goto (tgt := 15) hx hb dL_range_9 (by decide) ?_
  refine lv_iconst (v := nI 0) hx hb dL_range_15 (by decide) ?_
  refine W.widen (k := 1) (n := 6) (Nat.le_of_ble_eq_true rfl) (Nat.le_of_ble_eq_true rfl) ?_
  exact W.zret hx hb hr (vp_nar_int _) (fun t ht hW => ⟨⟨_, (), rfl, rfl, by subst ht; exact hP3⟩, hS.F ht⟩) hS.2.2 dL_range_16
set_option maxHeartbeats 4000000 in
set_option maxRecDepth 100000 in
theorem k_range_b1 (l : Launch) (D : va_G) (ad : Nat → Nat) (cI cZ cJ : ClassId) (n : Nat) (kd : Nat → Nat) (sd : Nat → Bool) (ts : Nat → Int64) (fs : Nat → Int64) (tr : Nat → Nat) (on : Nat → Bool) (rp : Nat → Nat) (lt : Nat) (ru : Nat → Option Nat) (lg : Nat) (lp : Int64) (o : Nat) (g : Nat → Int64) (x1 : Int32) (hM : Bd l yX0_range wsX0_range rb_X0_range D vwCl (wC ad cI cZ cJ n kd sd ts fs tr on rp lt ru lg lp) (tyC cI cZ cJ) [.ref (ad 0), .int x1] eIO) : LW l yL_range wsL_range rm_L_range D ((wC ad cI cZ cJ n kd sd ts fs tr on rp lt ru lg lp) ++ [(o, .inl (cJ, 1, .inr (.inl g)))]) ((wC ad cI cZ cJ n kd sd ts fs tr on rp lt ru lg lp) ++ [(o, .inl (cJ, 1, .inr (.inl g)))]) (tyC cI cZ cJ) [.ref (ad 0), .int x1, .ref o] (nI 1) := by
  intro A sz
  refine metWH (cc := cL_range) (maxL := 4) (ret := some .int) (by decide) rfl ?_
  intro p e s m args below meth c s₁ B hml hv
  obtain ⟨rfl, rfl, hP, hK, hD, hXE, hTB⟩ := hv
  have hx := B.exec
  have hb := B.bytes
  have hr := B.returns
  have hts := atoms_spec (ws := wsL_range) B.pre
  have hown : s.vm.findClass RL = some m.cls := findClass_of_methodNamed B.named
  have hlocks := B.notSynchronized
  have hS : va_S (fun q => A q ∨ s.heap.size ≤ q) s.heap s.heap [] := va_S.rf
  have hl := lv_entry ([.ref (ad 0), .int x1, .ref o]) (n := 4) (Nat.le_of_ble_eq_true rfl)
  rw [lg_entry_eq]
  generalize (lg_sl ([.ref (ad 0), .int x1, .ref o]) ++ List.replicate (4 - (lg_sl ([.ref (ad 0), .int x1, .ref o])).length) Slot.unset).toArray = ls at hl ⊢
  have hl : lv_has ls 4 [(0, .ref (ad 0)), (1, .int x1), (2, .ref o)] := hl
  have hPc := hP.l (w1 := (wC ad cI cZ cJ n kd sd ts fs tr on rp lt ru lg lp))
  have hDc := hD.l (w1 := (wC ad cI cZ cJ n kd sd ts fs tr on rp lt ru lg lp))
  have htab : c.exceptionTable.toList = [⟨0, 9, 12, 13⟩] := vx_table (x := yL_range) B (hts (.codeWith yL_range cL_range 4 (some .int) [(0, 9, 12, 13)]) List.mem_cons_self)
  refine lv_aload_n hx hb dL_range_0 rfl (lv_at hl 2 rfl) ?_
  refine lv_iconst (v := nI 0) hx hb dL_range_1 (by decide) ?_
  refine lv_aload_n hx hb dL_range_2 rfl (lv_at hl 0 rfl) ?_
  refine lv_iload_n hx hb dL_range_3 rfl (lv_at hl 1 rfl) ?_
  refine bd_C (own := RL) (As := [.int x1]) (rest := [.int (nI 0), .ref o]) (C := RX0) (ci := 0) (q0 := 0) (A0 := fun q => A q ∨ s.heap.size ≤ q) ⟨hx, hb, hml, hown, hts⟩ hM gL_range_X0_range rfl ⟨rfl, rfl⟩ 1 rfl (by decide +kernel) ⟨Nat.le_of_ble_eq_true rfl, Nat.le_of_ble_eq_true rfl⟩ hPc hK rfl rfl rfl hXE hS (fun q h => Or.inr h) hl.1 rfl (Nat.le_of_ble_eq_true rfl) dL_range_4 ⟨Nat.le_of_ble_eq_true rfl, Nat.le_of_ble_eq_true rfl⟩ (fun q9 ce H locs hz1 hk1 hS hce hcv hcl => ?_)
  refine vx_catch (own := RL) (name := eIO) hown [] ⟨0, 9, 12, 13⟩ [] htab (fun _ h => absurd h List.not_mem_nil) (by decide) (by decide) (hts (.classLink RL 13 eIO) (by decide +kernel)) (castIO hXE) hce hcv hcl ?_
  refine W.eq (g2 := F0 m 12 ls [.ref q9]) rfl ?_
  refine lv_astore_n (lv' := [(3, .ref q9), (0, .ref (ad 0)), (1, .int x1), (2, .ref o)]) hx hb dL_range_12 rfl hl (by decide) rfl (fun ls hl => ?_)
  refine lv_iconst (v := nI 1) hx hb dL_range_13 (by decide) ?_
  refine W.widen (k := 1) (n := 6) (Nat.le_of_ble_eq_true rfl) (Nat.le_of_ble_eq_true rfl) ?_
  exact W.zret hx hb hr (vp_nar_int _) (fun t ht hW => ⟨⟨_, (), rfl, rfl, by subst ht; exact keptP hP hk1⟩, hS.F ht⟩) hS.2.2 dL_range_14
def rm_L_entails : Room := { frames := 9, cells := 1, slots := 6, locals := 152 }
set_option maxHeartbeats 4000000 in
set_option maxRecDepth 100000 in
theorem k_entails_ok (l : Launch) (D : va_G) (ad : Nat → Nat) (cI cZ cJ : ClassId) (n : Nat) (kd : Nat → Nat) (sd : Nat → Bool) (ts : Nat → Int64) (fs : Nat → Int64) (tr : Nat → Nat) (on : Nat → Bool) (rp : Nat → Nat) (lt : Nat) (ru : Nat → Option Nat) (lg : Nat) (lp : Int64) (n' : Nat) (kd' : Nat → Nat) (sd' : Nat → Bool) (ts' : Nat → Int64) (fs' : Nat → Int64) (tr' : Nat → Nat) (on' : Nat → Bool) (rp' : Nat → Nat) (lt' : Nat) (ru' : Nat → Option Nat) (lg' : Nat) (lp' : Int64) (o : Nat) (g : Nat → Int64) (x1 x2 : Int32) (f : Int32) (hM : MuIe l yX0_entails wsX0_entails rm_X0_entails D vwCl (wC ad cI cZ cJ n kd sd ts fs tr on rp lt ru lg lp) (fun _ => (wC ad cI cZ cJ n' kd' sd' ts' fs' tr' on' rp' lt' ru' lg' lp')) (tyC cI cZ cJ) [.ref (ad 0), .int x1, .int x2] f) : LW l yL_entails wsL_entails rm_L_entails D ((wC ad cI cZ cJ n kd sd ts fs tr on rp lt ru lg lp) ++ [(o, .inl (cJ, 1, .inr (.inl g)))]) ((wC ad cI cZ cJ n' kd' sd' ts' fs' tr' on' rp' lt' ru' lg' lp') ++ [(o, .inl (cJ, 1, .inr (.inl (vp_updL g 0 (if f = 0 then 0 else 1)))))]) (tyC cI cZ cJ) [.ref (ad 0), .int x1, .int x2, .ref o] (nI 0) := by
  intro A sz
  refine metWH (cc := cL_entails) (maxL := 5) (ret := some .int) (by decide) rfl ?_
  intro p e s m args below meth c s₁ B hml hv
  obtain ⟨rfl, rfl, hP, hK, hD, hXE, hTB⟩ := hv
  have hx := B.exec
  have hb := B.bytes
  have hr := B.returns
  have hts := atoms_spec (ws := wsL_entails) B.pre
  have hown : s.vm.findClass RL = some m.cls := findClass_of_methodNamed B.named
  have hlocks := B.notSynchronized
  have hS : va_S (fun q => A q ∨ s.heap.size ≤ q) s.heap s.heap [] := va_S.rf
  have hl := lv_entry ([.ref (ad 0), .int x1, .int x2, .ref o]) (n := 5) (Nat.le_of_ble_eq_true rfl)
  rw [lg_entry_eq]
  generalize (lg_sl ([.ref (ad 0), .int x1, .int x2, .ref o]) ++ List.replicate (5 - (lg_sl ([.ref (ad 0), .int x1, .int x2, .ref o])).length) Slot.unset).toArray = ls at hl ⊢
  have hl : lv_has ls 5 [(0, .ref (ad 0)), (1, .int x1), (2, .int x2), (3, .ref o)] := hl
  have hPc := hP.l (w1 := (wC ad cI cZ cJ n kd sd ts fs tr on rp lt ru lg lp))
  have hDc := hD.l (w1 := (wC ad cI cZ cJ n kd sd ts fs tr on rp lt ru lg lp))
  refine lv_aload_n hx hb dL_entails_0 rfl (lv_at hl 3 rfl) ?_
  refine lv_iconst (v := nI 0) hx hb dL_entails_1 (by decide) ?_
  refine lv_aload_n hx hb dL_entails_2 rfl (lv_at hl 0 rfl) ?_
  refine lv_iload_n hx hb dL_entails_3 rfl (lv_at hl 1 rfl) ?_
  refine lv_iload_n hx hb dL_entails_4 rfl (lv_at hl 2 rfl) ?_
  refine muI_Ve (own := RL) (As := [.int x1, .int x2]) (rest := [.int (nI 0), .ref o]) (C := RX0) (ci := 0) (q0 := 0) (A1 := AW (wC ad cI cZ cJ n kd sd ts fs tr on rp lt ru lg lp)) (A0 := fun q => A q ∨ s.heap.size ≤ q) ⟨hx, hb, hml, hown, hts⟩ hM gL_entails_X0_entails rfl ⟨rfl, rfl⟩ 2 rfl (by decide +kernel) ⟨Nat.le_of_ble_eq_true rfl, Nat.le_of_ble_eq_true rfl⟩ hPc hK hDc.aw (hTB.narrow (fun q h => hDc.awA h)) (fun q h => Or.inl (hDc.awA h)) rfl rfl rfl hS hl.1 rfl (Nat.le_of_ble_eq_true rfl) dL_entails_5 ⟨Nat.zero_le _, Nat.zero_le _⟩ (fun u H locs hP2 hz1 hk1 hS => ?_)
  have hPo := (hP.r (w1 := (wC ad cI cZ cJ n kd sd ts fs tr on rp lt ru lg lp))).off hk1 (fun q h1 h2 => hD.dis h2 h1)
  have hPj := hP2.app hPo
  have hDj : va_D (fun q => A q ∨ s.heap.size ≤ q) ((wC ad cI cZ cJ n' kd' sd' ts' fs' tr' on' rp' lt' ru' lg' lp') ++ [(o, .inl (cJ, 1, .inr (.inl g)))]) := sameD2 (hD.weaken (fun _ _ _ h => Or.inl h)) rfl
  refine lv_if_eq (tgt := 15) hx hb dL_entails_8 (by decide) (fun c_1 => ?_) (fun c_1 => ?_)
  · refine lv_lconst (v := 0) hx hb dL_entails_15 (by decide) ?_
    refine st_nl hx hb hK hPj hDj hS 9 2 rfl rfl (j := 0) (by decide) (by decide) dL_entails_16 (fun H locs hP3 hD3 hS => ?_)
    replace hP3 : va_P D vwCl ((wC ad cI cZ cJ n' kd' sd' ts' fs' tr' on' rp' lt' ru' lg' lp') ++ [(o, .inl (cJ, 1, .inr (.inl (vp_updL g 0 (if f = 0 then 0 else 1)))))]) H := by rw [if_pos c_1]; exact hP3
    refine lv_goto (tgt := 24) hx hb dL_entails_17 (by decide) ?_
    refine lv_iconst (v := nI 0) hx hb dL_entails_24 (by decide) ?_
    refine W.widen (k := 1) (n := 6) (Nat.le_of_ble_eq_true rfl) (Nat.le_of_ble_eq_true rfl) ?_
    exact W.zret hx hb hr (vp_nar_int _) (fun t ht hW => ⟨⟨_, (), rfl, rfl, by subst ht; exact hP3⟩, hS.F ht⟩) hS.2.2 dL_entails_25
  · refine lv_lconst (v := 1) hx hb dL_entails_11 (by decide) ?_
    refine lv_goto (tgt := 16) hx hb dL_entails_12 (by decide) ?_
    refine st_nl hx hb hK hPj hDj hS 9 2 rfl rfl (j := 0) (by decide) (by decide) dL_entails_16 (fun H locs hP3 hD3 hS => ?_)
    replace hP3 : va_P D vwCl ((wC ad cI cZ cJ n' kd' sd' ts' fs' tr' on' rp' lt' ru' lg' lp') ++ [(o, .inl (cJ, 1, .inr (.inl (vp_updL g 0 (if f = 0 then 0 else 1)))))]) H := by rw [if_neg c_1]; exact hP3
    refine lv_goto (tgt := 24) hx hb dL_entails_17 (by decide) ?_
    refine lv_iconst (v := nI 0) hx hb dL_entails_24 (by decide) ?_
    refine W.widen (k := 1) (n := 6) (Nat.le_of_ble_eq_true rfl) (Nat.le_of_ble_eq_true rfl) ?_
    exact W.zret hx hb hr (vp_nar_int _) (fun t ht hW => ⟨⟨_, (), rfl, rfl, by subst ht; exact hP3⟩, hS.F ht⟩) hS.2.2 dL_entails_25
set_option maxHeartbeats 4000000 in
set_option maxRecDepth 100000 in
theorem k_entails_b1 (l : Launch) (D : va_G) (ad : Nat → Nat) (cI cZ cJ : ClassId) (n : Nat) (kd : Nat → Nat) (sd : Nat → Bool) (ts : Nat → Int64) (fs : Nat → Int64) (tr : Nat → Nat) (on : Nat → Bool) (rp : Nat → Nat) (lt : Nat) (ru : Nat → Option Nat) (lg : Nat) (lp : Int64) (o : Nat) (g : Nat → Int64) (x1 x2 : Int32) (hM : Bd l yX0_entails wsX0_entails rb_X0_entails D vwCl (wC ad cI cZ cJ n kd sd ts fs tr on rp lt ru lg lp) (tyC cI cZ cJ) [.ref (ad 0), .int x1, .int x2] eIO) : LW l yL_entails wsL_entails rm_L_entails D ((wC ad cI cZ cJ n kd sd ts fs tr on rp lt ru lg lp) ++ [(o, .inl (cJ, 1, .inr (.inl g)))]) ((wC ad cI cZ cJ n kd sd ts fs tr on rp lt ru lg lp) ++ [(o, .inl (cJ, 1, .inr (.inl g)))]) (tyC cI cZ cJ) [.ref (ad 0), .int x1, .int x2, .ref o] (nI 1) := by
  intro A sz
  refine metWH (cc := cL_entails) (maxL := 5) (ret := some .int) (by decide) rfl ?_
  intro p e s m args below meth c s₁ B hml hv
  obtain ⟨rfl, rfl, hP, hK, hD, hXE, hTB⟩ := hv
  have hx := B.exec
  have hb := B.bytes
  have hr := B.returns
  have hts := atoms_spec (ws := wsL_entails) B.pre
  have hown : s.vm.findClass RL = some m.cls := findClass_of_methodNamed B.named
  have hlocks := B.notSynchronized
  have hS : va_S (fun q => A q ∨ s.heap.size ≤ q) s.heap s.heap [] := va_S.rf
  have hl := lv_entry ([.ref (ad 0), .int x1, .int x2, .ref o]) (n := 5) (Nat.le_of_ble_eq_true rfl)
  rw [lg_entry_eq]
  generalize (lg_sl ([.ref (ad 0), .int x1, .int x2, .ref o]) ++ List.replicate (5 - (lg_sl ([.ref (ad 0), .int x1, .int x2, .ref o])).length) Slot.unset).toArray = ls at hl ⊢
  have hl : lv_has ls 5 [(0, .ref (ad 0)), (1, .int x1), (2, .int x2), (3, .ref o)] := hl
  have hPc := hP.l (w1 := (wC ad cI cZ cJ n kd sd ts fs tr on rp lt ru lg lp))
  have hDc := hD.l (w1 := (wC ad cI cZ cJ n kd sd ts fs tr on rp lt ru lg lp))
  have htab : c.exceptionTable.toList = [⟨0, 17, 20, 13⟩] := vx_table (x := yL_entails) B (hts (.codeWith yL_entails cL_entails 5 (some .int) [(0, 17, 20, 13)]) List.mem_cons_self)
  refine lv_aload_n hx hb dL_entails_0 rfl (lv_at hl 3 rfl) ?_
  refine lv_iconst (v := nI 0) hx hb dL_entails_1 (by decide) ?_
  refine lv_aload_n hx hb dL_entails_2 rfl (lv_at hl 0 rfl) ?_
  refine lv_iload_n hx hb dL_entails_3 rfl (lv_at hl 1 rfl) ?_
  refine lv_iload_n hx hb dL_entails_4 rfl (lv_at hl 2 rfl) ?_
  refine bd_C (own := RL) (As := [.int x1, .int x2]) (rest := [.int (nI 0), .ref o]) (C := RX0) (ci := 0) (q0 := 0) (A0 := fun q => A q ∨ s.heap.size ≤ q) ⟨hx, hb, hml, hown, hts⟩ hM gL_entails_X0_entails rfl ⟨rfl, rfl⟩ 2 rfl (by decide +kernel) ⟨Nat.le_of_ble_eq_true rfl, Nat.le_of_ble_eq_true rfl⟩ hPc hK rfl rfl rfl hXE hS (fun q h => Or.inr h) hl.1 rfl (Nat.le_of_ble_eq_true rfl) dL_entails_5 ⟨Nat.le_of_ble_eq_true rfl, Nat.le_of_ble_eq_true rfl⟩ (fun q9 ce H locs hz1 hk1 hS hce hcv hcl => ?_)
  refine vx_catch (own := RL) (name := eIO) hown [] ⟨0, 17, 20, 13⟩ [] htab (fun _ h => absurd h List.not_mem_nil) (by decide) (by decide) (hts (.classLink RL 13 eIO) (by decide +kernel)) (castIO hXE) hce hcv hcl ?_
  refine W.eq (g2 := F0 m 20 ls [.ref q9]) rfl ?_
  refine lv_astore (lv' := [(4, .ref q9), (0, .ref (ad 0)), (1, .int x1), (2, .int x2), (3, .ref o)]) hx hb dL_entails_20 hl (by decide) rfl (fun ls hl => ?_)
  refine lv_iconst (v := nI 1) hx hb dL_entails_22 (by decide) ?_
  refine W.widen (k := 1) (n := 6) (Nat.le_of_ble_eq_true rfl) (Nat.le_of_ble_eq_true rfl) ?_
  exact W.zret hx hb hr (vp_nar_int _) (fun t ht hW => ⟨⟨_, (), rfl, rfl, by subst ht; exact keptP hP hk1⟩, hS.F ht⟩) hS.2.2 dL_entails_23
def rm_L_against : Room := { frames := 8, cells := 1, slots := 6, locals := 130 }
set_option maxHeartbeats 4000000 in
set_option maxRecDepth 100000 in
theorem k_against_ok (l : Launch) (D : va_G) (ad : Nat → Nat) (cI cZ cJ : ClassId) (n : Nat) (kd : Nat → Nat) (sd : Nat → Bool) (ts : Nat → Int64) (fs : Nat → Int64) (tr : Nat → Nat) (on : Nat → Bool) (rp : Nat → Nat) (lt : Nat) (ru : Nat → Option Nat) (lg : Nat) (lp : Int64) (n' : Nat) (kd' : Nat → Nat) (sd' : Nat → Bool) (ts' : Nat → Int64) (fs' : Nat → Int64) (tr' : Nat → Nat) (on' : Nat → Bool) (rp' : Nat → Nat) (lt' : Nat) (ru' : Nat → Option Nat) (lg' : Nat) (lp' : Int64) (o : Nat) (g : Nat → Int64) (x1 x2 : Int32) (f : Int32) (hM : MuIe l yX0_against wsX0_against rm_X0_against D vwCl (wC ad cI cZ cJ n kd sd ts fs tr on rp lt ru lg lp) (fun _ => (wC ad cI cZ cJ n' kd' sd' ts' fs' tr' on' rp' lt' ru' lg' lp')) (tyC cI cZ cJ) [.ref (ad 0), .int x1, .int x2] f) : LW l yL_against wsL_against rm_L_against D ((wC ad cI cZ cJ n kd sd ts fs tr on rp lt ru lg lp) ++ [(o, .inl (cJ, 1, .inr (.inl g)))]) ((wC ad cI cZ cJ n' kd' sd' ts' fs' tr' on' rp' lt' ru' lg' lp') ++ [(o, .inl (cJ, 1, .inr (.inl (vp_updL g 0 f.toInt64))))]) (tyC cI cZ cJ) [.ref (ad 0), .int x1, .int x2, .ref o] (nI 0) := by
  intro A sz
  refine metWH (cc := cL_against) (maxL := 5) (ret := some .int) (by decide) rfl ?_
  intro p e s m args below meth c s₁ B hml hv
  obtain ⟨rfl, rfl, hP, hK, hD, hXE, hTB⟩ := hv
  have hx := B.exec
  have hb := B.bytes
  have hr := B.returns
  have hts := atoms_spec (ws := wsL_against) B.pre
  have hown : s.vm.findClass RL = some m.cls := findClass_of_methodNamed B.named
  have hlocks := B.notSynchronized
  have hS : va_S (fun q => A q ∨ s.heap.size ≤ q) s.heap s.heap [] := va_S.rf
  have hl := lv_entry ([.ref (ad 0), .int x1, .int x2, .ref o]) (n := 5) (Nat.le_of_ble_eq_true rfl)
  rw [lg_entry_eq]
  generalize (lg_sl ([.ref (ad 0), .int x1, .int x2, .ref o]) ++ List.replicate (5 - (lg_sl ([.ref (ad 0), .int x1, .int x2, .ref o])).length) Slot.unset).toArray = ls at hl ⊢
  have hl : lv_has ls 5 [(0, .ref (ad 0)), (1, .int x1), (2, .int x2), (3, .ref o)] := hl
  have hPc := hP.l (w1 := (wC ad cI cZ cJ n kd sd ts fs tr on rp lt ru lg lp))
  have hDc := hD.l (w1 := (wC ad cI cZ cJ n kd sd ts fs tr on rp lt ru lg lp))
  refine lv_aload_n hx hb dL_against_0 rfl (lv_at hl 3 rfl) ?_
  refine lv_iconst (v := nI 0) hx hb dL_against_1 (by decide) ?_
  refine lv_aload_n hx hb dL_against_2 rfl (lv_at hl 0 rfl) ?_
  refine lv_iload_n hx hb dL_against_3 rfl (lv_at hl 1 rfl) ?_
  refine lv_iload_n hx hb dL_against_4 rfl (lv_at hl 2 rfl) ?_
  refine muI_Ve (own := RL) (As := [.int x1, .int x2]) (rest := [.int (nI 0), .ref o]) (C := RX0) (ci := 0) (q0 := 0) (A1 := AW (wC ad cI cZ cJ n kd sd ts fs tr on rp lt ru lg lp)) (A0 := fun q => A q ∨ s.heap.size ≤ q) ⟨hx, hb, hml, hown, hts⟩ hM gL_against_X0_against rfl ⟨rfl, rfl⟩ 2 rfl (by decide +kernel) ⟨Nat.le_of_ble_eq_true rfl, Nat.le_of_ble_eq_true rfl⟩ hPc hK hDc.aw (hTB.narrow (fun q h => hDc.awA h)) (fun q h => Or.inl (hDc.awA h)) rfl rfl rfl hS hl.1 rfl (Nat.le_of_ble_eq_true rfl) dL_against_5 ⟨Nat.zero_le _, Nat.zero_le _⟩ (fun u H locs hP2 hz1 hk1 hS => ?_)
  have hPo := (hP.r (w1 := (wC ad cI cZ cJ n kd sd ts fs tr on rp lt ru lg lp))).off hk1 (fun q h1 h2 => hD.dis h2 h1)
  have hPj := hP2.app hPo
  have hDj : va_D (fun q => A q ∨ s.heap.size ≤ q) ((wC ad cI cZ cJ n' kd' sd' ts' fs' tr' on' rp' lt' ru' lg' lp') ++ [(o, .inl (cJ, 1, .inr (.inl g)))]) := sameD2 (hD.weaken (fun _ _ _ h => Or.inl h)) rfl
  refine lv_i2l (v := f.toInt64) hx hb dL_against_8 rfl ?_
  refine st_nl hx hb hK hPj hDj hS 9 2 rfl rfl (j := 0) (by decide) (by decide) dL_against_9 (fun H locs hP3 hD3 hS => ?_)
  replace hP3 : va_P D vwCl ((wC ad cI cZ cJ n' kd' sd' ts' fs' tr' on' rp' lt' ru' lg' lp') ++ [(o, .inl (cJ, 1, .inr (.inl (vp_updL g 0 f.toInt64))))]) H := by exact hP3
  refine lv_goto (tgt := 17) hx hb dL_against_10 (by decide) ?_
  refine lv_iconst (v := nI 0) hx hb dL_against_17 (by decide) ?_
  refine W.widen (k := 1) (n := 6) (Nat.le_of_ble_eq_true rfl) (Nat.le_of_ble_eq_true rfl) ?_
  exact W.zret hx hb hr (vp_nar_int _) (fun t ht hW => ⟨⟨_, (), rfl, rfl, by subst ht; exact hP3⟩, hS.F ht⟩) hS.2.2 dL_against_18
set_option maxHeartbeats 4000000 in
set_option maxRecDepth 100000 in
theorem k_against_b1 (l : Launch) (D : va_G) (ad : Nat → Nat) (cI cZ cJ : ClassId) (n : Nat) (kd : Nat → Nat) (sd : Nat → Bool) (ts : Nat → Int64) (fs : Nat → Int64) (tr : Nat → Nat) (on : Nat → Bool) (rp : Nat → Nat) (lt : Nat) (ru : Nat → Option Nat) (lg : Nat) (lp : Int64) (o : Nat) (g : Nat → Int64) (x1 x2 : Int32) (hM : Bd l yX0_against wsX0_against rb_X0_against D vwCl (wC ad cI cZ cJ n kd sd ts fs tr on rp lt ru lg lp) (tyC cI cZ cJ) [.ref (ad 0), .int x1, .int x2] eIO) : LW l yL_against wsL_against rm_L_against D ((wC ad cI cZ cJ n kd sd ts fs tr on rp lt ru lg lp) ++ [(o, .inl (cJ, 1, .inr (.inl g)))]) ((wC ad cI cZ cJ n kd sd ts fs tr on rp lt ru lg lp) ++ [(o, .inl (cJ, 1, .inr (.inl g)))]) (tyC cI cZ cJ) [.ref (ad 0), .int x1, .int x2, .ref o] (nI 1) := by
  intro A sz
  refine metWH (cc := cL_against) (maxL := 5) (ret := some .int) (by decide) rfl ?_
  intro p e s m args below meth c s₁ B hml hv
  obtain ⟨rfl, rfl, hP, hK, hD, hXE, hTB⟩ := hv
  have hx := B.exec
  have hb := B.bytes
  have hr := B.returns
  have hts := atoms_spec (ws := wsL_against) B.pre
  have hown : s.vm.findClass RL = some m.cls := findClass_of_methodNamed B.named
  have hlocks := B.notSynchronized
  have hS : va_S (fun q => A q ∨ s.heap.size ≤ q) s.heap s.heap [] := va_S.rf
  have hl := lv_entry ([.ref (ad 0), .int x1, .int x2, .ref o]) (n := 5) (Nat.le_of_ble_eq_true rfl)
  rw [lg_entry_eq]
  generalize (lg_sl ([.ref (ad 0), .int x1, .int x2, .ref o]) ++ List.replicate (5 - (lg_sl ([.ref (ad 0), .int x1, .int x2, .ref o])).length) Slot.unset).toArray = ls at hl ⊢
  have hl : lv_has ls 5 [(0, .ref (ad 0)), (1, .int x1), (2, .int x2), (3, .ref o)] := hl
  have hPc := hP.l (w1 := (wC ad cI cZ cJ n kd sd ts fs tr on rp lt ru lg lp))
  have hDc := hD.l (w1 := (wC ad cI cZ cJ n kd sd ts fs tr on rp lt ru lg lp))
  have htab : c.exceptionTable.toList = [⟨0, 10, 13, 13⟩] := vx_table (x := yL_against) B (hts (.codeWith yL_against cL_against 5 (some .int) [(0, 10, 13, 13)]) List.mem_cons_self)
  refine lv_aload_n hx hb dL_against_0 rfl (lv_at hl 3 rfl) ?_
  refine lv_iconst (v := nI 0) hx hb dL_against_1 (by decide) ?_
  refine lv_aload_n hx hb dL_against_2 rfl (lv_at hl 0 rfl) ?_
  refine lv_iload_n hx hb dL_against_3 rfl (lv_at hl 1 rfl) ?_
  refine lv_iload_n hx hb dL_against_4 rfl (lv_at hl 2 rfl) ?_
  refine bd_C (own := RL) (As := [.int x1, .int x2]) (rest := [.int (nI 0), .ref o]) (C := RX0) (ci := 0) (q0 := 0) (A0 := fun q => A q ∨ s.heap.size ≤ q) ⟨hx, hb, hml, hown, hts⟩ hM gL_against_X0_against rfl ⟨rfl, rfl⟩ 2 rfl (by decide +kernel) ⟨Nat.le_of_ble_eq_true rfl, Nat.le_of_ble_eq_true rfl⟩ hPc hK rfl rfl rfl hXE hS (fun q h => Or.inr h) hl.1 rfl (Nat.le_of_ble_eq_true rfl) dL_against_5 ⟨Nat.le_of_ble_eq_true rfl, Nat.le_of_ble_eq_true rfl⟩ (fun q9 ce H locs hz1 hk1 hS hce hcv hcl => ?_)
  refine vx_catch (own := RL) (name := eIO) hown [] ⟨0, 10, 13, 13⟩ [] htab (fun _ h => absurd h List.not_mem_nil) (by decide) (by decide) (hts (.classLink RL 13 eIO) (by decide +kernel)) (castIO hXE) hce hcv hcl ?_
  refine W.eq (g2 := F0 m 13 ls [.ref q9]) rfl ?_
  refine lv_astore (lv' := [(4, .ref q9), (0, .ref (ad 0)), (1, .int x1), (2, .int x2), (3, .ref o)]) hx hb dL_against_13 hl (by decide) rfl (fun ls hl => ?_)
  refine lv_iconst (v := nI 1) hx hb dL_against_15 (by decide) ?_
  refine W.widen (k := 1) (n := 6) (Nat.le_of_ble_eq_true rfl) (Nat.le_of_ble_eq_true rfl) ?_
  exact W.zret hx hb hr (vp_nar_int _) (fun t ht hW => ⟨⟨_, (), rfl, rfl, by subst ht; exact keptP hP hk1⟩, hS.F ht⟩) hS.2.2 dL_against_16
def rm_L_areEqual : Room := { frames := 8, cells := 1, slots := 6, locals := 128 }
set_option maxHeartbeats 4000000 in
set_option maxRecDepth 100000 in
theorem k_areEqual_ok (l : Launch) (D : va_G) (ad : Nat → Nat) (cI cZ cJ : ClassId) (n : Nat) (kd : Nat → Nat) (sd : Nat → Bool) (ts : Nat → Int64) (fs : Nat → Int64) (tr : Nat → Nat) (on : Nat → Bool) (rp : Nat → Nat) (lt : Nat) (ru : Nat → Option Nat) (lg : Nat) (lp : Int64) (n' : Nat) (kd' : Nat → Nat) (sd' : Nat → Bool) (ts' : Nat → Int64) (fs' : Nat → Int64) (tr' : Nat → Nat) (on' : Nat → Bool) (rp' : Nat → Nat) (lt' : Nat) (ru' : Nat → Option Nat) (lg' : Nat) (lp' : Int64) (o : Nat) (g : Nat → Int64) (x1 x2 : Int32) (f : Int32) (hM : MuIe l yX0_areEqual wsX0_areEqual rm_X0_areEqual D vwCl (wC ad cI cZ cJ n kd sd ts fs tr on rp lt ru lg lp) (fun _ => (wC ad cI cZ cJ n' kd' sd' ts' fs' tr' on' rp' lt' ru' lg' lp')) (tyC cI cZ cJ) [.ref (ad 0), .int x1, .int x2] f) : LW l yL_areEqual wsL_areEqual rm_L_areEqual D ((wC ad cI cZ cJ n kd sd ts fs tr on rp lt ru lg lp) ++ [(o, .inl (cJ, 1, .inr (.inl g)))]) ((wC ad cI cZ cJ n' kd' sd' ts' fs' tr' on' rp' lt' ru' lg' lp') ++ [(o, .inl (cJ, 1, .inr (.inl (vp_updL g 0 (if f = 0 then 0 else 1)))))]) (tyC cI cZ cJ) [.ref (ad 0), .int x1, .int x2, .ref o] (nI 0) := by
  intro A sz
  refine metWH (cc := cL_areEqual) (maxL := 5) (ret := some .int) (by decide) rfl ?_
  intro p e s m args below meth c s₁ B hml hv
  obtain ⟨rfl, rfl, hP, hK, hD, hXE, hTB⟩ := hv
  have hx := B.exec
  have hb := B.bytes
  have hr := B.returns
  have hts := atoms_spec (ws := wsL_areEqual) B.pre
  have hown : s.vm.findClass RL = some m.cls := findClass_of_methodNamed B.named
  have hlocks := B.notSynchronized
  have hS : va_S (fun q => A q ∨ s.heap.size ≤ q) s.heap s.heap [] := va_S.rf
  have hl := lv_entry ([.ref (ad 0), .int x1, .int x2, .ref o]) (n := 5) (Nat.le_of_ble_eq_true rfl)
  rw [lg_entry_eq]
  generalize (lg_sl ([.ref (ad 0), .int x1, .int x2, .ref o]) ++ List.replicate (5 - (lg_sl ([.ref (ad 0), .int x1, .int x2, .ref o])).length) Slot.unset).toArray = ls at hl ⊢
  have hl : lv_has ls 5 [(0, .ref (ad 0)), (1, .int x1), (2, .int x2), (3, .ref o)] := hl
  have hPc := hP.l (w1 := (wC ad cI cZ cJ n kd sd ts fs tr on rp lt ru lg lp))
  have hDc := hD.l (w1 := (wC ad cI cZ cJ n kd sd ts fs tr on rp lt ru lg lp))
  refine lv_aload_n hx hb dL_areEqual_0 rfl (lv_at hl 3 rfl) ?_
  refine lv_iconst (v := nI 0) hx hb dL_areEqual_1 (by decide) ?_
  refine lv_aload_n hx hb dL_areEqual_2 rfl (lv_at hl 0 rfl) ?_
  refine lv_iload_n hx hb dL_areEqual_3 rfl (lv_at hl 1 rfl) ?_
  refine lv_iload_n hx hb dL_areEqual_4 rfl (lv_at hl 2 rfl) ?_
  refine muI_Ve (own := RL) (As := [.int x1, .int x2]) (rest := [.int (nI 0), .ref o]) (C := RX0) (ci := 0) (q0 := 0) (A1 := AW (wC ad cI cZ cJ n kd sd ts fs tr on rp lt ru lg lp)) (A0 := fun q => A q ∨ s.heap.size ≤ q) ⟨hx, hb, hml, hown, hts⟩ hM gL_areEqual_X0_areEqual rfl ⟨rfl, rfl⟩ 2 rfl (by decide +kernel) ⟨Nat.le_of_ble_eq_true rfl, Nat.le_of_ble_eq_true rfl⟩ hPc hK hDc.aw (hTB.narrow (fun q h => hDc.awA h)) (fun q h => Or.inl (hDc.awA h)) rfl rfl rfl hS hl.1 rfl (Nat.le_of_ble_eq_true rfl) dL_areEqual_5 ⟨Nat.zero_le _, Nat.zero_le _⟩ (fun u H locs hP2 hz1 hk1 hS => ?_)
  have hPo := (hP.r (w1 := (wC ad cI cZ cJ n kd sd ts fs tr on rp lt ru lg lp))).off hk1 (fun q h1 h2 => hD.dis h2 h1)
  have hPj := hP2.app hPo
  have hDj : va_D (fun q => A q ∨ s.heap.size ≤ q) ((wC ad cI cZ cJ n' kd' sd' ts' fs' tr' on' rp' lt' ru' lg' lp') ++ [(o, .inl (cJ, 1, .inr (.inl g)))]) := sameD2 (hD.weaken (fun _ _ _ h => Or.inl h)) rfl
  refine lv_if_eq (tgt := 15) hx hb dL_areEqual_8 (by decide) (fun c_1 => ?_) (fun c_1 => ?_)
  · refine lv_lconst (v := 0) hx hb dL_areEqual_15 (by decide) ?_
    refine st_nl hx hb hK hPj hDj hS 9 2 rfl rfl (j := 0) (by decide) (by decide) dL_areEqual_16 (fun H locs hP3 hD3 hS => ?_)
    replace hP3 : va_P D vwCl ((wC ad cI cZ cJ n' kd' sd' ts' fs' tr' on' rp' lt' ru' lg' lp') ++ [(o, .inl (cJ, 1, .inr (.inl (vp_updL g 0 (if f = 0 then 0 else 1)))))]) H := by rw [if_pos c_1]; exact hP3
    refine lv_goto (tgt := 24) hx hb dL_areEqual_17 (by decide) ?_
    refine lv_iconst (v := nI 0) hx hb dL_areEqual_24 (by decide) ?_
    refine W.widen (k := 1) (n := 6) (Nat.le_of_ble_eq_true rfl) (Nat.le_of_ble_eq_true rfl) ?_
    exact W.zret hx hb hr (vp_nar_int _) (fun t ht hW => ⟨⟨_, (), rfl, rfl, by subst ht; exact hP3⟩, hS.F ht⟩) hS.2.2 dL_areEqual_25
  · refine lv_lconst (v := 1) hx hb dL_areEqual_11 (by decide) ?_
    refine lv_goto (tgt := 16) hx hb dL_areEqual_12 (by decide) ?_
    refine st_nl hx hb hK hPj hDj hS 9 2 rfl rfl (j := 0) (by decide) (by decide) dL_areEqual_16 (fun H locs hP3 hD3 hS => ?_)
    replace hP3 : va_P D vwCl ((wC ad cI cZ cJ n' kd' sd' ts' fs' tr' on' rp' lt' ru' lg' lp') ++ [(o, .inl (cJ, 1, .inr (.inl (vp_updL g 0 (if f = 0 then 0 else 1)))))]) H := by rw [if_neg c_1]; exact hP3
    refine lv_goto (tgt := 24) hx hb dL_areEqual_17 (by decide) ?_
    refine lv_iconst (v := nI 0) hx hb dL_areEqual_24 (by decide) ?_
    refine W.widen (k := 1) (n := 6) (Nat.le_of_ble_eq_true rfl) (Nat.le_of_ble_eq_true rfl) ?_
    exact W.zret hx hb hr (vp_nar_int _) (fun t ht hW => ⟨⟨_, (), rfl, rfl, by subst ht; exact hP3⟩, hS.F ht⟩) hS.2.2 dL_areEqual_25
set_option maxHeartbeats 4000000 in
set_option maxRecDepth 100000 in
theorem k_areEqual_b1 (l : Launch) (D : va_G) (ad : Nat → Nat) (cI cZ cJ : ClassId) (n : Nat) (kd : Nat → Nat) (sd : Nat → Bool) (ts : Nat → Int64) (fs : Nat → Int64) (tr : Nat → Nat) (on : Nat → Bool) (rp : Nat → Nat) (lt : Nat) (ru : Nat → Option Nat) (lg : Nat) (lp : Int64) (o : Nat) (g : Nat → Int64) (x1 x2 : Int32) (hM : Bd l yX0_areEqual wsX0_areEqual rb_X0_areEqual D vwCl (wC ad cI cZ cJ n kd sd ts fs tr on rp lt ru lg lp) (tyC cI cZ cJ) [.ref (ad 0), .int x1, .int x2] eIO) : LW l yL_areEqual wsL_areEqual rm_L_areEqual D ((wC ad cI cZ cJ n kd sd ts fs tr on rp lt ru lg lp) ++ [(o, .inl (cJ, 1, .inr (.inl g)))]) ((wC ad cI cZ cJ n kd sd ts fs tr on rp lt ru lg lp) ++ [(o, .inl (cJ, 1, .inr (.inl g)))]) (tyC cI cZ cJ) [.ref (ad 0), .int x1, .int x2, .ref o] (nI 1) := by
  intro A sz
  refine metWH (cc := cL_areEqual) (maxL := 5) (ret := some .int) (by decide) rfl ?_
  intro p e s m args below meth c s₁ B hml hv
  obtain ⟨rfl, rfl, hP, hK, hD, hXE, hTB⟩ := hv
  have hx := B.exec
  have hb := B.bytes
  have hr := B.returns
  have hts := atoms_spec (ws := wsL_areEqual) B.pre
  have hown : s.vm.findClass RL = some m.cls := findClass_of_methodNamed B.named
  have hlocks := B.notSynchronized
  have hS : va_S (fun q => A q ∨ s.heap.size ≤ q) s.heap s.heap [] := va_S.rf
  have hl := lv_entry ([.ref (ad 0), .int x1, .int x2, .ref o]) (n := 5) (Nat.le_of_ble_eq_true rfl)
  rw [lg_entry_eq]
  generalize (lg_sl ([.ref (ad 0), .int x1, .int x2, .ref o]) ++ List.replicate (5 - (lg_sl ([.ref (ad 0), .int x1, .int x2, .ref o])).length) Slot.unset).toArray = ls at hl ⊢
  have hl : lv_has ls 5 [(0, .ref (ad 0)), (1, .int x1), (2, .int x2), (3, .ref o)] := hl
  have hPc := hP.l (w1 := (wC ad cI cZ cJ n kd sd ts fs tr on rp lt ru lg lp))
  have hDc := hD.l (w1 := (wC ad cI cZ cJ n kd sd ts fs tr on rp lt ru lg lp))
  have htab : c.exceptionTable.toList = [⟨0, 17, 20, 13⟩] := vx_table (x := yL_areEqual) B (hts (.codeWith yL_areEqual cL_areEqual 5 (some .int) [(0, 17, 20, 13)]) List.mem_cons_self)
  refine lv_aload_n hx hb dL_areEqual_0 rfl (lv_at hl 3 rfl) ?_
  refine lv_iconst (v := nI 0) hx hb dL_areEqual_1 (by decide) ?_
  refine lv_aload_n hx hb dL_areEqual_2 rfl (lv_at hl 0 rfl) ?_
  refine lv_iload_n hx hb dL_areEqual_3 rfl (lv_at hl 1 rfl) ?_
  refine lv_iload_n hx hb dL_areEqual_4 rfl (lv_at hl 2 rfl) ?_
  refine bd_C (own := RL) (As := [.int x1, .int x2]) (rest := [.int (nI 0), .ref o]) (C := RX0) (ci := 0) (q0 := 0) (A0 := fun q => A q ∨ s.heap.size ≤ q) ⟨hx, hb, hml, hown, hts⟩ hM gL_areEqual_X0_areEqual rfl ⟨rfl, rfl⟩ 2 rfl (by decide +kernel) ⟨Nat.le_of_ble_eq_true rfl, Nat.le_of_ble_eq_true rfl⟩ hPc hK rfl rfl rfl hXE hS (fun q h => Or.inr h) hl.1 rfl (Nat.le_of_ble_eq_true rfl) dL_areEqual_5 ⟨Nat.le_of_ble_eq_true rfl, Nat.le_of_ble_eq_true rfl⟩ (fun q9 ce H locs hz1 hk1 hS hce hcv hcl => ?_)
  refine vx_catch (own := RL) (name := eIO) hown [] ⟨0, 17, 20, 13⟩ [] htab (fun _ h => absurd h List.not_mem_nil) (by decide) (by decide) (hts (.classLink RL 13 eIO) (by decide +kernel)) (castIO hXE) hce hcv hcl ?_
  refine W.eq (g2 := F0 m 20 ls [.ref q9]) rfl ?_
  refine lv_astore (lv' := [(4, .ref q9), (0, .ref (ad 0)), (1, .int x1), (2, .int x2), (3, .ref o)]) hx hb dL_areEqual_20 hl (by decide) rfl (fun ls hl => ?_)
  refine lv_iconst (v := nI 1) hx hb dL_areEqual_22 (by decide) ?_
  refine W.widen (k := 1) (n := 6) (Nat.le_of_ble_eq_true rfl) (Nat.le_of_ble_eq_true rfl) ?_
  exact W.zret hx hb hr (vp_nar_int _) (fun t ht hW => ⟨⟨_, (), rfl, rfl, by subst ht; exact keptP hP hk1⟩, hS.F ht⟩) hS.2.2 dL_areEqual_23
def rm_L_depends : Room := { frames := 8, cells := 1, slots := 6, locals := 127 }
set_option maxHeartbeats 4000000 in
set_option maxRecDepth 100000 in
theorem k_depends_ok (l : Launch) (D : va_G) (ad : Nat → Nat) (cI cZ cJ : ClassId) (n : Nat) (kd : Nat → Nat) (sd : Nat → Bool) (ts : Nat → Int64) (fs : Nat → Int64) (tr : Nat → Nat) (on : Nat → Bool) (rp : Nat → Nat) (lt : Nat) (ru : Nat → Option Nat) (lg : Nat) (lp : Int64) (n' : Nat) (kd' : Nat → Nat) (sd' : Nat → Bool) (ts' : Nat → Int64) (fs' : Nat → Int64) (tr' : Nat → Nat) (on' : Nat → Bool) (rp' : Nat → Nat) (lt' : Nat) (ru' : Nat → Option Nat) (lg' : Nat) (lp' : Int64) (o : Nat) (g : Nat → Int64) (x1 x2 : Int32) (f : Int32) (hM : MuIe l yX0_depends wsX0_depends rm_X0_depends D vwCl (wC ad cI cZ cJ n kd sd ts fs tr on rp lt ru lg lp) (fun _ => (wC ad cI cZ cJ n' kd' sd' ts' fs' tr' on' rp' lt' ru' lg' lp')) (tyC cI cZ cJ) [.ref (ad 0), .int x1, .int x2] f) : LW l yL_depends wsL_depends rm_L_depends D ((wC ad cI cZ cJ n kd sd ts fs tr on rp lt ru lg lp) ++ [(o, .inl (cJ, 1, .inr (.inl g)))]) ((wC ad cI cZ cJ n' kd' sd' ts' fs' tr' on' rp' lt' ru' lg' lp') ++ [(o, .inl (cJ, 1, .inr (.inl (vp_updL g 0 (if f = 0 then 0 else 1)))))]) (tyC cI cZ cJ) [.ref (ad 0), .int x1, .int x2, .ref o] (nI 0) := by
  intro A sz
  refine metWH (cc := cL_depends) (maxL := 5) (ret := some .int) (by decide) rfl ?_
  intro p e s m args below meth c s₁ B hml hv
  obtain ⟨rfl, rfl, hP, hK, hD, hXE, hTB⟩ := hv
  have hx := B.exec
  have hb := B.bytes
  have hr := B.returns
  have hts := atoms_spec (ws := wsL_depends) B.pre
  have hown : s.vm.findClass RL = some m.cls := findClass_of_methodNamed B.named
  have hlocks := B.notSynchronized
  have hS : va_S (fun q => A q ∨ s.heap.size ≤ q) s.heap s.heap [] := va_S.rf
  have hl := lv_entry ([.ref (ad 0), .int x1, .int x2, .ref o]) (n := 5) (Nat.le_of_ble_eq_true rfl)
  rw [lg_entry_eq]
  generalize (lg_sl ([.ref (ad 0), .int x1, .int x2, .ref o]) ++ List.replicate (5 - (lg_sl ([.ref (ad 0), .int x1, .int x2, .ref o])).length) Slot.unset).toArray = ls at hl ⊢
  have hl : lv_has ls 5 [(0, .ref (ad 0)), (1, .int x1), (2, .int x2), (3, .ref o)] := hl
  have hPc := hP.l (w1 := (wC ad cI cZ cJ n kd sd ts fs tr on rp lt ru lg lp))
  have hDc := hD.l (w1 := (wC ad cI cZ cJ n kd sd ts fs tr on rp lt ru lg lp))
  refine lv_aload_n hx hb dL_depends_0 rfl (lv_at hl 3 rfl) ?_
  refine lv_iconst (v := nI 0) hx hb dL_depends_1 (by decide) ?_
  refine lv_aload_n hx hb dL_depends_2 rfl (lv_at hl 0 rfl) ?_
  refine lv_iload_n hx hb dL_depends_3 rfl (lv_at hl 1 rfl) ?_
  refine lv_iload_n hx hb dL_depends_4 rfl (lv_at hl 2 rfl) ?_
  refine muI_Ve (own := RL) (As := [.int x1, .int x2]) (rest := [.int (nI 0), .ref o]) (C := RX0) (ci := 0) (q0 := 0) (A1 := AW (wC ad cI cZ cJ n kd sd ts fs tr on rp lt ru lg lp)) (A0 := fun q => A q ∨ s.heap.size ≤ q) ⟨hx, hb, hml, hown, hts⟩ hM gL_depends_X0_depends rfl ⟨rfl, rfl⟩ 2 rfl (by decide +kernel) ⟨Nat.le_of_ble_eq_true rfl, Nat.le_of_ble_eq_true rfl⟩ hPc hK hDc.aw (hTB.narrow (fun q h => hDc.awA h)) (fun q h => Or.inl (hDc.awA h)) rfl rfl rfl hS hl.1 rfl (Nat.le_of_ble_eq_true rfl) dL_depends_5 ⟨Nat.zero_le _, Nat.zero_le _⟩ (fun u H locs hP2 hz1 hk1 hS => ?_)
  have hPo := (hP.r (w1 := (wC ad cI cZ cJ n kd sd ts fs tr on rp lt ru lg lp))).off hk1 (fun q h1 h2 => hD.dis h2 h1)
  have hPj := hP2.app hPo
  have hDj : va_D (fun q => A q ∨ s.heap.size ≤ q) ((wC ad cI cZ cJ n' kd' sd' ts' fs' tr' on' rp' lt' ru' lg' lp') ++ [(o, .inl (cJ, 1, .inr (.inl g)))]) := sameD2 (hD.weaken (fun _ _ _ h => Or.inl h)) rfl
  refine lv_if_eq (tgt := 15) hx hb dL_depends_8 (by decide) (fun c_1 => ?_) (fun c_1 => ?_)
  · refine lv_lconst (v := 0) hx hb dL_depends_15 (by decide) ?_
    refine st_nl hx hb hK hPj hDj hS 9 2 rfl rfl (j := 0) (by decide) (by decide) dL_depends_16 (fun H locs hP3 hD3 hS => ?_)
    replace hP3 : va_P D vwCl ((wC ad cI cZ cJ n' kd' sd' ts' fs' tr' on' rp' lt' ru' lg' lp') ++ [(o, .inl (cJ, 1, .inr (.inl (vp_updL g 0 (if f = 0 then 0 else 1)))))]) H := by rw [if_pos c_1]; exact hP3
    refine lv_goto (tgt := 24) hx hb dL_depends_17 (by decide) ?_
    refine lv_iconst (v := nI 0) hx hb dL_depends_24 (by decide) ?_
    refine W.widen (k := 1) (n := 6) (Nat.le_of_ble_eq_true rfl) (Nat.le_of_ble_eq_true rfl) ?_
    exact W.zret hx hb hr (vp_nar_int _) (fun t ht hW => ⟨⟨_, (), rfl, rfl, by subst ht; exact hP3⟩, hS.F ht⟩) hS.2.2 dL_depends_25
  · refine lv_lconst (v := 1) hx hb dL_depends_11 (by decide) ?_
    refine lv_goto (tgt := 16) hx hb dL_depends_12 (by decide) ?_
    refine st_nl hx hb hK hPj hDj hS 9 2 rfl rfl (j := 0) (by decide) (by decide) dL_depends_16 (fun H locs hP3 hD3 hS => ?_)
    replace hP3 : va_P D vwCl ((wC ad cI cZ cJ n' kd' sd' ts' fs' tr' on' rp' lt' ru' lg' lp') ++ [(o, .inl (cJ, 1, .inr (.inl (vp_updL g 0 (if f = 0 then 0 else 1)))))]) H := by rw [if_neg c_1]; exact hP3
    refine lv_goto (tgt := 24) hx hb dL_depends_17 (by decide) ?_
    refine lv_iconst (v := nI 0) hx hb dL_depends_24 (by decide) ?_
    refine W.widen (k := 1) (n := 6) (Nat.le_of_ble_eq_true rfl) (Nat.le_of_ble_eq_true rfl) ?_
    exact W.zret hx hb hr (vp_nar_int _) (fun t ht hW => ⟨⟨_, (), rfl, rfl, by subst ht; exact hP3⟩, hS.F ht⟩) hS.2.2 dL_depends_25
set_option maxHeartbeats 4000000 in
set_option maxRecDepth 100000 in
theorem k_depends_b1 (l : Launch) (D : va_G) (ad : Nat → Nat) (cI cZ cJ : ClassId) (n : Nat) (kd : Nat → Nat) (sd : Nat → Bool) (ts : Nat → Int64) (fs : Nat → Int64) (tr : Nat → Nat) (on : Nat → Bool) (rp : Nat → Nat) (lt : Nat) (ru : Nat → Option Nat) (lg : Nat) (lp : Int64) (o : Nat) (g : Nat → Int64) (x1 x2 : Int32) (hM : Bd l yX0_depends wsX0_depends rb_X0_depends D vwCl (wC ad cI cZ cJ n kd sd ts fs tr on rp lt ru lg lp) (tyC cI cZ cJ) [.ref (ad 0), .int x1, .int x2] eIO) : LW l yL_depends wsL_depends rm_L_depends D ((wC ad cI cZ cJ n kd sd ts fs tr on rp lt ru lg lp) ++ [(o, .inl (cJ, 1, .inr (.inl g)))]) ((wC ad cI cZ cJ n kd sd ts fs tr on rp lt ru lg lp) ++ [(o, .inl (cJ, 1, .inr (.inl g)))]) (tyC cI cZ cJ) [.ref (ad 0), .int x1, .int x2, .ref o] (nI 1) := by
  intro A sz
  refine metWH (cc := cL_depends) (maxL := 5) (ret := some .int) (by decide) rfl ?_
  intro p e s m args below meth c s₁ B hml hv
  obtain ⟨rfl, rfl, hP, hK, hD, hXE, hTB⟩ := hv
  have hx := B.exec
  have hb := B.bytes
  have hr := B.returns
  have hts := atoms_spec (ws := wsL_depends) B.pre
  have hown : s.vm.findClass RL = some m.cls := findClass_of_methodNamed B.named
  have hlocks := B.notSynchronized
  have hS : va_S (fun q => A q ∨ s.heap.size ≤ q) s.heap s.heap [] := va_S.rf
  have hl := lv_entry ([.ref (ad 0), .int x1, .int x2, .ref o]) (n := 5) (Nat.le_of_ble_eq_true rfl)
  rw [lg_entry_eq]
  generalize (lg_sl ([.ref (ad 0), .int x1, .int x2, .ref o]) ++ List.replicate (5 - (lg_sl ([.ref (ad 0), .int x1, .int x2, .ref o])).length) Slot.unset).toArray = ls at hl ⊢
  have hl : lv_has ls 5 [(0, .ref (ad 0)), (1, .int x1), (2, .int x2), (3, .ref o)] := hl
  have hPc := hP.l (w1 := (wC ad cI cZ cJ n kd sd ts fs tr on rp lt ru lg lp))
  have hDc := hD.l (w1 := (wC ad cI cZ cJ n kd sd ts fs tr on rp lt ru lg lp))
  have htab : c.exceptionTable.toList = [⟨0, 17, 20, 13⟩] := vx_table (x := yL_depends) B (hts (.codeWith yL_depends cL_depends 5 (some .int) [(0, 17, 20, 13)]) List.mem_cons_self)
  refine lv_aload_n hx hb dL_depends_0 rfl (lv_at hl 3 rfl) ?_
  refine lv_iconst (v := nI 0) hx hb dL_depends_1 (by decide) ?_
  refine lv_aload_n hx hb dL_depends_2 rfl (lv_at hl 0 rfl) ?_
  refine lv_iload_n hx hb dL_depends_3 rfl (lv_at hl 1 rfl) ?_
  refine lv_iload_n hx hb dL_depends_4 rfl (lv_at hl 2 rfl) ?_
  refine bd_C (own := RL) (As := [.int x1, .int x2]) (rest := [.int (nI 0), .ref o]) (C := RX0) (ci := 0) (q0 := 0) (A0 := fun q => A q ∨ s.heap.size ≤ q) ⟨hx, hb, hml, hown, hts⟩ hM gL_depends_X0_depends rfl ⟨rfl, rfl⟩ 2 rfl (by decide +kernel) ⟨Nat.le_of_ble_eq_true rfl, Nat.le_of_ble_eq_true rfl⟩ hPc hK rfl rfl rfl hXE hS (fun q h => Or.inr h) hl.1 rfl (Nat.le_of_ble_eq_true rfl) dL_depends_5 ⟨Nat.le_of_ble_eq_true rfl, Nat.le_of_ble_eq_true rfl⟩ (fun q9 ce H locs hz1 hk1 hS hce hcv hcl => ?_)
  refine vx_catch (own := RL) (name := eIO) hown [] ⟨0, 17, 20, 13⟩ [] htab (fun _ h => absurd h List.not_mem_nil) (by decide) (by decide) (hts (.classLink RL 13 eIO) (by decide +kernel)) (castIO hXE) hce hcv hcl ?_
  refine W.eq (g2 := F0 m 20 ls [.ref q9]) rfl ?_
  refine lv_astore (lv' := [(4, .ref q9), (0, .ref (ad 0)), (1, .int x1), (2, .int x2), (3, .ref o)]) hx hb dL_depends_20 hl (by decide) rfl (fun ls hl => ?_)
  refine lv_iconst (v := nI 1) hx hb dL_depends_22 (by decide) ?_
  refine W.widen (k := 1) (n := 6) (Nat.le_of_ble_eq_true rfl) (Nat.le_of_ble_eq_true rfl) ?_
  exact W.zret hx hb hr (vp_nar_int _) (fun t ht hW => ⟨⟨_, (), rfl, rfl, by subst ht; exact keptP hP hk1⟩, hS.F ht⟩) hS.2.2 dL_depends_23
def rm_L_valueAt : Room := { frames := 8, cells := 1, slots := 6, locals := 125 }
set_option maxHeartbeats 4000000 in
set_option maxRecDepth 100000 in
theorem k_valueAt_ok (l : Launch) (D : va_G) (ad : Nat → Nat) (cI cZ cJ : ClassId) (n : Nat) (kd : Nat → Nat) (sd : Nat → Bool) (ts : Nat → Int64) (fs : Nat → Int64) (tr : Nat → Nat) (on : Nat → Bool) (rp : Nat → Nat) (lt : Nat) (ru : Nat → Option Nat) (lg : Nat) (lp : Int64) (n' : Nat) (kd' : Nat → Nat) (sd' : Nat → Bool) (ts' : Nat → Int64) (fs' : Nat → Int64) (tr' : Nat → Nat) (on' : Nat → Bool) (rp' : Nat → Nat) (lt' : Nat) (ru' : Nat → Option Nat) (lg' : Nat) (lp' : Int64) (o : Nat) (g : Nat → Int64) (x1 x2 : Int32) (f : Int32) (hM : MuIe l yX0_valueAt wsX0_valueAt rm_X0_valueAt D vwCl (wC ad cI cZ cJ n kd sd ts fs tr on rp lt ru lg lp) (fun _ => (wC ad cI cZ cJ n' kd' sd' ts' fs' tr' on' rp' lt' ru' lg' lp')) (tyC cI cZ cJ) [.ref (ad 0), .int x1, .int x2] f) : LW l yL_valueAt wsL_valueAt rm_L_valueAt D ((wC ad cI cZ cJ n kd sd ts fs tr on rp lt ru lg lp) ++ [(o, .inl (cJ, 1, .inr (.inl g)))]) ((wC ad cI cZ cJ n' kd' sd' ts' fs' tr' on' rp' lt' ru' lg' lp') ++ [(o, .inl (cJ, 1, .inr (.inl (vp_updL g 0 f.toInt64))))]) (tyC cI cZ cJ) [.ref (ad 0), .int x1, .int x2, .ref o] (nI 0) := by
  intro A sz
  refine metWH (cc := cL_valueAt) (maxL := 5) (ret := some .int) (by decide) rfl ?_
  intro p e s m args below meth c s₁ B hml hv
  obtain ⟨rfl, rfl, hP, hK, hD, hXE, hTB⟩ := hv
  have hx := B.exec
  have hb := B.bytes
  have hr := B.returns
  have hts := atoms_spec (ws := wsL_valueAt) B.pre
  have hown : s.vm.findClass RL = some m.cls := findClass_of_methodNamed B.named
  have hlocks := B.notSynchronized
  have hS : va_S (fun q => A q ∨ s.heap.size ≤ q) s.heap s.heap [] := va_S.rf
  have hl := lv_entry ([.ref (ad 0), .int x1, .int x2, .ref o]) (n := 5) (Nat.le_of_ble_eq_true rfl)
  rw [lg_entry_eq]
  generalize (lg_sl ([.ref (ad 0), .int x1, .int x2, .ref o]) ++ List.replicate (5 - (lg_sl ([.ref (ad 0), .int x1, .int x2, .ref o])).length) Slot.unset).toArray = ls at hl ⊢
  have hl : lv_has ls 5 [(0, .ref (ad 0)), (1, .int x1), (2, .int x2), (3, .ref o)] := hl
  have hPc := hP.l (w1 := (wC ad cI cZ cJ n kd sd ts fs tr on rp lt ru lg lp))
  have hDc := hD.l (w1 := (wC ad cI cZ cJ n kd sd ts fs tr on rp lt ru lg lp))
  refine lv_aload_n hx hb dL_valueAt_0 rfl (lv_at hl 3 rfl) ?_
  refine lv_iconst (v := nI 0) hx hb dL_valueAt_1 (by decide) ?_
  refine lv_aload_n hx hb dL_valueAt_2 rfl (lv_at hl 0 rfl) ?_
  refine lv_iload_n hx hb dL_valueAt_3 rfl (lv_at hl 1 rfl) ?_
  refine lv_iload_n hx hb dL_valueAt_4 rfl (lv_at hl 2 rfl) ?_
  refine muI_Ve (own := RL) (As := [.int x1, .int x2]) (rest := [.int (nI 0), .ref o]) (C := RX0) (ci := 0) (q0 := 0) (A1 := AW (wC ad cI cZ cJ n kd sd ts fs tr on rp lt ru lg lp)) (A0 := fun q => A q ∨ s.heap.size ≤ q) ⟨hx, hb, hml, hown, hts⟩ hM gL_valueAt_X0_valueAt rfl ⟨rfl, rfl⟩ 2 rfl (by decide +kernel) ⟨Nat.le_of_ble_eq_true rfl, Nat.le_of_ble_eq_true rfl⟩ hPc hK hDc.aw (hTB.narrow (fun q h => hDc.awA h)) (fun q h => Or.inl (hDc.awA h)) rfl rfl rfl hS hl.1 rfl (Nat.le_of_ble_eq_true rfl) dL_valueAt_5 ⟨Nat.zero_le _, Nat.zero_le _⟩ (fun u H locs hP2 hz1 hk1 hS => ?_)
  have hPo := (hP.r (w1 := (wC ad cI cZ cJ n kd sd ts fs tr on rp lt ru lg lp))).off hk1 (fun q h1 h2 => hD.dis h2 h1)
  have hPj := hP2.app hPo
  have hDj : va_D (fun q => A q ∨ s.heap.size ≤ q) ((wC ad cI cZ cJ n' kd' sd' ts' fs' tr' on' rp' lt' ru' lg' lp') ++ [(o, .inl (cJ, 1, .inr (.inl g)))]) := sameD2 (hD.weaken (fun _ _ _ h => Or.inl h)) rfl
  refine lv_i2l (v := f.toInt64) hx hb dL_valueAt_8 rfl ?_
  refine st_nl hx hb hK hPj hDj hS 9 2 rfl rfl (j := 0) (by decide) (by decide) dL_valueAt_9 (fun H locs hP3 hD3 hS => ?_)
  replace hP3 : va_P D vwCl ((wC ad cI cZ cJ n' kd' sd' ts' fs' tr' on' rp' lt' ru' lg' lp') ++ [(o, .inl (cJ, 1, .inr (.inl (vp_updL g 0 f.toInt64))))]) H := by exact hP3
  refine lv_goto (tgt := 21) hx hb dL_valueAt_10 (by decide) ?_
  refine lv_iconst (v := nI 0) hx hb dL_valueAt_21 (by decide) ?_
  refine W.widen (k := 1) (n := 6) (Nat.le_of_ble_eq_true rfl) (Nat.le_of_ble_eq_true rfl) ?_
  exact W.zret hx hb hr (vp_nar_int _) (fun t ht hW => ⟨⟨_, (), rfl, rfl, by subst ht; exact hP3⟩, hS.F ht⟩) hS.2.2 dL_valueAt_22
set_option maxHeartbeats 4000000 in
set_option maxRecDepth 100000 in
theorem k_valueAt_b1 (l : Launch) (D : va_G) (ad : Nat → Nat) (cI cZ cJ : ClassId) (n : Nat) (kd : Nat → Nat) (sd : Nat → Bool) (ts : Nat → Int64) (fs : Nat → Int64) (tr : Nat → Nat) (on : Nat → Bool) (rp : Nat → Nat) (lt : Nat) (ru : Nat → Option Nat) (lg : Nat) (lp : Int64) (o : Nat) (g : Nat → Int64) (x1 x2 : Int32) (hM : Bd l yX0_valueAt wsX0_valueAt rb_X0_valueAt D vwCl (wC ad cI cZ cJ n kd sd ts fs tr on rp lt ru lg lp) (tyC cI cZ cJ) [.ref (ad 0), .int x1, .int x2] eIO) : LW l yL_valueAt wsL_valueAt rm_L_valueAt D ((wC ad cI cZ cJ n kd sd ts fs tr on rp lt ru lg lp) ++ [(o, .inl (cJ, 1, .inr (.inl g)))]) ((wC ad cI cZ cJ n kd sd ts fs tr on rp lt ru lg lp) ++ [(o, .inl (cJ, 1, .inr (.inl g)))]) (tyC cI cZ cJ) [.ref (ad 0), .int x1, .int x2, .ref o] (nI 1) := by
  intro A sz
  refine metWH (cc := cL_valueAt) (maxL := 5) (ret := some .int) (by decide) rfl ?_
  intro p e s m args below meth c s₁ B hml hv
  obtain ⟨rfl, rfl, hP, hK, hD, hXE, hTB⟩ := hv
  have hx := B.exec
  have hb := B.bytes
  have hr := B.returns
  have hts := atoms_spec (ws := wsL_valueAt) B.pre
  have hown : s.vm.findClass RL = some m.cls := findClass_of_methodNamed B.named
  have hlocks := B.notSynchronized
  have hS : va_S (fun q => A q ∨ s.heap.size ≤ q) s.heap s.heap [] := va_S.rf
  have hl := lv_entry ([.ref (ad 0), .int x1, .int x2, .ref o]) (n := 5) (Nat.le_of_ble_eq_true rfl)
  rw [lg_entry_eq]
  generalize (lg_sl ([.ref (ad 0), .int x1, .int x2, .ref o]) ++ List.replicate (5 - (lg_sl ([.ref (ad 0), .int x1, .int x2, .ref o])).length) Slot.unset).toArray = ls at hl ⊢
  have hl : lv_has ls 5 [(0, .ref (ad 0)), (1, .int x1), (2, .int x2), (3, .ref o)] := hl
  have hPc := hP.l (w1 := (wC ad cI cZ cJ n kd sd ts fs tr on rp lt ru lg lp))
  have hDc := hD.l (w1 := (wC ad cI cZ cJ n kd sd ts fs tr on rp lt ru lg lp))
  have htab : c.exceptionTable.toList = [⟨0, 10, 13, 13⟩, ⟨0, 10, 17, 20⟩] := vx_table (x := yL_valueAt) B (hts (.codeWith yL_valueAt cL_valueAt 5 (some .int) [(0, 10, 13, 13), (0, 10, 17, 20)]) List.mem_cons_self)
  refine lv_aload_n hx hb dL_valueAt_0 rfl (lv_at hl 3 rfl) ?_
  refine lv_iconst (v := nI 0) hx hb dL_valueAt_1 (by decide) ?_
  refine lv_aload_n hx hb dL_valueAt_2 rfl (lv_at hl 0 rfl) ?_
  refine lv_iload_n hx hb dL_valueAt_3 rfl (lv_at hl 1 rfl) ?_
  refine lv_iload_n hx hb dL_valueAt_4 rfl (lv_at hl 2 rfl) ?_
  refine bd_C (own := RL) (As := [.int x1, .int x2]) (rest := [.int (nI 0), .ref o]) (C := RX0) (ci := 0) (q0 := 0) (A0 := fun q => A q ∨ s.heap.size ≤ q) ⟨hx, hb, hml, hown, hts⟩ hM gL_valueAt_X0_valueAt rfl ⟨rfl, rfl⟩ 2 rfl (by decide +kernel) ⟨Nat.le_of_ble_eq_true rfl, Nat.le_of_ble_eq_true rfl⟩ hPc hK rfl rfl rfl hXE hS (fun q h => Or.inr h) hl.1 rfl (Nat.le_of_ble_eq_true rfl) dL_valueAt_5 ⟨Nat.le_of_ble_eq_true rfl, Nat.le_of_ble_eq_true rfl⟩ (fun q9 ce H locs hz1 hk1 hS hce hcv hcl => ?_)
  refine vx_catch (own := RL) (name := eIO) hown [] ⟨0, 10, 13, 13⟩ [⟨0, 10, 17, 20⟩] htab (fun _ h => absurd h List.not_mem_nil) (by decide) (by decide) (hts (.classLink RL 13 eIO) (by decide +kernel)) (castIO hXE) hce hcv hcl ?_
  refine W.eq (g2 := F0 m 13 ls [.ref q9]) rfl ?_
  refine lv_astore (lv' := [(4, .ref q9), (0, .ref (ad 0)), (1, .int x1), (2, .int x2), (3, .ref o)]) hx hb dL_valueAt_13 hl (by decide) rfl (fun ls hl => ?_)
  refine lv_iconst (v := nI 1) hx hb dL_valueAt_15 (by decide) ?_
  refine W.widen (k := 1) (n := 6) (Nat.le_of_ble_eq_true rfl) (Nat.le_of_ble_eq_true rfl) ?_
  exact W.zret hx hb hr (vp_nar_int _) (fun t ht hW => ⟨⟨_, (), rfl, rfl, by subst ht; exact keptP hP hk1⟩, hS.F ht⟩) hS.2.2 dL_valueAt_16
set_option maxHeartbeats 4000000 in
set_option maxRecDepth 100000 in
theorem k_valueAt_b2 (l : Launch) (D : va_G) (ad : Nat → Nat) (cI cZ cJ : ClassId) (n : Nat) (kd : Nat → Nat) (sd : Nat → Bool) (ts : Nat → Int64) (fs : Nat → Int64) (tr : Nat → Nat) (on : Nat → Bool) (rp : Nat → Nat) (lt : Nat) (ru : Nat → Option Nat) (lg : Nat) (lp : Int64) (o : Nat) (g : Nat → Int64) (x1 x2 : Int32) (hM : Bd l yX0_valueAt wsX0_valueAt rb_X0_valueAt D vwCl (wC ad cI cZ cJ n kd sd ts fs tr on rp lt ru lg lp) (tyC cI cZ cJ) [.ref (ad 0), .int x1, .int x2] eIA) : LW l yL_valueAt wsL_valueAt rm_L_valueAt D ((wC ad cI cZ cJ n kd sd ts fs tr on rp lt ru lg lp) ++ [(o, .inl (cJ, 1, .inr (.inl g)))]) ((wC ad cI cZ cJ n kd sd ts fs tr on rp lt ru lg lp) ++ [(o, .inl (cJ, 1, .inr (.inl g)))]) (tyC cI cZ cJ) [.ref (ad 0), .int x1, .int x2, .ref o] (nI 2) := by
  intro A sz
  refine metWH (cc := cL_valueAt) (maxL := 5) (ret := some .int) (by decide) rfl ?_
  intro p e s m args below meth c s₁ B hml hv
  obtain ⟨rfl, rfl, hP, hK, hD, hXE, hTB⟩ := hv
  have hx := B.exec
  have hb := B.bytes
  have hr := B.returns
  have hts := atoms_spec (ws := wsL_valueAt) B.pre
  have hown : s.vm.findClass RL = some m.cls := findClass_of_methodNamed B.named
  have hlocks := B.notSynchronized
  have hS : va_S (fun q => A q ∨ s.heap.size ≤ q) s.heap s.heap [] := va_S.rf
  have hl := lv_entry ([.ref (ad 0), .int x1, .int x2, .ref o]) (n := 5) (Nat.le_of_ble_eq_true rfl)
  rw [lg_entry_eq]
  generalize (lg_sl ([.ref (ad 0), .int x1, .int x2, .ref o]) ++ List.replicate (5 - (lg_sl ([.ref (ad 0), .int x1, .int x2, .ref o])).length) Slot.unset).toArray = ls at hl ⊢
  have hl : lv_has ls 5 [(0, .ref (ad 0)), (1, .int x1), (2, .int x2), (3, .ref o)] := hl
  have hPc := hP.l (w1 := (wC ad cI cZ cJ n kd sd ts fs tr on rp lt ru lg lp))
  have hDc := hD.l (w1 := (wC ad cI cZ cJ n kd sd ts fs tr on rp lt ru lg lp))
  have htab : c.exceptionTable.toList = [⟨0, 10, 13, 13⟩, ⟨0, 10, 17, 20⟩] := vx_table (x := yL_valueAt) B (hts (.codeWith yL_valueAt cL_valueAt 5 (some .int) [(0, 10, 13, 13), (0, 10, 17, 20)]) List.mem_cons_self)
  refine lv_aload_n hx hb dL_valueAt_0 rfl (lv_at hl 3 rfl) ?_
  refine lv_iconst (v := nI 0) hx hb dL_valueAt_1 (by decide) ?_
  refine lv_aload_n hx hb dL_valueAt_2 rfl (lv_at hl 0 rfl) ?_
  refine lv_iload_n hx hb dL_valueAt_3 rfl (lv_at hl 1 rfl) ?_
  refine lv_iload_n hx hb dL_valueAt_4 rfl (lv_at hl 2 rfl) ?_
  refine bd_C (own := RL) (As := [.int x1, .int x2]) (rest := [.int (nI 0), .ref o]) (C := RX0) (ci := 0) (q0 := 0) (A0 := fun q => A q ∨ s.heap.size ≤ q) ⟨hx, hb, hml, hown, hts⟩ hM gL_valueAt_X0_valueAt rfl ⟨rfl, rfl⟩ 2 rfl (by decide +kernel) ⟨Nat.le_of_ble_eq_true rfl, Nat.le_of_ble_eq_true rfl⟩ hPc hK rfl rfl rfl hXE hS (fun q h => Or.inr h) hl.1 rfl (Nat.le_of_ble_eq_true rfl) dL_valueAt_5 ⟨Nat.le_of_ble_eq_true rfl, Nat.le_of_ble_eq_true rfl⟩ (fun q9 ce H locs hz1 hk1 hS hce hcv hcl => ?_)
  refine vx_catch (own := RL) (name := eIA) hown [⟨0, 10, 13, 13⟩] ⟨0, 10, 17, 20⟩ [] htab (fun z hz => by rcases List.mem_singleton.mp hz with rfl; exact Or.inr ⟨by decide, eIO, hts (.classLink RL 13 eIO) (by decide +kernel), hXE.2.2.2.2.2.2.1⟩) (by decide) (by decide) (hts (.classLink RL 20 eIA) (by decide +kernel)) (castIA hXE) hce hcv hcl ?_
  refine W.eq (g2 := F0 m 17 ls [.ref q9]) rfl ?_
  refine lv_astore (lv' := [(4, .ref q9), (0, .ref (ad 0)), (1, .int x1), (2, .int x2), (3, .ref o)]) hx hb dL_valueAt_17 hl (by decide) rfl (fun ls hl => ?_)
  refine lv_iconst (v := nI 2) hx hb dL_valueAt_19 (by decide) ?_
  refine W.widen (k := 1) (n := 6) (Nat.le_of_ble_eq_true rfl) (Nat.le_of_ble_eq_true rfl) ?_
  exact W.zret hx hb hr (vp_nar_int _) (fun t ht hW => ⟨⟨_, (), rfl, rfl, by subst ht; exact keptP hP hk1⟩, hS.F ht⟩) hS.2.2 dL_valueAt_20
