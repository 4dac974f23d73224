set_option maxHeartbeats 4000000 in
set_option maxRecDepth 100000 in
theorem law_silence {p : Program} {l : Launch} {e : Env} {s : State} {m : MethodId} {below : List Frame} {meth : Method} {c : Code} {D : va_G} {ad bd : Nat → Nat} {cI cZ cJ : ClassId} {o b L : Nat} {xs : Nat → Int32} {Q : State → Prop} (C0 : CX p l s m meth c D ad bd cI cZ cJ o b L xs) {n : Nat} {kd : Nat → Nat} {fi : Nat → Nat} {se : Nat → Nat} {sd : Nat → Bool} {ts : Nat → Int64} {fs : Nat → Int64} {tr : Nat → Nat} {on : Nat → Bool} {sy : Nat → Nat} {rp : Nat → Nat} {lt : Nat} {ru : Nat → Option Nat} {lg : Nat} {lp : Int64} {th : Int32} {rs : Nat → Int32} {g : Nat → Int64} {H : Heap} {locs : List Loc} {ls : Array Slot} {j C Sl : Nat} (hj : 4 * j + 4 ≤ L) (hL : L ≤ 2048) (hC : C + 1 ≤ 1055) (hSl : Sl + 6 ≤ 13762) (hR : REL n kd fi se sd ts fs tr sy rp lt ru lg lp) (hPc : va_P D vwCl (wC ad cI cZ cJ n kd sd ts fs tr on rp lt ru lg lp) H) (hPm : va_P D vwCl (wM bd cI cZ cJ th n kd fi se sd tr on sy lt ru lg rs) H) (hPo : va_P D vwCl [(o, .inl (cJ, 1, .inr (.inl g)))] H) (hS : va_S (AF s) s.heap H locs) (hl : lv_has ls 9 [(0, .ref b), (1, .ref (ad 0)), (2, .ref (bd 0)), (3, .ref o), (4, .int (nI (4 * j)))])
    (kk : KN p l e s m below meth c D ad bd cI cZ cJ o b j (C + 1) (Sl + 6) Q) : W p l e room_1 s m #[Value.ref b] below meth c H locs C Sl Q (F0 m 1387 ls []) := by
  obtain ⟨⟨hx, hb, hr, hml, hown, hts0, hX, hbl, hlocks, hgv⟩, htr, hK, hXE, hTB, hDA⟩ := C0
  have hown : s.vm.findClass RL = some m.cls := hown
  have hts : ∀ w ∈ wsL_law, w.before #[Value.ref b] s = true := fun w h => hts0 w (wsL_law_in w h)
  have hbA : ¬ AF s b := Nat.not_le.mpr hbl
  have hO := hR.okc
  have hDm : va_D (AF s) (wM bd cI cZ cJ th n kd fi se sd tr on sy lt ru lg rs) := sameD2 hDA.r rfl
  have hDc : va_D (AF s) ((wC ad cI cZ cJ n kd sd ts fs tr on rp lt ru lg lp) ++ [(o, .inl (cJ, 1, .inr (.inl g)))]) := sameD2 hDA.l rfl
  have hDa : va_D (AF s) (((wC ad cI cZ cJ n kd sd ts fs tr on rp lt ru lg lp) ++ [(o, .inl (cJ, 1, .inr (.inl g)))]) ++ (wM bd cI cZ cJ th n kd fi se sd tr on sy lt ru lg rs)) := sameD2 hDA rfl
  have hF : (rI (slF (hsS tr on lt 6) tr (fun h => awS (itS (lkN ts fs) ru (gsS rp h 6) 12) 3 6) 64).1) = (rI (slM (hsS tr on lt 6) tr (fun h => awS (mIt sy (wv kd fi se) ru h 12) 3 6) 64).1) := congrArg rI (silence_eq hR _)
  obtain ⟨F, hF0⟩ : ∃ F, (rI (slM (hsS tr on lt 6) tr (fun h => awS (mIt sy (wv kd fi se) ru h 12) 3 6) 64).1) = F := ⟨_, rfl⟩
  replace hF := hF.trans hF0
  refine lv_aload_n hx hb dL_law_1387 rfl (lv_at hl 1 rfl) ?_
  refine puI_V (own := RL) (As := []) (rest := []) (C := RX0) (ci := 0) (q0 := 0) ⟨hx, hb, hml, hown, hts⟩ (c_X0_silence l D ad cI cZ cJ n kd sd ts fs tr on rp lt ru lg lp hO) gL_law_X0_silence rfl ⟨rfl, rfl⟩ 0 rfl (by decide +kernel) ⟨Nat.le_of_ble_eq_true rfl, Nat.le_of_ble_eq_true rfl⟩ hPc hK rfl rfl rfl hS hl.1 rfl (Nat.le_of_ble_eq_true rfl) dL_law_1388 ⟨(by omega : C + 0 ≤ 1055), (by omega : Sl + 0 ≤ 13762)⟩ (fun H locs hk1 hS => ?_)
  replace hPm := keptP hPm hk1
  replace hPc := keptP hPc hk1
  replace hPo := keptP hPo hk1
  refine tc_int (y := F) hF ?_
  refine lv_aload_n hx hb dL_law_1391 rfl (lv_at hl 2 rfl) ?_
  refine muI_V (own := RL) (As := []) (rest := [.int F]) (C := RX1) (ci := 1) (q0 := 0) (A1 := AW (wM bd cI cZ cJ th n kd fi se sd tr on sy lt ru lg rs)) (A0 := AF s) ⟨hx, hb, hml, hown, hts⟩ (c_X1_silence l D bd cI cZ cJ th n kd fi se sd tr on sy lt ru lg rs hR.1 (fun w _ => mIt_end hR w)) gL_law_X1_silence rfl ⟨rfl, rfl⟩ 0 rfl (by decide +kernel) ⟨Nat.le_of_ble_eq_true rfl, Nat.le_of_ble_eq_true rfl⟩ hPm hK hDm.aw (fun q h => hDm.awA h) rfl rfl rfl hS hl.1 rfl (Nat.le_of_ble_eq_true rfl) dL_law_1392 ⟨(by omega : C + 0 ≤ 1055), (by omega : Sl + 0 ≤ 13762)⟩ (fun u H locs hPm hz1 hk1 hS => ?_)
  replace hPc := hPc.off hk1 (fun q h1 h2 => hDa.dis (AW.same (w := (wC ad cI cZ cJ n kd sd ts fs tr on rp lt ru lg lp) ++ [(o, .inl (cJ, 1, .inr (.inl g)))]) (w' := (wC ad cI cZ cJ n kd sd ts fs tr on rp lt ru lg lp) ++ [(o, .inl (cJ, 1, .inr (.inl g)))]) rfl (AW.inl h1)) h2)
  replace hPo := hPo.off hk1 (fun q h1 h2 => hDa.dis (AW.same (w := (wC ad cI cZ cJ n kd sd ts fs tr on rp lt ru lg lp) ++ [(o, .inl (cJ, 1, .inr (.inl g)))]) (w' := (wC ad cI cZ cJ n kd sd ts fs tr on rp lt ru lg lp) ++ [(o, .inl (cJ, 1, .inr (.inl g)))]) rfl (AW.inr h1)) h2)
  refine tc_int (y := F) hF0 ?_
  refine cT_eq (tgt := 1999) hx hb dL_law_1395 (by decide) rfl ?_
  refine W.widen (k := C + 1) (n := Sl + 6) (by omega) (by omega) ?_
  exact kk n kd fi se sd ts fs tr on sy rp lt ru lg lp _ _ g _ _ ls hR hPc hPm hPo hS (lv_sub hl [0, 1, 2, 3, 4] rfl)
set_option maxHeartbeats 4000000 in
set_option maxRecDepth 100000 in
theorem law_contradicted {p : Program} {l : Launch} {e : Env} {s : State} {m : MethodId} {below : List Frame} {meth : Method} {c : Code} {D : va_G} {ad bd : Nat → Nat} {cI cZ cJ : ClassId} {o b L : Nat} {xs : Nat → Int32} {Q : State → Prop} (C0 : CX p l s m meth c D ad bd cI cZ cJ o b L xs) {n : Nat} {kd : Nat → Nat} {fi : Nat → Nat} {se : Nat → Nat} {sd : Nat → Bool} {ts : Nat → Int64} {fs : Nat → Int64} {tr : Nat → Nat} {on : Nat → Bool} {sy : Nat → Nat} {rp : Nat → Nat} {lt : Nat} {ru : Nat → Option Nat} {lg : Nat} {lp : Int64} {th : Int32} {rs : Nat → Int32} {g : Nat → Int64} {H : Heap} {locs : List Loc} {ls : Array Slot} {j C Sl : Nat} (hj : 4 * j + 4 ≤ L) (hL : L ≤ 2048) (hC : C + 1 ≤ 1055) (hSl : Sl + 6 ≤ 13762) (hR : REL n kd fi se sd ts fs tr sy rp lt ru lg lp) (hPc : va_P D vwCl (wC ad cI cZ cJ n kd sd ts fs tr on rp lt ru lg lp) H) (hPm : va_P D vwCl (wM bd cI cZ cJ th n kd fi se sd tr on sy lt ru lg rs) H) (hPo : va_P D vwCl [(o, .inl (cJ, 1, .inr (.inl g)))] H) (hS : va_S (AF s) s.heap H locs) (hl : lv_has ls 9 [(0, .ref b), (1, .ref (ad 0)), (2, .ref (bd 0)), (3, .ref o), (4, .int (nI (4 * j)))])
    (kk : KN p l e s m below meth c D ad bd cI cZ cJ o b j (C + 1) (Sl + 6) Q) : W p l e room_1 s m #[Value.ref b] below meth c H locs C Sl Q (F0 m 1400 ls []) := by
  obtain ⟨⟨hx, hb, hr, hml, hown, hts0, hX, hbl, hlocks, hgv⟩, htr, hK, hXE, hTB, hDA⟩ := C0
  have hown : s.vm.findClass RL = some m.cls := hown
  have hts : ∀ w ∈ wsL_law, w.before #[Value.ref b] s = true := fun w h => hts0 w (wsL_law_in w h)
  have hbA : ¬ AF s b := Nat.not_le.mpr hbl
  have hO := hR.okc
  have hDm : va_D (AF s) (wM bd cI cZ cJ th n kd fi se sd tr on sy lt ru lg rs) := sameD2 hDA.r rfl
  have hDc : va_D (AF s) ((wC ad cI cZ cJ n kd sd ts fs tr on rp lt ru lg lp) ++ [(o, .inl (cJ, 1, .inr (.inl g)))]) := sameD2 hDA.l rfl
  have hDa : va_D (AF s) (((wC ad cI cZ cJ n kd sd ts fs tr on rp lt ru lg lp) ++ [(o, .inl (cJ, 1, .inr (.inl g)))]) ++ (wM bd cI cZ cJ th n kd fi se sd tr on sy lt ru lg rs)) := sameD2 hDA rfl
  obtain ⟨k, r, n', kd', fi', se', sd', ts', fs', tr', on', sy', rp', lt', ru', lg', lp', hR', hWr, hMd⟩ := op_contradicted l D ad bd cI cZ cJ o htr hR (xs (4 * j + 1)) (on := on)
  obtain ⟨g', hLW, hans⟩ := hWr g
  refine lv_aload_n hx hb dL_law_1400 rfl (lv_at hl 1 rfl) ?_
  refine lv_aload_n hx hb dL_law_1401 rfl (lv_at hl 0 rfl) ?_
  refine lv_iload hx hb dL_law_1402 (lv_at hl 4 rfl) ?_
  refine lv_iconst (v := nI 1) hx hb dL_law_1404 (by decide) ?_
  refine lv_iadd hx hb dL_law_1405 ?_
  refine tc_int (y := nI (4 * j + 1)) (nI_add _ _) ?_
  refine va_sld hx hb hX hbl hbA hS (vp_in_nI (n := (4 * j + 1)) (by omega) (by omega)) dL_law_1406 ?_
  refine tc_int (y := xs (4 * j + 1)) (by rw [nI_clamp (by omega)]) ?_
  refine lv_aload_n hx hb dL_law_1407 rfl (lv_at hl 3 rfl) ?_
  refine lw_S (own := RL) (As := [.ref (ad 0), .int (xs (4 * j + 1)), .ref o]) (rest := []) (A1 := AW ((wC ad cI cZ cJ n kd sd ts fs tr on rp lt ru lg lp) ++ [(o, .inl (cJ, 1, .inr (.inl g)))])) (A0 := AF s) ⟨hx, hb, hml, hown, hts⟩ hLW gL_law_L_contradicted rfl ⟨rfl, rfl⟩ 3 rfl (by decide +kernel) ⟨Nat.le_of_ble_eq_true rfl, Nat.le_of_ble_eq_true rfl⟩ (hPc.app hPo) hK hDc.aw (hXE.kept (fun q h1 _ => hS.2.1 q h1 (Nat.not_le.mpr h1))) ((hTB.kept hS.2.1).narrow (fun q h => hDc.awA h)) (fun q h => hDc.awA h) (fun q h => Nat.le_trans hS.1 h) hS hl.1 rfl (Nat.le_of_ble_eq_true rfl) dL_law_1408 ⟨(by omega : C + 1 ≤ 1055), (by omega : Sl + 6 ≤ 13762)⟩ (fun H locs hP9 hz1 hk1 hS => ?_)
  replace hPm := hPm.off hk1 (fun q h1 h2 => hDa.dis h2 h1)
  replace hPc := hP9.l
  replace hPo := hP9.r
  refine lv_istore (lv' := [(5, .int k), (0, .ref b), (1, .ref (ad 0)), (2, .ref (bd 0)), (3, .ref o), (4, .int (nI (4 * j)))]) hx hb dL_law_1411 hl (by decide) rfl (fun ls hl => ?_)
  refine lv_aload_n hx hb dL_law_1413 rfl (lv_at hl 3 rfl) ?_
  refine lv_aload_n hx hb dL_law_1414 rfl (lv_at hl 1 rfl) ?_
  refine lv_iload hx hb dL_law_1415 (lv_at hl 5 rfl) ?_
  refine lv_iconst (v := nI 1) hx hb dL_law_1417 (by decide) ?_
  refine lv_iadd hx hb dL_law_1418 ?_
  refine tc_int (y := nI (4 * j + 1)) (nI_add _ _) ?_
  refine va_sld hx hb hX hbl hbA hS (vp_in_nI (n := (4 * j + 1)) (by omega) (by omega)) dL_law_1419 ?_
  refine tc_int (y := xs (4 * j + 1)) (by rw [nI_clamp (by omega)]) ?_
  refine muI_V (own := RL) (As := [.int (xs (4 * j + 1))]) (rest := []) (C := RX1) (ci := 1) (q0 := 0) (A1 := AW (wM bd cI cZ cJ th n kd fi se sd tr on sy lt ru lg rs)) (A0 := AF s) ⟨hx, hb, hml, hown, hts⟩ (hMd th rs) gL_law_X1_contradicted rfl ⟨rfl, rfl⟩ 1 rfl (by decide +kernel) ⟨Nat.le_of_ble_eq_true rfl, Nat.le_of_ble_eq_true rfl⟩ hPm hK hDm.aw (fun q h => hDm.awA h) rfl rfl rfl hS hl.1 rfl (Nat.le_of_ble_eq_true rfl) dL_law_1420 ⟨(by omega : C + 1 + 0 ≤ 1055), (by omega : Sl + 6 + 0 ≤ 13762)⟩ (fun u H locs hPm hz1 hk1 hS => ?_)
  replace hPc := hPc.off hk1 (fun q h1 h2 => hDa.dis (AW.same (w := (wC ad cI cZ cJ n' kd' sd' ts' fs' tr' on' rp' lt' ru' lg' lp') ++ [(o, .inl (cJ, 1, .inr (.inl g)))]) (w' := (wC ad cI cZ cJ n kd sd ts fs tr on rp lt ru lg lp) ++ [(o, .inl (cJ, 1, .inr (.inl g)))]) rfl (AW.inl h1)) h2)
  replace hPo := hPo.off hk1 (fun q h1 h2 => hDa.dis (AW.same (w := (wC ad cI cZ cJ n kd sd ts fs tr on rp lt ru lg lp) ++ [(o, .inl (cJ, 1, .inr (.inl g')))]) (w' := (wC ad cI cZ cJ n kd sd ts fs tr on rp lt ru lg lp) ++ [(o, .inl (cJ, 1, .inr (.inl g)))]) rfl (AW.inr h1)) h2)
  refine lv_istore (lv' := [(6, .int r), (5, .int k), (0, .ref b), (1, .ref (ad 0)), (2, .ref (bd 0)), (3, .ref o), (4, .int (nI (4 * j)))]) hx hb dL_law_1423 hl (by decide) rfl (fun ls hl => ?_)
  refine lv_aload_n hx hb dL_law_1425 rfl (lv_at hl 4 rfl) ?_
  refine puI_V (own := RL) (As := []) (rest := []) (C := RX1) (ci := 1) (q0 := 0) ⟨hx, hb, hml, hown, hts⟩ (c_X1_thrown l D bd cI cZ cJ _ _ _ _ _ _ _ _ _ _ _ _ _) gL_law_X1_thrown rfl ⟨rfl, rfl⟩ 0 rfl (by decide +kernel) ⟨Nat.le_of_ble_eq_true rfl, Nat.le_of_ble_eq_true rfl⟩ hPm hK rfl rfl rfl hS hl.1 rfl (Nat.le_of_ble_eq_true rfl) dL_law_1426 ⟨(by omega : C + 1 + 0 ≤ 1055), (by omega : Sl + 6 + 0 ≤ 13762)⟩ (fun H locs hk1 hS => ?_)
  replace hPm := keptP hPm hk1
  replace hPc := keptP hPc hk1
  replace hPo := keptP hPo hk1
  refine lv_iload hx hb dL_law_1429 (lv_at hl 1 rfl) ?_
  refine cT_eq (tgt := 1436) hx hb dL_law_1431 (by decide) rfl ?_
  refine lv_iload hx hb dL_law_1436 (lv_at hl 1 rfl) ?_
  by_cases hk0 : k = 0
  · refine zF_ne (tgt := 1453) hx hb dL_law_1438 (by decide) hk0 ?_
    refine lv_aload_n hx hb dL_law_1441 rfl (lv_at hl 5 rfl) ?_
    refine lv_iconst (v := nI 0) hx hb dL_law_1442 (by decide) ?_
    refine ld_nl hx hb hK hPo 0 2 rfl rfl (j := 0) (by decide) (by decide) dL_law_1443 ?_
    refine lv_iload hx hb dL_law_1444 (lv_at hl 0 rfl) ?_
    refine lv_i2l (v := r.toInt64) hx hb dL_law_1446 rfl ?_
    refine W.lcmp hx hb dL_law_1447 ?_
    refine zT_eq (tgt := 1453) hx hb dL_law_1448 (by decide) (lcEq (by rw [hans hk0, if_neg (by decide)])) ?_
    refine lv_goto (tgt := 1999) hx hb dL_law_1453 (by decide) ?_
    exact kk n' kd' fi' se' sd' ts' fs' tr' on' sy' rp' lt' ru' lg' lp' k _ g' _ _ ls hR' hPc hPm hPo hS (lv_sub hl [2, 3, 4, 5, 6] rfl)
  · refine zT_ne (tgt := 1453) hx hb dL_law_1438 (by decide) hk0 ?_
    refine lv_goto (tgt := 1999) hx hb dL_law_1453 (by decide) ?_
    exact kk n' kd' fi' se' sd' ts' fs' tr' on' sy' rp' lt' ru' lg' lp' k _ g' _ _ ls hR' hPc hPm hPo hS (lv_sub hl [2, 3, 4, 5, 6] rfl)
set_option maxHeartbeats 4000000 in
set_option maxRecDepth 100000 in
theorem law_setLogic {p : Program} {l : Launch} {e : Env} {s : State} {m : MethodId} {below : List Frame} {meth : Method} {c : Code} {D : va_G} {ad bd : Nat → Nat} {cI cZ cJ : ClassId} {o b L : Nat} {xs : Nat → Int32} {Q : State → Prop} (C0 : CX p l s m meth c D ad bd cI cZ cJ o b L xs) {n : Nat} {kd : Nat → Nat} {fi : Nat → Nat} {se : Nat → Nat} {sd : Nat → Bool} {ts : Nat → Int64} {fs : Nat → Int64} {tr : Nat → Nat} {on : Nat → Bool} {sy : Nat → Nat} {rp : Nat → Nat} {lt : Nat} {ru : Nat → Option Nat} {lg : Nat} {lp : Int64} {th : Int32} {rs : Nat → Int32} {g : Nat → Int64} {H : Heap} {locs : List Loc} {ls : Array Slot} {j C Sl : Nat} (hj : 4 * j + 4 ≤ L) (hL : L ≤ 2048) (hC : C + 1 ≤ 1055) (hSl : Sl + 6 ≤ 13762) (hR : REL n kd fi se sd ts fs tr sy rp lt ru lg lp) (hPc : va_P D vwCl (wC ad cI cZ cJ n kd sd ts fs tr on rp lt ru lg lp) H) (hPm : va_P D vwCl (wM bd cI cZ cJ th n kd fi se sd tr on sy lt ru lg rs) H) (hPo : va_P D vwCl [(o, .inl (cJ, 1, .inr (.inl g)))] H) (hS : va_S (AF s) s.heap H locs) (hl : lv_has ls 9 [(0, .ref b), (1, .ref (ad 0)), (2, .ref (bd 0)), (3, .ref o), (4, .int (nI (4 * j)))])
    (kk : KN p l e s m below meth c D ad bd cI cZ cJ o b j (C + 1) (Sl + 6) Q) : W p l e room_1 s m #[Value.ref b] below meth c H locs C Sl Q (F0 m 1456 ls []) := by
  obtain ⟨⟨hx, hb, hr, hml, hown, hts0, hX, hbl, hlocks, hgv⟩, htr, hK, hXE, hTB, hDA⟩ := C0
  have hown : s.vm.findClass RL = some m.cls := hown
  have hts : ∀ w ∈ wsL_law, w.before #[Value.ref b] s = true := fun w h => hts0 w (wsL_law_in w h)
  have hbA : ¬ AF s b := Nat.not_le.mpr hbl
  have hO := hR.okc
  have hDm : va_D (AF s) (wM bd cI cZ cJ th n kd fi se sd tr on sy lt ru lg rs) := sameD2 hDA.r rfl
  have hDc : va_D (AF s) ((wC ad cI cZ cJ n kd sd ts fs tr on rp lt ru lg lp) ++ [(o, .inl (cJ, 1, .inr (.inl g)))]) := sameD2 hDA.l rfl
  have hDa : va_D (AF s) (((wC ad cI cZ cJ n kd sd ts fs tr on rp lt ru lg lp) ++ [(o, .inl (cJ, 1, .inr (.inl g)))]) ++ (wM bd cI cZ cJ th n kd fi se sd tr on sy lt ru lg rs)) := sameD2 hDA rfl
  obtain ⟨k, r, n', kd', fi', se', sd', ts', fs', tr', on', sy', rp', lt', ru', lg', lp', hR', hWr, hMd⟩ := op_setLogic l D ad bd cI cZ cJ o htr hR (xs (4 * j + 1)) (on := on)
  obtain ⟨g', hLW, hans⟩ := hWr g
  refine lv_aload_n hx hb dL_law_1456 rfl (lv_at hl 1 rfl) ?_
  refine lv_aload_n hx hb dL_law_1457 rfl (lv_at hl 0 rfl) ?_
  refine lv_iload hx hb dL_law_1458 (lv_at hl 4 rfl) ?_
  refine lv_iconst (v := nI 1) hx hb dL_law_1460 (by decide) ?_
  refine lv_iadd hx hb dL_law_1461 ?_
  refine tc_int (y := nI (4 * j + 1)) (nI_add _ _) ?_
  refine va_sld hx hb hX hbl hbA hS (vp_in_nI (n := (4 * j + 1)) (by omega) (by omega)) dL_law_1462 ?_
  refine tc_int (y := xs (4 * j + 1)) (by rw [nI_clamp (by omega)]) ?_
  refine lv_aload_n hx hb dL_law_1463 rfl (lv_at hl 3 rfl) ?_
  refine lw_S (own := RL) (As := [.ref (ad 0), .int (xs (4 * j + 1)), .ref o]) (rest := []) (A1 := AW ((wC ad cI cZ cJ n kd sd ts fs tr on rp lt ru lg lp) ++ [(o, .inl (cJ, 1, .inr (.inl g)))])) (A0 := AF s) ⟨hx, hb, hml, hown, hts⟩ hLW gL_law_L_setLogic rfl ⟨rfl, rfl⟩ 3 rfl (by decide +kernel) ⟨Nat.le_of_ble_eq_true rfl, Nat.le_of_ble_eq_true rfl⟩ (hPc.app hPo) hK hDc.aw (hXE.kept (fun q h1 _ => hS.2.1 q h1 (Nat.not_le.mpr h1))) ((hTB.kept hS.2.1).narrow (fun q h => hDc.awA h)) (fun q h => hDc.awA h) (fun q h => Nat.le_trans hS.1 h) hS hl.1 rfl (Nat.le_of_ble_eq_true rfl) dL_law_1464 ⟨(by omega : C + 1 ≤ 1055), (by omega : Sl + 6 ≤ 13762)⟩ (fun H locs hP9 hz1 hk1 hS => ?_)
  replace hPm := hPm.off hk1 (fun q h1 h2 => hDa.dis h2 h1)
  replace hPc := hP9.l
  replace hPo := hP9.r
  refine lv_istore (lv' := [(5, .int k), (0, .ref b), (1, .ref (ad 0)), (2, .ref (bd 0)), (3, .ref o), (4, .int (nI (4 * j)))]) hx hb dL_law_1467 hl (by decide) rfl (fun ls hl => ?_)
  refine lv_aload_n hx hb dL_law_1469 rfl (lv_at hl 3 rfl) ?_
  refine lv_aload_n hx hb dL_law_1470 rfl (lv_at hl 1 rfl) ?_
  refine lv_iload hx hb dL_law_1471 (lv_at hl 5 rfl) ?_
  refine lv_iconst (v := nI 1) hx hb dL_law_1473 (by decide) ?_
  refine lv_iadd hx hb dL_law_1474 ?_
  refine tc_int (y := nI (4 * j + 1)) (nI_add _ _) ?_
  refine va_sld hx hb hX hbl hbA hS (vp_in_nI (n := (4 * j + 1)) (by omega) (by omega)) dL_law_1475 ?_
  refine tc_int (y := xs (4 * j + 1)) (by rw [nI_clamp (by omega)]) ?_
  refine muI_V (own := RL) (As := [.int (xs (4 * j + 1))]) (rest := []) (C := RX1) (ci := 1) (q0 := 0) (A1 := AW (wM bd cI cZ cJ th n kd fi se sd tr on sy lt ru lg rs)) (A0 := AF s) ⟨hx, hb, hml, hown, hts⟩ (hMd th rs) gL_law_X1_setLogic rfl ⟨rfl, rfl⟩ 1 rfl (by decide +kernel) ⟨Nat.le_of_ble_eq_true rfl, Nat.le_of_ble_eq_true rfl⟩ hPm hK hDm.aw (fun q h => hDm.awA h) rfl rfl rfl hS hl.1 rfl (Nat.le_of_ble_eq_true rfl) dL_law_1476 ⟨(by omega : C + 1 + 0 ≤ 1055), (by omega : Sl + 6 + 0 ≤ 13762)⟩ (fun u H locs hPm hz1 hk1 hS => ?_)
  replace hPc := hPc.off hk1 (fun q h1 h2 => hDa.dis (AW.same (w := (wC ad cI cZ cJ n' kd' sd' ts' fs' tr' on' rp' lt' ru' lg' lp') ++ [(o, .inl (cJ, 1, .inr (.inl g)))]) (w' := (wC ad cI cZ cJ n kd sd ts fs tr on rp lt ru lg lp) ++ [(o, .inl (cJ, 1, .inr (.inl g)))]) rfl (AW.inl h1)) h2)
  replace hPo := hPo.off hk1 (fun q h1 h2 => hDa.dis (AW.same (w := (wC ad cI cZ cJ n kd sd ts fs tr on rp lt ru lg lp) ++ [(o, .inl (cJ, 1, .inr (.inl g')))]) (w' := (wC ad cI cZ cJ n kd sd ts fs tr on rp lt ru lg lp) ++ [(o, .inl (cJ, 1, .inr (.inl g)))]) rfl (AW.inr h1)) h2)
  refine lv_istore (lv' := [(6, .int r), (5, .int k), (0, .ref b), (1, .ref (ad 0)), (2, .ref (bd 0)), (3, .ref o), (4, .int (nI (4 * j)))]) hx hb dL_law_1479 hl (by decide) rfl (fun ls hl => ?_)
  refine lv_aload_n hx hb dL_law_1481 rfl (lv_at hl 4 rfl) ?_
  refine puI_V (own := RL) (As := []) (rest := []) (C := RX1) (ci := 1) (q0 := 0) ⟨hx, hb, hml, hown, hts⟩ (c_X1_thrown l D bd cI cZ cJ _ _ _ _ _ _ _ _ _ _ _ _ _) gL_law_X1_thrown rfl ⟨rfl, rfl⟩ 0 rfl (by decide +kernel) ⟨Nat.le_of_ble_eq_true rfl, Nat.le_of_ble_eq_true rfl⟩ hPm hK rfl rfl rfl hS hl.1 rfl (Nat.le_of_ble_eq_true rfl) dL_law_1482 ⟨(by omega : C + 1 + 0 ≤ 1055), (by omega : Sl + 6 + 0 ≤ 13762)⟩ (fun H locs hk1 hS => ?_)
  replace hPm := keptP hPm hk1
  replace hPc := keptP hPc hk1
  replace hPo := keptP hPo hk1
  refine lv_iload hx hb dL_law_1485 (lv_at hl 1 rfl) ?_
  refine cT_eq (tgt := 1492) hx hb dL_law_1487 (by decide) rfl ?_
  refine lv_iload hx hb dL_law_1492 (lv_at hl 1 rfl) ?_
  by_cases hk0 : k = 0
  · refine zF_ne (tgt := 1509) hx hb dL_law_1494 (by decide) hk0 ?_
    refine lv_aload_n hx hb dL_law_1497 rfl (lv_at hl 5 rfl) ?_
    refine lv_iconst (v := nI 0) hx hb dL_law_1498 (by decide) ?_
    refine ld_nl hx hb hK hPo 0 2 rfl rfl (j := 0) (by decide) (by decide) dL_law_1499 ?_
    refine lv_iload hx hb dL_law_1500 (lv_at hl 0 rfl) ?_
    refine lv_i2l (v := r.toInt64) hx hb dL_law_1502 rfl ?_
    refine W.lcmp hx hb dL_law_1503 ?_
    refine zT_eq (tgt := 1509) hx hb dL_law_1504 (by decide) (lcEq (by rw [hans hk0, if_neg (by decide)])) ?_
    refine lv_goto (tgt := 1999) hx hb dL_law_1509 (by decide) ?_
    exact kk n' kd' fi' se' sd' ts' fs' tr' on' sy' rp' lt' ru' lg' lp' k _ g' _ _ ls hR' hPc hPm hPo hS (lv_sub hl [2, 3, 4, 5, 6] rfl)
  · refine zT_ne (tgt := 1509) hx hb dL_law_1494 (by decide) hk0 ?_
    refine lv_goto (tgt := 1999) hx hb dL_law_1509 (by decide) ?_
    exact kk n' kd' fi' se' sd' ts' fs' tr' on' sy' rp' lt' ru' lg' lp' k _ g' _ _ ls hR' hPc hPm hPo hS (lv_sub hl [2, 3, 4, 5, 6] rfl)
set_option maxHeartbeats 4000000 in
set_option maxRecDepth 100000 in
theorem law_models {p : Program} {l : Launch} {e : Env} {s : State} {m : MethodId} {below : List Frame} {meth : Method} {c : Code} {D : va_G} {ad bd : Nat → Nat} {cI cZ cJ : ClassId} {o b L : Nat} {xs : Nat → Int32} {Q : State → Prop} (C0 : CX p l s m meth c D ad bd cI cZ cJ o b L xs) {n : Nat} {kd : Nat → Nat} {fi : Nat → Nat} {se : Nat → Nat} {sd : Nat → Bool} {ts : Nat → Int64} {fs : Nat → Int64} {tr : Nat → Nat} {on : Nat → Bool} {sy : Nat → Nat} {rp : Nat → Nat} {lt : Nat} {ru : Nat → Option Nat} {lg : Nat} {lp : Int64} {th : Int32} {rs : Nat → Int32} {g : Nat → Int64} {H : Heap} {locs : List Loc} {ls : Array Slot} {j C Sl : Nat} (hj : 4 * j + 4 ≤ L) (hL : L ≤ 2048) (hC : C + 1 ≤ 1055) (hSl : Sl + 6 ≤ 13762) (hR : REL n kd fi se sd ts fs tr sy rp lt ru lg lp) (hPc : va_P D vwCl (wC ad cI cZ cJ n kd sd ts fs tr on rp lt ru lg lp) H) (hPm : va_P D vwCl (wM bd cI cZ cJ th n kd fi se sd tr on sy lt ru lg rs) H) (hPo : va_P D vwCl [(o, .inl (cJ, 1, .inr (.inl g)))] H) (hS : va_S (AF s) s.heap H locs) (hl : lv_has ls 9 [(0, .ref b), (1, .ref (ad 0)), (2, .ref (bd 0)), (3, .ref o), (4, .int (nI (4 * j)))])
    (kk : KN p l e s m below meth c D ad bd cI cZ cJ o b j (C + 1) (Sl + 6) Q) : W p l e room_1 s m #[Value.ref b] below meth c H locs C Sl Q (F0 m 1512 ls []) := by
  obtain ⟨⟨hx, hb, hr, hml, hown, hts0, hX, hbl, hlocks, hgv⟩, htr, hK, hXE, hTB, hDA⟩ := C0
  have hown : s.vm.findClass RL = some m.cls := hown
  have hts : ∀ w ∈ wsL_law, w.before #[Value.ref b] s = true := fun w h => hts0 w (wsL_law_in w h)
  have hbA : ¬ AF s b := Nat.not_le.mpr hbl
  have hO := hR.okc
  have hDm : va_D (AF s) (wM bd cI cZ cJ th n kd fi se sd tr on sy lt ru lg rs) := sameD2 hDA.r rfl
  have hDc : va_D (AF s) ((wC ad cI cZ cJ n kd sd ts fs tr on rp lt ru lg lp) ++ [(o, .inl (cJ, 1, .inr (.inl g)))]) := sameD2 hDA.l rfl
  have hDa : va_D (AF s) (((wC ad cI cZ cJ n kd sd ts fs tr on rp lt ru lg lp) ++ [(o, .inl (cJ, 1, .inr (.inl g)))]) ++ (wM bd cI cZ cJ th n kd fi se sd tr on sy lt ru lg rs)) := sameD2 hDA rfl
  obtain ⟨k, r, n', kd', fi', se', sd', ts', fs', tr', on', sy', rp', lt', ru', lg', lp', hR', hWr, hMd⟩ := op_models l D ad bd cI cZ cJ o htr hR (xs (4 * j + 1)) (on := on)
  obtain ⟨g', hLW, hans⟩ := hWr g
  refine lv_aload_n hx hb dL_law_1512 rfl (lv_at hl 1 rfl) ?_
  refine lv_aload_n hx hb dL_law_1513 rfl (lv_at hl 0 rfl) ?_
  refine lv_iload hx hb dL_law_1514 (lv_at hl 4 rfl) ?_
  refine lv_iconst (v := nI 1) hx hb dL_law_1516 (by decide) ?_
  refine lv_iadd hx hb dL_law_1517 ?_
  refine tc_int (y := nI (4 * j + 1)) (nI_add _ _) ?_
  refine va_sld hx hb hX hbl hbA hS (vp_in_nI (n := (4 * j + 1)) (by omega) (by omega)) dL_law_1518 ?_
  refine tc_int (y := xs (4 * j + 1)) (by rw [nI_clamp (by omega)]) ?_
  refine lv_aload_n hx hb dL_law_1519 rfl (lv_at hl 3 rfl) ?_
  refine lw_S (own := RL) (As := [.ref (ad 0), .int (xs (4 * j + 1)), .ref o]) (rest := []) (A1 := AW ((wC ad cI cZ cJ n kd sd ts fs tr on rp lt ru lg lp) ++ [(o, .inl (cJ, 1, .inr (.inl g)))])) (A0 := AF s) ⟨hx, hb, hml, hown, hts⟩ hLW gL_law_L_models rfl ⟨rfl, rfl⟩ 3 rfl (by decide +kernel) ⟨Nat.le_of_ble_eq_true rfl, Nat.le_of_ble_eq_true rfl⟩ (hPc.app hPo) hK hDc.aw (hXE.kept (fun q h1 _ => hS.2.1 q h1 (Nat.not_le.mpr h1))) ((hTB.kept hS.2.1).narrow (fun q h => hDc.awA h)) (fun q h => hDc.awA h) (fun q h => Nat.le_trans hS.1 h) hS hl.1 rfl (Nat.le_of_ble_eq_true rfl) dL_law_1520 ⟨(by omega : C + 1 ≤ 1055), (by omega : Sl + 6 ≤ 13762)⟩ (fun H locs hP9 hz1 hk1 hS => ?_)
  replace hPm := hPm.off hk1 (fun q h1 h2 => hDa.dis h2 h1)
  replace hPc := hP9.l
  replace hPo := hP9.r
  refine lv_istore (lv' := [(5, .int k), (0, .ref b), (1, .ref (ad 0)), (2, .ref (bd 0)), (3, .ref o), (4, .int (nI (4 * j)))]) hx hb dL_law_1523 hl (by decide) rfl (fun ls hl => ?_)
  refine lv_aload_n hx hb dL_law_1525 rfl (lv_at hl 3 rfl) ?_
  refine lv_aload_n hx hb dL_law_1526 rfl (lv_at hl 1 rfl) ?_
  refine lv_iload hx hb dL_law_1527 (lv_at hl 5 rfl) ?_
  refine lv_iconst (v := nI 1) hx hb dL_law_1529 (by decide) ?_
  refine lv_iadd hx hb dL_law_1530 ?_
  refine tc_int (y := nI (4 * j + 1)) (nI_add _ _) ?_
  refine va_sld hx hb hX hbl hbA hS (vp_in_nI (n := (4 * j + 1)) (by omega) (by omega)) dL_law_1531 ?_
  refine tc_int (y := xs (4 * j + 1)) (by rw [nI_clamp (by omega)]) ?_
  refine muI_V (own := RL) (As := [.int (xs (4 * j + 1))]) (rest := []) (C := RX1) (ci := 1) (q0 := 0) (A1 := AW (wM bd cI cZ cJ th n kd fi se sd tr on sy lt ru lg rs)) (A0 := AF s) ⟨hx, hb, hml, hown, hts⟩ (hMd th rs) gL_law_X1_models rfl ⟨rfl, rfl⟩ 1 rfl (by decide +kernel) ⟨Nat.le_of_ble_eq_true rfl, Nat.le_of_ble_eq_true rfl⟩ hPm hK hDm.aw (fun q h => hDm.awA h) rfl rfl rfl hS hl.1 rfl (Nat.le_of_ble_eq_true rfl) dL_law_1532 ⟨(by omega : C + 1 + 0 ≤ 1055), (by omega : Sl + 6 + 0 ≤ 13762)⟩ (fun u H locs hPm hz1 hk1 hS => ?_)
  replace hPc := hPc.off hk1 (fun q h1 h2 => hDa.dis (AW.same (w := (wC ad cI cZ cJ n' kd' sd' ts' fs' tr' on' rp' lt' ru' lg' lp') ++ [(o, .inl (cJ, 1, .inr (.inl g)))]) (w' := (wC ad cI cZ cJ n kd sd ts fs tr on rp lt ru lg lp) ++ [(o, .inl (cJ, 1, .inr (.inl g)))]) rfl (AW.inl h1)) h2)
  replace hPo := hPo.off hk1 (fun q h1 h2 => hDa.dis (AW.same (w := (wC ad cI cZ cJ n kd sd ts fs tr on rp lt ru lg lp) ++ [(o, .inl (cJ, 1, .inr (.inl g')))]) (w' := (wC ad cI cZ cJ n kd sd ts fs tr on rp lt ru lg lp) ++ [(o, .inl (cJ, 1, .inr (.inl g)))]) rfl (AW.inr h1)) h2)
  refine lv_istore (lv' := [(6, .int r), (5, .int k), (0, .ref b), (1, .ref (ad 0)), (2, .ref (bd 0)), (3, .ref o), (4, .int (nI (4 * j)))]) hx hb dL_law_1535 hl (by decide) rfl (fun ls hl => ?_)
  refine lv_aload_n hx hb dL_law_1537 rfl (lv_at hl 4 rfl) ?_
  refine puI_V (own := RL) (As := []) (rest := []) (C := RX1) (ci := 1) (q0 := 0) ⟨hx, hb, hml, hown, hts⟩ (c_X1_thrown l D bd cI cZ cJ _ _ _ _ _ _ _ _ _ _ _ _ _) gL_law_X1_thrown rfl ⟨rfl, rfl⟩ 0 rfl (by decide +kernel) ⟨Nat.le_of_ble_eq_true rfl, Nat.le_of_ble_eq_true rfl⟩ hPm hK rfl rfl rfl hS hl.1 rfl (Nat.le_of_ble_eq_true rfl) dL_law_1538 ⟨(by omega : C + 1 + 0 ≤ 1055), (by omega : Sl + 6 + 0 ≤ 13762)⟩ (fun H locs hk1 hS => ?_)
  replace hPm := keptP hPm hk1
  replace hPc := keptP hPc hk1
  replace hPo := keptP hPo hk1
  refine lv_iload hx hb dL_law_1541 (lv_at hl 1 rfl) ?_
  refine cT_eq (tgt := 1548) hx hb dL_law_1543 (by decide) rfl ?_
  refine lv_iload hx hb dL_law_1548 (lv_at hl 1 rfl) ?_
  by_cases hk0 : k = 0
  · refine zF_ne (tgt := 1565) hx hb dL_law_1550 (by decide) hk0 ?_
    refine lv_aload_n hx hb dL_law_1553 rfl (lv_at hl 5 rfl) ?_
    refine lv_iconst (v := nI 0) hx hb dL_law_1554 (by decide) ?_
    refine ld_nl hx hb hK hPo 0 2 rfl rfl (j := 0) (by decide) (by decide) dL_law_1555 ?_
    refine lv_iload hx hb dL_law_1556 (lv_at hl 0 rfl) ?_
    refine lv_i2l (v := r.toInt64) hx hb dL_law_1558 rfl ?_
    refine W.lcmp hx hb dL_law_1559 ?_
    refine zT_eq (tgt := 1565) hx hb dL_law_1560 (by decide) (lcEq (by rw [hans hk0, if_neg (by decide)])) ?_
    refine lv_goto (tgt := 1999) hx hb dL_law_1565 (by decide) ?_
    exact kk n' kd' fi' se' sd' ts' fs' tr' on' sy' rp' lt' ru' lg' lp' k _ g' _ _ ls hR' hPc hPm hPo hS (lv_sub hl [2, 3, 4, 5, 6] rfl)
  · refine zT_ne (tgt := 1565) hx hb dL_law_1550 (by decide) hk0 ?_
    refine lv_goto (tgt := 1999) hx hb dL_law_1565 (by decide) ?_
    exact kk n' kd' fi' se' sd' ts' fs' tr' on' sy' rp' lt' ru' lg' lp' k _ g' _ _ ls hR' hPc hPm hPo hS (lv_sub hl [2, 3, 4, 5, 6] rfl)
set_option maxHeartbeats 4000000 in
set_option maxRecDepth 100000 in
theorem law_range {p : Program} {l : Launch} {e : Env} {s : State} {m : MethodId} {below : List Frame} {meth : Method} {c : Code} {D : va_G} {ad bd : Nat → Nat} {cI cZ cJ : ClassId} {o b L : Nat} {xs : Nat → Int32} {Q : State → Prop} (C0 : CX p l s m meth c D ad bd cI cZ cJ o b L xs) {n : Nat} {kd : Nat → Nat} {fi : Nat → Nat} {se : Nat → Nat} {sd : Nat → Bool} {ts : Nat → Int64} {fs : Nat → Int64} {tr : Nat → Nat} {on : Nat → Bool} {sy : Nat → Nat} {rp : Nat → Nat} {lt : Nat} {ru : Nat → Option Nat} {lg : Nat} {lp : Int64} {th : Int32} {rs : Nat → Int32} {g : Nat → Int64} {H : Heap} {locs : List Loc} {ls : Array Slot} {j C Sl : Nat} (hj : 4 * j + 4 ≤ L) (hL : L ≤ 2048) (hC : C + 1 ≤ 1055) (hSl : Sl + 6 ≤ 13762) (hR : REL n kd fi se sd ts fs tr sy rp lt ru lg lp) (hPc : va_P D vwCl (wC ad cI cZ cJ n kd sd ts fs tr on rp lt ru lg lp) H) (hPm : va_P D vwCl (wM bd cI cZ cJ th n kd fi se sd tr on sy lt ru lg rs) H) (hPo : va_P D vwCl [(o, .inl (cJ, 1, .inr (.inl g)))] H) (hS : va_S (AF s) s.heap H locs) (hl : lv_has ls 9 [(0, .ref b), (1, .ref (ad 0)), (2, .ref (bd 0)), (3, .ref o), (4, .int (nI (4 * j)))])
    (kk : KN p l e s m below meth c D ad bd cI cZ cJ o b j (C + 1) (Sl + 6) Q) : W p l e room_1 s m #[Value.ref b] below meth c H locs C Sl Q (F0 m 1568 ls []) := by
  obtain ⟨⟨hx, hb, hr, hml, hown, hts0, hX, hbl, hlocks, hgv⟩, htr, hK, hXE, hTB, hDA⟩ := C0
  have hown : s.vm.findClass RL = some m.cls := hown
  have hts : ∀ w ∈ wsL_law, w.before #[Value.ref b] s = true := fun w h => hts0 w (wsL_law_in w h)
  have hbA : ¬ AF s b := Nat.not_le.mpr hbl
  have hO := hR.okc
  have hDm : va_D (AF s) (wM bd cI cZ cJ th n kd fi se sd tr on sy lt ru lg rs) := sameD2 hDA.r rfl
  have hDc : va_D (AF s) ((wC ad cI cZ cJ n kd sd ts fs tr on rp lt ru lg lp) ++ [(o, .inl (cJ, 1, .inr (.inl g)))]) := sameD2 hDA.l rfl
  have hDa : va_D (AF s) (((wC ad cI cZ cJ n kd sd ts fs tr on rp lt ru lg lp) ++ [(o, .inl (cJ, 1, .inr (.inl g)))]) ++ (wM bd cI cZ cJ th n kd fi se sd tr on sy lt ru lg rs)) := sameD2 hDA rfl
  obtain ⟨k, r, n', kd', fi', se', sd', ts', fs', tr', on', sy', rp', lt', ru', lg', lp', hR', hWr, hMd⟩ := op_range l D ad bd cI cZ cJ o htr hR (xs (4 * j + 1)) (on := on)
  obtain ⟨g', hLW, hans⟩ := hWr g
  refine lv_aload_n hx hb dL_law_1568 rfl (lv_at hl 1 rfl) ?_
  refine lv_aload_n hx hb dL_law_1569 rfl (lv_at hl 0 rfl) ?_
  refine lv_iload hx hb dL_law_1570 (lv_at hl 4 rfl) ?_
  refine lv_iconst (v := nI 1) hx hb dL_law_1572 (by decide) ?_
  refine lv_iadd hx hb dL_law_1573 ?_
  refine tc_int (y := nI (4 * j + 1)) (nI_add _ _) ?_
  refine va_sld hx hb hX hbl hbA hS (vp_in_nI (n := (4 * j + 1)) (by omega) (by omega)) dL_law_1574 ?_
  refine tc_int (y := xs (4 * j + 1)) (by rw [nI_clamp (by omega)]) ?_
  refine lv_aload_n hx hb dL_law_1575 rfl (lv_at hl 3 rfl) ?_
  refine lw_S (own := RL) (As := [.ref (ad 0), .int (xs (4 * j + 1)), .ref o]) (rest := []) (A1 := AW ((wC ad cI cZ cJ n kd sd ts fs tr on rp lt ru lg lp) ++ [(o, .inl (cJ, 1, .inr (.inl g)))])) (A0 := AF s) ⟨hx, hb, hml, hown, hts⟩ hLW gL_law_L_range rfl ⟨rfl, rfl⟩ 3 rfl (by decide +kernel) ⟨Nat.le_of_ble_eq_true rfl, Nat.le_of_ble_eq_true rfl⟩ (hPc.app hPo) hK hDc.aw (hXE.kept (fun q h1 _ => hS.2.1 q h1 (Nat.not_le.mpr h1))) ((hTB.kept hS.2.1).narrow (fun q h => hDc.awA h)) (fun q h => hDc.awA h) (fun q h => Nat.le_trans hS.1 h) hS hl.1 rfl (Nat.le_of_ble_eq_true rfl) dL_law_1576 ⟨(by omega : C + 1 ≤ 1055), (by omega : Sl + 6 ≤ 13762)⟩ (fun H locs hP9 hz1 hk1 hS => ?_)
  replace hPm := hPm.off hk1 (fun q h1 h2 => hDa.dis h2 h1)
  replace hPc := hP9.l
  replace hPo := hP9.r
  refine lv_istore (lv' := [(5, .int k), (0, .ref b), (1, .ref (ad 0)), (2, .ref (bd 0)), (3, .ref o), (4, .int (nI (4 * j)))]) hx hb dL_law_1579 hl (by decide) rfl (fun ls hl => ?_)
  refine lv_aload_n hx hb dL_law_1581 rfl (lv_at hl 3 rfl) ?_
  refine lv_aload_n hx hb dL_law_1582 rfl (lv_at hl 1 rfl) ?_
  refine lv_iload hx hb dL_law_1583 (lv_at hl 5 rfl) ?_
  refine lv_iconst (v := nI 1) hx hb dL_law_1585 (by decide) ?_
  refine lv_iadd hx hb dL_law_1586 ?_
  refine tc_int (y := nI (4 * j + 1)) (nI_add _ _) ?_
  refine va_sld hx hb hX hbl hbA hS (vp_in_nI (n := (4 * j + 1)) (by omega) (by omega)) dL_law_1587 ?_
  refine tc_int (y := xs (4 * j + 1)) (by rw [nI_clamp (by omega)]) ?_
  refine muI_V (own := RL) (As := [.int (xs (4 * j + 1))]) (rest := []) (C := RX1) (ci := 1) (q0 := 0) (A1 := AW (wM bd cI cZ cJ th n kd fi se sd tr on sy lt ru lg rs)) (A0 := AF s) ⟨hx, hb, hml, hown, hts⟩ (hMd th rs) gL_law_X1_range rfl ⟨rfl, rfl⟩ 1 rfl (by decide +kernel) ⟨Nat.le_of_ble_eq_true rfl, Nat.le_of_ble_eq_true rfl⟩ hPm hK hDm.aw (fun q h => hDm.awA h) rfl rfl rfl hS hl.1 rfl (Nat.le_of_ble_eq_true rfl) dL_law_1588 ⟨(by omega : C + 1 + 0 ≤ 1055), (by omega : Sl + 6 + 0 ≤ 13762)⟩ (fun u H locs hPm hz1 hk1 hS => ?_)
  replace hPc := hPc.off hk1 (fun q h1 h2 => hDa.dis (AW.same (w := (wC ad cI cZ cJ n' kd' sd' ts' fs' tr' on' rp' lt' ru' lg' lp') ++ [(o, .inl (cJ, 1, .inr (.inl g)))]) (w' := (wC ad cI cZ cJ n kd sd ts fs tr on rp lt ru lg lp) ++ [(o, .inl (cJ, 1, .inr (.inl g)))]) rfl (AW.inl h1)) h2)
  replace hPo := hPo.off hk1 (fun q h1 h2 => hDa.dis (AW.same (w := (wC ad cI cZ cJ n kd sd ts fs tr on rp lt ru lg lp) ++ [(o, .inl (cJ, 1, .inr (.inl g')))]) (w' := (wC ad cI cZ cJ n kd sd ts fs tr on rp lt ru lg lp) ++ [(o, .inl (cJ, 1, .inr (.inl g)))]) rfl (AW.inr h1)) h2)
  refine lv_istore (lv' := [(6, .int r), (5, .int k), (0, .ref b), (1, .ref (ad 0)), (2, .ref (bd 0)), (3, .ref o), (4, .int (nI (4 * j)))]) hx hb dL_law_1591 hl (by decide) rfl (fun ls hl => ?_)
  refine lv_aload_n hx hb dL_law_1593 rfl (lv_at hl 4 rfl) ?_
  refine puI_V (own := RL) (As := []) (rest := []) (C := RX1) (ci := 1) (q0 := 0) ⟨hx, hb, hml, hown, hts⟩ (c_X1_thrown l D bd cI cZ cJ _ _ _ _ _ _ _ _ _ _ _ _ _) gL_law_X1_thrown rfl ⟨rfl, rfl⟩ 0 rfl (by decide +kernel) ⟨Nat.le_of_ble_eq_true rfl, Nat.le_of_ble_eq_true rfl⟩ hPm hK rfl rfl rfl hS hl.1 rfl (Nat.le_of_ble_eq_true rfl) dL_law_1594 ⟨(by omega : C + 1 + 0 ≤ 1055), (by omega : Sl + 6 + 0 ≤ 13762)⟩ (fun H locs hk1 hS => ?_)
  replace hPm := keptP hPm hk1
  replace hPc := keptP hPc hk1
  replace hPo := keptP hPo hk1
  refine lv_iload hx hb dL_law_1597 (lv_at hl 1 rfl) ?_
  refine cT_eq (tgt := 1604) hx hb dL_law_1599 (by decide) rfl ?_
  refine lv_iload hx hb dL_law_1604 (lv_at hl 1 rfl) ?_
  by_cases hk0 : k = 0
  · refine zF_ne (tgt := 1621) hx hb dL_law_1606 (by decide) hk0 ?_
    refine lv_aload_n hx hb dL_law_1609 rfl (lv_at hl 5 rfl) ?_
    refine lv_iconst (v := nI 0) hx hb dL_law_1610 (by decide) ?_
    refine ld_nl hx hb hK hPo 0 2 rfl rfl (j := 0) (by decide) (by decide) dL_law_1611 ?_
    refine lv_iload hx hb dL_law_1612 (lv_at hl 0 rfl) ?_
    refine lv_i2l (v := r.toInt64) hx hb dL_law_1614 rfl ?_
    refine W.lcmp hx hb dL_law_1615 ?_
    refine zT_eq (tgt := 1621) hx hb dL_law_1616 (by decide) (lcEq (by rw [hans hk0, if_neg (by decide)])) ?_
    refine lv_goto (tgt := 1999) hx hb dL_law_1621 (by decide) ?_
    exact kk n' kd' fi' se' sd' ts' fs' tr' on' sy' rp' lt' ru' lg' lp' k _ g' _ _ ls hR' hPc hPm hPo hS (lv_sub hl [2, 3, 4, 5, 6] rfl)
  · refine zT_ne (tgt := 1621) hx hb dL_law_1606 (by decide) hk0 ?_
    refine lv_goto (tgt := 1999) hx hb dL_law_1621 (by decide) ?_
    exact kk n' kd' fi' se' sd' ts' fs' tr' on' sy' rp' lt' ru' lg' lp' k _ g' _ _ ls hR' hPc hPm hPo hS (lv_sub hl [2, 3, 4, 5, 6] rfl)
set_option maxHeartbeats 4000000 in
set_option maxRecDepth 100000 in
theorem law_entails {p : Program} {l : Launch} {e : Env} {s : State} {m : MethodId} {below : List Frame} {meth : Method} {c : Code} {D : va_G} {ad bd : Nat → Nat} {cI cZ cJ : ClassId} {o b L : Nat} {xs : Nat → Int32} {Q : State → Prop} (C0 : CX p l s m meth c D ad bd cI cZ cJ o b L xs) {n : Nat} {kd : Nat → Nat} {fi : Nat → Nat} {se : Nat → Nat} {sd : Nat → Bool} {ts : Nat → Int64} {fs : Nat → Int64} {tr : Nat → Nat} {on : Nat → Bool} {sy : Nat → Nat} {rp : Nat → Nat} {lt : Nat} {ru : Nat → Option Nat} {lg : Nat} {lp : Int64} {th : Int32} {rs : Nat → Int32} {g : Nat → Int64} {H : Heap} {locs : List Loc} {ls : Array Slot} {j C Sl : Nat} (hj : 4 * j + 4 ≤ L) (hL : L ≤ 2048) (hC : C + 1 ≤ 1055) (hSl : Sl + 6 ≤ 13762) (hR : REL n kd fi se sd ts fs tr sy rp lt ru lg lp) (hPc : va_P D vwCl (wC ad cI cZ cJ n kd sd ts fs tr on rp lt ru lg lp) H) (hPm : va_P D vwCl (wM bd cI cZ cJ th n kd fi se sd tr on sy lt ru lg rs) H) (hPo : va_P D vwCl [(o, .inl (cJ, 1, .inr (.inl g)))] H) (hS : va_S (AF s) s.heap H locs) (hl : lv_has ls 9 [(0, .ref b), (1, .ref (ad 0)), (2, .ref (bd 0)), (3, .ref o), (4, .int (nI (4 * j)))])
    (kk : KN p l e s m below meth c D ad bd cI cZ cJ o b j (C + 1) (Sl + 6) Q) : W p l e room_1 s m #[Value.ref b] below meth c H locs C Sl Q (F0 m 1624 ls []) := by
  obtain ⟨⟨hx, hb, hr, hml, hown, hts0, hX, hbl, hlocks, hgv⟩, htr, hK, hXE, hTB, hDA⟩ := C0
  have hown : s.vm.findClass RL = some m.cls := hown
  have hts : ∀ w ∈ wsL_law, w.before #[Value.ref b] s = true := fun w h => hts0 w (wsL_law_in w h)
  have hbA : ¬ AF s b := Nat.not_le.mpr hbl
  have hO := hR.okc
  have hDm : va_D (AF s) (wM bd cI cZ cJ th n kd fi se sd tr on sy lt ru lg rs) := sameD2 hDA.r rfl
  have hDc : va_D (AF s) ((wC ad cI cZ cJ n kd sd ts fs tr on rp lt ru lg lp) ++ [(o, .inl (cJ, 1, .inr (.inl g)))]) := sameD2 hDA.l rfl
  have hDa : va_D (AF s) (((wC ad cI cZ cJ n kd sd ts fs tr on rp lt ru lg lp) ++ [(o, .inl (cJ, 1, .inr (.inl g)))]) ++ (wM bd cI cZ cJ th n kd fi se sd tr on sy lt ru lg rs)) := sameD2 hDA rfl
  obtain ⟨k, r, n', kd', fi', se', sd', ts', fs', tr', on', sy', rp', lt', ru', lg', lp', hR', hWr, hMd⟩ := op_entails l D ad bd cI cZ cJ o htr hR (xs (4 * j + 1)) (xs (4 * j + 2)) (on := on)
  obtain ⟨g', hLW, hans⟩ := hWr g
  refine lv_aload_n hx hb dL_law_1624 rfl (lv_at hl 1 rfl) ?_
  refine lv_aload_n hx hb dL_law_1625 rfl (lv_at hl 0 rfl) ?_
  refine lv_iload hx hb dL_law_1626 (lv_at hl 4 rfl) ?_
  refine lv_iconst (v := nI 1) hx hb dL_law_1628 (by decide) ?_
  refine lv_iadd hx hb dL_law_1629 ?_
  refine tc_int (y := nI (4 * j + 1)) (nI_add _ _) ?_
  refine va_sld hx hb hX hbl hbA hS (vp_in_nI (n := (4 * j + 1)) (by omega) (by omega)) dL_law_1630 ?_
  refine tc_int (y := xs (4 * j + 1)) (by rw [nI_clamp (by omega)]) ?_
  refine lv_aload_n hx hb dL_law_1631 rfl (lv_at hl 0 rfl) ?_
  refine lv_iload hx hb dL_law_1632 (lv_at hl 4 rfl) ?_
  refine lv_iconst (v := nI 2) hx hb dL_law_1634 (by decide) ?_
  refine lv_iadd hx hb dL_law_1635 ?_
  refine tc_int (y := nI (4 * j + 2)) (nI_add _ _) ?_
  refine va_sld hx hb hX hbl hbA hS (vp_in_nI (n := (4 * j + 2)) (by omega) (by omega)) dL_law_1636 ?_
  refine tc_int (y := xs (4 * j + 2)) (by rw [nI_clamp (by omega)]) ?_
  refine lv_aload_n hx hb dL_law_1637 rfl (lv_at hl 3 rfl) ?_
  refine lw_S (own := RL) (As := [.ref (ad 0), .int (xs (4 * j + 1)), .int (xs (4 * j + 2)), .ref o]) (rest := []) (A1 := AW ((wC ad cI cZ cJ n kd sd ts fs tr on rp lt ru lg lp) ++ [(o, .inl (cJ, 1, .inr (.inl g)))])) (A0 := AF s) ⟨hx, hb, hml, hown, hts⟩ hLW gL_law_L_entails rfl ⟨rfl, rfl⟩ 4 rfl (by decide +kernel) ⟨Nat.le_of_ble_eq_true rfl, Nat.le_of_ble_eq_true rfl⟩ (hPc.app hPo) hK hDc.aw (hXE.kept (fun q h1 _ => hS.2.1 q h1 (Nat.not_le.mpr h1))) ((hTB.kept hS.2.1).narrow (fun q h => hDc.awA h)) (fun q h => hDc.awA h) (fun q h => Nat.le_trans hS.1 h) hS hl.1 rfl (Nat.le_of_ble_eq_true rfl) dL_law_1638 ⟨(by omega : C + 1 ≤ 1055), (by omega : Sl + 6 ≤ 13762)⟩ (fun H locs hP9 hz1 hk1 hS => ?_)
  replace hPm := hPm.off hk1 (fun q h1 h2 => hDa.dis h2 h1)
  replace hPc := hP9.l
  replace hPo := hP9.r
  refine lv_istore (lv' := [(5, .int k), (0, .ref b), (1, .ref (ad 0)), (2, .ref (bd 0)), (3, .ref o), (4, .int (nI (4 * j)))]) hx hb dL_law_1641 hl (by decide) rfl (fun ls hl => ?_)
  refine lv_aload_n hx hb dL_law_1643 rfl (lv_at hl 3 rfl) ?_
  refine lv_aload_n hx hb dL_law_1644 rfl (lv_at hl 1 rfl) ?_
  refine lv_iload hx hb dL_law_1645 (lv_at hl 5 rfl) ?_
  refine lv_iconst (v := nI 1) hx hb dL_law_1647 (by decide) ?_
  refine lv_iadd hx hb dL_law_1648 ?_
  refine tc_int (y := nI (4 * j + 1)) (nI_add _ _) ?_
  refine va_sld hx hb hX hbl hbA hS (vp_in_nI (n := (4 * j + 1)) (by omega) (by omega)) dL_law_1649 ?_
  refine tc_int (y := xs (4 * j + 1)) (by rw [nI_clamp (by omega)]) ?_
  refine lv_aload_n hx hb dL_law_1650 rfl (lv_at hl 1 rfl) ?_
  refine lv_iload hx hb dL_law_1651 (lv_at hl 5 rfl) ?_
  refine lv_iconst (v := nI 2) hx hb dL_law_1653 (by decide) ?_
  refine lv_iadd hx hb dL_law_1654 ?_
  refine tc_int (y := nI (4 * j + 2)) (nI_add _ _) ?_
  refine va_sld hx hb hX hbl hbA hS (vp_in_nI (n := (4 * j + 2)) (by omega) (by omega)) dL_law_1655 ?_
  refine tc_int (y := xs (4 * j + 2)) (by rw [nI_clamp (by omega)]) ?_
  refine muI_V (own := RL) (As := [.int (xs (4 * j + 1)), .int (xs (4 * j + 2))]) (rest := []) (C := RX1) (ci := 1) (q0 := 0) (A1 := AW (wM bd cI cZ cJ th n kd fi se sd tr on sy lt ru lg rs)) (A0 := AF s) ⟨hx, hb, hml, hown, hts⟩ (hMd th rs) gL_law_X1_entails rfl ⟨rfl, rfl⟩ 2 rfl (by decide +kernel) ⟨Nat.le_of_ble_eq_true rfl, Nat.le_of_ble_eq_true rfl⟩ hPm hK hDm.aw (fun q h => hDm.awA h) rfl rfl rfl hS hl.1 rfl (Nat.le_of_ble_eq_true rfl) dL_law_1656 ⟨(by omega : C + 1 + 0 ≤ 1055), (by omega : Sl + 6 + 0 ≤ 13762)⟩ (fun u H locs hPm hz1 hk1 hS => ?_)
  replace hPc := hPc.off hk1 (fun q h1 h2 => hDa.dis (AW.same (w := (wC ad cI cZ cJ n' kd' sd' ts' fs' tr' on' rp' lt' ru' lg' lp') ++ [(o, .inl (cJ, 1, .inr (.inl g)))]) (w' := (wC ad cI cZ cJ n kd sd ts fs tr on rp lt ru lg lp) ++ [(o, .inl (cJ, 1, .inr (.inl g)))]) rfl (AW.inl h1)) h2)
  replace hPo := hPo.off hk1 (fun q h1 h2 => hDa.dis (AW.same (w := (wC ad cI cZ cJ n kd sd ts fs tr on rp lt ru lg lp) ++ [(o, .inl (cJ, 1, .inr (.inl g')))]) (w' := (wC ad cI cZ cJ n kd sd ts fs tr on rp lt ru lg lp) ++ [(o, .inl (cJ, 1, .inr (.inl g)))]) rfl (AW.inr h1)) h2)
  refine lv_istore (lv' := [(6, .int r), (5, .int k), (0, .ref b), (1, .ref (ad 0)), (2, .ref (bd 0)), (3, .ref o), (4, .int (nI (4 * j)))]) hx hb dL_law_1659 hl (by decide) rfl (fun ls hl => ?_)
  refine lv_aload_n hx hb dL_law_1661 rfl (lv_at hl 4 rfl) ?_
  refine puI_V (own := RL) (As := []) (rest := []) (C := RX1) (ci := 1) (q0 := 0) ⟨hx, hb, hml, hown, hts⟩ (c_X1_thrown l D bd cI cZ cJ _ _ _ _ _ _ _ _ _ _ _ _ _) gL_law_X1_thrown rfl ⟨rfl, rfl⟩ 0 rfl (by decide +kernel) ⟨Nat.le_of_ble_eq_true rfl, Nat.le_of_ble_eq_true rfl⟩ hPm hK rfl rfl rfl hS hl.1 rfl (Nat.le_of_ble_eq_true rfl) dL_law_1662 ⟨(by omega : C + 1 + 0 ≤ 1055), (by omega : Sl + 6 + 0 ≤ 13762)⟩ (fun H locs hk1 hS => ?_)
  replace hPm := keptP hPm hk1
  replace hPc := keptP hPc hk1
  replace hPo := keptP hPo hk1
  refine lv_iload hx hb dL_law_1665 (lv_at hl 1 rfl) ?_
  refine cT_eq (tgt := 1672) hx hb dL_law_1667 (by decide) rfl ?_
  refine lv_iload hx hb dL_law_1672 (lv_at hl 1 rfl) ?_
  by_cases hk0 : k = 0
  · refine zF_ne (tgt := 1696) hx hb dL_law_1674 (by decide) hk0 ?_
    refine lv_aload_n hx hb dL_law_1677 rfl (lv_at hl 5 rfl) ?_
    refine lv_iconst (v := nI 0) hx hb dL_law_1678 (by decide) ?_
    refine ld_nl hx hb hK hPo 0 2 rfl rfl (j := 0) (by decide) (by decide) dL_law_1679 ?_
    refine lv_iload hx hb dL_law_1680 (lv_at hl 0 rfl) ?_
    by_cases hr0 : r = 0
    · refine zT_eq (tgt := 1689) hx hb dL_law_1682 (by decide) hr0 ?_
      refine lv_lconst (v := 0) hx hb dL_law_1689 (by decide) ?_
      refine W.lcmp hx hb dL_law_1690 ?_
      refine zT_eq (tgt := 1696) hx hb dL_law_1691 (by decide) (lcEq (by rw [hans hk0, if_pos rfl, if_pos hr0])) ?_
      refine lv_goto (tgt := 1999) hx hb dL_law_1696 (by decide) ?_
      exact kk n' kd' fi' se' sd' ts' fs' tr' on' sy' rp' lt' ru' lg' lp' k _ g' _ _ ls hR' hPc hPm hPo hS (lv_sub hl [2, 3, 4, 5, 6] rfl)
    · refine zF_eq (tgt := 1689) hx hb dL_law_1682 (by decide) hr0 ?_
      refine lv_lconst (v := 1) hx hb dL_law_1685 (by decide) ?_
      refine lv_goto (tgt := 1690) hx hb dL_law_1686 (by decide) ?_
      refine W.lcmp hx hb dL_law_1690 ?_
      refine zT_eq (tgt := 1696) hx hb dL_law_1691 (by decide) (lcEq (by rw [hans hk0, if_pos rfl, if_neg hr0])) ?_
      refine lv_goto (tgt := 1999) hx hb dL_law_1696 (by decide) ?_
      exact kk n' kd' fi' se' sd' ts' fs' tr' on' sy' rp' lt' ru' lg' lp' k _ g' _ _ ls hR' hPc hPm hPo hS (lv_sub hl [2, 3, 4, 5, 6] rfl)
  · refine zT_ne (tgt := 1696) hx hb dL_law_1674 (by decide) hk0 ?_
    refine lv_goto (tgt := 1999) hx hb dL_law_1696 (by decide) ?_
    exact kk n' kd' fi' se' sd' ts' fs' tr' on' sy' rp' lt' ru' lg' lp' k _ g' _ _ ls hR' hPc hPm hPo hS (lv_sub hl [2, 3, 4, 5, 6] rfl)
set_option maxHeartbeats 4000000 in
set_option maxRecDepth 100000 in
theorem law_against {p : Program} {l : Launch} {e : Env} {s : State} {m : MethodId} {below : List Frame} {meth : Method} {c : Code} {D : va_G} {ad bd : Nat → Nat} {cI cZ cJ : ClassId} {o b L : Nat} {xs : Nat → Int32} {Q : State → Prop} (C0 : CX p l s m meth c D ad bd cI cZ cJ o b L xs) {n : Nat} {kd : Nat → Nat} {fi : Nat → Nat} {se : Nat → Nat} {sd : Nat → Bool} {ts : Nat → Int64} {fs : Nat → Int64} {tr : Nat → Nat} {on : Nat → Bool} {sy : Nat → Nat} {rp : Nat → Nat} {lt : Nat} {ru : Nat → Option Nat} {lg : Nat} {lp : Int64} {th : Int32} {rs : Nat → Int32} {g : Nat → Int64} {H : Heap} {locs : List Loc} {ls : Array Slot} {j C Sl : Nat} (hj : 4 * j + 4 ≤ L) (hL : L ≤ 2048) (hC : C + 1 ≤ 1055) (hSl : Sl + 6 ≤ 13762) (hR : REL n kd fi se sd ts fs tr sy rp lt ru lg lp) (hPc : va_P D vwCl (wC ad cI cZ cJ n kd sd ts fs tr on rp lt ru lg lp) H) (hPm : va_P D vwCl (wM bd cI cZ cJ th n kd fi se sd tr on sy lt ru lg rs) H) (hPo : va_P D vwCl [(o, .inl (cJ, 1, .inr (.inl g)))] H) (hS : va_S (AF s) s.heap H locs) (hl : lv_has ls 9 [(0, .ref b), (1, .ref (ad 0)), (2, .ref (bd 0)), (3, .ref o), (4, .int (nI (4 * j)))])
    (kk : KN p l e s m below meth c D ad bd cI cZ cJ o b j (C + 1) (Sl + 6) Q) : W p l e room_1 s m #[Value.ref b] below meth c H locs C Sl Q (F0 m 1699 ls []) := by
  obtain ⟨⟨hx, hb, hr, hml, hown, hts0, hX, hbl, hlocks, hgv⟩, htr, hK, hXE, hTB, hDA⟩ := C0
  have hown : s.vm.findClass RL = some m.cls := hown
  have hts : ∀ w ∈ wsL_law, w.before #[Value.ref b] s = true := fun w h => hts0 w (wsL_law_in w h)
  have hbA : ¬ AF s b := Nat.not_le.mpr hbl
  have hO := hR.okc
  have hDm : va_D (AF s) (wM bd cI cZ cJ th n kd fi se sd tr on sy lt ru lg rs) := sameD2 hDA.r rfl
  have hDc : va_D (AF s) ((wC ad cI cZ cJ n kd sd ts fs tr on rp lt ru lg lp) ++ [(o, .inl (cJ, 1, .inr (.inl g)))]) := sameD2 hDA.l rfl
  have hDa : va_D (AF s) (((wC ad cI cZ cJ n kd sd ts fs tr on rp lt ru lg lp) ++ [(o, .inl (cJ, 1, .inr (.inl g)))]) ++ (wM bd cI cZ cJ th n kd fi se sd tr on sy lt ru lg rs)) := sameD2 hDA rfl
  obtain ⟨k, r, n', kd', fi', se', sd', ts', fs', tr', on', sy', rp', lt', ru', lg', lp', hR', hWr, hMd⟩ := op_against l D ad bd cI cZ cJ o htr hR (xs (4 * j + 1)) (xs (4 * j + 2)) (on := on)
  obtain ⟨g', hLW, hans⟩ := hWr g
  refine lv_aload_n hx hb dL_law_1699 rfl (lv_at hl 1 rfl) ?_
  refine lv_aload_n hx hb dL_law_1700 rfl (lv_at hl 0 rfl) ?_
  refine lv_iload hx hb dL_law_1701 (lv_at hl 4 rfl) ?_
  refine lv_iconst (v := nI 1) hx hb dL_law_1703 (by decide) ?_
  refine lv_iadd hx hb dL_law_1704 ?_
  refine tc_int (y := nI (4 * j + 1)) (nI_add _ _) ?_
  refine va_sld hx hb hX hbl hbA hS (vp_in_nI (n := (4 * j + 1)) (by omega) (by omega)) dL_law_1705 ?_
  refine tc_int (y := xs (4 * j + 1)) (by rw [nI_clamp (by omega)]) ?_
  refine lv_aload_n hx hb dL_law_1706 rfl (lv_at hl 0 rfl) ?_
  refine lv_iload hx hb dL_law_1707 (lv_at hl 4 rfl) ?_
  refine lv_iconst (v := nI 2) hx hb dL_law_1709 (by decide) ?_
  refine lv_iadd hx hb dL_law_1710 ?_
  refine tc_int (y := nI (4 * j + 2)) (nI_add _ _) ?_
  refine va_sld hx hb hX hbl hbA hS (vp_in_nI (n := (4 * j + 2)) (by omega) (by omega)) dL_law_1711 ?_
  refine tc_int (y := xs (4 * j + 2)) (by rw [nI_clamp (by omega)]) ?_
  refine lv_aload_n hx hb dL_law_1712 rfl (lv_at hl 3 rfl) ?_
  refine lw_S (own := RL) (As := [.ref (ad 0), .int (xs (4 * j + 1)), .int (xs (4 * j + 2)), .ref o]) (rest := []) (A1 := AW ((wC ad cI cZ cJ n kd sd ts fs tr on rp lt ru lg lp) ++ [(o, .inl (cJ, 1, .inr (.inl g)))])) (A0 := AF s) ⟨hx, hb, hml, hown, hts⟩ hLW gL_law_L_against rfl ⟨rfl, rfl⟩ 4 rfl (by decide +kernel) ⟨Nat.le_of_ble_eq_true rfl, Nat.le_of_ble_eq_true rfl⟩ (hPc.app hPo) hK hDc.aw (hXE.kept (fun q h1 _ => hS.2.1 q h1 (Nat.not_le.mpr h1))) ((hTB.kept hS.2.1).narrow (fun q h => hDc.awA h)) (fun q h => hDc.awA h) (fun q h => Nat.le_trans hS.1 h) hS hl.1 rfl (Nat.le_of_ble_eq_true rfl) dL_law_1713 ⟨(by omega : C + 1 ≤ 1055), (by omega : Sl + 6 ≤ 13762)⟩ (fun H locs hP9 hz1 hk1 hS => ?_)
  replace hPm := hPm.off hk1 (fun q h1 h2 => hDa.dis h2 h1)
  replace hPc := hP9.l
  replace hPo := hP9.r
  refine lv_istore (lv' := [(5, .int k), (0, .ref b), (1, .ref (ad 0)), (2, .ref (bd 0)), (3, .ref o), (4, .int (nI (4 * j)))]) hx hb dL_law_1716 hl (by decide) rfl (fun ls hl => ?_)
  refine lv_aload_n hx hb dL_law_1718 rfl (lv_at hl 3 rfl) ?_
  refine lv_aload_n hx hb dL_law_1719 rfl (lv_at hl 1 rfl) ?_
  refine lv_iload hx hb dL_law_1720 (lv_at hl 5 rfl) ?_
  refine lv_iconst (v := nI 1) hx hb dL_law_1722 (by decide) ?_
  refine lv_iadd hx hb dL_law_1723 ?_
  refine tc_int (y := nI (4 * j + 1)) (nI_add _ _) ?_
  refine va_sld hx hb hX hbl hbA hS (vp_in_nI (n := (4 * j + 1)) (by omega) (by omega)) dL_law_1724 ?_
  refine tc_int (y := xs (4 * j + 1)) (by rw [nI_clamp (by omega)]) ?_
  refine lv_aload_n hx hb dL_law_1725 rfl (lv_at hl 1 rfl) ?_
  refine lv_iload hx hb dL_law_1726 (lv_at hl 5 rfl) ?_
  refine lv_iconst (v := nI 2) hx hb dL_law_1728 (by decide) ?_
  refine lv_iadd hx hb dL_law_1729 ?_
  refine tc_int (y := nI (4 * j + 2)) (nI_add _ _) ?_
  refine va_sld hx hb hX hbl hbA hS (vp_in_nI (n := (4 * j + 2)) (by omega) (by omega)) dL_law_1730 ?_
  refine tc_int (y := xs (4 * j + 2)) (by rw [nI_clamp (by omega)]) ?_
  refine muI_V (own := RL) (As := [.int (xs (4 * j + 1)), .int (xs (4 * j + 2))]) (rest := []) (C := RX1) (ci := 1) (q0 := 0) (A1 := AW (wM bd cI cZ cJ th n kd fi se sd tr on sy lt ru lg rs)) (A0 := AF s) ⟨hx, hb, hml, hown, hts⟩ (hMd th rs) gL_law_X1_against rfl ⟨rfl, rfl⟩ 2 rfl (by decide +kernel) ⟨Nat.le_of_ble_eq_true rfl, Nat.le_of_ble_eq_true rfl⟩ hPm hK hDm.aw (fun q h => hDm.awA h) rfl rfl rfl hS hl.1 rfl (Nat.le_of_ble_eq_true rfl) dL_law_1731 ⟨(by omega : C + 1 + 0 ≤ 1055), (by omega : Sl + 6 + 0 ≤ 13762)⟩ (fun u H locs hPm hz1 hk1 hS => ?_)
  replace hPc := hPc.off hk1 (fun q h1 h2 => hDa.dis (AW.same (w := (wC ad cI cZ cJ n' kd' sd' ts' fs' tr' on' rp' lt' ru' lg' lp') ++ [(o, .inl (cJ, 1, .inr (.inl g)))]) (w' := (wC ad cI cZ cJ n kd sd ts fs tr on rp lt ru lg lp) ++ [(o, .inl (cJ, 1, .inr (.inl g)))]) rfl (AW.inl h1)) h2)
  replace hPo := hPo.off hk1 (fun q h1 h2 => hDa.dis (AW.same (w := (wC ad cI cZ cJ n kd sd ts fs tr on rp lt ru lg lp) ++ [(o, .inl (cJ, 1, .inr (.inl g')))]) (w' := (wC ad cI cZ cJ n kd sd ts fs tr on rp lt ru lg lp) ++ [(o, .inl (cJ, 1, .inr (.inl g)))]) rfl (AW.inr h1)) h2)
  refine lv_istore (lv' := [(6, .int r), (5, .int k), (0, .ref b), (1, .ref (ad 0)), (2, .ref (bd 0)), (3, .ref o), (4, .int (nI (4 * j)))]) hx hb dL_law_1734 hl (by decide) rfl (fun ls hl => ?_)
  refine lv_aload_n hx hb dL_law_1736 rfl (lv_at hl 4 rfl) ?_
  refine puI_V (own := RL) (As := []) (rest := []) (C := RX1) (ci := 1) (q0 := 0) ⟨hx, hb, hml, hown, hts⟩ (c_X1_thrown l D bd cI cZ cJ _ _ _ _ _ _ _ _ _ _ _ _ _) gL_law_X1_thrown rfl ⟨rfl, rfl⟩ 0 rfl (by decide +kernel) ⟨Nat.le_of_ble_eq_true rfl, Nat.le_of_ble_eq_true rfl⟩ hPm hK rfl rfl rfl hS hl.1 rfl (Nat.le_of_ble_eq_true rfl) dL_law_1737 ⟨(by omega : C + 1 + 0 ≤ 1055), (by omega : Sl + 6 + 0 ≤ 13762)⟩ (fun H locs hk1 hS => ?_)
  replace hPm := keptP hPm hk1
  replace hPc := keptP hPc hk1
  replace hPo := keptP hPo hk1
  refine lv_iload hx hb dL_law_1740 (lv_at hl 1 rfl) ?_
  refine cT_eq (tgt := 1747) hx hb dL_law_1742 (by decide) rfl ?_
  refine lv_iload hx hb dL_law_1747 (lv_at hl 1 rfl) ?_
  by_cases hk0 : k = 0
  · refine zF_ne (tgt := 1764) hx hb dL_law_1749 (by decide) hk0 ?_
    refine lv_aload_n hx hb dL_law_1752 rfl (lv_at hl 5 rfl) ?_
    refine lv_iconst (v := nI 0) hx hb dL_law_1753 (by decide) ?_
    refine ld_nl hx hb hK hPo 0 2 rfl rfl (j := 0) (by decide) (by decide) dL_law_1754 ?_
    refine lv_iload hx hb dL_law_1755 (lv_at hl 0 rfl) ?_
    refine lv_i2l (v := r.toInt64) hx hb dL_law_1757 rfl ?_
    refine W.lcmp hx hb dL_law_1758 ?_
    refine zT_eq (tgt := 1764) hx hb dL_law_1759 (by decide) (lcEq (by rw [hans hk0, if_neg (by decide)])) ?_
    refine lv_goto (tgt := 1999) hx hb dL_law_1764 (by decide) ?_
    exact kk n' kd' fi' se' sd' ts' fs' tr' on' sy' rp' lt' ru' lg' lp' k _ g' _ _ ls hR' hPc hPm hPo hS (lv_sub hl [2, 3, 4, 5, 6] rfl)
  · refine zT_ne (tgt := 1764) hx hb dL_law_1749 (by decide) hk0 ?_
    refine lv_goto (tgt := 1999) hx hb dL_law_1764 (by decide) ?_
    exact kk n' kd' fi' se' sd' ts' fs' tr' on' sy' rp' lt' ru' lg' lp' k _ g' _ _ ls hR' hPc hPm hPo hS (lv_sub hl [2, 3, 4, 5, 6] rfl)
set_option maxHeartbeats 4000000 in
set_option maxRecDepth 100000 in
theorem law_areEqual {p : Program} {l : Launch} {e : Env} {s : State} {m : MethodId} {below : List Frame} {meth : Method} {c : Code} {D : va_G} {ad bd : Nat → Nat} {cI cZ cJ : ClassId} {o b L : Nat} {xs : Nat → Int32} {Q : State → Prop} (C0 : CX p l s m meth c D ad bd cI cZ cJ o b L xs) {n : Nat} {kd : Nat → Nat} {fi : Nat → Nat} {se : Nat → Nat} {sd : Nat → Bool} {ts : Nat → Int64} {fs : Nat → Int64} {tr : Nat → Nat} {on : Nat → Bool} {sy : Nat → Nat} {rp : Nat → Nat} {lt : Nat} {ru : Nat → Option Nat} {lg : Nat} {lp : Int64} {th : Int32} {rs : Nat → Int32} {g : Nat → Int64} {H : Heap} {locs : List Loc} {ls : Array Slot} {j C Sl : Nat} (hj : 4 * j + 4 ≤ L) (hL : L ≤ 2048) (hC : C + 1 ≤ 1055) (hSl : Sl + 6 ≤ 13762) (hR : REL n kd fi se sd ts fs tr sy rp lt ru lg lp) (hPc : va_P D vwCl (wC ad cI cZ cJ n kd sd ts fs tr on rp lt ru lg lp) H) (hPm : va_P D vwCl (wM bd cI cZ cJ th n kd fi se sd tr on sy lt ru lg rs) H) (hPo : va_P D vwCl [(o, .inl (cJ, 1, .inr (.inl g)))] H) (hS : va_S (AF s) s.heap H locs) (hl : lv_has ls 9 [(0, .ref b), (1, .ref (ad 0)), (2, .ref (bd 0)), (3, .ref o), (4, .int (nI (4 * j)))])
    (kk : KN p l e s m below meth c D ad bd cI cZ cJ o b j (C + 1) (Sl + 6) Q) : W p l e room_1 s m #[Value.ref b] below meth c H locs C Sl Q (F0 m 1767 ls []) := by
  obtain ⟨⟨hx, hb, hr, hml, hown, hts0, hX, hbl, hlocks, hgv⟩, htr, hK, hXE, hTB, hDA⟩ := C0
  have hown : s.vm.findClass RL = some m.cls := hown
  have hts : ∀ w ∈ wsL_law, w.before #[Value.ref b] s = true := fun w h => hts0 w (wsL_law_in w h)
  have hbA : ¬ AF s b := Nat.not_le.mpr hbl
  have hO := hR.okc
  have hDm : va_D (AF s) (wM bd cI cZ cJ th n kd fi se sd tr on sy lt ru lg rs) := sameD2 hDA.r rfl
  have hDc : va_D (AF s) ((wC ad cI cZ cJ n kd sd ts fs tr on rp lt ru lg lp) ++ [(o, .inl (cJ, 1, .inr (.inl g)))]) := sameD2 hDA.l rfl
  have hDa : va_D (AF s) (((wC ad cI cZ cJ n kd sd ts fs tr on rp lt ru lg lp) ++ [(o, .inl (cJ, 1, .inr (.inl g)))]) ++ (wM bd cI cZ cJ th n kd fi se sd tr on sy lt ru lg rs)) := sameD2 hDA rfl
  obtain ⟨k, r, n', kd', fi', se', sd', ts', fs', tr', on', sy', rp', lt', ru', lg', lp', hR', hWr, hMd⟩ := op_areEqual l D ad bd cI cZ cJ o htr hR (xs (4 * j + 1)) (xs (4 * j + 2)) (on := on)
  obtain ⟨g', hLW, hans⟩ := hWr g
  refine lv_aload_n hx hb dL_law_1767 rfl (lv_at hl 1 rfl) ?_
  refine lv_aload_n hx hb dL_law_1768 rfl (lv_at hl 0 rfl) ?_
  refine lv_iload hx hb dL_law_1769 (lv_at hl 4 rfl) ?_
  refine lv_iconst (v := nI 1) hx hb dL_law_1771 (by decide) ?_
  refine lv_iadd hx hb dL_law_1772 ?_
  refine tc_int (y := nI (4 * j + 1)) (nI_add _ _) ?_
  refine va_sld hx hb hX hbl hbA hS (vp_in_nI (n := (4 * j + 1)) (by omega) (by omega)) dL_law_1773 ?_
  refine tc_int (y := xs (4 * j + 1)) (by rw [nI_clamp (by omega)]) ?_
  refine lv_aload_n hx hb dL_law_1774 rfl (lv_at hl 0 rfl) ?_
  refine lv_iload hx hb dL_law_1775 (lv_at hl 4 rfl) ?_
  refine lv_iconst (v := nI 2) hx hb dL_law_1777 (by decide) ?_
  refine lv_iadd hx hb dL_law_1778 ?_
  refine tc_int (y := nI (4 * j + 2)) (nI_add _ _) ?_
  refine va_sld hx hb hX hbl hbA hS (vp_in_nI (n := (4 * j + 2)) (by omega) (by omega)) dL_law_1779 ?_
  refine tc_int (y := xs (4 * j + 2)) (by rw [nI_clamp (by omega)]) ?_
  refine lv_aload_n hx hb dL_law_1780 rfl (lv_at hl 3 rfl) ?_
  refine lw_S (own := RL) (As := [.ref (ad 0), .int (xs (4 * j + 1)), .int (xs (4 * j + 2)), .ref o]) (rest := []) (A1 := AW ((wC ad cI cZ cJ n kd sd ts fs tr on rp lt ru lg lp) ++ [(o, .inl (cJ, 1, .inr (.inl g)))])) (A0 := AF s) ⟨hx, hb, hml, hown, hts⟩ hLW gL_law_L_areEqual rfl ⟨rfl, rfl⟩ 4 rfl (by decide +kernel) ⟨Nat.le_of_ble_eq_true rfl, Nat.le_of_ble_eq_true rfl⟩ (hPc.app hPo) hK hDc.aw (hXE.kept (fun q h1 _ => hS.2.1 q h1 (Nat.not_le.mpr h1))) ((hTB.kept hS.2.1).narrow (fun q h => hDc.awA h)) (fun q h => hDc.awA h) (fun q h => Nat.le_trans hS.1 h) hS hl.1 rfl (Nat.le_of_ble_eq_true rfl) dL_law_1781 ⟨(by omega : C + 1 ≤ 1055), (by omega : Sl + 6 ≤ 13762)⟩ (fun H locs hP9 hz1 hk1 hS => ?_)
  replace hPm := hPm.off hk1 (fun q h1 h2 => hDa.dis h2 h1)
  replace hPc := hP9.l
  replace hPo := hP9.r
  refine lv_istore (lv' := [(5, .int k), (0, .ref b), (1, .ref (ad 0)), (2, .ref (bd 0)), (3, .ref o), (4, .int (nI (4 * j)))]) hx hb dL_law_1784 hl (by decide) rfl (fun ls hl => ?_)
  refine lv_aload_n hx hb dL_law_1786 rfl (lv_at hl 3 rfl) ?_
  refine lv_aload_n hx hb dL_law_1787 rfl (lv_at hl 1 rfl) ?_
  refine lv_iload hx hb dL_law_1788 (lv_at hl 5 rfl) ?_
  refine lv_iconst (v := nI 1) hx hb dL_law_1790 (by decide) ?_
  refine lv_iadd hx hb dL_law_1791 ?_
  refine tc_int (y := nI (4 * j + 1)) (nI_add _ _) ?_
  refine va_sld hx hb hX hbl hbA hS (vp_in_nI (n := (4 * j + 1)) (by omega) (by omega)) dL_law_1792 ?_
  refine tc_int (y := xs (4 * j + 1)) (by rw [nI_clamp (by omega)]) ?_
  refine lv_aload_n hx hb dL_law_1793 rfl (lv_at hl 1 rfl) ?_
  refine lv_iload hx hb dL_law_1794 (lv_at hl 5 rfl) ?_
  refine lv_iconst (v := nI 2) hx hb dL_law_1796 (by decide) ?_
  refine lv_iadd hx hb dL_law_1797 ?_
  refine tc_int (y := nI (4 * j + 2)) (nI_add _ _) ?_
  refine va_sld hx hb hX hbl hbA hS (vp_in_nI (n := (4 * j + 2)) (by omega) (by omega)) dL_law_1798 ?_
  refine tc_int (y := xs (4 * j + 2)) (by rw [nI_clamp (by omega)]) ?_
  refine muI_V (own := RL) (As := [.int (xs (4 * j + 1)), .int (xs (4 * j + 2))]) (rest := []) (C := RX1) (ci := 1) (q0 := 0) (A1 := AW (wM bd cI cZ cJ th n kd fi se sd tr on sy lt ru lg rs)) (A0 := AF s) ⟨hx, hb, hml, hown, hts⟩ (hMd th rs) gL_law_X1_areEqual rfl ⟨rfl, rfl⟩ 2 rfl (by decide +kernel) ⟨Nat.le_of_ble_eq_true rfl, Nat.le_of_ble_eq_true rfl⟩ hPm hK hDm.aw (fun q h => hDm.awA h) rfl rfl rfl hS hl.1 rfl (Nat.le_of_ble_eq_true rfl) dL_law_1799 ⟨(by omega : C + 1 + 0 ≤ 1055), (by omega : Sl + 6 + 0 ≤ 13762)⟩ (fun u H locs hPm hz1 hk1 hS => ?_)
  replace hPc := hPc.off hk1 (fun q h1 h2 => hDa.dis (AW.same (w := (wC ad cI cZ cJ n' kd' sd' ts' fs' tr' on' rp' lt' ru' lg' lp') ++ [(o, .inl (cJ, 1, .inr (.inl g)))]) (w' := (wC ad cI cZ cJ n kd sd ts fs tr on rp lt ru lg lp) ++ [(o, .inl (cJ, 1, .inr (.inl g)))]) rfl (AW.inl h1)) h2)
  replace hPo := hPo.off hk1 (fun q h1 h2 => hDa.dis (AW.same (w := (wC ad cI cZ cJ n kd sd ts fs tr on rp lt ru lg lp) ++ [(o, .inl (cJ, 1, .inr (.inl g')))]) (w' := (wC ad cI cZ cJ n kd sd ts fs tr on rp lt ru lg lp) ++ [(o, .inl (cJ, 1, .inr (.inl g)))]) rfl (AW.inr h1)) h2)
  refine lv_istore (lv' := [(6, .int r), (5, .int k), (0, .ref b), (1, .ref (ad 0)), (2, .ref (bd 0)), (3, .ref o), (4, .int (nI (4 * j)))]) hx hb dL_law_1802 hl (by decide) rfl (fun ls hl => ?_)
  refine lv_aload_n hx hb dL_law_1804 rfl (lv_at hl 4 rfl) ?_
  refine puI_V (own := RL) (As := []) (rest := []) (C := RX1) (ci := 1) (q0 := 0) ⟨hx, hb, hml, hown, hts⟩ (c_X1_thrown l D bd cI cZ cJ _ _ _ _ _ _ _ _ _ _ _ _ _) gL_law_X1_thrown rfl ⟨rfl, rfl⟩ 0 rfl (by decide +kernel) ⟨Nat.le_of_ble_eq_true rfl, Nat.le_of_ble_eq_true rfl⟩ hPm hK rfl rfl rfl hS hl.1 rfl (Nat.le_of_ble_eq_true rfl) dL_law_1805 ⟨(by omega : C + 1 + 0 ≤ 1055), (by omega : Sl + 6 + 0 ≤ 13762)⟩ (fun H locs hk1 hS => ?_)
  replace hPm := keptP hPm hk1
  replace hPc := keptP hPc hk1
  replace hPo := keptP hPo hk1
  refine lv_iload hx hb dL_law_1808 (lv_at hl 1 rfl) ?_
  refine cT_eq (tgt := 1815) hx hb dL_law_1810 (by decide) rfl ?_
  refine lv_iload hx hb dL_law_1815 (lv_at hl 1 rfl) ?_
  by_cases hk0 : k = 0
  · refine zF_ne (tgt := 1839) hx hb dL_law_1817 (by decide) hk0 ?_
    refine lv_aload_n hx hb dL_law_1820 rfl (lv_at hl 5 rfl) ?_
    refine lv_iconst (v := nI 0) hx hb dL_law_1821 (by decide) ?_
    refine ld_nl hx hb hK hPo 0 2 rfl rfl (j := 0) (by decide) (by decide) dL_law_1822 ?_
    refine lv_iload hx hb dL_law_1823 (lv_at hl 0 rfl) ?_
    by_cases hr0 : r = 0
    · refine zT_eq (tgt := 1832) hx hb dL_law_1825 (by decide) hr0 ?_
      refine lv_lconst (v := 0) hx hb dL_law_1832 (by decide) ?_
      refine W.lcmp hx hb dL_law_1833 ?_
      refine zT_eq (tgt := 1839) hx hb dL_law_1834 (by decide) (lcEq (by rw [hans hk0, if_pos rfl, if_pos hr0])) ?_
      refine lv_goto (tgt := 1999) hx hb dL_law_1839 (by decide) ?_
      exact kk n' kd' fi' se' sd' ts' fs' tr' on' sy' rp' lt' ru' lg' lp' k _ g' _ _ ls hR' hPc hPm hPo hS (lv_sub hl [2, 3, 4, 5, 6] rfl)
    · refine zF_eq (tgt := 1832) hx hb dL_law_1825 (by decide) hr0 ?_
      refine lv_lconst (v := 1) hx hb dL_law_1828 (by decide) ?_
      refine lv_goto (tgt := 1833) hx hb dL_law_1829 (by decide) ?_
      refine W.lcmp hx hb dL_law_1833 ?_
      refine zT_eq (tgt := 1839) hx hb dL_law_1834 (by decide) (lcEq (by rw [hans hk0, if_pos rfl, if_neg hr0])) ?_
      refine lv_goto (tgt := 1999) hx hb dL_law_1839 (by decide) ?_
      exact kk n' kd' fi' se' sd' ts' fs' tr' on' sy' rp' lt' ru' lg' lp' k _ g' _ _ ls hR' hPc hPm hPo hS (lv_sub hl [2, 3, 4, 5, 6] rfl)
  · refine zT_ne (tgt := 1839) hx hb dL_law_1817 (by decide) hk0 ?_
    refine lv_goto (tgt := 1999) hx hb dL_law_1839 (by decide) ?_
    exact kk n' kd' fi' se' sd' ts' fs' tr' on' sy' rp' lt' ru' lg' lp' k _ g' _ _ ls hR' hPc hPm hPo hS (lv_sub hl [2, 3, 4, 5, 6] rfl)
set_option maxHeartbeats 4000000 in
set_option maxRecDepth 100000 in
theorem law_depends {p : Program} {l : Launch} {e : Env} {s : State} {m : MethodId} {below : List Frame} {meth : Method} {c : Code} {D : va_G} {ad bd : Nat → Nat} {cI cZ cJ : ClassId} {o b L : Nat} {xs : Nat → Int32} {Q : State → Prop} (C0 : CX p l s m meth c D ad bd cI cZ cJ o b L xs) {n : Nat} {kd : Nat → Nat} {fi : Nat → Nat} {se : Nat → Nat} {sd : Nat → Bool} {ts : Nat → Int64} {fs : Nat → Int64} {tr : Nat → Nat} {on : Nat → Bool} {sy : Nat → Nat} {rp : Nat → Nat} {lt : Nat} {ru : Nat → Option Nat} {lg : Nat} {lp : Int64} {th : Int32} {rs : Nat → Int32} {g : Nat → Int64} {H : Heap} {locs : List Loc} {ls : Array Slot} {j C Sl : Nat} (hj : 4 * j + 4 ≤ L) (hL : L ≤ 2048) (hC : C + 1 ≤ 1055) (hSl : Sl + 6 ≤ 13762) (hR : REL n kd fi se sd ts fs tr sy rp lt ru lg lp) (hPc : va_P D vwCl (wC ad cI cZ cJ n kd sd ts fs tr on rp lt ru lg lp) H) (hPm : va_P D vwCl (wM bd cI cZ cJ th n kd fi se sd tr on sy lt ru lg rs) H) (hPo : va_P D vwCl [(o, .inl (cJ, 1, .inr (.inl g)))] H) (hS : va_S (AF s) s.heap H locs) (hl : lv_has ls 9 [(0, .ref b), (1, .ref (ad 0)), (2, .ref (bd 0)), (3, .ref o), (4, .int (nI (4 * j)))])
    (kk : KN p l e s m below meth c D ad bd cI cZ cJ o b j (C + 1) (Sl + 6) Q) : W p l e room_1 s m #[Value.ref b] below meth c H locs C Sl Q (F0 m 1842 ls []) := by
  obtain ⟨⟨hx, hb, hr, hml, hown, hts0, hX, hbl, hlocks, hgv⟩, htr, hK, hXE, hTB, hDA⟩ := C0
  have hown : s.vm.findClass RL = some m.cls := hown
  have hts : ∀ w ∈ wsL_law, w.before #[Value.ref b] s = true := fun w h => hts0 w (wsL_law_in w h)
  have hbA : ¬ AF s b := Nat.not_le.mpr hbl
  have hO := hR.okc
  have hDm : va_D (AF s) (wM bd cI cZ cJ th n kd fi se sd tr on sy lt ru lg rs) := sameD2 hDA.r rfl
  have hDc : va_D (AF s) ((wC ad cI cZ cJ n kd sd ts fs tr on rp lt ru lg lp) ++ [(o, .inl (cJ, 1, .inr (.inl g)))]) := sameD2 hDA.l rfl
  have hDa : va_D (AF s) (((wC ad cI cZ cJ n kd sd ts fs tr on rp lt ru lg lp) ++ [(o, .inl (cJ, 1, .inr (.inl g)))]) ++ (wM bd cI cZ cJ th n kd fi se sd tr on sy lt ru lg rs)) := sameD2 hDA rfl
  obtain ⟨k, r, n', kd', fi', se', sd', ts', fs', tr', on', sy', rp', lt', ru', lg', lp', hR', hWr, hMd⟩ := op_depends l D ad bd cI cZ cJ o htr hR (xs (4 * j + 1)) (xs (4 * j + 2)) (on := on)
  obtain ⟨g', hLW, hans⟩ := hWr g
  refine lv_aload_n hx hb dL_law_1842 rfl (lv_at hl 1 rfl) ?_
  refine lv_aload_n hx hb dL_law_1843 rfl (lv_at hl 0 rfl) ?_
  refine lv_iload hx hb dL_law_1844 (lv_at hl 4 rfl) ?_
  refine lv_iconst (v := nI 1) hx hb dL_law_1846 (by decide) ?_
  refine lv_iadd hx hb dL_law_1847 ?_
  refine tc_int (y := nI (4 * j + 1)) (nI_add _ _) ?_
  refine va_sld hx hb hX hbl hbA hS (vp_in_nI (n := (4 * j + 1)) (by omega) (by omega)) dL_law_1848 ?_
  refine tc_int (y := xs (4 * j + 1)) (by rw [nI_clamp (by omega)]) ?_
  refine lv_aload_n hx hb dL_law_1849 rfl (lv_at hl 0 rfl) ?_
  refine lv_iload hx hb dL_law_1850 (lv_at hl 4 rfl) ?_
  refine lv_iconst (v := nI 2) hx hb dL_law_1852 (by decide) ?_
  refine lv_iadd hx hb dL_law_1853 ?_
  refine tc_int (y := nI (4 * j + 2)) (nI_add _ _) ?_
  refine va_sld hx hb hX hbl hbA hS (vp_in_nI (n := (4 * j + 2)) (by omega) (by omega)) dL_law_1854 ?_
  refine tc_int (y := xs (4 * j + 2)) (by rw [nI_clamp (by omega)]) ?_
  refine lv_aload_n hx hb dL_law_1855 rfl (lv_at hl 3 rfl) ?_
  refine lw_S (own := RL) (As := [.ref (ad 0), .int (xs (4 * j + 1)), .int (xs (4 * j + 2)), .ref o]) (rest := []) (A1 := AW ((wC ad cI cZ cJ n kd sd ts fs tr on rp lt ru lg lp) ++ [(o, .inl (cJ, 1, .inr (.inl g)))])) (A0 := AF s) ⟨hx, hb, hml, hown, hts⟩ hLW gL_law_L_depends rfl ⟨rfl, rfl⟩ 4 rfl (by decide +kernel) ⟨Nat.le_of_ble_eq_true rfl, Nat.le_of_ble_eq_true rfl⟩ (hPc.app hPo) hK hDc.aw (hXE.kept (fun q h1 _ => hS.2.1 q h1 (Nat.not_le.mpr h1))) ((hTB.kept hS.2.1).narrow (fun q h => hDc.awA h)) (fun q h => hDc.awA h) (fun q h => Nat.le_trans hS.1 h) hS hl.1 rfl (Nat.le_of_ble_eq_true rfl) dL_law_1856 ⟨(by omega : C + 1 ≤ 1055), (by omega : Sl + 6 ≤ 13762)⟩ (fun H locs hP9 hz1 hk1 hS => ?_)
  replace hPm := hPm.off hk1 (fun q h1 h2 => hDa.dis h2 h1)
  replace hPc := hP9.l
  replace hPo := hP9.r
  refine lv_istore (lv' := [(5, .int k), (0, .ref b), (1, .ref (ad 0)), (2, .ref (bd 0)), (3, .ref o), (4, .int (nI (4 * j)))]) hx hb dL_law_1859 hl (by decide) rfl (fun ls hl => ?_)
  refine lv_aload_n hx hb dL_law_1861 rfl (lv_at hl 3 rfl) ?_
  refine lv_aload_n hx hb dL_law_1862 rfl (lv_at hl 1 rfl) ?_
  refine lv_iload hx hb dL_law_1863 (lv_at hl 5 rfl) ?_
  refine lv_iconst (v := nI 1) hx hb dL_law_1865 (by decide) ?_
  refine lv_iadd hx hb dL_law_1866 ?_
  refine tc_int (y := nI (4 * j + 1)) (nI_add _ _) ?_
  refine va_sld hx hb hX hbl hbA hS (vp_in_nI (n := (4 * j + 1)) (by omega) (by omega)) dL_law_1867 ?_
  refine tc_int (y := xs (4 * j + 1)) (by rw [nI_clamp (by omega)]) ?_
  refine lv_aload_n hx hb dL_law_1868 rfl (lv_at hl 1 rfl) ?_
  refine lv_iload hx hb dL_law_1869 (lv_at hl 5 rfl) ?_
  refine lv_iconst (v := nI 2) hx hb dL_law_1871 (by decide) ?_
  refine lv_iadd hx hb dL_law_1872 ?_
  refine tc_int (y := nI (4 * j + 2)) (nI_add _ _) ?_
  refine va_sld hx hb hX hbl hbA hS (vp_in_nI (n := (4 * j + 2)) (by omega) (by omega)) dL_law_1873 ?_
  refine tc_int (y := xs (4 * j + 2)) (by rw [nI_clamp (by omega)]) ?_
  refine muI_V (own := RL) (As := [.int (xs (4 * j + 1)), .int (xs (4 * j + 2))]) (rest := []) (C := RX1) (ci := 1) (q0 := 0) (A1 := AW (wM bd cI cZ cJ th n kd fi se sd tr on sy lt ru lg rs)) (A0 := AF s) ⟨hx, hb, hml, hown, hts⟩ (hMd th rs) gL_law_X1_depends rfl ⟨rfl, rfl⟩ 2 rfl (by decide +kernel) ⟨Nat.le_of_ble_eq_true rfl, Nat.le_of_ble_eq_true rfl⟩ hPm hK hDm.aw (fun q h => hDm.awA h) rfl rfl rfl hS hl.1 rfl (Nat.le_of_ble_eq_true rfl) dL_law_1874 ⟨(by omega : C + 1 + 0 ≤ 1055), (by omega : Sl + 6 + 0 ≤ 13762)⟩ (fun u H locs hPm hz1 hk1 hS => ?_)
  replace hPc := hPc.off hk1 (fun q h1 h2 => hDa.dis (AW.same (w := (wC ad cI cZ cJ n' kd' sd' ts' fs' tr' on' rp' lt' ru' lg' lp') ++ [(o, .inl (cJ, 1, .inr (.inl g)))]) (w' := (wC ad cI cZ cJ n kd sd ts fs tr on rp lt ru lg lp) ++ [(o, .inl (cJ, 1, .inr (.inl g)))]) rfl (AW.inl h1)) h2)
  replace hPo := hPo.off hk1 (fun q h1 h2 => hDa.dis (AW.same (w := (wC ad cI cZ cJ n kd sd ts fs tr on rp lt ru lg lp) ++ [(o, .inl (cJ, 1, .inr (.inl g')))]) (w' := (wC ad cI cZ cJ n kd sd ts fs tr on rp lt ru lg lp) ++ [(o, .inl (cJ, 1, .inr (.inl g)))]) rfl (AW.inr h1)) h2)
  refine lv_istore (lv' := [(6, .int r), (5, .int k), (0, .ref b), (1, .ref (ad 0)), (2, .ref (bd 0)), (3, .ref o), (4, .int (nI (4 * j)))]) hx hb dL_law_1877 hl (by decide) rfl (fun ls hl => ?_)
  refine lv_aload_n hx hb dL_law_1879 rfl (lv_at hl 4 rfl) ?_
  refine puI_V (own := RL) (As := []) (rest := []) (C := RX1) (ci := 1) (q0 := 0) ⟨hx, hb, hml, hown, hts⟩ (c_X1_thrown l D bd cI cZ cJ _ _ _ _ _ _ _ _ _ _ _ _ _) gL_law_X1_thrown rfl ⟨rfl, rfl⟩ 0 rfl (by decide +kernel) ⟨Nat.le_of_ble_eq_true rfl, Nat.le_of_ble_eq_true rfl⟩ hPm hK rfl rfl rfl hS hl.1 rfl (Nat.le_of_ble_eq_true rfl) dL_law_1880 ⟨(by omega : C + 1 + 0 ≤ 1055), (by omega : Sl + 6 + 0 ≤ 13762)⟩ (fun H locs hk1 hS => ?_)
  replace hPm := keptP hPm hk1
  replace hPc := keptP hPc hk1
  replace hPo := keptP hPo hk1
  refine lv_iload hx hb dL_law_1883 (lv_at hl 1 rfl) ?_
  refine cT_eq (tgt := 1890) hx hb dL_law_1885 (by decide) rfl ?_
  refine lv_iload hx hb dL_law_1890 (lv_at hl 1 rfl) ?_
  by_cases hk0 : k = 0
  · refine zF_ne (tgt := 1914) hx hb dL_law_1892 (by decide) hk0 ?_
    refine lv_aload_n hx hb dL_law_1895 rfl (lv_at hl 5 rfl) ?_
    refine lv_iconst (v := nI 0) hx hb dL_law_1896 (by decide) ?_
    refine ld_nl hx hb hK hPo 0 2 rfl rfl (j := 0) (by decide) (by decide) dL_law_1897 ?_
    refine lv_iload hx hb dL_law_1898 (lv_at hl 0 rfl) ?_
    by_cases hr0 : r = 0
    · refine zT_eq (tgt := 1907) hx hb dL_law_1900 (by decide) hr0 ?_
      refine lv_lconst (v := 0) hx hb dL_law_1907 (by decide) ?_
      refine W.lcmp hx hb dL_law_1908 ?_
      refine zT_eq (tgt := 1914) hx hb dL_law_1909 (by decide) (lcEq (by rw [hans hk0, if_pos rfl, if_pos hr0])) ?_
      refine lv_goto (tgt := 1999) hx hb dL_law_1914 (by decide) ?_
      exact kk n' kd' fi' se' sd' ts' fs' tr' on' sy' rp' lt' ru' lg' lp' k _ g' _ _ ls hR' hPc hPm hPo hS (lv_sub hl [2, 3, 4, 5, 6] rfl)
    · refine zF_eq (tgt := 1907) hx hb dL_law_1900 (by decide) hr0 ?_
      refine lv_lconst (v := 1) hx hb dL_law_1903 (by decide) ?_
      refine lv_goto (tgt := 1908) hx hb dL_law_1904 (by decide) ?_
      refine W.lcmp hx hb dL_law_1908 ?_
      refine zT_eq (tgt := 1914) hx hb dL_law_1909 (by decide) (lcEq (by rw [hans hk0, if_pos rfl, if_neg hr0])) ?_
      refine lv_goto (tgt := 1999) hx hb dL_law_1914 (by decide) ?_
      exact kk n' kd' fi' se' sd' ts' fs' tr' on' sy' rp' lt' ru' lg' lp' k _ g' _ _ ls hR' hPc hPm hPo hS (lv_sub hl [2, 3, 4, 5, 6] rfl)
  · refine zT_ne (tgt := 1914) hx hb dL_law_1892 (by decide) hk0 ?_
    refine lv_goto (tgt := 1999) hx hb dL_law_1914 (by decide) ?_
    exact kk n' kd' fi' se' sd' ts' fs' tr' on' sy' rp' lt' ru' lg' lp' k _ g' _ _ ls hR' hPc hPm hPo hS (lv_sub hl [2, 3, 4, 5, 6] rfl)
set_option maxHeartbeats 4000000 in
set_option maxRecDepth 100000 in
theorem law_valueAt {p : Program} {l : Launch} {e : Env} {s : State} {m : MethodId} {below : List Frame} {meth : Method} {c : Code} {D : va_G} {ad bd : Nat → Nat} {cI cZ cJ : ClassId} {o b L : Nat} {xs : Nat → Int32} {Q : State → Prop} (C0 : CX p l s m meth c D ad bd cI cZ cJ o b L xs) {n : Nat} {kd : Nat → Nat} {fi : Nat → Nat} {se : Nat → Nat} {sd : Nat → Bool} {ts : Nat → Int64} {fs : Nat → Int64} {tr : Nat → Nat} {on : Nat → Bool} {sy : Nat → Nat} {rp : Nat → Nat} {lt : Nat} {ru : Nat → Option Nat} {lg : Nat} {lp : Int64} {th : Int32} {rs : Nat → Int32} {g : Nat → Int64} {H : Heap} {locs : List Loc} {ls : Array Slot} {j C Sl : Nat} (hj : 4 * j + 4 ≤ L) (hL : L ≤ 2048) (hC : C + 1 ≤ 1055) (hSl : Sl + 6 ≤ 13762) (hR : REL n kd fi se sd ts fs tr sy rp lt ru lg lp) (hPc : va_P D vwCl (wC ad cI cZ cJ n kd sd ts fs tr on rp lt ru lg lp) H) (hPm : va_P D vwCl (wM bd cI cZ cJ th n kd fi se sd tr on sy lt ru lg rs) H) (hPo : va_P D vwCl [(o, .inl (cJ, 1, .inr (.inl g)))] H) (hS : va_S (AF s) s.heap H locs) (hl : lv_has ls 9 [(0, .ref b), (1, .ref (ad 0)), (2, .ref (bd 0)), (3, .ref o), (4, .int (nI (4 * j)))])
    (kk : KN p l e s m below meth c D ad bd cI cZ cJ o b j (C + 1) (Sl + 6) Q) : W p l e room_1 s m #[Value.ref b] below meth c H locs C Sl Q (F0 m 1917 ls []) := by
  obtain ⟨⟨hx, hb, hr, hml, hown, hts0, hX, hbl, hlocks, hgv⟩, htr, hK, hXE, hTB, hDA⟩ := C0
  have hown : s.vm.findClass RL = some m.cls := hown
  have hts : ∀ w ∈ wsL_law, w.before #[Value.ref b] s = true := fun w h => hts0 w (wsL_law_in w h)
  have hbA : ¬ AF s b := Nat.not_le.mpr hbl
  have hO := hR.okc
  have hDm : va_D (AF s) (wM bd cI cZ cJ th n kd fi se sd tr on sy lt ru lg rs) := sameD2 hDA.r rfl
  have hDc : va_D (AF s) ((wC ad cI cZ cJ n kd sd ts fs tr on rp lt ru lg lp) ++ [(o, .inl (cJ, 1, .inr (.inl g)))]) := sameD2 hDA.l rfl
  have hDa : va_D (AF s) (((wC ad cI cZ cJ n kd sd ts fs tr on rp lt ru lg lp) ++ [(o, .inl (cJ, 1, .inr (.inl g)))]) ++ (wM bd cI cZ cJ th n kd fi se sd tr on sy lt ru lg rs)) := sameD2 hDA rfl
  obtain ⟨k, r, n', kd', fi', se', sd', ts', fs', tr', on', sy', rp', lt', ru', lg', lp', hR', hWr, hMd⟩ := op_valueAt l D ad bd cI cZ cJ o htr hR (xs (4 * j + 1)) (xs (4 * j + 2)) (on := on)
  obtain ⟨g', hLW, hans⟩ := hWr g
  refine lv_aload_n hx hb dL_law_1917 rfl (lv_at hl 1 rfl) ?_
  refine lv_aload_n hx hb dL_law_1918 rfl (lv_at hl 0 rfl) ?_
  refine lv_iload hx hb dL_law_1919 (lv_at hl 4 rfl) ?_
  refine lv_iconst (v := nI 1) hx hb dL_law_1921 (by decide) ?_
  refine lv_iadd hx hb dL_law_1922 ?_
  refine tc_int (y := nI (4 * j + 1)) (nI_add _ _) ?_
  refine va_sld hx hb hX hbl hbA hS (vp_in_nI (n := (4 * j + 1)) (by omega) (by omega)) dL_law_1923 ?_
  refine tc_int (y := xs (4 * j + 1)) (by rw [nI_clamp (by omega)]) ?_
  refine lv_aload_n hx hb dL_law_1924 rfl (lv_at hl 0 rfl) ?_
  refine lv_iload hx hb dL_law_1925 (lv_at hl 4 rfl) ?_
  refine lv_iconst (v := nI 2) hx hb dL_law_1927 (by decide) ?_
  refine lv_iadd hx hb dL_law_1928 ?_
  refine tc_int (y := nI (4 * j + 2)) (nI_add _ _) ?_
  refine va_sld hx hb hX hbl hbA hS (vp_in_nI (n := (4 * j + 2)) (by omega) (by omega)) dL_law_1929 ?_
  refine tc_int (y := xs (4 * j + 2)) (by rw [nI_clamp (by omega)]) ?_
  refine lv_aload_n hx hb dL_law_1930 rfl (lv_at hl 3 rfl) ?_
  refine lw_S (own := RL) (As := [.ref (ad 0), .int (xs (4 * j + 1)), .int (xs (4 * j + 2)), .ref o]) (rest := []) (A1 := AW ((wC ad cI cZ cJ n kd sd ts fs tr on rp lt ru lg lp) ++ [(o, .inl (cJ, 1, .inr (.inl g)))])) (A0 := AF s) ⟨hx, hb, hml, hown, hts⟩ hLW gL_law_L_valueAt rfl ⟨rfl, rfl⟩ 4 rfl (by decide +kernel) ⟨Nat.le_of_ble_eq_true rfl, Nat.le_of_ble_eq_true rfl⟩ (hPc.app hPo) hK hDc.aw (hXE.kept (fun q h1 _ => hS.2.1 q h1 (Nat.not_le.mpr h1))) ((hTB.kept hS.2.1).narrow (fun q h => hDc.awA h)) (fun q h => hDc.awA h) (fun q h => Nat.le_trans hS.1 h) hS hl.1 rfl (Nat.le_of_ble_eq_true rfl) dL_law_1931 ⟨(by omega : C + 1 ≤ 1055), (by omega : Sl + 6 ≤ 13762)⟩ (fun H locs hP9 hz1 hk1 hS => ?_)
  replace hPm := hPm.off hk1 (fun q h1 h2 => hDa.dis h2 h1)
  replace hPc := hP9.l
  replace hPo := hP9.r
  refine lv_istore (lv' := [(5, .int k), (0, .ref b), (1, .ref (ad 0)), (2, .ref (bd 0)), (3, .ref o), (4, .int (nI (4 * j)))]) hx hb dL_law_1934 hl (by decide) rfl (fun ls hl => ?_)
  refine lv_aload_n hx hb dL_law_1936 rfl (lv_at hl 3 rfl) ?_
  refine lv_aload_n hx hb dL_law_1937 rfl (lv_at hl 1 rfl) ?_
  refine lv_iload hx hb dL_law_1938 (lv_at hl 5 rfl) ?_
  refine lv_iconst (v := nI 1) hx hb dL_law_1940 (by decide) ?_
  refine lv_iadd hx hb dL_law_1941 ?_
  refine tc_int (y := nI (4 * j + 1)) (nI_add _ _) ?_
  refine va_sld hx hb hX hbl hbA hS (vp_in_nI (n := (4 * j + 1)) (by omega) (by omega)) dL_law_1942 ?_
  refine tc_int (y := xs (4 * j + 1)) (by rw [nI_clamp (by omega)]) ?_
  refine lv_aload_n hx hb dL_law_1943 rfl (lv_at hl 1 rfl) ?_
  refine lv_iload hx hb dL_law_1944 (lv_at hl 5 rfl) ?_
  refine lv_iconst (v := nI 2) hx hb dL_law_1946 (by decide) ?_
  refine lv_iadd hx hb dL_law_1947 ?_
  refine tc_int (y := nI (4 * j + 2)) (nI_add _ _) ?_
  refine va_sld hx hb hX hbl hbA hS (vp_in_nI (n := (4 * j + 2)) (by omega) (by omega)) dL_law_1948 ?_
  refine tc_int (y := xs (4 * j + 2)) (by rw [nI_clamp (by omega)]) ?_
  refine muI_V (own := RL) (As := [.int (xs (4 * j + 1)), .int (xs (4 * j + 2))]) (rest := []) (C := RX1) (ci := 1) (q0 := 0) (A1 := AW (wM bd cI cZ cJ th n kd fi se sd tr on sy lt ru lg rs)) (A0 := AF s) ⟨hx, hb, hml, hown, hts⟩ (hMd th rs) gL_law_X1_valueAt rfl ⟨rfl, rfl⟩ 2 rfl (by decide +kernel) ⟨Nat.le_of_ble_eq_true rfl, Nat.le_of_ble_eq_true rfl⟩ hPm hK hDm.aw (fun q h => hDm.awA h) rfl rfl rfl hS hl.1 rfl (Nat.le_of_ble_eq_true rfl) dL_law_1949 ⟨(by omega : C + 1 + 0 ≤ 1055), (by omega : Sl + 6 + 0 ≤ 13762)⟩ (fun u H locs hPm hz1 hk1 hS => ?_)
  replace hPc := hPc.off hk1 (fun q h1 h2 => hDa.dis (AW.same (w := (wC ad cI cZ cJ n' kd' sd' ts' fs' tr' on' rp' lt' ru' lg' lp') ++ [(o, .inl (cJ, 1, .inr (.inl g)))]) (w' := (wC ad cI cZ cJ n kd sd ts fs tr on rp lt ru lg lp) ++ [(o, .inl (cJ, 1, .inr (.inl g)))]) rfl (AW.inl h1)) h2)
  replace hPo := hPo.off hk1 (fun q h1 h2 => hDa.dis (AW.same (w := (wC ad cI cZ cJ n kd sd ts fs tr on rp lt ru lg lp) ++ [(o, .inl (cJ, 1, .inr (.inl g')))]) (w' := (wC ad cI cZ cJ n kd sd ts fs tr on rp lt ru lg lp) ++ [(o, .inl (cJ, 1, .inr (.inl g)))]) rfl (AW.inr h1)) h2)
  refine lv_istore (lv' := [(6, .int r), (5, .int k), (0, .ref b), (1, .ref (ad 0)), (2, .ref (bd 0)), (3, .ref o), (4, .int (nI (4 * j)))]) hx hb dL_law_1952 hl (by decide) rfl (fun ls hl => ?_)
  refine lv_aload_n hx hb dL_law_1954 rfl (lv_at hl 4 rfl) ?_
  refine puI_V (own := RL) (As := []) (rest := []) (C := RX1) (ci := 1) (q0 := 0) ⟨hx, hb, hml, hown, hts⟩ (c_X1_thrown l D bd cI cZ cJ _ _ _ _ _ _ _ _ _ _ _ _ _) gL_law_X1_thrown rfl ⟨rfl, rfl⟩ 0 rfl (by decide +kernel) ⟨Nat.le_of_ble_eq_true rfl, Nat.le_of_ble_eq_true rfl⟩ hPm hK rfl rfl rfl hS hl.1 rfl (Nat.le_of_ble_eq_true rfl) dL_law_1955 ⟨(by omega : C + 1 + 0 ≤ 1055), (by omega : Sl + 6 + 0 ≤ 13762)⟩ (fun H locs hk1 hS => ?_)
  replace hPm := keptP hPm hk1
  replace hPc := keptP hPc hk1
  replace hPo := keptP hPo hk1
  refine lv_iload hx hb dL_law_1958 (lv_at hl 1 rfl) ?_
  refine cT_eq (tgt := 1965) hx hb dL_law_1960 (by decide) rfl ?_
  refine lv_iload hx hb dL_law_1965 (lv_at hl 1 rfl) ?_
  by_cases hk0 : k = 0
  · refine zF_ne (tgt := 1982) hx hb dL_law_1967 (by decide) hk0 ?_
    refine lv_aload_n hx hb dL_law_1970 rfl (lv_at hl 5 rfl) ?_
    refine lv_iconst (v := nI 0) hx hb dL_law_1971 (by decide) ?_
    refine ld_nl hx hb hK hPo 0 2 rfl rfl (j := 0) (by decide) (by decide) dL_law_1972 ?_
    refine lv_iload hx hb dL_law_1973 (lv_at hl 0 rfl) ?_
    refine lv_i2l (v := r.toInt64) hx hb dL_law_1975 rfl ?_
    refine W.lcmp hx hb dL_law_1976 ?_
    refine zT_eq (tgt := 1982) hx hb dL_law_1977 (by decide) (lcEq (by rw [hans hk0, if_neg (by decide)])) ?_
    refine lv_goto (tgt := 1999) hx hb dL_law_1982 (by decide) ?_
    exact kk n' kd' fi' se' sd' ts' fs' tr' on' sy' rp' lt' ru' lg' lp' k _ g' _ _ ls hR' hPc hPm hPo hS (lv_sub hl [2, 3, 4, 5, 6] rfl)
  · refine zT_ne (tgt := 1982) hx hb dL_law_1967 (by decide) hk0 ?_
    refine lv_goto (tgt := 1999) hx hb dL_law_1982 (by decide) ?_
    exact kk n' kd' fi' se' sd' ts' fs' tr' on' sy' rp' lt' ru' lg' lp' k _ g' _ _ ls hR' hPc hPm hPo hS (lv_sub hl [2, 3, 4, 5, 6] rfl)
set_option maxHeartbeats 4000000 in
set_option maxRecDepth 100000 in
theorem law_digest {p : Program} {l : Launch} {e : Env} {s : State} {m : MethodId} {below : List Frame} {meth : Method} {c : Code} {D : va_G} {ad bd : Nat → Nat} {cI cZ cJ : ClassId} {o b L : Nat} {xs : Nat → Int32} {Q : State → Prop} (C0 : CX p l s m meth c D ad bd cI cZ cJ o b L xs) {n : Nat} {kd : Nat → Nat} {fi : Nat → Nat} {se : Nat → Nat} {sd : Nat → Bool} {ts : Nat → Int64} {fs : Nat → Int64} {tr : Nat → Nat} {on : Nat → Bool} {sy : Nat → Nat} {rp : Nat → Nat} {lt : Nat} {ru : Nat → Option Nat} {lg : Nat} {lp : Int64} {th : Int32} {rs : Nat → Int32} {g : Nat → Int64} {H : Heap} {locs : List Loc} {ls : Array Slot} {j C Sl : Nat} (hj : 4 * j + 4 ≤ L) (hL : L ≤ 2048) (hC : C + 1 ≤ 1055) (hSl : Sl + 6 ≤ 13762) (hR : REL n kd fi se sd ts fs tr sy rp lt ru lg lp) (hPc : va_P D vwCl (wC ad cI cZ cJ n kd sd ts fs tr on rp lt ru lg lp) H) (hPm : va_P D vwCl (wM bd cI cZ cJ th n kd fi se sd tr on sy lt ru lg rs) H) (hPo : va_P D vwCl [(o, .inl (cJ, 1, .inr (.inl g)))] H) (hS : va_S (AF s) s.heap H locs) (hl : lv_has ls 9 [(0, .ref b), (1, .ref (ad 0)), (2, .ref (bd 0)), (3, .ref o), (4, .int (nI (4 * j)))])
    (kk : KN p l e s m below meth c D ad bd cI cZ cJ o b j (C + 1) (Sl + 6) Q) : W p l e room_1 s m #[Value.ref b] below meth c H locs C Sl Q (F0 m 1985 ls []) := by
  obtain ⟨⟨hx, hb, hr, hml, hown, hts0, hX, hbl, hlocks, hgv⟩, htr, hK, hXE, hTB, hDA⟩ := C0
  have hown : s.vm.findClass RL = some m.cls := hown
  have hts : ∀ w ∈ wsL_law, w.before #[Value.ref b] s = true := fun w h => hts0 w (wsL_law_in w h)
  have hbA : ¬ AF s b := Nat.not_le.mpr hbl
  have hO := hR.okc
  have hDm : va_D (AF s) (wM bd cI cZ cJ th n kd fi se sd tr on sy lt ru lg rs) := sameD2 hDA.r rfl
  have hDc : va_D (AF s) ((wC ad cI cZ cJ n kd sd ts fs tr on rp lt ru lg lp) ++ [(o, .inl (cJ, 1, .inr (.inl g)))]) := sameD2 hDA.l rfl
  have hDa : va_D (AF s) (((wC ad cI cZ cJ n kd sd ts fs tr on rp lt ru lg lp) ++ [(o, .inl (cJ, 1, .inr (.inl g)))]) ++ (wM bd cI cZ cJ th n kd fi se sd tr on sy lt ru lg rs)) := sameD2 hDA rfl
  have hF : (dgF n kd lt tr on (fun s a => dg (rp s) a) ru (fun a => dg (gsS rp (hsS tr on lt 6) 6) a) (fun a => dg (itS (lkN ts fs) ru (gsS rp (hsS tr on lt 6) 6) 12) a) (fa_first (fun r => decide (itS (lkN ts fs) ru (gsS rp (hsS tr on lt 6) 6) (r + 1) = itS (lkN ts fs) ru (gsS rp (hsS tr on lt 6) 6) r)) 12) lg) = (dgF n kd lt tr on (fun s a => sy (6 * s + a)) ru (fun a => gbS sy (hsS tr on lt 6) a 6) (fun a => dg (mIt sy (wv kd fi se) ru (hsS tr on lt 6) 12) a) (fa_first (fun r => decide (mIt sy (wv kd fi se) ru (hsS tr on lt 6) (r + 1) = mIt sy (wv kd fi se) ru (hsS tr on lt 6) r)) 12) lg) := dgF_cong (fun s a hs ha => rp_dg hR hs ha) (fun a ha => gs_dg hR _ ha 6 (Nat.le_refl 6)) (fun a ha => by rw [it_eq hR]) (rd_eq hR _)
  obtain ⟨F, hF0⟩ : ∃ F, (dgF n kd lt tr on (fun s a => sy (6 * s + a)) ru (fun a => gbS sy (hsS tr on lt 6) a 6) (fun a => dg (mIt sy (wv kd fi se) ru (hsS tr on lt 6) 12) a) (fa_first (fun r => decide (mIt sy (wv kd fi se) ru (hsS tr on lt 6) (r + 1) = mIt sy (wv kd fi se) ru (hsS tr on lt 6) r)) 12) lg) = F := ⟨_, rfl⟩
  replace hF := hF.trans hF0
  refine lv_aload_n hx hb dL_law_1985 rfl (lv_at hl 1 rfl) ?_
  refine puL_V (own := RL) (As := []) (rest := []) (C := RX0) (ci := 0) (q0 := 0) ⟨hx, hb, hml, hown, hts⟩ (c_X0_digest l D ad cI cZ cJ n kd sd ts fs tr on rp lt ru lg lp hO) gL_law_X0_digest rfl ⟨rfl, rfl⟩ 0 rfl (by decide +kernel) ⟨Nat.le_of_ble_eq_true rfl, Nat.le_of_ble_eq_true rfl⟩ hPc hK rfl rfl rfl hS hl.1 rfl (Nat.le_of_ble_eq_true rfl) dL_law_1986 ⟨(by omega : C + 0 ≤ 1055), (by omega : Sl + 0 ≤ 13762)⟩ (fun H locs hk1 hS => ?_)
  replace hPm := keptP hPm hk1
  replace hPc := keptP hPc hk1
  replace hPo := keptP hPo hk1
  refine tc_long (y := F) hF ?_
  refine lv_aload_n hx hb dL_law_1989 rfl (lv_at hl 2 rfl) ?_
  refine muL_V (own := RL) (As := []) (rest := [.long F]) (C := RX1) (ci := 1) (q0 := 0) (A1 := AW (wM bd cI cZ cJ th n kd fi se sd tr on sy lt ru lg rs)) (A0 := AF s) ⟨hx, hb, hml, hown, hts⟩ (c_X1_digest l D bd cI cZ cJ th n kd fi se sd tr on sy lt ru lg rs hR.1 (fun w _ => mIt_end hR w)) gL_law_X1_digest rfl ⟨rfl, rfl⟩ 0 rfl (by decide +kernel) ⟨Nat.le_of_ble_eq_true rfl, Nat.le_of_ble_eq_true rfl⟩ hPm hK hDm.aw (fun q h => hDm.awA h) rfl rfl rfl hS hl.1 rfl (Nat.le_of_ble_eq_true rfl) dL_law_1990 ⟨(by omega : C + 0 ≤ 1055), (by omega : Sl + 0 ≤ 13762)⟩ (fun u H locs hPm hz1 hk1 hS => ?_)
  replace hPc := hPc.off hk1 (fun q h1 h2 => hDa.dis (AW.same (w := (wC ad cI cZ cJ n kd sd ts fs tr on rp lt ru lg lp) ++ [(o, .inl (cJ, 1, .inr (.inl g)))]) (w' := (wC ad cI cZ cJ n kd sd ts fs tr on rp lt ru lg lp) ++ [(o, .inl (cJ, 1, .inr (.inl g)))]) rfl (AW.inl h1)) h2)
  replace hPo := hPo.off hk1 (fun q h1 h2 => hDa.dis (AW.same (w := (wC ad cI cZ cJ n kd sd ts fs tr on rp lt ru lg lp) ++ [(o, .inl (cJ, 1, .inr (.inl g)))]) (w' := (wC ad cI cZ cJ n kd sd ts fs tr on rp lt ru lg lp) ++ [(o, .inl (cJ, 1, .inr (.inl g)))]) rfl (AW.inr h1)) h2)
  refine tc_long (y := F) hF0 ?_
  refine W.lcmp hx hb dL_law_1993 ?_
  refine zT_eq (tgt := 1999) hx hb dL_law_1994 (by decide) (lcEq rfl) ?_
  refine W.widen (k := C + 1) (n := Sl + 6) (by omega) (by omega) ?_
  exact kk n kd fi se sd ts fs tr on sy rp lt ru lg lp _ _ g _ _ ls hR hPc hPm hPo hS (lv_sub hl [0, 1, 2, 3, 4] rfl)
