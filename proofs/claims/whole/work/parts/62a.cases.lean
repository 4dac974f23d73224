theorem AW.inl {w1 w2 : va_W} {q : Nat} (h : AW w1 q) : AW (w1 ++ w2) q := by
  obtain ⟨k, x, h1, h2⟩ := h
  exact ⟨k, x, by rw [List.getElem?_append_left (List.getElem?_eq_some_iff.mp h1).1]; exact h1, h2⟩
theorem AW.inr {w1 w2 : va_W} {q : Nat} (h : AW w2 q) : AW (w1 ++ w2) q := by
  obtain ⟨k, x, h1, h2⟩ := h
  exact ⟨w1.length + k, x, by rw [List.getElem?_append_right (Nat.le_add_right _ _), Nat.add_sub_cancel_left]; exact h1, h2⟩
set_option maxHeartbeats 4000000 in
set_option maxRecDepth 100000 in
theorem law_atom {p : Program} {l : Launch} {e : Env} {s : State} {m : MethodId} {below : List Frame} {meth : Method} {c : Code} {D : va_G} {ad bd : Nat → Nat} {cI cZ cJ : ClassId} {o b L : Nat} {xs : Nat → Int32} {Q : State → Prop} (C0 : CX p l s m meth c D ad bd cI cZ cJ o b L xs) {n : Nat} {kd : Nat → Nat} {fi : Nat → Nat} {se : Nat → Nat} {sd : Nat → Bool} {ts : Nat → Int64} {fs : Nat → Int64} {tr : Nat → Nat} {on : Nat → Bool} {sy : Nat → Nat} {rp : Nat → Nat} {lt : Nat} {ru : Nat → Option Nat} {lg : Nat} {lp : Int64} {th : Int32} {rs : Nat → Int32} {g : Nat → Int64} {H : Heap} {locs : List Loc} {ls : Array Slot} {j C Sl : Nat} (hj : 4 * j + 4 ≤ L) (hL : L ≤ 2048) (hC : C + 1 ≤ 1055) (hSl : Sl + 6 ≤ 13762) (hR : REL n kd fi se sd ts fs tr sy rp lt ru lg lp) (hPc : va_P D vwCl (wC ad cI cZ cJ n kd sd ts fs tr on rp lt ru lg lp) H) (hPm : va_P D vwCl (wM bd cI cZ cJ th n kd fi se sd tr on sy lt ru lg rs) H) (hPo : va_P D vwCl [(o, .inl (cJ, 1, .inr (.inl g)))] H) (hS : va_S (AF s) s.heap H locs) (hl : lv_has ls 9 [(0, .ref b), (1, .ref (ad 0)), (2, .ref (bd 0)), (3, .ref o), (4, .int (nI (4 * j)))])
    (kk : KN p l e s m below meth c D ad bd cI cZ cJ o b j (C + 1) (Sl + 6) Q) : W p l e room_1 s m #[Value.ref b] below meth c H locs C Sl Q (F0 m 184 ls []) := by
  obtain ⟨⟨hx, hb, hr, hml, hown, hts0, hX, hbl, hlocks, hgv⟩, htr, hK, hXE, hTB, hDA⟩ := C0
  have hown : s.vm.findClass RL = some m.cls := hown
  have hts : ∀ w ∈ wsL_law, w.before #[Value.ref b] s = true := fun w h => hts0 w (wsL_law_in w h)
  have hbA : ¬ AF s b := Nat.not_le.mpr hbl
  have hO := hR.okc
  have hDm : va_D (AF s) (wM bd cI cZ cJ th n kd fi se sd tr on sy lt ru lg rs) := sameD2 hDA.r rfl
  have hDc : va_D (AF s) ((wC ad cI cZ cJ n kd sd ts fs tr on rp lt ru lg lp) ++ [(o, .inl (cJ, 1, .inr (.inl g)))]) := sameD2 hDA.l rfl
  have hDa : va_D (AF s) (((wC ad cI cZ cJ n kd sd ts fs tr on rp lt ru lg lp) ++ [(o, .inl (cJ, 1, .inr (.inl g)))]) ++ (wM bd cI cZ cJ th n kd fi se sd tr on sy lt ru lg rs)) := sameD2 hDA rfl
  obtain ⟨k, r, n', kd', fi', se', sd', ts', fs', tr', on', sy', rp', lt', ru', lg', lp', hR', hWr, hMd⟩ := op_atom l D ad bd cI cZ cJ o htr hR (xs (4 * j + 1)) (on := on)
  obtain ⟨g', hLW, hans⟩ := hWr g
  refine lv_aload_n hx hb dL_law_184 rfl (lv_at hl 1 rfl) ?_
  refine lv_aload_n hx hb dL_law_185 rfl (lv_at hl 0 rfl) ?_
  refine lv_iload hx hb dL_law_186 (lv_at hl 4 rfl) ?_
  refine lv_iconst (v := nI 1) hx hb dL_law_188 (by decide) ?_
  refine lv_iadd hx hb dL_law_189 ?_
  refine tc_int (y := nI (4 * j + 1)) (nI_add _ _) ?_
  refine va_sld hx hb hX hbl hbA hS (vp_in_nI (n := (4 * j + 1)) (by omega) (by omega)) dL_law_190 ?_
  refine tc_int (y := xs (4 * j + 1)) (by rw [nI_clamp (by omega)]) ?_
  refine lv_aload_n hx hb dL_law_191 rfl (lv_at hl 3 rfl) ?_
  refine lw_S (own := RL) (As := [.ref (ad 0), .int (xs (4 * j + 1)), .ref o]) (rest := []) (A1 := AW ((wC ad cI cZ cJ n kd sd ts fs tr on rp lt ru lg lp) ++ [(o, .inl (cJ, 1, .inr (.inl g)))])) (A0 := AF s) ⟨hx, hb, hml, hown, hts⟩ hLW gL_law_L_atom rfl ⟨rfl, rfl⟩ 3 rfl (by decide +kernel) ⟨Nat.le_of_ble_eq_true rfl, Nat.le_of_ble_eq_true rfl⟩ (hPc.app hPo) hK hDc.aw (hXE.kept (fun q h1 _ => hS.2.1 q h1 (Nat.not_le.mpr h1))) ((hTB.kept hS.2.1).narrow (fun q h => hDc.awA h)) (fun q h => hDc.awA h) (fun q h => Nat.le_trans hS.1 h) hS hl.1 rfl (Nat.le_of_ble_eq_true rfl) dL_law_192 ⟨(by omega : C + 1 ≤ 1055), (by omega : Sl + 6 ≤ 13762)⟩ (fun H locs hP9 hz1 hk1 hS => ?_)
  replace hPm := hPm.off hk1 (fun q h1 h2 => hDa.dis h2 h1)
  replace hPc := hP9.l
  replace hPo := hP9.r
  refine lv_istore (lv' := [(5, .int k), (0, .ref b), (1, .ref (ad 0)), (2, .ref (bd 0)), (3, .ref o), (4, .int (nI (4 * j)))]) hx hb dL_law_195 hl (by decide) rfl (fun ls hl => ?_)
  refine lv_aload_n hx hb dL_law_197 rfl (lv_at hl 3 rfl) ?_
  refine lv_aload_n hx hb dL_law_198 rfl (lv_at hl 1 rfl) ?_
  refine lv_iload hx hb dL_law_199 (lv_at hl 5 rfl) ?_
  refine lv_iconst (v := nI 1) hx hb dL_law_201 (by decide) ?_
  refine lv_iadd hx hb dL_law_202 ?_
  refine tc_int (y := nI (4 * j + 1)) (nI_add _ _) ?_
  refine va_sld hx hb hX hbl hbA hS (vp_in_nI (n := (4 * j + 1)) (by omega) (by omega)) dL_law_203 ?_
  refine tc_int (y := xs (4 * j + 1)) (by rw [nI_clamp (by omega)]) ?_
  refine muI_V (own := RL) (As := [.int (xs (4 * j + 1))]) (rest := []) (C := RX1) (ci := 1) (q0 := 0) (A1 := AW (wM bd cI cZ cJ th n kd fi se sd tr on sy lt ru lg rs)) (A0 := AF s) ⟨hx, hb, hml, hown, hts⟩ (hMd th rs) gL_law_X1_atom rfl ⟨rfl, rfl⟩ 1 rfl (by decide +kernel) ⟨Nat.le_of_ble_eq_true rfl, Nat.le_of_ble_eq_true rfl⟩ hPm hK hDm.aw (fun q h => hDm.awA h) rfl rfl rfl hS hl.1 rfl (Nat.le_of_ble_eq_true rfl) dL_law_204 ⟨(by omega : C + 1 + 0 ≤ 1055), (by omega : Sl + 6 + 0 ≤ 13762)⟩ (fun u H locs hPm hz1 hk1 hS => ?_)
  replace hPc := hPc.off hk1 (fun q h1 h2 => hDa.dis (AW.same (w := (wC ad cI cZ cJ n' kd' sd' ts' fs' tr' on' rp' lt' ru' lg' lp') ++ [(o, .inl (cJ, 1, .inr (.inl g)))]) (w' := (wC ad cI cZ cJ n kd sd ts fs tr on rp lt ru lg lp) ++ [(o, .inl (cJ, 1, .inr (.inl g)))]) rfl (AW.inl h1)) h2)
  replace hPo := hPo.off hk1 (fun q h1 h2 => hDa.dis (AW.same (w := (wC ad cI cZ cJ n kd sd ts fs tr on rp lt ru lg lp) ++ [(o, .inl (cJ, 1, .inr (.inl g')))]) (w' := (wC ad cI cZ cJ n kd sd ts fs tr on rp lt ru lg lp) ++ [(o, .inl (cJ, 1, .inr (.inl g)))]) rfl (AW.inr h1)) h2)
  refine lv_istore (lv' := [(6, .int r), (5, .int k), (0, .ref b), (1, .ref (ad 0)), (2, .ref (bd 0)), (3, .ref o), (4, .int (nI (4 * j)))]) hx hb dL_law_207 hl (by decide) rfl (fun ls hl => ?_)
  refine lv_aload_n hx hb dL_law_209 rfl (lv_at hl 4 rfl) ?_
  refine puI_V (own := RL) (As := []) (rest := []) (C := RX1) (ci := 1) (q0 := 0) ⟨hx, hb, hml, hown, hts⟩ (c_X1_thrown l D bd cI cZ cJ _ _ _ _ _ _ _ _ _ _ _ _ _) gL_law_X1_thrown rfl ⟨rfl, rfl⟩ 0 rfl (by decide +kernel) ⟨Nat.le_of_ble_eq_true rfl, Nat.le_of_ble_eq_true rfl⟩ hPm hK rfl rfl rfl hS hl.1 rfl (Nat.le_of_ble_eq_true rfl) dL_law_210 ⟨(by omega : C + 1 + 0 ≤ 1055), (by omega : Sl + 6 + 0 ≤ 13762)⟩ (fun H locs hk1 hS => ?_)
  replace hPm := keptP hPm hk1
  replace hPc := keptP hPc hk1
  replace hPo := keptP hPo hk1
  refine lv_iload hx hb dL_law_213 (lv_at hl 1 rfl) ?_
  refine cT_eq (tgt := 220) hx hb dL_law_215 (by decide) rfl ?_
  refine lv_iload hx hb dL_law_220 (lv_at hl 1 rfl) ?_
  by_cases hk0 : k = 0
  · refine zF_ne (tgt := 237) hx hb dL_law_222 (by decide) hk0 ?_
    refine lv_aload_n hx hb dL_law_225 rfl (lv_at hl 5 rfl) ?_
    refine lv_iconst (v := nI 0) hx hb dL_law_226 (by decide) ?_
    refine ld_nl hx hb hK hPo 0 2 rfl rfl (j := 0) (by decide) (by decide) dL_law_227 ?_
    refine lv_iload hx hb dL_law_228 (lv_at hl 0 rfl) ?_
    refine lv_i2l (v := r.toInt64) hx hb dL_law_230 rfl ?_
    refine W.lcmp hx hb dL_law_231 ?_
    refine zT_eq (tgt := 237) hx hb dL_law_232 (by decide) (lcEq (by rw [hans hk0, if_neg (by decide)])) ?_
    refine lv_goto (tgt := 1999) hx hb dL_law_237 (by decide) ?_
    exact kk n' kd' fi' se' sd' ts' fs' tr' on' sy' rp' lt' ru' lg' lp' k _ g' _ _ ls hR' hPc hPm hPo hS (lv_sub hl [2, 3, 4, 5, 6] rfl)
  · refine zT_ne (tgt := 237) hx hb dL_law_222 (by decide) hk0 ?_
    refine lv_goto (tgt := 1999) hx hb dL_law_237 (by decide) ?_
    exact kk n' kd' fi' se' sd' ts' fs' tr' on' sy' rp' lt' ru' lg' lp' k _ g' _ _ ls hR' hPc hPm hPo hS (lv_sub hl [2, 3, 4, 5, 6] rfl)
set_option maxHeartbeats 4000000 in
set_option maxRecDepth 100000 in
theorem law_constant {p : Program} {l : Launch} {e : Env} {s : State} {m : MethodId} {below : List Frame} {meth : Method} {c : Code} {D : va_G} {ad bd : Nat → Nat} {cI cZ cJ : ClassId} {o b L : Nat} {xs : Nat → Int32} {Q : State → Prop} (C0 : CX p l s m meth c D ad bd cI cZ cJ o b L xs) {n : Nat} {kd : Nat → Nat} {fi : Nat → Nat} {se : Nat → Nat} {sd : Nat → Bool} {ts : Nat → Int64} {fs : Nat → Int64} {tr : Nat → Nat} {on : Nat → Bool} {sy : Nat → Nat} {rp : Nat → Nat} {lt : Nat} {ru : Nat → Option Nat} {lg : Nat} {lp : Int64} {th : Int32} {rs : Nat → Int32} {g : Nat → Int64} {H : Heap} {locs : List Loc} {ls : Array Slot} {j C Sl : Nat} (hj : 4 * j + 4 ≤ L) (hL : L ≤ 2048) (hC : C + 1 ≤ 1055) (hSl : Sl + 6 ≤ 13762) (hR : REL n kd fi se sd ts fs tr sy rp lt ru lg lp) (hPc : va_P D vwCl (wC ad cI cZ cJ n kd sd ts fs tr on rp lt ru lg lp) H) (hPm : va_P D vwCl (wM bd cI cZ cJ th n kd fi se sd tr on sy lt ru lg rs) H) (hPo : va_P D vwCl [(o, .inl (cJ, 1, .inr (.inl g)))] H) (hS : va_S (AF s) s.heap H locs) (hl : lv_has ls 9 [(0, .ref b), (1, .ref (ad 0)), (2, .ref (bd 0)), (3, .ref o), (4, .int (nI (4 * j)))])
    (kk : KN p l e s m below meth c D ad bd cI cZ cJ o b j (C + 1) (Sl + 6) Q) : W p l e room_1 s m #[Value.ref b] below meth c H locs C Sl Q (F0 m 240 ls []) := by
  obtain ⟨⟨hx, hb, hr, hml, hown, hts0, hX, hbl, hlocks, hgv⟩, htr, hK, hXE, hTB, hDA⟩ := C0
  have hown : s.vm.findClass RL = some m.cls := hown
  have hts : ∀ w ∈ wsL_law, w.before #[Value.ref b] s = true := fun w h => hts0 w (wsL_law_in w h)
  have hbA : ¬ AF s b := Nat.not_le.mpr hbl
  have hO := hR.okc
  have hDm : va_D (AF s) (wM bd cI cZ cJ th n kd fi se sd tr on sy lt ru lg rs) := sameD2 hDA.r rfl
  have hDc : va_D (AF s) ((wC ad cI cZ cJ n kd sd ts fs tr on rp lt ru lg lp) ++ [(o, .inl (cJ, 1, .inr (.inl g)))]) := sameD2 hDA.l rfl
  have hDa : va_D (AF s) (((wC ad cI cZ cJ n kd sd ts fs tr on rp lt ru lg lp) ++ [(o, .inl (cJ, 1, .inr (.inl g)))]) ++ (wM bd cI cZ cJ th n kd fi se sd tr on sy lt ru lg rs)) := sameD2 hDA rfl
  obtain ⟨k, r, n', kd', fi', se', sd', ts', fs', tr', on', sy', rp', lt', ru', lg', lp', hR', hWr, hMd⟩ := op_constant l D ad bd cI cZ cJ o htr hR (xs (4 * j + 1)) (on := on)
  obtain ⟨g', hLW, hans⟩ := hWr g
  refine lv_aload_n hx hb dL_law_240 rfl (lv_at hl 1 rfl) ?_
  refine lv_aload_n hx hb dL_law_241 rfl (lv_at hl 0 rfl) ?_
  refine lv_iload hx hb dL_law_242 (lv_at hl 4 rfl) ?_
  refine lv_iconst (v := nI 1) hx hb dL_law_244 (by decide) ?_
  refine lv_iadd hx hb dL_law_245 ?_
  refine tc_int (y := nI (4 * j + 1)) (nI_add _ _) ?_
  refine va_sld hx hb hX hbl hbA hS (vp_in_nI (n := (4 * j + 1)) (by omega) (by omega)) dL_law_246 ?_
  refine tc_int (y := xs (4 * j + 1)) (by rw [nI_clamp (by omega)]) ?_
  refine lv_aload_n hx hb dL_law_247 rfl (lv_at hl 3 rfl) ?_
  refine lw_S (own := RL) (As := [.ref (ad 0), .int (xs (4 * j + 1)), .ref o]) (rest := []) (A1 := AW ((wC ad cI cZ cJ n kd sd ts fs tr on rp lt ru lg lp) ++ [(o, .inl (cJ, 1, .inr (.inl g)))])) (A0 := AF s) ⟨hx, hb, hml, hown, hts⟩ hLW gL_law_L_constant rfl ⟨rfl, rfl⟩ 3 rfl (by decide +kernel) ⟨Nat.le_of_ble_eq_true rfl, Nat.le_of_ble_eq_true rfl⟩ (hPc.app hPo) hK hDc.aw (hXE.kept (fun q h1 _ => hS.2.1 q h1 (Nat.not_le.mpr h1))) ((hTB.kept hS.2.1).narrow (fun q h => hDc.awA h)) (fun q h => hDc.awA h) (fun q h => Nat.le_trans hS.1 h) hS hl.1 rfl (Nat.le_of_ble_eq_true rfl) dL_law_248 ⟨(by omega : C + 1 ≤ 1055), (by omega : Sl + 6 ≤ 13762)⟩ (fun H locs hP9 hz1 hk1 hS => ?_)
  replace hPm := hPm.off hk1 (fun q h1 h2 => hDa.dis h2 h1)
  replace hPc := hP9.l
  replace hPo := hP9.r
  refine lv_istore (lv' := [(5, .int k), (0, .ref b), (1, .ref (ad 0)), (2, .ref (bd 0)), (3, .ref o), (4, .int (nI (4 * j)))]) hx hb dL_law_251 hl (by decide) rfl (fun ls hl => ?_)
  refine lv_aload_n hx hb dL_law_253 rfl (lv_at hl 3 rfl) ?_
  refine lv_aload_n hx hb dL_law_254 rfl (lv_at hl 1 rfl) ?_
  refine lv_iload hx hb dL_law_255 (lv_at hl 5 rfl) ?_
  refine lv_iconst (v := nI 1) hx hb dL_law_257 (by decide) ?_
  refine lv_iadd hx hb dL_law_258 ?_
  refine tc_int (y := nI (4 * j + 1)) (nI_add _ _) ?_
  refine va_sld hx hb hX hbl hbA hS (vp_in_nI (n := (4 * j + 1)) (by omega) (by omega)) dL_law_259 ?_
  refine tc_int (y := xs (4 * j + 1)) (by rw [nI_clamp (by omega)]) ?_
  refine muI_V (own := RL) (As := [.int (xs (4 * j + 1))]) (rest := []) (C := RX1) (ci := 1) (q0 := 0) (A1 := AW (wM bd cI cZ cJ th n kd fi se sd tr on sy lt ru lg rs)) (A0 := AF s) ⟨hx, hb, hml, hown, hts⟩ (hMd th rs) gL_law_X1_constant rfl ⟨rfl, rfl⟩ 1 rfl (by decide +kernel) ⟨Nat.le_of_ble_eq_true rfl, Nat.le_of_ble_eq_true rfl⟩ hPm hK hDm.aw (fun q h => hDm.awA h) rfl rfl rfl hS hl.1 rfl (Nat.le_of_ble_eq_true rfl) dL_law_260 ⟨(by omega : C + 1 + 0 ≤ 1055), (by omega : Sl + 6 + 0 ≤ 13762)⟩ (fun u H locs hPm hz1 hk1 hS => ?_)
  replace hPc := hPc.off hk1 (fun q h1 h2 => hDa.dis (AW.same (w := (wC ad cI cZ cJ n' kd' sd' ts' fs' tr' on' rp' lt' ru' lg' lp') ++ [(o, .inl (cJ, 1, .inr (.inl g)))]) (w' := (wC ad cI cZ cJ n kd sd ts fs tr on rp lt ru lg lp) ++ [(o, .inl (cJ, 1, .inr (.inl g)))]) rfl (AW.inl h1)) h2)
  replace hPo := hPo.off hk1 (fun q h1 h2 => hDa.dis (AW.same (w := (wC ad cI cZ cJ n kd sd ts fs tr on rp lt ru lg lp) ++ [(o, .inl (cJ, 1, .inr (.inl g')))]) (w' := (wC ad cI cZ cJ n kd sd ts fs tr on rp lt ru lg lp) ++ [(o, .inl (cJ, 1, .inr (.inl g)))]) rfl (AW.inr h1)) h2)
  refine lv_istore (lv' := [(6, .int r), (5, .int k), (0, .ref b), (1, .ref (ad 0)), (2, .ref (bd 0)), (3, .ref o), (4, .int (nI (4 * j)))]) hx hb dL_law_263 hl (by decide) rfl (fun ls hl => ?_)
  refine lv_aload_n hx hb dL_law_265 rfl (lv_at hl 4 rfl) ?_
  refine puI_V (own := RL) (As := []) (rest := []) (C := RX1) (ci := 1) (q0 := 0) ⟨hx, hb, hml, hown, hts⟩ (c_X1_thrown l D bd cI cZ cJ _ _ _ _ _ _ _ _ _ _ _ _ _) gL_law_X1_thrown rfl ⟨rfl, rfl⟩ 0 rfl (by decide +kernel) ⟨Nat.le_of_ble_eq_true rfl, Nat.le_of_ble_eq_true rfl⟩ hPm hK rfl rfl rfl hS hl.1 rfl (Nat.le_of_ble_eq_true rfl) dL_law_266 ⟨(by omega : C + 1 + 0 ≤ 1055), (by omega : Sl + 6 + 0 ≤ 13762)⟩ (fun H locs hk1 hS => ?_)
  replace hPm := keptP hPm hk1
  replace hPc := keptP hPc hk1
  replace hPo := keptP hPo hk1
  refine lv_iload hx hb dL_law_269 (lv_at hl 1 rfl) ?_
  refine cT_eq (tgt := 276) hx hb dL_law_271 (by decide) rfl ?_
  refine lv_iload hx hb dL_law_276 (lv_at hl 1 rfl) ?_
  by_cases hk0 : k = 0
  · refine zF_ne (tgt := 293) hx hb dL_law_278 (by decide) hk0 ?_
    refine lv_aload_n hx hb dL_law_281 rfl (lv_at hl 5 rfl) ?_
    refine lv_iconst (v := nI 0) hx hb dL_law_282 (by decide) ?_
    refine ld_nl hx hb hK hPo 0 2 rfl rfl (j := 0) (by decide) (by decide) dL_law_283 ?_
    refine lv_iload hx hb dL_law_284 (lv_at hl 0 rfl) ?_
    refine lv_i2l (v := r.toInt64) hx hb dL_law_286 rfl ?_
    refine W.lcmp hx hb dL_law_287 ?_
    refine zT_eq (tgt := 293) hx hb dL_law_288 (by decide) (lcEq (by rw [hans hk0, if_neg (by decide)])) ?_
    refine lv_goto (tgt := 1999) hx hb dL_law_293 (by decide) ?_
    exact kk n' kd' fi' se' sd' ts' fs' tr' on' sy' rp' lt' ru' lg' lp' k _ g' _ _ ls hR' hPc hPm hPo hS (lv_sub hl [2, 3, 4, 5, 6] rfl)
  · refine zT_ne (tgt := 293) hx hb dL_law_278 (by decide) hk0 ?_
    refine lv_goto (tgt := 1999) hx hb dL_law_293 (by decide) ?_
    exact kk n' kd' fi' se' sd' ts' fs' tr' on' sy' rp' lt' ru' lg' lp' k _ g' _ _ ls hR' hPc hPm hPo hS (lv_sub hl [2, 3, 4, 5, 6] rfl)
set_option maxHeartbeats 4000000 in
set_option maxRecDepth 100000 in
theorem law_turn {p : Program} {l : Launch} {e : Env} {s : State} {m : MethodId} {below : List Frame} {meth : Method} {c : Code} {D : va_G} {ad bd : Nat → Nat} {cI cZ cJ : ClassId} {o b L : Nat} {xs : Nat → Int32} {Q : State → Prop} (C0 : CX p l s m meth c D ad bd cI cZ cJ o b L xs) {n : Nat} {kd : Nat → Nat} {fi : Nat → Nat} {se : Nat → Nat} {sd : Nat → Bool} {ts : Nat → Int64} {fs : Nat → Int64} {tr : Nat → Nat} {on : Nat → Bool} {sy : Nat → Nat} {rp : Nat → Nat} {lt : Nat} {ru : Nat → Option Nat} {lg : Nat} {lp : Int64} {th : Int32} {rs : Nat → Int32} {g : Nat → Int64} {H : Heap} {locs : List Loc} {ls : Array Slot} {j C Sl : Nat} (hj : 4 * j + 4 ≤ L) (hL : L ≤ 2048) (hC : C + 1 ≤ 1055) (hSl : Sl + 6 ≤ 13762) (hR : REL n kd fi se sd ts fs tr sy rp lt ru lg lp) (hPc : va_P D vwCl (wC ad cI cZ cJ n kd sd ts fs tr on rp lt ru lg lp) H) (hPm : va_P D vwCl (wM bd cI cZ cJ th n kd fi se sd tr on sy lt ru lg rs) H) (hPo : va_P D vwCl [(o, .inl (cJ, 1, .inr (.inl g)))] H) (hS : va_S (AF s) s.heap H locs) (hl : lv_has ls 9 [(0, .ref b), (1, .ref (ad 0)), (2, .ref (bd 0)), (3, .ref o), (4, .int (nI (4 * j)))])
    (kk : KN p l e s m below meth c D ad bd cI cZ cJ o b j (C + 1) (Sl + 6) Q) : W p l e room_1 s m #[Value.ref b] below meth c H locs C Sl Q (F0 m 296 ls []) := by
  obtain ⟨⟨hx, hb, hr, hml, hown, hts0, hX, hbl, hlocks, hgv⟩, htr, hK, hXE, hTB, hDA⟩ := C0
  have hown : s.vm.findClass RL = some m.cls := hown
  have hts : ∀ w ∈ wsL_law, w.before #[Value.ref b] s = true := fun w h => hts0 w (wsL_law_in w h)
  have hbA : ¬ AF s b := Nat.not_le.mpr hbl
  have hO := hR.okc
  have hDm : va_D (AF s) (wM bd cI cZ cJ th n kd fi se sd tr on sy lt ru lg rs) := sameD2 hDA.r rfl
  have hDc : va_D (AF s) ((wC ad cI cZ cJ n kd sd ts fs tr on rp lt ru lg lp) ++ [(o, .inl (cJ, 1, .inr (.inl g)))]) := sameD2 hDA.l rfl
  have hDa : va_D (AF s) (((wC ad cI cZ cJ n kd sd ts fs tr on rp lt ru lg lp) ++ [(o, .inl (cJ, 1, .inr (.inl g)))]) ++ (wM bd cI cZ cJ th n kd fi se sd tr on sy lt ru lg rs)) := sameD2 hDA rfl
  obtain ⟨k, r, n', kd', fi', se', sd', ts', fs', tr', on', sy', rp', lt', ru', lg', lp', hR', hWr, hMd⟩ := op_turn l D ad bd cI cZ cJ o htr hR (xs (4 * j + 1)) (xs (4 * j + 2)) (on := on)
  obtain ⟨g', hLW, hans⟩ := hWr g
  refine lv_aload_n hx hb dL_law_296 rfl (lv_at hl 1 rfl) ?_
  refine lv_aload_n hx hb dL_law_297 rfl (lv_at hl 0 rfl) ?_
  refine lv_iload hx hb dL_law_298 (lv_at hl 4 rfl) ?_
  refine lv_iconst (v := nI 1) hx hb dL_law_300 (by decide) ?_
  refine lv_iadd hx hb dL_law_301 ?_
  refine tc_int (y := nI (4 * j + 1)) (nI_add _ _) ?_
  refine va_sld hx hb hX hbl hbA hS (vp_in_nI (n := (4 * j + 1)) (by omega) (by omega)) dL_law_302 ?_
  refine tc_int (y := xs (4 * j + 1)) (by rw [nI_clamp (by omega)]) ?_
  refine lv_aload_n hx hb dL_law_303 rfl (lv_at hl 0 rfl) ?_
  refine lv_iload hx hb dL_law_304 (lv_at hl 4 rfl) ?_
  refine lv_iconst (v := nI 2) hx hb dL_law_306 (by decide) ?_
  refine lv_iadd hx hb dL_law_307 ?_
  refine tc_int (y := nI (4 * j + 2)) (nI_add _ _) ?_
  refine va_sld hx hb hX hbl hbA hS (vp_in_nI (n := (4 * j + 2)) (by omega) (by omega)) dL_law_308 ?_
  refine tc_int (y := xs (4 * j + 2)) (by rw [nI_clamp (by omega)]) ?_
  refine lv_aload_n hx hb dL_law_309 rfl (lv_at hl 3 rfl) ?_
  refine lw_S (own := RL) (As := [.ref (ad 0), .int (xs (4 * j + 1)), .int (xs (4 * j + 2)), .ref o]) (rest := []) (A1 := AW ((wC ad cI cZ cJ n kd sd ts fs tr on rp lt ru lg lp) ++ [(o, .inl (cJ, 1, .inr (.inl g)))])) (A0 := AF s) ⟨hx, hb, hml, hown, hts⟩ hLW gL_law_L_turn rfl ⟨rfl, rfl⟩ 4 rfl (by decide +kernel) ⟨Nat.le_of_ble_eq_true rfl, Nat.le_of_ble_eq_true rfl⟩ (hPc.app hPo) hK hDc.aw (hXE.kept (fun q h1 _ => hS.2.1 q h1 (Nat.not_le.mpr h1))) ((hTB.kept hS.2.1).narrow (fun q h => hDc.awA h)) (fun q h => hDc.awA h) (fun q h => Nat.le_trans hS.1 h) hS hl.1 rfl (Nat.le_of_ble_eq_true rfl) dL_law_310 ⟨(by omega : C + 1 ≤ 1055), (by omega : Sl + 6 ≤ 13762)⟩ (fun H locs hP9 hz1 hk1 hS => ?_)
  replace hPm := hPm.off hk1 (fun q h1 h2 => hDa.dis h2 h1)
  replace hPc := hP9.l
  replace hPo := hP9.r
  refine lv_istore (lv' := [(5, .int k), (0, .ref b), (1, .ref (ad 0)), (2, .ref (bd 0)), (3, .ref o), (4, .int (nI (4 * j)))]) hx hb dL_law_313 hl (by decide) rfl (fun ls hl => ?_)
  refine lv_aload_n hx hb dL_law_315 rfl (lv_at hl 3 rfl) ?_
  refine lv_aload_n hx hb dL_law_316 rfl (lv_at hl 1 rfl) ?_
  refine lv_iload hx hb dL_law_317 (lv_at hl 5 rfl) ?_
  refine lv_iconst (v := nI 1) hx hb dL_law_319 (by decide) ?_
  refine lv_iadd hx hb dL_law_320 ?_
  refine tc_int (y := nI (4 * j + 1)) (nI_add _ _) ?_
  refine va_sld hx hb hX hbl hbA hS (vp_in_nI (n := (4 * j + 1)) (by omega) (by omega)) dL_law_321 ?_
  refine tc_int (y := xs (4 * j + 1)) (by rw [nI_clamp (by omega)]) ?_
  refine lv_aload_n hx hb dL_law_322 rfl (lv_at hl 1 rfl) ?_
  refine lv_iload hx hb dL_law_323 (lv_at hl 5 rfl) ?_
  refine lv_iconst (v := nI 2) hx hb dL_law_325 (by decide) ?_
  refine lv_iadd hx hb dL_law_326 ?_
  refine tc_int (y := nI (4 * j + 2)) (nI_add _ _) ?_
  refine va_sld hx hb hX hbl hbA hS (vp_in_nI (n := (4 * j + 2)) (by omega) (by omega)) dL_law_327 ?_
  refine tc_int (y := xs (4 * j + 2)) (by rw [nI_clamp (by omega)]) ?_
  refine muI_V (own := RL) (As := [.int (xs (4 * j + 1)), .int (xs (4 * j + 2))]) (rest := []) (C := RX1) (ci := 1) (q0 := 0) (A1 := AW (wM bd cI cZ cJ th n kd fi se sd tr on sy lt ru lg rs)) (A0 := AF s) ⟨hx, hb, hml, hown, hts⟩ (hMd th rs) gL_law_X1_turn rfl ⟨rfl, rfl⟩ 2 rfl (by decide +kernel) ⟨Nat.le_of_ble_eq_true rfl, Nat.le_of_ble_eq_true rfl⟩ hPm hK hDm.aw (fun q h => hDm.awA h) rfl rfl rfl hS hl.1 rfl (Nat.le_of_ble_eq_true rfl) dL_law_328 ⟨(by omega : C + 1 + 0 ≤ 1055), (by omega : Sl + 6 + 0 ≤ 13762)⟩ (fun u H locs hPm hz1 hk1 hS => ?_)
  replace hPc := hPc.off hk1 (fun q h1 h2 => hDa.dis (AW.same (w := (wC ad cI cZ cJ n' kd' sd' ts' fs' tr' on' rp' lt' ru' lg' lp') ++ [(o, .inl (cJ, 1, .inr (.inl g)))]) (w' := (wC ad cI cZ cJ n kd sd ts fs tr on rp lt ru lg lp) ++ [(o, .inl (cJ, 1, .inr (.inl g)))]) rfl (AW.inl h1)) h2)
  replace hPo := hPo.off hk1 (fun q h1 h2 => hDa.dis (AW.same (w := (wC ad cI cZ cJ n kd sd ts fs tr on rp lt ru lg lp) ++ [(o, .inl (cJ, 1, .inr (.inl g')))]) (w' := (wC ad cI cZ cJ n kd sd ts fs tr on rp lt ru lg lp) ++ [(o, .inl (cJ, 1, .inr (.inl g)))]) rfl (AW.inr h1)) h2)
  refine lv_istore (lv' := [(6, .int r), (5, .int k), (0, .ref b), (1, .ref (ad 0)), (2, .ref (bd 0)), (3, .ref o), (4, .int (nI (4 * j)))]) hx hb dL_law_331 hl (by decide) rfl (fun ls hl => ?_)
  refine lv_aload_n hx hb dL_law_333 rfl (lv_at hl 4 rfl) ?_
  refine puI_V (own := RL) (As := []) (rest := []) (C := RX1) (ci := 1) (q0 := 0) ⟨hx, hb, hml, hown, hts⟩ (c_X1_thrown l D bd cI cZ cJ _ _ _ _ _ _ _ _ _ _ _ _ _) gL_law_X1_thrown rfl ⟨rfl, rfl⟩ 0 rfl (by decide +kernel) ⟨Nat.le_of_ble_eq_true rfl, Nat.le_of_ble_eq_true rfl⟩ hPm hK rfl rfl rfl hS hl.1 rfl (Nat.le_of_ble_eq_true rfl) dL_law_334 ⟨(by omega : C + 1 + 0 ≤ 1055), (by omega : Sl + 6 + 0 ≤ 13762)⟩ (fun H locs hk1 hS => ?_)
  replace hPm := keptP hPm hk1
  replace hPc := keptP hPc hk1
  replace hPo := keptP hPo hk1
  refine lv_iload hx hb dL_law_337 (lv_at hl 1 rfl) ?_
  refine cT_eq (tgt := 344) hx hb dL_law_339 (by decide) rfl ?_
  refine lv_iload hx hb dL_law_344 (lv_at hl 1 rfl) ?_
  by_cases hk0 : k = 0
  · refine zF_ne (tgt := 361) hx hb dL_law_346 (by decide) hk0 ?_
    refine lv_aload_n hx hb dL_law_349 rfl (lv_at hl 5 rfl) ?_
    refine lv_iconst (v := nI 0) hx hb dL_law_350 (by decide) ?_
    refine ld_nl hx hb hK hPo 0 2 rfl rfl (j := 0) (by decide) (by decide) dL_law_351 ?_
    refine lv_iload hx hb dL_law_352 (lv_at hl 0 rfl) ?_
    refine lv_i2l (v := r.toInt64) hx hb dL_law_354 rfl ?_
    refine W.lcmp hx hb dL_law_355 ?_
    refine zT_eq (tgt := 361) hx hb dL_law_356 (by decide) (lcEq (by rw [hans hk0, if_neg (by decide)])) ?_
    refine lv_goto (tgt := 1999) hx hb dL_law_361 (by decide) ?_
    exact kk n' kd' fi' se' sd' ts' fs' tr' on' sy' rp' lt' ru' lg' lp' k _ g' _ _ ls hR' hPc hPm hPo hS (lv_sub hl [2, 3, 4, 5, 6] rfl)
  · refine zT_ne (tgt := 361) hx hb dL_law_346 (by decide) hk0 ?_
    refine lv_goto (tgt := 1999) hx hb dL_law_361 (by decide) ?_
    exact kk n' kd' fi' se' sd' ts' fs' tr' on' sy' rp' lt' ru' lg' lp' k _ g' _ _ ls hR' hPc hPm hPo hS (lv_sub hl [2, 3, 4, 5, 6] rfl)
set_option maxHeartbeats 4000000 in
set_option maxRecDepth 100000 in
theorem law_join {p : Program} {l : Launch} {e : Env} {s : State} {m : MethodId} {below : List Frame} {meth : Method} {c : Code} {D : va_G} {ad bd : Nat → Nat} {cI cZ cJ : ClassId} {o b L : Nat} {xs : Nat → Int32} {Q : State → Prop} (C0 : CX p l s m meth c D ad bd cI cZ cJ o b L xs) {n : Nat} {kd : Nat → Nat} {fi : Nat → Nat} {se : Nat → Nat} {sd : Nat → Bool} {ts : Nat → Int64} {fs : Nat → Int64} {tr : Nat → Nat} {on : Nat → Bool} {sy : Nat → Nat} {rp : Nat → Nat} {lt : Nat} {ru : Nat → Option Nat} {lg : Nat} {lp : Int64} {th : Int32} {rs : Nat → Int32} {g : Nat → Int64} {H : Heap} {locs : List Loc} {ls : Array Slot} {j C Sl : Nat} (hj : 4 * j + 4 ≤ L) (hL : L ≤ 2048) (hC : C + 1 ≤ 1055) (hSl : Sl + 6 ≤ 13762) (hR : REL n kd fi se sd ts fs tr sy rp lt ru lg lp) (hPc : va_P D vwCl (wC ad cI cZ cJ n kd sd ts fs tr on rp lt ru lg lp) H) (hPm : va_P D vwCl (wM bd cI cZ cJ th n kd fi se sd tr on sy lt ru lg rs) H) (hPo : va_P D vwCl [(o, .inl (cJ, 1, .inr (.inl g)))] H) (hS : va_S (AF s) s.heap H locs) (hl : lv_has ls 9 [(0, .ref b), (1, .ref (ad 0)), (2, .ref (bd 0)), (3, .ref o), (4, .int (nI (4 * j)))])
    (kk : KN p l e s m below meth c D ad bd cI cZ cJ o b j (C + 1) (Sl + 6) Q) : W p l e room_1 s m #[Value.ref b] below meth c H locs C Sl Q (F0 m 364 ls []) := by
  obtain ⟨⟨hx, hb, hr, hml, hown, hts0, hX, hbl, hlocks, hgv⟩, htr, hK, hXE, hTB, hDA⟩ := C0
  have hown : s.vm.findClass RL = some m.cls := hown
  have hts : ∀ w ∈ wsL_law, w.before #[Value.ref b] s = true := fun w h => hts0 w (wsL_law_in w h)
  have hbA : ¬ AF s b := Nat.not_le.mpr hbl
  have hO := hR.okc
  have hDm : va_D (AF s) (wM bd cI cZ cJ th n kd fi se sd tr on sy lt ru lg rs) := sameD2 hDA.r rfl
  have hDc : va_D (AF s) ((wC ad cI cZ cJ n kd sd ts fs tr on rp lt ru lg lp) ++ [(o, .inl (cJ, 1, .inr (.inl g)))]) := sameD2 hDA.l rfl
  have hDa : va_D (AF s) (((wC ad cI cZ cJ n kd sd ts fs tr on rp lt ru lg lp) ++ [(o, .inl (cJ, 1, .inr (.inl g)))]) ++ (wM bd cI cZ cJ th n kd fi se sd tr on sy lt ru lg rs)) := sameD2 hDA rfl
  obtain ⟨k, r, n', kd', fi', se', sd', ts', fs', tr', on', sy', rp', lt', ru', lg', lp', hR', hWr, hMd⟩ := op_join l D ad bd cI cZ cJ o htr hR (xs (4 * j + 1)) (xs (4 * j + 2)) (xs (4 * j + 3)) (on := on)
  obtain ⟨g', hLW, hans⟩ := hWr g
  refine lv_aload_n hx hb dL_law_364 rfl (lv_at hl 1 rfl) ?_
  refine lv_aload_n hx hb dL_law_365 rfl (lv_at hl 0 rfl) ?_
  refine lv_iload hx hb dL_law_366 (lv_at hl 4 rfl) ?_
  refine lv_iconst (v := nI 1) hx hb dL_law_368 (by decide) ?_
  refine lv_iadd hx hb dL_law_369 ?_
  refine tc_int (y := nI (4 * j + 1)) (nI_add _ _) ?_
  refine va_sld hx hb hX hbl hbA hS (vp_in_nI (n := (4 * j + 1)) (by omega) (by omega)) dL_law_370 ?_
  refine tc_int (y := xs (4 * j + 1)) (by rw [nI_clamp (by omega)]) ?_
  refine lv_aload_n hx hb dL_law_371 rfl (lv_at hl 0 rfl) ?_
  refine lv_iload hx hb dL_law_372 (lv_at hl 4 rfl) ?_
  refine lv_iconst (v := nI 2) hx hb dL_law_374 (by decide) ?_
  refine lv_iadd hx hb dL_law_375 ?_
  refine tc_int (y := nI (4 * j + 2)) (nI_add _ _) ?_
  refine va_sld hx hb hX hbl hbA hS (vp_in_nI (n := (4 * j + 2)) (by omega) (by omega)) dL_law_376 ?_
  refine tc_int (y := xs (4 * j + 2)) (by rw [nI_clamp (by omega)]) ?_
  refine lv_aload_n hx hb dL_law_377 rfl (lv_at hl 0 rfl) ?_
  refine lv_iload hx hb dL_law_378 (lv_at hl 4 rfl) ?_
  refine lv_iconst (v := nI 3) hx hb dL_law_380 (by decide) ?_
  refine lv_iadd hx hb dL_law_381 ?_
  refine tc_int (y := nI (4 * j + 3)) (nI_add _ _) ?_
  refine va_sld hx hb hX hbl hbA hS (vp_in_nI (n := (4 * j + 3)) (by omega) (by omega)) dL_law_382 ?_
  refine tc_int (y := xs (4 * j + 3)) (by rw [nI_clamp (by omega)]) ?_
  refine lv_aload_n hx hb dL_law_383 rfl (lv_at hl 3 rfl) ?_
  refine lw_S (own := RL) (As := [.ref (ad 0), .int (xs (4 * j + 1)), .int (xs (4 * j + 2)), .int (xs (4 * j + 3)), .ref o]) (rest := []) (A1 := AW ((wC ad cI cZ cJ n kd sd ts fs tr on rp lt ru lg lp) ++ [(o, .inl (cJ, 1, .inr (.inl g)))])) (A0 := AF s) ⟨hx, hb, hml, hown, hts⟩ hLW gL_law_L_join rfl ⟨rfl, rfl⟩ 5 rfl (by decide +kernel) ⟨Nat.le_of_ble_eq_true rfl, Nat.le_of_ble_eq_true rfl⟩ (hPc.app hPo) hK hDc.aw (hXE.kept (fun q h1 _ => hS.2.1 q h1 (Nat.not_le.mpr h1))) ((hTB.kept hS.2.1).narrow (fun q h => hDc.awA h)) (fun q h => hDc.awA h) (fun q h => Nat.le_trans hS.1 h) hS hl.1 rfl (Nat.le_of_ble_eq_true rfl) dL_law_384 ⟨(by omega : C + 1 ≤ 1055), (by omega : Sl + 6 ≤ 13762)⟩ (fun H locs hP9 hz1 hk1 hS => ?_)
  replace hPm := hPm.off hk1 (fun q h1 h2 => hDa.dis h2 h1)
  replace hPc := hP9.l
  replace hPo := hP9.r
  refine lv_istore (lv' := [(5, .int k), (0, .ref b), (1, .ref (ad 0)), (2, .ref (bd 0)), (3, .ref o), (4, .int (nI (4 * j)))]) hx hb dL_law_387 hl (by decide) rfl (fun ls hl => ?_)
  refine lv_aload_n hx hb dL_law_389 rfl (lv_at hl 3 rfl) ?_
  refine lv_aload_n hx hb dL_law_390 rfl (lv_at hl 1 rfl) ?_
  refine lv_iload hx hb dL_law_391 (lv_at hl 5 rfl) ?_
  refine lv_iconst (v := nI 1) hx hb dL_law_393 (by decide) ?_
  refine lv_iadd hx hb dL_law_394 ?_
  refine tc_int (y := nI (4 * j + 1)) (nI_add _ _) ?_
  refine va_sld hx hb hX hbl hbA hS (vp_in_nI (n := (4 * j + 1)) (by omega) (by omega)) dL_law_395 ?_
  refine tc_int (y := xs (4 * j + 1)) (by rw [nI_clamp (by omega)]) ?_
  refine lv_aload_n hx hb dL_law_396 rfl (lv_at hl 1 rfl) ?_
  refine lv_iload hx hb dL_law_397 (lv_at hl 5 rfl) ?_
  refine lv_iconst (v := nI 2) hx hb dL_law_399 (by decide) ?_
  refine lv_iadd hx hb dL_law_400 ?_
  refine tc_int (y := nI (4 * j + 2)) (nI_add _ _) ?_
  refine va_sld hx hb hX hbl hbA hS (vp_in_nI (n := (4 * j + 2)) (by omega) (by omega)) dL_law_401 ?_
  refine tc_int (y := xs (4 * j + 2)) (by rw [nI_clamp (by omega)]) ?_
  refine lv_aload_n hx hb dL_law_402 rfl (lv_at hl 1 rfl) ?_
  refine lv_iload hx hb dL_law_403 (lv_at hl 5 rfl) ?_
  refine lv_iconst (v := nI 3) hx hb dL_law_405 (by decide) ?_
  refine lv_iadd hx hb dL_law_406 ?_
  refine tc_int (y := nI (4 * j + 3)) (nI_add _ _) ?_
  refine va_sld hx hb hX hbl hbA hS (vp_in_nI (n := (4 * j + 3)) (by omega) (by omega)) dL_law_407 ?_
  refine tc_int (y := xs (4 * j + 3)) (by rw [nI_clamp (by omega)]) ?_
  refine muI_V (own := RL) (As := [.int (xs (4 * j + 1)), .int (xs (4 * j + 2)), .int (xs (4 * j + 3))]) (rest := []) (C := RX1) (ci := 1) (q0 := 0) (A1 := AW (wM bd cI cZ cJ th n kd fi se sd tr on sy lt ru lg rs)) (A0 := AF s) ⟨hx, hb, hml, hown, hts⟩ (hMd th rs) gL_law_X1_join rfl ⟨rfl, rfl⟩ 3 rfl (by decide +kernel) ⟨Nat.le_of_ble_eq_true rfl, Nat.le_of_ble_eq_true rfl⟩ hPm hK hDm.aw (fun q h => hDm.awA h) rfl rfl rfl hS hl.1 rfl (Nat.le_of_ble_eq_true rfl) dL_law_408 ⟨(by omega : C + 1 + 0 ≤ 1055), (by omega : Sl + 6 + 0 ≤ 13762)⟩ (fun u H locs hPm hz1 hk1 hS => ?_)
  replace hPc := hPc.off hk1 (fun q h1 h2 => hDa.dis (AW.same (w := (wC ad cI cZ cJ n' kd' sd' ts' fs' tr' on' rp' lt' ru' lg' lp') ++ [(o, .inl (cJ, 1, .inr (.inl g)))]) (w' := (wC ad cI cZ cJ n kd sd ts fs tr on rp lt ru lg lp) ++ [(o, .inl (cJ, 1, .inr (.inl g)))]) rfl (AW.inl h1)) h2)
  replace hPo := hPo.off hk1 (fun q h1 h2 => hDa.dis (AW.same (w := (wC ad cI cZ cJ n kd sd ts fs tr on rp lt ru lg lp) ++ [(o, .inl (cJ, 1, .inr (.inl g')))]) (w' := (wC ad cI cZ cJ n kd sd ts fs tr on rp lt ru lg lp) ++ [(o, .inl (cJ, 1, .inr (.inl g)))]) rfl (AW.inr h1)) h2)
  refine lv_istore (lv' := [(6, .int r), (5, .int k), (0, .ref b), (1, .ref (ad 0)), (2, .ref (bd 0)), (3, .ref o), (4, .int (nI (4 * j)))]) hx hb dL_law_411 hl (by decide) rfl (fun ls hl => ?_)
  refine lv_aload_n hx hb dL_law_413 rfl (lv_at hl 4 rfl) ?_
  refine puI_V (own := RL) (As := []) (rest := []) (C := RX1) (ci := 1) (q0 := 0) ⟨hx, hb, hml, hown, hts⟩ (c_X1_thrown l D bd cI cZ cJ _ _ _ _ _ _ _ _ _ _ _ _ _) gL_law_X1_thrown rfl ⟨rfl, rfl⟩ 0 rfl (by decide +kernel) ⟨Nat.le_of_ble_eq_true rfl, Nat.le_of_ble_eq_true rfl⟩ hPm hK rfl rfl rfl hS hl.1 rfl (Nat.le_of_ble_eq_true rfl) dL_law_414 ⟨(by omega : C + 1 + 0 ≤ 1055), (by omega : Sl + 6 + 0 ≤ 13762)⟩ (fun H locs hk1 hS => ?_)
  replace hPm := keptP hPm hk1
  replace hPc := keptP hPc hk1
  replace hPo := keptP hPo hk1
  refine lv_iload hx hb dL_law_417 (lv_at hl 1 rfl) ?_
  refine cT_eq (tgt := 424) hx hb dL_law_419 (by decide) rfl ?_
  refine lv_iload hx hb dL_law_424 (lv_at hl 1 rfl) ?_
  by_cases hk0 : k = 0
  · refine zF_ne (tgt := 441) hx hb dL_law_426 (by decide) hk0 ?_
    refine lv_aload_n hx hb dL_law_429 rfl (lv_at hl 5 rfl) ?_
    refine lv_iconst (v := nI 0) hx hb dL_law_430 (by decide) ?_
    refine ld_nl hx hb hK hPo 0 2 rfl rfl (j := 0) (by decide) (by decide) dL_law_431 ?_
    refine lv_iload hx hb dL_law_432 (lv_at hl 0 rfl) ?_
    refine lv_i2l (v := r.toInt64) hx hb dL_law_434 rfl ?_
    refine W.lcmp hx hb dL_law_435 ?_
    refine zT_eq (tgt := 441) hx hb dL_law_436 (by decide) (lcEq (by rw [hans hk0, if_neg (by decide)])) ?_
    refine lv_goto (tgt := 1999) hx hb dL_law_441 (by decide) ?_
    exact kk n' kd' fi' se' sd' ts' fs' tr' on' sy' rp' lt' ru' lg' lp' k _ g' _ _ ls hR' hPc hPm hPo hS (lv_sub hl [2, 3, 4, 5, 6] rfl)
  · refine zT_ne (tgt := 441) hx hb dL_law_426 (by decide) hk0 ?_
    refine lv_goto (tgt := 1999) hx hb dL_law_441 (by decide) ?_
    exact kk n' kd' fi' se' sd' ts' fs' tr' on' sy' rp' lt' ru' lg' lp' k _ g' _ _ ls hR' hPc hPm hPo hS (lv_sub hl [2, 3, 4, 5, 6] rfl)
set_option maxHeartbeats 4000000 in
set_option maxRecDepth 100000 in
theorem law_formulaCount {p : Program} {l : Launch} {e : Env} {s : State} {m : MethodId} {below : List Frame} {meth : Method} {c : Code} {D : va_G} {ad bd : Nat → Nat} {cI cZ cJ : ClassId} {o b L : Nat} {xs : Nat → Int32} {Q : State → Prop} (C0 : CX p l s m meth c D ad bd cI cZ cJ o b L xs) {n : Nat} {kd : Nat → Nat} {fi : Nat → Nat} {se : Nat → Nat} {sd : Nat → Bool} {ts : Nat → Int64} {fs : Nat → Int64} {tr : Nat → Nat} {on : Nat → Bool} {sy : Nat → Nat} {rp : Nat → Nat} {lt : Nat} {ru : Nat → Option Nat} {lg : Nat} {lp : Int64} {th : Int32} {rs : Nat → Int32} {g : Nat → Int64} {H : Heap} {locs : List Loc} {ls : Array Slot} {j C Sl : Nat} (hj : 4 * j + 4 ≤ L) (hL : L ≤ 2048) (hC : C + 1 ≤ 1055) (hSl : Sl + 6 ≤ 13762) (hR : REL n kd fi se sd ts fs tr sy rp lt ru lg lp) (hPc : va_P D vwCl (wC ad cI cZ cJ n kd sd ts fs tr on rp lt ru lg lp) H) (hPm : va_P D vwCl (wM bd cI cZ cJ th n kd fi se sd tr on sy lt ru lg rs) H) (hPo : va_P D vwCl [(o, .inl (cJ, 1, .inr (.inl g)))] H) (hS : va_S (AF s) s.heap H locs) (hl : lv_has ls 9 [(0, .ref b), (1, .ref (ad 0)), (2, .ref (bd 0)), (3, .ref o), (4, .int (nI (4 * j)))])
    (kk : KN p l e s m below meth c D ad bd cI cZ cJ o b j (C + 1) (Sl + 6) Q) : W p l e room_1 s m #[Value.ref b] below meth c H locs C Sl Q (F0 m 444 ls []) := by
  obtain ⟨⟨hx, hb, hr, hml, hown, hts0, hX, hbl, hlocks, hgv⟩, htr, hK, hXE, hTB, hDA⟩ := C0
  have hown : s.vm.findClass RL = some m.cls := hown
  have hts : ∀ w ∈ wsL_law, w.before #[Value.ref b] s = true := fun w h => hts0 w (wsL_law_in w h)
  have hbA : ¬ AF s b := Nat.not_le.mpr hbl
  have hO := hR.okc
  have hDm : va_D (AF s) (wM bd cI cZ cJ th n kd fi se sd tr on sy lt ru lg rs) := sameD2 hDA.r rfl
  have hDc : va_D (AF s) ((wC ad cI cZ cJ n kd sd ts fs tr on rp lt ru lg lp) ++ [(o, .inl (cJ, 1, .inr (.inl g)))]) := sameD2 hDA.l rfl
  have hDa : va_D (AF s) (((wC ad cI cZ cJ n kd sd ts fs tr on rp lt ru lg lp) ++ [(o, .inl (cJ, 1, .inr (.inl g)))]) ++ (wM bd cI cZ cJ th n kd fi se sd tr on sy lt ru lg rs)) := sameD2 hDA rfl
  have hF : (nI n) = (nI n) := rfl
  obtain ⟨F, hF0⟩ : ∃ F, (nI n) = F := ⟨_, rfl⟩
  replace hF := hF.trans hF0
  refine lv_aload_n hx hb dL_law_444 rfl (lv_at hl 1 rfl) ?_
  refine puI_V (own := RL) (As := []) (rest := []) (C := RX0) (ci := 0) (q0 := 0) ⟨hx, hb, hml, hown, hts⟩ (c_X0_formulaCount l D ad cI cZ cJ n kd sd ts fs tr on rp lt ru lg lp) gL_law_X0_formulaCount rfl ⟨rfl, rfl⟩ 0 rfl (by decide +kernel) ⟨Nat.le_of_ble_eq_true rfl, Nat.le_of_ble_eq_true rfl⟩ hPc hK rfl rfl rfl hS hl.1 rfl (Nat.le_of_ble_eq_true rfl) dL_law_445 ⟨(by omega : C + 0 ≤ 1055), (by omega : Sl + 0 ≤ 13762)⟩ (fun H locs hk1 hS => ?_)
  replace hPm := keptP hPm hk1
  replace hPc := keptP hPc hk1
  replace hPo := keptP hPo hk1
  refine tc_int (y := F) hF ?_
  refine lv_aload_n hx hb dL_law_448 rfl (lv_at hl 2 rfl) ?_
  refine muI_V (own := RL) (As := []) (rest := [.int F]) (C := RX1) (ci := 1) (q0 := 0) (A1 := AW (wM bd cI cZ cJ th n kd fi se sd tr on sy lt ru lg rs)) (A0 := AF s) ⟨hx, hb, hml, hown, hts⟩ (c_X1_formulaCount l D bd cI cZ cJ th n kd fi se sd tr on sy lt ru lg rs) gL_law_X1_formulaCount rfl ⟨rfl, rfl⟩ 0 rfl (by decide +kernel) ⟨Nat.le_of_ble_eq_true rfl, Nat.le_of_ble_eq_true rfl⟩ hPm hK hDm.aw (fun q h => hDm.awA h) rfl rfl rfl hS hl.1 rfl (Nat.le_of_ble_eq_true rfl) dL_law_449 ⟨(by omega : C + 0 ≤ 1055), (by omega : Sl + 0 ≤ 13762)⟩ (fun u H locs hPm hz1 hk1 hS => ?_)
  replace hPc := hPc.off hk1 (fun q h1 h2 => hDa.dis (AW.same (w := (wC ad cI cZ cJ n kd sd ts fs tr on rp lt ru lg lp) ++ [(o, .inl (cJ, 1, .inr (.inl g)))]) (w' := (wC ad cI cZ cJ n kd sd ts fs tr on rp lt ru lg lp) ++ [(o, .inl (cJ, 1, .inr (.inl g)))]) rfl (AW.inl h1)) h2)
  replace hPo := hPo.off hk1 (fun q h1 h2 => hDa.dis (AW.same (w := (wC ad cI cZ cJ n kd sd ts fs tr on rp lt ru lg lp) ++ [(o, .inl (cJ, 1, .inr (.inl g)))]) (w' := (wC ad cI cZ cJ n kd sd ts fs tr on rp lt ru lg lp) ++ [(o, .inl (cJ, 1, .inr (.inl g)))]) rfl (AW.inr h1)) h2)
  refine tc_int (y := F) hF0 ?_
  refine cT_eq (tgt := 1999) hx hb dL_law_452 (by decide) rfl ?_
  refine W.widen (k := C + 1) (n := Sl + 6) (by omega) (by omega) ?_
  exact kk n kd fi se sd ts fs tr on sy rp lt ru lg lp _ _ g _ _ ls hR hPc hPm hPo hS (lv_sub hl [0, 1, 2, 3, 4] rfl)
set_option maxHeartbeats 4000000 in
set_option maxRecDepth 100000 in
theorem law_isSteady {p : Program} {l : Launch} {e : Env} {s : State} {m : MethodId} {below : List Frame} {meth : Method} {c : Code} {D : va_G} {ad bd : Nat → Nat} {cI cZ cJ : ClassId} {o b L : Nat} {xs : Nat → Int32} {Q : State → Prop} (C0 : CX p l s m meth c D ad bd cI cZ cJ o b L xs) {n : Nat} {kd : Nat → Nat} {fi : Nat → Nat} {se : Nat → Nat} {sd : Nat → Bool} {ts : Nat → Int64} {fs : Nat → Int64} {tr : Nat → Nat} {on : Nat → Bool} {sy : Nat → Nat} {rp : Nat → Nat} {lt : Nat} {ru : Nat → Option Nat} {lg : Nat} {lp : Int64} {th : Int32} {rs : Nat → Int32} {g : Nat → Int64} {H : Heap} {locs : List Loc} {ls : Array Slot} {j C Sl : Nat} (hj : 4 * j + 4 ≤ L) (hL : L ≤ 2048) (hC : C + 1 ≤ 1055) (hSl : Sl + 6 ≤ 13762) (hR : REL n kd fi se sd ts fs tr sy rp lt ru lg lp) (hPc : va_P D vwCl (wC ad cI cZ cJ n kd sd ts fs tr on rp lt ru lg lp) H) (hPm : va_P D vwCl (wM bd cI cZ cJ th n kd fi se sd tr on sy lt ru lg rs) H) (hPo : va_P D vwCl [(o, .inl (cJ, 1, .inr (.inl g)))] H) (hS : va_S (AF s) s.heap H locs) (hl : lv_has ls 9 [(0, .ref b), (1, .ref (ad 0)), (2, .ref (bd 0)), (3, .ref o), (4, .int (nI (4 * j)))])
    (kk : KN p l e s m below meth c D ad bd cI cZ cJ o b j (C + 1) (Sl + 6) Q) : W p l e room_1 s m #[Value.ref b] below meth c H locs C Sl Q (F0 m 457 ls []) := by
  obtain ⟨⟨hx, hb, hr, hml, hown, hts0, hX, hbl, hlocks, hgv⟩, htr, hK, hXE, hTB, hDA⟩ := C0
  have hown : s.vm.findClass RL = some m.cls := hown
  have hts : ∀ w ∈ wsL_law, w.before #[Value.ref b] s = true := fun w h => hts0 w (wsL_law_in w h)
  have hbA : ¬ AF s b := Nat.not_le.mpr hbl
  have hO := hR.okc
  have hDm : va_D (AF s) (wM bd cI cZ cJ th n kd fi se sd tr on sy lt ru lg rs) := sameD2 hDA.r rfl
  have hDc : va_D (AF s) ((wC ad cI cZ cJ n kd sd ts fs tr on rp lt ru lg lp) ++ [(o, .inl (cJ, 1, .inr (.inl g)))]) := sameD2 hDA.l rfl
  have hDa : va_D (AF s) (((wC ad cI cZ cJ n kd sd ts fs tr on rp lt ru lg lp) ++ [(o, .inl (cJ, 1, .inr (.inl g)))]) ++ (wM bd cI cZ cJ th n kd fi se sd tr on sy lt ru lg rs)) := sameD2 hDA rfl
  obtain ⟨k, r, n', kd', fi', se', sd', ts', fs', tr', on', sy', rp', lt', ru', lg', lp', hR', hWr, hMd⟩ := op_isSteady l D ad bd cI cZ cJ o htr hR (xs (4 * j + 1)) (on := on)
  obtain ⟨g', hLW, hans⟩ := hWr g
  refine lv_aload_n hx hb dL_law_457 rfl (lv_at hl 1 rfl) ?_
  refine lv_aload_n hx hb dL_law_458 rfl (lv_at hl 0 rfl) ?_
  refine lv_iload hx hb dL_law_459 (lv_at hl 4 rfl) ?_
  refine lv_iconst (v := nI 1) hx hb dL_law_461 (by decide) ?_
  refine lv_iadd hx hb dL_law_462 ?_
  refine tc_int (y := nI (4 * j + 1)) (nI_add _ _) ?_
  refine va_sld hx hb hX hbl hbA hS (vp_in_nI (n := (4 * j + 1)) (by omega) (by omega)) dL_law_463 ?_
  refine tc_int (y := xs (4 * j + 1)) (by rw [nI_clamp (by omega)]) ?_
  refine lv_aload_n hx hb dL_law_464 rfl (lv_at hl 3 rfl) ?_
  refine lw_S (own := RL) (As := [.ref (ad 0), .int (xs (4 * j + 1)), .ref o]) (rest := []) (A1 := AW ((wC ad cI cZ cJ n kd sd ts fs tr on rp lt ru lg lp) ++ [(o, .inl (cJ, 1, .inr (.inl g)))])) (A0 := AF s) ⟨hx, hb, hml, hown, hts⟩ hLW gL_law_L_isSteady rfl ⟨rfl, rfl⟩ 3 rfl (by decide +kernel) ⟨Nat.le_of_ble_eq_true rfl, Nat.le_of_ble_eq_true rfl⟩ (hPc.app hPo) hK hDc.aw (hXE.kept (fun q h1 _ => hS.2.1 q h1 (Nat.not_le.mpr h1))) ((hTB.kept hS.2.1).narrow (fun q h => hDc.awA h)) (fun q h => hDc.awA h) (fun q h => Nat.le_trans hS.1 h) hS hl.1 rfl (Nat.le_of_ble_eq_true rfl) dL_law_465 ⟨(by omega : C + 1 ≤ 1055), (by omega : Sl + 6 ≤ 13762)⟩ (fun H locs hP9 hz1 hk1 hS => ?_)
  replace hPm := hPm.off hk1 (fun q h1 h2 => hDa.dis h2 h1)
  replace hPc := hP9.l
  replace hPo := hP9.r
  refine lv_istore (lv' := [(5, .int k), (0, .ref b), (1, .ref (ad 0)), (2, .ref (bd 0)), (3, .ref o), (4, .int (nI (4 * j)))]) hx hb dL_law_468 hl (by decide) rfl (fun ls hl => ?_)
  refine lv_aload_n hx hb dL_law_470 rfl (lv_at hl 3 rfl) ?_
  refine lv_aload_n hx hb dL_law_471 rfl (lv_at hl 1 rfl) ?_
  refine lv_iload hx hb dL_law_472 (lv_at hl 5 rfl) ?_
  refine lv_iconst (v := nI 1) hx hb dL_law_474 (by decide) ?_
  refine lv_iadd hx hb dL_law_475 ?_
  refine tc_int (y := nI (4 * j + 1)) (nI_add _ _) ?_
  refine va_sld hx hb hX hbl hbA hS (vp_in_nI (n := (4 * j + 1)) (by omega) (by omega)) dL_law_476 ?_
  refine tc_int (y := xs (4 * j + 1)) (by rw [nI_clamp (by omega)]) ?_
  refine muI_V (own := RL) (As := [.int (xs (4 * j + 1))]) (rest := []) (C := RX1) (ci := 1) (q0 := 0) (A1 := AW (wM bd cI cZ cJ th n kd fi se sd tr on sy lt ru lg rs)) (A0 := AF s) ⟨hx, hb, hml, hown, hts⟩ (hMd th rs) gL_law_X1_isSteady rfl ⟨rfl, rfl⟩ 1 rfl (by decide +kernel) ⟨Nat.le_of_ble_eq_true rfl, Nat.le_of_ble_eq_true rfl⟩ hPm hK hDm.aw (fun q h => hDm.awA h) rfl rfl rfl hS hl.1 rfl (Nat.le_of_ble_eq_true rfl) dL_law_477 ⟨(by omega : C + 1 + 0 ≤ 1055), (by omega : Sl + 6 + 0 ≤ 13762)⟩ (fun u H locs hPm hz1 hk1 hS => ?_)
  replace hPc := hPc.off hk1 (fun q h1 h2 => hDa.dis (AW.same (w := (wC ad cI cZ cJ n' kd' sd' ts' fs' tr' on' rp' lt' ru' lg' lp') ++ [(o, .inl (cJ, 1, .inr (.inl g)))]) (w' := (wC ad cI cZ cJ n kd sd ts fs tr on rp lt ru lg lp) ++ [(o, .inl (cJ, 1, .inr (.inl g)))]) rfl (AW.inl h1)) h2)
  replace hPo := hPo.off hk1 (fun q h1 h2 => hDa.dis (AW.same (w := (wC ad cI cZ cJ n kd sd ts fs tr on rp lt ru lg lp) ++ [(o, .inl (cJ, 1, .inr (.inl g')))]) (w' := (wC ad cI cZ cJ n kd sd ts fs tr on rp lt ru lg lp) ++ [(o, .inl (cJ, 1, .inr (.inl g)))]) rfl (AW.inr h1)) h2)
  refine lv_istore (lv' := [(6, .int r), (5, .int k), (0, .ref b), (1, .ref (ad 0)), (2, .ref (bd 0)), (3, .ref o), (4, .int (nI (4 * j)))]) hx hb dL_law_480 hl (by decide) rfl (fun ls hl => ?_)
  refine lv_aload_n hx hb dL_law_482 rfl (lv_at hl 4 rfl) ?_
  refine puI_V (own := RL) (As := []) (rest := []) (C := RX1) (ci := 1) (q0 := 0) ⟨hx, hb, hml, hown, hts⟩ (c_X1_thrown l D bd cI cZ cJ _ _ _ _ _ _ _ _ _ _ _ _ _) gL_law_X1_thrown rfl ⟨rfl, rfl⟩ 0 rfl (by decide +kernel) ⟨Nat.le_of_ble_eq_true rfl, Nat.le_of_ble_eq_true rfl⟩ hPm hK rfl rfl rfl hS hl.1 rfl (Nat.le_of_ble_eq_true rfl) dL_law_483 ⟨(by omega : C + 1 + 0 ≤ 1055), (by omega : Sl + 6 + 0 ≤ 13762)⟩ (fun H locs hk1 hS => ?_)
  replace hPm := keptP hPm hk1
  replace hPc := keptP hPc hk1
  replace hPo := keptP hPo hk1
  refine lv_iload hx hb dL_law_486 (lv_at hl 1 rfl) ?_
  refine cT_eq (tgt := 493) hx hb dL_law_488 (by decide) rfl ?_
  refine lv_iload hx hb dL_law_493 (lv_at hl 1 rfl) ?_
  by_cases hk0 : k = 0
  · refine zF_ne (tgt := 517) hx hb dL_law_495 (by decide) hk0 ?_
    refine lv_aload_n hx hb dL_law_498 rfl (lv_at hl 5 rfl) ?_
    refine lv_iconst (v := nI 0) hx hb dL_law_499 (by decide) ?_
    refine ld_nl hx hb hK hPo 0 2 rfl rfl (j := 0) (by decide) (by decide) dL_law_500 ?_
    refine lv_iload hx hb dL_law_501 (lv_at hl 0 rfl) ?_
    by_cases hr0 : r = 0
    · refine zT_eq (tgt := 510) hx hb dL_law_503 (by decide) hr0 ?_
      refine lv_lconst (v := 0) hx hb dL_law_510 (by decide) ?_
      refine W.lcmp hx hb dL_law_511 ?_
      refine zT_eq (tgt := 517) hx hb dL_law_512 (by decide) (lcEq (by rw [hans hk0, if_pos rfl, if_pos hr0])) ?_
      refine lv_goto (tgt := 1999) hx hb dL_law_517 (by decide) ?_
      exact kk n' kd' fi' se' sd' ts' fs' tr' on' sy' rp' lt' ru' lg' lp' k _ g' _ _ ls hR' hPc hPm hPo hS (lv_sub hl [2, 3, 4, 5, 6] rfl)
    · refine zF_eq (tgt := 510) hx hb dL_law_503 (by decide) hr0 ?_
      refine lv_lconst (v := 1) hx hb dL_law_506 (by decide) ?_
      refine lv_goto (tgt := 511) hx hb dL_law_507 (by decide) ?_
      refine W.lcmp hx hb dL_law_511 ?_
      refine zT_eq (tgt := 517) hx hb dL_law_512 (by decide) (lcEq (by rw [hans hk0, if_pos rfl, if_neg hr0])) ?_
      refine lv_goto (tgt := 1999) hx hb dL_law_517 (by decide) ?_
      exact kk n' kd' fi' se' sd' ts' fs' tr' on' sy' rp' lt' ru' lg' lp' k _ g' _ _ ls hR' hPc hPm hPo hS (lv_sub hl [2, 3, 4, 5, 6] rfl)
  · refine zT_ne (tgt := 517) hx hb dL_law_495 (by decide) hk0 ?_
    refine lv_goto (tgt := 1999) hx hb dL_law_517 (by decide) ?_
    exact kk n' kd' fi' se' sd' ts' fs' tr' on' sy' rp' lt' ru' lg' lp' k _ g' _ _ ls hR' hPc hPm hPo hS (lv_sub hl [2, 3, 4, 5, 6] rfl)
set_option maxHeartbeats 4000000 in
set_option maxRecDepth 100000 in
theorem law_report {p : Program} {l : Launch} {e : Env} {s : State} {m : MethodId} {below : List Frame} {meth : Method} {c : Code} {D : va_G} {ad bd : Nat → Nat} {cI cZ cJ : ClassId} {o b L : Nat} {xs : Nat → Int32} {Q : State → Prop} (C0 : CX p l s m meth c D ad bd cI cZ cJ o b L xs) {n : Nat} {kd : Nat → Nat} {fi : Nat → Nat} {se : Nat → Nat} {sd : Nat → Bool} {ts : Nat → Int64} {fs : Nat → Int64} {tr : Nat → Nat} {on : Nat → Bool} {sy : Nat → Nat} {rp : Nat → Nat} {lt : Nat} {ru : Nat → Option Nat} {lg : Nat} {lp : Int64} {th : Int32} {rs : Nat → Int32} {g : Nat → Int64} {H : Heap} {locs : List Loc} {ls : Array Slot} {j C Sl : Nat} (hj : 4 * j + 4 ≤ L) (hL : L ≤ 2048) (hC : C + 1 ≤ 1055) (hSl : Sl + 6 ≤ 13762) (hR : REL n kd fi se sd ts fs tr sy rp lt ru lg lp) (hPc : va_P D vwCl (wC ad cI cZ cJ n kd sd ts fs tr on rp lt ru lg lp) H) (hPm : va_P D vwCl (wM bd cI cZ cJ th n kd fi se sd tr on sy lt ru lg rs) H) (hPo : va_P D vwCl [(o, .inl (cJ, 1, .inr (.inl g)))] H) (hS : va_S (AF s) s.heap H locs) (hl : lv_has ls 9 [(0, .ref b), (1, .ref (ad 0)), (2, .ref (bd 0)), (3, .ref o), (4, .int (nI (4 * j)))])
    (kk : KN p l e s m below meth c D ad bd cI cZ cJ o b j (C + 1) (Sl + 6) Q) : W p l e room_1 s m #[Value.ref b] below meth c H locs C Sl Q (F0 m 520 ls []) := by
  obtain ⟨⟨hx, hb, hr, hml, hown, hts0, hX, hbl, hlocks, hgv⟩, htr, hK, hXE, hTB, hDA⟩ := C0
  have hown : s.vm.findClass RL = some m.cls := hown
  have hts : ∀ w ∈ wsL_law, w.before #[Value.ref b] s = true := fun w h => hts0 w (wsL_law_in w h)
  have hbA : ¬ AF s b := Nat.not_le.mpr hbl
  have hO := hR.okc
  have hDm : va_D (AF s) (wM bd cI cZ cJ th n kd fi se sd tr on sy lt ru lg rs) := sameD2 hDA.r rfl
  have hDc : va_D (AF s) ((wC ad cI cZ cJ n kd sd ts fs tr on rp lt ru lg lp) ++ [(o, .inl (cJ, 1, .inr (.inl g)))]) := sameD2 hDA.l rfl
  have hDa : va_D (AF s) (((wC ad cI cZ cJ n kd sd ts fs tr on rp lt ru lg lp) ++ [(o, .inl (cJ, 1, .inr (.inl g)))]) ++ (wM bd cI cZ cJ th n kd fi se sd tr on sy lt ru lg rs)) := sameD2 hDA rfl
  obtain ⟨k, r, n', kd', fi', se', sd', ts', fs', tr', on', sy', rp', lt', ru', lg', lp', hR', hWr, hMd⟩ := op_report l D ad bd cI cZ cJ o htr hR (xs (4 * j + 1)) (xs (4 * j + 2)) (xs (4 * j + 3)) (on := on)
  obtain ⟨g', hLW, hans⟩ := hWr g
  refine lv_aload_n hx hb dL_law_520 rfl (lv_at hl 1 rfl) ?_
  refine lv_aload_n hx hb dL_law_521 rfl (lv_at hl 0 rfl) ?_
  refine lv_iload hx hb dL_law_522 (lv_at hl 4 rfl) ?_
  refine lv_iconst (v := nI 1) hx hb dL_law_524 (by decide) ?_
  refine lv_iadd hx hb dL_law_525 ?_
  refine tc_int (y := nI (4 * j + 1)) (nI_add _ _) ?_
  refine va_sld hx hb hX hbl hbA hS (vp_in_nI (n := (4 * j + 1)) (by omega) (by omega)) dL_law_526 ?_
  refine tc_int (y := xs (4 * j + 1)) (by rw [nI_clamp (by omega)]) ?_
  refine lv_aload_n hx hb dL_law_527 rfl (lv_at hl 0 rfl) ?_
  refine lv_iload hx hb dL_law_528 (lv_at hl 4 rfl) ?_
  refine lv_iconst (v := nI 2) hx hb dL_law_530 (by decide) ?_
  refine lv_iadd hx hb dL_law_531 ?_
  refine tc_int (y := nI (4 * j + 2)) (nI_add _ _) ?_
  refine va_sld hx hb hX hbl hbA hS (vp_in_nI (n := (4 * j + 2)) (by omega) (by omega)) dL_law_532 ?_
  refine tc_int (y := xs (4 * j + 2)) (by rw [nI_clamp (by omega)]) ?_
  refine lv_aload_n hx hb dL_law_533 rfl (lv_at hl 0 rfl) ?_
  refine lv_iload hx hb dL_law_534 (lv_at hl 4 rfl) ?_
  refine lv_iconst (v := nI 3) hx hb dL_law_536 (by decide) ?_
  refine lv_iadd hx hb dL_law_537 ?_
  refine tc_int (y := nI (4 * j + 3)) (nI_add _ _) ?_
  refine va_sld hx hb hX hbl hbA hS (vp_in_nI (n := (4 * j + 3)) (by omega) (by omega)) dL_law_538 ?_
  refine tc_int (y := xs (4 * j + 3)) (by rw [nI_clamp (by omega)]) ?_
  refine lv_aload_n hx hb dL_law_539 rfl (lv_at hl 3 rfl) ?_
  refine lw_S (own := RL) (As := [.ref (ad 0), .int (xs (4 * j + 1)), .int (xs (4 * j + 2)), .int (xs (4 * j + 3)), .ref o]) (rest := []) (A1 := AW ((wC ad cI cZ cJ n kd sd ts fs tr on rp lt ru lg lp) ++ [(o, .inl (cJ, 1, .inr (.inl g)))])) (A0 := AF s) ⟨hx, hb, hml, hown, hts⟩ hLW gL_law_L_report rfl ⟨rfl, rfl⟩ 5 rfl (by decide +kernel) ⟨Nat.le_of_ble_eq_true rfl, Nat.le_of_ble_eq_true rfl⟩ (hPc.app hPo) hK hDc.aw (hXE.kept (fun q h1 _ => hS.2.1 q h1 (Nat.not_le.mpr h1))) ((hTB.kept hS.2.1).narrow (fun q h => hDc.awA h)) (fun q h => hDc.awA h) (fun q h => Nat.le_trans hS.1 h) hS hl.1 rfl (Nat.le_of_ble_eq_true rfl) dL_law_540 ⟨(by omega : C + 1 ≤ 1055), (by omega : Sl + 6 ≤ 13762)⟩ (fun H locs hP9 hz1 hk1 hS => ?_)
  replace hPm := hPm.off hk1 (fun q h1 h2 => hDa.dis h2 h1)
  replace hPc := hP9.l
  replace hPo := hP9.r
  refine lv_istore (lv' := [(5, .int k), (0, .ref b), (1, .ref (ad 0)), (2, .ref (bd 0)), (3, .ref o), (4, .int (nI (4 * j)))]) hx hb dL_law_543 hl (by decide) rfl (fun ls hl => ?_)
  refine lv_aload_n hx hb dL_law_545 rfl (lv_at hl 3 rfl) ?_
  refine lv_aload_n hx hb dL_law_546 rfl (lv_at hl 1 rfl) ?_
  refine lv_iload hx hb dL_law_547 (lv_at hl 5 rfl) ?_
  refine lv_iconst (v := nI 1) hx hb dL_law_549 (by decide) ?_
  refine lv_iadd hx hb dL_law_550 ?_
  refine tc_int (y := nI (4 * j + 1)) (nI_add _ _) ?_
  refine va_sld hx hb hX hbl hbA hS (vp_in_nI (n := (4 * j + 1)) (by omega) (by omega)) dL_law_551 ?_
  refine tc_int (y := xs (4 * j + 1)) (by rw [nI_clamp (by omega)]) ?_
  refine lv_aload_n hx hb dL_law_552 rfl (lv_at hl 1 rfl) ?_
  refine lv_iload hx hb dL_law_553 (lv_at hl 5 rfl) ?_
  refine lv_iconst (v := nI 2) hx hb dL_law_555 (by decide) ?_
  refine lv_iadd hx hb dL_law_556 ?_
  refine tc_int (y := nI (4 * j + 2)) (nI_add _ _) ?_
  refine va_sld hx hb hX hbl hbA hS (vp_in_nI (n := (4 * j + 2)) (by omega) (by omega)) dL_law_557 ?_
  refine tc_int (y := xs (4 * j + 2)) (by rw [nI_clamp (by omega)]) ?_
  refine lv_aload_n hx hb dL_law_558 rfl (lv_at hl 1 rfl) ?_
  refine lv_iload hx hb dL_law_559 (lv_at hl 5 rfl) ?_
  refine lv_iconst (v := nI 3) hx hb dL_law_561 (by decide) ?_
  refine lv_iadd hx hb dL_law_562 ?_
  refine tc_int (y := nI (4 * j + 3)) (nI_add _ _) ?_
  refine va_sld hx hb hX hbl hbA hS (vp_in_nI (n := (4 * j + 3)) (by omega) (by omega)) dL_law_563 ?_
  refine tc_int (y := xs (4 * j + 3)) (by rw [nI_clamp (by omega)]) ?_
  refine muI_V (own := RL) (As := [.int (xs (4 * j + 1)), .int (xs (4 * j + 2)), .int (xs (4 * j + 3))]) (rest := []) (C := RX1) (ci := 1) (q0 := 0) (A1 := AW (wM bd cI cZ cJ th n kd fi se sd tr on sy lt ru lg rs)) (A0 := AF s) ⟨hx, hb, hml, hown, hts⟩ (hMd th rs) gL_law_X1_report rfl ⟨rfl, rfl⟩ 3 rfl (by decide +kernel) ⟨Nat.le_of_ble_eq_true rfl, Nat.le_of_ble_eq_true rfl⟩ hPm hK hDm.aw (fun q h => hDm.awA h) rfl rfl rfl hS hl.1 rfl (Nat.le_of_ble_eq_true rfl) dL_law_564 ⟨(by omega : C + 1 + 0 ≤ 1055), (by omega : Sl + 6 + 0 ≤ 13762)⟩ (fun u H locs hPm hz1 hk1 hS => ?_)
  replace hPc := hPc.off hk1 (fun q h1 h2 => hDa.dis (AW.same (w := (wC ad cI cZ cJ n' kd' sd' ts' fs' tr' on' rp' lt' ru' lg' lp') ++ [(o, .inl (cJ, 1, .inr (.inl g)))]) (w' := (wC ad cI cZ cJ n kd sd ts fs tr on rp lt ru lg lp) ++ [(o, .inl (cJ, 1, .inr (.inl g)))]) rfl (AW.inl h1)) h2)
  replace hPo := hPo.off hk1 (fun q h1 h2 => hDa.dis (AW.same (w := (wC ad cI cZ cJ n kd sd ts fs tr on rp lt ru lg lp) ++ [(o, .inl (cJ, 1, .inr (.inl g')))]) (w' := (wC ad cI cZ cJ n kd sd ts fs tr on rp lt ru lg lp) ++ [(o, .inl (cJ, 1, .inr (.inl g)))]) rfl (AW.inr h1)) h2)
  refine lv_istore (lv' := [(6, .int r), (5, .int k), (0, .ref b), (1, .ref (ad 0)), (2, .ref (bd 0)), (3, .ref o), (4, .int (nI (4 * j)))]) hx hb dL_law_567 hl (by decide) rfl (fun ls hl => ?_)
  refine lv_aload_n hx hb dL_law_569 rfl (lv_at hl 4 rfl) ?_
  refine puI_V (own := RL) (As := []) (rest := []) (C := RX1) (ci := 1) (q0 := 0) ⟨hx, hb, hml, hown, hts⟩ (c_X1_thrown l D bd cI cZ cJ _ _ _ _ _ _ _ _ _ _ _ _ _) gL_law_X1_thrown rfl ⟨rfl, rfl⟩ 0 rfl (by decide +kernel) ⟨Nat.le_of_ble_eq_true rfl, Nat.le_of_ble_eq_true rfl⟩ hPm hK rfl rfl rfl hS hl.1 rfl (Nat.le_of_ble_eq_true rfl) dL_law_570 ⟨(by omega : C + 1 + 0 ≤ 1055), (by omega : Sl + 6 + 0 ≤ 13762)⟩ (fun H locs hk1 hS => ?_)
  replace hPm := keptP hPm hk1
  replace hPc := keptP hPc hk1
  replace hPo := keptP hPo hk1
  refine lv_iload hx hb dL_law_573 (lv_at hl 1 rfl) ?_
  refine cT_eq (tgt := 580) hx hb dL_law_575 (by decide) rfl ?_
  refine lv_iload hx hb dL_law_580 (lv_at hl 1 rfl) ?_
  by_cases hk0 : k = 0
  · refine zF_ne (tgt := 597) hx hb dL_law_582 (by decide) hk0 ?_
    refine lv_aload_n hx hb dL_law_585 rfl (lv_at hl 5 rfl) ?_
    refine lv_iconst (v := nI 0) hx hb dL_law_586 (by decide) ?_
    refine ld_nl hx hb hK hPo 0 2 rfl rfl (j := 0) (by decide) (by decide) dL_law_587 ?_
    refine lv_iload hx hb dL_law_588 (lv_at hl 0 rfl) ?_
    refine lv_i2l (v := r.toInt64) hx hb dL_law_590 rfl ?_
    refine W.lcmp hx hb dL_law_591 ?_
    refine zT_eq (tgt := 597) hx hb dL_law_592 (by decide) (lcEq (by rw [hans hk0, if_neg (by decide)])) ?_
    refine lv_goto (tgt := 1999) hx hb dL_law_597 (by decide) ?_
    exact kk n' kd' fi' se' sd' ts' fs' tr' on' sy' rp' lt' ru' lg' lp' k _ g' _ _ ls hR' hPc hPm hPo hS (lv_sub hl [2, 3, 4, 5, 6] rfl)
  · refine zT_ne (tgt := 597) hx hb dL_law_582 (by decide) hk0 ?_
    refine lv_goto (tgt := 1999) hx hb dL_law_597 (by decide) ?_
    exact kk n' kd' fi' se' sd' ts' fs' tr' on' sy' rp' lt' ru' lg' lp' k _ g' _ _ ls hR' hPc hPm hPo hS (lv_sub hl [2, 3, 4, 5, 6] rfl)
set_option maxHeartbeats 4000000 in
set_option maxRecDepth 100000 in
theorem law_setTrust {p : Program} {l : Launch} {e : Env} {s : State} {m : MethodId} {below : List Frame} {meth : Method} {c : Code} {D : va_G} {ad bd : Nat → Nat} {cI cZ cJ : ClassId} {o b L : Nat} {xs : Nat → Int32} {Q : State → Prop} (C0 : CX p l s m meth c D ad bd cI cZ cJ o b L xs) {n : Nat} {kd : Nat → Nat} {fi : Nat → Nat} {se : Nat → Nat} {sd : Nat → Bool} {ts : Nat → Int64} {fs : Nat → Int64} {tr : Nat → Nat} {on : Nat → Bool} {sy : Nat → Nat} {rp : Nat → Nat} {lt : Nat} {ru : Nat → Option Nat} {lg : Nat} {lp : Int64} {th : Int32} {rs : Nat → Int32} {g : Nat → Int64} {H : Heap} {locs : List Loc} {ls : Array Slot} {j C Sl : Nat} (hj : 4 * j + 4 ≤ L) (hL : L ≤ 2048) (hC : C + 1 ≤ 1055) (hSl : Sl + 6 ≤ 13762) (hR : REL n kd fi se sd ts fs tr sy rp lt ru lg lp) (hPc : va_P D vwCl (wC ad cI cZ cJ n kd sd ts fs tr on rp lt ru lg lp) H) (hPm : va_P D vwCl (wM bd cI cZ cJ th n kd fi se sd tr on sy lt ru lg rs) H) (hPo : va_P D vwCl [(o, .inl (cJ, 1, .inr (.inl g)))] H) (hS : va_S (AF s) s.heap H locs) (hl : lv_has ls 9 [(0, .ref b), (1, .ref (ad 0)), (2, .ref (bd 0)), (3, .ref o), (4, .int (nI (4 * j)))])
    (kk : KN p l e s m below meth c D ad bd cI cZ cJ o b j (C + 1) (Sl + 6) Q) : W p l e room_1 s m #[Value.ref b] below meth c H locs C Sl Q (F0 m 600 ls []) := by
  obtain ⟨⟨hx, hb, hr, hml, hown, hts0, hX, hbl, hlocks, hgv⟩, htr, hK, hXE, hTB, hDA⟩ := C0
  have hown : s.vm.findClass RL = some m.cls := hown
  have hts : ∀ w ∈ wsL_law, w.before #[Value.ref b] s = true := fun w h => hts0 w (wsL_law_in w h)
  have hbA : ¬ AF s b := Nat.not_le.mpr hbl
  have hO := hR.okc
  have hDm : va_D (AF s) (wM bd cI cZ cJ th n kd fi se sd tr on sy lt ru lg rs) := sameD2 hDA.r rfl
  have hDc : va_D (AF s) ((wC ad cI cZ cJ n kd sd ts fs tr on rp lt ru lg lp) ++ [(o, .inl (cJ, 1, .inr (.inl g)))]) := sameD2 hDA.l rfl
  have hDa : va_D (AF s) (((wC ad cI cZ cJ n kd sd ts fs tr on rp lt ru lg lp) ++ [(o, .inl (cJ, 1, .inr (.inl g)))]) ++ (wM bd cI cZ cJ th n kd fi se sd tr on sy lt ru lg rs)) := sameD2 hDA rfl
  obtain ⟨k, r, n', kd', fi', se', sd', ts', fs', tr', on', sy', rp', lt', ru', lg', lp', hR', hWr, hMd⟩ := op_setTrust l D ad bd cI cZ cJ o htr hR (xs (4 * j + 1)) (xs (4 * j + 2)) (on := on)
  obtain ⟨g', hLW, hans⟩ := hWr g
  refine lv_aload_n hx hb dL_law_600 rfl (lv_at hl 1 rfl) ?_
  refine lv_aload_n hx hb dL_law_601 rfl (lv_at hl 0 rfl) ?_
  refine lv_iload hx hb dL_law_602 (lv_at hl 4 rfl) ?_
  refine lv_iconst (v := nI 1) hx hb dL_law_604 (by decide) ?_
  refine lv_iadd hx hb dL_law_605 ?_
  refine tc_int (y := nI (4 * j + 1)) (nI_add _ _) ?_
  refine va_sld hx hb hX hbl hbA hS (vp_in_nI (n := (4 * j + 1)) (by omega) (by omega)) dL_law_606 ?_
  refine tc_int (y := xs (4 * j + 1)) (by rw [nI_clamp (by omega)]) ?_
  refine lv_aload_n hx hb dL_law_607 rfl (lv_at hl 0 rfl) ?_
  refine lv_iload hx hb dL_law_608 (lv_at hl 4 rfl) ?_
  refine lv_iconst (v := nI 2) hx hb dL_law_610 (by decide) ?_
  refine lv_iadd hx hb dL_law_611 ?_
  refine tc_int (y := nI (4 * j + 2)) (nI_add _ _) ?_
  refine va_sld hx hb hX hbl hbA hS (vp_in_nI (n := (4 * j + 2)) (by omega) (by omega)) dL_law_612 ?_
  refine tc_int (y := xs (4 * j + 2)) (by rw [nI_clamp (by omega)]) ?_
  refine lv_aload_n hx hb dL_law_613 rfl (lv_at hl 3 rfl) ?_
  refine lw_S (own := RL) (As := [.ref (ad 0), .int (xs (4 * j + 1)), .int (xs (4 * j + 2)), .ref o]) (rest := []) (A1 := AW ((wC ad cI cZ cJ n kd sd ts fs tr on rp lt ru lg lp) ++ [(o, .inl (cJ, 1, .inr (.inl g)))])) (A0 := AF s) ⟨hx, hb, hml, hown, hts⟩ hLW gL_law_L_setTrust rfl ⟨rfl, rfl⟩ 4 rfl (by decide +kernel) ⟨Nat.le_of_ble_eq_true rfl, Nat.le_of_ble_eq_true rfl⟩ (hPc.app hPo) hK hDc.aw (hXE.kept (fun q h1 _ => hS.2.1 q h1 (Nat.not_le.mpr h1))) ((hTB.kept hS.2.1).narrow (fun q h => hDc.awA h)) (fun q h => hDc.awA h) (fun q h => Nat.le_trans hS.1 h) hS hl.1 rfl (Nat.le_of_ble_eq_true rfl) dL_law_614 ⟨(by omega : C + 1 ≤ 1055), (by omega : Sl + 6 ≤ 13762)⟩ (fun H locs hP9 hz1 hk1 hS => ?_)
  replace hPm := hPm.off hk1 (fun q h1 h2 => hDa.dis h2 h1)
  replace hPc := hP9.l
  replace hPo := hP9.r
  refine lv_istore (lv' := [(5, .int k), (0, .ref b), (1, .ref (ad 0)), (2, .ref (bd 0)), (3, .ref o), (4, .int (nI (4 * j)))]) hx hb dL_law_617 hl (by decide) rfl (fun ls hl => ?_)
  refine lv_aload_n hx hb dL_law_619 rfl (lv_at hl 3 rfl) ?_
  refine lv_aload_n hx hb dL_law_620 rfl (lv_at hl 1 rfl) ?_
  refine lv_iload hx hb dL_law_621 (lv_at hl 5 rfl) ?_
  refine lv_iconst (v := nI 1) hx hb dL_law_623 (by decide) ?_
  refine lv_iadd hx hb dL_law_624 ?_
  refine tc_int (y := nI (4 * j + 1)) (nI_add _ _) ?_
  refine va_sld hx hb hX hbl hbA hS (vp_in_nI (n := (4 * j + 1)) (by omega) (by omega)) dL_law_625 ?_
  refine tc_int (y := xs (4 * j + 1)) (by rw [nI_clamp (by omega)]) ?_
  refine lv_aload_n hx hb dL_law_626 rfl (lv_at hl 1 rfl) ?_
  refine lv_iload hx hb dL_law_627 (lv_at hl 5 rfl) ?_
  refine lv_iconst (v := nI 2) hx hb dL_law_629 (by decide) ?_
  refine lv_iadd hx hb dL_law_630 ?_
  refine tc_int (y := nI (4 * j + 2)) (nI_add _ _) ?_
  refine va_sld hx hb hX hbl hbA hS (vp_in_nI (n := (4 * j + 2)) (by omega) (by omega)) dL_law_631 ?_
  refine tc_int (y := xs (4 * j + 2)) (by rw [nI_clamp (by omega)]) ?_
  refine muI_V (own := RL) (As := [.int (xs (4 * j + 1)), .int (xs (4 * j + 2))]) (rest := []) (C := RX1) (ci := 1) (q0 := 0) (A1 := AW (wM bd cI cZ cJ th n kd fi se sd tr on sy lt ru lg rs)) (A0 := AF s) ⟨hx, hb, hml, hown, hts⟩ (hMd th rs) gL_law_X1_setTrust rfl ⟨rfl, rfl⟩ 2 rfl (by decide +kernel) ⟨Nat.le_of_ble_eq_true rfl, Nat.le_of_ble_eq_true rfl⟩ hPm hK hDm.aw (fun q h => hDm.awA h) rfl rfl rfl hS hl.1 rfl (Nat.le_of_ble_eq_true rfl) dL_law_632 ⟨(by omega : C + 1 + 0 ≤ 1055), (by omega : Sl + 6 + 0 ≤ 13762)⟩ (fun u H locs hPm hz1 hk1 hS => ?_)
  replace hPc := hPc.off hk1 (fun q h1 h2 => hDa.dis (AW.same (w := (wC ad cI cZ cJ n' kd' sd' ts' fs' tr' on' rp' lt' ru' lg' lp') ++ [(o, .inl (cJ, 1, .inr (.inl g)))]) (w' := (wC ad cI cZ cJ n kd sd ts fs tr on rp lt ru lg lp) ++ [(o, .inl (cJ, 1, .inr (.inl g)))]) rfl (AW.inl h1)) h2)
  replace hPo := hPo.off hk1 (fun q h1 h2 => hDa.dis (AW.same (w := (wC ad cI cZ cJ n kd sd ts fs tr on rp lt ru lg lp) ++ [(o, .inl (cJ, 1, .inr (.inl g')))]) (w' := (wC ad cI cZ cJ n kd sd ts fs tr on rp lt ru lg lp) ++ [(o, .inl (cJ, 1, .inr (.inl g)))]) rfl (AW.inr h1)) h2)
  refine lv_istore (lv' := [(6, .int r), (5, .int k), (0, .ref b), (1, .ref (ad 0)), (2, .ref (bd 0)), (3, .ref o), (4, .int (nI (4 * j)))]) hx hb dL_law_635 hl (by decide) rfl (fun ls hl => ?_)
  refine lv_aload_n hx hb dL_law_637 rfl (lv_at hl 4 rfl) ?_
  refine puI_V (own := RL) (As := []) (rest := []) (C := RX1) (ci := 1) (q0 := 0) ⟨hx, hb, hml, hown, hts⟩ (c_X1_thrown l D bd cI cZ cJ _ _ _ _ _ _ _ _ _ _ _ _ _) gL_law_X1_thrown rfl ⟨rfl, rfl⟩ 0 rfl (by decide +kernel) ⟨Nat.le_of_ble_eq_true rfl, Nat.le_of_ble_eq_true rfl⟩ hPm hK rfl rfl rfl hS hl.1 rfl (Nat.le_of_ble_eq_true rfl) dL_law_638 ⟨(by omega : C + 1 + 0 ≤ 1055), (by omega : Sl + 6 + 0 ≤ 13762)⟩ (fun H locs hk1 hS => ?_)
  replace hPm := keptP hPm hk1
  replace hPc := keptP hPc hk1
  replace hPo := keptP hPo hk1
  refine lv_iload hx hb dL_law_641 (lv_at hl 1 rfl) ?_
  refine cT_eq (tgt := 648) hx hb dL_law_643 (by decide) rfl ?_
  refine lv_iload hx hb dL_law_648 (lv_at hl 1 rfl) ?_
  by_cases hk0 : k = 0
  · refine zF_ne (tgt := 665) hx hb dL_law_650 (by decide) hk0 ?_
    refine lv_aload_n hx hb dL_law_653 rfl (lv_at hl 5 rfl) ?_
    refine lv_iconst (v := nI 0) hx hb dL_law_654 (by decide) ?_
    refine ld_nl hx hb hK hPo 0 2 rfl rfl (j := 0) (by decide) (by decide) dL_law_655 ?_
    refine lv_iload hx hb dL_law_656 (lv_at hl 0 rfl) ?_
    refine lv_i2l (v := r.toInt64) hx hb dL_law_658 rfl ?_
    refine W.lcmp hx hb dL_law_659 ?_
    refine zT_eq (tgt := 665) hx hb dL_law_660 (by decide) (lcEq (by rw [hans hk0, if_neg (by decide)])) ?_
    refine lv_goto (tgt := 1999) hx hb dL_law_665 (by decide) ?_
    exact kk n' kd' fi' se' sd' ts' fs' tr' on' sy' rp' lt' ru' lg' lp' k _ g' _ _ ls hR' hPc hPm hPo hS (lv_sub hl [2, 3, 4, 5, 6] rfl)
  · refine zT_ne (tgt := 665) hx hb dL_law_650 (by decide) hk0 ?_
    refine lv_goto (tgt := 1999) hx hb dL_law_665 (by decide) ?_
    exact kk n' kd' fi' se' sd' ts' fs' tr' on' sy' rp' lt' ru' lg' lp' k _ g' _ _ ls hR' hPc hPm hPo hS (lv_sub hl [2, 3, 4, 5, 6] rfl)
set_option maxHeartbeats 4000000 in
set_option maxRecDepth 100000 in
theorem law_setLeastTrust {p : Program} {l : Launch} {e : Env} {s : State} {m : MethodId} {below : List Frame} {meth : Method} {c : Code} {D : va_G} {ad bd : Nat → Nat} {cI cZ cJ : ClassId} {o b L : Nat} {xs : Nat → Int32} {Q : State → Prop} (C0 : CX p l s m meth c D ad bd cI cZ cJ o b L xs) {n : Nat} {kd : Nat → Nat} {fi : Nat → Nat} {se : Nat → Nat} {sd : Nat → Bool} {ts : Nat → Int64} {fs : Nat → Int64} {tr : Nat → Nat} {on : Nat → Bool} {sy : Nat → Nat} {rp : Nat → Nat} {lt : Nat} {ru : Nat → Option Nat} {lg : Nat} {lp : Int64} {th : Int32} {rs : Nat → Int32} {g : Nat → Int64} {H : Heap} {locs : List Loc} {ls : Array Slot} {j C Sl : Nat} (hj : 4 * j + 4 ≤ L) (hL : L ≤ 2048) (hC : C + 1 ≤ 1055) (hSl : Sl + 6 ≤ 13762) (hR : REL n kd fi se sd ts fs tr sy rp lt ru lg lp) (hPc : va_P D vwCl (wC ad cI cZ cJ n kd sd ts fs tr on rp lt ru lg lp) H) (hPm : va_P D vwCl (wM bd cI cZ cJ th n kd fi se sd tr on sy lt ru lg rs) H) (hPo : va_P D vwCl [(o, .inl (cJ, 1, .inr (.inl g)))] H) (hS : va_S (AF s) s.heap H locs) (hl : lv_has ls 9 [(0, .ref b), (1, .ref (ad 0)), (2, .ref (bd 0)), (3, .ref o), (4, .int (nI (4 * j)))])
    (kk : KN p l e s m below meth c D ad bd cI cZ cJ o b j (C + 1) (Sl + 6) Q) : W p l e room_1 s m #[Value.ref b] below meth c H locs C Sl Q (F0 m 668 ls []) := by
  obtain ⟨⟨hx, hb, hr, hml, hown, hts0, hX, hbl, hlocks, hgv⟩, htr, hK, hXE, hTB, hDA⟩ := C0
  have hown : s.vm.findClass RL = some m.cls := hown
  have hts : ∀ w ∈ wsL_law, w.before #[Value.ref b] s = true := fun w h => hts0 w (wsL_law_in w h)
  have hbA : ¬ AF s b := Nat.not_le.mpr hbl
  have hO := hR.okc
  have hDm : va_D (AF s) (wM bd cI cZ cJ th n kd fi se sd tr on sy lt ru lg rs) := sameD2 hDA.r rfl
  have hDc : va_D (AF s) ((wC ad cI cZ cJ n kd sd ts fs tr on rp lt ru lg lp) ++ [(o, .inl (cJ, 1, .inr (.inl g)))]) := sameD2 hDA.l rfl
  have hDa : va_D (AF s) (((wC ad cI cZ cJ n kd sd ts fs tr on rp lt ru lg lp) ++ [(o, .inl (cJ, 1, .inr (.inl g)))]) ++ (wM bd cI cZ cJ th n kd fi se sd tr on sy lt ru lg rs)) := sameD2 hDA rfl
  obtain ⟨k, r, n', kd', fi', se', sd', ts', fs', tr', on', sy', rp', lt', ru', lg', lp', hR', hWr, hMd⟩ := op_setLeastTrust l D ad bd cI cZ cJ o htr hR (xs (4 * j + 1)) (on := on)
  obtain ⟨g', hLW, hans⟩ := hWr g
  refine lv_aload_n hx hb dL_law_668 rfl (lv_at hl 1 rfl) ?_
  refine lv_aload_n hx hb dL_law_669 rfl (lv_at hl 0 rfl) ?_
  refine lv_iload hx hb dL_law_670 (lv_at hl 4 rfl) ?_
  refine lv_iconst (v := nI 1) hx hb dL_law_672 (by decide) ?_
  refine lv_iadd hx hb dL_law_673 ?_
  refine tc_int (y := nI (4 * j + 1)) (nI_add _ _) ?_
  refine va_sld hx hb hX hbl hbA hS (vp_in_nI (n := (4 * j + 1)) (by omega) (by omega)) dL_law_674 ?_
  refine tc_int (y := xs (4 * j + 1)) (by rw [nI_clamp (by omega)]) ?_
  refine lv_aload_n hx hb dL_law_675 rfl (lv_at hl 3 rfl) ?_
  refine lw_S (own := RL) (As := [.ref (ad 0), .int (xs (4 * j + 1)), .ref o]) (rest := []) (A1 := AW ((wC ad cI cZ cJ n kd sd ts fs tr on rp lt ru lg lp) ++ [(o, .inl (cJ, 1, .inr (.inl g)))])) (A0 := AF s) ⟨hx, hb, hml, hown, hts⟩ hLW gL_law_L_setLeastTrust rfl ⟨rfl, rfl⟩ 3 rfl (by decide +kernel) ⟨Nat.le_of_ble_eq_true rfl, Nat.le_of_ble_eq_true rfl⟩ (hPc.app hPo) hK hDc.aw (hXE.kept (fun q h1 _ => hS.2.1 q h1 (Nat.not_le.mpr h1))) ((hTB.kept hS.2.1).narrow (fun q h => hDc.awA h)) (fun q h => hDc.awA h) (fun q h => Nat.le_trans hS.1 h) hS hl.1 rfl (Nat.le_of_ble_eq_true rfl) dL_law_676 ⟨(by omega : C + 1 ≤ 1055), (by omega : Sl + 6 ≤ 13762)⟩ (fun H locs hP9 hz1 hk1 hS => ?_)
  replace hPm := hPm.off hk1 (fun q h1 h2 => hDa.dis h2 h1)
  replace hPc := hP9.l
  replace hPo := hP9.r
  refine lv_istore (lv' := [(5, .int k), (0, .ref b), (1, .ref (ad 0)), (2, .ref (bd 0)), (3, .ref o), (4, .int (nI (4 * j)))]) hx hb dL_law_679 hl (by decide) rfl (fun ls hl => ?_)
  refine lv_aload_n hx hb dL_law_681 rfl (lv_at hl 3 rfl) ?_
  refine lv_aload_n hx hb dL_law_682 rfl (lv_at hl 1 rfl) ?_
  refine lv_iload hx hb dL_law_683 (lv_at hl 5 rfl) ?_
  refine lv_iconst (v := nI 1) hx hb dL_law_685 (by decide) ?_
  refine lv_iadd hx hb dL_law_686 ?_
  refine tc_int (y := nI (4 * j + 1)) (nI_add _ _) ?_
  refine va_sld hx hb hX hbl hbA hS (vp_in_nI (n := (4 * j + 1)) (by omega) (by omega)) dL_law_687 ?_
  refine tc_int (y := xs (4 * j + 1)) (by rw [nI_clamp (by omega)]) ?_
  refine muI_V (own := RL) (As := [.int (xs (4 * j + 1))]) (rest := []) (C := RX1) (ci := 1) (q0 := 0) (A1 := AW (wM bd cI cZ cJ th n kd fi se sd tr on sy lt ru lg rs)) (A0 := AF s) ⟨hx, hb, hml, hown, hts⟩ (hMd th rs) gL_law_X1_setLeastTrust rfl ⟨rfl, rfl⟩ 1 rfl (by decide +kernel) ⟨Nat.le_of_ble_eq_true rfl, Nat.le_of_ble_eq_true rfl⟩ hPm hK hDm.aw (fun q h => hDm.awA h) rfl rfl rfl hS hl.1 rfl (Nat.le_of_ble_eq_true rfl) dL_law_688 ⟨(by omega : C + 1 + 0 ≤ 1055), (by omega : Sl + 6 + 0 ≤ 13762)⟩ (fun u H locs hPm hz1 hk1 hS => ?_)
  replace hPc := hPc.off hk1 (fun q h1 h2 => hDa.dis (AW.same (w := (wC ad cI cZ cJ n' kd' sd' ts' fs' tr' on' rp' lt' ru' lg' lp') ++ [(o, .inl (cJ, 1, .inr (.inl g)))]) (w' := (wC ad cI cZ cJ n kd sd ts fs tr on rp lt ru lg lp) ++ [(o, .inl (cJ, 1, .inr (.inl g)))]) rfl (AW.inl h1)) h2)
  replace hPo := hPo.off hk1 (fun q h1 h2 => hDa.dis (AW.same (w := (wC ad cI cZ cJ n kd sd ts fs tr on rp lt ru lg lp) ++ [(o, .inl (cJ, 1, .inr (.inl g')))]) (w' := (wC ad cI cZ cJ n kd sd ts fs tr on rp lt ru lg lp) ++ [(o, .inl (cJ, 1, .inr (.inl g)))]) rfl (AW.inr h1)) h2)
  refine lv_istore (lv' := [(6, .int r), (5, .int k), (0, .ref b), (1, .ref (ad 0)), (2, .ref (bd 0)), (3, .ref o), (4, .int (nI (4 * j)))]) hx hb dL_law_691 hl (by decide) rfl (fun ls hl => ?_)
  refine lv_aload_n hx hb dL_law_693 rfl (lv_at hl 4 rfl) ?_
  refine puI_V (own := RL) (As := []) (rest := []) (C := RX1) (ci := 1) (q0 := 0) ⟨hx, hb, hml, hown, hts⟩ (c_X1_thrown l D bd cI cZ cJ _ _ _ _ _ _ _ _ _ _ _ _ _) gL_law_X1_thrown rfl ⟨rfl, rfl⟩ 0 rfl (by decide +kernel) ⟨Nat.le_of_ble_eq_true rfl, Nat.le_of_ble_eq_true rfl⟩ hPm hK rfl rfl rfl hS hl.1 rfl (Nat.le_of_ble_eq_true rfl) dL_law_694 ⟨(by omega : C + 1 + 0 ≤ 1055), (by omega : Sl + 6 + 0 ≤ 13762)⟩ (fun H locs hk1 hS => ?_)
  replace hPm := keptP hPm hk1
  replace hPc := keptP hPc hk1
  replace hPo := keptP hPo hk1
  refine lv_iload hx hb dL_law_697 (lv_at hl 1 rfl) ?_
  refine cT_eq (tgt := 704) hx hb dL_law_699 (by decide) rfl ?_
  refine lv_iload hx hb dL_law_704 (lv_at hl 1 rfl) ?_
  by_cases hk0 : k = 0
  · refine zF_ne (tgt := 721) hx hb dL_law_706 (by decide) hk0 ?_
    refine lv_aload_n hx hb dL_law_709 rfl (lv_at hl 5 rfl) ?_
    refine lv_iconst (v := nI 0) hx hb dL_law_710 (by decide) ?_
    refine ld_nl hx hb hK hPo 0 2 rfl rfl (j := 0) (by decide) (by decide) dL_law_711 ?_
    refine lv_iload hx hb dL_law_712 (lv_at hl 0 rfl) ?_
    refine lv_i2l (v := r.toInt64) hx hb dL_law_714 rfl ?_
    refine W.lcmp hx hb dL_law_715 ?_
    refine zT_eq (tgt := 721) hx hb dL_law_716 (by decide) (lcEq (by rw [hans hk0, if_neg (by decide)])) ?_
    refine lv_goto (tgt := 1999) hx hb dL_law_721 (by decide) ?_
    exact kk n' kd' fi' se' sd' ts' fs' tr' on' sy' rp' lt' ru' lg' lp' k _ g' _ _ ls hR' hPc hPm hPo hS (lv_sub hl [2, 3, 4, 5, 6] rfl)
  · refine zT_ne (tgt := 721) hx hb dL_law_706 (by decide) hk0 ?_
    refine lv_goto (tgt := 1999) hx hb dL_law_721 (by decide) ?_
    exact kk n' kd' fi' se' sd' ts' fs' tr' on' sy' rp' lt' ru' lg' lp' k _ g' _ _ ls hR' hPc hPm hPo hS (lv_sub hl [2, 3, 4, 5, 6] rfl)
set_option maxHeartbeats 4000000 in
set_option maxRecDepth 100000 in
theorem law_let {p : Program} {l : Launch} {e : Env} {s : State} {m : MethodId} {below : List Frame} {meth : Method} {c : Code} {D : va_G} {ad bd : Nat → Nat} {cI cZ cJ : ClassId} {o b L : Nat} {xs : Nat → Int32} {Q : State → Prop} (C0 : CX p l s m meth c D ad bd cI cZ cJ o b L xs) {n : Nat} {kd : Nat → Nat} {fi : Nat → Nat} {se : Nat → Nat} {sd : Nat → Bool} {ts : Nat → Int64} {fs : Nat → Int64} {tr : Nat → Nat} {on : Nat → Bool} {sy : Nat → Nat} {rp : Nat → Nat} {lt : Nat} {ru : Nat → Option Nat} {lg : Nat} {lp : Int64} {th : Int32} {rs : Nat → Int32} {g : Nat → Int64} {H : Heap} {locs : List Loc} {ls : Array Slot} {j C Sl : Nat} (hj : 4 * j + 4 ≤ L) (hL : L ≤ 2048) (hC : C + 1 ≤ 1055) (hSl : Sl + 6 ≤ 13762) (hR : REL n kd fi se sd ts fs tr sy rp lt ru lg lp) (hPc : va_P D vwCl (wC ad cI cZ cJ n kd sd ts fs tr on rp lt ru lg lp) H) (hPm : va_P D vwCl (wM bd cI cZ cJ th n kd fi se sd tr on sy lt ru lg rs) H) (hPo : va_P D vwCl [(o, .inl (cJ, 1, .inr (.inl g)))] H) (hS : va_S (AF s) s.heap H locs) (hl : lv_has ls 9 [(0, .ref b), (1, .ref (ad 0)), (2, .ref (bd 0)), (3, .ref o), (4, .int (nI (4 * j)))])
    (kk : KN p l e s m below meth c D ad bd cI cZ cJ o b j (C + 1) (Sl + 6) Q) : W p l e room_1 s m #[Value.ref b] below meth c H locs C Sl Q (F0 m 724 ls []) := by
  obtain ⟨⟨hx, hb, hr, hml, hown, hts0, hX, hbl, hlocks, hgv⟩, htr, hK, hXE, hTB, hDA⟩ := C0
  have hown : s.vm.findClass RL = some m.cls := hown
  have hts : ∀ w ∈ wsL_law, w.before #[Value.ref b] s = true := fun w h => hts0 w (wsL_law_in w h)
  have hbA : ¬ AF s b := Nat.not_le.mpr hbl
  have hO := hR.okc
  have hDm : va_D (AF s) (wM bd cI cZ cJ th n kd fi se sd tr on sy lt ru lg rs) := sameD2 hDA.r rfl
  have hDc : va_D (AF s) ((wC ad cI cZ cJ n kd sd ts fs tr on rp lt ru lg lp) ++ [(o, .inl (cJ, 1, .inr (.inl g)))]) := sameD2 hDA.l rfl
  have hDa : va_D (AF s) (((wC ad cI cZ cJ n kd sd ts fs tr on rp lt ru lg lp) ++ [(o, .inl (cJ, 1, .inr (.inl g)))]) ++ (wM bd cI cZ cJ th n kd fi se sd tr on sy lt ru lg rs)) := sameD2 hDA rfl
  by_cases hz : xs (4 * j + 2) = 0
  · obtain ⟨k, r, n', kd', fi', se', sd', ts', fs', tr', on', sy', rp', lt', ru', lg', lp', hR', hWr, hMd⟩ := op_let l D ad bd cI cZ cJ o htr hR (xs (4 * j + 1)) false (on := on)
    obtain ⟨g', hLW, hans⟩ := hWr g
    refine lv_aload_n hx hb dL_law_724 rfl (lv_at hl 1 rfl) ?_
    refine lv_aload_n hx hb dL_law_725 rfl (lv_at hl 0 rfl) ?_
    refine lv_iload hx hb dL_law_726 (lv_at hl 4 rfl) ?_
    refine lv_iconst (v := nI 1) hx hb dL_law_728 (by decide) ?_
    refine lv_iadd hx hb dL_law_729 ?_
    refine tc_int (y := nI (4 * j + 1)) (nI_add _ _) ?_
    refine va_sld hx hb hX hbl hbA hS (vp_in_nI (n := (4 * j + 1)) (by omega) (by omega)) dL_law_730 ?_
    refine tc_int (y := xs (4 * j + 1)) (by rw [nI_clamp (by omega)]) ?_
    refine lv_aload_n hx hb dL_law_731 rfl (lv_at hl 0 rfl) ?_
    refine lv_iload hx hb dL_law_732 (lv_at hl 4 rfl) ?_
    refine lv_iconst (v := nI 2) hx hb dL_law_734 (by decide) ?_
    refine lv_iadd hx hb dL_law_735 ?_
    refine tc_int (y := nI (4 * j + 2)) (nI_add _ _) ?_
    refine va_sld hx hb hX hbl hbA hS (vp_in_nI (n := (4 * j + 2)) (by omega) (by omega)) dL_law_736 ?_
    refine tc_int (y := xs (4 * j + 2)) (by rw [nI_clamp (by omega)]) ?_
    refine zT_eq (tgt := 744) hx hb dL_law_737 (by decide) hz ?_
    refine lv_iconst (v := nI 0) hx hb dL_law_744 (by decide) ?_
    refine tc_int (y := bI false) (by decide) ?_
    refine lv_aload_n hx hb dL_law_745 rfl (lv_at hl 3 rfl) ?_
    refine lw_S (own := RL) (As := [.ref (ad 0), .int (xs (4 * j + 1)), .int (bI false), .ref o]) (rest := []) (A1 := AW ((wC ad cI cZ cJ n kd sd ts fs tr on rp lt ru lg lp) ++ [(o, .inl (cJ, 1, .inr (.inl g)))])) (A0 := AF s) ⟨hx, hb, hml, hown, hts⟩ hLW gL_law_L_let rfl ⟨rfl, rfl⟩ 4 rfl (by decide +kernel) ⟨Nat.le_of_ble_eq_true rfl, Nat.le_of_ble_eq_true rfl⟩ (hPc.app hPo) hK hDc.aw (hXE.kept (fun q h1 _ => hS.2.1 q h1 (Nat.not_le.mpr h1))) ((hTB.kept hS.2.1).narrow (fun q h => hDc.awA h)) (fun q h => hDc.awA h) (fun q h => Nat.le_trans hS.1 h) hS hl.1 rfl (Nat.le_of_ble_eq_true rfl) dL_law_746 ⟨(by omega : C + 1 ≤ 1055), (by omega : Sl + 6 ≤ 13762)⟩ (fun H locs hP9 hz1 hk1 hS => ?_)
    replace hPm := hPm.off hk1 (fun q h1 h2 => hDa.dis h2 h1)
    replace hPc := hP9.l
    replace hPo := hP9.r
    refine lv_istore (lv' := [(5, .int k), (0, .ref b), (1, .ref (ad 0)), (2, .ref (bd 0)), (3, .ref o), (4, .int (nI (4 * j)))]) hx hb dL_law_749 hl (by decide) rfl (fun ls hl => ?_)
    refine lv_aload_n hx hb dL_law_751 rfl (lv_at hl 3 rfl) ?_
    refine lv_aload_n hx hb dL_law_752 rfl (lv_at hl 1 rfl) ?_
    refine lv_iload hx hb dL_law_753 (lv_at hl 5 rfl) ?_
    refine lv_iconst (v := nI 1) hx hb dL_law_755 (by decide) ?_
    refine lv_iadd hx hb dL_law_756 ?_
    refine tc_int (y := nI (4 * j + 1)) (nI_add _ _) ?_
    refine va_sld hx hb hX hbl hbA hS (vp_in_nI (n := (4 * j + 1)) (by omega) (by omega)) dL_law_757 ?_
    refine tc_int (y := xs (4 * j + 1)) (by rw [nI_clamp (by omega)]) ?_
    refine lv_aload_n hx hb dL_law_758 rfl (lv_at hl 1 rfl) ?_
    refine lv_iload hx hb dL_law_759 (lv_at hl 5 rfl) ?_
    refine lv_iconst (v := nI 2) hx hb dL_law_761 (by decide) ?_
    refine lv_iadd hx hb dL_law_762 ?_
    refine tc_int (y := nI (4 * j + 2)) (nI_add _ _) ?_
    refine va_sld hx hb hX hbl hbA hS (vp_in_nI (n := (4 * j + 2)) (by omega) (by omega)) dL_law_763 ?_
    refine tc_int (y := xs (4 * j + 2)) (by rw [nI_clamp (by omega)]) ?_
    refine zT_eq (tgt := 771) hx hb dL_law_764 (by decide) hz ?_
    refine lv_iconst (v := nI 0) hx hb dL_law_771 (by decide) ?_
    refine tc_int (y := bI false) (by decide) ?_
    refine muI_V (own := RL) (As := [.int (xs (4 * j + 1)), .int (bI false)]) (rest := []) (C := RX1) (ci := 1) (q0 := 0) (A1 := AW (wM bd cI cZ cJ th n kd fi se sd tr on sy lt ru lg rs)) (A0 := AF s) ⟨hx, hb, hml, hown, hts⟩ (hMd th rs) gL_law_X1_let rfl ⟨rfl, rfl⟩ 2 rfl (by decide +kernel) ⟨Nat.le_of_ble_eq_true rfl, Nat.le_of_ble_eq_true rfl⟩ hPm hK hDm.aw (fun q h => hDm.awA h) rfl rfl rfl hS hl.1 rfl (Nat.le_of_ble_eq_true rfl) dL_law_772 ⟨(by omega : C + 1 + 0 ≤ 1055), (by omega : Sl + 6 + 0 ≤ 13762)⟩ (fun u H locs hPm hz1 hk1 hS => ?_)
    replace hPc := hPc.off hk1 (fun q h1 h2 => hDa.dis (AW.same (w := (wC ad cI cZ cJ n' kd' sd' ts' fs' tr' on' rp' lt' ru' lg' lp') ++ [(o, .inl (cJ, 1, .inr (.inl g)))]) (w' := (wC ad cI cZ cJ n kd sd ts fs tr on rp lt ru lg lp) ++ [(o, .inl (cJ, 1, .inr (.inl g)))]) rfl (AW.inl h1)) h2)
    replace hPo := hPo.off hk1 (fun q h1 h2 => hDa.dis (AW.same (w := (wC ad cI cZ cJ n kd sd ts fs tr on rp lt ru lg lp) ++ [(o, .inl (cJ, 1, .inr (.inl g')))]) (w' := (wC ad cI cZ cJ n kd sd ts fs tr on rp lt ru lg lp) ++ [(o, .inl (cJ, 1, .inr (.inl g)))]) rfl (AW.inr h1)) h2)
    refine lv_istore (lv' := [(6, .int r), (5, .int k), (0, .ref b), (1, .ref (ad 0)), (2, .ref (bd 0)), (3, .ref o), (4, .int (nI (4 * j)))]) hx hb dL_law_775 hl (by decide) rfl (fun ls hl => ?_)
    refine lv_aload_n hx hb dL_law_777 rfl (lv_at hl 4 rfl) ?_
    refine puI_V (own := RL) (As := []) (rest := []) (C := RX1) (ci := 1) (q0 := 0) ⟨hx, hb, hml, hown, hts⟩ (c_X1_thrown l D bd cI cZ cJ _ _ _ _ _ _ _ _ _ _ _ _ _) gL_law_X1_thrown rfl ⟨rfl, rfl⟩ 0 rfl (by decide +kernel) ⟨Nat.le_of_ble_eq_true rfl, Nat.le_of_ble_eq_true rfl⟩ hPm hK rfl rfl rfl hS hl.1 rfl (Nat.le_of_ble_eq_true rfl) dL_law_778 ⟨(by omega : C + 1 + 0 ≤ 1055), (by omega : Sl + 6 + 0 ≤ 13762)⟩ (fun H locs hk1 hS => ?_)
    replace hPm := keptP hPm hk1
    replace hPc := keptP hPc hk1
    replace hPo := keptP hPo hk1
    refine lv_iload hx hb dL_law_781 (lv_at hl 1 rfl) ?_
    refine cT_eq (tgt := 788) hx hb dL_law_783 (by decide) rfl ?_
    refine lv_iload hx hb dL_law_788 (lv_at hl 1 rfl) ?_
    by_cases hk0 : k = 0
    · refine zF_ne (tgt := 812) hx hb dL_law_790 (by decide) hk0 ?_
      refine lv_aload_n hx hb dL_law_793 rfl (lv_at hl 5 rfl) ?_
      refine lv_iconst (v := nI 0) hx hb dL_law_794 (by decide) ?_
      refine ld_nl hx hb hK hPo 0 2 rfl rfl (j := 0) (by decide) (by decide) dL_law_795 ?_
      refine lv_iload hx hb dL_law_796 (lv_at hl 0 rfl) ?_
      by_cases hr0 : r = 0
      · refine zT_eq (tgt := 805) hx hb dL_law_798 (by decide) hr0 ?_
        refine lv_lconst (v := 0) hx hb dL_law_805 (by decide) ?_
        refine W.lcmp hx hb dL_law_806 ?_
        refine zT_eq (tgt := 812) hx hb dL_law_807 (by decide) (lcEq (by rw [hans hk0, if_pos rfl, if_pos hr0])) ?_
        refine lv_goto (tgt := 1999) hx hb dL_law_812 (by decide) ?_
        exact kk n' kd' fi' se' sd' ts' fs' tr' on' sy' rp' lt' ru' lg' lp' k _ g' _ _ ls hR' hPc hPm hPo hS (lv_sub hl [2, 3, 4, 5, 6] rfl)
      · refine zF_eq (tgt := 805) hx hb dL_law_798 (by decide) hr0 ?_
        refine lv_lconst (v := 1) hx hb dL_law_801 (by decide) ?_
        refine lv_goto (tgt := 806) hx hb dL_law_802 (by decide) ?_
        refine W.lcmp hx hb dL_law_806 ?_
        refine zT_eq (tgt := 812) hx hb dL_law_807 (by decide) (lcEq (by rw [hans hk0, if_pos rfl, if_neg hr0])) ?_
        refine lv_goto (tgt := 1999) hx hb dL_law_812 (by decide) ?_
        exact kk n' kd' fi' se' sd' ts' fs' tr' on' sy' rp' lt' ru' lg' lp' k _ g' _ _ ls hR' hPc hPm hPo hS (lv_sub hl [2, 3, 4, 5, 6] rfl)
    · refine zT_ne (tgt := 812) hx hb dL_law_790 (by decide) hk0 ?_
      refine lv_goto (tgt := 1999) hx hb dL_law_812 (by decide) ?_
      exact kk n' kd' fi' se' sd' ts' fs' tr' on' sy' rp' lt' ru' lg' lp' k _ g' _ _ ls hR' hPc hPm hPo hS (lv_sub hl [2, 3, 4, 5, 6] rfl)
  · obtain ⟨k, r, n', kd', fi', se', sd', ts', fs', tr', on', sy', rp', lt', ru', lg', lp', hR', hWr, hMd⟩ := op_let l D ad bd cI cZ cJ o htr hR (xs (4 * j + 1)) true (on := on)
    obtain ⟨g', hLW, hans⟩ := hWr g
    refine lv_aload_n hx hb dL_law_724 rfl (lv_at hl 1 rfl) ?_
    refine lv_aload_n hx hb dL_law_725 rfl (lv_at hl 0 rfl) ?_
    refine lv_iload hx hb dL_law_726 (lv_at hl 4 rfl) ?_
    refine lv_iconst (v := nI 1) hx hb dL_law_728 (by decide) ?_
    refine lv_iadd hx hb dL_law_729 ?_
    refine tc_int (y := nI (4 * j + 1)) (nI_add _ _) ?_
    refine va_sld hx hb hX hbl hbA hS (vp_in_nI (n := (4 * j + 1)) (by omega) (by omega)) dL_law_730 ?_
    refine tc_int (y := xs (4 * j + 1)) (by rw [nI_clamp (by omega)]) ?_
    refine lv_aload_n hx hb dL_law_731 rfl (lv_at hl 0 rfl) ?_
    refine lv_iload hx hb dL_law_732 (lv_at hl 4 rfl) ?_
    refine lv_iconst (v := nI 2) hx hb dL_law_734 (by decide) ?_
    refine lv_iadd hx hb dL_law_735 ?_
    refine tc_int (y := nI (4 * j + 2)) (nI_add _ _) ?_
    refine va_sld hx hb hX hbl hbA hS (vp_in_nI (n := (4 * j + 2)) (by omega) (by omega)) dL_law_736 ?_
    refine tc_int (y := xs (4 * j + 2)) (by rw [nI_clamp (by omega)]) ?_
    refine zF_eq (tgt := 744) hx hb dL_law_737 (by decide) hz ?_
    refine lv_iconst (v := nI 1) hx hb dL_law_740 (by decide) ?_
    refine tc_int (y := bI true) (by decide) ?_
    refine lv_goto (tgt := 745) hx hb dL_law_741 (by decide) ?_
    refine lv_aload_n hx hb dL_law_745 rfl (lv_at hl 3 rfl) ?_
    refine lw_S (own := RL) (As := [.ref (ad 0), .int (xs (4 * j + 1)), .int (bI true), .ref o]) (rest := []) (A1 := AW ((wC ad cI cZ cJ n kd sd ts fs tr on rp lt ru lg lp) ++ [(o, .inl (cJ, 1, .inr (.inl g)))])) (A0 := AF s) ⟨hx, hb, hml, hown, hts⟩ hLW gL_law_L_let rfl ⟨rfl, rfl⟩ 4 rfl (by decide +kernel) ⟨Nat.le_of_ble_eq_true rfl, Nat.le_of_ble_eq_true rfl⟩ (hPc.app hPo) hK hDc.aw (hXE.kept (fun q h1 _ => hS.2.1 q h1 (Nat.not_le.mpr h1))) ((hTB.kept hS.2.1).narrow (fun q h => hDc.awA h)) (fun q h => hDc.awA h) (fun q h => Nat.le_trans hS.1 h) hS hl.1 rfl (Nat.le_of_ble_eq_true rfl) dL_law_746 ⟨(by omega : C + 1 ≤ 1055), (by omega : Sl + 6 ≤ 13762)⟩ (fun H locs hP9 hz1 hk1 hS => ?_)
    replace hPm := hPm.off hk1 (fun q h1 h2 => hDa.dis h2 h1)
    replace hPc := hP9.l
    replace hPo := hP9.r
    refine lv_istore (lv' := [(5, .int k), (0, .ref b), (1, .ref (ad 0)), (2, .ref (bd 0)), (3, .ref o), (4, .int (nI (4 * j)))]) hx hb dL_law_749 hl (by decide) rfl (fun ls hl => ?_)
    refine lv_aload_n hx hb dL_law_751 rfl (lv_at hl 3 rfl) ?_
    refine lv_aload_n hx hb dL_law_752 rfl (lv_at hl 1 rfl) ?_
    refine lv_iload hx hb dL_law_753 (lv_at hl 5 rfl) ?_
    refine lv_iconst (v := nI 1) hx hb dL_law_755 (by decide) ?_
    refine lv_iadd hx hb dL_law_756 ?_
    refine tc_int (y := nI (4 * j + 1)) (nI_add _ _) ?_
    refine va_sld hx hb hX hbl hbA hS (vp_in_nI (n := (4 * j + 1)) (by omega) (by omega)) dL_law_757 ?_
    refine tc_int (y := xs (4 * j + 1)) (by rw [nI_clamp (by omega)]) ?_
    refine lv_aload_n hx hb dL_law_758 rfl (lv_at hl 1 rfl) ?_
    refine lv_iload hx hb dL_law_759 (lv_at hl 5 rfl) ?_
    refine lv_iconst (v := nI 2) hx hb dL_law_761 (by decide) ?_
    refine lv_iadd hx hb dL_law_762 ?_
    refine tc_int (y := nI (4 * j + 2)) (nI_add _ _) ?_
    refine va_sld hx hb hX hbl hbA hS (vp_in_nI (n := (4 * j + 2)) (by omega) (by omega)) dL_law_763 ?_
    refine tc_int (y := xs (4 * j + 2)) (by rw [nI_clamp (by omega)]) ?_
    refine zF_eq (tgt := 771) hx hb dL_law_764 (by decide) hz ?_
    refine lv_iconst (v := nI 1) hx hb dL_law_767 (by decide) ?_
    refine tc_int (y := bI true) (by decide) ?_
    refine lv_goto (tgt := 772) hx hb dL_law_768 (by decide) ?_
    refine muI_V (own := RL) (As := [.int (xs (4 * j + 1)), .int (bI true)]) (rest := []) (C := RX1) (ci := 1) (q0 := 0) (A1 := AW (wM bd cI cZ cJ th n kd fi se sd tr on sy lt ru lg rs)) (A0 := AF s) ⟨hx, hb, hml, hown, hts⟩ (hMd th rs) gL_law_X1_let rfl ⟨rfl, rfl⟩ 2 rfl (by decide +kernel) ⟨Nat.le_of_ble_eq_true rfl, Nat.le_of_ble_eq_true rfl⟩ hPm hK hDm.aw (fun q h => hDm.awA h) rfl rfl rfl hS hl.1 rfl (Nat.le_of_ble_eq_true rfl) dL_law_772 ⟨(by omega : C + 1 + 0 ≤ 1055), (by omega : Sl + 6 + 0 ≤ 13762)⟩ (fun u H locs hPm hz1 hk1 hS => ?_)
    replace hPc := hPc.off hk1 (fun q h1 h2 => hDa.dis (AW.same (w := (wC ad cI cZ cJ n' kd' sd' ts' fs' tr' on' rp' lt' ru' lg' lp') ++ [(o, .inl (cJ, 1, .inr (.inl g)))]) (w' := (wC ad cI cZ cJ n kd sd ts fs tr on rp lt ru lg lp) ++ [(o, .inl (cJ, 1, .inr (.inl g)))]) rfl (AW.inl h1)) h2)
    replace hPo := hPo.off hk1 (fun q h1 h2 => hDa.dis (AW.same (w := (wC ad cI cZ cJ n kd sd ts fs tr on rp lt ru lg lp) ++ [(o, .inl (cJ, 1, .inr (.inl g')))]) (w' := (wC ad cI cZ cJ n kd sd ts fs tr on rp lt ru lg lp) ++ [(o, .inl (cJ, 1, .inr (.inl g)))]) rfl (AW.inr h1)) h2)
    refine lv_istore (lv' := [(6, .int r), (5, .int k), (0, .ref b), (1, .ref (ad 0)), (2, .ref (bd 0)), (3, .ref o), (4, .int (nI (4 * j)))]) hx hb dL_law_775 hl (by decide) rfl (fun ls hl => ?_)
    refine lv_aload_n hx hb dL_law_777 rfl (lv_at hl 4 rfl) ?_
    refine puI_V (own := RL) (As := []) (rest := []) (C := RX1) (ci := 1) (q0 := 0) ⟨hx, hb, hml, hown, hts⟩ (c_X1_thrown l D bd cI cZ cJ _ _ _ _ _ _ _ _ _ _ _ _ _) gL_law_X1_thrown rfl ⟨rfl, rfl⟩ 0 rfl (by decide +kernel) ⟨Nat.le_of_ble_eq_true rfl, Nat.le_of_ble_eq_true rfl⟩ hPm hK rfl rfl rfl hS hl.1 rfl (Nat.le_of_ble_eq_true rfl) dL_law_778 ⟨(by omega : C + 1 + 0 ≤ 1055), (by omega : Sl + 6 + 0 ≤ 13762)⟩ (fun H locs hk1 hS => ?_)
    replace hPm := keptP hPm hk1
    replace hPc := keptP hPc hk1
    replace hPo := keptP hPo hk1
    refine lv_iload hx hb dL_law_781 (lv_at hl 1 rfl) ?_
    refine cT_eq (tgt := 788) hx hb dL_law_783 (by decide) rfl ?_
    refine lv_iload hx hb dL_law_788 (lv_at hl 1 rfl) ?_
    by_cases hk0 : k = 0
    · refine zF_ne (tgt := 812) hx hb dL_law_790 (by decide) hk0 ?_
      refine lv_aload_n hx hb dL_law_793 rfl (lv_at hl 5 rfl) ?_
      refine lv_iconst (v := nI 0) hx hb dL_law_794 (by decide) ?_
      refine ld_nl hx hb hK hPo 0 2 rfl rfl (j := 0) (by decide) (by decide) dL_law_795 ?_
      refine lv_iload hx hb dL_law_796 (lv_at hl 0 rfl) ?_
      by_cases hr0 : r = 0
      · refine zT_eq (tgt := 805) hx hb dL_law_798 (by decide) hr0 ?_
        refine lv_lconst (v := 0) hx hb dL_law_805 (by decide) ?_
        refine W.lcmp hx hb dL_law_806 ?_
        refine zT_eq (tgt := 812) hx hb dL_law_807 (by decide) (lcEq (by rw [hans hk0, if_pos rfl, if_pos hr0])) ?_
        refine lv_goto (tgt := 1999) hx hb dL_law_812 (by decide) ?_
        exact kk n' kd' fi' se' sd' ts' fs' tr' on' sy' rp' lt' ru' lg' lp' k _ g' _ _ ls hR' hPc hPm hPo hS (lv_sub hl [2, 3, 4, 5, 6] rfl)
      · refine zF_eq (tgt := 805) hx hb dL_law_798 (by decide) hr0 ?_
        refine lv_lconst (v := 1) hx hb dL_law_801 (by decide) ?_
        refine lv_goto (tgt := 806) hx hb dL_law_802 (by decide) ?_
        refine W.lcmp hx hb dL_law_806 ?_
        refine zT_eq (tgt := 812) hx hb dL_law_807 (by decide) (lcEq (by rw [hans hk0, if_pos rfl, if_neg hr0])) ?_
        refine lv_goto (tgt := 1999) hx hb dL_law_812 (by decide) ?_
        exact kk n' kd' fi' se' sd' ts' fs' tr' on' sy' rp' lt' ru' lg' lp' k _ g' _ _ ls hR' hPc hPm hPo hS (lv_sub hl [2, 3, 4, 5, 6] rfl)
    · refine zT_ne (tgt := 812) hx hb dL_law_790 (by decide) hk0 ?_
      refine lv_goto (tgt := 1999) hx hb dL_law_812 (by decide) ?_
      exact kk n' kd' fi' se' sd' ts' fs' tr' on' sy' rp' lt' ru' lg' lp' k _ g' _ _ ls hR' hPc hPm hPo hS (lv_sub hl [2, 3, 4, 5, 6] rfl)
set_option maxHeartbeats 4000000 in
set_option maxRecDepth 100000 in
theorem law_setRule {p : Program} {l : Launch} {e : Env} {s : State} {m : MethodId} {below : List Frame} {meth : Method} {c : Code} {D : va_G} {ad bd : Nat → Nat} {cI cZ cJ : ClassId} {o b L : Nat} {xs : Nat → Int32} {Q : State → Prop} (C0 : CX p l s m meth c D ad bd cI cZ cJ o b L xs) {n : Nat} {kd : Nat → Nat} {fi : Nat → Nat} {se : Nat → Nat} {sd : Nat → Bool} {ts : Nat → Int64} {fs : Nat → Int64} {tr : Nat → Nat} {on : Nat → Bool} {sy : Nat → Nat} {rp : Nat → Nat} {lt : Nat} {ru : Nat → Option Nat} {lg : Nat} {lp : Int64} {th : Int32} {rs : Nat → Int32} {g : Nat → Int64} {H : Heap} {locs : List Loc} {ls : Array Slot} {j C Sl : Nat} (hj : 4 * j + 4 ≤ L) (hL : L ≤ 2048) (hC : C + 1 ≤ 1055) (hSl : Sl + 6 ≤ 13762) (hR : REL n kd fi se sd ts fs tr sy rp lt ru lg lp) (hPc : va_P D vwCl (wC ad cI cZ cJ n kd sd ts fs tr on rp lt ru lg lp) H) (hPm : va_P D vwCl (wM bd cI cZ cJ th n kd fi se sd tr on sy lt ru lg rs) H) (hPo : va_P D vwCl [(o, .inl (cJ, 1, .inr (.inl g)))] H) (hS : va_S (AF s) s.heap H locs) (hl : lv_has ls 9 [(0, .ref b), (1, .ref (ad 0)), (2, .ref (bd 0)), (3, .ref o), (4, .int (nI (4 * j)))])
    (kk : KN p l e s m below meth c D ad bd cI cZ cJ o b j (C + 1) (Sl + 6) Q) : W p l e room_1 s m #[Value.ref b] below meth c H locs C Sl Q (F0 m 815 ls []) := by
  obtain ⟨⟨hx, hb, hr, hml, hown, hts0, hX, hbl, hlocks, hgv⟩, htr, hK, hXE, hTB, hDA⟩ := C0
  have hown : s.vm.findClass RL = some m.cls := hown
  have hts : ∀ w ∈ wsL_law, w.before #[Value.ref b] s = true := fun w h => hts0 w (wsL_law_in w h)
  have hbA : ¬ AF s b := Nat.not_le.mpr hbl
  have hO := hR.okc
  have hDm : va_D (AF s) (wM bd cI cZ cJ th n kd fi se sd tr on sy lt ru lg rs) := sameD2 hDA.r rfl
  have hDc : va_D (AF s) ((wC ad cI cZ cJ n kd sd ts fs tr on rp lt ru lg lp) ++ [(o, .inl (cJ, 1, .inr (.inl g)))]) := sameD2 hDA.l rfl
  have hDa : va_D (AF s) (((wC ad cI cZ cJ n kd sd ts fs tr on rp lt ru lg lp) ++ [(o, .inl (cJ, 1, .inr (.inl g)))]) ++ (wM bd cI cZ cJ th n kd fi se sd tr on sy lt ru lg rs)) := sameD2 hDA rfl
  obtain ⟨k, r, n', kd', fi', se', sd', ts', fs', tr', on', sy', rp', lt', ru', lg', lp', hR', hWr, hMd⟩ := op_setRule l D ad bd cI cZ cJ o htr hR (xs (4 * j + 1)) (xs (4 * j + 2)) (on := on)
  obtain ⟨g', hLW, hans⟩ := hWr g
  refine lv_aload_n hx hb dL_law_815 rfl (lv_at hl 1 rfl) ?_
  refine lv_aload_n hx hb dL_law_816 rfl (lv_at hl 0 rfl) ?_
  refine lv_iload hx hb dL_law_817 (lv_at hl 4 rfl) ?_
  refine lv_iconst (v := nI 1) hx hb dL_law_819 (by decide) ?_
  refine lv_iadd hx hb dL_law_820 ?_
  refine tc_int (y := nI (4 * j + 1)) (nI_add _ _) ?_
  refine va_sld hx hb hX hbl hbA hS (vp_in_nI (n := (4 * j + 1)) (by omega) (by omega)) dL_law_821 ?_
  refine tc_int (y := xs (4 * j + 1)) (by rw [nI_clamp (by omega)]) ?_
  refine lv_aload_n hx hb dL_law_822 rfl (lv_at hl 0 rfl) ?_
  refine lv_iload hx hb dL_law_823 (lv_at hl 4 rfl) ?_
  refine lv_iconst (v := nI 2) hx hb dL_law_825 (by decide) ?_
  refine lv_iadd hx hb dL_law_826 ?_
  refine tc_int (y := nI (4 * j + 2)) (nI_add _ _) ?_
  refine va_sld hx hb hX hbl hbA hS (vp_in_nI (n := (4 * j + 2)) (by omega) (by omega)) dL_law_827 ?_
  refine tc_int (y := xs (4 * j + 2)) (by rw [nI_clamp (by omega)]) ?_
  refine lv_aload_n hx hb dL_law_828 rfl (lv_at hl 3 rfl) ?_
  refine lw_S (own := RL) (As := [.ref (ad 0), .int (xs (4 * j + 1)), .int (xs (4 * j + 2)), .ref o]) (rest := []) (A1 := AW ((wC ad cI cZ cJ n kd sd ts fs tr on rp lt ru lg lp) ++ [(o, .inl (cJ, 1, .inr (.inl g)))])) (A0 := AF s) ⟨hx, hb, hml, hown, hts⟩ hLW gL_law_L_setRule rfl ⟨rfl, rfl⟩ 4 rfl (by decide +kernel) ⟨Nat.le_of_ble_eq_true rfl, Nat.le_of_ble_eq_true rfl⟩ (hPc.app hPo) hK hDc.aw (hXE.kept (fun q h1 _ => hS.2.1 q h1 (Nat.not_le.mpr h1))) ((hTB.kept hS.2.1).narrow (fun q h => hDc.awA h)) (fun q h => hDc.awA h) (fun q h => Nat.le_trans hS.1 h) hS hl.1 rfl (Nat.le_of_ble_eq_true rfl) dL_law_829 ⟨(by omega : C + 1 ≤ 1055), (by omega : Sl + 6 ≤ 13762)⟩ (fun H locs hP9 hz1 hk1 hS => ?_)
  replace hPm := hPm.off hk1 (fun q h1 h2 => hDa.dis h2 h1)
  replace hPc := hP9.l
  replace hPo := hP9.r
  refine lv_istore (lv' := [(5, .int k), (0, .ref b), (1, .ref (ad 0)), (2, .ref (bd 0)), (3, .ref o), (4, .int (nI (4 * j)))]) hx hb dL_law_832 hl (by decide) rfl (fun ls hl => ?_)
  refine lv_aload_n hx hb dL_law_834 rfl (lv_at hl 3 rfl) ?_
  refine lv_aload_n hx hb dL_law_835 rfl (lv_at hl 1 rfl) ?_
  refine lv_iload hx hb dL_law_836 (lv_at hl 5 rfl) ?_
  refine lv_iconst (v := nI 1) hx hb dL_law_838 (by decide) ?_
  refine lv_iadd hx hb dL_law_839 ?_
  refine tc_int (y := nI (4 * j + 1)) (nI_add _ _) ?_
  refine va_sld hx hb hX hbl hbA hS (vp_in_nI (n := (4 * j + 1)) (by omega) (by omega)) dL_law_840 ?_
  refine tc_int (y := xs (4 * j + 1)) (by rw [nI_clamp (by omega)]) ?_
  refine lv_aload_n hx hb dL_law_841 rfl (lv_at hl 1 rfl) ?_
  refine lv_iload hx hb dL_law_842 (lv_at hl 5 rfl) ?_
  refine lv_iconst (v := nI 2) hx hb dL_law_844 (by decide) ?_
  refine lv_iadd hx hb dL_law_845 ?_
  refine tc_int (y := nI (4 * j + 2)) (nI_add _ _) ?_
  refine va_sld hx hb hX hbl hbA hS (vp_in_nI (n := (4 * j + 2)) (by omega) (by omega)) dL_law_846 ?_
  refine tc_int (y := xs (4 * j + 2)) (by rw [nI_clamp (by omega)]) ?_
  refine muI_V (own := RL) (As := [.int (xs (4 * j + 1)), .int (xs (4 * j + 2))]) (rest := []) (C := RX1) (ci := 1) (q0 := 0) (A1 := AW (wM bd cI cZ cJ th n kd fi se sd tr on sy lt ru lg rs)) (A0 := AF s) ⟨hx, hb, hml, hown, hts⟩ (hMd th rs) gL_law_X1_setRule rfl ⟨rfl, rfl⟩ 2 rfl (by decide +kernel) ⟨Nat.le_of_ble_eq_true rfl, Nat.le_of_ble_eq_true rfl⟩ hPm hK hDm.aw (fun q h => hDm.awA h) rfl rfl rfl hS hl.1 rfl (Nat.le_of_ble_eq_true rfl) dL_law_847 ⟨(by omega : C + 1 + 0 ≤ 1055), (by omega : Sl + 6 + 0 ≤ 13762)⟩ (fun u H locs hPm hz1 hk1 hS => ?_)
  replace hPc := hPc.off hk1 (fun q h1 h2 => hDa.dis (AW.same (w := (wC ad cI cZ cJ n' kd' sd' ts' fs' tr' on' rp' lt' ru' lg' lp') ++ [(o, .inl (cJ, 1, .inr (.inl g)))]) (w' := (wC ad cI cZ cJ n kd sd ts fs tr on rp lt ru lg lp) ++ [(o, .inl (cJ, 1, .inr (.inl g)))]) rfl (AW.inl h1)) h2)
  replace hPo := hPo.off hk1 (fun q h1 h2 => hDa.dis (AW.same (w := (wC ad cI cZ cJ n kd sd ts fs tr on rp lt ru lg lp) ++ [(o, .inl (cJ, 1, .inr (.inl g')))]) (w' := (wC ad cI cZ cJ n kd sd ts fs tr on rp lt ru lg lp) ++ [(o, .inl (cJ, 1, .inr (.inl g)))]) rfl (AW.inr h1)) h2)
  refine lv_istore (lv' := [(6, .int r), (5, .int k), (0, .ref b), (1, .ref (ad 0)), (2, .ref (bd 0)), (3, .ref o), (4, .int (nI (4 * j)))]) hx hb dL_law_850 hl (by decide) rfl (fun ls hl => ?_)
  refine lv_aload_n hx hb dL_law_852 rfl (lv_at hl 4 rfl) ?_
  refine puI_V (own := RL) (As := []) (rest := []) (C := RX1) (ci := 1) (q0 := 0) ⟨hx, hb, hml, hown, hts⟩ (c_X1_thrown l D bd cI cZ cJ _ _ _ _ _ _ _ _ _ _ _ _ _) gL_law_X1_thrown rfl ⟨rfl, rfl⟩ 0 rfl (by decide +kernel) ⟨Nat.le_of_ble_eq_true rfl, Nat.le_of_ble_eq_true rfl⟩ hPm hK rfl rfl rfl hS hl.1 rfl (Nat.le_of_ble_eq_true rfl) dL_law_853 ⟨(by omega : C + 1 + 0 ≤ 1055), (by omega : Sl + 6 + 0 ≤ 13762)⟩ (fun H locs hk1 hS => ?_)
  replace hPm := keptP hPm hk1
  replace hPc := keptP hPc hk1
  replace hPo := keptP hPo hk1
  refine lv_iload hx hb dL_law_856 (lv_at hl 1 rfl) ?_
  refine cT_eq (tgt := 863) hx hb dL_law_858 (by decide) rfl ?_
  refine lv_iload hx hb dL_law_863 (lv_at hl 1 rfl) ?_
  by_cases hk0 : k = 0
  · refine zF_ne (tgt := 880) hx hb dL_law_865 (by decide) hk0 ?_
    refine lv_aload_n hx hb dL_law_868 rfl (lv_at hl 5 rfl) ?_
    refine lv_iconst (v := nI 0) hx hb dL_law_869 (by decide) ?_
    refine ld_nl hx hb hK hPo 0 2 rfl rfl (j := 0) (by decide) (by decide) dL_law_870 ?_
    refine lv_iload hx hb dL_law_871 (lv_at hl 0 rfl) ?_
    refine lv_i2l (v := r.toInt64) hx hb dL_law_873 rfl ?_
    refine W.lcmp hx hb dL_law_874 ?_
    refine zT_eq (tgt := 880) hx hb dL_law_875 (by decide) (lcEq (by rw [hans hk0, if_neg (by decide)])) ?_
    refine lv_goto (tgt := 1999) hx hb dL_law_880 (by decide) ?_
    exact kk n' kd' fi' se' sd' ts' fs' tr' on' sy' rp' lt' ru' lg' lp' k _ g' _ _ ls hR' hPc hPm hPo hS (lv_sub hl [2, 3, 4, 5, 6] rfl)
  · refine zT_ne (tgt := 880) hx hb dL_law_865 (by decide) hk0 ?_
    refine lv_goto (tgt := 1999) hx hb dL_law_880 (by decide) ?_
    exact kk n' kd' fi' se' sd' ts' fs' tr' on' sy' rp' lt' ru' lg' lp' k _ g' _ _ ls hR' hPc hPm hPo hS (lv_sub hl [2, 3, 4, 5, 6] rfl)
