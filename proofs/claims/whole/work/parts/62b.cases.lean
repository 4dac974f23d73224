set_option maxHeartbeats 4000000 in
set_option maxRecDepth 100000 in
theorem law_given {p : Program} {l : Launch} {e : Env} {s : State} {m : MethodId} {below : List Frame} {meth : Method} {c : Code} {D : va_G} {ad bd : Nat → Nat} {cI cZ cJ : ClassId} {o b L : Nat} {xs : Nat → Int32} {Q : State → Prop} (C0 : CX p l s m meth c D ad bd cI cZ cJ o b L xs) {n : Nat} {kd : Nat → Nat} {fi : Nat → Nat} {se : Nat → Nat} {sd : Nat → Bool} {ts : Nat → Int64} {fs : Nat → Int64} {tr : Nat → Nat} {on : Nat → Bool} {sy : Nat → Nat} {rp : Nat → Nat} {lt : Nat} {ru : Nat → Option Nat} {lg : Nat} {lp : Int64} {th : Int32} {rs : Nat → Int32} {g : Nat → Int64} {H : Heap} {locs : List Loc} {ls : Array Slot} {j C Sl : Nat} (hj : 4 * j + 4 ≤ L) (hL : L ≤ 2048) (hC : C + 1 ≤ 1055) (hSl : Sl + 6 ≤ 13762) (hR : REL n kd fi se sd ts fs tr sy rp lt ru lg lp) (hPc : va_P D vwCl (wC ad cI cZ cJ n kd sd ts fs tr on rp lt ru lg lp) H) (hPm : va_P D vwCl (wM bd cI cZ cJ th n kd fi se sd tr on sy lt ru lg rs) H) (hPo : va_P D vwCl [(o, .inl (cJ, 1, .inr (.inl g)))] H) (hS : va_S (AF s) s.heap H locs) (hl : lv_has ls 9 [(0, .ref b), (1, .ref (ad 0)), (2, .ref (bd 0)), (3, .ref o), (4, .int (nI (4 * j)))])
    (kk : KN p l e s m below meth c D ad bd cI cZ cJ o b j (C + 1) (Sl + 6) Q) : W p l e room_1 s m #[Value.ref b] below meth c H locs C Sl Q (F0 m 883 ls []) := by
  obtain ⟨⟨hx, hb, hr, hml, hown, hts0, hX, hbl, hlocks, hgv⟩, htr, hK, hXE, hTB, hDA⟩ := C0
  have hown : s.vm.findClass RL = some m.cls := hown
  have hts : ∀ w ∈ wsL_law, w.before #[Value.ref b] s = true := fun w h => hts0 w (wsL_law_in w h)
  have hbA : ¬ AF s b := Nat.not_le.mpr hbl
  have hO := hR.okc
  have hDm : va_D (AF s) (wM bd cI cZ cJ th n kd fi se sd tr on sy lt ru lg rs) := sameD2 hDA.r rfl
  have hDc : va_D (AF s) ((wC ad cI cZ cJ n kd sd ts fs tr on rp lt ru lg lp) ++ [(o, .inl (cJ, 1, .inr (.inl g)))]) := sameD2 hDA.l rfl
  have hDa : va_D (AF s) (((wC ad cI cZ cJ n kd sd ts fs tr on rp lt ru lg lp) ++ [(o, .inl (cJ, 1, .inr (.inl g)))]) ++ (wM bd cI cZ cJ th n kd fi se sd tr on sy lt ru lg rs)) := sameD2 hDA rfl
  obtain ⟨k, r, n', kd', fi', se', sd', ts', fs', tr', on', sy', rp', lt', ru', lg', lp', hR', hWr, hMd⟩ := op_given l D ad bd cI cZ cJ o htr hR (xs (4 * j + 1)) (on := on)
  obtain ⟨g', hLW, hans⟩ := hWr g
  refine lv_aload_n hx hb dL_law_883 rfl (lv_at hl 1 rfl) ?_
  refine lv_aload_n hx hb dL_law_884 rfl (lv_at hl 0 rfl) ?_
  refine lv_iload hx hb dL_law_885 (lv_at hl 4 rfl) ?_
  refine lv_iconst (v := nI 1) hx hb dL_law_887 (by decide) ?_
  refine lv_iadd hx hb dL_law_888 ?_
  refine tc_int (y := nI (4 * j + 1)) (nI_add _ _) ?_
  refine va_sld hx hb hX hbl hbA hS (vp_in_nI (n := (4 * j + 1)) (by omega) (by omega)) dL_law_889 ?_
  refine tc_int (y := xs (4 * j + 1)) (by rw [nI_clamp (by omega)]) ?_
  refine lv_aload_n hx hb dL_law_890 rfl (lv_at hl 3 rfl) ?_
  refine lw_S (own := RL) (As := [.ref (ad 0), .int (xs (4 * j + 1)), .ref o]) (rest := []) (A1 := AW ((wC ad cI cZ cJ n kd sd ts fs tr on rp lt ru lg lp) ++ [(o, .inl (cJ, 1, .inr (.inl g)))])) (A0 := AF s) ⟨hx, hb, hml, hown, hts⟩ hLW gL_law_L_given rfl ⟨rfl, rfl⟩ 3 rfl (by decide +kernel) ⟨Nat.le_of_ble_eq_true rfl, Nat.le_of_ble_eq_true rfl⟩ (hPc.app hPo) hK hDc.aw (hXE.kept (fun q h1 _ => hS.2.1 q h1 (Nat.not_le.mpr h1))) ((hTB.kept hS.2.1).narrow (fun q h => hDc.awA h)) (fun q h => hDc.awA h) (fun q h => Nat.le_trans hS.1 h) hS hl.1 rfl (Nat.le_of_ble_eq_true rfl) dL_law_891 ⟨(by omega : C + 1 ≤ 1055), (by omega : Sl + 6 ≤ 13762)⟩ (fun H locs hP9 hz1 hk1 hS => ?_)
  replace hPm := hPm.off hk1 (fun q h1 h2 => hDa.dis h2 h1)
  replace hPc := hP9.l
  replace hPo := hP9.r
  refine lv_istore (lv' := [(5, .int k), (0, .ref b), (1, .ref (ad 0)), (2, .ref (bd 0)), (3, .ref o), (4, .int (nI (4 * j)))]) hx hb dL_law_894 hl (by decide) rfl (fun ls hl => ?_)
  refine lv_aload_n hx hb dL_law_896 rfl (lv_at hl 3 rfl) ?_
  refine lv_aload_n hx hb dL_law_897 rfl (lv_at hl 1 rfl) ?_
  refine lv_iload hx hb dL_law_898 (lv_at hl 5 rfl) ?_
  refine lv_iconst (v := nI 1) hx hb dL_law_900 (by decide) ?_
  refine lv_iadd hx hb dL_law_901 ?_
  refine tc_int (y := nI (4 * j + 1)) (nI_add _ _) ?_
  refine va_sld hx hb hX hbl hbA hS (vp_in_nI (n := (4 * j + 1)) (by omega) (by omega)) dL_law_902 ?_
  refine tc_int (y := xs (4 * j + 1)) (by rw [nI_clamp (by omega)]) ?_
  refine muI_V (own := RL) (As := [.int (xs (4 * j + 1))]) (rest := []) (C := RX1) (ci := 1) (q0 := 0) (A1 := AW (wM bd cI cZ cJ th n kd fi se sd tr on sy lt ru lg rs)) (A0 := AF s) ⟨hx, hb, hml, hown, hts⟩ (hMd th rs) gL_law_X1_given rfl ⟨rfl, rfl⟩ 1 rfl (by decide +kernel) ⟨Nat.le_of_ble_eq_true rfl, Nat.le_of_ble_eq_true rfl⟩ hPm hK hDm.aw (fun q h => hDm.awA h) rfl rfl rfl hS hl.1 rfl (Nat.le_of_ble_eq_true rfl) dL_law_903 ⟨(by omega : C + 1 + 0 ≤ 1055), (by omega : Sl + 6 + 0 ≤ 13762)⟩ (fun u H locs hPm hz1 hk1 hS => ?_)
  replace hPc := hPc.off hk1 (fun q h1 h2 => hDa.dis (AW.same (w := (wC ad cI cZ cJ n' kd' sd' ts' fs' tr' on' rp' lt' ru' lg' lp') ++ [(o, .inl (cJ, 1, .inr (.inl g)))]) (w' := (wC ad cI cZ cJ n kd sd ts fs tr on rp lt ru lg lp) ++ [(o, .inl (cJ, 1, .inr (.inl g)))]) rfl (AW.inl h1)) h2)
  replace hPo := hPo.off hk1 (fun q h1 h2 => hDa.dis (AW.same (w := (wC ad cI cZ cJ n kd sd ts fs tr on rp lt ru lg lp) ++ [(o, .inl (cJ, 1, .inr (.inl g')))]) (w' := (wC ad cI cZ cJ n kd sd ts fs tr on rp lt ru lg lp) ++ [(o, .inl (cJ, 1, .inr (.inl g)))]) rfl (AW.inr h1)) h2)
  refine lv_istore (lv' := [(6, .int r), (5, .int k), (0, .ref b), (1, .ref (ad 0)), (2, .ref (bd 0)), (3, .ref o), (4, .int (nI (4 * j)))]) hx hb dL_law_906 hl (by decide) rfl (fun ls hl => ?_)
  refine lv_aload_n hx hb dL_law_908 rfl (lv_at hl 4 rfl) ?_
  refine puI_V (own := RL) (As := []) (rest := []) (C := RX1) (ci := 1) (q0 := 0) ⟨hx, hb, hml, hown, hts⟩ (c_X1_thrown l D bd cI cZ cJ _ _ _ _ _ _ _ _ _ _ _ _ _) gL_law_X1_thrown rfl ⟨rfl, rfl⟩ 0 rfl (by decide +kernel) ⟨Nat.le_of_ble_eq_true rfl, Nat.le_of_ble_eq_true rfl⟩ hPm hK rfl rfl rfl hS hl.1 rfl (Nat.le_of_ble_eq_true rfl) dL_law_909 ⟨(by omega : C + 1 + 0 ≤ 1055), (by omega : Sl + 6 + 0 ≤ 13762)⟩ (fun H locs hk1 hS => ?_)
  replace hPm := keptP hPm hk1
  replace hPc := keptP hPc hk1
  replace hPo := keptP hPo hk1
  refine lv_iload hx hb dL_law_912 (lv_at hl 1 rfl) ?_
  refine cT_eq (tgt := 919) hx hb dL_law_914 (by decide) rfl ?_
  refine lv_iload hx hb dL_law_919 (lv_at hl 1 rfl) ?_
  by_cases hk0 : k = 0
  · refine zF_ne (tgt := 936) hx hb dL_law_921 (by decide) hk0 ?_
    refine lv_aload_n hx hb dL_law_924 rfl (lv_at hl 5 rfl) ?_
    refine lv_iconst (v := nI 0) hx hb dL_law_925 (by decide) ?_
    refine ld_nl hx hb hK hPo 0 2 rfl rfl (j := 0) (by decide) (by decide) dL_law_926 ?_
    refine lv_iload hx hb dL_law_927 (lv_at hl 0 rfl) ?_
    refine lv_i2l (v := r.toInt64) hx hb dL_law_929 rfl ?_
    refine W.lcmp hx hb dL_law_930 ?_
    refine zT_eq (tgt := 936) hx hb dL_law_931 (by decide) (lcEq (by rw [hans hk0, if_neg (by decide)])) ?_
    refine lv_goto (tgt := 1999) hx hb dL_law_936 (by decide) ?_
    exact kk n' kd' fi' se' sd' ts' fs' tr' on' sy' rp' lt' ru' lg' lp' k _ g' _ _ ls hR' hPc hPm hPo hS (lv_sub hl [2, 3, 4, 5, 6] rfl)
  · refine zT_ne (tgt := 936) hx hb dL_law_921 (by decide) hk0 ?_
    refine lv_goto (tgt := 1999) hx hb dL_law_936 (by decide) ?_
    exact kk n' kd' fi' se' sd' ts' fs' tr' on' sy' rp' lt' ru' lg' lp' k _ g' _ _ ls hR' hPc hPm hPo hS (lv_sub hl [2, 3, 4, 5, 6] rfl)
set_option maxHeartbeats 4000000 in
set_option maxRecDepth 100000 in
theorem law_settled {p : Program} {l : Launch} {e : Env} {s : State} {m : MethodId} {below : List Frame} {meth : Method} {c : Code} {D : va_G} {ad bd : Nat → Nat} {cI cZ cJ : ClassId} {o b L : Nat} {xs : Nat → Int32} {Q : State → Prop} (C0 : CX p l s m meth c D ad bd cI cZ cJ o b L xs) {n : Nat} {kd : Nat → Nat} {fi : Nat → Nat} {se : Nat → Nat} {sd : Nat → Bool} {ts : Nat → Int64} {fs : Nat → Int64} {tr : Nat → Nat} {on : Nat → Bool} {sy : Nat → Nat} {rp : Nat → Nat} {lt : Nat} {ru : Nat → Option Nat} {lg : Nat} {lp : Int64} {th : Int32} {rs : Nat → Int32} {g : Nat → Int64} {H : Heap} {locs : List Loc} {ls : Array Slot} {j C Sl : Nat} (hj : 4 * j + 4 ≤ L) (hL : L ≤ 2048) (hC : C + 1 ≤ 1055) (hSl : Sl + 6 ≤ 13762) (hR : REL n kd fi se sd ts fs tr sy rp lt ru lg lp) (hPc : va_P D vwCl (wC ad cI cZ cJ n kd sd ts fs tr on rp lt ru lg lp) H) (hPm : va_P D vwCl (wM bd cI cZ cJ th n kd fi se sd tr on sy lt ru lg rs) H) (hPo : va_P D vwCl [(o, .inl (cJ, 1, .inr (.inl g)))] H) (hS : va_S (AF s) s.heap H locs) (hl : lv_has ls 9 [(0, .ref b), (1, .ref (ad 0)), (2, .ref (bd 0)), (3, .ref o), (4, .int (nI (4 * j)))])
    (kk : KN p l e s m below meth c D ad bd cI cZ cJ o b j (C + 1) (Sl + 6) Q) : W p l e room_1 s m #[Value.ref b] below meth c H locs C Sl Q (F0 m 939 ls []) := by
  obtain ⟨⟨hx, hb, hr, hml, hown, hts0, hX, hbl, hlocks, hgv⟩, htr, hK, hXE, hTB, hDA⟩ := C0
  have hown : s.vm.findClass RL = some m.cls := hown
  have hts : ∀ w ∈ wsL_law, w.before #[Value.ref b] s = true := fun w h => hts0 w (wsL_law_in w h)
  have hbA : ¬ AF s b := Nat.not_le.mpr hbl
  have hO := hR.okc
  have hDm : va_D (AF s) (wM bd cI cZ cJ th n kd fi se sd tr on sy lt ru lg rs) := sameD2 hDA.r rfl
  have hDc : va_D (AF s) ((wC ad cI cZ cJ n kd sd ts fs tr on rp lt ru lg lp) ++ [(o, .inl (cJ, 1, .inr (.inl g)))]) := sameD2 hDA.l rfl
  have hDa : va_D (AF s) (((wC ad cI cZ cJ n kd sd ts fs tr on rp lt ru lg lp) ++ [(o, .inl (cJ, 1, .inr (.inl g)))]) ++ (wM bd cI cZ cJ th n kd fi se sd tr on sy lt ru lg rs)) := sameD2 hDA rfl
  obtain ⟨k, r, n', kd', fi', se', sd', ts', fs', tr', on', sy', rp', lt', ru', lg', lp', hR', hWr, hMd⟩ := op_settled l D ad bd cI cZ cJ o htr hR (xs (4 * j + 1)) (on := on)
  obtain ⟨g', hLW, hans⟩ := hWr g
  refine lv_aload_n hx hb dL_law_939 rfl (lv_at hl 1 rfl) ?_
  refine lv_aload_n hx hb dL_law_940 rfl (lv_at hl 0 rfl) ?_
  refine lv_iload hx hb dL_law_941 (lv_at hl 4 rfl) ?_
  refine lv_iconst (v := nI 1) hx hb dL_law_943 (by decide) ?_
  refine lv_iadd hx hb dL_law_944 ?_
  refine tc_int (y := nI (4 * j + 1)) (nI_add _ _) ?_
  refine va_sld hx hb hX hbl hbA hS (vp_in_nI (n := (4 * j + 1)) (by omega) (by omega)) dL_law_945 ?_
  refine tc_int (y := xs (4 * j + 1)) (by rw [nI_clamp (by omega)]) ?_
  refine lv_aload_n hx hb dL_law_946 rfl (lv_at hl 3 rfl) ?_
  refine lw_S (own := RL) (As := [.ref (ad 0), .int (xs (4 * j + 1)), .ref o]) (rest := []) (A1 := AW ((wC ad cI cZ cJ n kd sd ts fs tr on rp lt ru lg lp) ++ [(o, .inl (cJ, 1, .inr (.inl g)))])) (A0 := AF s) ⟨hx, hb, hml, hown, hts⟩ hLW gL_law_L_settled rfl ⟨rfl, rfl⟩ 3 rfl (by decide +kernel) ⟨Nat.le_of_ble_eq_true rfl, Nat.le_of_ble_eq_true rfl⟩ (hPc.app hPo) hK hDc.aw (hXE.kept (fun q h1 _ => hS.2.1 q h1 (Nat.not_le.mpr h1))) ((hTB.kept hS.2.1).narrow (fun q h => hDc.awA h)) (fun q h => hDc.awA h) (fun q h => Nat.le_trans hS.1 h) hS hl.1 rfl (Nat.le_of_ble_eq_true rfl) dL_law_947 ⟨(by omega : C + 1 ≤ 1055), (by omega : Sl + 6 ≤ 13762)⟩ (fun H locs hP9 hz1 hk1 hS => ?_)
  replace hPm := hPm.off hk1 (fun q h1 h2 => hDa.dis h2 h1)
  replace hPc := hP9.l
  replace hPo := hP9.r
  refine lv_istore (lv' := [(5, .int k), (0, .ref b), (1, .ref (ad 0)), (2, .ref (bd 0)), (3, .ref o), (4, .int (nI (4 * j)))]) hx hb dL_law_950 hl (by decide) rfl (fun ls hl => ?_)
  refine lv_aload_n hx hb dL_law_952 rfl (lv_at hl 3 rfl) ?_
  refine lv_aload_n hx hb dL_law_953 rfl (lv_at hl 1 rfl) ?_
  refine lv_iload hx hb dL_law_954 (lv_at hl 5 rfl) ?_
  refine lv_iconst (v := nI 1) hx hb dL_law_956 (by decide) ?_
  refine lv_iadd hx hb dL_law_957 ?_
  refine tc_int (y := nI (4 * j + 1)) (nI_add _ _) ?_
  refine va_sld hx hb hX hbl hbA hS (vp_in_nI (n := (4 * j + 1)) (by omega) (by omega)) dL_law_958 ?_
  refine tc_int (y := xs (4 * j + 1)) (by rw [nI_clamp (by omega)]) ?_
  refine muI_V (own := RL) (As := [.int (xs (4 * j + 1))]) (rest := []) (C := RX1) (ci := 1) (q0 := 0) (A1 := AW (wM bd cI cZ cJ th n kd fi se sd tr on sy lt ru lg rs)) (A0 := AF s) ⟨hx, hb, hml, hown, hts⟩ (hMd th rs) gL_law_X1_settled rfl ⟨rfl, rfl⟩ 1 rfl (by decide +kernel) ⟨Nat.le_of_ble_eq_true rfl, Nat.le_of_ble_eq_true rfl⟩ hPm hK hDm.aw (fun q h => hDm.awA h) rfl rfl rfl hS hl.1 rfl (Nat.le_of_ble_eq_true rfl) dL_law_959 ⟨(by omega : C + 1 + 0 ≤ 1055), (by omega : Sl + 6 + 0 ≤ 13762)⟩ (fun u H locs hPm hz1 hk1 hS => ?_)
  replace hPc := hPc.off hk1 (fun q h1 h2 => hDa.dis (AW.same (w := (wC ad cI cZ cJ n' kd' sd' ts' fs' tr' on' rp' lt' ru' lg' lp') ++ [(o, .inl (cJ, 1, .inr (.inl g)))]) (w' := (wC ad cI cZ cJ n kd sd ts fs tr on rp lt ru lg lp) ++ [(o, .inl (cJ, 1, .inr (.inl g)))]) rfl (AW.inl h1)) h2)
  replace hPo := hPo.off hk1 (fun q h1 h2 => hDa.dis (AW.same (w := (wC ad cI cZ cJ n kd sd ts fs tr on rp lt ru lg lp) ++ [(o, .inl (cJ, 1, .inr (.inl g')))]) (w' := (wC ad cI cZ cJ n kd sd ts fs tr on rp lt ru lg lp) ++ [(o, .inl (cJ, 1, .inr (.inl g)))]) rfl (AW.inr h1)) h2)
  refine lv_istore (lv' := [(6, .int r), (5, .int k), (0, .ref b), (1, .ref (ad 0)), (2, .ref (bd 0)), (3, .ref o), (4, .int (nI (4 * j)))]) hx hb dL_law_962 hl (by decide) rfl (fun ls hl => ?_)
  refine lv_aload_n hx hb dL_law_964 rfl (lv_at hl 4 rfl) ?_
  refine puI_V (own := RL) (As := []) (rest := []) (C := RX1) (ci := 1) (q0 := 0) ⟨hx, hb, hml, hown, hts⟩ (c_X1_thrown l D bd cI cZ cJ _ _ _ _ _ _ _ _ _ _ _ _ _) gL_law_X1_thrown rfl ⟨rfl, rfl⟩ 0 rfl (by decide +kernel) ⟨Nat.le_of_ble_eq_true rfl, Nat.le_of_ble_eq_true rfl⟩ hPm hK rfl rfl rfl hS hl.1 rfl (Nat.le_of_ble_eq_true rfl) dL_law_965 ⟨(by omega : C + 1 + 0 ≤ 1055), (by omega : Sl + 6 + 0 ≤ 13762)⟩ (fun H locs hk1 hS => ?_)
  replace hPm := keptP hPm hk1
  replace hPc := keptP hPc hk1
  replace hPo := keptP hPo hk1
  refine lv_iload hx hb dL_law_968 (lv_at hl 1 rfl) ?_
  refine cT_eq (tgt := 975) hx hb dL_law_970 (by decide) rfl ?_
  refine lv_iload hx hb dL_law_975 (lv_at hl 1 rfl) ?_
  by_cases hk0 : k = 0
  · refine zF_ne (tgt := 992) hx hb dL_law_977 (by decide) hk0 ?_
    refine lv_aload_n hx hb dL_law_980 rfl (lv_at hl 5 rfl) ?_
    refine lv_iconst (v := nI 0) hx hb dL_law_981 (by decide) ?_
    refine ld_nl hx hb hK hPo 0 2 rfl rfl (j := 0) (by decide) (by decide) dL_law_982 ?_
    refine lv_iload hx hb dL_law_983 (lv_at hl 0 rfl) ?_
    refine lv_i2l (v := r.toInt64) hx hb dL_law_985 rfl ?_
    refine W.lcmp hx hb dL_law_986 ?_
    refine zT_eq (tgt := 992) hx hb dL_law_987 (by decide) (lcEq (by rw [hans hk0, if_neg (by decide)])) ?_
    refine lv_goto (tgt := 1999) hx hb dL_law_992 (by decide) ?_
    exact kk n' kd' fi' se' sd' ts' fs' tr' on' sy' rp' lt' ru' lg' lp' k _ g' _ _ ls hR' hPc hPm hPo hS (lv_sub hl [2, 3, 4, 5, 6] rfl)
  · refine zT_ne (tgt := 992) hx hb dL_law_977 (by decide) hk0 ?_
    refine lv_goto (tgt := 1999) hx hb dL_law_992 (by decide) ?_
    exact kk n' kd' fi' se' sd' ts' fs' tr' on' sy' rp' lt' ru' lg' lp' k _ g' _ _ ls hR' hPc hPm hPo hS (lv_sub hl [2, 3, 4, 5, 6] rfl)
set_option maxHeartbeats 4000000 in
set_option maxRecDepth 100000 in
theorem law_rounds {p : Program} {l : Launch} {e : Env} {s : State} {m : MethodId} {below : List Frame} {meth : Method} {c : Code} {D : va_G} {ad bd : Nat → Nat} {cI cZ cJ : ClassId} {o b L : Nat} {xs : Nat → Int32} {Q : State → Prop} (C0 : CX p l s m meth c D ad bd cI cZ cJ o b L xs) {n : Nat} {kd : Nat → Nat} {fi : Nat → Nat} {se : Nat → Nat} {sd : Nat → Bool} {ts : Nat → Int64} {fs : Nat → Int64} {tr : Nat → Nat} {on : Nat → Bool} {sy : Nat → Nat} {rp : Nat → Nat} {lt : Nat} {ru : Nat → Option Nat} {lg : Nat} {lp : Int64} {th : Int32} {rs : Nat → Int32} {g : Nat → Int64} {H : Heap} {locs : List Loc} {ls : Array Slot} {j C Sl : Nat} (hj : 4 * j + 4 ≤ L) (hL : L ≤ 2048) (hC : C + 1 ≤ 1055) (hSl : Sl + 6 ≤ 13762) (hR : REL n kd fi se sd ts fs tr sy rp lt ru lg lp) (hPc : va_P D vwCl (wC ad cI cZ cJ n kd sd ts fs tr on rp lt ru lg lp) H) (hPm : va_P D vwCl (wM bd cI cZ cJ th n kd fi se sd tr on sy lt ru lg rs) H) (hPo : va_P D vwCl [(o, .inl (cJ, 1, .inr (.inl g)))] H) (hS : va_S (AF s) s.heap H locs) (hl : lv_has ls 9 [(0, .ref b), (1, .ref (ad 0)), (2, .ref (bd 0)), (3, .ref o), (4, .int (nI (4 * j)))])
    (kk : KN p l e s m below meth c D ad bd cI cZ cJ o b j (C + 1) (Sl + 6) Q) : W p l e room_1 s m #[Value.ref b] below meth c H locs C Sl Q (F0 m 995 ls []) := by
  obtain ⟨⟨hx, hb, hr, hml, hown, hts0, hX, hbl, hlocks, hgv⟩, htr, hK, hXE, hTB, hDA⟩ := C0
  have hown : s.vm.findClass RL = some m.cls := hown
  have hts : ∀ w ∈ wsL_law, w.before #[Value.ref b] s = true := fun w h => hts0 w (wsL_law_in w h)
  have hbA : ¬ AF s b := Nat.not_le.mpr hbl
  have hO := hR.okc
  have hDm : va_D (AF s) (wM bd cI cZ cJ th n kd fi se sd tr on sy lt ru lg rs) := sameD2 hDA.r rfl
  have hDc : va_D (AF s) ((wC ad cI cZ cJ n kd sd ts fs tr on rp lt ru lg lp) ++ [(o, .inl (cJ, 1, .inr (.inl g)))]) := sameD2 hDA.l rfl
  have hDa : va_D (AF s) (((wC ad cI cZ cJ n kd sd ts fs tr on rp lt ru lg lp) ++ [(o, .inl (cJ, 1, .inr (.inl g)))]) ++ (wM bd cI cZ cJ th n kd fi se sd tr on sy lt ru lg rs)) := sameD2 hDA rfl
  have hF : (nI (fa_first (fun r => decide (itS (lkN ts fs) ru (gsS rp (hsS tr on lt 6) 6) (r + 1) = itS (lkN ts fs) ru (gsS rp (hsS tr on lt 6) 6) r)) 12)) = (nI (fa_first (fun r => decide (mIt sy (wv kd fi se) ru (hsS tr on lt 6) (r + 1) = mIt sy (wv kd fi se) ru (hsS tr on lt 6) r)) 12)) := congrArg nI (rd_eq hR _)
  obtain ⟨F, hF0⟩ : ∃ F, (nI (fa_first (fun r => decide (mIt sy (wv kd fi se) ru (hsS tr on lt 6) (r + 1) = mIt sy (wv kd fi se) ru (hsS tr on lt 6) r)) 12)) = F := ⟨_, rfl⟩
  replace hF := hF.trans hF0
  refine lv_aload_n hx hb dL_law_995 rfl (lv_at hl 1 rfl) ?_
  refine puI_V (own := RL) (As := []) (rest := []) (C := RX0) (ci := 0) (q0 := 0) ⟨hx, hb, hml, hown, hts⟩ (c_X0_rounds l D ad cI cZ cJ n kd sd ts fs tr on rp lt ru lg lp hO) gL_law_X0_rounds rfl ⟨rfl, rfl⟩ 0 rfl (by decide +kernel) ⟨Nat.le_of_ble_eq_true rfl, Nat.le_of_ble_eq_true rfl⟩ hPc hK rfl rfl rfl hS hl.1 rfl (Nat.le_of_ble_eq_true rfl) dL_law_996 ⟨(by omega : C + 0 ≤ 1055), (by omega : Sl + 0 ≤ 13762)⟩ (fun H locs hk1 hS => ?_)
  replace hPm := keptP hPm hk1
  replace hPc := keptP hPc hk1
  replace hPo := keptP hPo hk1
  refine tc_int (y := F) hF ?_
  refine lv_aload_n hx hb dL_law_999 rfl (lv_at hl 2 rfl) ?_
  refine muI_V (own := RL) (As := []) (rest := [.int F]) (C := RX1) (ci := 1) (q0 := 0) (A1 := AW (wM bd cI cZ cJ th n kd fi se sd tr on sy lt ru lg rs)) (A0 := AF s) ⟨hx, hb, hml, hown, hts⟩ (c_X1_rounds l D bd cI cZ cJ th n kd fi se sd tr on sy lt ru lg rs hR.1 (fun w _ => mIt_end hR w)) gL_law_X1_rounds rfl ⟨rfl, rfl⟩ 0 rfl (by decide +kernel) ⟨Nat.le_of_ble_eq_true rfl, Nat.le_of_ble_eq_true rfl⟩ hPm hK hDm.aw (fun q h => hDm.awA h) rfl rfl rfl hS hl.1 rfl (Nat.le_of_ble_eq_true rfl) dL_law_1000 ⟨(by omega : C + 0 ≤ 1055), (by omega : Sl + 0 ≤ 13762)⟩ (fun u H locs hPm hz1 hk1 hS => ?_)
  replace hPc := hPc.off hk1 (fun q h1 h2 => hDa.dis (AW.same (w := (wC ad cI cZ cJ n kd sd ts fs tr on rp lt ru lg lp) ++ [(o, .inl (cJ, 1, .inr (.inl g)))]) (w' := (wC ad cI cZ cJ n kd sd ts fs tr on rp lt ru lg lp) ++ [(o, .inl (cJ, 1, .inr (.inl g)))]) rfl (AW.inl h1)) h2)
  replace hPo := hPo.off hk1 (fun q h1 h2 => hDa.dis (AW.same (w := (wC ad cI cZ cJ n kd sd ts fs tr on rp lt ru lg lp) ++ [(o, .inl (cJ, 1, .inr (.inl g)))]) (w' := (wC ad cI cZ cJ n kd sd ts fs tr on rp lt ru lg lp) ++ [(o, .inl (cJ, 1, .inr (.inl g)))]) rfl (AW.inr h1)) h2)
  refine tc_int (y := F) hF0 ?_
  refine cT_eq (tgt := 1999) hx hb dL_law_1003 (by decide) rfl ?_
  refine W.widen (k := C + 1) (n := Sl + 6) (by omega) (by omega) ?_
  exact kk n kd fi se sd ts fs tr on sy rp lt ru lg lp _ _ g _ _ ls hR hPc hPm hPo hS (lv_sub hl [0, 1, 2, 3, 4] rfl)
set_option maxHeartbeats 4000000 in
set_option maxRecDepth 100000 in
theorem law_since {p : Program} {l : Launch} {e : Env} {s : State} {m : MethodId} {below : List Frame} {meth : Method} {c : Code} {D : va_G} {ad bd : Nat → Nat} {cI cZ cJ : ClassId} {o b L : Nat} {xs : Nat → Int32} {Q : State → Prop} (C0 : CX p l s m meth c D ad bd cI cZ cJ o b L xs) {n : Nat} {kd : Nat → Nat} {fi : Nat → Nat} {se : Nat → Nat} {sd : Nat → Bool} {ts : Nat → Int64} {fs : Nat → Int64} {tr : Nat → Nat} {on : Nat → Bool} {sy : Nat → Nat} {rp : Nat → Nat} {lt : Nat} {ru : Nat → Option Nat} {lg : Nat} {lp : Int64} {th : Int32} {rs : Nat → Int32} {g : Nat → Int64} {H : Heap} {locs : List Loc} {ls : Array Slot} {j C Sl : Nat} (hj : 4 * j + 4 ≤ L) (hL : L ≤ 2048) (hC : C + 1 ≤ 1055) (hSl : Sl + 6 ≤ 13762) (hR : REL n kd fi se sd ts fs tr sy rp lt ru lg lp) (hPc : va_P D vwCl (wC ad cI cZ cJ n kd sd ts fs tr on rp lt ru lg lp) H) (hPm : va_P D vwCl (wM bd cI cZ cJ th n kd fi se sd tr on sy lt ru lg rs) H) (hPo : va_P D vwCl [(o, .inl (cJ, 1, .inr (.inl g)))] H) (hS : va_S (AF s) s.heap H locs) (hl : lv_has ls 9 [(0, .ref b), (1, .ref (ad 0)), (2, .ref (bd 0)), (3, .ref o), (4, .int (nI (4 * j)))])
    (kk : KN p l e s m below meth c D ad bd cI cZ cJ o b j (C + 1) (Sl + 6) Q) : W p l e room_1 s m #[Value.ref b] below meth c H locs C Sl Q (F0 m 1008 ls []) := by
  obtain ⟨⟨hx, hb, hr, hml, hown, hts0, hX, hbl, hlocks, hgv⟩, htr, hK, hXE, hTB, hDA⟩ := C0
  have hown : s.vm.findClass RL = some m.cls := hown
  have hts : ∀ w ∈ wsL_law, w.before #[Value.ref b] s = true := fun w h => hts0 w (wsL_law_in w h)
  have hbA : ¬ AF s b := Nat.not_le.mpr hbl
  have hO := hR.okc
  have hDm : va_D (AF s) (wM bd cI cZ cJ th n kd fi se sd tr on sy lt ru lg rs) := sameD2 hDA.r rfl
  have hDc : va_D (AF s) ((wC ad cI cZ cJ n kd sd ts fs tr on rp lt ru lg lp) ++ [(o, .inl (cJ, 1, .inr (.inl g)))]) := sameD2 hDA.l rfl
  have hDa : va_D (AF s) (((wC ad cI cZ cJ n kd sd ts fs tr on rp lt ru lg lp) ++ [(o, .inl (cJ, 1, .inr (.inl g)))]) ++ (wM bd cI cZ cJ th n kd fi se sd tr on sy lt ru lg rs)) := sameD2 hDA rfl
  by_cases hz : xs (4 * j + 2) = 0
  · obtain ⟨k, r, n', kd', fi', se', sd', ts', fs', tr', on', sy', rp', lt', ru', lg', lp', hR', hWr, hMd⟩ := op_since l D ad bd cI cZ cJ o htr hR (xs (4 * j + 1)) false (on := on)
    obtain ⟨g', hLW, hans⟩ := hWr g
    refine lv_aload_n hx hb dL_law_1008 rfl (lv_at hl 1 rfl) ?_
    refine lv_aload_n hx hb dL_law_1009 rfl (lv_at hl 0 rfl) ?_
    refine lv_iload hx hb dL_law_1010 (lv_at hl 4 rfl) ?_
    refine lv_iconst (v := nI 1) hx hb dL_law_1012 (by decide) ?_
    refine lv_iadd hx hb dL_law_1013 ?_
    refine tc_int (y := nI (4 * j + 1)) (nI_add _ _) ?_
    refine va_sld hx hb hX hbl hbA hS (vp_in_nI (n := (4 * j + 1)) (by omega) (by omega)) dL_law_1014 ?_
    refine tc_int (y := xs (4 * j + 1)) (by rw [nI_clamp (by omega)]) ?_
    refine lv_aload_n hx hb dL_law_1015 rfl (lv_at hl 0 rfl) ?_
    refine lv_iload hx hb dL_law_1016 (lv_at hl 4 rfl) ?_
    refine lv_iconst (v := nI 2) hx hb dL_law_1018 (by decide) ?_
    refine lv_iadd hx hb dL_law_1019 ?_
    refine tc_int (y := nI (4 * j + 2)) (nI_add _ _) ?_
    refine va_sld hx hb hX hbl hbA hS (vp_in_nI (n := (4 * j + 2)) (by omega) (by omega)) dL_law_1020 ?_
    refine tc_int (y := xs (4 * j + 2)) (by rw [nI_clamp (by omega)]) ?_
    refine zT_eq (tgt := 1028) hx hb dL_law_1021 (by decide) hz ?_
    refine lv_iconst (v := nI 0) hx hb dL_law_1028 (by decide) ?_
    refine tc_int (y := bI false) (by decide) ?_
    refine lv_aload_n hx hb dL_law_1029 rfl (lv_at hl 3 rfl) ?_
    refine lw_S (own := RL) (As := [.ref (ad 0), .int (xs (4 * j + 1)), .int (bI false), .ref o]) (rest := []) (A1 := AW ((wC ad cI cZ cJ n kd sd ts fs tr on rp lt ru lg lp) ++ [(o, .inl (cJ, 1, .inr (.inl g)))])) (A0 := AF s) ⟨hx, hb, hml, hown, hts⟩ hLW gL_law_L_since rfl ⟨rfl, rfl⟩ 4 rfl (by decide +kernel) ⟨Nat.le_of_ble_eq_true rfl, Nat.le_of_ble_eq_true rfl⟩ (hPc.app hPo) hK hDc.aw (hXE.kept (fun q h1 _ => hS.2.1 q h1 (Nat.not_le.mpr h1))) ((hTB.kept hS.2.1).narrow (fun q h => hDc.awA h)) (fun q h => hDc.awA h) (fun q h => Nat.le_trans hS.1 h) hS hl.1 rfl (Nat.le_of_ble_eq_true rfl) dL_law_1030 ⟨(by omega : C + 1 ≤ 1055), (by omega : Sl + 6 ≤ 13762)⟩ (fun H locs hP9 hz1 hk1 hS => ?_)
    replace hPm := hPm.off hk1 (fun q h1 h2 => hDa.dis h2 h1)
    replace hPc := hP9.l
    replace hPo := hP9.r
    refine lv_istore (lv' := [(5, .int k), (0, .ref b), (1, .ref (ad 0)), (2, .ref (bd 0)), (3, .ref o), (4, .int (nI (4 * j)))]) hx hb dL_law_1033 hl (by decide) rfl (fun ls hl => ?_)
    refine lv_aload_n hx hb dL_law_1035 rfl (lv_at hl 3 rfl) ?_
    refine lv_aload_n hx hb dL_law_1036 rfl (lv_at hl 1 rfl) ?_
    refine lv_iload hx hb dL_law_1037 (lv_at hl 5 rfl) ?_
    refine lv_iconst (v := nI 1) hx hb dL_law_1039 (by decide) ?_
    refine lv_iadd hx hb dL_law_1040 ?_
    refine tc_int (y := nI (4 * j + 1)) (nI_add _ _) ?_
    refine va_sld hx hb hX hbl hbA hS (vp_in_nI (n := (4 * j + 1)) (by omega) (by omega)) dL_law_1041 ?_
    refine tc_int (y := xs (4 * j + 1)) (by rw [nI_clamp (by omega)]) ?_
    refine lv_aload_n hx hb dL_law_1042 rfl (lv_at hl 1 rfl) ?_
    refine lv_iload hx hb dL_law_1043 (lv_at hl 5 rfl) ?_
    refine lv_iconst (v := nI 2) hx hb dL_law_1045 (by decide) ?_
    refine lv_iadd hx hb dL_law_1046 ?_
    refine tc_int (y := nI (4 * j + 2)) (nI_add _ _) ?_
    refine va_sld hx hb hX hbl hbA hS (vp_in_nI (n := (4 * j + 2)) (by omega) (by omega)) dL_law_1047 ?_
    refine tc_int (y := xs (4 * j + 2)) (by rw [nI_clamp (by omega)]) ?_
    refine zT_eq (tgt := 1055) hx hb dL_law_1048 (by decide) hz ?_
    refine lv_iconst (v := nI 0) hx hb dL_law_1055 (by decide) ?_
    refine tc_int (y := bI false) (by decide) ?_
    refine muI_V (own := RL) (As := [.int (xs (4 * j + 1)), .int (bI false)]) (rest := []) (C := RX1) (ci := 1) (q0 := 0) (A1 := AW (wM bd cI cZ cJ th n kd fi se sd tr on sy lt ru lg rs)) (A0 := AF s) ⟨hx, hb, hml, hown, hts⟩ (hMd th rs) gL_law_X1_since rfl ⟨rfl, rfl⟩ 2 rfl (by decide +kernel) ⟨Nat.le_of_ble_eq_true rfl, Nat.le_of_ble_eq_true rfl⟩ hPm hK hDm.aw (fun q h => hDm.awA h) rfl rfl rfl hS hl.1 rfl (Nat.le_of_ble_eq_true rfl) dL_law_1056 ⟨(by omega : C + 1 + 0 ≤ 1055), (by omega : Sl + 6 + 0 ≤ 13762)⟩ (fun u H locs hPm hz1 hk1 hS => ?_)
    replace hPc := hPc.off hk1 (fun q h1 h2 => hDa.dis (AW.same (w := (wC ad cI cZ cJ n' kd' sd' ts' fs' tr' on' rp' lt' ru' lg' lp') ++ [(o, .inl (cJ, 1, .inr (.inl g)))]) (w' := (wC ad cI cZ cJ n kd sd ts fs tr on rp lt ru lg lp) ++ [(o, .inl (cJ, 1, .inr (.inl g)))]) rfl (AW.inl h1)) h2)
    replace hPo := hPo.off hk1 (fun q h1 h2 => hDa.dis (AW.same (w := (wC ad cI cZ cJ n kd sd ts fs tr on rp lt ru lg lp) ++ [(o, .inl (cJ, 1, .inr (.inl g')))]) (w' := (wC ad cI cZ cJ n kd sd ts fs tr on rp lt ru lg lp) ++ [(o, .inl (cJ, 1, .inr (.inl g)))]) rfl (AW.inr h1)) h2)
    refine lv_istore (lv' := [(6, .int r), (5, .int k), (0, .ref b), (1, .ref (ad 0)), (2, .ref (bd 0)), (3, .ref o), (4, .int (nI (4 * j)))]) hx hb dL_law_1059 hl (by decide) rfl (fun ls hl => ?_)
    refine lv_aload_n hx hb dL_law_1061 rfl (lv_at hl 4 rfl) ?_
    refine puI_V (own := RL) (As := []) (rest := []) (C := RX1) (ci := 1) (q0 := 0) ⟨hx, hb, hml, hown, hts⟩ (c_X1_thrown l D bd cI cZ cJ _ _ _ _ _ _ _ _ _ _ _ _ _) gL_law_X1_thrown rfl ⟨rfl, rfl⟩ 0 rfl (by decide +kernel) ⟨Nat.le_of_ble_eq_true rfl, Nat.le_of_ble_eq_true rfl⟩ hPm hK rfl rfl rfl hS hl.1 rfl (Nat.le_of_ble_eq_true rfl) dL_law_1062 ⟨(by omega : C + 1 + 0 ≤ 1055), (by omega : Sl + 6 + 0 ≤ 13762)⟩ (fun H locs hk1 hS => ?_)
    replace hPm := keptP hPm hk1
    replace hPc := keptP hPc hk1
    replace hPo := keptP hPo hk1
    refine lv_iload hx hb dL_law_1065 (lv_at hl 1 rfl) ?_
    refine cT_eq (tgt := 1072) hx hb dL_law_1067 (by decide) rfl ?_
    refine lv_iload hx hb dL_law_1072 (lv_at hl 1 rfl) ?_
    by_cases hk0 : k = 0
    · refine zF_ne (tgt := 1089) hx hb dL_law_1074 (by decide) hk0 ?_
      refine lv_aload_n hx hb dL_law_1077 rfl (lv_at hl 5 rfl) ?_
      refine lv_iconst (v := nI 0) hx hb dL_law_1078 (by decide) ?_
      refine ld_nl hx hb hK hPo 0 2 rfl rfl (j := 0) (by decide) (by decide) dL_law_1079 ?_
      refine lv_iload hx hb dL_law_1080 (lv_at hl 0 rfl) ?_
      refine lv_i2l (v := r.toInt64) hx hb dL_law_1082 rfl ?_
      refine W.lcmp hx hb dL_law_1083 ?_
      refine zT_eq (tgt := 1089) hx hb dL_law_1084 (by decide) (lcEq (by rw [hans hk0, if_neg (by decide)])) ?_
      refine lv_goto (tgt := 1999) hx hb dL_law_1089 (by decide) ?_
      exact kk n' kd' fi' se' sd' ts' fs' tr' on' sy' rp' lt' ru' lg' lp' k _ g' _ _ ls hR' hPc hPm hPo hS (lv_sub hl [2, 3, 4, 5, 6] rfl)
    · refine zT_ne (tgt := 1089) hx hb dL_law_1074 (by decide) hk0 ?_
      refine lv_goto (tgt := 1999) hx hb dL_law_1089 (by decide) ?_
      exact kk n' kd' fi' se' sd' ts' fs' tr' on' sy' rp' lt' ru' lg' lp' k _ g' _ _ ls hR' hPc hPm hPo hS (lv_sub hl [2, 3, 4, 5, 6] rfl)
  · obtain ⟨k, r, n', kd', fi', se', sd', ts', fs', tr', on', sy', rp', lt', ru', lg', lp', hR', hWr, hMd⟩ := op_since l D ad bd cI cZ cJ o htr hR (xs (4 * j + 1)) true (on := on)
    obtain ⟨g', hLW, hans⟩ := hWr g
    refine lv_aload_n hx hb dL_law_1008 rfl (lv_at hl 1 rfl) ?_
    refine lv_aload_n hx hb dL_law_1009 rfl (lv_at hl 0 rfl) ?_
    refine lv_iload hx hb dL_law_1010 (lv_at hl 4 rfl) ?_
    refine lv_iconst (v := nI 1) hx hb dL_law_1012 (by decide) ?_
    refine lv_iadd hx hb dL_law_1013 ?_
    refine tc_int (y := nI (4 * j + 1)) (nI_add _ _) ?_
    refine va_sld hx hb hX hbl hbA hS (vp_in_nI (n := (4 * j + 1)) (by omega) (by omega)) dL_law_1014 ?_
    refine tc_int (y := xs (4 * j + 1)) (by rw [nI_clamp (by omega)]) ?_
    refine lv_aload_n hx hb dL_law_1015 rfl (lv_at hl 0 rfl) ?_
    refine lv_iload hx hb dL_law_1016 (lv_at hl 4 rfl) ?_
    refine lv_iconst (v := nI 2) hx hb dL_law_1018 (by decide) ?_
    refine lv_iadd hx hb dL_law_1019 ?_
    refine tc_int (y := nI (4 * j + 2)) (nI_add _ _) ?_
    refine va_sld hx hb hX hbl hbA hS (vp_in_nI (n := (4 * j + 2)) (by omega) (by omega)) dL_law_1020 ?_
    refine tc_int (y := xs (4 * j + 2)) (by rw [nI_clamp (by omega)]) ?_
    refine zF_eq (tgt := 1028) hx hb dL_law_1021 (by decide) hz ?_
    refine lv_iconst (v := nI 1) hx hb dL_law_1024 (by decide) ?_
    refine tc_int (y := bI true) (by decide) ?_
    refine lv_goto (tgt := 1029) hx hb dL_law_1025 (by decide) ?_
    refine lv_aload_n hx hb dL_law_1029 rfl (lv_at hl 3 rfl) ?_
    refine lw_S (own := RL) (As := [.ref (ad 0), .int (xs (4 * j + 1)), .int (bI true), .ref o]) (rest := []) (A1 := AW ((wC ad cI cZ cJ n kd sd ts fs tr on rp lt ru lg lp) ++ [(o, .inl (cJ, 1, .inr (.inl g)))])) (A0 := AF s) ⟨hx, hb, hml, hown, hts⟩ hLW gL_law_L_since rfl ⟨rfl, rfl⟩ 4 rfl (by decide +kernel) ⟨Nat.le_of_ble_eq_true rfl, Nat.le_of_ble_eq_true rfl⟩ (hPc.app hPo) hK hDc.aw (hXE.kept (fun q h1 _ => hS.2.1 q h1 (Nat.not_le.mpr h1))) ((hTB.kept hS.2.1).narrow (fun q h => hDc.awA h)) (fun q h => hDc.awA h) (fun q h => Nat.le_trans hS.1 h) hS hl.1 rfl (Nat.le_of_ble_eq_true rfl) dL_law_1030 ⟨(by omega : C + 1 ≤ 1055), (by omega : Sl + 6 ≤ 13762)⟩ (fun H locs hP9 hz1 hk1 hS => ?_)
    replace hPm := hPm.off hk1 (fun q h1 h2 => hDa.dis h2 h1)
    replace hPc := hP9.l
    replace hPo := hP9.r
    refine lv_istore (lv' := [(5, .int k), (0, .ref b), (1, .ref (ad 0)), (2, .ref (bd 0)), (3, .ref o), (4, .int (nI (4 * j)))]) hx hb dL_law_1033 hl (by decide) rfl (fun ls hl => ?_)
    refine lv_aload_n hx hb dL_law_1035 rfl (lv_at hl 3 rfl) ?_
    refine lv_aload_n hx hb dL_law_1036 rfl (lv_at hl 1 rfl) ?_
    refine lv_iload hx hb dL_law_1037 (lv_at hl 5 rfl) ?_
    refine lv_iconst (v := nI 1) hx hb dL_law_1039 (by decide) ?_
    refine lv_iadd hx hb dL_law_1040 ?_
    refine tc_int (y := nI (4 * j + 1)) (nI_add _ _) ?_
    refine va_sld hx hb hX hbl hbA hS (vp_in_nI (n := (4 * j + 1)) (by omega) (by omega)) dL_law_1041 ?_
    refine tc_int (y := xs (4 * j + 1)) (by rw [nI_clamp (by omega)]) ?_
    refine lv_aload_n hx hb dL_law_1042 rfl (lv_at hl 1 rfl) ?_
    refine lv_iload hx hb dL_law_1043 (lv_at hl 5 rfl) ?_
    refine lv_iconst (v := nI 2) hx hb dL_law_1045 (by decide) ?_
    refine lv_iadd hx hb dL_law_1046 ?_
    refine tc_int (y := nI (4 * j + 2)) (nI_add _ _) ?_
    refine va_sld hx hb hX hbl hbA hS (vp_in_nI (n := (4 * j + 2)) (by omega) (by omega)) dL_law_1047 ?_
    refine tc_int (y := xs (4 * j + 2)) (by rw [nI_clamp (by omega)]) ?_
    refine zF_eq (tgt := 1055) hx hb dL_law_1048 (by decide) hz ?_
    refine lv_iconst (v := nI 1) hx hb dL_law_1051 (by decide) ?_
    refine tc_int (y := bI true) (by decide) ?_
    refine lv_goto (tgt := 1056) hx hb dL_law_1052 (by decide) ?_
    refine muI_V (own := RL) (As := [.int (xs (4 * j + 1)), .int (bI true)]) (rest := []) (C := RX1) (ci := 1) (q0 := 0) (A1 := AW (wM bd cI cZ cJ th n kd fi se sd tr on sy lt ru lg rs)) (A0 := AF s) ⟨hx, hb, hml, hown, hts⟩ (hMd th rs) gL_law_X1_since rfl ⟨rfl, rfl⟩ 2 rfl (by decide +kernel) ⟨Nat.le_of_ble_eq_true rfl, Nat.le_of_ble_eq_true rfl⟩ hPm hK hDm.aw (fun q h => hDm.awA h) rfl rfl rfl hS hl.1 rfl (Nat.le_of_ble_eq_true rfl) dL_law_1056 ⟨(by omega : C + 1 + 0 ≤ 1055), (by omega : Sl + 6 + 0 ≤ 13762)⟩ (fun u H locs hPm hz1 hk1 hS => ?_)
    replace hPc := hPc.off hk1 (fun q h1 h2 => hDa.dis (AW.same (w := (wC ad cI cZ cJ n' kd' sd' ts' fs' tr' on' rp' lt' ru' lg' lp') ++ [(o, .inl (cJ, 1, .inr (.inl g)))]) (w' := (wC ad cI cZ cJ n kd sd ts fs tr on rp lt ru lg lp) ++ [(o, .inl (cJ, 1, .inr (.inl g)))]) rfl (AW.inl h1)) h2)
    replace hPo := hPo.off hk1 (fun q h1 h2 => hDa.dis (AW.same (w := (wC ad cI cZ cJ n kd sd ts fs tr on rp lt ru lg lp) ++ [(o, .inl (cJ, 1, .inr (.inl g')))]) (w' := (wC ad cI cZ cJ n kd sd ts fs tr on rp lt ru lg lp) ++ [(o, .inl (cJ, 1, .inr (.inl g)))]) rfl (AW.inr h1)) h2)
    refine lv_istore (lv' := [(6, .int r), (5, .int k), (0, .ref b), (1, .ref (ad 0)), (2, .ref (bd 0)), (3, .ref o), (4, .int (nI (4 * j)))]) hx hb dL_law_1059 hl (by decide) rfl (fun ls hl => ?_)
    refine lv_aload_n hx hb dL_law_1061 rfl (lv_at hl 4 rfl) ?_
    refine puI_V (own := RL) (As := []) (rest := []) (C := RX1) (ci := 1) (q0 := 0) ⟨hx, hb, hml, hown, hts⟩ (c_X1_thrown l D bd cI cZ cJ _ _ _ _ _ _ _ _ _ _ _ _ _) gL_law_X1_thrown rfl ⟨rfl, rfl⟩ 0 rfl (by decide +kernel) ⟨Nat.le_of_ble_eq_true rfl, Nat.le_of_ble_eq_true rfl⟩ hPm hK rfl rfl rfl hS hl.1 rfl (Nat.le_of_ble_eq_true rfl) dL_law_1062 ⟨(by omega : C + 1 + 0 ≤ 1055), (by omega : Sl + 6 + 0 ≤ 13762)⟩ (fun H locs hk1 hS => ?_)
    replace hPm := keptP hPm hk1
    replace hPc := keptP hPc hk1
    replace hPo := keptP hPo hk1
    refine lv_iload hx hb dL_law_1065 (lv_at hl 1 rfl) ?_
    refine cT_eq (tgt := 1072) hx hb dL_law_1067 (by decide) rfl ?_
    refine lv_iload hx hb dL_law_1072 (lv_at hl 1 rfl) ?_
    by_cases hk0 : k = 0
    · refine zF_ne (tgt := 1089) hx hb dL_law_1074 (by decide) hk0 ?_
      refine lv_aload_n hx hb dL_law_1077 rfl (lv_at hl 5 rfl) ?_
      refine lv_iconst (v := nI 0) hx hb dL_law_1078 (by decide) ?_
      refine ld_nl hx hb hK hPo 0 2 rfl rfl (j := 0) (by decide) (by decide) dL_law_1079 ?_
      refine lv_iload hx hb dL_law_1080 (lv_at hl 0 rfl) ?_
      refine lv_i2l (v := r.toInt64) hx hb dL_law_1082 rfl ?_
      refine W.lcmp hx hb dL_law_1083 ?_
      refine zT_eq (tgt := 1089) hx hb dL_law_1084 (by decide) (lcEq (by rw [hans hk0, if_neg (by decide)])) ?_
      refine lv_goto (tgt := 1999) hx hb dL_law_1089 (by decide) ?_
      exact kk n' kd' fi' se' sd' ts' fs' tr' on' sy' rp' lt' ru' lg' lp' k _ g' _ _ ls hR' hPc hPm hPo hS (lv_sub hl [2, 3, 4, 5, 6] rfl)
    · refine zT_ne (tgt := 1089) hx hb dL_law_1074 (by decide) hk0 ?_
      refine lv_goto (tgt := 1999) hx hb dL_law_1089 (by decide) ?_
      exact kk n' kd' fi' se' sd' ts' fs' tr' on' sy' rp' lt' ru' lg' lp' k _ g' _ _ ls hR' hPc hPm hPo hS (lv_sub hl [2, 3, 4, 5, 6] rfl)
set_option maxHeartbeats 4000000 in
set_option maxRecDepth 100000 in
theorem law_value {p : Program} {l : Launch} {e : Env} {s : State} {m : MethodId} {below : List Frame} {meth : Method} {c : Code} {D : va_G} {ad bd : Nat → Nat} {cI cZ cJ : ClassId} {o b L : Nat} {xs : Nat → Int32} {Q : State → Prop} (C0 : CX p l s m meth c D ad bd cI cZ cJ o b L xs) {n : Nat} {kd : Nat → Nat} {fi : Nat → Nat} {se : Nat → Nat} {sd : Nat → Bool} {ts : Nat → Int64} {fs : Nat → Int64} {tr : Nat → Nat} {on : Nat → Bool} {sy : Nat → Nat} {rp : Nat → Nat} {lt : Nat} {ru : Nat → Option Nat} {lg : Nat} {lp : Int64} {th : Int32} {rs : Nat → Int32} {g : Nat → Int64} {H : Heap} {locs : List Loc} {ls : Array Slot} {j C Sl : Nat} (hj : 4 * j + 4 ≤ L) (hL : L ≤ 2048) (hC : C + 1 ≤ 1055) (hSl : Sl + 6 ≤ 13762) (hR : REL n kd fi se sd ts fs tr sy rp lt ru lg lp) (hPc : va_P D vwCl (wC ad cI cZ cJ n kd sd ts fs tr on rp lt ru lg lp) H) (hPm : va_P D vwCl (wM bd cI cZ cJ th n kd fi se sd tr on sy lt ru lg rs) H) (hPo : va_P D vwCl [(o, .inl (cJ, 1, .inr (.inl g)))] H) (hS : va_S (AF s) s.heap H locs) (hl : lv_has ls 9 [(0, .ref b), (1, .ref (ad 0)), (2, .ref (bd 0)), (3, .ref o), (4, .int (nI (4 * j)))])
    (kk : KN p l e s m below meth c D ad bd cI cZ cJ o b j (C + 1) (Sl + 6) Q) : W p l e room_1 s m #[Value.ref b] below meth c H locs C Sl Q (F0 m 1092 ls []) := by
  obtain ⟨⟨hx, hb, hr, hml, hown, hts0, hX, hbl, hlocks, hgv⟩, htr, hK, hXE, hTB, hDA⟩ := C0
  have hown : s.vm.findClass RL = some m.cls := hown
  have hts : ∀ w ∈ wsL_law, w.before #[Value.ref b] s = true := fun w h => hts0 w (wsL_law_in w h)
  have hbA : ¬ AF s b := Nat.not_le.mpr hbl
  have hO := hR.okc
  have hDm : va_D (AF s) (wM bd cI cZ cJ th n kd fi se sd tr on sy lt ru lg rs) := sameD2 hDA.r rfl
  have hDc : va_D (AF s) ((wC ad cI cZ cJ n kd sd ts fs tr on rp lt ru lg lp) ++ [(o, .inl (cJ, 1, .inr (.inl g)))]) := sameD2 hDA.l rfl
  have hDa : va_D (AF s) (((wC ad cI cZ cJ n kd sd ts fs tr on rp lt ru lg lp) ++ [(o, .inl (cJ, 1, .inr (.inl g)))]) ++ (wM bd cI cZ cJ th n kd fi se sd tr on sy lt ru lg rs)) := sameD2 hDA rfl
  obtain ⟨k, r, n', kd', fi', se', sd', ts', fs', tr', on', sy', rp', lt', ru', lg', lp', hR', hWr, hMd⟩ := op_value l D ad bd cI cZ cJ o htr hR (xs (4 * j + 1)) (on := on)
  obtain ⟨g', hLW, hans⟩ := hWr g
  refine lv_aload_n hx hb dL_law_1092 rfl (lv_at hl 1 rfl) ?_
  refine lv_aload_n hx hb dL_law_1093 rfl (lv_at hl 0 rfl) ?_
  refine lv_iload hx hb dL_law_1094 (lv_at hl 4 rfl) ?_
  refine lv_iconst (v := nI 1) hx hb dL_law_1096 (by decide) ?_
  refine lv_iadd hx hb dL_law_1097 ?_
  refine tc_int (y := nI (4 * j + 1)) (nI_add _ _) ?_
  refine va_sld hx hb hX hbl hbA hS (vp_in_nI (n := (4 * j + 1)) (by omega) (by omega)) dL_law_1098 ?_
  refine tc_int (y := xs (4 * j + 1)) (by rw [nI_clamp (by omega)]) ?_
  refine lv_aload_n hx hb dL_law_1099 rfl (lv_at hl 3 rfl) ?_
  refine lw_S (own := RL) (As := [.ref (ad 0), .int (xs (4 * j + 1)), .ref o]) (rest := []) (A1 := AW ((wC ad cI cZ cJ n kd sd ts fs tr on rp lt ru lg lp) ++ [(o, .inl (cJ, 1, .inr (.inl g)))])) (A0 := AF s) ⟨hx, hb, hml, hown, hts⟩ hLW gL_law_L_value rfl ⟨rfl, rfl⟩ 3 rfl (by decide +kernel) ⟨Nat.le_of_ble_eq_true rfl, Nat.le_of_ble_eq_true rfl⟩ (hPc.app hPo) hK hDc.aw (hXE.kept (fun q h1 _ => hS.2.1 q h1 (Nat.not_le.mpr h1))) ((hTB.kept hS.2.1).narrow (fun q h => hDc.awA h)) (fun q h => hDc.awA h) (fun q h => Nat.le_trans hS.1 h) hS hl.1 rfl (Nat.le_of_ble_eq_true rfl) dL_law_1100 ⟨(by omega : C + 1 ≤ 1055), (by omega : Sl + 6 ≤ 13762)⟩ (fun H locs hP9 hz1 hk1 hS => ?_)
  replace hPm := hPm.off hk1 (fun q h1 h2 => hDa.dis h2 h1)
  replace hPc := hP9.l
  replace hPo := hP9.r
  refine lv_istore (lv' := [(5, .int k), (0, .ref b), (1, .ref (ad 0)), (2, .ref (bd 0)), (3, .ref o), (4, .int (nI (4 * j)))]) hx hb dL_law_1103 hl (by decide) rfl (fun ls hl => ?_)
  refine lv_aload_n hx hb dL_law_1105 rfl (lv_at hl 3 rfl) ?_
  refine lv_aload_n hx hb dL_law_1106 rfl (lv_at hl 1 rfl) ?_
  refine lv_iload hx hb dL_law_1107 (lv_at hl 5 rfl) ?_
  refine lv_iconst (v := nI 1) hx hb dL_law_1109 (by decide) ?_
  refine lv_iadd hx hb dL_law_1110 ?_
  refine tc_int (y := nI (4 * j + 1)) (nI_add _ _) ?_
  refine va_sld hx hb hX hbl hbA hS (vp_in_nI (n := (4 * j + 1)) (by omega) (by omega)) dL_law_1111 ?_
  refine tc_int (y := xs (4 * j + 1)) (by rw [nI_clamp (by omega)]) ?_
  refine muI_V (own := RL) (As := [.int (xs (4 * j + 1))]) (rest := []) (C := RX1) (ci := 1) (q0 := 0) (A1 := AW (wM bd cI cZ cJ th n kd fi se sd tr on sy lt ru lg rs)) (A0 := AF s) ⟨hx, hb, hml, hown, hts⟩ (hMd th rs) gL_law_X1_value rfl ⟨rfl, rfl⟩ 1 rfl (by decide +kernel) ⟨Nat.le_of_ble_eq_true rfl, Nat.le_of_ble_eq_true rfl⟩ hPm hK hDm.aw (fun q h => hDm.awA h) rfl rfl rfl hS hl.1 rfl (Nat.le_of_ble_eq_true rfl) dL_law_1112 ⟨(by omega : C + 1 + 0 ≤ 1055), (by omega : Sl + 6 + 0 ≤ 13762)⟩ (fun u H locs hPm hz1 hk1 hS => ?_)
  replace hPc := hPc.off hk1 (fun q h1 h2 => hDa.dis (AW.same (w := (wC ad cI cZ cJ n' kd' sd' ts' fs' tr' on' rp' lt' ru' lg' lp') ++ [(o, .inl (cJ, 1, .inr (.inl g)))]) (w' := (wC ad cI cZ cJ n kd sd ts fs tr on rp lt ru lg lp) ++ [(o, .inl (cJ, 1, .inr (.inl g)))]) rfl (AW.inl h1)) h2)
  replace hPo := hPo.off hk1 (fun q h1 h2 => hDa.dis (AW.same (w := (wC ad cI cZ cJ n kd sd ts fs tr on rp lt ru lg lp) ++ [(o, .inl (cJ, 1, .inr (.inl g')))]) (w' := (wC ad cI cZ cJ n kd sd ts fs tr on rp lt ru lg lp) ++ [(o, .inl (cJ, 1, .inr (.inl g)))]) rfl (AW.inr h1)) h2)
  refine lv_istore (lv' := [(6, .int r), (5, .int k), (0, .ref b), (1, .ref (ad 0)), (2, .ref (bd 0)), (3, .ref o), (4, .int (nI (4 * j)))]) hx hb dL_law_1115 hl (by decide) rfl (fun ls hl => ?_)
  refine lv_aload_n hx hb dL_law_1117 rfl (lv_at hl 4 rfl) ?_
  refine puI_V (own := RL) (As := []) (rest := []) (C := RX1) (ci := 1) (q0 := 0) ⟨hx, hb, hml, hown, hts⟩ (c_X1_thrown l D bd cI cZ cJ _ _ _ _ _ _ _ _ _ _ _ _ _) gL_law_X1_thrown rfl ⟨rfl, rfl⟩ 0 rfl (by decide +kernel) ⟨Nat.le_of_ble_eq_true rfl, Nat.le_of_ble_eq_true rfl⟩ hPm hK rfl rfl rfl hS hl.1 rfl (Nat.le_of_ble_eq_true rfl) dL_law_1118 ⟨(by omega : C + 1 + 0 ≤ 1055), (by omega : Sl + 6 + 0 ≤ 13762)⟩ (fun H locs hk1 hS => ?_)
  replace hPm := keptP hPm hk1
  replace hPc := keptP hPc hk1
  replace hPo := keptP hPo hk1
  refine lv_iload hx hb dL_law_1121 (lv_at hl 1 rfl) ?_
  refine cT_eq (tgt := 1128) hx hb dL_law_1123 (by decide) rfl ?_
  refine lv_iload hx hb dL_law_1128 (lv_at hl 1 rfl) ?_
  by_cases hk0 : k = 0
  · refine zF_ne (tgt := 1145) hx hb dL_law_1130 (by decide) hk0 ?_
    refine lv_aload_n hx hb dL_law_1133 rfl (lv_at hl 5 rfl) ?_
    refine lv_iconst (v := nI 0) hx hb dL_law_1134 (by decide) ?_
    refine ld_nl hx hb hK hPo 0 2 rfl rfl (j := 0) (by decide) (by decide) dL_law_1135 ?_
    refine lv_iload hx hb dL_law_1136 (lv_at hl 0 rfl) ?_
    refine lv_i2l (v := r.toInt64) hx hb dL_law_1138 rfl ?_
    refine W.lcmp hx hb dL_law_1139 ?_
    refine zT_eq (tgt := 1145) hx hb dL_law_1140 (by decide) (lcEq (by rw [hans hk0, if_neg (by decide)])) ?_
    refine lv_goto (tgt := 1999) hx hb dL_law_1145 (by decide) ?_
    exact kk n' kd' fi' se' sd' ts' fs' tr' on' sy' rp' lt' ru' lg' lp' k _ g' _ _ ls hR' hPc hPm hPo hS (lv_sub hl [2, 3, 4, 5, 6] rfl)
  · refine zT_ne (tgt := 1145) hx hb dL_law_1130 (by decide) hk0 ?_
    refine lv_goto (tgt := 1999) hx hb dL_law_1145 (by decide) ?_
    exact kk n' kd' fi' se' sd' ts' fs' tr' on' sy' rp' lt' ru' lg' lp' k _ g' _ _ ls hR' hPc hPm hPo hS (lv_sub hl [2, 3, 4, 5, 6] rfl)
set_option maxHeartbeats 4000000 in
set_option maxRecDepth 100000 in
theorem law_conflicts {p : Program} {l : Launch} {e : Env} {s : State} {m : MethodId} {below : List Frame} {meth : Method} {c : Code} {D : va_G} {ad bd : Nat → Nat} {cI cZ cJ : ClassId} {o b L : Nat} {xs : Nat → Int32} {Q : State → Prop} (C0 : CX p l s m meth c D ad bd cI cZ cJ o b L xs) {n : Nat} {kd : Nat → Nat} {fi : Nat → Nat} {se : Nat → Nat} {sd : Nat → Bool} {ts : Nat → Int64} {fs : Nat → Int64} {tr : Nat → Nat} {on : Nat → Bool} {sy : Nat → Nat} {rp : Nat → Nat} {lt : Nat} {ru : Nat → Option Nat} {lg : Nat} {lp : Int64} {th : Int32} {rs : Nat → Int32} {g : Nat → Int64} {H : Heap} {locs : List Loc} {ls : Array Slot} {j C Sl : Nat} (hj : 4 * j + 4 ≤ L) (hL : L ≤ 2048) (hC : C + 1 ≤ 1055) (hSl : Sl + 6 ≤ 13762) (hR : REL n kd fi se sd ts fs tr sy rp lt ru lg lp) (hPc : va_P D vwCl (wC ad cI cZ cJ n kd sd ts fs tr on rp lt ru lg lp) H) (hPm : va_P D vwCl (wM bd cI cZ cJ th n kd fi se sd tr on sy lt ru lg rs) H) (hPo : va_P D vwCl [(o, .inl (cJ, 1, .inr (.inl g)))] H) (hS : va_S (AF s) s.heap H locs) (hl : lv_has ls 9 [(0, .ref b), (1, .ref (ad 0)), (2, .ref (bd 0)), (3, .ref o), (4, .int (nI (4 * j)))])
    (kk : KN p l e s m below meth c D ad bd cI cZ cJ o b j (C + 1) (Sl + 6) Q) : W p l e room_1 s m #[Value.ref b] below meth c H locs C Sl Q (F0 m 1148 ls []) := by
  obtain ⟨⟨hx, hb, hr, hml, hown, hts0, hX, hbl, hlocks, hgv⟩, htr, hK, hXE, hTB, hDA⟩ := C0
  have hown : s.vm.findClass RL = some m.cls := hown
  have hts : ∀ w ∈ wsL_law, w.before #[Value.ref b] s = true := fun w h => hts0 w (wsL_law_in w h)
  have hbA : ¬ AF s b := Nat.not_le.mpr hbl
  have hO := hR.okc
  have hDm : va_D (AF s) (wM bd cI cZ cJ th n kd fi se sd tr on sy lt ru lg rs) := sameD2 hDA.r rfl
  have hDc : va_D (AF s) ((wC ad cI cZ cJ n kd sd ts fs tr on rp lt ru lg lp) ++ [(o, .inl (cJ, 1, .inr (.inl g)))]) := sameD2 hDA.l rfl
  have hDa : va_D (AF s) (((wC ad cI cZ cJ n kd sd ts fs tr on rp lt ru lg lp) ++ [(o, .inl (cJ, 1, .inr (.inl g)))]) ++ (wM bd cI cZ cJ th n kd fi se sd tr on sy lt ru lg rs)) := sameD2 hDA rfl
  have hF : (nI (awS (itS (lkN ts fs) ru (gsS rp (hsS tr on lt 6) 6) 12) 3 6)) = (nI (awS (mIt sy (wv kd fi se) ru (hsS tr on lt 6) 12) 3 6)) := by rw [it_eq hR]
  obtain ⟨F, hF0⟩ : ∃ F, (nI (awS (mIt sy (wv kd fi se) ru (hsS tr on lt 6) 12) 3 6)) = F := ⟨_, rfl⟩
  replace hF := hF.trans hF0
  refine lv_aload_n hx hb dL_law_1148 rfl (lv_at hl 1 rfl) ?_
  refine puI_V (own := RL) (As := []) (rest := []) (C := RX0) (ci := 0) (q0 := 0) ⟨hx, hb, hml, hown, hts⟩ (c_X0_conflicts l D ad cI cZ cJ n kd sd ts fs tr on rp lt ru lg lp hO) gL_law_X0_conflicts rfl ⟨rfl, rfl⟩ 0 rfl (by decide +kernel) ⟨Nat.le_of_ble_eq_true rfl, Nat.le_of_ble_eq_true rfl⟩ hPc hK rfl rfl rfl hS hl.1 rfl (Nat.le_of_ble_eq_true rfl) dL_law_1149 ⟨(by omega : C + 0 ≤ 1055), (by omega : Sl + 0 ≤ 13762)⟩ (fun H locs hk1 hS => ?_)
  replace hPm := keptP hPm hk1
  replace hPc := keptP hPc hk1
  replace hPo := keptP hPo hk1
  refine tc_int (y := F) hF ?_
  refine lv_aload_n hx hb dL_law_1152 rfl (lv_at hl 2 rfl) ?_
  refine muI_V (own := RL) (As := []) (rest := [.int F]) (C := RX1) (ci := 1) (q0 := 0) (A1 := AW (wM bd cI cZ cJ th n kd fi se sd tr on sy lt ru lg rs)) (A0 := AF s) ⟨hx, hb, hml, hown, hts⟩ (c_X1_conflicts l D bd cI cZ cJ th n kd fi se sd tr on sy lt ru lg rs hR.1 (fun w _ => mIt_end hR w)) gL_law_X1_conflicts rfl ⟨rfl, rfl⟩ 0 rfl (by decide +kernel) ⟨Nat.le_of_ble_eq_true rfl, Nat.le_of_ble_eq_true rfl⟩ hPm hK hDm.aw (fun q h => hDm.awA h) rfl rfl rfl hS hl.1 rfl (Nat.le_of_ble_eq_true rfl) dL_law_1153 ⟨(by omega : C + 0 ≤ 1055), (by omega : Sl + 0 ≤ 13762)⟩ (fun u H locs hPm hz1 hk1 hS => ?_)
  replace hPc := hPc.off hk1 (fun q h1 h2 => hDa.dis (AW.same (w := (wC ad cI cZ cJ n kd sd ts fs tr on rp lt ru lg lp) ++ [(o, .inl (cJ, 1, .inr (.inl g)))]) (w' := (wC ad cI cZ cJ n kd sd ts fs tr on rp lt ru lg lp) ++ [(o, .inl (cJ, 1, .inr (.inl g)))]) rfl (AW.inl h1)) h2)
  replace hPo := hPo.off hk1 (fun q h1 h2 => hDa.dis (AW.same (w := (wC ad cI cZ cJ n kd sd ts fs tr on rp lt ru lg lp) ++ [(o, .inl (cJ, 1, .inr (.inl g)))]) (w' := (wC ad cI cZ cJ n kd sd ts fs tr on rp lt ru lg lp) ++ [(o, .inl (cJ, 1, .inr (.inl g)))]) rfl (AW.inr h1)) h2)
  refine tc_int (y := F) hF0 ?_
  refine cT_eq (tgt := 1999) hx hb dL_law_1156 (by decide) rfl ?_
  refine W.widen (k := C + 1) (n := Sl + 6) (by omega) (by omega) ?_
  exact kk n kd fi se sd ts fs tr on sy rp lt ru lg lp _ _ g _ _ ls hR hPc hPm hPo hS (lv_sub hl [0, 1, 2, 3, 4] rfl)
set_option maxHeartbeats 4000000 in
set_option maxRecDepth 100000 in
theorem law_gaps {p : Program} {l : Launch} {e : Env} {s : State} {m : MethodId} {below : List Frame} {meth : Method} {c : Code} {D : va_G} {ad bd : Nat → Nat} {cI cZ cJ : ClassId} {o b L : Nat} {xs : Nat → Int32} {Q : State → Prop} (C0 : CX p l s m meth c D ad bd cI cZ cJ o b L xs) {n : Nat} {kd : Nat → Nat} {fi : Nat → Nat} {se : Nat → Nat} {sd : Nat → Bool} {ts : Nat → Int64} {fs : Nat → Int64} {tr : Nat → Nat} {on : Nat → Bool} {sy : Nat → Nat} {rp : Nat → Nat} {lt : Nat} {ru : Nat → Option Nat} {lg : Nat} {lp : Int64} {th : Int32} {rs : Nat → Int32} {g : Nat → Int64} {H : Heap} {locs : List Loc} {ls : Array Slot} {j C Sl : Nat} (hj : 4 * j + 4 ≤ L) (hL : L ≤ 2048) (hC : C + 1 ≤ 1055) (hSl : Sl + 6 ≤ 13762) (hR : REL n kd fi se sd ts fs tr sy rp lt ru lg lp) (hPc : va_P D vwCl (wC ad cI cZ cJ n kd sd ts fs tr on rp lt ru lg lp) H) (hPm : va_P D vwCl (wM bd cI cZ cJ th n kd fi se sd tr on sy lt ru lg rs) H) (hPo : va_P D vwCl [(o, .inl (cJ, 1, .inr (.inl g)))] H) (hS : va_S (AF s) s.heap H locs) (hl : lv_has ls 9 [(0, .ref b), (1, .ref (ad 0)), (2, .ref (bd 0)), (3, .ref o), (4, .int (nI (4 * j)))])
    (kk : KN p l e s m below meth c D ad bd cI cZ cJ o b j (C + 1) (Sl + 6) Q) : W p l e room_1 s m #[Value.ref b] below meth c H locs C Sl Q (F0 m 1161 ls []) := by
  obtain ⟨⟨hx, hb, hr, hml, hown, hts0, hX, hbl, hlocks, hgv⟩, htr, hK, hXE, hTB, hDA⟩ := C0
  have hown : s.vm.findClass RL = some m.cls := hown
  have hts : ∀ w ∈ wsL_law, w.before #[Value.ref b] s = true := fun w h => hts0 w (wsL_law_in w h)
  have hbA : ¬ AF s b := Nat.not_le.mpr hbl
  have hO := hR.okc
  have hDm : va_D (AF s) (wM bd cI cZ cJ th n kd fi se sd tr on sy lt ru lg rs) := sameD2 hDA.r rfl
  have hDc : va_D (AF s) ((wC ad cI cZ cJ n kd sd ts fs tr on rp lt ru lg lp) ++ [(o, .inl (cJ, 1, .inr (.inl g)))]) := sameD2 hDA.l rfl
  have hDa : va_D (AF s) (((wC ad cI cZ cJ n kd sd ts fs tr on rp lt ru lg lp) ++ [(o, .inl (cJ, 1, .inr (.inl g)))]) ++ (wM bd cI cZ cJ th n kd fi se sd tr on sy lt ru lg rs)) := sameD2 hDA rfl
  have hF : (nI (awS (itS (lkN ts fs) ru (gsS rp (hsS tr on lt 6) 6) 12) 0 6)) = (nI (awS (mIt sy (wv kd fi se) ru (hsS tr on lt 6) 12) 0 6)) := by rw [it_eq hR]
  obtain ⟨F, hF0⟩ : ∃ F, (nI (awS (mIt sy (wv kd fi se) ru (hsS tr on lt 6) 12) 0 6)) = F := ⟨_, rfl⟩
  replace hF := hF.trans hF0
  refine lv_aload_n hx hb dL_law_1161 rfl (lv_at hl 1 rfl) ?_
  refine puI_V (own := RL) (As := []) (rest := []) (C := RX0) (ci := 0) (q0 := 0) ⟨hx, hb, hml, hown, hts⟩ (c_X0_gaps l D ad cI cZ cJ n kd sd ts fs tr on rp lt ru lg lp hO) gL_law_X0_gaps rfl ⟨rfl, rfl⟩ 0 rfl (by decide +kernel) ⟨Nat.le_of_ble_eq_true rfl, Nat.le_of_ble_eq_true rfl⟩ hPc hK rfl rfl rfl hS hl.1 rfl (Nat.le_of_ble_eq_true rfl) dL_law_1162 ⟨(by omega : C + 0 ≤ 1055), (by omega : Sl + 0 ≤ 13762)⟩ (fun H locs hk1 hS => ?_)
  replace hPm := keptP hPm hk1
  replace hPc := keptP hPc hk1
  replace hPo := keptP hPo hk1
  refine tc_int (y := F) hF ?_
  refine lv_aload_n hx hb dL_law_1165 rfl (lv_at hl 2 rfl) ?_
  refine muI_V (own := RL) (As := []) (rest := [.int F]) (C := RX1) (ci := 1) (q0 := 0) (A1 := AW (wM bd cI cZ cJ th n kd fi se sd tr on sy lt ru lg rs)) (A0 := AF s) ⟨hx, hb, hml, hown, hts⟩ (c_X1_gaps l D bd cI cZ cJ th n kd fi se sd tr on sy lt ru lg rs hR.1 (fun w _ => mIt_end hR w)) gL_law_X1_gaps rfl ⟨rfl, rfl⟩ 0 rfl (by decide +kernel) ⟨Nat.le_of_ble_eq_true rfl, Nat.le_of_ble_eq_true rfl⟩ hPm hK hDm.aw (fun q h => hDm.awA h) rfl rfl rfl hS hl.1 rfl (Nat.le_of_ble_eq_true rfl) dL_law_1166 ⟨(by omega : C + 0 ≤ 1055), (by omega : Sl + 0 ≤ 13762)⟩ (fun u H locs hPm hz1 hk1 hS => ?_)
  replace hPc := hPc.off hk1 (fun q h1 h2 => hDa.dis (AW.same (w := (wC ad cI cZ cJ n kd sd ts fs tr on rp lt ru lg lp) ++ [(o, .inl (cJ, 1, .inr (.inl g)))]) (w' := (wC ad cI cZ cJ n kd sd ts fs tr on rp lt ru lg lp) ++ [(o, .inl (cJ, 1, .inr (.inl g)))]) rfl (AW.inl h1)) h2)
  replace hPo := hPo.off hk1 (fun q h1 h2 => hDa.dis (AW.same (w := (wC ad cI cZ cJ n kd sd ts fs tr on rp lt ru lg lp) ++ [(o, .inl (cJ, 1, .inr (.inl g)))]) (w' := (wC ad cI cZ cJ n kd sd ts fs tr on rp lt ru lg lp) ++ [(o, .inl (cJ, 1, .inr (.inl g)))]) rfl (AW.inr h1)) h2)
  refine tc_int (y := F) hF0 ?_
  refine cT_eq (tgt := 1999) hx hb dL_law_1169 (by decide) rfl ?_
  refine W.widen (k := C + 1) (n := Sl + 6) (by omega) (by omega) ?_
  exact kk n kd fi se sd ts fs tr on sy rp lt ru lg lp _ _ g _ _ ls hR hPc hPm hPo hS (lv_sub hl [0, 1, 2, 3, 4] rfl)
set_option maxHeartbeats 4000000 in
set_option maxRecDepth 100000 in
theorem law_discord {p : Program} {l : Launch} {e : Env} {s : State} {m : MethodId} {below : List Frame} {meth : Method} {c : Code} {D : va_G} {ad bd : Nat → Nat} {cI cZ cJ : ClassId} {o b L : Nat} {xs : Nat → Int32} {Q : State → Prop} (C0 : CX p l s m meth c D ad bd cI cZ cJ o b L xs) {n : Nat} {kd : Nat → Nat} {fi : Nat → Nat} {se : Nat → Nat} {sd : Nat → Bool} {ts : Nat → Int64} {fs : Nat → Int64} {tr : Nat → Nat} {on : Nat → Bool} {sy : Nat → Nat} {rp : Nat → Nat} {lt : Nat} {ru : Nat → Option Nat} {lg : Nat} {lp : Int64} {th : Int32} {rs : Nat → Int32} {g : Nat → Int64} {H : Heap} {locs : List Loc} {ls : Array Slot} {j C Sl : Nat} (hj : 4 * j + 4 ≤ L) (hL : L ≤ 2048) (hC : C + 1 ≤ 1055) (hSl : Sl + 6 ≤ 13762) (hR : REL n kd fi se sd ts fs tr sy rp lt ru lg lp) (hPc : va_P D vwCl (wC ad cI cZ cJ n kd sd ts fs tr on rp lt ru lg lp) H) (hPm : va_P D vwCl (wM bd cI cZ cJ th n kd fi se sd tr on sy lt ru lg rs) H) (hPo : va_P D vwCl [(o, .inl (cJ, 1, .inr (.inl g)))] H) (hS : va_S (AF s) s.heap H locs) (hl : lv_has ls 9 [(0, .ref b), (1, .ref (ad 0)), (2, .ref (bd 0)), (3, .ref o), (4, .int (nI (4 * j)))])
    (kk : KN p l e s m below meth c D ad bd cI cZ cJ o b j (C + 1) (Sl + 6) Q) : W p l e room_1 s m #[Value.ref b] below meth c H locs C Sl Q (F0 m 1174 ls []) := by
  obtain ⟨⟨hx, hb, hr, hml, hown, hts0, hX, hbl, hlocks, hgv⟩, htr, hK, hXE, hTB, hDA⟩ := C0
  have hown : s.vm.findClass RL = some m.cls := hown
  have hts : ∀ w ∈ wsL_law, w.before #[Value.ref b] s = true := fun w h => hts0 w (wsL_law_in w h)
  have hbA : ¬ AF s b := Nat.not_le.mpr hbl
  have hO := hR.okc
  have hDm : va_D (AF s) (wM bd cI cZ cJ th n kd fi se sd tr on sy lt ru lg rs) := sameD2 hDA.r rfl
  have hDc : va_D (AF s) ((wC ad cI cZ cJ n kd sd ts fs tr on rp lt ru lg lp) ++ [(o, .inl (cJ, 1, .inr (.inl g)))]) := sameD2 hDA.l rfl
  have hDa : va_D (AF s) (((wC ad cI cZ cJ n kd sd ts fs tr on rp lt ru lg lp) ++ [(o, .inl (cJ, 1, .inr (.inl g)))]) ++ (wM bd cI cZ cJ th n kd fi se sd tr on sy lt ru lg rs)) := sameD2 hDA rfl
  have hF : (dcV (awS (itS (lkN ts fs) ru (gsS rp (hsS tr on lt 6) 6) 12) 3 6) (awS (itS (lkN ts fs) ru (gsS rp (hsS tr on lt 6) 6) 12) 0 6)) = (dcV (awS (mIt sy (wv kd fi se) ru (hsS tr on lt 6) 12) 3 6) (awS (mIt sy (wv kd fi se) ru (hsS tr on lt 6) 12) 0 6)) := by rw [it_eq hR]
  obtain ⟨F, hF0⟩ : ∃ F, (dcV (awS (mIt sy (wv kd fi se) ru (hsS tr on lt 6) 12) 3 6) (awS (mIt sy (wv kd fi se) ru (hsS tr on lt 6) 12) 0 6)) = F := ⟨_, rfl⟩
  replace hF := hF.trans hF0
  refine lv_aload_n hx hb dL_law_1174 rfl (lv_at hl 1 rfl) ?_
  refine puD_V (own := RL) (As := []) (rest := []) (C := RX0) (ci := 0) (q0 := 0) ⟨hx, hb, hml, hown, hts⟩ (c_X0_discord l D ad cI cZ cJ n kd sd ts fs tr on rp lt ru lg lp hO) gL_law_X0_discord rfl ⟨rfl, rfl⟩ 0 rfl (by decide +kernel) ⟨Nat.le_of_ble_eq_true rfl, Nat.le_of_ble_eq_true rfl⟩ hPc hK rfl rfl rfl hS hl.1 rfl (Nat.le_of_ble_eq_true rfl) dL_law_1175 ⟨(by omega : C + 0 ≤ 1055), (by omega : Sl + 0 ≤ 13762)⟩ (fun H locs hk1 hS => ?_)
  replace hPm := keptP hPm hk1
  replace hPc := keptP hPc hk1
  replace hPo := keptP hPo hk1
  refine tc_double (y := F) hF ?_
  refine lv_dstore (lv' := [(5, .double F), (0, .ref b), (1, .ref (ad 0)), (2, .ref (bd 0)), (3, .ref o), (4, .int (nI (4 * j)))]) hx hb dL_law_1178 hl (by decide) rfl (fun ls hl => ?_)
  refine lv_aload_n hx hb dL_law_1180 rfl (lv_at hl 3 rfl) ?_
  refine muD_V (own := RL) (As := []) (rest := []) (C := RX1) (ci := 1) (q0 := 0) (A1 := AW (wM bd cI cZ cJ th n kd fi se sd tr on sy lt ru lg rs)) (A0 := AF s) ⟨hx, hb, hml, hown, hts⟩ (c_X1_discord l D bd cI cZ cJ th n kd fi se sd tr on sy lt ru lg rs hR.1 (fun w _ => mIt_end hR w)) gL_law_X1_discord rfl ⟨rfl, rfl⟩ 0 rfl (by decide +kernel) ⟨Nat.le_of_ble_eq_true rfl, Nat.le_of_ble_eq_true rfl⟩ hPm hK hDm.aw (fun q h => hDm.awA h) rfl rfl rfl hS hl.1 rfl (Nat.le_of_ble_eq_true rfl) dL_law_1181 ⟨(by omega : C + 0 ≤ 1055), (by omega : Sl + 0 ≤ 13762)⟩ (fun u H locs hPm hz1 hk1 hS => ?_)
  replace hPc := hPc.off hk1 (fun q h1 h2 => hDa.dis (AW.same (w := (wC ad cI cZ cJ n kd sd ts fs tr on rp lt ru lg lp) ++ [(o, .inl (cJ, 1, .inr (.inl g)))]) (w' := (wC ad cI cZ cJ n kd sd ts fs tr on rp lt ru lg lp) ++ [(o, .inl (cJ, 1, .inr (.inl g)))]) rfl (AW.inl h1)) h2)
  replace hPo := hPo.off hk1 (fun q h1 h2 => hDa.dis (AW.same (w := (wC ad cI cZ cJ n kd sd ts fs tr on rp lt ru lg lp) ++ [(o, .inl (cJ, 1, .inr (.inl g)))]) (w' := (wC ad cI cZ cJ n kd sd ts fs tr on rp lt ru lg lp) ++ [(o, .inl (cJ, 1, .inr (.inl g)))]) rfl (AW.inr h1)) h2)
  refine tc_double (y := F) hF0 ?_
  refine lv_dstore (lv' := [(7, .double F), (5, .double F), (0, .ref b), (1, .ref (ad 0)), (2, .ref (bd 0)), (3, .ref o), (4, .int (nI (4 * j)))]) hx hb dL_law_1184 hl (by decide) rfl (fun ls hl => ?_)
  refine lv_dload hx hb dL_law_1186 (lv_at hl 1 rfl) ?_
  refine lv_dload hx hb dL_law_1188 (lv_at hl 0 rfl) ?_
  refine lv_dcmp hx hb dL_law_1190 ?_
  refine zT_eq (tgt := 1212) hx hb dL_law_1191 (by decide) (by rw [← hF0]; exact dcm _ _) ?_
  refine lv_goto (tgt := 1999) hx hb dL_law_1212 (by decide) ?_
  refine W.widen (k := C + 1) (n := Sl + 6) (by omega) (by omega) ?_
  exact kk n kd fi se sd ts fs tr on sy rp lt ru lg lp _ _ g _ _ ls hR hPc hPm hPo hS (lv_sub hl [2, 3, 4, 5, 6] rfl)
set_option maxHeartbeats 4000000 in
set_option maxRecDepth 100000 in
theorem law_heard {p : Program} {l : Launch} {e : Env} {s : State} {m : MethodId} {below : List Frame} {meth : Method} {c : Code} {D : va_G} {ad bd : Nat → Nat} {cI cZ cJ : ClassId} {o b L : Nat} {xs : Nat → Int32} {Q : State → Prop} (C0 : CX p l s m meth c D ad bd cI cZ cJ o b L xs) {n : Nat} {kd : Nat → Nat} {fi : Nat → Nat} {se : Nat → Nat} {sd : Nat → Bool} {ts : Nat → Int64} {fs : Nat → Int64} {tr : Nat → Nat} {on : Nat → Bool} {sy : Nat → Nat} {rp : Nat → Nat} {lt : Nat} {ru : Nat → Option Nat} {lg : Nat} {lp : Int64} {th : Int32} {rs : Nat → Int32} {g : Nat → Int64} {H : Heap} {locs : List Loc} {ls : Array Slot} {j C Sl : Nat} (hj : 4 * j + 4 ≤ L) (hL : L ≤ 2048) (hC : C + 1 ≤ 1055) (hSl : Sl + 6 ≤ 13762) (hR : REL n kd fi se sd ts fs tr sy rp lt ru lg lp) (hPc : va_P D vwCl (wC ad cI cZ cJ n kd sd ts fs tr on rp lt ru lg lp) H) (hPm : va_P D vwCl (wM bd cI cZ cJ th n kd fi se sd tr on sy lt ru lg rs) H) (hPo : va_P D vwCl [(o, .inl (cJ, 1, .inr (.inl g)))] H) (hS : va_S (AF s) s.heap H locs) (hl : lv_has ls 9 [(0, .ref b), (1, .ref (ad 0)), (2, .ref (bd 0)), (3, .ref o), (4, .int (nI (4 * j)))])
    (kk : KN p l e s m below meth c D ad bd cI cZ cJ o b j (C + 1) (Sl + 6) Q) : W p l e room_1 s m #[Value.ref b] below meth c H locs C Sl Q (F0 m 1215 ls []) := by
  obtain ⟨⟨hx, hb, hr, hml, hown, hts0, hX, hbl, hlocks, hgv⟩, htr, hK, hXE, hTB, hDA⟩ := C0
  have hown : s.vm.findClass RL = some m.cls := hown
  have hts : ∀ w ∈ wsL_law, w.before #[Value.ref b] s = true := fun w h => hts0 w (wsL_law_in w h)
  have hbA : ¬ AF s b := Nat.not_le.mpr hbl
  have hO := hR.okc
  have hDm : va_D (AF s) (wM bd cI cZ cJ th n kd fi se sd tr on sy lt ru lg rs) := sameD2 hDA.r rfl
  have hDc : va_D (AF s) ((wC ad cI cZ cJ n kd sd ts fs tr on rp lt ru lg lp) ++ [(o, .inl (cJ, 1, .inr (.inl g)))]) := sameD2 hDA.l rfl
  have hDa : va_D (AF s) (((wC ad cI cZ cJ n kd sd ts fs tr on rp lt ru lg lp) ++ [(o, .inl (cJ, 1, .inr (.inl g)))]) ++ (wM bd cI cZ cJ th n kd fi se sd tr on sy lt ru lg rs)) := sameD2 hDA rfl
  have hF : (nI (hsS tr on lt 6)) = (nI (hsS tr on lt 6)) := rfl
  obtain ⟨F, hF0⟩ : ∃ F, (nI (hsS tr on lt 6)) = F := ⟨_, rfl⟩
  replace hF := hF.trans hF0
  refine lv_aload_n hx hb dL_law_1215 rfl (lv_at hl 1 rfl) ?_
  refine puI_V (own := RL) (As := []) (rest := []) (C := RX0) (ci := 0) (q0 := 0) ⟨hx, hb, hml, hown, hts⟩ (c_X0_heard l D ad cI cZ cJ n kd sd ts fs tr on rp lt ru lg lp hO) gL_law_X0_heard rfl ⟨rfl, rfl⟩ 0 rfl (by decide +kernel) ⟨Nat.le_of_ble_eq_true rfl, Nat.le_of_ble_eq_true rfl⟩ hPc hK rfl rfl rfl hS hl.1 rfl (Nat.le_of_ble_eq_true rfl) dL_law_1216 ⟨(by omega : C + 0 ≤ 1055), (by omega : Sl + 0 ≤ 13762)⟩ (fun H locs hk1 hS => ?_)
  replace hPm := keptP hPm hk1
  replace hPc := keptP hPc hk1
  replace hPo := keptP hPo hk1
  refine tc_int (y := F) hF ?_
  refine lv_aload_n hx hb dL_law_1219 rfl (lv_at hl 2 rfl) ?_
  refine muI_V (own := RL) (As := []) (rest := [.int F]) (C := RX1) (ci := 1) (q0 := 0) (A1 := AW (wM bd cI cZ cJ th n kd fi se sd tr on sy lt ru lg rs)) (A0 := AF s) ⟨hx, hb, hml, hown, hts⟩ (c_X1_heard l D bd cI cZ cJ th n kd fi se sd tr on sy lt ru lg rs hR.1) gL_law_X1_heard rfl ⟨rfl, rfl⟩ 0 rfl (by decide +kernel) ⟨Nat.le_of_ble_eq_true rfl, Nat.le_of_ble_eq_true rfl⟩ hPm hK hDm.aw (fun q h => hDm.awA h) rfl rfl rfl hS hl.1 rfl (Nat.le_of_ble_eq_true rfl) dL_law_1220 ⟨(by omega : C + 0 ≤ 1055), (by omega : Sl + 0 ≤ 13762)⟩ (fun u H locs hPm hz1 hk1 hS => ?_)
  replace hPc := hPc.off hk1 (fun q h1 h2 => hDa.dis (AW.same (w := (wC ad cI cZ cJ n kd sd ts fs tr on rp lt ru lg lp) ++ [(o, .inl (cJ, 1, .inr (.inl g)))]) (w' := (wC ad cI cZ cJ n kd sd ts fs tr on rp lt ru lg lp) ++ [(o, .inl (cJ, 1, .inr (.inl g)))]) rfl (AW.inl h1)) h2)
  replace hPo := hPo.off hk1 (fun q h1 h2 => hDa.dis (AW.same (w := (wC ad cI cZ cJ n kd sd ts fs tr on rp lt ru lg lp) ++ [(o, .inl (cJ, 1, .inr (.inl g)))]) (w' := (wC ad cI cZ cJ n kd sd ts fs tr on rp lt ru lg lp) ++ [(o, .inl (cJ, 1, .inr (.inl g)))]) rfl (AW.inr h1)) h2)
  refine tc_int (y := F) hF0 ?_
  refine cT_eq (tgt := 1999) hx hb dL_law_1223 (by decide) rfl ?_
  refine W.widen (k := C + 1) (n := Sl + 6) (by omega) (by omega) ?_
  exact kk n kd fi se sd ts fs tr on sy rp lt ru lg lp _ _ g _ _ ls hR hPc hPm hPo hS (lv_sub hl [0, 1, 2, 3, 4] rfl)
set_option maxHeartbeats 4000000 in
set_option maxRecDepth 100000 in
theorem law_sayers {p : Program} {l : Launch} {e : Env} {s : State} {m : MethodId} {below : List Frame} {meth : Method} {c : Code} {D : va_G} {ad bd : Nat → Nat} {cI cZ cJ : ClassId} {o b L : Nat} {xs : Nat → Int32} {Q : State → Prop} (C0 : CX p l s m meth c D ad bd cI cZ cJ o b L xs) {n : Nat} {kd : Nat → Nat} {fi : Nat → Nat} {se : Nat → Nat} {sd : Nat → Bool} {ts : Nat → Int64} {fs : Nat → Int64} {tr : Nat → Nat} {on : Nat → Bool} {sy : Nat → Nat} {rp : Nat → Nat} {lt : Nat} {ru : Nat → Option Nat} {lg : Nat} {lp : Int64} {th : Int32} {rs : Nat → Int32} {g : Nat → Int64} {H : Heap} {locs : List Loc} {ls : Array Slot} {j C Sl : Nat} (hj : 4 * j + 4 ≤ L) (hL : L ≤ 2048) (hC : C + 1 ≤ 1055) (hSl : Sl + 6 ≤ 13762) (hR : REL n kd fi se sd ts fs tr sy rp lt ru lg lp) (hPc : va_P D vwCl (wC ad cI cZ cJ n kd sd ts fs tr on rp lt ru lg lp) H) (hPm : va_P D vwCl (wM bd cI cZ cJ th n kd fi se sd tr on sy lt ru lg rs) H) (hPo : va_P D vwCl [(o, .inl (cJ, 1, .inr (.inl g)))] H) (hS : va_S (AF s) s.heap H locs) (hl : lv_has ls 9 [(0, .ref b), (1, .ref (ad 0)), (2, .ref (bd 0)), (3, .ref o), (4, .int (nI (4 * j)))])
    (kk : KN p l e s m below meth c D ad bd cI cZ cJ o b j (C + 1) (Sl + 6) Q) : W p l e room_1 s m #[Value.ref b] below meth c H locs C Sl Q (F0 m 1228 ls []) := by
  obtain ⟨⟨hx, hb, hr, hml, hown, hts0, hX, hbl, hlocks, hgv⟩, htr, hK, hXE, hTB, hDA⟩ := C0
  have hown : s.vm.findClass RL = some m.cls := hown
  have hts : ∀ w ∈ wsL_law, w.before #[Value.ref b] s = true := fun w h => hts0 w (wsL_law_in w h)
  have hbA : ¬ AF s b := Nat.not_le.mpr hbl
  have hO := hR.okc
  have hDm : va_D (AF s) (wM bd cI cZ cJ th n kd fi se sd tr on sy lt ru lg rs) := sameD2 hDA.r rfl
  have hDc : va_D (AF s) ((wC ad cI cZ cJ n kd sd ts fs tr on rp lt ru lg lp) ++ [(o, .inl (cJ, 1, .inr (.inl g)))]) := sameD2 hDA.l rfl
  have hDa : va_D (AF s) (((wC ad cI cZ cJ n kd sd ts fs tr on rp lt ru lg lp) ++ [(o, .inl (cJ, 1, .inr (.inl g)))]) ++ (wM bd cI cZ cJ th n kd fi se sd tr on sy lt ru lg rs)) := sameD2 hDA rfl
  by_cases hz : xs (4 * j + 2) = 0
  · obtain ⟨k, r, n', kd', fi', se', sd', ts', fs', tr', on', sy', rp', lt', ru', lg', lp', hR', hWr, hMd⟩ := op_sayers l D ad bd cI cZ cJ o htr hR (xs (4 * j + 1)) false (on := on)
    obtain ⟨g', hLW, hans⟩ := hWr g
    refine lv_aload_n hx hb dL_law_1228 rfl (lv_at hl 1 rfl) ?_
    refine lv_aload_n hx hb dL_law_1229 rfl (lv_at hl 0 rfl) ?_
    refine lv_iload hx hb dL_law_1230 (lv_at hl 4 rfl) ?_
    refine lv_iconst (v := nI 1) hx hb dL_law_1232 (by decide) ?_
    refine lv_iadd hx hb dL_law_1233 ?_
    refine tc_int (y := nI (4 * j + 1)) (nI_add _ _) ?_
    refine va_sld hx hb hX hbl hbA hS (vp_in_nI (n := (4 * j + 1)) (by omega) (by omega)) dL_law_1234 ?_
    refine tc_int (y := xs (4 * j + 1)) (by rw [nI_clamp (by omega)]) ?_
    refine lv_aload_n hx hb dL_law_1235 rfl (lv_at hl 0 rfl) ?_
    refine lv_iload hx hb dL_law_1236 (lv_at hl 4 rfl) ?_
    refine lv_iconst (v := nI 2) hx hb dL_law_1238 (by decide) ?_
    refine lv_iadd hx hb dL_law_1239 ?_
    refine tc_int (y := nI (4 * j + 2)) (nI_add _ _) ?_
    refine va_sld hx hb hX hbl hbA hS (vp_in_nI (n := (4 * j + 2)) (by omega) (by omega)) dL_law_1240 ?_
    refine tc_int (y := xs (4 * j + 2)) (by rw [nI_clamp (by omega)]) ?_
    refine zT_eq (tgt := 1248) hx hb dL_law_1241 (by decide) hz ?_
    refine lv_iconst (v := nI 0) hx hb dL_law_1248 (by decide) ?_
    refine tc_int (y := bI false) (by decide) ?_
    refine lv_aload_n hx hb dL_law_1249 rfl (lv_at hl 3 rfl) ?_
    refine lw_S (own := RL) (As := [.ref (ad 0), .int (xs (4 * j + 1)), .int (bI false), .ref o]) (rest := []) (A1 := AW ((wC ad cI cZ cJ n kd sd ts fs tr on rp lt ru lg lp) ++ [(o, .inl (cJ, 1, .inr (.inl g)))])) (A0 := AF s) ⟨hx, hb, hml, hown, hts⟩ hLW gL_law_L_sayers rfl ⟨rfl, rfl⟩ 4 rfl (by decide +kernel) ⟨Nat.le_of_ble_eq_true rfl, Nat.le_of_ble_eq_true rfl⟩ (hPc.app hPo) hK hDc.aw (hXE.kept (fun q h1 _ => hS.2.1 q h1 (Nat.not_le.mpr h1))) ((hTB.kept hS.2.1).narrow (fun q h => hDc.awA h)) (fun q h => hDc.awA h) (fun q h => Nat.le_trans hS.1 h) hS hl.1 rfl (Nat.le_of_ble_eq_true rfl) dL_law_1250 ⟨(by omega : C + 1 ≤ 1055), (by omega : Sl + 6 ≤ 13762)⟩ (fun H locs hP9 hz1 hk1 hS => ?_)
    replace hPm := hPm.off hk1 (fun q h1 h2 => hDa.dis h2 h1)
    replace hPc := hP9.l
    replace hPo := hP9.r
    refine lv_istore (lv' := [(5, .int k), (0, .ref b), (1, .ref (ad 0)), (2, .ref (bd 0)), (3, .ref o), (4, .int (nI (4 * j)))]) hx hb dL_law_1253 hl (by decide) rfl (fun ls hl => ?_)
    refine lv_aload_n hx hb dL_law_1255 rfl (lv_at hl 3 rfl) ?_
    refine lv_aload_n hx hb dL_law_1256 rfl (lv_at hl 1 rfl) ?_
    refine lv_iload hx hb dL_law_1257 (lv_at hl 5 rfl) ?_
    refine lv_iconst (v := nI 1) hx hb dL_law_1259 (by decide) ?_
    refine lv_iadd hx hb dL_law_1260 ?_
    refine tc_int (y := nI (4 * j + 1)) (nI_add _ _) ?_
    refine va_sld hx hb hX hbl hbA hS (vp_in_nI (n := (4 * j + 1)) (by omega) (by omega)) dL_law_1261 ?_
    refine tc_int (y := xs (4 * j + 1)) (by rw [nI_clamp (by omega)]) ?_
    refine lv_aload_n hx hb dL_law_1262 rfl (lv_at hl 1 rfl) ?_
    refine lv_iload hx hb dL_law_1263 (lv_at hl 5 rfl) ?_
    refine lv_iconst (v := nI 2) hx hb dL_law_1265 (by decide) ?_
    refine lv_iadd hx hb dL_law_1266 ?_
    refine tc_int (y := nI (4 * j + 2)) (nI_add _ _) ?_
    refine va_sld hx hb hX hbl hbA hS (vp_in_nI (n := (4 * j + 2)) (by omega) (by omega)) dL_law_1267 ?_
    refine tc_int (y := xs (4 * j + 2)) (by rw [nI_clamp (by omega)]) ?_
    refine zT_eq (tgt := 1275) hx hb dL_law_1268 (by decide) hz ?_
    refine lv_iconst (v := nI 0) hx hb dL_law_1275 (by decide) ?_
    refine tc_int (y := bI false) (by decide) ?_
    refine muI_V (own := RL) (As := [.int (xs (4 * j + 1)), .int (bI false)]) (rest := []) (C := RX1) (ci := 1) (q0 := 0) (A1 := AW (wM bd cI cZ cJ th n kd fi se sd tr on sy lt ru lg rs)) (A0 := AF s) ⟨hx, hb, hml, hown, hts⟩ (hMd th rs) gL_law_X1_sayers rfl ⟨rfl, rfl⟩ 2 rfl (by decide +kernel) ⟨Nat.le_of_ble_eq_true rfl, Nat.le_of_ble_eq_true rfl⟩ hPm hK hDm.aw (fun q h => hDm.awA h) rfl rfl rfl hS hl.1 rfl (Nat.le_of_ble_eq_true rfl) dL_law_1276 ⟨(by omega : C + 1 + 0 ≤ 1055), (by omega : Sl + 6 + 0 ≤ 13762)⟩ (fun u H locs hPm hz1 hk1 hS => ?_)
    replace hPc := hPc.off hk1 (fun q h1 h2 => hDa.dis (AW.same (w := (wC ad cI cZ cJ n' kd' sd' ts' fs' tr' on' rp' lt' ru' lg' lp') ++ [(o, .inl (cJ, 1, .inr (.inl g)))]) (w' := (wC ad cI cZ cJ n kd sd ts fs tr on rp lt ru lg lp) ++ [(o, .inl (cJ, 1, .inr (.inl g)))]) rfl (AW.inl h1)) h2)
    replace hPo := hPo.off hk1 (fun q h1 h2 => hDa.dis (AW.same (w := (wC ad cI cZ cJ n kd sd ts fs tr on rp lt ru lg lp) ++ [(o, .inl (cJ, 1, .inr (.inl g')))]) (w' := (wC ad cI cZ cJ n kd sd ts fs tr on rp lt ru lg lp) ++ [(o, .inl (cJ, 1, .inr (.inl g)))]) rfl (AW.inr h1)) h2)
    refine lv_istore (lv' := [(6, .int r), (5, .int k), (0, .ref b), (1, .ref (ad 0)), (2, .ref (bd 0)), (3, .ref o), (4, .int (nI (4 * j)))]) hx hb dL_law_1279 hl (by decide) rfl (fun ls hl => ?_)
    refine lv_aload_n hx hb dL_law_1281 rfl (lv_at hl 4 rfl) ?_
    refine puI_V (own := RL) (As := []) (rest := []) (C := RX1) (ci := 1) (q0 := 0) ⟨hx, hb, hml, hown, hts⟩ (c_X1_thrown l D bd cI cZ cJ _ _ _ _ _ _ _ _ _ _ _ _ _) gL_law_X1_thrown rfl ⟨rfl, rfl⟩ 0 rfl (by decide +kernel) ⟨Nat.le_of_ble_eq_true rfl, Nat.le_of_ble_eq_true rfl⟩ hPm hK rfl rfl rfl hS hl.1 rfl (Nat.le_of_ble_eq_true rfl) dL_law_1282 ⟨(by omega : C + 1 + 0 ≤ 1055), (by omega : Sl + 6 + 0 ≤ 13762)⟩ (fun H locs hk1 hS => ?_)
    replace hPm := keptP hPm hk1
    replace hPc := keptP hPc hk1
    replace hPo := keptP hPo hk1
    refine lv_iload hx hb dL_law_1285 (lv_at hl 1 rfl) ?_
    refine cT_eq (tgt := 1292) hx hb dL_law_1287 (by decide) rfl ?_
    refine lv_iload hx hb dL_law_1292 (lv_at hl 1 rfl) ?_
    by_cases hk0 : k = 0
    · refine zF_ne (tgt := 1309) hx hb dL_law_1294 (by decide) hk0 ?_
      refine lv_aload_n hx hb dL_law_1297 rfl (lv_at hl 5 rfl) ?_
      refine lv_iconst (v := nI 0) hx hb dL_law_1298 (by decide) ?_
      refine ld_nl hx hb hK hPo 0 2 rfl rfl (j := 0) (by decide) (by decide) dL_law_1299 ?_
      refine lv_iload hx hb dL_law_1300 (lv_at hl 0 rfl) ?_
      refine lv_i2l (v := r.toInt64) hx hb dL_law_1302 rfl ?_
      refine W.lcmp hx hb dL_law_1303 ?_
      refine zT_eq (tgt := 1309) hx hb dL_law_1304 (by decide) (lcEq (by rw [hans hk0, if_neg (by decide)])) ?_
      refine lv_goto (tgt := 1999) hx hb dL_law_1309 (by decide) ?_
      exact kk n' kd' fi' se' sd' ts' fs' tr' on' sy' rp' lt' ru' lg' lp' k _ g' _ _ ls hR' hPc hPm hPo hS (lv_sub hl [2, 3, 4, 5, 6] rfl)
    · refine zT_ne (tgt := 1309) hx hb dL_law_1294 (by decide) hk0 ?_
      refine lv_goto (tgt := 1999) hx hb dL_law_1309 (by decide) ?_
      exact kk n' kd' fi' se' sd' ts' fs' tr' on' sy' rp' lt' ru' lg' lp' k _ g' _ _ ls hR' hPc hPm hPo hS (lv_sub hl [2, 3, 4, 5, 6] rfl)
  · obtain ⟨k, r, n', kd', fi', se', sd', ts', fs', tr', on', sy', rp', lt', ru', lg', lp', hR', hWr, hMd⟩ := op_sayers l D ad bd cI cZ cJ o htr hR (xs (4 * j + 1)) true (on := on)
    obtain ⟨g', hLW, hans⟩ := hWr g
    refine lv_aload_n hx hb dL_law_1228 rfl (lv_at hl 1 rfl) ?_
    refine lv_aload_n hx hb dL_law_1229 rfl (lv_at hl 0 rfl) ?_
    refine lv_iload hx hb dL_law_1230 (lv_at hl 4 rfl) ?_
    refine lv_iconst (v := nI 1) hx hb dL_law_1232 (by decide) ?_
    refine lv_iadd hx hb dL_law_1233 ?_
    refine tc_int (y := nI (4 * j + 1)) (nI_add _ _) ?_
    refine va_sld hx hb hX hbl hbA hS (vp_in_nI (n := (4 * j + 1)) (by omega) (by omega)) dL_law_1234 ?_
    refine tc_int (y := xs (4 * j + 1)) (by rw [nI_clamp (by omega)]) ?_
    refine lv_aload_n hx hb dL_law_1235 rfl (lv_at hl 0 rfl) ?_
    refine lv_iload hx hb dL_law_1236 (lv_at hl 4 rfl) ?_
    refine lv_iconst (v := nI 2) hx hb dL_law_1238 (by decide) ?_
    refine lv_iadd hx hb dL_law_1239 ?_
    refine tc_int (y := nI (4 * j + 2)) (nI_add _ _) ?_
    refine va_sld hx hb hX hbl hbA hS (vp_in_nI (n := (4 * j + 2)) (by omega) (by omega)) dL_law_1240 ?_
    refine tc_int (y := xs (4 * j + 2)) (by rw [nI_clamp (by omega)]) ?_
    refine zF_eq (tgt := 1248) hx hb dL_law_1241 (by decide) hz ?_
    refine lv_iconst (v := nI 1) hx hb dL_law_1244 (by decide) ?_
    refine tc_int (y := bI true) (by decide) ?_
    refine lv_goto (tgt := 1249) hx hb dL_law_1245 (by decide) ?_
    refine lv_aload_n hx hb dL_law_1249 rfl (lv_at hl 3 rfl) ?_
    refine lw_S (own := RL) (As := [.ref (ad 0), .int (xs (4 * j + 1)), .int (bI true), .ref o]) (rest := []) (A1 := AW ((wC ad cI cZ cJ n kd sd ts fs tr on rp lt ru lg lp) ++ [(o, .inl (cJ, 1, .inr (.inl g)))])) (A0 := AF s) ⟨hx, hb, hml, hown, hts⟩ hLW gL_law_L_sayers rfl ⟨rfl, rfl⟩ 4 rfl (by decide +kernel) ⟨Nat.le_of_ble_eq_true rfl, Nat.le_of_ble_eq_true rfl⟩ (hPc.app hPo) hK hDc.aw (hXE.kept (fun q h1 _ => hS.2.1 q h1 (Nat.not_le.mpr h1))) ((hTB.kept hS.2.1).narrow (fun q h => hDc.awA h)) (fun q h => hDc.awA h) (fun q h => Nat.le_trans hS.1 h) hS hl.1 rfl (Nat.le_of_ble_eq_true rfl) dL_law_1250 ⟨(by omega : C + 1 ≤ 1055), (by omega : Sl + 6 ≤ 13762)⟩ (fun H locs hP9 hz1 hk1 hS => ?_)
    replace hPm := hPm.off hk1 (fun q h1 h2 => hDa.dis h2 h1)
    replace hPc := hP9.l
    replace hPo := hP9.r
    refine lv_istore (lv' := [(5, .int k), (0, .ref b), (1, .ref (ad 0)), (2, .ref (bd 0)), (3, .ref o), (4, .int (nI (4 * j)))]) hx hb dL_law_1253 hl (by decide) rfl (fun ls hl => ?_)
    refine lv_aload_n hx hb dL_law_1255 rfl (lv_at hl 3 rfl) ?_
    refine lv_aload_n hx hb dL_law_1256 rfl (lv_at hl 1 rfl) ?_
    refine lv_iload hx hb dL_law_1257 (lv_at hl 5 rfl) ?_
    refine lv_iconst (v := nI 1) hx hb dL_law_1259 (by decide) ?_
    refine lv_iadd hx hb dL_law_1260 ?_
    refine tc_int (y := nI (4 * j + 1)) (nI_add _ _) ?_
    refine va_sld hx hb hX hbl hbA hS (vp_in_nI (n := (4 * j + 1)) (by omega) (by omega)) dL_law_1261 ?_
    refine tc_int (y := xs (4 * j + 1)) (by rw [nI_clamp (by omega)]) ?_
    refine lv_aload_n hx hb dL_law_1262 rfl (lv_at hl 1 rfl) ?_
    refine lv_iload hx hb dL_law_1263 (lv_at hl 5 rfl) ?_
    refine lv_iconst (v := nI 2) hx hb dL_law_1265 (by decide) ?_
    refine lv_iadd hx hb dL_law_1266 ?_
    refine tc_int (y := nI (4 * j + 2)) (nI_add _ _) ?_
    refine va_sld hx hb hX hbl hbA hS (vp_in_nI (n := (4 * j + 2)) (by omega) (by omega)) dL_law_1267 ?_
    refine tc_int (y := xs (4 * j + 2)) (by rw [nI_clamp (by omega)]) ?_
    refine zF_eq (tgt := 1275) hx hb dL_law_1268 (by decide) hz ?_
    refine lv_iconst (v := nI 1) hx hb dL_law_1271 (by decide) ?_
    refine tc_int (y := bI true) (by decide) ?_
    refine lv_goto (tgt := 1276) hx hb dL_law_1272 (by decide) ?_
    refine muI_V (own := RL) (As := [.int (xs (4 * j + 1)), .int (bI true)]) (rest := []) (C := RX1) (ci := 1) (q0 := 0) (A1 := AW (wM bd cI cZ cJ th n kd fi se sd tr on sy lt ru lg rs)) (A0 := AF s) ⟨hx, hb, hml, hown, hts⟩ (hMd th rs) gL_law_X1_sayers rfl ⟨rfl, rfl⟩ 2 rfl (by decide +kernel) ⟨Nat.le_of_ble_eq_true rfl, Nat.le_of_ble_eq_true rfl⟩ hPm hK hDm.aw (fun q h => hDm.awA h) rfl rfl rfl hS hl.1 rfl (Nat.le_of_ble_eq_true rfl) dL_law_1276 ⟨(by omega : C + 1 + 0 ≤ 1055), (by omega : Sl + 6 + 0 ≤ 13762)⟩ (fun u H locs hPm hz1 hk1 hS => ?_)
    replace hPc := hPc.off hk1 (fun q h1 h2 => hDa.dis (AW.same (w := (wC ad cI cZ cJ n' kd' sd' ts' fs' tr' on' rp' lt' ru' lg' lp') ++ [(o, .inl (cJ, 1, .inr (.inl g)))]) (w' := (wC ad cI cZ cJ n kd sd ts fs tr on rp lt ru lg lp) ++ [(o, .inl (cJ, 1, .inr (.inl g)))]) rfl (AW.inl h1)) h2)
    replace hPo := hPo.off hk1 (fun q h1 h2 => hDa.dis (AW.same (w := (wC ad cI cZ cJ n kd sd ts fs tr on rp lt ru lg lp) ++ [(o, .inl (cJ, 1, .inr (.inl g')))]) (w' := (wC ad cI cZ cJ n kd sd ts fs tr on rp lt ru lg lp) ++ [(o, .inl (cJ, 1, .inr (.inl g)))]) rfl (AW.inr h1)) h2)
    refine lv_istore (lv' := [(6, .int r), (5, .int k), (0, .ref b), (1, .ref (ad 0)), (2, .ref (bd 0)), (3, .ref o), (4, .int (nI (4 * j)))]) hx hb dL_law_1279 hl (by decide) rfl (fun ls hl => ?_)
    refine lv_aload_n hx hb dL_law_1281 rfl (lv_at hl 4 rfl) ?_
    refine puI_V (own := RL) (As := []) (rest := []) (C := RX1) (ci := 1) (q0 := 0) ⟨hx, hb, hml, hown, hts⟩ (c_X1_thrown l D bd cI cZ cJ _ _ _ _ _ _ _ _ _ _ _ _ _) gL_law_X1_thrown rfl ⟨rfl, rfl⟩ 0 rfl (by decide +kernel) ⟨Nat.le_of_ble_eq_true rfl, Nat.le_of_ble_eq_true rfl⟩ hPm hK rfl rfl rfl hS hl.1 rfl (Nat.le_of_ble_eq_true rfl) dL_law_1282 ⟨(by omega : C + 1 + 0 ≤ 1055), (by omega : Sl + 6 + 0 ≤ 13762)⟩ (fun H locs hk1 hS => ?_)
    replace hPm := keptP hPm hk1
    replace hPc := keptP hPc hk1
    replace hPo := keptP hPo hk1
    refine lv_iload hx hb dL_law_1285 (lv_at hl 1 rfl) ?_
    refine cT_eq (tgt := 1292) hx hb dL_law_1287 (by decide) rfl ?_
    refine lv_iload hx hb dL_law_1292 (lv_at hl 1 rfl) ?_
    by_cases hk0 : k = 0
    · refine zF_ne (tgt := 1309) hx hb dL_law_1294 (by decide) hk0 ?_
      refine lv_aload_n hx hb dL_law_1297 rfl (lv_at hl 5 rfl) ?_
      refine lv_iconst (v := nI 0) hx hb dL_law_1298 (by decide) ?_
      refine ld_nl hx hb hK hPo 0 2 rfl rfl (j := 0) (by decide) (by decide) dL_law_1299 ?_
      refine lv_iload hx hb dL_law_1300 (lv_at hl 0 rfl) ?_
      refine lv_i2l (v := r.toInt64) hx hb dL_law_1302 rfl ?_
      refine W.lcmp hx hb dL_law_1303 ?_
      refine zT_eq (tgt := 1309) hx hb dL_law_1304 (by decide) (lcEq (by rw [hans hk0, if_neg (by decide)])) ?_
      refine lv_goto (tgt := 1999) hx hb dL_law_1309 (by decide) ?_
      exact kk n' kd' fi' se' sd' ts' fs' tr' on' sy' rp' lt' ru' lg' lp' k _ g' _ _ ls hR' hPc hPm hPo hS (lv_sub hl [2, 3, 4, 5, 6] rfl)
    · refine zT_ne (tgt := 1309) hx hb dL_law_1294 (by decide) hk0 ?_
      refine lv_goto (tgt := 1999) hx hb dL_law_1309 (by decide) ?_
      exact kk n' kd' fi' se' sd' ts' fs' tr' on' sy' rp' lt' ru' lg' lp' k _ g' _ _ ls hR' hPc hPm hPo hS (lv_sub hl [2, 3, 4, 5, 6] rfl)
set_option maxHeartbeats 4000000 in
set_option maxRecDepth 100000 in
theorem law_matters {p : Program} {l : Launch} {e : Env} {s : State} {m : MethodId} {below : List Frame} {meth : Method} {c : Code} {D : va_G} {ad bd : Nat → Nat} {cI cZ cJ : ClassId} {o b L : Nat} {xs : Nat → Int32} {Q : State → Prop} (C0 : CX p l s m meth c D ad bd cI cZ cJ o b L xs) {n : Nat} {kd : Nat → Nat} {fi : Nat → Nat} {se : Nat → Nat} {sd : Nat → Bool} {ts : Nat → Int64} {fs : Nat → Int64} {tr : Nat → Nat} {on : Nat → Bool} {sy : Nat → Nat} {rp : Nat → Nat} {lt : Nat} {ru : Nat → Option Nat} {lg : Nat} {lp : Int64} {th : Int32} {rs : Nat → Int32} {g : Nat → Int64} {H : Heap} {locs : List Loc} {ls : Array Slot} {j C Sl : Nat} (hj : 4 * j + 4 ≤ L) (hL : L ≤ 2048) (hC : C + 1 ≤ 1055) (hSl : Sl + 6 ≤ 13762) (hR : REL n kd fi se sd ts fs tr sy rp lt ru lg lp) (hPc : va_P D vwCl (wC ad cI cZ cJ n kd sd ts fs tr on rp lt ru lg lp) H) (hPm : va_P D vwCl (wM bd cI cZ cJ th n kd fi se sd tr on sy lt ru lg rs) H) (hPo : va_P D vwCl [(o, .inl (cJ, 1, .inr (.inl g)))] H) (hS : va_S (AF s) s.heap H locs) (hl : lv_has ls 9 [(0, .ref b), (1, .ref (ad 0)), (2, .ref (bd 0)), (3, .ref o), (4, .int (nI (4 * j)))])
    (kk : KN p l e s m below meth c D ad bd cI cZ cJ o b j (C + 1) (Sl + 6) Q) : W p l e room_1 s m #[Value.ref b] below meth c H locs C Sl Q (F0 m 1312 ls []) := by
  obtain ⟨⟨hx, hb, hr, hml, hown, hts0, hX, hbl, hlocks, hgv⟩, htr, hK, hXE, hTB, hDA⟩ := C0
  have hown : s.vm.findClass RL = some m.cls := hown
  have hts : ∀ w ∈ wsL_law, w.before #[Value.ref b] s = true := fun w h => hts0 w (wsL_law_in w h)
  have hbA : ¬ AF s b := Nat.not_le.mpr hbl
  have hO := hR.okc
  have hDm : va_D (AF s) (wM bd cI cZ cJ th n kd fi se sd tr on sy lt ru lg rs) := sameD2 hDA.r rfl
  have hDc : va_D (AF s) ((wC ad cI cZ cJ n kd sd ts fs tr on rp lt ru lg lp) ++ [(o, .inl (cJ, 1, .inr (.inl g)))]) := sameD2 hDA.l rfl
  have hDa : va_D (AF s) (((wC ad cI cZ cJ n kd sd ts fs tr on rp lt ru lg lp) ++ [(o, .inl (cJ, 1, .inr (.inl g)))]) ++ (wM bd cI cZ cJ th n kd fi se sd tr on sy lt ru lg rs)) := sameD2 hDA rfl
  obtain ⟨k, r, n', kd', fi', se', sd', ts', fs', tr', on', sy', rp', lt', ru', lg', lp', hR', hWr, hMd⟩ := op_matters l D ad bd cI cZ cJ o htr hR (xs (4 * j + 1)) (xs (4 * j + 2)) (on := on)
  obtain ⟨g', hLW, hans⟩ := hWr g
  refine lv_aload_n hx hb dL_law_1312 rfl (lv_at hl 1 rfl) ?_
  refine lv_aload_n hx hb dL_law_1313 rfl (lv_at hl 0 rfl) ?_
  refine lv_iload hx hb dL_law_1314 (lv_at hl 4 rfl) ?_
  refine lv_iconst (v := nI 1) hx hb dL_law_1316 (by decide) ?_
  refine lv_iadd hx hb dL_law_1317 ?_
  refine tc_int (y := nI (4 * j + 1)) (nI_add _ _) ?_
  refine va_sld hx hb hX hbl hbA hS (vp_in_nI (n := (4 * j + 1)) (by omega) (by omega)) dL_law_1318 ?_
  refine tc_int (y := xs (4 * j + 1)) (by rw [nI_clamp (by omega)]) ?_
  refine lv_aload_n hx hb dL_law_1319 rfl (lv_at hl 0 rfl) ?_
  refine lv_iload hx hb dL_law_1320 (lv_at hl 4 rfl) ?_
  refine lv_iconst (v := nI 2) hx hb dL_law_1322 (by decide) ?_
  refine lv_iadd hx hb dL_law_1323 ?_
  refine tc_int (y := nI (4 * j + 2)) (nI_add _ _) ?_
  refine va_sld hx hb hX hbl hbA hS (vp_in_nI (n := (4 * j + 2)) (by omega) (by omega)) dL_law_1324 ?_
  refine tc_int (y := xs (4 * j + 2)) (by rw [nI_clamp (by omega)]) ?_
  refine lv_aload_n hx hb dL_law_1325 rfl (lv_at hl 3 rfl) ?_
  refine lw_S (own := RL) (As := [.ref (ad 0), .int (xs (4 * j + 1)), .int (xs (4 * j + 2)), .ref o]) (rest := []) (A1 := AW ((wC ad cI cZ cJ n kd sd ts fs tr on rp lt ru lg lp) ++ [(o, .inl (cJ, 1, .inr (.inl g)))])) (A0 := AF s) ⟨hx, hb, hml, hown, hts⟩ hLW gL_law_L_matters rfl ⟨rfl, rfl⟩ 4 rfl (by decide +kernel) ⟨Nat.le_of_ble_eq_true rfl, Nat.le_of_ble_eq_true rfl⟩ (hPc.app hPo) hK hDc.aw (hXE.kept (fun q h1 _ => hS.2.1 q h1 (Nat.not_le.mpr h1))) ((hTB.kept hS.2.1).narrow (fun q h => hDc.awA h)) (fun q h => hDc.awA h) (fun q h => Nat.le_trans hS.1 h) hS hl.1 rfl (Nat.le_of_ble_eq_true rfl) dL_law_1326 ⟨(by omega : C + 1 ≤ 1055), (by omega : Sl + 6 ≤ 13762)⟩ (fun H locs hP9 hz1 hk1 hS => ?_)
  replace hPm := hPm.off hk1 (fun q h1 h2 => hDa.dis h2 h1)
  replace hPc := hP9.l
  replace hPo := hP9.r
  refine lv_istore (lv' := [(5, .int k), (0, .ref b), (1, .ref (ad 0)), (2, .ref (bd 0)), (3, .ref o), (4, .int (nI (4 * j)))]) hx hb dL_law_1329 hl (by decide) rfl (fun ls hl => ?_)
  refine lv_aload_n hx hb dL_law_1331 rfl (lv_at hl 3 rfl) ?_
  refine lv_aload_n hx hb dL_law_1332 rfl (lv_at hl 1 rfl) ?_
  refine lv_iload hx hb dL_law_1333 (lv_at hl 5 rfl) ?_
  refine lv_iconst (v := nI 1) hx hb dL_law_1335 (by decide) ?_
  refine lv_iadd hx hb dL_law_1336 ?_
  refine tc_int (y := nI (4 * j + 1)) (nI_add _ _) ?_
  refine va_sld hx hb hX hbl hbA hS (vp_in_nI (n := (4 * j + 1)) (by omega) (by omega)) dL_law_1337 ?_
  refine tc_int (y := xs (4 * j + 1)) (by rw [nI_clamp (by omega)]) ?_
  refine lv_aload_n hx hb dL_law_1338 rfl (lv_at hl 1 rfl) ?_
  refine lv_iload hx hb dL_law_1339 (lv_at hl 5 rfl) ?_
  refine lv_iconst (v := nI 2) hx hb dL_law_1341 (by decide) ?_
  refine lv_iadd hx hb dL_law_1342 ?_
  refine tc_int (y := nI (4 * j + 2)) (nI_add _ _) ?_
  refine va_sld hx hb hX hbl hbA hS (vp_in_nI (n := (4 * j + 2)) (by omega) (by omega)) dL_law_1343 ?_
  refine tc_int (y := xs (4 * j + 2)) (by rw [nI_clamp (by omega)]) ?_
  refine muI_V (own := RL) (As := [.int (xs (4 * j + 1)), .int (xs (4 * j + 2))]) (rest := []) (C := RX1) (ci := 1) (q0 := 0) (A1 := AW (wM bd cI cZ cJ th n kd fi se sd tr on sy lt ru lg rs)) (A0 := AF s) ⟨hx, hb, hml, hown, hts⟩ (hMd th rs) gL_law_X1_matters rfl ⟨rfl, rfl⟩ 2 rfl (by decide +kernel) ⟨Nat.le_of_ble_eq_true rfl, Nat.le_of_ble_eq_true rfl⟩ hPm hK hDm.aw (fun q h => hDm.awA h) rfl rfl rfl hS hl.1 rfl (Nat.le_of_ble_eq_true rfl) dL_law_1344 ⟨(by omega : C + 1 + 0 ≤ 1055), (by omega : Sl + 6 + 0 ≤ 13762)⟩ (fun u H locs hPm hz1 hk1 hS => ?_)
  replace hPc := hPc.off hk1 (fun q h1 h2 => hDa.dis (AW.same (w := (wC ad cI cZ cJ n' kd' sd' ts' fs' tr' on' rp' lt' ru' lg' lp') ++ [(o, .inl (cJ, 1, .inr (.inl g)))]) (w' := (wC ad cI cZ cJ n kd sd ts fs tr on rp lt ru lg lp) ++ [(o, .inl (cJ, 1, .inr (.inl g)))]) rfl (AW.inl h1)) h2)
  replace hPo := hPo.off hk1 (fun q h1 h2 => hDa.dis (AW.same (w := (wC ad cI cZ cJ n kd sd ts fs tr on rp lt ru lg lp) ++ [(o, .inl (cJ, 1, .inr (.inl g')))]) (w' := (wC ad cI cZ cJ n kd sd ts fs tr on rp lt ru lg lp) ++ [(o, .inl (cJ, 1, .inr (.inl g)))]) rfl (AW.inr h1)) h2)
  refine lv_istore (lv' := [(6, .int r), (5, .int k), (0, .ref b), (1, .ref (ad 0)), (2, .ref (bd 0)), (3, .ref o), (4, .int (nI (4 * j)))]) hx hb dL_law_1347 hl (by decide) rfl (fun ls hl => ?_)
  refine lv_aload_n hx hb dL_law_1349 rfl (lv_at hl 4 rfl) ?_
  refine puI_V (own := RL) (As := []) (rest := []) (C := RX1) (ci := 1) (q0 := 0) ⟨hx, hb, hml, hown, hts⟩ (c_X1_thrown l D bd cI cZ cJ _ _ _ _ _ _ _ _ _ _ _ _ _) gL_law_X1_thrown rfl ⟨rfl, rfl⟩ 0 rfl (by decide +kernel) ⟨Nat.le_of_ble_eq_true rfl, Nat.le_of_ble_eq_true rfl⟩ hPm hK rfl rfl rfl hS hl.1 rfl (Nat.le_of_ble_eq_true rfl) dL_law_1350 ⟨(by omega : C + 1 + 0 ≤ 1055), (by omega : Sl + 6 + 0 ≤ 13762)⟩ (fun H locs hk1 hS => ?_)
  replace hPm := keptP hPm hk1
  replace hPc := keptP hPc hk1
  replace hPo := keptP hPo hk1
  refine lv_iload hx hb dL_law_1353 (lv_at hl 1 rfl) ?_
  refine cT_eq (tgt := 1360) hx hb dL_law_1355 (by decide) rfl ?_
  refine lv_iload hx hb dL_law_1360 (lv_at hl 1 rfl) ?_
  by_cases hk0 : k = 0
  · refine zF_ne (tgt := 1384) hx hb dL_law_1362 (by decide) hk0 ?_
    refine lv_aload_n hx hb dL_law_1365 rfl (lv_at hl 5 rfl) ?_
    refine lv_iconst (v := nI 0) hx hb dL_law_1366 (by decide) ?_
    refine ld_nl hx hb hK hPo 0 2 rfl rfl (j := 0) (by decide) (by decide) dL_law_1367 ?_
    refine lv_iload hx hb dL_law_1368 (lv_at hl 0 rfl) ?_
    by_cases hr0 : r = 0
    · refine zT_eq (tgt := 1377) hx hb dL_law_1370 (by decide) hr0 ?_
      refine lv_lconst (v := 0) hx hb dL_law_1377 (by decide) ?_
      refine W.lcmp hx hb dL_law_1378 ?_
      refine zT_eq (tgt := 1384) hx hb dL_law_1379 (by decide) (lcEq (by rw [hans hk0, if_pos rfl, if_pos hr0])) ?_
      refine lv_goto (tgt := 1999) hx hb dL_law_1384 (by decide) ?_
      exact kk n' kd' fi' se' sd' ts' fs' tr' on' sy' rp' lt' ru' lg' lp' k _ g' _ _ ls hR' hPc hPm hPo hS (lv_sub hl [2, 3, 4, 5, 6] rfl)
    · refine zF_eq (tgt := 1377) hx hb dL_law_1370 (by decide) hr0 ?_
      refine lv_lconst (v := 1) hx hb dL_law_1373 (by decide) ?_
      refine lv_goto (tgt := 1378) hx hb dL_law_1374 (by decide) ?_
      refine W.lcmp hx hb dL_law_1378 ?_
      refine zT_eq (tgt := 1384) hx hb dL_law_1379 (by decide) (lcEq (by rw [hans hk0, if_pos rfl, if_neg hr0])) ?_
      refine lv_goto (tgt := 1999) hx hb dL_law_1384 (by decide) ?_
      exact kk n' kd' fi' se' sd' ts' fs' tr' on' sy' rp' lt' ru' lg' lp' k _ g' _ _ ls hR' hPc hPm hPo hS (lv_sub hl [2, 3, 4, 5, 6] rfl)
  · refine zT_ne (tgt := 1384) hx hb dL_law_1362 (by decide) hk0 ?_
    refine lv_goto (tgt := 1999) hx hb dL_law_1384 (by decide) ?_
    exact kk n' kd' fi' se' sd' ts' fs' tr' on' sy' rp' lt' ru' lg' lp' k _ g' _ _ ls hR' hPc hPm hPo hS (lv_sub hl [2, 3, 4, 5, 6] rfl)
