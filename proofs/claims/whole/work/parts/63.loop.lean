theorem sub4 {L j : Nat} (hL : L ≤ 2048) (hj : j ≤ 512) : (4 * j + 4 ≤ L → ¬ (nI L - nI 4 < nI (4 * j))) ∧ (¬ 4 * j + 4 ≤ L → nI L - nI 4 < nI (4 * j)) := by
  constructor
  · intro h
    rw [pk_sub (by omega)]
    exact nI_nlt (by omega) (by omega)
  · intro h
    rcases Nat.lt_or_ge L 4 with q | q
    · have h1 := pk_sneg (a := L) (b := 4) (by decide) q
      have h2 := nI_pos' (n := 4 * j) (by omega)
      rw [Int32.lt_iff_toInt_lt] at h1 ⊢
      rw [Int32.le_iff_toInt_le] at h2
      omega
    · rw [pk_sub q]
      exact nI_lt (by omega) (by omega)
theorem inc4 (j : Nat) : nI (4 * j) + Int32.ofInt 4 = nI (4 * (j + 1)) := by
  rw [show 4 * (j + 1) = 4 * j + 4 by omega, ← nI_add]
  rfl
set_option maxHeartbeats 8000000 in
set_option maxRecDepth 100000 in
/-- THE LAW'S LOOP -/
theorem law_loop {p : Program} {l : Launch} {e : Env} {s : State} {m : MethodId} {below : List Frame} {meth : Method} {c : Code} {D : va_G} {ad bd : Nat → Nat} {cI cZ cJ : ClassId} {o b L : Nat} {xs : Nat → Int32} (hL : L ≤ 2048) (C0 : CX p l s m meth c D ad bd cI cZ cJ o b L xs) :
    ∀ (d j : Nat), j + d = 513 → j ≤ 512 → ∀ (n : Nat) (kd : Nat → Nat) (fi : Nat → Nat) (se : Nat → Nat) (sd : Nat → Bool) (ts : Nat → Int64) (fs : Nat → Int64) (tr : Nat → Nat) (on : Nat → Bool) (sy : Nat → Nat) (rp : Nat → Nat) (lt : Nat) (ru : Nat → Option Nat) (lg : Nat) (lp : Int64) (th : Int32) (rs : Nat → Int32) (g : Nat → Int64) (H : Heap) (locs : List Loc) (ls : Array Slot), REL n kd fi se sd ts fs tr sy rp lt ru lg lp → va_P D vwCl (wC ad cI cZ cJ n kd sd ts fs tr on rp lt ru lg lp) H → va_P D vwCl (wM bd cI cZ cJ th n kd fi se sd tr on sy lt ru lg rs) H → va_P D vwCl [(o, .inl (cJ, 1, .inr (.inl g)))] H → va_S (AF s) s.heap H locs → lv_has ls 9 [(0, .ref b), (1, .ref (ad 0)), (2, .ref (bd 0)), (3, .ref o), (4, .int (nI (4 * j)))] → W p l e room_1 s m #[Value.ref b] below meth c H locs (20 + j) (5504 + 6 * j) (lw_Z below #[Value.ref b] s) (F0 m 23 ls []) := by
  intro d
  induction d with
  | zero =>
    intro j h1 h2
    omega
  | succ d ih =>
    intro j hd hj5 n kd fi se sd ts fs tr on sy rp lt ru lg lp th rs g H locs ls hR hPc hPm hPo hS hl
    obtain ⟨⟨hx, hb, hr, hml, hown, hts0, hX, hbl, hlocks, hgv⟩, -, -, -, -, -⟩ := id C0
    have hbA : ¬ AF s b := Nat.not_le.mpr hbl
    refine lv_iload hx hb dL_law_23 (lv_at hl 4 rfl) ?_
    refine lv_aload_n hx hb dL_law_25 rfl (lv_at hl 0 rfl) ?_
    refine va_slen hx hb hX hbl hbA hS dL_law_26 ?_
    refine lv_iconst (v := nI 4) hx hb dL_law_27 (by decide) ?_
    refine lv_isub hx hb dL_law_28 ?_
    by_cases hj : 4 * j + 4 ≤ L
    · refine cF_gt (tgt := 2005) hx hb dL_law_29 (by decide) ((sub4 hL hj5).1 hj) ?_
      refine lv_aload_n hx hb dL_law_32 rfl (lv_at hl 0 rfl) ?_
      refine lv_iload hx hb dL_law_33 (lv_at hl 4 rfl) ?_
      refine va_sld hx hb hX hbl hbA hS (vp_in_nI (n := 4 * j) (by omega) (by omega)) dL_law_35 ?_
      refine lv_bipush (v := nI 63) hx hb dL_law_36 (by decide) ?_
      refine lv_iand hx hb dL_law_38 ?_
      have kk : KN p l e s m below meth c D ad bd cI cZ cJ o b j (20 + j + 1) (5504 + 6 * j + 6) (lw_Z below #[Value.ref b] s) := by
        intro n kd fi se sd ts fs tr on sy rp lt ru lg lp th rs g H locs ls hR hPc hPm hPo hS hl
        refine lv_iinc (v := nI (4 * (j + 1))) (lv' := [(4, .int (nI (4 * (j + 1)))), (0, .ref b), (1, .ref (ad 0)), (2, .ref (bd 0)), (3, .ref o)]) hx hb dL_law_1999 hl (k := 4) rfl (inc4 j) (by decide) rfl (fun ls hl => ?_)
        refine lv_goto (tgt := 23) hx hb dL_law_2002 (by decide) ?_
        refine W.widen (k := 20 + (j + 1)) (n := 5504 + 6 * (j + 1)) (by omega) (by omega) ?_
        exact ih (j + 1) (by omega) (by omega) n kd fi se sd ts fs tr on sy rp lt ru lg lp th rs g H locs ls hR hPc hPm hPo hS (lv_sub hl [1, 2, 3, 4, 0] rfl)
      have hC : 20 + j + 1 ≤ 1055 := by omega
      have hSl : 5504 + 6 * j + 6 ≤ 13762 := by omega
      obtain ⟨v, hv, ev⟩ := pk_andE (xs (nI (4 * j)).toNatClampNeg) (m := nI 63) 6 (by decide)
      refine tc_int (y := nI v) ev ?_
      rcases Nat.lt_or_ge v 33 with q | q
      · rcases (show v = 0 ∨ v = 1 ∨ v = 2 ∨ v = 3 ∨ v = 4 ∨ v = 5 ∨ v = 6 ∨ v = 7 ∨ v = 8 ∨ v = 9 ∨ v = 10 ∨ v = 11 ∨ v = 12 ∨ v = 13 ∨ v = 14 ∨ v = 15 ∨ v = 16 ∨ v = 17 ∨ v = 18 ∨ v = 19 ∨ v = 20 ∨ v = 21 ∨ v = 22 ∨ v = 23 ∨ v = 24 ∨ v = 25 ∨ v = 26 ∨ v = 27 ∨ v = 28 ∨ v = 29 ∨ v = 30 ∨ v = 31 ∨ v = 32 by omega) with rfl | rfl | rfl | rfl | rfl | rfl | rfl | rfl | rfl | rfl | rfl | rfl | rfl | rfl | rfl | rfl | rfl | rfl | rfl | rfl | rfl | rfl | rfl | rfl | rfl | rfl | rfl | rfl | rfl | rfl | rfl | rfl | rfl
        · refine lv_tableIn (off := 145) (tgt := 184) hx hb dL_law_39 (by decide) (by decide) rfl (by decide) ?_
          exact law_atom C0 hj hL hC hSl hR hPc hPm hPo hS hl kk
        · refine lv_tableIn (off := 201) (tgt := 240) hx hb dL_law_39 (by decide) (by decide) rfl (by decide) ?_
          exact law_constant C0 hj hL hC hSl hR hPc hPm hPo hS hl kk
        · refine lv_tableIn (off := 257) (tgt := 296) hx hb dL_law_39 (by decide) (by decide) rfl (by decide) ?_
          exact law_turn C0 hj hL hC hSl hR hPc hPm hPo hS hl kk
        · refine lv_tableIn (off := 325) (tgt := 364) hx hb dL_law_39 (by decide) (by decide) rfl (by decide) ?_
          exact law_join C0 hj hL hC hSl hR hPc hPm hPo hS hl kk
        · refine lv_tableIn (off := 405) (tgt := 444) hx hb dL_law_39 (by decide) (by decide) rfl (by decide) ?_
          exact law_formulaCount C0 hj hL hC hSl hR hPc hPm hPo hS hl kk
        · refine lv_tableIn (off := 418) (tgt := 457) hx hb dL_law_39 (by decide) (by decide) rfl (by decide) ?_
          exact law_isSteady C0 hj hL hC hSl hR hPc hPm hPo hS hl kk
        · refine lv_tableIn (off := 481) (tgt := 520) hx hb dL_law_39 (by decide) (by decide) rfl (by decide) ?_
          exact law_report C0 hj hL hC hSl hR hPc hPm hPo hS hl kk
        · refine lv_tableIn (off := 561) (tgt := 600) hx hb dL_law_39 (by decide) (by decide) rfl (by decide) ?_
          exact law_setTrust C0 hj hL hC hSl hR hPc hPm hPo hS hl kk
        · refine lv_tableIn (off := 629) (tgt := 668) hx hb dL_law_39 (by decide) (by decide) rfl (by decide) ?_
          exact law_setLeastTrust C0 hj hL hC hSl hR hPc hPm hPo hS hl kk
        · refine lv_tableIn (off := 685) (tgt := 724) hx hb dL_law_39 (by decide) (by decide) rfl (by decide) ?_
          exact law_let C0 hj hL hC hSl hR hPc hPm hPo hS hl kk
        · refine lv_tableIn (off := 776) (tgt := 815) hx hb dL_law_39 (by decide) (by decide) rfl (by decide) ?_
          exact law_setRule C0 hj hL hC hSl hR hPc hPm hPo hS hl kk
        · refine lv_tableIn (off := 844) (tgt := 883) hx hb dL_law_39 (by decide) (by decide) rfl (by decide) ?_
          exact law_given C0 hj hL hC hSl hR hPc hPm hPo hS hl kk
        · refine lv_tableIn (off := 900) (tgt := 939) hx hb dL_law_39 (by decide) (by decide) rfl (by decide) ?_
          exact law_settled C0 hj hL hC hSl hR hPc hPm hPo hS hl kk
        · refine lv_tableIn (off := 956) (tgt := 995) hx hb dL_law_39 (by decide) (by decide) rfl (by decide) ?_
          exact law_rounds C0 hj hL hC hSl hR hPc hPm hPo hS hl kk
        · refine lv_tableIn (off := 969) (tgt := 1008) hx hb dL_law_39 (by decide) (by decide) rfl (by decide) ?_
          exact law_since C0 hj hL hC hSl hR hPc hPm hPo hS hl kk
        · refine lv_tableIn (off := 1053) (tgt := 1092) hx hb dL_law_39 (by decide) (by decide) rfl (by decide) ?_
          exact law_value C0 hj hL hC hSl hR hPc hPm hPo hS hl kk
        · refine lv_tableIn (off := 1109) (tgt := 1148) hx hb dL_law_39 (by decide) (by decide) rfl (by decide) ?_
          exact law_conflicts C0 hj hL hC hSl hR hPc hPm hPo hS hl kk
        · refine lv_tableIn (off := 1122) (tgt := 1161) hx hb dL_law_39 (by decide) (by decide) rfl (by decide) ?_
          exact law_gaps C0 hj hL hC hSl hR hPc hPm hPo hS hl kk
        · refine lv_tableIn (off := 1135) (tgt := 1174) hx hb dL_law_39 (by decide) (by decide) rfl (by decide) ?_
          exact law_discord C0 hj hL hC hSl hR hPc hPm hPo hS hl kk
        · refine lv_tableIn (off := 1176) (tgt := 1215) hx hb dL_law_39 (by decide) (by decide) rfl (by decide) ?_
          exact law_heard C0 hj hL hC hSl hR hPc hPm hPo hS hl kk
        · refine lv_tableIn (off := 1189) (tgt := 1228) hx hb dL_law_39 (by decide) (by decide) rfl (by decide) ?_
          exact law_sayers C0 hj hL hC hSl hR hPc hPm hPo hS hl kk
        · refine lv_tableIn (off := 1273) (tgt := 1312) hx hb dL_law_39 (by decide) (by decide) rfl (by decide) ?_
          exact law_matters C0 hj hL hC hSl hR hPc hPm hPo hS hl kk
        · refine lv_tableIn (off := 1348) (tgt := 1387) hx hb dL_law_39 (by decide) (by decide) rfl (by decide) ?_
          exact law_silence C0 hj hL hC hSl hR hPc hPm hPo hS hl kk
        · refine lv_tableIn (off := 1361) (tgt := 1400) hx hb dL_law_39 (by decide) (by decide) rfl (by decide) ?_
          exact law_contradicted C0 hj hL hC hSl hR hPc hPm hPo hS hl kk
        · refine lv_tableIn (off := 1417) (tgt := 1456) hx hb dL_law_39 (by decide) (by decide) rfl (by decide) ?_
          exact law_setLogic C0 hj hL hC hSl hR hPc hPm hPo hS hl kk
        · refine lv_tableIn (off := 1473) (tgt := 1512) hx hb dL_law_39 (by decide) (by decide) rfl (by decide) ?_
          exact law_models C0 hj hL hC hSl hR hPc hPm hPo hS hl kk
        · refine lv_tableIn (off := 1529) (tgt := 1568) hx hb dL_law_39 (by decide) (by decide) rfl (by decide) ?_
          exact law_range C0 hj hL hC hSl hR hPc hPm hPo hS hl kk
        · refine lv_tableIn (off := 1585) (tgt := 1624) hx hb dL_law_39 (by decide) (by decide) rfl (by decide) ?_
          exact law_entails C0 hj hL hC hSl hR hPc hPm hPo hS hl kk
        · refine lv_tableIn (off := 1660) (tgt := 1699) hx hb dL_law_39 (by decide) (by decide) rfl (by decide) ?_
          exact law_against C0 hj hL hC hSl hR hPc hPm hPo hS hl kk
        · refine lv_tableIn (off := 1728) (tgt := 1767) hx hb dL_law_39 (by decide) (by decide) rfl (by decide) ?_
          exact law_areEqual C0 hj hL hC hSl hR hPc hPm hPo hS hl kk
        · refine lv_tableIn (off := 1803) (tgt := 1842) hx hb dL_law_39 (by decide) (by decide) rfl (by decide) ?_
          exact law_depends C0 hj hL hC hSl hR hPc hPm hPo hS hl kk
        · refine lv_tableIn (off := 1878) (tgt := 1917) hx hb dL_law_39 (by decide) (by decide) rfl (by decide) ?_
          exact law_valueAt C0 hj hL hC hSl hR hPc hPm hPo hS hl kk
        · refine lv_tableIn (off := 1946) (tgt := 1985) hx hb dL_law_39 (by decide) (by decide) rfl (by decide) ?_
          exact law_digest C0 hj hL hC hSl hR hPc hPm hPo hS hl kk
      · refine lv_tableOut (tgt := 1999) hx hb dL_law_39 (Or.inr (by rw [nI_toInt (by omega)]; omega)) (by decide) ?_
        refine W.widen (k := 20 + j + 1) (n := 5504 + 6 * j + 6) (by omega) (by omega) ?_
        exact kk n kd fi se sd ts fs tr on sy rp lt ru lg lp th rs g H locs ls hR hPc hPm hPo hS hl
    · refine cT_gt (tgt := 2005) hx hb dL_law_29 (by decide) ((sub4 hL hj5).2 hj) ?_
      refine lv_iconst (v := 1) hx hb dL_law_2005 (by decide) ?_
      refine va_forget (fun q hq => hS.2.2 q hq) ?_
      refine W.widen (k := 1055) (n := 13762) (by omega) (by omega) ?_
      exact W.base (lw_ret (Drawn.sameBut.refl s.drawn lw_cs) hx hb hr hlocks dL_law_2006)
set_option maxHeartbeats 8000000 in
set_option maxRecDepth 100000 in
/-- THE LAW, from its entry -/
theorem whole_start {p : Program} {e : Env} {s : State} {m : MethodId} {below : List Frame} {meth : Method} {c : Code} (l : Launch) (hflags : l.flags = flags0) {b L : Nat} {xs : Nat → Int32} (hL : L ≤ 2048) (C0 : lw_At p s m meth c b L xs) : W p l e room_1 s m #[Value.ref b] below meth c s.heap [] 0 0 (lw_Z below #[Value.ref b] s) (entryFrame m ([Value.ref b] : List Value).toArray 9) := by
  obtain ⟨hx, hb, hr, hml, hown, hts0, hX, hbl, hlocks, hgv⟩ := id C0
  have hown : s.vm.findClass RL = some m.cls := hown
  have hts : ∀ w ∈ wsL_law, w.before #[Value.ref b] s = true := fun w h => hts0 w (wsL_law_in w h)
  have htr : l.stackTraces = false := by
    show (!l.flags.contains noTraceFlag) = false
    rw [hflags]
    decide +kernel
  have hXE := st_XE hts0 hgv
  have hTB := st_TB hts0 hgv
  obtain ⟨D, cI, cZ, cJ, hK⟩ := st_K hts0
  have hA : ∀ q : Nat, s.heap.size ≤ q → AF s q := fun _ h => h
  have hS : va_S (AF s) s.heap s.heap [] := va_S.rf
  have hP : va_P D vwCl [] s.heap := fun k q h => by simp at h
  have hD : va_D (AF s) [] := ⟨fun i j p q h => by simp at h, fun k q h => by simp at h⟩
  have hl := lv_entry ([.ref b]) (n := 9) (Nat.le_of_ble_eq_true rfl)
  rw [lg_entry_eq]
  generalize (lg_sl ([.ref b]) ++ List.replicate (9 - (lg_sl ([.ref b])).length) Slot.unset).toArray = ls at hl ⊢
  have hl : lv_has ls 9 [(0, .ref b)] := hl
  refine va_new (ci := 0) (fs := [.int 0, .null, .null, .null, .null, .null, .null, .null, .int 0, .null, .int 0, .long 0]) (C := RX0) (T := TX0) (N := 12) hx hb hts inlX0 tyX0 tyX0_ok hown (hts (.classLink RL 8 RX0) (by decide +kernel)) (hts (.instantiable RX0 12) (by decide +kernel)) (hts (.initialized RX0) (by decide +kernel)) hK hP hD hS hA rfl (fun j hj => by rcases (show j = 0 ∨ j = 1 ∨ j = 2 ∨ j = 3 ∨ j = 4 ∨ j = 5 ∨ j = 6 ∨ j = 7 ∨ j = 8 ∨ j = 9 ∨ j = 10 ∨ j = 11 by omega) with rfl | rfl | rfl | rfl | rfl | rfl | rfl | rfl | rfl | rfl | rfl | rfl <;> rfl) (Nat.le_of_ble_eq_true rfl) (Nat.le_of_ble_eq_true rfl) dL_law_0 (fun q0 H hP hD hS => ?_)
  replace hP : va_P D vwCl [(q0, .inr (0, [.int 0, .null, .null, .null, .null, .null, .null, .null, .int 0, .null, .int 0, .long 0]))] H := hP
  replace hD : va_D (AF s) [(q0, .inr (0, [.int 0, .null, .null, .null, .null, .null, .null, .null, .int 0, .null, .int 0, .long 0]))] := hD
  refine W.widen (k := 1) (n := 12) (Nat.le_of_ble_eq_true rfl) (Nat.le_of_ble_eq_true rfl) ?_
  refine lv_dup hx hb dL_law_3 rfl ?_
  have hFc := va_free (wc := [(q0, .inr (0, [.int 0, .null, .null, .null, .null, .null, .null, .null, .int 0, .null, .int 0, .long 0]))]) hD hS hA [0] rfl
  refine va_callv (va_runI (As := []) (rest := [.ref q0]) ⟨hx, hb, hml, hown, hts⟩ (c_X0_init l D cI cZ cJ q0 H.size) (cwI 0 hts gL_law_X0_init rfl rfl rfl (hts (.initialized RX0) (by decide +kernel)) (hts (.methodLink RL 97 yX0_init) (by decide +kernel)) (hts (.instanceMethod yX0_init) (by decide +kernel)) rfl (by decide +kernel) ⟨Nat.le_of_ble_eq_true rfl, Nat.le_of_ble_eq_true rfl⟩) ⟨fun a U g mk q => by obtain ⟨q0, q1, qP, qK, qD⟩ := q; exact ⟨q0, q1, qP, va_K.moved (u := U) (U := U.calling g mk a) (Vm.Alike.refl U.vm) qK, qD⟩, fun U hU hW => ⟨rfl, by rw [hU], by rw [hU]; exact hP, va_K.moved hW.alike hK, hD.weaken (fun _ _ _ _ => trivial)⟩⟩ rfl rfl hl.1 rfl (lv_room (Nat.le_of_ble_eq_true rfl)) dL_law_4 ⟨Nat.le_of_ble_eq_true rfl, Nat.le_of_ble_eq_true rfl⟩) hS (fun q _ h => hFc q h) hFc (fun ad t H1 locs ht hvm hw hB hz1 hk1 hS => ?_)
  have hw : ad 0 = q0 := hw
  subst hw
  obtain ⟨hP1, hD1⟩ := hB
  rw [ht] at hP1
  obtain ⟨hP, hD⟩ := va_join (wr := []) (w1 := wC0 ad cI cZ cJ) hP hD [0] [] rfl rfl (by decide) (by decide) hk1 hFc hP1 hD1
  generalize H1 = H at hP hS ⊢
  replace hP : va_P D vwCl (wC0 ad cI cZ cJ) H := hP
  replace hD : va_D (AF s) (wC0 ad cI cZ cJ) := hD
  refine W.widen (k := 9) (n := 5236) (Nat.le_of_ble_eq_true rfl) (Nat.le_of_ble_eq_true rfl) ?_
  refine lv_astore_n (lv' := [(1, .ref (ad 0)), (0, .ref b)]) hx hb dL_law_7 rfl hl (by decide) rfl (fun ls hl => ?_)
  refine va_new (ci := 1) (fs := [.int 0, .int 0, .null, .null, .null, .null, .null, .null, .null, .int 0, .null, .int 0, .null]) (C := RX1) (T := TX1) (N := 13) hx hb hts inlX1 tyX1 tyX1_ok hown (hts (.classLink RL 98 RX1) (by decide +kernel)) (hts (.instantiable RX1 13) (by decide +kernel)) (hts (.initialized RX1) (by decide +kernel)) hK hP hD hS hA rfl (fun j hj => by rcases (show j = 0 ∨ j = 1 ∨ j = 2 ∨ j = 3 ∨ j = 4 ∨ j = 5 ∨ j = 6 ∨ j = 7 ∨ j = 8 ∨ j = 9 ∨ j = 10 ∨ j = 11 ∨ j = 12 by omega) with rfl | rfl | rfl | rfl | rfl | rfl | rfl | rfl | rfl | rfl | rfl | rfl | rfl <;> rfl) (Nat.le_of_ble_eq_true rfl) (Nat.le_of_ble_eq_true rfl) dL_law_8 (fun q1 H hP hD hS => ?_)
  refine W.widen (k := 10) (n := 5249) (Nat.le_of_ble_eq_true rfl) (Nat.le_of_ble_eq_true rfl) ?_
  refine lv_dup hx hb dL_law_11 rfl ?_
  have hFc := va_free (wc := [(q1, .inr (1, [.int 0, .int 0, .null, .null, .null, .null, .null, .null, .null, .int 0, .null, .int 0, .null]))]) hD hS hA [9] rfl
  have hPn := hP.r
  have hDn := hD.r
  refine va_callv (va_runI (As := []) (rest := [.ref q1]) ⟨hx, hb, hml, hown, hts⟩ (c_X1_init l D cI cZ cJ q1 H.size) (cwI 0 hts gL_law_X1_init rfl rfl rfl (hts (.initialized RX1) (by decide +kernel)) (hts (.methodLink RL 100 yX1_init) (by decide +kernel)) (hts (.instanceMethod yX1_init) (by decide +kernel)) rfl (by decide +kernel) ⟨Nat.le_of_ble_eq_true rfl, Nat.le_of_ble_eq_true rfl⟩) ⟨fun a U g mk q => by obtain ⟨q0, q1, qP, qK, qD⟩ := q; exact ⟨q0, q1, qP, va_K.moved (u := U) (U := U.calling g mk a) (Vm.Alike.refl U.vm) qK, qD⟩, fun U hU hW => ⟨rfl, by rw [hU], by rw [hU]; exact hPn, va_K.moved hW.alike hK, hDn.weaken (fun _ _ _ _ => trivial)⟩⟩ rfl rfl hl.1 rfl (lv_room (Nat.le_of_ble_eq_true rfl)) dL_law_12 ⟨Nat.le_of_ble_eq_true rfl, Nat.le_of_ble_eq_true rfl⟩) hS (fun q _ h => hFc q h) hFc (fun bd t H1 locs ht hvm hw hB hz1 hk1 hS => ?_)
  have hw : bd 0 = q1 := hw
  subst hw
  obtain ⟨hP1, hD1⟩ := hB
  rw [ht] at hP1
  obtain ⟨hP, hD⟩ := va_join (wr := wC0 ad cI cZ cJ) (w1 := wM0 bd cI cZ cJ) hP hD [9] [0, 1, 2, 3, 4, 5, 6, 7, 8] rfl rfl (by decide) (by decide) hk1 hFc hP1 hD1
  generalize H1 = H at hP hS ⊢
  refine W.widen (k := 19) (n := 5503) (Nat.le_of_ble_eq_true rfl) (Nat.le_of_ble_eq_true rfl) ?_
  refine lv_astore_n (lv' := [(2, .ref (bd 0)), (1, .ref (ad 0)), (0, .ref b)]) hx hb dL_law_15 rfl hl (by decide) rfl (fun ls hl => ?_)
  refine lv_iconst (v := nI 1) hx hb dL_law_16 (by decide) ?_
  refine newa_p (atype := .long) (a0 := (1, .inr (.inl (fun _ => 0)))) hx hb (hts (.arrayClass .long) (by decide +kernel)) rfl (Or.inr (Or.inr rfl)) hK hP hD hS hA 2 rfl (fun _ => rfl) (by decide) (by decide) (Nat.le_of_ble_eq_true rfl) (Nat.le_of_ble_eq_true rfl) (Nat.le_of_ble_eq_true rfl) dL_law_17 (fun o H hP hD hS => ?_)
  refine W.widen (k := 20) (n := 5504) (Nat.le_of_ble_eq_true rfl) (Nat.le_of_ble_eq_true rfl) ?_
  refine lv_astore_n (lv' := [(3, .ref o), (2, .ref (bd 0)), (1, .ref (ad 0)), (0, .ref b)]) hx hb dL_law_19 rfl hl (by decide) rfl (fun ls hl => ?_)
  refine lv_iconst (v := nI 0) hx hb dL_law_20 (by decide) ?_
  refine lv_istore (lv' := [(4, .int (nI 0)), (3, .ref o), (2, .ref (bd 0)), (1, .ref (ad 0)), (0, .ref b)]) hx hb dL_law_21 hl (by decide) rfl (fun ls hl => ?_)
  exact law_loop hL ⟨C0, htr, hK, hXE, hTB, hD.swap⟩ 513 0 rfl (Nat.zero_le _) 0 (fun _ => 0) (fun _ => 0) (fun _ => 0) (fun _ => false) (fun _ => 0) (fun _ => 0) tr0 on0 (fun _ => 0) (fun _ => 0) 1 ru0 15 (-1) 0 (fun _ => 0) (fun _ => 0) _ _ ls REL.init hP.l.l hP.l.r hP.r hS (lv_sub hl [4, 3, 2, 1, 0] rfl)
