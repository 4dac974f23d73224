section
variable (l : Launch) (D : va_G) (ad : Nat → Nat) (cI cZ cJ : ClassId) (n : Nat) (kd : Nat → Nat) (sd : Nat → Bool) (ts fs : Nat → Int64) (tr : Nat → Nat) (on : Nat → Bool) (rp : Nat → Nat) (lt : Nat) (ru : Nat → Option Nat) (lg : Nat) (lp : Int64)
theorem hin_X0_logicWord : ∀ w ∈ wsX00, w ∈ wsX0_logicWord := by first | exact fun _ h => List.mem_cons_of_mem _ (List.mem_append_right _ h) | exact fun _ h => List.mem_cons_of_mem _ (List.mem_append_left _ (List.mem_append_right _ h)) | exact fun _ h => List.mem_cons_of_mem _ (List.mem_append_left _ (List.mem_append_left _ (List.mem_append_right _ h))) | exact fun _ h => List.mem_cons_of_mem _ (List.mem_append_left _ (List.mem_append_left _ (List.mem_append_left _ (List.mem_append_right _ h)))) | decide +kernel
def rm_X0_logicWord : Room := { frames := 0, cells := 0, slots := 0, locals := 0 }
set_option maxHeartbeats 4000000 in
set_option maxRecDepth 100000 in
theorem c_X0_logicWord (w : Nat) (hw64 : w < 64) : PuL l yX0_logicWord wsX0_logicWord rm_X0_logicWord D vwCl (wC ad cI cZ cJ n kd sd ts fs tr on rp lt ru lg lp) (tyC cI cZ cJ) [.ref (ad 0), .int (nI w)] (lwL lp w) := by
  refine PuL.of (cc := cX0_logicWord) (maxL := 2) (by decide) rfl (Nat.le_of_ble_eq_true rfl) ?_
  intro p e s m args below meth c Q ls hx hb hml hown hts hP hK kret hl
  have hown : s.vm.findClass RX0 = some m.cls := hown
  have hl : lv_has ls 2 [(0, .ref (ad 0)), (1, .int (nI w))] := hl
  have hS : va_S (fun _ => False) s.heap s.heap [] := va_S.rf
  have hin0 : ∀ w ∈ u_ws RX0 TX0 12, w ∈ wsX0_logicWord := hin_X0_logicWord
  refine lv_aload_n hx hb dX0_logicWord_0 rfl (lv_at hl 0 rfl) ?_
  refine va_get (D := D) (ci := 0) (v := .long lp) (C := RX0) (T := TX0) (N := 12) hx hb hts hin0 hown hK hP 0 rfl rfl 11 (by decide) (hts (.fieldLink RX0 48 "RumourReasoner" "logicTriples" "J") (by decide +kernel)) (fun _ h9 => h9) rfl dX0_logicWord_1 ?_
  refine lv_iload_n hx hb dX0_logicWord_4 rfl (lv_at hl 1 rfl) ?_
  refine lv_lushr (v := (lp.toUInt64 >>> ((nI w).toInt64.toUInt64 &&& Int64.toUInt64 63)).toInt64) hx hb dX0_logicWord_5 rfl ?_
  refine lv_lconst (v := 1) hx hb dX0_logicWord_6 (by decide) ?_
  refine lv_land hx hb dX0_logicWord_7 ?_
  refine tc_long (y := lN (b2n (tb lp w))) (lkc _ hw64) ?_
  refine lv_lconst (v := 0) hx hb dX0_logicWord_8 (by decide) ?_
  refine W.lcmp hx hb dX0_logicWord_9 ?_
  refine lv_if_eq (tgt := 20) hx hb dX0_logicWord_10 (by decide) (fun c_1 => ?_) (fun c_1 => ?_)
  · have e_10 : tb lp w = false := (lwz _).mp c_1
    refine lv_lconst (v := 0) hx hb dX0_logicWord_20 (by decide) ?_
    exact kret _ _ _ _ _ (by unfold lwL; rw [if_neg (by rw [e_10]; decide)]) hS dX0_logicWord_21
  · have e_10 : tb lp w = true := ts_nf (fun q => c_1 ((lwz _).mpr q))
    refine lv_aload_n hx hb dX0_logicWord_13 rfl (lv_at hl 0 rfl) ?_
    refine va_get (D := D) (ci := 0) (v := .long lp) (C := RX0) (T := TX0) (N := 12) hx hb hts hin0 hown hK hP 0 rfl rfl 11 (by decide) (hts (.fieldLink RX0 48 "RumourReasoner" "logicTriples" "J") (by decide +kernel)) (fun _ h9 => h9) rfl dX0_logicWord_14 ?_
    refine lv_goto (tgt := 21) hx hb dX0_logicWord_17 (by decide) ?_
    exact kret _ _ _ _ _ (by unfold lwL; rw [if_pos e_10]) hS dX0_logicWord_21

theorem hin_X0_differing : ∀ w ∈ wsX00, w ∈ wsX0_differing := by first | exact fun _ h => List.mem_cons_of_mem _ (List.mem_append_right _ h) | exact fun _ h => List.mem_cons_of_mem _ (List.mem_append_left _ (List.mem_append_right _ h)) | exact fun _ h => List.mem_cons_of_mem _ (List.mem_append_left _ (List.mem_append_left _ (List.mem_append_right _ h))) | exact fun _ h => List.mem_cons_of_mem _ (List.mem_append_left _ (List.mem_append_left _ (List.mem_append_left _ (List.mem_append_right _ h)))) | decide +kernel
def rm_X0_differing : Room := { frames := 0, cells := 0, slots := 0, locals := 0 }
set_option maxHeartbeats 4000000 in
set_option maxRecDepth 100000 in
theorem c_X0_differing (i j sh : Nat) (hi : i < 2560) (hj : j < 2560) : PuL l yX0_differing wsX0_differing rm_X0_differing D vwCl (wC ad cI cZ cJ n kd sd ts fs tr on rp lt ru lg lp) (tyC cI cZ cJ) [.ref (ad 0), .int (nI i), .int (nI j), .int (nI sh)] (dfL ts fs i j sh) := by
  refine PuL.of (cc := cX0_differing) (maxL := 8) (by decide) rfl (Nat.le_of_ble_eq_true rfl) ?_
  intro p e s m args below meth c Q ls hx hb hml hown hts hP hK kret hl
  have hown : s.vm.findClass RX0 = some m.cls := hown
  have hl : lv_has ls 8 [(0, .ref (ad 0)), (1, .int (nI i)), (2, .int (nI j)), (3, .int (nI sh))] := hl
  have hS : va_S (fun _ => False) s.heap s.heap [] := va_S.rf
  have hin0 : ∀ w ∈ u_ws RX0 TX0 12, w ∈ wsX0_differing := hin_X0_differing
  refine lv_aload_n hx hb dX0_differing_0 rfl (lv_at hl 0 rfl) ?_
  refine va_get (D := D) (ci := 0) (v := .ref (ad 3)) (C := RX0) (T := TX0) (N := 12) hx hb hts hin0 hown hK hP 0 rfl rfl 3 (by decide) (hts (.fieldLink RX0 21 "RumourReasoner" "trueSets" "[J") (by decide +kernel)) (fun _ h9 => h9) rfl dX0_differing_1 ?_
  refine lv_iload_n hx hb dX0_differing_4 rfl (lv_at hl 1 rfl) ?_
  refine ld_nl hx hb hK hP 3 2 rfl rfl (j := i) (by omega) (by decide) dX0_differing_5 ?_
  refine lv_aload_n hx hb dX0_differing_6 rfl (lv_at hl 0 rfl) ?_
  refine va_get (D := D) (ci := 0) (v := .ref (ad 3)) (C := RX0) (T := TX0) (N := 12) hx hb hts hin0 hown hK hP 0 rfl rfl 3 (by decide) (hts (.fieldLink RX0 21 "RumourReasoner" "trueSets" "[J") (by decide +kernel)) (fun _ h9 => h9) rfl dX0_differing_7 ?_
  refine lv_iload_n hx hb dX0_differing_10 rfl (lv_at hl 2 rfl) ?_
  refine ld_nl hx hb hK hP 3 2 rfl rfl (j := j) (by omega) (by decide) dX0_differing_11 ?_
  refine lv_iload_n hx hb dX0_differing_12 rfl (lv_at hl 3 rfl) ?_
  refine lv_lushr (v := ((ts j).toUInt64 >>> ((nI sh).toInt64.toUInt64 &&& Int64.toUInt64 63)).toInt64) hx hb dX0_differing_13 rfl ?_
  refine lv_lxor hx hb dX0_differing_14 ?_
  refine lv_lstore (lv' := [(4, .long ((ts i) ^^^ (((ts j).toUInt64 >>> ((nI sh).toInt64.toUInt64 &&& Int64.toUInt64 63)).toInt64))), (0, .ref (ad 0)), (1, .int (nI i)), (2, .int (nI j)), (3, .int (nI sh))]) hx hb dX0_differing_15 hl (by decide) rfl (fun ls hl => ?_)
  refine lv_aload_n hx hb dX0_differing_17 rfl (lv_at hl 1 rfl) ?_
  refine va_get (D := D) (ci := 0) (v := .ref (ad 4)) (C := RX0) (T := TX0) (N := 12) hx hb hts hin0 hown hK hP 0 rfl rfl 4 (by decide) (hts (.fieldLink RX0 25 "RumourReasoner" "falseSets" "[J") (by decide +kernel)) (fun _ h9 => h9) rfl dX0_differing_18 ?_
  refine lv_iload_n hx hb dX0_differing_21 rfl (lv_at hl 2 rfl) ?_
  refine ld_nl hx hb hK hP 4 2 rfl rfl (j := i) (by omega) (by decide) dX0_differing_22 ?_
  refine lv_aload_n hx hb dX0_differing_23 rfl (lv_at hl 1 rfl) ?_
  refine va_get (D := D) (ci := 0) (v := .ref (ad 4)) (C := RX0) (T := TX0) (N := 12) hx hb hts hin0 hown hK hP 0 rfl rfl 4 (by decide) (hts (.fieldLink RX0 25 "RumourReasoner" "falseSets" "[J") (by decide +kernel)) (fun _ h9 => h9) rfl dX0_differing_24 ?_
  refine lv_iload_n hx hb dX0_differing_27 rfl (lv_at hl 3 rfl) ?_
  refine ld_nl hx hb hK hP 4 2 rfl rfl (j := j) (by omega) (by decide) dX0_differing_28 ?_
  refine lv_iload_n hx hb dX0_differing_29 rfl (lv_at hl 4 rfl) ?_
  refine lv_lushr (v := ((fs j).toUInt64 >>> ((nI sh).toInt64.toUInt64 &&& Int64.toUInt64 63)).toInt64) hx hb dX0_differing_30 rfl ?_
  refine lv_lxor hx hb dX0_differing_31 ?_
  refine lv_lstore (lv' := [(6, .long ((fs i) ^^^ (((fs j).toUInt64 >>> ((nI sh).toInt64.toUInt64 &&& Int64.toUInt64 63)).toInt64))), (4, .long ((ts i) ^^^ (((ts j).toUInt64 >>> ((nI sh).toInt64.toUInt64 &&& Int64.toUInt64 63)).toInt64))), (0, .ref (ad 0)), (1, .int (nI i)), (2, .int (nI j)), (3, .int (nI sh))]) hx hb dX0_differing_32 hl (by decide) rfl (fun ls hl => ?_)
  refine lv_lload hx hb dX0_differing_34 (lv_at hl 1 rfl) ?_
  refine lv_lload hx hb dX0_differing_36 (lv_at hl 0 rfl) ?_
  refine lv_lor hx hb dX0_differing_38 ?_
  exact kret _ _ _ _ _ (rfl) hS dX0_differing_39

theorem hin_X0_models : ∀ w ∈ wsX00, w ∈ wsX0_models := by first | exact fun _ h => List.mem_cons_of_mem _ (List.mem_append_right _ h) | exact fun _ h => List.mem_cons_of_mem _ (List.mem_append_left _ (List.mem_append_right _ h)) | exact fun _ h => List.mem_cons_of_mem _ (List.mem_append_left _ (List.mem_append_left _ (List.mem_append_right _ h))) | exact fun _ h => List.mem_cons_of_mem _ (List.mem_append_left _ (List.mem_append_left _ (List.mem_append_left _ (List.mem_append_right _ h)))) | decide +kernel
def rm_X0_models : Room := { frames := 1, cells := 0, slots := 0, locals := 21 }
set_option maxHeartbeats 4000000 in
set_option maxRecDepth 100000 in
theorem c_X0_models (hO : OKC n tr rp lt lg ru) (f : Nat) (hf : f < n) : PuI l yX0_models wsX0_models rm_X0_models D vwCl (wC ad cI cZ cJ n kd sd ts fs tr on rp lt ru lg lp) (tyC cI cZ cJ) [.ref (ad 0), .int (nI f)] (nI (mdS ts lp (f * 64) 64)) := by
  refine PuI.of (cc := cX0_models) (maxL := 5) (by decide) rfl (Nat.le_of_ble_eq_true rfl) (vp_nar_int _) ?_
  intro p e s m args below meth c Q ls hx hb hml hown hts hP hK kret hl
  have hown : s.vm.findClass RX0 = some m.cls := hown
  have hl : lv_has ls 5 [(0, .ref (ad 0)), (1, .int (nI f))] := hl
  have hS : va_S (fun _ => False) s.heap s.heap [] := va_S.rf
  have hin0 : ∀ w ∈ u_ws RX0 TX0 12, w ∈ wsX0_models := hin_X0_models
  have hn40 := hO.1
  refine lv_aload_n hx hb dX0_models_0 rfl (lv_at hl 0 rfl) ?_
  refine lv_iload_n hx hb dX0_models_1 rfl (lv_at hl 1 rfl) ?_
  refine puV_V (own := RX0) (As := [.int (nI f)]) (rest := []) (C := RX0) (ci := 0) (q0 := 0) ⟨hx, hb, hml, hown, hts⟩ (c_X0_requireFormula l D ad cI cZ cJ n kd sd ts fs tr on rp lt ru lg lp hO f (by omega)) gX0_models_X0_requireFormula rfl ⟨rfl, rfl⟩ 1 rfl (by decide +kernel) ⟨Nat.le_of_ble_eq_true rfl, Nat.le_of_ble_eq_true rfl⟩ hP hK rfl rfl rfl hS hl.1 rfl (Nat.le_of_ble_eq_true rfl) dX0_models_2 ⟨Nat.zero_le _, Nat.zero_le _⟩ (fun H locs hk1 hS => ?_)
  replace hP := keptP hP hk1
  refine lv_iload_n hx hb dX0_models_5 rfl (lv_at hl 1 rfl) ?_
  refine puI_S (own := RX0) (As := [.int (nI f)]) (rest := []) ⟨hx, hb, hml, hown, hts⟩ (c_X0_rowOf l D f) gX0_models_X0_rowOf rfl ⟨rfl, rfl⟩ 1 rfl (by decide +kernel) ⟨Nat.le_of_ble_eq_true rfl, Nat.le_of_ble_eq_true rfl⟩ nilP (hK.sub (tys' := []) [] rfl) hS hl.1 rfl (Nat.le_of_ble_eq_true rfl) dX0_models_6 ⟨Nat.zero_le _, Nat.zero_le _⟩ (fun H locs hk1 hS => ?_)
  replace hP := keptP hP hk1
  refine lv_istore_n (lv' := [(2, .int (nI (f * 64))), (0, .ref (ad 0)), (1, .int (nI f))]) hx hb dX0_models_9 rfl hl (by decide) rfl (fun ls hl => ?_)
  refine lv_iconst (v := nI 0) hx hb dX0_models_10 (by decide) ?_
  refine lv_istore_n (lv' := [(3, .int (nI 0)), (2, .int (nI (f * 64))), (0, .ref (ad 0)), (1, .int (nI f))]) hx hb dX0_models_11 rfl hl (by decide) rfl (fun ls hl => ?_)
  refine lv_iconst (v := nI 0) hx hb dX0_models_12 (by decide) ?_
  refine lv_istore (lv' := [(4, .int (nI 0)), (3, .int (nI 0)), (2, .int (nI (f * 64))), (0, .ref (ad 0)), (1, .int (nI f))]) hx hb dX0_models_13 hl (by decide) rfl (fun ls hl => ?_)
  have key1 : ∀ (d3 i2 : Nat), i2 + d3 = 64 → ∀ (H : Heap) (locs : List Loc) (ls : Array Slot), va_P D vwCl (wC ad cI cZ cJ n kd sd ts fs tr on rp lt ru lg lp) H → va_S (fun _ => False) s.heap H locs → lv_has ls 5 [(4, .int (nI i2)), (3, .int (nI (mdS ts lp (f * 64) i2))), (2, .int (nI (f * 64))), (0, .ref (ad 0)), (1, .int (nI f))] → W p l e rm_X0_models s m args below meth c H locs 0 0 Q (F0 m 15 ls []) := by
    intro d3
    induction d3 with
    | zero =>
      intro i2 hi_i2 H locs ls hP hS hl
      obtain rfl : i2 = 64 := by omega
      refine lv_iload hx hb dX0_models_15 (lv_at hl 0 rfl) ?_
      refine lv_bipush (v := nI 64) hx hb dX0_models_17 (by decide) ?_
      refine cT_ge (tgt := 50) hx hb dX0_models_19 (by decide) (nI_le (by omega) (by omega)) ?_
      refine lv_iload_n hx hb dX0_models_50 rfl (lv_at hl 1 rfl) ?_
      exact kret _ _ _ _ _ (rfl) hS dX0_models_51
    | succ d3 ih_i2 =>
      intro i2 hi_i2 H locs ls hP hS hl
      refine lv_iload hx hb dX0_models_15 (lv_at hl 0 rfl) ?_
      refine lv_bipush (v := nI 64) hx hb dX0_models_17 (by decide) ?_
      refine cF_ge (tgt := 50) hx hb dX0_models_19 (by decide) (nI_ge (by omega) (by omega)) ?_
      refine lv_iload_n hx hb dX0_models_22 rfl (lv_at hl 1 rfl) ?_
      refine lv_aload_n hx hb dX0_models_23 rfl (lv_at hl 3 rfl) ?_
      refine va_get (D := D) (ci := 0) (v := .ref (ad 3)) (C := RX0) (T := TX0) (N := 12) hx hb hts hin0 hown hK hP 0 rfl rfl 3 (by decide) (hts (.fieldLink RX0 21 "RumourReasoner" "trueSets" "[J") (by decide +kernel)) (fun _ h9 => h9) rfl dX0_models_24 ?_
      refine lv_iload_n hx hb dX0_models_27 rfl (lv_at hl 2 rfl) ?_
      refine lv_iload hx hb dX0_models_28 (lv_at hl 0 rfl) ?_
      refine lv_iadd hx hb dX0_models_30 ?_
      refine tc_int (y := nI ((f * 64) + i2)) (nI_add _ _) ?_
      refine ld_nl hx hb hK hP 3 2 rfl rfl (j := ((f * 64) + i2)) (by omega) (by decide) dX0_models_31 ?_
      refine lv_aload_n hx hb dX0_models_32 rfl (lv_at hl 3 rfl) ?_
      refine lv_iload hx hb dX0_models_33 (lv_at hl 0 rfl) ?_
      refine puL_V (own := RX0) (As := [.int (nI i2)]) (rest := [.long (ts ((f * 64) + i2)), .int (nI (mdS ts lp (f * 64) i2))]) (C := RX0) (ci := 0) (q0 := 0) ⟨hx, hb, hml, hown, hts⟩ (c_X0_logicWord l D ad cI cZ cJ n kd sd ts fs tr on rp lt ru lg lp i2 (by omega)) gX0_models_X0_logicWord rfl ⟨rfl, rfl⟩ 1 rfl (by decide +kernel) ⟨Nat.le_of_ble_eq_true rfl, Nat.le_of_ble_eq_true rfl⟩ hP hK rfl rfl rfl hS hl.1 rfl (Nat.le_of_ble_eq_true rfl) dX0_models_35 ⟨Nat.zero_le _, Nat.zero_le _⟩ (fun H locs hk1 hS => ?_)
      replace hP := keptP hP hk1
      refine lv_land hx hb dX0_models_38 ?_
      refine puI_S (own := RX0) (As := [.long ((ts ((f * 64) + i2)) &&& (lwL lp i2))]) (rest := [.int (nI (mdS ts lp (f * 64) i2))]) ⟨hx, hb, hml, hown, hts⟩ (c_J13_bitCount_95d88 l D ((ts ((f * 64) + i2)) &&& (lwL lp i2))) gX0_models_J13_bitCount_95d88 rfl ⟨rfl, rfl⟩ 1 rfl (by decide +kernel) ⟨Nat.le_of_ble_eq_true rfl, Nat.le_of_ble_eq_true rfl⟩ nilP (hK.sub (tys' := []) [] rfl) hS hl.1 rfl (Nat.le_of_ble_eq_true rfl) dX0_models_39 ⟨Nat.zero_le _, Nat.zero_le _⟩ (fun H locs hk1 hS => ?_)
      replace hP := keptP hP hk1
      refine lv_iadd hx hb dX0_models_42 ?_
      refine tc_int (y := nI ((mdS ts lp (f * 64) i2) + (pcN ((ts ((f * 64) + i2)) &&& (lwL lp i2))))) (nI_add _ _) ?_
      refine lv_istore_n (lv' := [(3, .int (nI ((mdS ts lp (f * 64) i2) + (pcN ((ts ((f * 64) + i2)) &&& (lwL lp i2)))))), (4, .int (nI i2)), (2, .int (nI (f * 64))), (0, .ref (ad 0)), (1, .int (nI f))]) hx hb dX0_models_43 rfl hl (by decide) rfl (fun ls hl => ?_)
      refine lv_iinc (v := nI (i2 + 1)) (lv' := [(4, .int (nI (i2 + 1))), (3, .int (nI ((mdS ts lp (f * 64) i2) + (pcN ((ts ((f * 64) + i2)) &&& (lwL lp i2)))))), (2, .int (nI (f * 64))), (0, .ref (ad 0)), (1, .int (nI f))]) hx hb dX0_models_44 hl (k := 1) rfl (iinc1 _) (by decide) rfl (fun ls hl => ?_)
      refine lv_goto (tgt := 15) hx hb dX0_models_47 (by decide) ?_
      exact ih_i2 (i2 + 1) (by omega) H locs ls hP hS (lv_sub hl [0, 1, 2, 3, 4] rfl)
  exact key1 (64) 0 (by omega) _ _ ls hP hS (lv_sub hl [0, 1, 2, 3, 4] rfl)

theorem hin_X0_range : ∀ w ∈ wsX00, w ∈ wsX0_range := by first | exact fun _ h => List.mem_cons_of_mem _ (List.mem_append_right _ h) | exact fun _ h => List.mem_cons_of_mem _ (List.mem_append_left _ (List.mem_append_right _ h)) | exact fun _ h => List.mem_cons_of_mem _ (List.mem_append_left _ (List.mem_append_left _ (List.mem_append_right _ h))) | exact fun _ h => List.mem_cons_of_mem _ (List.mem_append_left _ (List.mem_append_left _ (List.mem_append_left _ (List.mem_append_right _ h)))) | decide +kernel
def rm_X0_range : Room := { frames := 2, cells := 0, slots := 0, locals := 45 }
set_option maxHeartbeats 4000000 in
set_option maxRecDepth 100000 in
theorem c_X0_range (hO : OKC n tr rp lt lg ru) (f : Nat) (hf : f < n) : PuI l yX0_range wsX0_range rm_X0_range D vwCl (wC ad cI cZ cJ n kd sd ts fs tr on rp lt ru lg lp) (tyC cI cZ cJ) [.ref (ad 0), .int (nI f)] (nI (rgS ts fs lp (f * 64) 64)) := by
  refine PuI.of (cc := cX0_range) (maxL := 8) (by decide) rfl (Nat.le_of_ble_eq_true rfl) (vp_nar_int _) ?_
  intro p e s m args below meth c Q ls hx hb hml hown hts hP hK kret hl
  have hown : s.vm.findClass RX0 = some m.cls := hown
  have hl : lv_has ls 8 [(0, .ref (ad 0)), (1, .int (nI f))] := hl
  have hS : va_S (fun _ => False) s.heap s.heap [] := va_S.rf
  have hin0 : ∀ w ∈ u_ws RX0 TX0 12, w ∈ wsX0_range := hin_X0_range
  have hn40 := hO.1
  refine lv_aload_n hx hb dX0_range_0 rfl (lv_at hl 0 rfl) ?_
  refine lv_iload_n hx hb dX0_range_1 rfl (lv_at hl 1 rfl) ?_
  refine puV_V (own := RX0) (As := [.int (nI f)]) (rest := []) (C := RX0) (ci := 0) (q0 := 0) ⟨hx, hb, hml, hown, hts⟩ (c_X0_requireFormula l D ad cI cZ cJ n kd sd ts fs tr on rp lt ru lg lp hO f (by omega)) gX0_range_X0_requireFormula rfl ⟨rfl, rfl⟩ 1 rfl (by decide +kernel) ⟨Nat.le_of_ble_eq_true rfl, Nat.le_of_ble_eq_true rfl⟩ hP hK rfl rfl rfl hS hl.1 rfl (Nat.le_of_ble_eq_true rfl) dX0_range_2 ⟨Nat.zero_le _, Nat.zero_le _⟩ (fun H locs hk1 hS => ?_)
  replace hP := keptP hP hk1
  refine lv_iload_n hx hb dX0_range_5 rfl (lv_at hl 1 rfl) ?_
  refine puI_S (own := RX0) (As := [.int (nI f)]) (rest := []) ⟨hx, hb, hml, hown, hts⟩ (c_X0_rowOf l D f) gX0_range_X0_rowOf rfl ⟨rfl, rfl⟩ 1 rfl (by decide +kernel) ⟨Nat.le_of_ble_eq_true rfl, Nat.le_of_ble_eq_true rfl⟩ nilP (hK.sub (tys' := []) [] rfl) hS hl.1 rfl (Nat.le_of_ble_eq_true rfl) dX0_range_6 ⟨Nat.zero_le _, Nat.zero_le _⟩ (fun H locs hk1 hS => ?_)
  replace hP := keptP hP hk1
  refine lv_istore_n (lv' := [(2, .int (nI (f * 64))), (0, .ref (ad 0)), (1, .int (nI f))]) hx hb dX0_range_9 rfl hl (by decide) rfl (fun ls hl => ?_)
  refine lv_iconst (v := nI 0) hx hb dX0_range_10 (by decide) ?_
  refine lv_istore_n (lv' := [(3, .int (nI 0)), (2, .int (nI (f * 64))), (0, .ref (ad 0)), (1, .int (nI f))]) hx hb dX0_range_11 rfl hl (by decide) rfl (fun ls hl => ?_)
  refine lv_iconst (v := nI 0) hx hb dX0_range_12 (by decide) ?_
  refine lv_istore (lv' := [(4, .int (nI 0)), (3, .int (nI 0)), (2, .int (nI (f * 64))), (0, .ref (ad 0)), (1, .int (nI f))]) hx hb dX0_range_13 hl (by decide) rfl (fun ls hl => ?_)
  have key1 : ∀ (d3 i2 : Nat), i2 + d3 = 64 → ∀ (H : Heap) (locs : List Loc) (ls : Array Slot), va_P D vwCl (wC ad cI cZ cJ n kd sd ts fs tr on rp lt ru lg lp) H → va_S (fun _ => False) s.heap H locs → lv_has ls 8 [(4, .int (nI i2)), (3, .int (nI (rgS ts fs lp (f * 64) i2))), (2, .int (nI (f * 64))), (0, .ref (ad 0)), (1, .int (nI f))] → W p l e rm_X0_range s m args below meth c H locs 0 0 Q (F0 m 15 ls []) := by
    intro d3
    induction d3 with
    | zero =>
      intro i2 hi_i2 H locs ls hP hS hl
      obtain rfl : i2 = 64 := by omega
      refine lv_iload hx hb dX0_range_15 (lv_at hl 0 rfl) ?_
      refine lv_bipush (v := nI 64) hx hb dX0_range_17 (by decide) ?_
      refine cT_ge (tgt := 89) hx hb dX0_range_19 (by decide) (nI_le (by omega) (by omega)) ?_
      refine lv_iload_n hx hb dX0_range_89 rfl (lv_at hl 1 rfl) ?_
      exact kret _ _ _ _ _ (rfl) hS dX0_range_90
    | succ d3 ih_i2 =>
      intro i2 hi_i2 H locs ls hP hS hl
      refine lv_iload hx hb dX0_range_15 (lv_at hl 0 rfl) ?_
      refine lv_bipush (v := nI 64) hx hb dX0_range_17 (by decide) ?_
      refine cF_ge (tgt := 89) hx hb dX0_range_19 (by decide) (nI_ge (by omega) (by omega)) ?_
      refine lv_iconst (v := nI 0) hx hb dX0_range_22 (by decide) ?_
      refine lv_istore (lv' := [(5, .int (nI 0)), (4, .int (nI i2)), (3, .int (nI (rgS ts fs lp (f * 64) i2))), (2, .int (nI (f * 64))), (0, .ref (ad 0)), (1, .int (nI f))]) hx hb dX0_range_23 hl (by decide) rfl (fun ls hl => ?_)
      have key4 : ∀ (d6 v5 : Nat), v5 + d6 = 4 → ∀ (H : Heap) (locs : List Loc) (ls : Array Slot), va_P D vwCl (wC ad cI cZ cJ n kd sd ts fs tr on rp lt ru lg lp) H → va_S (fun _ => False) s.heap H locs → lv_has ls 8 [(5, .int (nI v5)), (3, .int (nI (rgV (ts (f * 64 + i2)) (fs (f * 64 + i2)) (lwL lp i2) (rgS ts fs lp (f * 64) i2) v5))), (4, .int (nI i2)), (2, .int (nI (f * 64))), (0, .ref (ad 0)), (1, .int (nI f))] → W p l e rm_X0_range s m args below meth c H locs 0 0 Q (F0 m 25 ls []) := by
        intro d6
        induction d6 with
        | zero =>
          intro v5 hi_v5 H locs ls hP hS hl
          obtain rfl : v5 = 4 := by omega
          refine lv_iload hx hb dX0_range_25 (lv_at hl 0 rfl) ?_
          refine lv_iconst (v := nI 3) hx hb dX0_range_27 (by decide) ?_
          refine cT_gt (tgt := 83) hx hb dX0_range_28 (by decide) (nI_lt (by omega) (by omega)) ?_
          refine lv_iinc (v := nI (i2 + 1)) (lv' := [(4, .int (nI (i2 + 1))), (5, .int (nI 4)), (3, .int (nI (rgV (ts (f * 64 + i2)) (fs (f * 64 + i2)) (lwL lp i2) (rgS ts fs lp (f * 64) i2) 4))), (2, .int (nI (f * 64))), (0, .ref (ad 0)), (1, .int (nI f))]) hx hb dX0_range_83 hl (k := 2) rfl (iinc1 _) (by decide) rfl (fun ls hl => ?_)
          refine lv_goto (tgt := 15) hx hb dX0_range_86 (by decide) ?_
          exact ih_i2 (i2 + 1) (by omega) H locs ls hP hS (lv_sub hl [0, 2, 3, 4, 5] rfl)
        | succ d6 ih_v5 =>
          intro v5 hi_v5 H locs ls hP hS hl
          refine lv_iload hx hb dX0_range_25 (lv_at hl 0 rfl) ?_
          refine lv_iconst (v := nI 3) hx hb dX0_range_27 (by decide) ?_
          refine cF_gt (tgt := 83) hx hb dX0_range_28 (by decide) (nI_nlt (by omega) (by omega)) ?_
          refine lv_aload_n hx hb dX0_range_31 rfl (lv_at hl 4 rfl) ?_
          refine va_get (D := D) (ci := 0) (v := .ref (ad 3)) (C := RX0) (T := TX0) (N := 12) hx hb hts hin0 hown hK hP 0 rfl rfl 3 (by decide) (hts (.fieldLink RX0 21 "RumourReasoner" "trueSets" "[J") (by decide +kernel)) (fun _ h9 => h9) rfl dX0_range_32 ?_
          refine lv_iload_n hx hb dX0_range_35 rfl (lv_at hl 3 rfl) ?_
          refine lv_iload hx hb dX0_range_36 (lv_at hl 2 rfl) ?_
          refine lv_iadd hx hb dX0_range_38 ?_
          refine tc_int (y := nI ((f * 64) + i2)) (nI_add _ _) ?_
          refine ld_nl hx hb hK hP 3 2 rfl rfl (j := ((f * 64) + i2)) (by omega) (by decide) dX0_range_39 ?_
          refine lv_aload_n hx hb dX0_range_40 rfl (lv_at hl 4 rfl) ?_
          refine va_get (D := D) (ci := 0) (v := .ref (ad 4)) (C := RX0) (T := TX0) (N := 12) hx hb hts hin0 hown hK hP 0 rfl rfl 4 (by decide) (hts (.fieldLink RX0 25 "RumourReasoner" "falseSets" "[J") (by decide +kernel)) (fun _ h9 => h9) rfl dX0_range_41 ?_
          refine lv_iload_n hx hb dX0_range_44 rfl (lv_at hl 3 rfl) ?_
          refine lv_iload hx hb dX0_range_45 (lv_at hl 2 rfl) ?_
          refine lv_iadd hx hb dX0_range_47 ?_
          refine tc_int (y := nI ((f * 64) + i2)) (nI_add _ _) ?_
          refine ld_nl hx hb hK hP 4 2 rfl rfl (j := ((f * 64) + i2)) (by omega) (by decide) dX0_range_48 ?_
          refine lv_iload hx hb dX0_range_49 (lv_at hl 0 rfl) ?_
          refine puL_S (own := RX0) (As := [.long (ts ((f * 64) + i2)), .long (fs ((f * 64) + i2)), .int (nI v5)]) (rest := []) ⟨hx, hb, hml, hown, hts⟩ (c_X0_pick l D (ts ((f * 64) + i2)) (fs ((f * 64) + i2)) v5 (by omega)) gX0_range_X0_pick rfl ⟨rfl, rfl⟩ 3 rfl (by decide +kernel) ⟨Nat.le_of_ble_eq_true rfl, Nat.le_of_ble_eq_true rfl⟩ nilP (hK.sub (tys' := []) [] rfl) hS hl.1 rfl (Nat.le_of_ble_eq_true rfl) dX0_range_51 ⟨Nat.zero_le _, Nat.zero_le _⟩ (fun H locs hk1 hS => ?_)
          replace hP := keptP hP hk1
          refine lv_lstore (lv' := [(6, .long (pkL (ts ((f * 64) + i2)) (fs ((f * 64) + i2)) v5)), (5, .int (nI v5)), (3, .int (nI (rgV (ts (f * 64 + i2)) (fs (f * 64 + i2)) (lwL lp i2) (rgS ts fs lp (f * 64) i2) v5))), (4, .int (nI i2)), (2, .int (nI (f * 64))), (0, .ref (ad 0)), (1, .int (nI f))]) hx hb dX0_range_54 hl (by decide) rfl (fun ls hl => ?_)
          refine lv_lload hx hb dX0_range_56 (lv_at hl 0 rfl) ?_
          refine lv_aload_n hx hb dX0_range_58 rfl (lv_at hl 5 rfl) ?_
          refine lv_iload hx hb dX0_range_59 (lv_at hl 3 rfl) ?_
          refine puL_V (own := RX0) (As := [.int (nI i2)]) (rest := [.long (pkL (ts ((f * 64) + i2)) (fs ((f * 64) + i2)) v5)]) (C := RX0) (ci := 0) (q0 := 0) ⟨hx, hb, hml, hown, hts⟩ (c_X0_logicWord l D ad cI cZ cJ n kd sd ts fs tr on rp lt ru lg lp i2 (by omega)) gX0_range_X0_logicWord rfl ⟨rfl, rfl⟩ 1 rfl (by decide +kernel) ⟨Nat.le_of_ble_eq_true rfl, Nat.le_of_ble_eq_true rfl⟩ hP hK rfl rfl rfl hS hl.1 rfl (Nat.le_of_ble_eq_true rfl) dX0_range_61 ⟨Nat.zero_le _, Nat.zero_le _⟩ (fun H locs hk1 hS => ?_)
          replace hP := keptP hP hk1
          refine lv_land hx hb dX0_range_64 ?_
          refine lv_lconst (v := 0) hx hb dX0_range_65 (by decide) ?_
          refine W.lcmp hx hb dX0_range_66 ?_
          refine lv_if_eq (tgt := 77) hx hb dX0_range_67 (by decide) (fun c_7 => ?_) (fun c_7 => ?_)
          · have e_67 := (lcz _).mp c_7
            refine lv_iinc (v := nI (v5 + 1)) (lv' := [(5, .int (nI (v5 + 1))), (6, .long (pkL (ts ((f * 64) + i2)) (fs ((f * 64) + i2)) v5)), (3, .int (nI (rgV (ts (f * 64 + i2)) (fs (f * 64 + i2)) (lwL lp i2) (rgS ts fs lp (f * 64) i2) v5))), (4, .int (nI i2)), (2, .int (nI (f * 64))), (0, .ref (ad 0)), (1, .int (nI f))]) hx hb dX0_range_77 hl (k := 1) rfl (iinc1 _) (by decide) rfl (fun ls hl => ?_)
            refine lv_goto (tgt := 25) hx hb dX0_range_80 (by decide) ?_
            exact ih_v5 (v5 + 1) (by omega) H locs ls hP hS (by have h9 := lv_sub hl [0, 2, 3, 4, 5, 6] rfl; rw [show rgV (ts (f * 64 + i2)) (fs (f * 64 + i2)) (lwL lp i2) (rgS ts fs lp (f * 64) i2) (v5 + 1) = rgV (ts (f * 64 + i2)) (fs (f * 64 + i2)) (lwL lp i2) (rgS ts fs lp (f * 64) i2) v5 from if_pos e_67]; exact h9)
          · have e_67 := fun q => c_7 ((lcz _).mpr q)
            refine lv_iload_n hx hb dX0_range_70 rfl (lv_at hl 2 rfl) ?_
            refine lv_iconst (v := nI 1) hx hb dX0_range_71 (by decide) ?_
            refine lv_iload hx hb dX0_range_72 (lv_at hl 1 rfl) ?_
            refine lv_ishl hx hb dX0_range_74 ?_
            refine tc_int (y := nI (2 ^ v5)) (shl1 (by omega)) ?_
            refine lv_ior hx hb dX0_range_75 ?_
            refine tc_int (y := nI (rgV (ts (f * 64 + i2)) (fs (f * 64 + i2)) (lwL lp i2) (rgS ts fs lp (f * 64) i2) v5 ||| 2 ^ v5)) (fa_or _ _) ?_
            refine lv_istore_n (lv' := [(3, .int (nI (rgV (ts (f * 64 + i2)) (fs (f * 64 + i2)) (lwL lp i2) (rgS ts fs lp (f * 64) i2) v5 ||| 2 ^ v5))), (6, .long (pkL (ts ((f * 64) + i2)) (fs ((f * 64) + i2)) v5)), (5, .int (nI v5)), (4, .int (nI i2)), (2, .int (nI (f * 64))), (0, .ref (ad 0)), (1, .int (nI f))]) hx hb dX0_range_76 rfl hl (by decide) rfl (fun ls hl => ?_)
            refine lv_iinc (v := nI (v5 + 1)) (lv' := [(5, .int (nI (v5 + 1))), (3, .int (nI (rgV (ts (f * 64 + i2)) (fs (f * 64 + i2)) (lwL lp i2) (rgS ts fs lp (f * 64) i2) v5 ||| 2 ^ v5))), (6, .long (pkL (ts ((f * 64) + i2)) (fs ((f * 64) + i2)) v5)), (4, .int (nI i2)), (2, .int (nI (f * 64))), (0, .ref (ad 0)), (1, .int (nI f))]) hx hb dX0_range_77 hl (k := 2) rfl (iinc1 _) (by decide) rfl (fun ls hl => ?_)
            refine lv_goto (tgt := 25) hx hb dX0_range_80 (by decide) ?_
            exact ih_v5 (v5 + 1) (by omega) H locs ls hP hS (by have h9 := lv_sub hl [0, 1, 3, 4, 5, 6] rfl; rw [show rgV (ts (f * 64 + i2)) (fs (f * 64 + i2)) (lwL lp i2) (rgS ts fs lp (f * 64) i2) (v5 + 1) = rgV (ts (f * 64 + i2)) (fs (f * 64 + i2)) (lwL lp i2) (rgS ts fs lp (f * 64) i2) v5 ||| 2 ^ v5 from if_neg e_67]; exact h9)
      exact key4 (4) 0 (by omega) _ _ ls hP hS (lv_sub hl [0, 2, 1, 3, 4, 5] rfl)
  exact key1 (64) 0 (by omega) _ _ ls hP hS (lv_sub hl [0, 1, 2, 3, 4] rfl)

theorem hin_X0_against : ∀ w ∈ wsX00, w ∈ wsX0_against := by first | exact fun _ h => List.mem_cons_of_mem _ (List.mem_append_right _ h) | exact fun _ h => List.mem_cons_of_mem _ (List.mem_append_left _ (List.mem_append_right _ h)) | exact fun _ h => List.mem_cons_of_mem _ (List.mem_append_left _ (List.mem_append_left _ (List.mem_append_right _ h))) | exact fun _ h => List.mem_cons_of_mem _ (List.mem_append_left _ (List.mem_append_left _ (List.mem_append_left _ (List.mem_append_right _ h)))) | decide +kernel
def rm_X0_against : Room := { frames := 2, cells := 0, slots := 0, locals := 42 }
set_option maxHeartbeats 4000000 in
set_option maxRecDepth 100000 in
theorem c_X0_against (hO : OKC n tr rp lt lg ru) (a b : Nat) (ha : a < n) (hb9 : b < n) : PuI l yX0_against wsX0_against rm_X0_against D vwCl (wC ad cI cZ cJ n kd sd ts fs tr on rp lt ru lg lp) (tyC cI cZ cJ) [.ref (ad 0), .int (nI a), .int (nI b)] (rI ((ffO (fun w => decide (¬ (fun w => (ts (a * 64 + w) &&& (ts (b * 64 + w) ^^^ (-1))) &&& lwL lp w) w = 0)) 64).map (fun w => w * 64 + lbN ((fun w => (ts (a * 64 + w) &&& (ts (b * 64 + w) ^^^ (-1))) &&& lwL lp w) w)))) := by
  refine PuI.of (cc := cX0_against) (maxL := 8) (by decide) rfl (Nat.le_of_ble_eq_true rfl) (vp_nar_int _) ?_
  intro p e s m args below meth c Q ls hx hb hml hown hts hP hK kret hl
  have hown : s.vm.findClass RX0 = some m.cls := hown
  have hl : lv_has ls 8 [(0, .ref (ad 0)), (1, .int (nI a)), (2, .int (nI b))] := hl
  have hS : va_S (fun _ => False) s.heap s.heap [] := va_S.rf
  have hin0 : ∀ w ∈ u_ws RX0 TX0 12, w ∈ wsX0_against := hin_X0_against
  have hn40 := hO.1
  refine lv_aload_n hx hb dX0_against_0 rfl (lv_at hl 0 rfl) ?_
  refine lv_iload_n hx hb dX0_against_1 rfl (lv_at hl 1 rfl) ?_
  refine puV_V (own := RX0) (As := [.int (nI a)]) (rest := []) (C := RX0) (ci := 0) (q0 := 0) ⟨hx, hb, hml, hown, hts⟩ (c_X0_requireFormula l D ad cI cZ cJ n kd sd ts fs tr on rp lt ru lg lp hO a (by omega)) gX0_against_X0_requireFormula rfl ⟨rfl, rfl⟩ 1 rfl (by decide +kernel) ⟨Nat.le_of_ble_eq_true rfl, Nat.le_of_ble_eq_true rfl⟩ hP hK rfl rfl rfl hS hl.1 rfl (Nat.le_of_ble_eq_true rfl) dX0_against_2 ⟨Nat.zero_le _, Nat.zero_le _⟩ (fun H locs hk1 hS => ?_)
  replace hP := keptP hP hk1
  refine lv_aload_n hx hb dX0_against_5 rfl (lv_at hl 0 rfl) ?_
  refine lv_iload_n hx hb dX0_against_6 rfl (lv_at hl 2 rfl) ?_
  refine puV_V (own := RX0) (As := [.int (nI b)]) (rest := []) (C := RX0) (ci := 0) (q0 := 0) ⟨hx, hb, hml, hown, hts⟩ (c_X0_requireFormula l D ad cI cZ cJ n kd sd ts fs tr on rp lt ru lg lp hO b (by omega)) gX0_against_X0_requireFormula rfl ⟨rfl, rfl⟩ 1 rfl (by decide +kernel) ⟨Nat.le_of_ble_eq_true rfl, Nat.le_of_ble_eq_true rfl⟩ hP hK rfl rfl rfl hS hl.1 rfl (Nat.le_of_ble_eq_true rfl) dX0_against_7 ⟨Nat.zero_le _, Nat.zero_le _⟩ (fun H locs hk1 hS => ?_)
  replace hP := keptP hP hk1
  refine lv_iload_n hx hb dX0_against_10 rfl (lv_at hl 1 rfl) ?_
  refine puI_S (own := RX0) (As := [.int (nI a)]) (rest := []) ⟨hx, hb, hml, hown, hts⟩ (c_X0_rowOf l D a) gX0_against_X0_rowOf rfl ⟨rfl, rfl⟩ 1 rfl (by decide +kernel) ⟨Nat.le_of_ble_eq_true rfl, Nat.le_of_ble_eq_true rfl⟩ nilP (hK.sub (tys' := []) [] rfl) hS hl.1 rfl (Nat.le_of_ble_eq_true rfl) dX0_against_11 ⟨Nat.zero_le _, Nat.zero_le _⟩ (fun H locs hk1 hS => ?_)
  replace hP := keptP hP hk1
  refine lv_istore_n (lv' := [(3, .int (nI (a * 64))), (0, .ref (ad 0)), (1, .int (nI a)), (2, .int (nI b))]) hx hb dX0_against_14 rfl hl (by decide) rfl (fun ls hl => ?_)
  refine lv_iload_n hx hb dX0_against_15 rfl (lv_at hl 3 rfl) ?_
  refine puI_S (own := RX0) (As := [.int (nI b)]) (rest := []) ⟨hx, hb, hml, hown, hts⟩ (c_X0_rowOf l D b) gX0_against_X0_rowOf rfl ⟨rfl, rfl⟩ 1 rfl (by decide +kernel) ⟨Nat.le_of_ble_eq_true rfl, Nat.le_of_ble_eq_true rfl⟩ nilP (hK.sub (tys' := []) [] rfl) hS hl.1 rfl (Nat.le_of_ble_eq_true rfl) dX0_against_16 ⟨Nat.zero_le _, Nat.zero_le _⟩ (fun H locs hk1 hS => ?_)
  replace hP := keptP hP hk1
  refine lv_istore (lv' := [(4, .int (nI (b * 64))), (3, .int (nI (a * 64))), (0, .ref (ad 0)), (1, .int (nI a)), (2, .int (nI b))]) hx hb dX0_against_19 hl (by decide) rfl (fun ls hl => ?_)
  refine lv_iconst (v := nI 0) hx hb dX0_against_21 (by decide) ?_
  refine lv_istore (lv' := [(5, .int (nI 0)), (4, .int (nI (b * 64))), (3, .int (nI (a * 64))), (0, .ref (ad 0)), (1, .int (nI a)), (2, .int (nI b))]) hx hb dX0_against_22 hl (by decide) rfl (fun ls hl => ?_)
  have key1 : ∀ (d3 i2 : Nat), i2 + d3 = 64 → (∀ j, j < i2 → (fun w => decide (¬ (fun w => (ts (a * 64 + w) &&& (ts (b * 64 + w) ^^^ (-1))) &&& lwL lp w) w = 0)) j = false) → ∀ (H : Heap) (locs : List Loc) (ls : Array Slot), va_P D vwCl (wC ad cI cZ cJ n kd sd ts fs tr on rp lt ru lg lp) H → va_S (fun _ => False) s.heap H locs → lv_has ls 8 [(5, .int (nI i2)), (4, .int (nI (b * 64))), (3, .int (nI (a * 64))), (0, .ref (ad 0)), (1, .int (nI a)), (2, .int (nI b))] → W p l e rm_X0_against s m args below meth c H locs 0 0 Q (F0 m 24 ls []) := by
    intro d3
    induction d3 with
    | zero =>
      intro i2 hi_i2 hinv_i2 H locs ls hP hS hl
      obtain rfl : i2 = 64 := by omega
      refine lv_iload hx hb dX0_against_24 (lv_at hl 0 rfl) ?_
      refine lv_bipush (v := nI 64) hx hb dX0_against_26 (by decide) ?_
      refine cT_ge (tgt := 89) hx hb dX0_against_28 (by decide) (nI_le (by omega) (by omega)) ?_
      refine lv_iconst (v := (-1)) hx hb dX0_against_89 (by decide) ?_
      exact kret _ _ _ _ _ (by rw [ffO_none hinv_i2]; rfl) hS dX0_against_90
    | succ d3 ih_i2 =>
      intro i2 hi_i2 hinv_i2 H locs ls hP hS hl
      refine lv_iload hx hb dX0_against_24 (lv_at hl 0 rfl) ?_
      refine lv_bipush (v := nI 64) hx hb dX0_against_26 (by decide) ?_
      refine cF_ge (tgt := 89) hx hb dX0_against_28 (by decide) (nI_ge (by omega) (by omega)) ?_
      refine lv_aload_n hx hb dX0_against_31 rfl (lv_at hl 3 rfl) ?_
      refine va_get (D := D) (ci := 0) (v := .ref (ad 3)) (C := RX0) (T := TX0) (N := 12) hx hb hts hin0 hown hK hP 0 rfl rfl 3 (by decide) (hts (.fieldLink RX0 21 "RumourReasoner" "trueSets" "[J") (by decide +kernel)) (fun _ h9 => h9) rfl dX0_against_32 ?_
      refine lv_iload_n hx hb dX0_against_35 rfl (lv_at hl 2 rfl) ?_
      refine lv_iload hx hb dX0_against_36 (lv_at hl 0 rfl) ?_
      refine lv_iadd hx hb dX0_against_38 ?_
      refine tc_int (y := nI ((a * 64) + i2)) (nI_add _ _) ?_
      refine ld_nl hx hb hK hP 3 2 rfl rfl (j := ((a * 64) + i2)) (by omega) (by decide) dX0_against_39 ?_
      refine lv_aload_n hx hb dX0_against_40 rfl (lv_at hl 3 rfl) ?_
      refine va_get (D := D) (ci := 0) (v := .ref (ad 3)) (C := RX0) (T := TX0) (N := 12) hx hb hts hin0 hown hK hP 0 rfl rfl 3 (by decide) (hts (.fieldLink RX0 21 "RumourReasoner" "trueSets" "[J") (by decide +kernel)) (fun _ h9 => h9) rfl dX0_against_41 ?_
      refine lv_iload hx hb dX0_against_44 (lv_at hl 1 rfl) ?_
      refine lv_iload hx hb dX0_against_46 (lv_at hl 0 rfl) ?_
      refine lv_iadd hx hb dX0_against_48 ?_
      refine tc_int (y := nI ((b * 64) + i2)) (nI_add _ _) ?_
      refine ld_nl hx hb hK hP 3 2 rfl rfl (j := ((b * 64) + i2)) (by omega) (by decide) dX0_against_49 ?_
      refine lv_ldc2 (v := (-1)) hx hb hown (hts (.constantLong RX0 46 (-1)) (by decide +kernel)) dX0_against_50 ?_
      refine lv_lxor hx hb dX0_against_53 ?_
      refine lv_land hx hb dX0_against_54 ?_
      refine lv_aload_n hx hb dX0_against_55 rfl (lv_at hl 3 rfl) ?_
      refine lv_iload hx hb dX0_against_56 (lv_at hl 0 rfl) ?_
      refine puL_V (own := RX0) (As := [.int (nI i2)]) (rest := [.long ((ts ((a * 64) + i2)) &&& ((ts ((b * 64) + i2)) ^^^ (-1)))]) (C := RX0) (ci := 0) (q0 := 0) ⟨hx, hb, hml, hown, hts⟩ (c_X0_logicWord l D ad cI cZ cJ n kd sd ts fs tr on rp lt ru lg lp i2 (by omega)) gX0_against_X0_logicWord rfl ⟨rfl, rfl⟩ 1 rfl (by decide +kernel) ⟨Nat.le_of_ble_eq_true rfl, Nat.le_of_ble_eq_true rfl⟩ hP hK rfl rfl rfl hS hl.1 rfl (Nat.le_of_ble_eq_true rfl) dX0_against_58 ⟨Nat.zero_le _, Nat.zero_le _⟩ (fun H locs hk1 hS => ?_)
      replace hP := keptP hP hk1
      refine lv_land hx hb dX0_against_61 ?_
      refine lv_lstore (lv' := [(6, .long (((ts ((a * 64) + i2)) &&& ((ts ((b * 64) + i2)) ^^^ (-1))) &&& (lwL lp i2))), (5, .int (nI i2)), (4, .int (nI (b * 64))), (3, .int (nI (a * 64))), (0, .ref (ad 0)), (1, .int (nI a)), (2, .int (nI b))]) hx hb dX0_against_62 hl (by decide) rfl (fun ls hl => ?_)
      refine lv_lload hx hb dX0_against_64 (lv_at hl 0 rfl) ?_
      refine lv_lconst (v := 0) hx hb dX0_against_66 (by decide) ?_
      refine W.lcmp hx hb dX0_against_67 ?_
      refine lv_if_eq (tgt := 83) hx hb dX0_against_68 (by decide) (fun c_4 => ?_) (fun c_4 => ?_)
      · have e_68 : (fun w => decide (¬ (fun w => (ts (a * 64 + w) &&& (ts (b * 64 + w) ^^^ (-1))) &&& lwL lp w) w = 0)) i2 = false := decide_eq_false (fun q => q ((lcz _).mp c_4))
        refine lv_iinc (v := nI (i2 + 1)) (lv' := [(5, .int (nI (i2 + 1))), (6, .long (((ts ((a * 64) + i2)) &&& ((ts ((b * 64) + i2)) ^^^ (-1))) &&& (lwL lp i2))), (4, .int (nI (b * 64))), (3, .int (nI (a * 64))), (0, .ref (ad 0)), (1, .int (nI a)), (2, .int (nI b))]) hx hb dX0_against_83 hl (k := 1) rfl (iinc1 _) (by decide) rfl (fun ls hl => ?_)
        refine lv_goto (tgt := 24) hx hb dX0_against_86 (by decide) ?_
        exact ih_i2 (i2 + 1) (by omega) (lt_s hinv_i2 e_68) H locs ls hP hS (lv_sub hl [0, 2, 3, 4, 5, 6] rfl)
      · have e_68 : (fun w => decide (¬ (fun w => (ts (a * 64 + w) &&& (ts (b * 64 + w) ^^^ (-1))) &&& lwL lp w) w = 0)) i2 = true := decide_eq_true (fun q => c_4 ((lcz _).mpr q))
        refine lv_iload hx hb dX0_against_71 (lv_at hl 1 rfl) ?_
        refine lv_bipush (v := nI 64) hx hb dX0_against_73 (by decide) ?_
        refine lv_imul hx hb dX0_against_75 ?_
        refine tc_int (y := nI (i2 * 64)) (pk_mul _ _) ?_
        refine lv_lload hx hb dX0_against_76 (lv_at hl 0 rfl) ?_
        refine puI_S (own := RX0) (As := [.long (((ts ((a * 64) + i2)) &&& ((ts ((b * 64) + i2)) ^^^ (-1))) &&& (lwL lp i2))]) (rest := [.int (nI (i2 * 64))]) ⟨hx, hb, hml, hown, hts⟩ (c_X0_lowestBit l D (((ts ((a * 64) + i2)) &&& ((ts ((b * 64) + i2)) ^^^ (-1))) &&& (lwL lp i2))) gX0_against_X0_lowestBit rfl ⟨rfl, rfl⟩ 1 rfl (by decide +kernel) ⟨Nat.le_of_ble_eq_true rfl, Nat.le_of_ble_eq_true rfl⟩ nilP (hK.sub (tys' := []) [] rfl) hS hl.1 rfl (Nat.le_of_ble_eq_true rfl) dX0_against_78 ⟨Nat.zero_le _, Nat.zero_le _⟩ (fun H locs hk1 hS => ?_)
        replace hP := keptP hP hk1
        refine lv_iadd hx hb dX0_against_81 ?_
        refine tc_int (y := nI ((i2 * 64) + (lbN (((ts ((a * 64) + i2)) &&& ((ts ((b * 64) + i2)) ^^^ (-1))) &&& (lwL lp i2))))) (nI_add _ _) ?_
        exact kret _ _ _ _ _ (by rw [ffO_at (by omega) e_68 hinv_i2]; rfl) hS dX0_against_82
  exact key1 (64) 0 (by omega) lt_0 _ _ ls hP hS (lv_sub hl [0, 1, 2, 3, 4, 5] rfl)

theorem lbN_lt (x : Int64) : lbN x ≤ 64 := fb_ct_le _ 64
theorem agm {p : Nat → Bool} {g : Nat → Nat} (hg : ∀ w, w < 64 → g w < 2 ^ 31) : rI ((ffO p 64).map g) = -1 ↔ ffO p 64 = none := by
  unfold ffO
  by_cases h : fa_first p 64 < 64
  · rw [if_pos h]
    simp only [Option.map_some, reduceCtorEq, iff_false]
    exact rI_ne (hg _ h)
  · rw [if_neg h]
    simp [rI]
def rm_X0_entails : Room := { frames := 3, cells := 0, slots := 0, locals := 69 }
set_option maxHeartbeats 4000000 in
set_option maxRecDepth 100000 in
theorem c_X0_entails (hO : OKC n tr rp lt lg ru) (a b : Nat) (ha : a < n) (hb9 : b < n) : PuI l yX0_entails wsX0_entails rm_X0_entails D vwCl (wC ad cI cZ cJ n kd sd ts fs tr on rp lt ru lg lp) (tyC cI cZ cJ) [.ref (ad 0), .int (nI a), .int (nI b)] (bI (ffO (fun w => decide (¬ (fun w => (ts (a * 64 + w) &&& (ts (b * 64 + w) ^^^ (-1))) &&& lwL lp w) w = 0)) 64).isNone) := by
  refine PuI.of (cc := cX0_entails) (maxL := 3) (by decide) rfl (Nat.le_of_ble_eq_true rfl) (bI_n _) ?_
  intro p e s m args below meth c Q ls hx hb hml hown hts hP hK kret hl
  have hown : s.vm.findClass RX0 = some m.cls := hown
  have hl : lv_has ls 3 [(0, .ref (ad 0)), (1, .int (nI a)), (2, .int (nI b))] := hl
  have hS : va_S (fun _ => False) s.heap s.heap [] := va_S.rf
  have hn40 := hO.1
  have hag := agm (p := (fun w => decide (¬ (fun w => (ts (a * 64 + w) &&& (ts (b * 64 + w) ^^^ (-1))) &&& lwL lp w) w = 0))) (g := fun w => w * 64 + lbN ((fun w => (ts (a * 64 + w) &&& (ts (b * 64 + w) ^^^ (-1))) &&& lwL lp w) w)) (fun w hw => by have := lbN_lt ((fun w => (ts (a * 64 + w) &&& (ts (b * 64 + w) ^^^ (-1))) &&& lwL lp w) w); omega)
  refine lv_aload_n hx hb dX0_entails_0 rfl (lv_at hl 0 rfl) ?_
  refine lv_iload_n hx hb dX0_entails_1 rfl (lv_at hl 1 rfl) ?_
  refine lv_iload_n hx hb dX0_entails_2 rfl (lv_at hl 2 rfl) ?_
  refine puI_V (own := RX0) (As := [.int (nI a), .int (nI b)]) (rest := []) (C := RX0) (ci := 0) (q0 := 0) ⟨hx, hb, hml, hown, hts⟩ (c_X0_against l D ad cI cZ cJ n kd sd ts fs tr on rp lt ru lg lp hO a b ha hb9) gX0_entails_X0_against rfl ⟨rfl, rfl⟩ 2 rfl (by decide +kernel) ⟨Nat.le_of_ble_eq_true rfl, Nat.le_of_ble_eq_true rfl⟩ hP hK rfl rfl rfl hS hl.1 rfl (Nat.le_of_ble_eq_true rfl) dX0_entails_3 ⟨Nat.zero_le _, Nat.zero_le _⟩ (fun H locs hk1 hS => ?_)
  replace hP := keptP hP hk1
  refine lv_iconst (v := (-1)) hx hb dX0_entails_6 (by decide) ?_
  refine lv_icmp_ne (tgt := 14) hx hb dX0_entails_7 (by decide) (fun c_1 => ?_) (fun c_1 => ?_)
  · have e_7 : (ffO (fun w => decide (¬ (fun w => (ts (a * 64 + w) &&& (ts (b * 64 + w) ^^^ (-1))) &&& lwL lp w) w = 0)) 64).isNone = false := by
      cases h9 : ffO (fun w => decide (¬ (fun w => (ts (a * 64 + w) &&& (ts (b * 64 + w) ^^^ (-1))) &&& lwL lp w) w = 0)) 64 with
      | none => exact absurd (hag.mpr h9) c_1
      | some w => rfl
    refine lv_iconst (v := nI 0) hx hb dX0_entails_14 (by decide) ?_
    exact kret _ _ _ _ _ (by rw [e_7]; rfl) hS dX0_entails_15
  · have e_7 : (ffO (fun w => decide (¬ (fun w => (ts (a * 64 + w) &&& (ts (b * 64 + w) ^^^ (-1))) &&& lwL lp w) w = 0)) 64).isNone = true := by rw [hag.mp c_1]; rfl
    refine lv_iconst (v := nI 1) hx hb dX0_entails_10 (by decide) ?_
    refine lv_goto (tgt := 15) hx hb dX0_entails_11 (by decide) ?_
    exact kret _ _ _ _ _ (by rw [e_7]; rfl) hS dX0_entails_15

def rm_X0_areEqual : Room := { frames := 1, cells := 0, slots := 0, locals := 27 }
set_option maxHeartbeats 4000000 in
set_option maxRecDepth 100000 in
theorem c_X0_areEqual (hO : OKC n tr rp lt lg ru) (a b : Nat) (ha : a < n) (hb9 : b < n) : PuI l yX0_areEqual wsX0_areEqual rm_X0_areEqual D vwCl (wC ad cI cZ cJ n kd sd ts fs tr on rp lt ru lg lp) (tyC cI cZ cJ) [.ref (ad 0), .int (nI a), .int (nI b)] (bI (ffO (fun w => decide (¬ dfL ts fs (a * 64 + w) (b * 64 + w) 0 &&& lwL lp w = 0)) 64).isNone) := by
  refine PuI.of (cc := cX0_areEqual) (maxL := 6) (by decide) rfl (Nat.le_of_ble_eq_true rfl) (bI_n _) ?_
  intro p e s m args below meth c Q ls hx hb hml hown hts hP hK kret hl
  have hown : s.vm.findClass RX0 = some m.cls := hown
  have hl : lv_has ls 6 [(0, .ref (ad 0)), (1, .int (nI a)), (2, .int (nI b))] := hl
  have hS : va_S (fun _ => False) s.heap s.heap [] := va_S.rf
  have hn40 := hO.1
  refine lv_aload_n hx hb dX0_areEqual_0 rfl (lv_at hl 0 rfl) ?_
  refine lv_iload_n hx hb dX0_areEqual_1 rfl (lv_at hl 1 rfl) ?_
  refine puV_V (own := RX0) (As := [.int (nI a)]) (rest := []) (C := RX0) (ci := 0) (q0 := 0) ⟨hx, hb, hml, hown, hts⟩ (c_X0_requireFormula l D ad cI cZ cJ n kd sd ts fs tr on rp lt ru lg lp hO a (by omega)) gX0_areEqual_X0_requireFormula rfl ⟨rfl, rfl⟩ 1 rfl (by decide +kernel) ⟨Nat.le_of_ble_eq_true rfl, Nat.le_of_ble_eq_true rfl⟩ hP hK rfl rfl rfl hS hl.1 rfl (Nat.le_of_ble_eq_true rfl) dX0_areEqual_2 ⟨Nat.zero_le _, Nat.zero_le _⟩ (fun H locs hk1 hS => ?_)
  replace hP := keptP hP hk1
  refine lv_aload_n hx hb dX0_areEqual_5 rfl (lv_at hl 0 rfl) ?_
  refine lv_iload_n hx hb dX0_areEqual_6 rfl (lv_at hl 2 rfl) ?_
  refine puV_V (own := RX0) (As := [.int (nI b)]) (rest := []) (C := RX0) (ci := 0) (q0 := 0) ⟨hx, hb, hml, hown, hts⟩ (c_X0_requireFormula l D ad cI cZ cJ n kd sd ts fs tr on rp lt ru lg lp hO b (by omega)) gX0_areEqual_X0_requireFormula rfl ⟨rfl, rfl⟩ 1 rfl (by decide +kernel) ⟨Nat.le_of_ble_eq_true rfl, Nat.le_of_ble_eq_true rfl⟩ hP hK rfl rfl rfl hS hl.1 rfl (Nat.le_of_ble_eq_true rfl) dX0_areEqual_7 ⟨Nat.zero_le _, Nat.zero_le _⟩ (fun H locs hk1 hS => ?_)
  replace hP := keptP hP hk1
  refine lv_iload_n hx hb dX0_areEqual_10 rfl (lv_at hl 1 rfl) ?_
  refine puI_S (own := RX0) (As := [.int (nI a)]) (rest := []) ⟨hx, hb, hml, hown, hts⟩ (c_X0_rowOf l D a) gX0_areEqual_X0_rowOf rfl ⟨rfl, rfl⟩ 1 rfl (by decide +kernel) ⟨Nat.le_of_ble_eq_true rfl, Nat.le_of_ble_eq_true rfl⟩ nilP (hK.sub (tys' := []) [] rfl) hS hl.1 rfl (Nat.le_of_ble_eq_true rfl) dX0_areEqual_11 ⟨Nat.zero_le _, Nat.zero_le _⟩ (fun H locs hk1 hS => ?_)
  replace hP := keptP hP hk1
  refine lv_istore_n (lv' := [(3, .int (nI (a * 64))), (0, .ref (ad 0)), (1, .int (nI a)), (2, .int (nI b))]) hx hb dX0_areEqual_14 rfl hl (by decide) rfl (fun ls hl => ?_)
  refine lv_iload_n hx hb dX0_areEqual_15 rfl (lv_at hl 3 rfl) ?_
  refine puI_S (own := RX0) (As := [.int (nI b)]) (rest := []) ⟨hx, hb, hml, hown, hts⟩ (c_X0_rowOf l D b) gX0_areEqual_X0_rowOf rfl ⟨rfl, rfl⟩ 1 rfl (by decide +kernel) ⟨Nat.le_of_ble_eq_true rfl, Nat.le_of_ble_eq_true rfl⟩ nilP (hK.sub (tys' := []) [] rfl) hS hl.1 rfl (Nat.le_of_ble_eq_true rfl) dX0_areEqual_16 ⟨Nat.zero_le _, Nat.zero_le _⟩ (fun H locs hk1 hS => ?_)
  replace hP := keptP hP hk1
  refine lv_istore (lv' := [(4, .int (nI (b * 64))), (3, .int (nI (a * 64))), (0, .ref (ad 0)), (1, .int (nI a)), (2, .int (nI b))]) hx hb dX0_areEqual_19 hl (by decide) rfl (fun ls hl => ?_)
  refine lv_iconst (v := nI 0) hx hb dX0_areEqual_21 (by decide) ?_
  refine lv_istore (lv' := [(5, .int (nI 0)), (4, .int (nI (b * 64))), (3, .int (nI (a * 64))), (0, .ref (ad 0)), (1, .int (nI a)), (2, .int (nI b))]) hx hb dX0_areEqual_22 hl (by decide) rfl (fun ls hl => ?_)
  have key1 : ∀ (d3 i2 : Nat), i2 + d3 = 64 → (∀ j, j < i2 → (fun w => decide (¬ dfL ts fs (a * 64 + w) (b * 64 + w) 0 &&& lwL lp w = 0)) j = false) → ∀ (H : Heap) (locs : List Loc) (ls : Array Slot), va_P D vwCl (wC ad cI cZ cJ n kd sd ts fs tr on rp lt ru lg lp) H → va_S (fun _ => False) s.heap H locs → lv_has ls 6 [(5, .int (nI i2)), (4, .int (nI (b * 64))), (3, .int (nI (a * 64))), (0, .ref (ad 0)), (1, .int (nI a)), (2, .int (nI b))] → W p l e rm_X0_areEqual s m args below meth c H locs 0 0 Q (F0 m 24 ls []) := by
    intro d3
    induction d3 with
    | zero =>
      intro i2 hi_i2 hinv_i2 H locs ls hP hS hl
      obtain rfl : i2 = 64 := by omega
      refine lv_iload hx hb dX0_areEqual_24 (lv_at hl 0 rfl) ?_
      refine lv_bipush (v := nI 64) hx hb dX0_areEqual_26 (by decide) ?_
      refine cT_ge (tgt := 65) hx hb dX0_areEqual_28 (by decide) (nI_le (by omega) (by omega)) ?_
      refine lv_iconst (v := nI 1) hx hb dX0_areEqual_65 (by decide) ?_
      exact kret _ _ _ _ _ (by rw [ffO_none hinv_i2]; rfl) hS dX0_areEqual_66
    | succ d3 ih_i2 =>
      intro i2 hi_i2 hinv_i2 H locs ls hP hS hl
      refine lv_iload hx hb dX0_areEqual_24 (lv_at hl 0 rfl) ?_
      refine lv_bipush (v := nI 64) hx hb dX0_areEqual_26 (by decide) ?_
      refine cF_ge (tgt := 65) hx hb dX0_areEqual_28 (by decide) (nI_ge (by omega) (by omega)) ?_
      refine lv_aload_n hx hb dX0_areEqual_31 rfl (lv_at hl 3 rfl) ?_
      refine lv_iload_n hx hb dX0_areEqual_32 rfl (lv_at hl 2 rfl) ?_
      refine lv_iload hx hb dX0_areEqual_33 (lv_at hl 0 rfl) ?_
      refine lv_iadd hx hb dX0_areEqual_35 ?_
      refine tc_int (y := nI ((a * 64) + i2)) (nI_add _ _) ?_
      refine lv_iload hx hb dX0_areEqual_36 (lv_at hl 1 rfl) ?_
      refine lv_iload hx hb dX0_areEqual_38 (lv_at hl 0 rfl) ?_
      refine lv_iadd hx hb dX0_areEqual_40 ?_
      refine tc_int (y := nI ((b * 64) + i2)) (nI_add _ _) ?_
      refine lv_iconst (v := nI 0) hx hb dX0_areEqual_41 (by decide) ?_
      refine puL_V (own := RX0) (As := [.int (nI ((a * 64) + i2)), .int (nI ((b * 64) + i2)), .int (nI 0)]) (rest := []) (C := RX0) (ci := 0) (q0 := 0) ⟨hx, hb, hml, hown, hts⟩ (c_X0_differing l D ad cI cZ cJ n kd sd ts fs tr on rp lt ru lg lp ((a * 64) + i2) ((b * 64) + i2) 0 (by omega) (by omega)) gX0_areEqual_X0_differing rfl ⟨rfl, rfl⟩ 3 rfl (by decide +kernel) ⟨Nat.le_of_ble_eq_true rfl, Nat.le_of_ble_eq_true rfl⟩ hP hK rfl rfl rfl hS hl.1 rfl (Nat.le_of_ble_eq_true rfl) dX0_areEqual_42 ⟨Nat.zero_le _, Nat.zero_le _⟩ (fun H locs hk1 hS => ?_)
      replace hP := keptP hP hk1
      refine lv_aload_n hx hb dX0_areEqual_45 rfl (lv_at hl 3 rfl) ?_
      refine lv_iload hx hb dX0_areEqual_46 (lv_at hl 0 rfl) ?_
      refine puL_V (own := RX0) (As := [.int (nI i2)]) (rest := [.long (dfL ts fs ((a * 64) + i2) ((b * 64) + i2) 0)]) (C := RX0) (ci := 0) (q0 := 0) ⟨hx, hb, hml, hown, hts⟩ (c_X0_logicWord l D ad cI cZ cJ n kd sd ts fs tr on rp lt ru lg lp i2 (by omega)) gX0_areEqual_X0_logicWord rfl ⟨rfl, rfl⟩ 1 rfl (by decide +kernel) ⟨Nat.le_of_ble_eq_true rfl, Nat.le_of_ble_eq_true rfl⟩ hP hK rfl rfl rfl hS hl.1 rfl (Nat.le_of_ble_eq_true rfl) dX0_areEqual_48 ⟨Nat.zero_le _, Nat.zero_le _⟩ (fun H locs hk1 hS => ?_)
      replace hP := keptP hP hk1
      refine lv_land hx hb dX0_areEqual_51 ?_
      refine lv_lconst (v := 0) hx hb dX0_areEqual_52 (by decide) ?_
      refine W.lcmp hx hb dX0_areEqual_53 ?_
      refine lv_if_eq (tgt := 59) hx hb dX0_areEqual_54 (by decide) (fun c_4 => ?_) (fun c_4 => ?_)
      · have e_54 : (fun w => decide (¬ dfL ts fs (a * 64 + w) (b * 64 + w) 0 &&& lwL lp w = 0)) i2 = false := decide_eq_false (fun q => q ((lcz _).mp c_4))
        refine lv_iinc (v := nI (i2 + 1)) (lv' := [(5, .int (nI (i2 + 1))), (4, .int (nI (b * 64))), (3, .int (nI (a * 64))), (0, .ref (ad 0)), (1, .int (nI a)), (2, .int (nI b))]) hx hb dX0_areEqual_59 hl (k := 0) rfl (iinc1 _) (by decide) rfl (fun ls hl => ?_)
        refine lv_goto (tgt := 24) hx hb dX0_areEqual_62 (by decide) ?_
        exact ih_i2 (i2 + 1) (by omega) (lt_s hinv_i2 e_54) H locs ls hP hS (lv_sub hl [0, 1, 2, 3, 4, 5] rfl)
      · have e_54 : (fun w => decide (¬ dfL ts fs (a * 64 + w) (b * 64 + w) 0 &&& lwL lp w = 0)) i2 = true := decide_eq_true (fun q => c_4 ((lcz _).mpr q))
        refine lv_iconst (v := nI 0) hx hb dX0_areEqual_57 (by decide) ?_
        exact kret _ _ _ _ _ (by rw [ffO_at (by omega) e_54 hinv_i2]; rfl) hS dX0_areEqual_58
  exact key1 (64) 0 (by omega) lt_0 _ _ ls hP hS (lv_sub hl [0, 1, 2, 3, 4, 5] rfl)

def chB (ts fs : Nat → Int64) (lp : Int64) (f a u v : Nat) : Bool := (ffO (fun w => decide (¬ (fun w => lwL lp w &&& pkL (vbL (2 * (5 - a)) w) (vbL (2 * (5 - a) + 1) w) u) w = 0 ∧ w + ((v - u) * 2 ^ (2 * (5 - a))) / 64 < 64 ∧ ¬ dfL ts fs (f * 64 + w) (f * 64 + (w + ((v - u) * 2 ^ (2 * (5 - a))) / 64)) (((v - u) * 2 ^ (2 * (5 - a))) % 64) &&& (fun w => lwL lp w &&& pkL (vbL (2 * (5 - a)) w) (vbL (2 * (5 - a) + 1) w) u) w = 0)) 64).isSome
def rm_X0_isChanged : Room := { frames := 2, cells := 0, slots := 0, locals := 45 }
set_option maxHeartbeats 4000000 in
set_option maxRecDepth 100000 in
theorem c_X0_isChanged (f a u v : Nat) (hf : f < 40) (ha : a < 6) (huv : u ≤ v) (hv : v < 4) : PuIe l yX0_isChanged wsX0_isChanged rm_X0_isChanged D vwCl (wC ad cI cZ cJ n kd sd ts fs tr on rp lt ru lg lp) (tyC cI cZ cJ) [.ref (ad 0), .int (nI f), .int (nI a), .int (nI u), .int (nI v)] (bI (chB ts fs lp f a u v)) := by
  refine PuIe.of (cc := cX0_isChanged) (maxL := 13) (by decide) rfl (Nat.le_of_ble_eq_true rfl) (bI_n _) ?_
  intro p e s m args below meth c Q ls hx hb hml hown hts hP hK hTB kret hl
  have hown : s.vm.findClass RX0 = some m.cls := hown
  have hl : lv_has ls 13 [(0, .ref (ad 0)), (1, .int (nI f)), (2, .int (nI a)), (3, .int (nI u)), (4, .int (nI v))] := hl
  have hS : va_S (fun _ => False) s.heap s.heap [] := va_S.rf
  have hstp : ((v - u) * 2 ^ (2 * (5 - a))) < 4096 := dgp_lt (by omega)
  refine lv_iload_n hx hb dX0_isChanged_0 rfl (lv_at hl 1 rfl) ?_
  refine puI_S (own := RX0) (As := [.int (nI f)]) (rest := []) ⟨hx, hb, hml, hown, hts⟩ (c_X0_rowOf l D f) gX0_isChanged_X0_rowOf rfl ⟨rfl, rfl⟩ 1 rfl (by decide +kernel) ⟨Nat.le_of_ble_eq_true rfl, Nat.le_of_ble_eq_true rfl⟩ nilP (hK.sub (tys' := []) [] rfl) hS hl.1 rfl (Nat.le_of_ble_eq_true rfl) dX0_isChanged_1 ⟨Nat.zero_le _, Nat.zero_le _⟩ (fun H locs hk1 hS => ?_)
  replace hP := keptP hP hk1
  refine lv_istore (lv' := [(5, .int (nI (f * 64))), (0, .ref (ad 0)), (1, .int (nI f)), (2, .int (nI a)), (3, .int (nI u)), (4, .int (nI v))]) hx hb dX0_isChanged_4 hl (by decide) rfl (fun ls hl => ?_)
  refine lv_iload_n hx hb dX0_isChanged_6 rfl (lv_at hl 3 rfl) ?_
  refine puI_S (own := RX0) (As := [.int (nI a)]) (rest := []) ⟨hx, hb, hml, hown, hts⟩ (c_X0_placeOf l D a (by omega)) gX0_isChanged_X0_placeOf rfl ⟨rfl, rfl⟩ 1 rfl (by decide +kernel) ⟨Nat.le_of_ble_eq_true rfl, Nat.le_of_ble_eq_true rfl⟩ nilP (hK.sub (tys' := []) [] rfl) hS hl.1 rfl (Nat.le_of_ble_eq_true rfl) dX0_isChanged_7 ⟨Nat.zero_le _, Nat.zero_le _⟩ (fun H locs hk1 hS => ?_)
  replace hP := keptP hP hk1
  refine lv_istore (lv' := [(6, .int (nI (2 * (5 - a)))), (5, .int (nI (f * 64))), (0, .ref (ad 0)), (1, .int (nI f)), (2, .int (nI a)), (3, .int (nI u)), (4, .int (nI v))]) hx hb dX0_isChanged_10 hl (by decide) rfl (fun ls hl => ?_)
  refine lv_iload hx hb dX0_isChanged_12 (lv_at hl 6 rfl) ?_
  refine lv_iload_n hx hb dX0_isChanged_14 rfl (lv_at hl 5 rfl) ?_
  refine lv_isub hx hb dX0_isChanged_15 ?_
  refine tc_int (y := nI (v - u)) (pk_sub huv) ?_
  refine lv_iload hx hb dX0_isChanged_16 (lv_at hl 0 rfl) ?_
  refine lv_ishl hx hb dX0_isChanged_18 ?_
  refine tc_int (y := nI ((v - u) * 2 ^ (2 * (5 - a)))) (shlP (by omega)) ?_
  refine lv_istore (lv' := [(7, .int (nI ((v - u) * 2 ^ (2 * (5 - a))))), (6, .int (nI (2 * (5 - a)))), (5, .int (nI (f * 64))), (0, .ref (ad 0)), (1, .int (nI f)), (2, .int (nI a)), (3, .int (nI u)), (4, .int (nI v))]) hx hb dX0_isChanged_19 hl (by decide) rfl (fun ls hl => ?_)
  refine lv_iconst (v := nI 0) hx hb dX0_isChanged_21 (by decide) ?_
  refine lv_istore (lv' := [(8, .int (nI 0)), (7, .int (nI ((v - u) * 2 ^ (2 * (5 - a))))), (6, .int (nI (2 * (5 - a)))), (5, .int (nI (f * 64))), (0, .ref (ad 0)), (1, .int (nI f)), (2, .int (nI a)), (3, .int (nI u)), (4, .int (nI v))]) hx hb dX0_isChanged_22 hl (by decide) rfl (fun ls hl => ?_)
  have key1 : ∀ (d3 i2 : Nat), i2 + d3 = 64 → (∀ j, j < i2 → (fun w => decide (¬ (fun w => lwL lp w &&& pkL (vbL (2 * (5 - a)) w) (vbL (2 * (5 - a) + 1) w) u) w = 0 ∧ w + ((v - u) * 2 ^ (2 * (5 - a))) / 64 < 64 ∧ ¬ dfL ts fs (f * 64 + w) (f * 64 + (w + ((v - u) * 2 ^ (2 * (5 - a))) / 64)) (((v - u) * 2 ^ (2 * (5 - a))) % 64) &&& (fun w => lwL lp w &&& pkL (vbL (2 * (5 - a)) w) (vbL (2 * (5 - a) + 1) w) u) w = 0)) j = false) → ∀ (H : Heap) (locs : List Loc) (ls : Array Slot), va_P D vwCl (wC ad cI cZ cJ n kd sd ts fs tr on rp lt ru lg lp) H → va_S (fun _ => False) s.heap H locs → lv_has ls 13 [(8, .int (nI i2)), (7, .int (nI ((v - u) * 2 ^ (2 * (5 - a))))), (6, .int (nI (2 * (5 - a)))), (5, .int (nI (f * 64))), (0, .ref (ad 0)), (1, .int (nI f)), (2, .int (nI a)), (3, .int (nI u)), (4, .int (nI v))] → W p l e rm_X0_isChanged s m args below meth c H locs 0 0 Q (F0 m 24 ls []) := by
    intro d3
    induction d3 with
    | zero =>
      intro i2 hi_i2 hinv_i2 H locs ls hP hS hl
      obtain rfl : i2 = 64 := by omega
      refine lv_iload hx hb dX0_isChanged_24 (lv_at hl 0 rfl) ?_
      refine lv_bipush (v := nI 64) hx hb dX0_isChanged_26 (by decide) ?_
      refine cT_ge (tgt := 123) hx hb dX0_isChanged_28 (by decide) (nI_le (by omega) (by omega)) ?_
      refine lv_iconst (v := nI 0) hx hb dX0_isChanged_123 (by decide) ?_
      exact kret _ _ _ _ _ (by unfold chB; rw [ffO_none hinv_i2]; rfl) hS dX0_isChanged_124
    | succ d3 ih_i2 =>
      intro i2 hi_i2 hinv_i2 H locs ls hP hS hl
      refine lv_iload hx hb dX0_isChanged_24 (lv_at hl 0 rfl) ?_
      refine lv_bipush (v := nI 64) hx hb dX0_isChanged_26 (by decide) ?_
      refine cF_ge (tgt := 123) hx hb dX0_isChanged_28 (by decide) (nI_ge (by omega) (by omega)) ?_
      refine lv_aload_n hx hb dX0_isChanged_31 rfl (lv_at hl 4 rfl) ?_
      refine lv_iload hx hb dX0_isChanged_32 (lv_at hl 0 rfl) ?_
      refine puL_V (own := RX0) (As := [.int (nI i2)]) (rest := []) (C := RX0) (ci := 0) (q0 := 0) ⟨hx, hb, hml, hown, hts⟩ (c_X0_logicWord l D ad cI cZ cJ n kd sd ts fs tr on rp lt ru lg lp i2 (by omega)) gX0_isChanged_X0_logicWord rfl ⟨rfl, rfl⟩ 1 rfl (by decide +kernel) ⟨Nat.le_of_ble_eq_true rfl, Nat.le_of_ble_eq_true rfl⟩ hP hK rfl rfl rfl hS hl.1 rfl (Nat.le_of_ble_eq_true rfl) dX0_isChanged_34 ⟨Nat.zero_le _, Nat.zero_le _⟩ (fun H locs hk1 hS => ?_)
      replace hP := keptP hP hk1
      refine lv_iload hx hb dX0_isChanged_37 (lv_at hl 2 rfl) ?_
      refine lv_iload hx hb dX0_isChanged_39 (lv_at hl 0 rfl) ?_
      refine puL_Se (own := RX0) (As := [.int (nI (2 * (5 - a))), .int (nI i2)]) (rest := [.long (lwL lp i2)]) ⟨hx, hb, hml, hown, hts⟩ (c_X0_valuationsWithBit l D (2 * (5 - a)) i2 (by omega) (by omega)) gX0_isChanged_X0_valuationsWithBit rfl ⟨rfl, rfl⟩ 2 rfl (by decide +kernel) ⟨Nat.le_of_ble_eq_true rfl, Nat.le_of_ble_eq_true rfl⟩ nilP (hK.sub (tys' := []) [] rfl) (hTB.kept hS.2.1) hS hl.1 rfl (Nat.le_of_ble_eq_true rfl) dX0_isChanged_41 ⟨Nat.zero_le _, Nat.zero_le _⟩ (fun H locs hk1 hS => ?_)
      replace hP := keptP hP hk1
      refine lv_iload hx hb dX0_isChanged_44 (lv_at hl 2 rfl) ?_
      refine lv_iconst (v := nI 1) hx hb dX0_isChanged_46 (by decide) ?_
      refine lv_iadd hx hb dX0_isChanged_47 ?_
      refine tc_int (y := nI ((2 * (5 - a)) + 1)) (nI_add _ _) ?_
      refine lv_iload hx hb dX0_isChanged_48 (lv_at hl 0 rfl) ?_
      refine puL_Se (own := RX0) (As := [.int (nI ((2 * (5 - a)) + 1)), .int (nI i2)]) (rest := [.long (vbL (2 * (5 - a)) i2), .long (lwL lp i2)]) ⟨hx, hb, hml, hown, hts⟩ (c_X0_valuationsWithBit l D ((2 * (5 - a)) + 1) i2 (by omega) (by omega)) gX0_isChanged_X0_valuationsWithBit rfl ⟨rfl, rfl⟩ 2 rfl (by decide +kernel) ⟨Nat.le_of_ble_eq_true rfl, Nat.le_of_ble_eq_true rfl⟩ nilP (hK.sub (tys' := []) [] rfl) (hTB.kept hS.2.1) hS hl.1 rfl (Nat.le_of_ble_eq_true rfl) dX0_isChanged_50 ⟨Nat.zero_le _, Nat.zero_le _⟩ (fun H locs hk1 hS => ?_)
      replace hP := keptP hP hk1
      refine lv_iload_n hx hb dX0_isChanged_53 rfl (lv_at hl 7 rfl) ?_
      refine puL_S (own := RX0) (As := [.long (vbL (2 * (5 - a)) i2), .long (vbL ((2 * (5 - a)) + 1) i2), .int (nI u)]) (rest := [.long (lwL lp i2)]) ⟨hx, hb, hml, hown, hts⟩ (c_X0_pick l D (vbL (2 * (5 - a)) i2) (vbL ((2 * (5 - a)) + 1) i2) u (by omega)) gX0_isChanged_X0_pick rfl ⟨rfl, rfl⟩ 3 rfl (by decide +kernel) ⟨Nat.le_of_ble_eq_true rfl, Nat.le_of_ble_eq_true rfl⟩ nilP (hK.sub (tys' := []) [] rfl) hS hl.1 rfl (Nat.le_of_ble_eq_true rfl) dX0_isChanged_54 ⟨Nat.zero_le _, Nat.zero_le _⟩ (fun H locs hk1 hS => ?_)
      replace hP := keptP hP hk1
      refine lv_land hx hb dX0_isChanged_57 ?_
      refine lv_lstore (lv' := [(9, .long ((lwL lp i2) &&& (pkL (vbL (2 * (5 - a)) i2) (vbL ((2 * (5 - a)) + 1) i2) u))), (8, .int (nI i2)), (7, .int (nI ((v - u) * 2 ^ (2 * (5 - a))))), (6, .int (nI (2 * (5 - a)))), (5, .int (nI (f * 64))), (0, .ref (ad 0)), (1, .int (nI f)), (2, .int (nI a)), (3, .int (nI u)), (4, .int (nI v))]) hx hb dX0_isChanged_58 hl (by decide) rfl (fun ls hl => ?_)
      refine lv_iload hx hb dX0_isChanged_60 (lv_at hl 1 rfl) ?_
      refine lv_iload hx hb dX0_isChanged_62 (lv_at hl 2 rfl) ?_
      refine lv_bipush (v := nI 64) hx hb dX0_isChanged_64 (by decide) ?_
      refine lv_idiv hx hb dX0_isChanged_66 (by decide) ?_
      refine tc_int (y := nI (((v - u) * 2 ^ (2 * (5 - a))) / 64)) (pk_div (by omega) (by omega) (by omega)) ?_
      refine lv_iadd hx hb dX0_isChanged_67 ?_
      refine tc_int (y := nI (i2 + (((v - u) * 2 ^ (2 * (5 - a))) / 64))) (nI_add _ _) ?_
      refine lv_istore (lv' := [(11, .int (nI (i2 + (((v - u) * 2 ^ (2 * (5 - a))) / 64)))), (9, .long ((lwL lp i2) &&& (pkL (vbL (2 * (5 - a)) i2) (vbL ((2 * (5 - a)) + 1) i2) u))), (8, .int (nI i2)), (7, .int (nI ((v - u) * 2 ^ (2 * (5 - a))))), (6, .int (nI (2 * (5 - a)))), (5, .int (nI (f * 64))), (0, .ref (ad 0)), (1, .int (nI f)), (2, .int (nI a)), (3, .int (nI u)), (4, .int (nI v))]) hx hb dX0_isChanged_68 hl (by decide) rfl (fun ls hl => ?_)
      refine lv_iload hx hb dX0_isChanged_70 (lv_at hl 3 rfl) ?_
      refine lv_bipush (v := nI 64) hx hb dX0_isChanged_72 (by decide) ?_
      refine lv_irem hx hb dX0_isChanged_74 (by decide) ?_
      refine tc_int (y := nI (((v - u) * 2 ^ (2 * (5 - a))) % 64)) (pk_rem (by omega) (by omega) (by omega)) ?_
      refine lv_istore (lv' := [(12, .int (nI (((v - u) * 2 ^ (2 * (5 - a))) % 64))), (11, .int (nI (i2 + (((v - u) * 2 ^ (2 * (5 - a))) / 64)))), (9, .long ((lwL lp i2) &&& (pkL (vbL (2 * (5 - a)) i2) (vbL ((2 * (5 - a)) + 1) i2) u))), (8, .int (nI i2)), (7, .int (nI ((v - u) * 2 ^ (2 * (5 - a))))), (6, .int (nI (2 * (5 - a)))), (5, .int (nI (f * 64))), (0, .ref (ad 0)), (1, .int (nI f)), (2, .int (nI a)), (3, .int (nI u)), (4, .int (nI v))]) hx hb dX0_isChanged_75 hl (by decide) rfl (fun ls hl => ?_)
      refine lv_lload hx hb dX0_isChanged_77 (lv_at hl 2 rfl) ?_
      refine lv_lconst (v := 0) hx hb dX0_isChanged_79 (by decide) ?_
      refine W.lcmp hx hb dX0_isChanged_80 ?_
      refine lv_if_eq (tgt := 117) hx hb dX0_isChanged_81 (by decide) (fun c_4 => ?_) (fun c_4 => ?_)
      · have e_81 := (lcz _).mp c_4
        refine lv_iinc (v := nI (i2 + 1)) (lv' := [(8, .int (nI (i2 + 1))), (12, .int (nI (((v - u) * 2 ^ (2 * (5 - a))) % 64))), (11, .int (nI (i2 + (((v - u) * 2 ^ (2 * (5 - a))) / 64)))), (9, .long ((lwL lp i2) &&& (pkL (vbL (2 * (5 - a)) i2) (vbL ((2 * (5 - a)) + 1) i2) u))), (7, .int (nI ((v - u) * 2 ^ (2 * (5 - a))))), (6, .int (nI (2 * (5 - a)))), (5, .int (nI (f * 64))), (0, .ref (ad 0)), (1, .int (nI f)), (2, .int (nI a)), (3, .int (nI u)), (4, .int (nI v))]) hx hb dX0_isChanged_117 hl (k := 3) rfl (iinc1 _) (by decide) rfl (fun ls hl => ?_)
        refine lv_goto (tgt := 24) hx hb dX0_isChanged_120 (by decide) ?_
        have e_p : (fun w => decide (¬ (fun w => lwL lp w &&& pkL (vbL (2 * (5 - a)) w) (vbL (2 * (5 - a) + 1) w) u) w = 0 ∧ w + ((v - u) * 2 ^ (2 * (5 - a))) / 64 < 64 ∧ ¬ dfL ts fs (f * 64 + w) (f * 64 + (w + ((v - u) * 2 ^ (2 * (5 - a))) / 64)) (((v - u) * 2 ^ (2 * (5 - a))) % 64) &&& (fun w => lwL lp w &&& pkL (vbL (2 * (5 - a)) w) (vbL (2 * (5 - a) + 1) w) u) w = 0)) i2 = false := decide_eq_false (fun q => q.1 e_81)
        exact ih_i2 (i2 + 1) (by omega) (lt_s hinv_i2 e_p) H locs ls hP hS (lv_sub hl [0, 4, 5, 6, 7, 8, 9, 10, 11] rfl)
      · have e_81 := fun q => c_4 ((lcz _).mpr q)
        refine lv_iload hx hb dX0_isChanged_84 (lv_at hl 1 rfl) ?_
        refine lv_bipush (v := nI 64) hx hb dX0_isChanged_86 (by decide) ?_
        refine lv_icmp_ge (tgt := 117) hx hb dX0_isChanged_88 (by decide) (fun c_5 => ?_) (fun c_5 => ?_)
        · have e_88 : ¬ i2 + ((v - u) * 2 ^ (2 * (5 - a))) / 64 < 64 := fun q => nI_ge q (by decide) c_5
          refine lv_iinc (v := nI (i2 + 1)) (lv' := [(8, .int (nI (i2 + 1))), (12, .int (nI (((v - u) * 2 ^ (2 * (5 - a))) % 64))), (11, .int (nI (i2 + (((v - u) * 2 ^ (2 * (5 - a))) / 64)))), (9, .long ((lwL lp i2) &&& (pkL (vbL (2 * (5 - a)) i2) (vbL ((2 * (5 - a)) + 1) i2) u))), (7, .int (nI ((v - u) * 2 ^ (2 * (5 - a))))), (6, .int (nI (2 * (5 - a)))), (5, .int (nI (f * 64))), (0, .ref (ad 0)), (1, .int (nI f)), (2, .int (nI a)), (3, .int (nI u)), (4, .int (nI v))]) hx hb dX0_isChanged_117 hl (k := 3) rfl (iinc1 _) (by decide) rfl (fun ls hl => ?_)
          refine lv_goto (tgt := 24) hx hb dX0_isChanged_120 (by decide) ?_
          have e_p : (fun w => decide (¬ (fun w => lwL lp w &&& pkL (vbL (2 * (5 - a)) w) (vbL (2 * (5 - a) + 1) w) u) w = 0 ∧ w + ((v - u) * 2 ^ (2 * (5 - a))) / 64 < 64 ∧ ¬ dfL ts fs (f * 64 + w) (f * 64 + (w + ((v - u) * 2 ^ (2 * (5 - a))) / 64)) (((v - u) * 2 ^ (2 * (5 - a))) % 64) &&& (fun w => lwL lp w &&& pkL (vbL (2 * (5 - a)) w) (vbL (2 * (5 - a) + 1) w) u) w = 0)) i2 = false := decide_eq_false (fun q => e_88 q.2.1)
          exact ih_i2 (i2 + 1) (by omega) (lt_s hinv_i2 e_p) H locs ls hP hS (lv_sub hl [0, 4, 5, 6, 7, 8, 9, 10, 11] rfl)
        · have e_88 : i2 + ((v - u) * 2 ^ (2 * (5 - a))) / 64 < 64 := Nat.not_le.mp (fun q => c_5 (nI_le q (by omega)))
          refine lv_aload_n hx hb dX0_isChanged_91 rfl (lv_at hl 7 rfl) ?_
          refine lv_iload hx hb dX0_isChanged_92 (lv_at hl 6 rfl) ?_
          refine lv_iload hx hb dX0_isChanged_94 (lv_at hl 3 rfl) ?_
          refine lv_iadd hx hb dX0_isChanged_96 ?_
          refine tc_int (y := nI ((f * 64) + i2)) (nI_add _ _) ?_
          refine lv_iload hx hb dX0_isChanged_97 (lv_at hl 6 rfl) ?_
          refine lv_iload hx hb dX0_isChanged_99 (lv_at hl 1 rfl) ?_
          refine lv_iadd hx hb dX0_isChanged_101 ?_
          refine tc_int (y := nI ((f * 64) + (i2 + (((v - u) * 2 ^ (2 * (5 - a))) / 64)))) (nI_add _ _) ?_
          refine lv_iload hx hb dX0_isChanged_102 (lv_at hl 0 rfl) ?_
          refine puL_V (own := RX0) (As := [.int (nI ((f * 64) + i2)), .int (nI ((f * 64) + (i2 + (((v - u) * 2 ^ (2 * (5 - a))) / 64)))), .int (nI (((v - u) * 2 ^ (2 * (5 - a))) % 64))]) (rest := []) (C := RX0) (ci := 0) (q0 := 0) ⟨hx, hb, hml, hown, hts⟩ (c_X0_differing l D ad cI cZ cJ n kd sd ts fs tr on rp lt ru lg lp ((f * 64) + i2) ((f * 64) + (i2 + (((v - u) * 2 ^ (2 * (5 - a))) / 64))) (((v - u) * 2 ^ (2 * (5 - a))) % 64) (by omega) (by omega)) gX0_isChanged_X0_differing rfl ⟨rfl, rfl⟩ 3 rfl (by decide +kernel) ⟨Nat.le_of_ble_eq_true rfl, Nat.le_of_ble_eq_true rfl⟩ hP hK rfl rfl rfl hS hl.1 rfl (Nat.le_of_ble_eq_true rfl) dX0_isChanged_104 ⟨Nat.zero_le _, Nat.zero_le _⟩ (fun H locs hk1 hS => ?_)
          replace hP := keptP hP hk1
          refine lv_lload hx hb dX0_isChanged_107 (lv_at hl 2 rfl) ?_
          refine lv_land hx hb dX0_isChanged_109 ?_
          refine lv_lconst (v := 0) hx hb dX0_isChanged_110 (by decide) ?_
          refine W.lcmp hx hb dX0_isChanged_111 ?_
          refine lv_if_eq (tgt := 117) hx hb dX0_isChanged_112 (by decide) (fun c_6 => ?_) (fun c_6 => ?_)
          · have e_112 := (lcz _).mp c_6
            refine lv_iinc (v := nI (i2 + 1)) (lv' := [(8, .int (nI (i2 + 1))), (12, .int (nI (((v - u) * 2 ^ (2 * (5 - a))) % 64))), (11, .int (nI (i2 + (((v - u) * 2 ^ (2 * (5 - a))) / 64)))), (9, .long ((lwL lp i2) &&& (pkL (vbL (2 * (5 - a)) i2) (vbL ((2 * (5 - a)) + 1) i2) u))), (7, .int (nI ((v - u) * 2 ^ (2 * (5 - a))))), (6, .int (nI (2 * (5 - a)))), (5, .int (nI (f * 64))), (0, .ref (ad 0)), (1, .int (nI f)), (2, .int (nI a)), (3, .int (nI u)), (4, .int (nI v))]) hx hb dX0_isChanged_117 hl (k := 3) rfl (iinc1 _) (by decide) rfl (fun ls hl => ?_)
            refine lv_goto (tgt := 24) hx hb dX0_isChanged_120 (by decide) ?_
            have e_p : (fun w => decide (¬ (fun w => lwL lp w &&& pkL (vbL (2 * (5 - a)) w) (vbL (2 * (5 - a) + 1) w) u) w = 0 ∧ w + ((v - u) * 2 ^ (2 * (5 - a))) / 64 < 64 ∧ ¬ dfL ts fs (f * 64 + w) (f * 64 + (w + ((v - u) * 2 ^ (2 * (5 - a))) / 64)) (((v - u) * 2 ^ (2 * (5 - a))) % 64) &&& (fun w => lwL lp w &&& pkL (vbL (2 * (5 - a)) w) (vbL (2 * (5 - a) + 1) w) u) w = 0)) i2 = false := decide_eq_false (fun q => q.2.2 e_112)
            exact ih_i2 (i2 + 1) (by omega) (lt_s hinv_i2 e_p) H locs ls hP hS (lv_sub hl [0, 4, 5, 6, 7, 8, 9, 10, 11] rfl)
          · have e_112 := fun q => c_6 ((lcz _).mpr q)
            refine lv_iconst (v := nI 1) hx hb dX0_isChanged_115 (by decide) ?_
            exact kret _ _ _ _ _ (by unfold chB; rw [ffO_at (p := (fun w => decide (¬ (fun w => lwL lp w &&& pkL (vbL (2 * (5 - a)) w) (vbL (2 * (5 - a) + 1) w) u) w = 0 ∧ w + ((v - u) * 2 ^ (2 * (5 - a))) / 64 < 64 ∧ ¬ dfL ts fs (f * 64 + w) (f * 64 + (w + ((v - u) * 2 ^ (2 * (5 - a))) / 64)) (((v - u) * 2 ^ (2 * (5 - a))) % 64) &&& (fun w => lwL lp w &&& pkL (vbL (2 * (5 - a)) w) (vbL (2 * (5 - a) + 1) w) u) w = 0))) (by omega) (decide_eq_true ⟨e_81, e_88, e_112⟩) hinv_i2]; rfl) hS dX0_isChanged_116
  exact key1 (64) 0 (by omega) lt_0 _ _ ls hP hS (lv_sub hl [0, 1, 2, 3, 4, 5, 6, 7, 8] rfl)

theorem hin_X0_depends : ∀ w ∈ wsX00, w ∈ wsX0_depends := by first | exact fun _ h => List.mem_cons_of_mem _ (List.mem_append_right _ h) | exact fun _ h => List.mem_cons_of_mem _ (List.mem_append_left _ (List.mem_append_right _ h)) | exact fun _ h => List.mem_cons_of_mem _ (List.mem_append_left _ (List.mem_append_left _ (List.mem_append_right _ h))) | exact fun _ h => List.mem_cons_of_mem _ (List.mem_append_left _ (List.mem_append_left _ (List.mem_append_left _ (List.mem_append_right _ h)))) | decide +kernel
def rm_X0_depends : Room := { frames := 3, cells := 0, slots := 0, locals := 77 }
set_option maxHeartbeats 4000000 in
set_option maxRecDepth 100000 in
theorem c_X0_depends (hO : OKC n tr rp lt lg ru) (f a : Nat) (hf : f < n) (ha : a < 6) (hlb : lbN (nI lg).toInt64 < 4) : PuIe l yX0_depends wsX0_depends rm_X0_depends D vwCl (wC ad cI cZ cJ n kd sd ts fs tr on rp lt ru lg lp) (tyC cI cZ cJ) [.ref (ad 0), .int (nI f), .int (nI a)] (bI (ffO (fun v => decide (lbN (nI lg).toInt64 < v) && (lg.testBit v && chB ts fs lp f a (lbN (nI lg).toInt64) v)) 4).isSome) := by
  refine PuIe.of (cc := cX0_depends) (maxL := 5) (by decide) rfl (Nat.le_of_ble_eq_true rfl) (bI_n _) ?_
  intro p e s m args below meth c Q ls hx hb hml hown hts hP hK hTB kret hl
  have hown : s.vm.findClass RX0 = some m.cls := hown
  have hl : lv_has ls 5 [(0, .ref (ad 0)), (1, .int (nI f)), (2, .int (nI a))] := hl
  have hS : va_S (fun _ => False) s.heap s.heap [] := va_S.rf
  have hin0 : ∀ w ∈ u_ws RX0 TX0 12, w ∈ wsX0_depends := hin_X0_depends
  have hn40 := hO.1
  have hlg := hO.2.2.2.2.1
  refine lv_aload_n hx hb dX0_depends_0 rfl (lv_at hl 0 rfl) ?_
  refine lv_iload_n hx hb dX0_depends_1 rfl (lv_at hl 1 rfl) ?_
  refine puV_V (own := RX0) (As := [.int (nI f)]) (rest := []) (C := RX0) (ci := 0) (q0 := 0) ⟨hx, hb, hml, hown, hts⟩ (c_X0_requireFormula l D ad cI cZ cJ n kd sd ts fs tr on rp lt ru lg lp hO f (by omega)) gX0_depends_X0_requireFormula rfl ⟨rfl, rfl⟩ 1 rfl (by decide +kernel) ⟨Nat.le_of_ble_eq_true rfl, Nat.le_of_ble_eq_true rfl⟩ hP hK rfl rfl rfl hS hl.1 rfl (Nat.le_of_ble_eq_true rfl) dX0_depends_2 ⟨Nat.zero_le _, Nat.zero_le _⟩ (fun H locs hk1 hS => ?_)
  replace hP := keptP hP hk1
  refine lv_iload_n hx hb dX0_depends_5 rfl (lv_at hl 2 rfl) ?_
  refine puV_S (own := RX0) (As := [.int (nI a)]) (rest := []) ⟨hx, hb, hml, hown, hts⟩ (c_X0_requireAtom l D a (by omega)) gX0_depends_X0_requireAtom rfl ⟨rfl, rfl⟩ 1 rfl (by decide +kernel) ⟨Nat.le_of_ble_eq_true rfl, Nat.le_of_ble_eq_true rfl⟩ nilP (hK.sub (tys' := []) [] rfl) hS hl.1 rfl (Nat.le_of_ble_eq_true rfl) dX0_depends_6 ⟨Nat.zero_le _, Nat.zero_le _⟩ (fun H locs hk1 hS => ?_)
  replace hP := keptP hP hk1
  refine lv_aload_n hx hb dX0_depends_9 rfl (lv_at hl 0 rfl) ?_
  refine va_get (D := D) (ci := 0) (v := .int (nI lg)) (C := RX0) (T := TX0) (N := 12) hx hb hts hin0 hown hK hP 0 rfl rfl 10 (by decide) (hts (.fieldLink RX0 43 "RumourReasoner" "logic" "I") (by decide +kernel)) (fun _ h9 => h9) rfl dX0_depends_10 ?_
  refine lv_i2l (v := (nI lg).toInt64) hx hb dX0_depends_13 rfl ?_
  refine puI_S (own := RX0) (As := [.long ((nI lg).toInt64)]) (rest := []) ⟨hx, hb, hml, hown, hts⟩ (c_X0_lowestBit l D ((nI lg).toInt64)) gX0_depends_X0_lowestBit rfl ⟨rfl, rfl⟩ 1 rfl (by decide +kernel) ⟨Nat.le_of_ble_eq_true rfl, Nat.le_of_ble_eq_true rfl⟩ nilP (hK.sub (tys' := []) [] rfl) hS hl.1 rfl (Nat.le_of_ble_eq_true rfl) dX0_depends_14 ⟨Nat.zero_le _, Nat.zero_le _⟩ (fun H locs hk1 hS => ?_)
  replace hP := keptP hP hk1
  refine lv_istore_n (lv' := [(3, .int (nI (lbN ((nI lg).toInt64)))), (0, .ref (ad 0)), (1, .int (nI f)), (2, .int (nI a))]) hx hb dX0_depends_17 rfl hl (by decide) rfl (fun ls hl => ?_)
  refine lv_iload_n hx hb dX0_depends_18 rfl (lv_at hl 0 rfl) ?_
  refine lv_iconst (v := nI 1) hx hb dX0_depends_19 (by decide) ?_
  refine lv_iadd hx hb dX0_depends_20 ?_
  refine tc_int (y := nI ((lbN ((nI lg).toInt64)) + 1)) (nI_add _ _) ?_
  refine lv_istore (lv' := [(4, .int (nI ((lbN ((nI lg).toInt64)) + 1))), (3, .int (nI (lbN ((nI lg).toInt64)))), (0, .ref (ad 0)), (1, .int (nI f)), (2, .int (nI a))]) hx hb dX0_depends_21 hl (by decide) rfl (fun ls hl => ?_)
  have key1 : ∀ (d3 v2 : Nat), v2 + d3 = 4 → (lbN (nI lg).toInt64 < v2 ∧ ∀ j, j < v2 → (fun v => decide (lbN (nI lg).toInt64 < v) && (lg.testBit v && chB ts fs lp f a (lbN (nI lg).toInt64) v)) j = false) → ∀ (H : Heap) (locs : List Loc) (ls : Array Slot), va_P D vwCl (wC ad cI cZ cJ n kd sd ts fs tr on rp lt ru lg lp) H → va_S (fun _ => False) s.heap H locs → lv_has ls 5 [(4, .int (nI v2)), (3, .int (nI (lbN ((nI lg).toInt64)))), (0, .ref (ad 0)), (1, .int (nI f)), (2, .int (nI a))] → W p l e rm_X0_depends s m args below meth c H locs 0 0 Q (F0 m 23 ls []) := by
    intro d3
    induction d3 with
    | zero =>
      intro v2 hi_v2 hinv_v2 H locs ls hP hS hl
      obtain rfl : v2 = 4 := by omega
      have hinv9 := hinv_v2.2
      refine lv_iload hx hb dX0_depends_23 (lv_at hl 0 rfl) ?_
      refine lv_iconst (v := nI 3) hx hb dX0_depends_25 (by decide) ?_
      refine cT_gt (tgt := 61) hx hb dX0_depends_26 (by decide) (nI_lt (by omega) (by omega)) ?_
      refine lv_iconst (v := nI 0) hx hb dX0_depends_61 (by decide) ?_
      exact kret _ _ _ _ _ (by rw [ffO_none hinv9]; rfl) hS dX0_depends_62
    | succ d3 ih_v2 =>
      intro v2 hi_v2 hinv_v2 H locs ls hP hS hl
      have hlv := hinv_v2.1
      refine lv_iload hx hb dX0_depends_23 (lv_at hl 0 rfl) ?_
      refine lv_iconst (v := nI 3) hx hb dX0_depends_25 (by decide) ?_
      refine cF_gt (tgt := 61) hx hb dX0_depends_26 (by decide) (nI_nlt (by omega) (by omega)) ?_
      refine lv_aload_n hx hb dX0_depends_29 rfl (lv_at hl 2 rfl) ?_
      refine va_get (D := D) (ci := 0) (v := .int (nI lg)) (C := RX0) (T := TX0) (N := 12) hx hb hts hin0 hown hK hP 0 rfl rfl 10 (by decide) (hts (.fieldLink RX0 43 "RumourReasoner" "logic" "I") (by decide +kernel)) (fun _ h9 => h9) rfl dX0_depends_30 ?_
      refine lv_iload hx hb dX0_depends_33 (lv_at hl 0 rfl) ?_
      refine lv_iushr (v := ((nI lg).toUInt32 >>> ((nI v2).toUInt32 &&& Int32.toUInt32 31)).toInt32) hx hb dX0_depends_35 rfl ?_
      refine tc_int (y := nI (lg / 2 ^ v2)) (ushN (by omega) (by omega)) ?_
      refine lv_iconst (v := nI 1) hx hb dX0_depends_36 (by decide) ?_
      refine lv_iand hx hb dX0_depends_37 ?_
      refine tc_int (y := nI (lg / 2 ^ v2 % 2)) (and1 (Nat.lt_of_le_of_lt (Nat.div_le_self _ _) (by omega))) ?_
      refine lv_if_eq (tgt := 55) hx hb dX0_depends_38 (by decide) (fun c_4 => ?_) (fun c_4 => ?_)
      · have e_38 := bit0.mp c_4
        refine lv_iinc (v := nI (v2 + 1)) (lv' := [(4, .int (nI (v2 + 1))), (3, .int (nI (lbN ((nI lg).toInt64)))), (0, .ref (ad 0)), (1, .int (nI f)), (2, .int (nI a))]) hx hb dX0_depends_55 hl (k := 0) rfl (iinc1 _) (by decide) rfl (fun ls hl => ?_)
        refine lv_goto (tgt := 23) hx hb dX0_depends_58 (by decide) ?_
        exact ih_v2 (v2 + 1) (by omega) (⟨by omega, lt_s hinv_v2.2 (by show (decide (lbN (nI lg).toInt64 < v2) && (Nat.testBit lg v2 && _)) = false; rw [e_38]; simp)⟩) H locs ls hP hS (lv_sub hl [0, 1, 2, 3, 4] rfl)
      · have e_38 : Nat.testBit lg v2 = true := ts_nf (fun q => c_4 (bit0.mpr q))
        refine lv_aload_n hx hb dX0_depends_41 rfl (lv_at hl 2 rfl) ?_
        refine lv_iload_n hx hb dX0_depends_42 rfl (lv_at hl 3 rfl) ?_
        refine lv_iload_n hx hb dX0_depends_43 rfl (lv_at hl 4 rfl) ?_
        refine lv_iload_n hx hb dX0_depends_44 rfl (lv_at hl 1 rfl) ?_
        refine lv_iload hx hb dX0_depends_45 (lv_at hl 0 rfl) ?_
        refine puI_Ve (own := RX0) (As := [.int (nI f), .int (nI a), .int (nI (lbN ((nI lg).toInt64))), .int (nI v2)]) (rest := []) (C := RX0) (ci := 0) (q0 := 0) ⟨hx, hb, hml, hown, hts⟩ (c_X0_isChanged l D ad cI cZ cJ n kd sd ts fs tr on rp lt ru lg lp f a (lbN ((nI lg).toInt64)) v2 (by omega) (by omega) (by omega) (by omega)) gX0_depends_X0_isChanged rfl ⟨rfl, rfl⟩ 4 rfl (by decide +kernel) ⟨Nat.le_of_ble_eq_true rfl, Nat.le_of_ble_eq_true rfl⟩ hP hK (hTB.kept hS.2.1) rfl rfl rfl hS hl.1 rfl (Nat.le_of_ble_eq_true rfl) dX0_depends_47 ⟨Nat.zero_le _, Nat.zero_le _⟩ (fun H locs hk1 hS => ?_)
        replace hP := keptP hP hk1
        refine lv_if_eq (tgt := 55) hx hb dX0_depends_50 (by decide) (fun c_5 => ?_) (fun c_5 => ?_)
        · have e_50 := bI_0 c_5
          refine lv_iinc (v := nI (v2 + 1)) (lv' := [(4, .int (nI (v2 + 1))), (3, .int (nI (lbN ((nI lg).toInt64)))), (0, .ref (ad 0)), (1, .int (nI f)), (2, .int (nI a))]) hx hb dX0_depends_55 hl (k := 0) rfl (iinc1 _) (by decide) rfl (fun ls hl => ?_)
          refine lv_goto (tgt := 23) hx hb dX0_depends_58 (by decide) ?_
          exact ih_v2 (v2 + 1) (by omega) (⟨by omega, lt_s hinv_v2.2 (by show (decide (lbN (nI lg).toInt64 < v2) && (Nat.testBit lg v2 && _)) = false; rw [e_50]; simp)⟩) H locs ls hP hS (lv_sub hl [0, 1, 2, 3, 4] rfl)
        · have e_50 := bI_1 c_5
          refine lv_iconst (v := nI 1) hx hb dX0_depends_53 (by decide) ?_
          exact kret _ _ _ _ _ (by rw [ffO_at (p := (fun v => decide (lbN (nI lg).toInt64 < v) && (lg.testBit v && chB ts fs lp f a (lbN (nI lg).toInt64) v))) (i := v2) (by omega) (by show (decide (lbN (nI lg).toInt64 < v2) && (Nat.testBit lg v2 && _)) = true; rw [e_38, e_50, decide_eq_true (by omega)]; rfl) hinv_v2.2]; rfl) hS dX0_depends_54
  exact key1 (4 - ((lbN ((nI lg).toInt64)) + 1)) ((lbN ((nI lg).toInt64)) + 1) (by omega) (⟨Nat.lt_succ_self _, fun j hj => by show (decide (lbN (nI lg).toInt64 < j) && _) = false; rw [decide_eq_false (by omega)]; rfl⟩) _ _ ls hP hS (lv_sub hl [0, 1, 2, 3, 4] rfl)

end
