section
variable (l : Launch) (D : va_G) (ad : Nat → Nat) (cI cZ cJ : ClassId) (n : Nat) (kd : Nat → Nat) (sd : Nat → Bool) (ts fs : Nat → Int64) (tr : Nat → Nat) (on : Nat → Bool) (rp : Nat → Nat) (lt : Nat) (ru : Nat → Option Nat) (lg : Nat) (lp : Int64)
theorem hin_X0_turn : ∀ w ∈ wsX00, w ∈ wsX0_turn := by first | exact fun _ h => List.mem_cons_of_mem _ (List.mem_append_right _ h) | exact fun _ h => List.mem_cons_of_mem _ (List.mem_append_left _ (List.mem_append_right _ h)) | exact fun _ h => List.mem_cons_of_mem _ (List.mem_append_left _ (List.mem_append_left _ (List.mem_append_right _ h))) | exact fun _ h => List.mem_cons_of_mem _ (List.mem_append_left _ (List.mem_append_left _ (List.mem_append_left _ (List.mem_append_right _ h)))) | decide +kernel
def rm_X0_turn : Room := { frames := 1, cells := 0, slots := 0, locals := 23 }
set_option maxHeartbeats 4000000 in
set_option maxRecDepth 100000 in
theorem c_X0_turn_2 (hO : OKC n tr rp lt lg ru) (a : Nat) (ha : a < n) (hn40 : n < 40) : MuI l yX0_turn wsX0_turn rm_X0_turn D vwCl (wC ad cI cZ cJ n kd sd ts fs tr on rp lt ru lg lp) (fun _ => wC ad cI cZ cJ (n + 1) (va_up kd n 2) (va_up sd n (sd a)) (pt ts (n * 64) (fun w => fs (a * 64 + w)) 64) (pt fs (n * 64) (fun w => ts (a * 64 + w)) 64) tr on rp lt ru lg lp) (tyC cI cZ cJ) [.ref (ad 0), .int (nI 2), .int (nI a)] (nI n) := by
  refine MuI.of (cc := cX0_turn) (maxL := 10) (by decide) rfl (Nat.le_of_ble_eq_true rfl) (vp_nar_int _) ?_
  intro A p e s m args below meth c Q ls hx hb hml hown hts hP hK hD kret hl
  have hown : s.vm.findClass RX0 = some m.cls := hown
  have hl : lv_has ls 10 [(0, .ref (ad 0)), (1, .int (nI 2)), (2, .int (nI a))] := hl
  have hS : va_S A s.heap s.heap [] := va_S.rf
  have hin0 : ∀ w ∈ u_ws RX0 TX0 12, w ∈ wsX0_turn := hin_X0_turn
  refine lv_aload_n hx hb dX0_turn_0 rfl (lv_at hl 0 rfl) ?_
  refine lv_iload_n hx hb dX0_turn_1 rfl (lv_at hl 2 rfl) ?_
  refine puV_V (own := RX0) (As := [.int (nI a)]) (rest := []) (C := RX0) (ci := 0) (q0 := 0) ⟨hx, hb, hml, hown, hts⟩ (c_X0_requireFormula l D ad cI cZ cJ n kd sd ts fs tr on rp lt ru lg lp hO a (by omega)) gX0_turn_X0_requireFormula rfl ⟨rfl, rfl⟩ 1 rfl (by decide +kernel) ⟨Nat.le_of_ble_eq_true rfl, Nat.le_of_ble_eq_true rfl⟩ hP hK rfl rfl rfl hS hl.1 rfl (Nat.le_of_ble_eq_true rfl) dX0_turn_2 ⟨Nat.zero_le _, Nat.zero_le _⟩ (fun H locs hk1 hS => ?_)
  replace hP := keptP hP hk1
  refine lv_iload_n hx hb dX0_turn_5 rfl (lv_at hl 1 rfl) ?_
  refine lv_iconst (v := nI 2) hx hb dX0_turn_6 (by decide) ?_
  refine cT_eq (tgt := 26) hx hb dX0_turn_7 (by decide) (rfl) ?_
  refine lv_aload_n hx hb dX0_turn_26 rfl (lv_at hl 0 rfl) ?_
  refine puV_V (own := RX0) (As := []) (rest := []) (C := RX0) (ci := 0) (q0 := 0) ⟨hx, hb, hml, hown, hts⟩ (c_X0_requireRoom l D ad cI cZ cJ n kd sd ts fs tr on rp lt ru lg lp (by omega)) gX0_turn_X0_requireRoom rfl ⟨rfl, rfl⟩ 0 rfl (by decide +kernel) ⟨Nat.le_of_ble_eq_true rfl, Nat.le_of_ble_eq_true rfl⟩ hP hK rfl rfl rfl hS hl.1 rfl (Nat.le_of_ble_eq_true rfl) dX0_turn_27 ⟨Nat.zero_le _, Nat.zero_le _⟩ (fun H locs hk1 hS => ?_)
  replace hP := keptP hP hk1
  refine lv_aload_n hx hb dX0_turn_30 rfl (lv_at hl 0 rfl) ?_
  refine va_get (D := D) (ci := 0) (v := .int (nI n)) (C := RX0) (T := TX0) (N := 12) hx hb hts hin0 hown hK hP 0 rfl rfl 0 (by decide) (hts (.fieldLink RX0 9 "RumourReasoner" "count" "I") (by decide +kernel)) (fun _ h9 => h9) rfl dX0_turn_31 ?_
  refine puI_S (own := RX0) (As := [.int (nI n)]) (rest := []) ⟨hx, hb, hml, hown, hts⟩ (c_X0_rowOf l D n) gX0_turn_X0_rowOf rfl ⟨rfl, rfl⟩ 1 rfl (by decide +kernel) ⟨Nat.le_of_ble_eq_true rfl, Nat.le_of_ble_eq_true rfl⟩ nilP (hK.sub (tys' := []) [] rfl) hS hl.1 rfl (Nat.le_of_ble_eq_true rfl) dX0_turn_34 ⟨Nat.zero_le _, Nat.zero_le _⟩ (fun H locs hk1 hS => ?_)
  replace hP := keptP hP hk1
  refine lv_istore_n (lv' := [(3, .int (nI (n * 64))), (0, .ref (ad 0)), (1, .int (nI 2)), (2, .int (nI a))]) hx hb dX0_turn_37 rfl hl (by decide) rfl (fun ls hl => ?_)
  refine lv_iload_n hx hb dX0_turn_38 rfl (lv_at hl 3 rfl) ?_
  refine puI_S (own := RX0) (As := [.int (nI a)]) (rest := []) ⟨hx, hb, hml, hown, hts⟩ (c_X0_rowOf l D a) gX0_turn_X0_rowOf rfl ⟨rfl, rfl⟩ 1 rfl (by decide +kernel) ⟨Nat.le_of_ble_eq_true rfl, Nat.le_of_ble_eq_true rfl⟩ nilP (hK.sub (tys' := []) [] rfl) hS hl.1 rfl (Nat.le_of_ble_eq_true rfl) dX0_turn_39 ⟨Nat.zero_le _, Nat.zero_le _⟩ (fun H locs hk1 hS => ?_)
  replace hP := keptP hP hk1
  refine lv_istore (lv' := [(4, .int (nI (a * 64))), (3, .int (nI (n * 64))), (0, .ref (ad 0)), (1, .int (nI 2)), (2, .int (nI a))]) hx hb dX0_turn_42 hl (by decide) rfl (fun ls hl => ?_)
  refine lv_iconst (v := nI 0) hx hb dX0_turn_44 (by decide) ?_
  refine lv_istore (lv' := [(5, .int (nI 0)), (4, .int (nI (a * 64))), (3, .int (nI (n * 64))), (0, .ref (ad 0)), (1, .int (nI 2)), (2, .int (nI a))]) hx hb dX0_turn_45 hl (by decide) rfl (fun ls hl => ?_)
  have key1 : ∀ (d3 i2 : Nat), i2 + d3 = 64 → ∀ (H : Heap) (locs : List Loc) (ls : Array Slot), va_P D vwCl (wC ad cI cZ cJ n kd sd (pt ts (n * 64) (fun w => fs (a * 64 + w)) i2) (pt fs (n * 64) (fun w => ts (a * 64 + w)) i2) tr on rp lt ru lg lp) H → va_D A (wC ad cI cZ cJ n kd sd (pt ts (n * 64) (fun w => fs (a * 64 + w)) i2) (pt fs (n * 64) (fun w => ts (a * 64 + w)) i2) tr on rp lt ru lg lp) → va_S A s.heap H locs → lv_has ls 10 [(5, .int (nI i2)), (4, .int (nI (a * 64))), (3, .int (nI (n * 64))), (0, .ref (ad 0)), (1, .int (nI 2)), (2, .int (nI a))] → W p l e rm_X0_turn s m args below meth c H locs 0 0 Q (F0 m 47 ls []) := by
    intro d3
    induction d3 with
    | zero =>
      intro i2 hi_i2 H locs ls hP hD hS hl
      obtain rfl : i2 = 64 := by omega
      refine lv_iload hx hb dX0_turn_47 (lv_at hl 0 rfl) ?_
      refine lv_bipush (v := nI 64) hx hb dX0_turn_49 (by decide) ?_
      refine cT_ge (tgt := 134) hx hb dX0_turn_51 (by decide) (nI_le (by omega) (by omega)) ?_
      refine lv_aload_n hx hb dX0_turn_134 rfl (lv_at hl 3 rfl) ?_
      refine lv_iload_n hx hb dX0_turn_135 rfl (lv_at hl 4 rfl) ?_
      refine lv_iload_n hx hb dX0_turn_136 rfl (lv_at hl 4 rfl) ?_
      refine lv_iconst (v := nI 2) hx hb dX0_turn_137 (by decide) ?_
      refine cF_ne (tgt := 154) hx hb dX0_turn_138 (by decide) (rfl) ?_
      refine lv_aload_n hx hb dX0_turn_141 rfl (lv_at hl 3 rfl) ?_
      refine va_get (D := D) (ci := 0) (v := .ref (ad 2)) (C := RX0) (T := TX0) (N := 12) hx hb hts hin0 hown hK hP 0 rfl rfl 2 (by decide) (hts (.fieldLink RX0 17 "RumourReasoner" "steady" "[Z") (by decide +kernel)) (fun _ h9 => h9) rfl dX0_turn_142 ?_
      refine lv_iload_n hx hb dX0_turn_145 rfl (lv_at hl 5 rfl) ?_
      refine ld_nz hx hb hK hP 2 1 rfl rfl (j := a) (by omega) (by decide) dX0_turn_146 ?_
      refine lv_if_eq (tgt := 154) hx hb dX0_turn_147 (by decide) (fun c_4 => ?_) (fun c_4 => ?_)
      · have e_147 := bI_0 c_4
        refine lv_iconst (v := nI 0) hx hb dX0_turn_154 (by decide) ?_
        refine tc_int (y := bI (sd a)) (by rw [e_147]; rfl) ?_
        refine muI_V (own := RX0) (As := [.int (nI 2), .int (bI (sd a))]) (rest := []) (C := RX0) (ci := 0) (q0 := 0) (A1 := A) ⟨hx, hb, hml, hown, hts⟩ (c_X0_addFormula l D ad cI cZ cJ n kd sd (pt ts (n * 64) (fun w => fs (a * 64 + w)) 64) (pt fs (n * 64) (fun w => ts (a * 64 + w)) 64) tr on rp lt ru lg lp 2 (sd a) (by omega)) gX0_turn_X0_addFormula rfl ⟨rfl, rfl⟩ 2 rfl (by decide +kernel) ⟨Nat.le_of_ble_eq_true rfl, Nat.le_of_ble_eq_true rfl⟩ hP hK hD (fun _ h9 => h9) rfl rfl rfl hS hl.1 rfl (Nat.le_of_ble_eq_true rfl) dX0_turn_155 ⟨Nat.zero_le _, Nat.zero_le _⟩ (fun u5 H locs hP hz1 hk1 hS => ?_)
        replace hP : va_P D vwCl (wC ad cI cZ cJ (n + 1) (va_up kd n 2) (va_up sd n (sd a)) (pt ts (n * 64) (fun w => fs (a * 64 + w)) 64) (pt fs (n * 64) (fun w => ts (a * 64 + w)) 64) tr on rp lt ru lg lp) H := hP
        replace hD : va_D A (wC ad cI cZ cJ (n + 1) (va_up kd n 2) (va_up sd n (sd a)) (pt ts (n * 64) (fun w => fs (a * 64 + w)) 64) (pt fs (n * 64) (fun w => ts (a * 64 + w)) 64) tr on rp lt ru lg lp) := sameD2 hD rfl
        exact kret _ (fun _ => 0) _ _ _ _ (rfl) hP hS dX0_turn_158
      · have e_147 := bI_1 c_4
        refine lv_iconst (v := nI 1) hx hb dX0_turn_150 (by decide) ?_
        refine tc_int (y := bI (sd a)) (by rw [e_147]; rfl) ?_
        refine lv_goto (tgt := 155) hx hb dX0_turn_151 (by decide) ?_
        refine muI_V (own := RX0) (As := [.int (nI 2), .int (bI (sd a))]) (rest := []) (C := RX0) (ci := 0) (q0 := 0) (A1 := A) ⟨hx, hb, hml, hown, hts⟩ (c_X0_addFormula l D ad cI cZ cJ n kd sd (pt ts (n * 64) (fun w => fs (a * 64 + w)) 64) (pt fs (n * 64) (fun w => ts (a * 64 + w)) 64) tr on rp lt ru lg lp 2 (sd a) (by omega)) gX0_turn_X0_addFormula rfl ⟨rfl, rfl⟩ 2 rfl (by decide +kernel) ⟨Nat.le_of_ble_eq_true rfl, Nat.le_of_ble_eq_true rfl⟩ hP hK hD (fun _ h9 => h9) rfl rfl rfl hS hl.1 rfl (Nat.le_of_ble_eq_true rfl) dX0_turn_155 ⟨Nat.zero_le _, Nat.zero_le _⟩ (fun u6 H locs hP hz1 hk1 hS => ?_)
        replace hP : va_P D vwCl (wC ad cI cZ cJ (n + 1) (va_up kd n 2) (va_up sd n (sd a)) (pt ts (n * 64) (fun w => fs (a * 64 + w)) 64) (pt fs (n * 64) (fun w => ts (a * 64 + w)) 64) tr on rp lt ru lg lp) H := hP
        replace hD : va_D A (wC ad cI cZ cJ (n + 1) (va_up kd n 2) (va_up sd n (sd a)) (pt ts (n * 64) (fun w => fs (a * 64 + w)) 64) (pt fs (n * 64) (fun w => ts (a * 64 + w)) 64) tr on rp lt ru lg lp) := sameD2 hD rfl
        exact kret _ (fun _ => 0) _ _ _ _ (rfl) hP hS dX0_turn_158
    | succ d3 ih_i2 =>
      intro i2 hi_i2 H locs ls hP hD hS hl
      refine lv_iload hx hb dX0_turn_47 (lv_at hl 0 rfl) ?_
      refine lv_bipush (v := nI 64) hx hb dX0_turn_49 (by decide) ?_
      refine cF_ge (tgt := 134) hx hb dX0_turn_51 (by decide) (nI_ge (by omega) (by omega)) ?_
      refine lv_aload_n hx hb dX0_turn_54 rfl (lv_at hl 3 rfl) ?_
      refine va_get (D := D) (ci := 0) (v := .ref (ad 3)) (C := RX0) (T := TX0) (N := 12) hx hb hts hin0 hown hK hP 0 rfl rfl 3 (by decide) (hts (.fieldLink RX0 21 "RumourReasoner" "trueSets" "[J") (by decide +kernel)) (fun _ h9 => h9) rfl dX0_turn_55 ?_
      refine lv_iload hx hb dX0_turn_58 (lv_at hl 1 rfl) ?_
      refine lv_iload hx hb dX0_turn_60 (lv_at hl 0 rfl) ?_
      refine lv_iadd hx hb dX0_turn_62 ?_
      refine tc_int (y := nI ((a * 64) + i2)) (nI_add _ _) ?_
      refine ld_nl hx hb hK hP 3 2 rfl rfl (j := ((a * 64) + i2)) (by omega) (by decide) dX0_turn_63 ?_
      refine tc_long (y := ts (a * 64 + i2)) (pt_out (Or.inl (by omega))) ?_
      refine lv_lstore (lv' := [(6, .long (ts (a * 64 + i2))), (5, .int (nI i2)), (4, .int (nI (a * 64))), (3, .int (nI (n * 64))), (0, .ref (ad 0)), (1, .int (nI 2)), (2, .int (nI a))]) hx hb dX0_turn_64 hl (by decide) rfl (fun ls hl => ?_)
      refine lv_aload_n hx hb dX0_turn_66 rfl (lv_at hl 4 rfl) ?_
      refine va_get (D := D) (ci := 0) (v := .ref (ad 4)) (C := RX0) (T := TX0) (N := 12) hx hb hts hin0 hown hK hP 0 rfl rfl 4 (by decide) (hts (.fieldLink RX0 25 "RumourReasoner" "falseSets" "[J") (by decide +kernel)) (fun _ h9 => h9) rfl dX0_turn_67 ?_
      refine lv_iload hx hb dX0_turn_70 (lv_at hl 2 rfl) ?_
      refine lv_iload hx hb dX0_turn_72 (lv_at hl 1 rfl) ?_
      refine lv_iadd hx hb dX0_turn_74 ?_
      refine tc_int (y := nI ((a * 64) + i2)) (nI_add _ _) ?_
      refine ld_nl hx hb hK hP 4 2 rfl rfl (j := ((a * 64) + i2)) (by omega) (by decide) dX0_turn_75 ?_
      refine tc_long (y := fs (a * 64 + i2)) (pt_out (Or.inl (by omega))) ?_
      refine lv_lstore (lv' := [(8, .long (fs (a * 64 + i2))), (6, .long (ts (a * 64 + i2))), (5, .int (nI i2)), (4, .int (nI (a * 64))), (3, .int (nI (n * 64))), (0, .ref (ad 0)), (1, .int (nI 2)), (2, .int (nI a))]) hx hb dX0_turn_76 hl (by decide) rfl (fun ls hl => ?_)
      refine lv_aload_n hx hb dX0_turn_78 rfl (lv_at hl 5 rfl) ?_
      refine va_get (D := D) (ci := 0) (v := .ref (ad 3)) (C := RX0) (T := TX0) (N := 12) hx hb hts hin0 hown hK hP 0 rfl rfl 3 (by decide) (hts (.fieldLink RX0 21 "RumourReasoner" "trueSets" "[J") (by decide +kernel)) (fun _ h9 => h9) rfl dX0_turn_79 ?_
      refine lv_iload_n hx hb dX0_turn_82 rfl (lv_at hl 4 rfl) ?_
      refine lv_iload hx hb dX0_turn_83 (lv_at hl 2 rfl) ?_
      refine lv_iadd hx hb dX0_turn_85 ?_
      refine tc_int (y := nI ((n * 64) + i2)) (nI_add _ _) ?_
      refine lv_iload_n hx hb dX0_turn_86 rfl (lv_at hl 6 rfl) ?_
      refine lv_iconst (v := nI 2) hx hb dX0_turn_87 (by decide) ?_
      refine cF_ne (tgt := 96) hx hb dX0_turn_88 (by decide) (rfl) ?_
      refine lv_lload hx hb dX0_turn_91 (lv_at hl 0 rfl) ?_
      refine lv_goto (tgt := 102) hx hb dX0_turn_93 (by decide) ?_
      refine st_nl hx hb hK hP hD hS 3 2 rfl rfl (j := ((n * 64) + i2)) (by omega) (by decide) dX0_turn_102 (fun H locs hP hD hS => ?_)
      replace hP : va_P D vwCl (wC ad cI cZ cJ n kd sd (vp_updL (pt ts (n * 64) (fun w => fs (a * 64 + w)) i2) ((n * 64) + i2) (fs (a * 64 + i2))) (pt fs (n * 64) (fun w => ts (a * 64 + w)) i2) tr on rp lt ru lg lp) H := by exact hP
      replace hD : va_D A (wC ad cI cZ cJ n kd sd (vp_updL (pt ts (n * 64) (fun w => fs (a * 64 + w)) i2) ((n * 64) + i2) (fs (a * 64 + i2))) (pt fs (n * 64) (fun w => ts (a * 64 + w)) i2) tr on rp lt ru lg lp) := sameD2 hD rfl
      refine lv_aload_n hx hb dX0_turn_103 rfl (lv_at hl 5 rfl) ?_
      refine va_get (D := D) (ci := 0) (v := .ref (ad 4)) (C := RX0) (T := TX0) (N := 12) hx hb hts hin0 hown hK hP 0 rfl rfl 4 (by decide) (hts (.fieldLink RX0 25 "RumourReasoner" "falseSets" "[J") (by decide +kernel)) (fun _ h9 => h9) rfl dX0_turn_104 ?_
      refine lv_iload_n hx hb dX0_turn_107 rfl (lv_at hl 4 rfl) ?_
      refine lv_iload hx hb dX0_turn_108 (lv_at hl 2 rfl) ?_
      refine lv_iadd hx hb dX0_turn_110 ?_
      refine tc_int (y := nI ((n * 64) + i2)) (nI_add _ _) ?_
      refine lv_iload_n hx hb dX0_turn_111 rfl (lv_at hl 6 rfl) ?_
      refine lv_iconst (v := nI 2) hx hb dX0_turn_112 (by decide) ?_
      refine cF_ne (tgt := 121) hx hb dX0_turn_113 (by decide) (rfl) ?_
      refine lv_lload hx hb dX0_turn_116 (lv_at hl 1 rfl) ?_
      refine lv_goto (tgt := 127) hx hb dX0_turn_118 (by decide) ?_
      refine st_nl hx hb hK hP hD hS 4 2 rfl rfl (j := ((n * 64) + i2)) (by omega) (by decide) dX0_turn_127 (fun H locs hP hD hS => ?_)
      replace hP : va_P D vwCl (wC ad cI cZ cJ n kd sd (vp_updL (pt ts (n * 64) (fun w => fs (a * 64 + w)) i2) ((n * 64) + i2) (fs (a * 64 + i2))) (vp_updL (pt fs (n * 64) (fun w => ts (a * 64 + w)) i2) ((n * 64) + i2) (ts (a * 64 + i2))) tr on rp lt ru lg lp) H := by exact hP
      replace hD : va_D A (wC ad cI cZ cJ n kd sd (vp_updL (pt ts (n * 64) (fun w => fs (a * 64 + w)) i2) ((n * 64) + i2) (fs (a * 64 + i2))) (vp_updL (pt fs (n * 64) (fun w => ts (a * 64 + w)) i2) ((n * 64) + i2) (ts (a * 64 + i2))) tr on rp lt ru lg lp) := sameD2 hD rfl
      refine lv_iinc (v := nI (i2 + 1)) (lv' := [(5, .int (nI (i2 + 1))), (8, .long (fs (a * 64 + i2))), (6, .long (ts (a * 64 + i2))), (4, .int (nI (a * 64))), (3, .int (nI (n * 64))), (0, .ref (ad 0)), (1, .int (nI 2)), (2, .int (nI a))]) hx hb dX0_turn_128 hl (k := 2) rfl (iinc1 _) (by decide) rfl (fun ls hl => ?_)
      refine lv_goto (tgt := 47) hx hb dX0_turn_131 (by decide) ?_
      exact ih_i2 (i2 + 1) (by omega) H locs ls hP hD hS (lv_sub hl [0, 3, 4, 5, 6, 7] rfl)
  exact key1 (64) 0 (by omega) _ _ ls hP hD hS (lv_sub hl [0, 1, 2, 3, 4, 5] rfl)

set_option maxHeartbeats 4000000 in
set_option maxRecDepth 100000 in
theorem c_X0_turn_8 (hO : OKC n tr rp lt lg ru) (a : Nat) (ha : a < n) (hn40 : n < 40) : MuI l yX0_turn wsX0_turn rm_X0_turn D vwCl (wC ad cI cZ cJ n kd sd ts fs tr on rp lt ru lg lp) (fun _ => wC ad cI cZ cJ (n + 1) (va_up kd n 8) (va_up sd n false) (pt ts (n * 64) (fun w => fs (a * 64 + w) ^^^ (-1)) 64) (pt fs (n * 64) (fun w => ts (a * 64 + w) ^^^ (-1)) 64) tr on rp lt ru lg lp) (tyC cI cZ cJ) [.ref (ad 0), .int (nI 8), .int (nI a)] (nI n) := by
  refine MuI.of (cc := cX0_turn) (maxL := 10) (by decide) rfl (Nat.le_of_ble_eq_true rfl) (vp_nar_int _) ?_
  intro A p e s m args below meth c Q ls hx hb hml hown hts hP hK hD kret hl
  have hown : s.vm.findClass RX0 = some m.cls := hown
  have hl : lv_has ls 10 [(0, .ref (ad 0)), (1, .int (nI 8)), (2, .int (nI a))] := hl
  have hS : va_S A s.heap s.heap [] := va_S.rf
  have hin0 : ∀ w ∈ u_ws RX0 TX0 12, w ∈ wsX0_turn := hin_X0_turn
  refine lv_aload_n hx hb dX0_turn_0 rfl (lv_at hl 0 rfl) ?_
  refine lv_iload_n hx hb dX0_turn_1 rfl (lv_at hl 2 rfl) ?_
  refine puV_V (own := RX0) (As := [.int (nI a)]) (rest := []) (C := RX0) (ci := 0) (q0 := 0) ⟨hx, hb, hml, hown, hts⟩ (c_X0_requireFormula l D ad cI cZ cJ n kd sd ts fs tr on rp lt ru lg lp hO a (by omega)) gX0_turn_X0_requireFormula rfl ⟨rfl, rfl⟩ 1 rfl (by decide +kernel) ⟨Nat.le_of_ble_eq_true rfl, Nat.le_of_ble_eq_true rfl⟩ hP hK rfl rfl rfl hS hl.1 rfl (Nat.le_of_ble_eq_true rfl) dX0_turn_2 ⟨Nat.zero_le _, Nat.zero_le _⟩ (fun H locs hk1 hS => ?_)
  replace hP := keptP hP hk1
  refine lv_iload_n hx hb dX0_turn_5 rfl (lv_at hl 1 rfl) ?_
  refine lv_iconst (v := nI 2) hx hb dX0_turn_6 (by decide) ?_
  refine cF_eq (tgt := 26) hx hb dX0_turn_7 (by decide) (by decide) ?_
  refine lv_iload_n hx hb dX0_turn_10 rfl (lv_at hl 1 rfl) ?_
  refine lv_bipush (v := nI 8) hx hb dX0_turn_11 (by decide) ?_
  refine cT_eq (tgt := 26) hx hb dX0_turn_13 (by decide) (rfl) ?_
  refine lv_aload_n hx hb dX0_turn_26 rfl (lv_at hl 0 rfl) ?_
  refine puV_V (own := RX0) (As := []) (rest := []) (C := RX0) (ci := 0) (q0 := 0) ⟨hx, hb, hml, hown, hts⟩ (c_X0_requireRoom l D ad cI cZ cJ n kd sd ts fs tr on rp lt ru lg lp (by omega)) gX0_turn_X0_requireRoom rfl ⟨rfl, rfl⟩ 0 rfl (by decide +kernel) ⟨Nat.le_of_ble_eq_true rfl, Nat.le_of_ble_eq_true rfl⟩ hP hK rfl rfl rfl hS hl.1 rfl (Nat.le_of_ble_eq_true rfl) dX0_turn_27 ⟨Nat.zero_le _, Nat.zero_le _⟩ (fun H locs hk1 hS => ?_)
  replace hP := keptP hP hk1
  refine lv_aload_n hx hb dX0_turn_30 rfl (lv_at hl 0 rfl) ?_
  refine va_get (D := D) (ci := 0) (v := .int (nI n)) (C := RX0) (T := TX0) (N := 12) hx hb hts hin0 hown hK hP 0 rfl rfl 0 (by decide) (hts (.fieldLink RX0 9 "RumourReasoner" "count" "I") (by decide +kernel)) (fun _ h9 => h9) rfl dX0_turn_31 ?_
  refine puI_S (own := RX0) (As := [.int (nI n)]) (rest := []) ⟨hx, hb, hml, hown, hts⟩ (c_X0_rowOf l D n) gX0_turn_X0_rowOf rfl ⟨rfl, rfl⟩ 1 rfl (by decide +kernel) ⟨Nat.le_of_ble_eq_true rfl, Nat.le_of_ble_eq_true rfl⟩ nilP (hK.sub (tys' := []) [] rfl) hS hl.1 rfl (Nat.le_of_ble_eq_true rfl) dX0_turn_34 ⟨Nat.zero_le _, Nat.zero_le _⟩ (fun H locs hk1 hS => ?_)
  replace hP := keptP hP hk1
  refine lv_istore_n (lv' := [(3, .int (nI (n * 64))), (0, .ref (ad 0)), (1, .int (nI 8)), (2, .int (nI a))]) hx hb dX0_turn_37 rfl hl (by decide) rfl (fun ls hl => ?_)
  refine lv_iload_n hx hb dX0_turn_38 rfl (lv_at hl 3 rfl) ?_
  refine puI_S (own := RX0) (As := [.int (nI a)]) (rest := []) ⟨hx, hb, hml, hown, hts⟩ (c_X0_rowOf l D a) gX0_turn_X0_rowOf rfl ⟨rfl, rfl⟩ 1 rfl (by decide +kernel) ⟨Nat.le_of_ble_eq_true rfl, Nat.le_of_ble_eq_true rfl⟩ nilP (hK.sub (tys' := []) [] rfl) hS hl.1 rfl (Nat.le_of_ble_eq_true rfl) dX0_turn_39 ⟨Nat.zero_le _, Nat.zero_le _⟩ (fun H locs hk1 hS => ?_)
  replace hP := keptP hP hk1
  refine lv_istore (lv' := [(4, .int (nI (a * 64))), (3, .int (nI (n * 64))), (0, .ref (ad 0)), (1, .int (nI 8)), (2, .int (nI a))]) hx hb dX0_turn_42 hl (by decide) rfl (fun ls hl => ?_)
  refine lv_iconst (v := nI 0) hx hb dX0_turn_44 (by decide) ?_
  refine lv_istore (lv' := [(5, .int (nI 0)), (4, .int (nI (a * 64))), (3, .int (nI (n * 64))), (0, .ref (ad 0)), (1, .int (nI 8)), (2, .int (nI a))]) hx hb dX0_turn_45 hl (by decide) rfl (fun ls hl => ?_)
  have key1 : ∀ (d3 i2 : Nat), i2 + d3 = 64 → ∀ (H : Heap) (locs : List Loc) (ls : Array Slot), va_P D vwCl (wC ad cI cZ cJ n kd sd (pt ts (n * 64) (fun w => fs (a * 64 + w) ^^^ (-1)) i2) (pt fs (n * 64) (fun w => ts (a * 64 + w) ^^^ (-1)) i2) tr on rp lt ru lg lp) H → va_D A (wC ad cI cZ cJ n kd sd (pt ts (n * 64) (fun w => fs (a * 64 + w) ^^^ (-1)) i2) (pt fs (n * 64) (fun w => ts (a * 64 + w) ^^^ (-1)) i2) tr on rp lt ru lg lp) → va_S A s.heap H locs → lv_has ls 10 [(5, .int (nI i2)), (4, .int (nI (a * 64))), (3, .int (nI (n * 64))), (0, .ref (ad 0)), (1, .int (nI 8)), (2, .int (nI a))] → W p l e rm_X0_turn s m args below meth c H locs 0 0 Q (F0 m 47 ls []) := by
    intro d3
    induction d3 with
    | zero =>
      intro i2 hi_i2 H locs ls hP hD hS hl
      obtain rfl : i2 = 64 := by omega
      refine lv_iload hx hb dX0_turn_47 (lv_at hl 0 rfl) ?_
      refine lv_bipush (v := nI 64) hx hb dX0_turn_49 (by decide) ?_
      refine cT_ge (tgt := 134) hx hb dX0_turn_51 (by decide) (nI_le (by omega) (by omega)) ?_
      refine lv_aload_n hx hb dX0_turn_134 rfl (lv_at hl 3 rfl) ?_
      refine lv_iload_n hx hb dX0_turn_135 rfl (lv_at hl 4 rfl) ?_
      refine lv_iload_n hx hb dX0_turn_136 rfl (lv_at hl 4 rfl) ?_
      refine lv_iconst (v := nI 2) hx hb dX0_turn_137 (by decide) ?_
      refine cT_ne (tgt := 154) hx hb dX0_turn_138 (by decide) (by decide) ?_
      refine lv_iconst (v := nI 0) hx hb dX0_turn_154 (by decide) ?_
      refine tc_int (y := bI false) (rfl) ?_
      refine muI_V (own := RX0) (As := [.int (nI 8), .int (bI false)]) (rest := []) (C := RX0) (ci := 0) (q0 := 0) (A1 := A) ⟨hx, hb, hml, hown, hts⟩ (c_X0_addFormula l D ad cI cZ cJ n kd sd (pt ts (n * 64) (fun w => fs (a * 64 + w) ^^^ (-1)) 64) (pt fs (n * 64) (fun w => ts (a * 64 + w) ^^^ (-1)) 64) tr on rp lt ru lg lp 8 false (by omega)) gX0_turn_X0_addFormula rfl ⟨rfl, rfl⟩ 2 rfl (by decide +kernel) ⟨Nat.le_of_ble_eq_true rfl, Nat.le_of_ble_eq_true rfl⟩ hP hK hD (fun _ h9 => h9) rfl rfl rfl hS hl.1 rfl (Nat.le_of_ble_eq_true rfl) dX0_turn_155 ⟨Nat.zero_le _, Nat.zero_le _⟩ (fun u4 H locs hP hz1 hk1 hS => ?_)
      replace hP : va_P D vwCl (wC ad cI cZ cJ (n + 1) (va_up kd n 8) (va_up sd n false) (pt ts (n * 64) (fun w => fs (a * 64 + w) ^^^ (-1)) 64) (pt fs (n * 64) (fun w => ts (a * 64 + w) ^^^ (-1)) 64) tr on rp lt ru lg lp) H := hP
      replace hD : va_D A (wC ad cI cZ cJ (n + 1) (va_up kd n 8) (va_up sd n false) (pt ts (n * 64) (fun w => fs (a * 64 + w) ^^^ (-1)) 64) (pt fs (n * 64) (fun w => ts (a * 64 + w) ^^^ (-1)) 64) tr on rp lt ru lg lp) := sameD2 hD rfl
      exact kret _ (fun _ => 0) _ _ _ _ (rfl) hP hS dX0_turn_158
    | succ d3 ih_i2 =>
      intro i2 hi_i2 H locs ls hP hD hS hl
      refine lv_iload hx hb dX0_turn_47 (lv_at hl 0 rfl) ?_
      refine lv_bipush (v := nI 64) hx hb dX0_turn_49 (by decide) ?_
      refine cF_ge (tgt := 134) hx hb dX0_turn_51 (by decide) (nI_ge (by omega) (by omega)) ?_
      refine lv_aload_n hx hb dX0_turn_54 rfl (lv_at hl 3 rfl) ?_
      refine va_get (D := D) (ci := 0) (v := .ref (ad 3)) (C := RX0) (T := TX0) (N := 12) hx hb hts hin0 hown hK hP 0 rfl rfl 3 (by decide) (hts (.fieldLink RX0 21 "RumourReasoner" "trueSets" "[J") (by decide +kernel)) (fun _ h9 => h9) rfl dX0_turn_55 ?_
      refine lv_iload hx hb dX0_turn_58 (lv_at hl 1 rfl) ?_
      refine lv_iload hx hb dX0_turn_60 (lv_at hl 0 rfl) ?_
      refine lv_iadd hx hb dX0_turn_62 ?_
      refine tc_int (y := nI ((a * 64) + i2)) (nI_add _ _) ?_
      refine ld_nl hx hb hK hP 3 2 rfl rfl (j := ((a * 64) + i2)) (by omega) (by decide) dX0_turn_63 ?_
      refine tc_long (y := ts (a * 64 + i2)) (pt_out (Or.inl (by omega))) ?_
      refine lv_lstore (lv' := [(6, .long (ts (a * 64 + i2))), (5, .int (nI i2)), (4, .int (nI (a * 64))), (3, .int (nI (n * 64))), (0, .ref (ad 0)), (1, .int (nI 8)), (2, .int (nI a))]) hx hb dX0_turn_64 hl (by decide) rfl (fun ls hl => ?_)
      refine lv_aload_n hx hb dX0_turn_66 rfl (lv_at hl 4 rfl) ?_
      refine va_get (D := D) (ci := 0) (v := .ref (ad 4)) (C := RX0) (T := TX0) (N := 12) hx hb hts hin0 hown hK hP 0 rfl rfl 4 (by decide) (hts (.fieldLink RX0 25 "RumourReasoner" "falseSets" "[J") (by decide +kernel)) (fun _ h9 => h9) rfl dX0_turn_67 ?_
      refine lv_iload hx hb dX0_turn_70 (lv_at hl 2 rfl) ?_
      refine lv_iload hx hb dX0_turn_72 (lv_at hl 1 rfl) ?_
      refine lv_iadd hx hb dX0_turn_74 ?_
      refine tc_int (y := nI ((a * 64) + i2)) (nI_add _ _) ?_
      refine ld_nl hx hb hK hP 4 2 rfl rfl (j := ((a * 64) + i2)) (by omega) (by decide) dX0_turn_75 ?_
      refine tc_long (y := fs (a * 64 + i2)) (pt_out (Or.inl (by omega))) ?_
      refine lv_lstore (lv' := [(8, .long (fs (a * 64 + i2))), (6, .long (ts (a * 64 + i2))), (5, .int (nI i2)), (4, .int (nI (a * 64))), (3, .int (nI (n * 64))), (0, .ref (ad 0)), (1, .int (nI 8)), (2, .int (nI a))]) hx hb dX0_turn_76 hl (by decide) rfl (fun ls hl => ?_)
      refine lv_aload_n hx hb dX0_turn_78 rfl (lv_at hl 5 rfl) ?_
      refine va_get (D := D) (ci := 0) (v := .ref (ad 3)) (C := RX0) (T := TX0) (N := 12) hx hb hts hin0 hown hK hP 0 rfl rfl 3 (by decide) (hts (.fieldLink RX0 21 "RumourReasoner" "trueSets" "[J") (by decide +kernel)) (fun _ h9 => h9) rfl dX0_turn_79 ?_
      refine lv_iload_n hx hb dX0_turn_82 rfl (lv_at hl 4 rfl) ?_
      refine lv_iload hx hb dX0_turn_83 (lv_at hl 2 rfl) ?_
      refine lv_iadd hx hb dX0_turn_85 ?_
      refine tc_int (y := nI ((n * 64) + i2)) (nI_add _ _) ?_
      refine lv_iload_n hx hb dX0_turn_86 rfl (lv_at hl 6 rfl) ?_
      refine lv_iconst (v := nI 2) hx hb dX0_turn_87 (by decide) ?_
      refine cT_ne (tgt := 96) hx hb dX0_turn_88 (by decide) (by decide) ?_
      refine lv_lload hx hb dX0_turn_96 (lv_at hl 0 rfl) ?_
      refine lv_ldc2 (v := (-1)) hx hb hown (hts (.constantLong RX0 46 (-1)) (by decide +kernel)) dX0_turn_98 ?_
      refine lv_lxor hx hb dX0_turn_101 ?_
      refine st_nl hx hb hK hP hD hS 3 2 rfl rfl (j := ((n * 64) + i2)) (by omega) (by decide) dX0_turn_102 (fun H locs hP hD hS => ?_)
      replace hP : va_P D vwCl (wC ad cI cZ cJ n kd sd (vp_updL (pt ts (n * 64) (fun w => fs (a * 64 + w) ^^^ (-1)) i2) ((n * 64) + i2) ((fs (a * 64 + i2)) ^^^ (-1))) (pt fs (n * 64) (fun w => ts (a * 64 + w) ^^^ (-1)) i2) tr on rp lt ru lg lp) H := by exact hP
      replace hD : va_D A (wC ad cI cZ cJ n kd sd (vp_updL (pt ts (n * 64) (fun w => fs (a * 64 + w) ^^^ (-1)) i2) ((n * 64) + i2) ((fs (a * 64 + i2)) ^^^ (-1))) (pt fs (n * 64) (fun w => ts (a * 64 + w) ^^^ (-1)) i2) tr on rp lt ru lg lp) := sameD2 hD rfl
      refine lv_aload_n hx hb dX0_turn_103 rfl (lv_at hl 5 rfl) ?_
      refine va_get (D := D) (ci := 0) (v := .ref (ad 4)) (C := RX0) (T := TX0) (N := 12) hx hb hts hin0 hown hK hP 0 rfl rfl 4 (by decide) (hts (.fieldLink RX0 25 "RumourReasoner" "falseSets" "[J") (by decide +kernel)) (fun _ h9 => h9) rfl dX0_turn_104 ?_
      refine lv_iload_n hx hb dX0_turn_107 rfl (lv_at hl 4 rfl) ?_
      refine lv_iload hx hb dX0_turn_108 (lv_at hl 2 rfl) ?_
      refine lv_iadd hx hb dX0_turn_110 ?_
      refine tc_int (y := nI ((n * 64) + i2)) (nI_add _ _) ?_
      refine lv_iload_n hx hb dX0_turn_111 rfl (lv_at hl 6 rfl) ?_
      refine lv_iconst (v := nI 2) hx hb dX0_turn_112 (by decide) ?_
      refine cT_ne (tgt := 121) hx hb dX0_turn_113 (by decide) (by decide) ?_
      refine lv_lload hx hb dX0_turn_121 (lv_at hl 1 rfl) ?_
      refine lv_ldc2 (v := (-1)) hx hb hown (hts (.constantLong RX0 46 (-1)) (by decide +kernel)) dX0_turn_123 ?_
      refine lv_lxor hx hb dX0_turn_126 ?_
      refine st_nl hx hb hK hP hD hS 4 2 rfl rfl (j := ((n * 64) + i2)) (by omega) (by decide) dX0_turn_127 (fun H locs hP hD hS => ?_)
      replace hP : va_P D vwCl (wC ad cI cZ cJ n kd sd (vp_updL (pt ts (n * 64) (fun w => fs (a * 64 + w) ^^^ (-1)) i2) ((n * 64) + i2) ((fs (a * 64 + i2)) ^^^ (-1))) (vp_updL (pt fs (n * 64) (fun w => ts (a * 64 + w) ^^^ (-1)) i2) ((n * 64) + i2) ((ts (a * 64 + i2)) ^^^ (-1))) tr on rp lt ru lg lp) H := by exact hP
      replace hD : va_D A (wC ad cI cZ cJ n kd sd (vp_updL (pt ts (n * 64) (fun w => fs (a * 64 + w) ^^^ (-1)) i2) ((n * 64) + i2) ((fs (a * 64 + i2)) ^^^ (-1))) (vp_updL (pt fs (n * 64) (fun w => ts (a * 64 + w) ^^^ (-1)) i2) ((n * 64) + i2) ((ts (a * 64 + i2)) ^^^ (-1))) tr on rp lt ru lg lp) := sameD2 hD rfl
      refine lv_iinc (v := nI (i2 + 1)) (lv' := [(5, .int (nI (i2 + 1))), (8, .long (fs (a * 64 + i2))), (6, .long (ts (a * 64 + i2))), (4, .int (nI (a * 64))), (3, .int (nI (n * 64))), (0, .ref (ad 0)), (1, .int (nI 8)), (2, .int (nI a))]) hx hb dX0_turn_128 hl (k := 2) rfl (iinc1 _) (by decide) rfl (fun ls hl => ?_)
      refine lv_goto (tgt := 47) hx hb dX0_turn_131 (by decide) ?_
      exact ih_i2 (i2 + 1) (by omega) H locs ls hP hD hS (lv_sub hl [0, 3, 4, 5, 6, 7] rfl)
  exact key1 (64) 0 (by omega) _ _ ls hP hD hS (lv_sub hl [0, 1, 2, 3, 4, 5] rfl)

end
