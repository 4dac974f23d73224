section
variable (l : Launch) (D : va_G) (ad : Nat → Nat) (cI cZ cJ : ClassId) (n : Nat) (kd : Nat → Nat) (sd : Nat → Bool) (ts fs : Nat → Int64) (tr : Nat → Nat) (on : Nat → Bool) (rp : Nat → Nat) (lt : Nat) (ru : Nat → Option Nat) (lg : Nat) (lp : Int64)
def cvL (v : Nat) (b : Bool) : Int64 := if told v b = true then -1 else 0
theorem hin_X0_constant : ∀ w ∈ wsX00, w ∈ wsX0_constant := by first | exact fun _ h => List.mem_cons_of_mem _ (List.mem_append_right _ h) | exact fun _ h => List.mem_cons_of_mem _ (List.mem_append_left _ (List.mem_append_right _ h)) | exact fun _ h => List.mem_cons_of_mem _ (List.mem_append_left _ (List.mem_append_left _ (List.mem_append_right _ h))) | exact fun _ h => List.mem_cons_of_mem _ (List.mem_append_left _ (List.mem_append_left _ (List.mem_append_left _ (List.mem_append_right _ h)))) | decide +kernel
def rm_X0_constant : Room := { frames := 1, cells := 0, slots := 0, locals := 23 }
set_option maxHeartbeats 4000000 in
set_option maxRecDepth 100000 in
theorem c_X0_constant (hO : OKC n tr rp lt lg ru) (v : Nat) (hv : v < 4) (hn40 : n < 40) : MuI l yX0_constant wsX0_constant rm_X0_constant D vwCl (wC ad cI cZ cJ n kd sd ts fs tr on rp lt ru lg lp) (fun _ => wC ad cI cZ cJ (n + 1) (va_up kd n 1) (va_up sd n true) (pt ts (n * 64) (fun _ => cvL v true) 64) (pt fs (n * 64) (fun _ => cvL v false) 64) tr on rp lt ru lg lp) (tyC cI cZ cJ) [.ref (ad 0), .int (nI v)] (nI n) := by
  refine MuI.of (cc := cX0_constant) (maxL := 4) (by decide) rfl (Nat.le_of_ble_eq_true rfl) (vp_nar_int _) ?_
  intro A p e s m args below meth c Q ls hx hb hml hown hts hP hK hD kret hl
  have hown : s.vm.findClass RX0 = some m.cls := hown
  have hl : lv_has ls 4 [(0, .ref (ad 0)), (1, .int (nI v))] := hl
  have hS : va_S A s.heap s.heap [] := va_S.rf
  have hin0 : ∀ w ∈ u_ws RX0 TX0 12, w ∈ wsX0_constant := hin_X0_constant
  refine lv_iload_n hx hb dX0_constant_0 rfl (lv_at hl 1 rfl) ?_
  refine puV_S (own := RX0) (As := [.int (nI v)]) (rest := []) ⟨hx, hb, hml, hown, hts⟩ (c_X0_requireValue l D v (by omega)) gX0_constant_X0_requireValue rfl ⟨rfl, rfl⟩ 1 rfl (by decide +kernel) ⟨Nat.le_of_ble_eq_true rfl, Nat.le_of_ble_eq_true rfl⟩ nilP (hK.sub (tys' := []) [] rfl) hS hl.1 rfl (Nat.le_of_ble_eq_true rfl) dX0_constant_1 ⟨Nat.zero_le _, Nat.zero_le _⟩ (fun H locs hk1 hS => ?_)
  replace hP := keptP hP hk1
  refine lv_aload_n hx hb dX0_constant_4 rfl (lv_at hl 0 rfl) ?_
  refine puV_V (own := RX0) (As := []) (rest := []) (C := RX0) (ci := 0) (q0 := 0) ⟨hx, hb, hml, hown, hts⟩ (c_X0_requireRoom l D ad cI cZ cJ n kd sd ts fs tr on rp lt ru lg lp (by omega)) gX0_constant_X0_requireRoom rfl ⟨rfl, rfl⟩ 0 rfl (by decide +kernel) ⟨Nat.le_of_ble_eq_true rfl, Nat.le_of_ble_eq_true rfl⟩ hP hK rfl rfl rfl hS hl.1 rfl (Nat.le_of_ble_eq_true rfl) dX0_constant_5 ⟨Nat.zero_le _, Nat.zero_le _⟩ (fun H locs hk1 hS => ?_)
  replace hP := keptP hP hk1
  refine lv_aload_n hx hb dX0_constant_8 rfl (lv_at hl 0 rfl) ?_
  refine va_get (D := D) (ci := 0) (v := .int (nI n)) (C := RX0) (T := TX0) (N := 12) hx hb hts hin0 hown hK hP 0 rfl rfl 0 (by decide) (hts (.fieldLink RX0 9 "RumourReasoner" "count" "I") (by decide +kernel)) (fun _ h9 => h9) rfl dX0_constant_9 ?_
  refine puI_S (own := RX0) (As := [.int (nI n)]) (rest := []) ⟨hx, hb, hml, hown, hts⟩ (c_X0_rowOf l D n) gX0_constant_X0_rowOf rfl ⟨rfl, rfl⟩ 1 rfl (by decide +kernel) ⟨Nat.le_of_ble_eq_true rfl, Nat.le_of_ble_eq_true rfl⟩ nilP (hK.sub (tys' := []) [] rfl) hS hl.1 rfl (Nat.le_of_ble_eq_true rfl) dX0_constant_12 ⟨Nat.zero_le _, Nat.zero_le _⟩ (fun H locs hk1 hS => ?_)
  replace hP := keptP hP hk1
  refine lv_istore_n (lv' := [(2, .int (nI (n * 64))), (0, .ref (ad 0)), (1, .int (nI v))]) hx hb dX0_constant_15 rfl hl (by decide) rfl (fun ls hl => ?_)
  refine lv_iconst (v := nI 0) hx hb dX0_constant_16 (by decide) ?_
  refine lv_istore_n (lv' := [(3, .int (nI 0)), (2, .int (nI (n * 64))), (0, .ref (ad 0)), (1, .int (nI v))]) hx hb dX0_constant_17 rfl hl (by decide) rfl (fun ls hl => ?_)
  have key1 : ∀ (d3 i2 : Nat), i2 + d3 = 64 → ∀ (H : Heap) (locs : List Loc) (ls : Array Slot), va_P D vwCl (wC ad cI cZ cJ n kd sd (pt ts (n * 64) (fun _ => cvL v true) i2) (pt fs (n * 64) (fun _ => cvL v false) i2) tr on rp lt ru lg lp) H → va_D A (wC ad cI cZ cJ n kd sd (pt ts (n * 64) (fun _ => cvL v true) i2) (pt fs (n * 64) (fun _ => cvL v false) i2) tr on rp lt ru lg lp) → va_S A s.heap H locs → lv_has ls 4 [(3, .int (nI i2)), (2, .int (nI (n * 64))), (0, .ref (ad 0)), (1, .int (nI v))] → W p l e rm_X0_constant s m args below meth c H locs 0 0 Q (F0 m 18 ls []) := by
    intro d3
    induction d3 with
    | zero =>
      intro i2 hi_i2 H locs ls hP hD hS hl
      obtain rfl : i2 = 64 := by omega
      refine lv_iload_n hx hb dX0_constant_18 rfl (lv_at hl 0 rfl) ?_
      refine lv_bipush (v := nI 64) hx hb dX0_constant_19 (by decide) ?_
      refine cT_ge (tgt := 72) hx hb dX0_constant_21 (by decide) (nI_le (by omega) (by omega)) ?_
      refine lv_aload_n hx hb dX0_constant_72 rfl (lv_at hl 2 rfl) ?_
      refine lv_iconst (v := nI 1) hx hb dX0_constant_73 (by decide) ?_
      refine lv_iconst (v := nI 1) hx hb dX0_constant_74 (by decide) ?_
      refine tc_int (y := bI true) (rfl) ?_
      refine muI_V (own := RX0) (As := [.int (nI 1), .int (bI true)]) (rest := []) (C := RX0) (ci := 0) (q0 := 0) (A1 := A) ⟨hx, hb, hml, hown, hts⟩ (c_X0_addFormula l D ad cI cZ cJ n kd sd (pt ts (n * 64) (fun _ => cvL v true) 64) (pt fs (n * 64) (fun _ => cvL v false) 64) tr on rp lt ru lg lp 1 true (by omega)) gX0_constant_X0_addFormula rfl ⟨rfl, rfl⟩ 2 rfl (by decide +kernel) ⟨Nat.le_of_ble_eq_true rfl, Nat.le_of_ble_eq_true rfl⟩ hP hK hD (fun _ h9 => h9) rfl rfl rfl hS hl.1 rfl (Nat.le_of_ble_eq_true rfl) dX0_constant_75 ⟨Nat.zero_le _, Nat.zero_le _⟩ (fun u4 H locs hP hz1 hk1 hS => ?_)
      replace hP : va_P D vwCl (wC ad cI cZ cJ (n + 1) (va_up kd n 1) (va_up sd n true) (pt ts (n * 64) (fun _ => cvL v true) 64) (pt fs (n * 64) (fun _ => cvL v false) 64) tr on rp lt ru lg lp) H := hP
      replace hD : va_D A (wC ad cI cZ cJ (n + 1) (va_up kd n 1) (va_up sd n true) (pt ts (n * 64) (fun _ => cvL v true) 64) (pt fs (n * 64) (fun _ => cvL v false) 64) tr on rp lt ru lg lp) := sameD2 hD rfl
      exact kret _ (fun _ => 0) _ _ _ _ (rfl) hP hS dX0_constant_78
    | succ d3 ih_i2 =>
      intro i2 hi_i2 H locs ls hP hD hS hl
      refine lv_iload_n hx hb dX0_constant_18 rfl (lv_at hl 0 rfl) ?_
      refine lv_bipush (v := nI 64) hx hb dX0_constant_19 (by decide) ?_
      refine cF_ge (tgt := 72) hx hb dX0_constant_21 (by decide) (nI_ge (by omega) (by omega)) ?_
      refine lv_aload_n hx hb dX0_constant_24 rfl (lv_at hl 2 rfl) ?_
      refine va_get (D := D) (ci := 0) (v := .ref (ad 3)) (C := RX0) (T := TX0) (N := 12) hx hb hts hin0 hown hK hP 0 rfl rfl 3 (by decide) (hts (.fieldLink RX0 21 "RumourReasoner" "trueSets" "[J") (by decide +kernel)) (fun _ h9 => h9) rfl dX0_constant_25 ?_
      refine lv_iload_n hx hb dX0_constant_28 rfl (lv_at hl 1 rfl) ?_
      refine lv_iload_n hx hb dX0_constant_29 rfl (lv_at hl 0 rfl) ?_
      refine lv_iadd hx hb dX0_constant_30 ?_
      refine tc_int (y := nI ((n * 64) + i2)) (nI_add _ _) ?_
      refine lv_iload_n hx hb dX0_constant_31 rfl (lv_at hl 3 rfl) ?_
      refine lv_iconst (v := nI 1) hx hb dX0_constant_32 (by decide) ?_
      refine lv_iand hx hb dX0_constant_33 ?_
      refine tc_int (y := nI (v % 2)) (told_1 hv) ?_
      refine lv_if_eq (tgt := 43) hx hb dX0_constant_34 (by decide) (fun c_5 => ?_) (fun c_5 => ?_)
      · have e_34 := (told_t hv).mp c_5
        refine lv_lconst (v := 0) hx hb dX0_constant_43 (by decide) ?_
        refine tc_long (y := cvL v true) (by unfold cvL; rw [if_neg (by rw [e_34]; decide)]) ?_
        refine st_nl hx hb hK hP hD hS 3 2 rfl rfl (j := ((n * 64) + i2)) (by omega) (by decide) dX0_constant_44 (fun H locs hP hD hS => ?_)
        replace hP : va_P D vwCl (wC ad cI cZ cJ n kd sd (vp_updL (pt ts (n * 64) (fun _ => cvL v true) i2) ((n * 64) + i2) (cvL v true)) (pt fs (n * 64) (fun _ => cvL v false) i2) tr on rp lt ru lg lp) H := by exact hP
        replace hD : va_D A (wC ad cI cZ cJ n kd sd (vp_updL (pt ts (n * 64) (fun _ => cvL v true) i2) ((n * 64) + i2) (cvL v true)) (pt fs (n * 64) (fun _ => cvL v false) i2) tr on rp lt ru lg lp) := sameD2 hD rfl
        refine lv_aload_n hx hb dX0_constant_45 rfl (lv_at hl 2 rfl) ?_
        refine va_get (D := D) (ci := 0) (v := .ref (ad 4)) (C := RX0) (T := TX0) (N := 12) hx hb hts hin0 hown hK hP 0 rfl rfl 4 (by decide) (hts (.fieldLink RX0 25 "RumourReasoner" "falseSets" "[J") (by decide +kernel)) (fun _ h9 => h9) rfl dX0_constant_46 ?_
        refine lv_iload_n hx hb dX0_constant_49 rfl (lv_at hl 1 rfl) ?_
        refine lv_iload_n hx hb dX0_constant_50 rfl (lv_at hl 0 rfl) ?_
        refine lv_iadd hx hb dX0_constant_51 ?_
        refine tc_int (y := nI ((n * 64) + i2)) (nI_add _ _) ?_
        refine lv_iload_n hx hb dX0_constant_52 rfl (lv_at hl 3 rfl) ?_
        refine lv_iconst (v := nI 2) hx hb dX0_constant_53 (by decide) ?_
        refine lv_iand hx hb dX0_constant_54 ?_
        refine tc_int (y := nI (2 * (v / 2 % 2))) (told_2 hv) ?_
        refine lv_if_eq (tgt := 64) hx hb dX0_constant_55 (by decide) (fun c_6 => ?_) (fun c_6 => ?_)
        · have e_55 := (told_f hv).mp c_6
          refine lv_lconst (v := 0) hx hb dX0_constant_64 (by decide) ?_
          refine tc_long (y := cvL v false) (by unfold cvL; rw [if_neg (by rw [e_55]; decide)]) ?_
          refine st_nl hx hb hK hP hD hS 4 2 rfl rfl (j := ((n * 64) + i2)) (by omega) (by decide) dX0_constant_65 (fun H locs hP hD hS => ?_)
          replace hP : va_P D vwCl (wC ad cI cZ cJ n kd sd (vp_updL (pt ts (n * 64) (fun _ => cvL v true) i2) ((n * 64) + i2) (cvL v true)) (vp_updL (pt fs (n * 64) (fun _ => cvL v false) i2) ((n * 64) + i2) (cvL v false)) tr on rp lt ru lg lp) H := by exact hP
          replace hD : va_D A (wC ad cI cZ cJ n kd sd (vp_updL (pt ts (n * 64) (fun _ => cvL v true) i2) ((n * 64) + i2) (cvL v true)) (vp_updL (pt fs (n * 64) (fun _ => cvL v false) i2) ((n * 64) + i2) (cvL v false)) tr on rp lt ru lg lp) := sameD2 hD rfl
          refine lv_iinc (v := nI (i2 + 1)) (lv' := [(3, .int (nI (i2 + 1))), (2, .int (nI (n * 64))), (0, .ref (ad 0)), (1, .int (nI v))]) hx hb dX0_constant_66 hl (k := 0) rfl (iinc1 _) (by decide) rfl (fun ls hl => ?_)
          refine lv_goto (tgt := 18) hx hb dX0_constant_69 (by decide) ?_
          exact ih_i2 (i2 + 1) (by omega) H locs ls hP hD hS (lv_sub hl [0, 1, 2, 3] rfl)
        · have e_55 : told v false = true := ts_nf (fun q => c_6 ((told_f hv).mpr q))
          refine lv_ldc2 (v := (-1)) hx hb hown (hts (.constantLong RX0 46 (-1)) (by decide +kernel)) dX0_constant_58 ?_
          refine tc_long (y := cvL v false) (by unfold cvL; rw [if_pos e_55]) ?_
          refine lv_goto (tgt := 65) hx hb dX0_constant_61 (by decide) ?_
          refine st_nl hx hb hK hP hD hS 4 2 rfl rfl (j := ((n * 64) + i2)) (by omega) (by decide) dX0_constant_65 (fun H locs hP hD hS => ?_)
          replace hP : va_P D vwCl (wC ad cI cZ cJ n kd sd (vp_updL (pt ts (n * 64) (fun _ => cvL v true) i2) ((n * 64) + i2) (cvL v true)) (vp_updL (pt fs (n * 64) (fun _ => cvL v false) i2) ((n * 64) + i2) (cvL v false)) tr on rp lt ru lg lp) H := by exact hP
          replace hD : va_D A (wC ad cI cZ cJ n kd sd (vp_updL (pt ts (n * 64) (fun _ => cvL v true) i2) ((n * 64) + i2) (cvL v true)) (vp_updL (pt fs (n * 64) (fun _ => cvL v false) i2) ((n * 64) + i2) (cvL v false)) tr on rp lt ru lg lp) := sameD2 hD rfl
          refine lv_iinc (v := nI (i2 + 1)) (lv' := [(3, .int (nI (i2 + 1))), (2, .int (nI (n * 64))), (0, .ref (ad 0)), (1, .int (nI v))]) hx hb dX0_constant_66 hl (k := 0) rfl (iinc1 _) (by decide) rfl (fun ls hl => ?_)
          refine lv_goto (tgt := 18) hx hb dX0_constant_69 (by decide) ?_
          exact ih_i2 (i2 + 1) (by omega) H locs ls hP hD hS (lv_sub hl [0, 1, 2, 3] rfl)
      · have e_34 : told v true = true := ts_nf (fun q => c_5 ((told_t hv).mpr q))
        refine lv_ldc2 (v := (-1)) hx hb hown (hts (.constantLong RX0 46 (-1)) (by decide +kernel)) dX0_constant_37 ?_
        refine tc_long (y := cvL v true) (by unfold cvL; rw [if_pos e_34]) ?_
        refine lv_goto (tgt := 44) hx hb dX0_constant_40 (by decide) ?_
        refine st_nl hx hb hK hP hD hS 3 2 rfl rfl (j := ((n * 64) + i2)) (by omega) (by decide) dX0_constant_44 (fun H locs hP hD hS => ?_)
        replace hP : va_P D vwCl (wC ad cI cZ cJ n kd sd (vp_updL (pt ts (n * 64) (fun _ => cvL v true) i2) ((n * 64) + i2) (cvL v true)) (pt fs (n * 64) (fun _ => cvL v false) i2) tr on rp lt ru lg lp) H := by exact hP
        replace hD : va_D A (wC ad cI cZ cJ n kd sd (vp_updL (pt ts (n * 64) (fun _ => cvL v true) i2) ((n * 64) + i2) (cvL v true)) (pt fs (n * 64) (fun _ => cvL v false) i2) tr on rp lt ru lg lp) := sameD2 hD rfl
        refine lv_aload_n hx hb dX0_constant_45 rfl (lv_at hl 2 rfl) ?_
        refine va_get (D := D) (ci := 0) (v := .ref (ad 4)) (C := RX0) (T := TX0) (N := 12) hx hb hts hin0 hown hK hP 0 rfl rfl 4 (by decide) (hts (.fieldLink RX0 25 "RumourReasoner" "falseSets" "[J") (by decide +kernel)) (fun _ h9 => h9) rfl dX0_constant_46 ?_
        refine lv_iload_n hx hb dX0_constant_49 rfl (lv_at hl 1 rfl) ?_
        refine lv_iload_n hx hb dX0_constant_50 rfl (lv_at hl 0 rfl) ?_
        refine lv_iadd hx hb dX0_constant_51 ?_
        refine tc_int (y := nI ((n * 64) + i2)) (nI_add _ _) ?_
        refine lv_iload_n hx hb dX0_constant_52 rfl (lv_at hl 3 rfl) ?_
        refine lv_iconst (v := nI 2) hx hb dX0_constant_53 (by decide) ?_
        refine lv_iand hx hb dX0_constant_54 ?_
        refine tc_int (y := nI (2 * (v / 2 % 2))) (told_2 hv) ?_
        refine lv_if_eq (tgt := 64) hx hb dX0_constant_55 (by decide) (fun c_7 => ?_) (fun c_7 => ?_)
        · have e_55 := (told_f hv).mp c_7
          refine lv_lconst (v := 0) hx hb dX0_constant_64 (by decide) ?_
          refine tc_long (y := cvL v false) (by unfold cvL; rw [if_neg (by rw [e_55]; decide)]) ?_
          refine st_nl hx hb hK hP hD hS 4 2 rfl rfl (j := ((n * 64) + i2)) (by omega) (by decide) dX0_constant_65 (fun H locs hP hD hS => ?_)
          replace hP : va_P D vwCl (wC ad cI cZ cJ n kd sd (vp_updL (pt ts (n * 64) (fun _ => cvL v true) i2) ((n * 64) + i2) (cvL v true)) (vp_updL (pt fs (n * 64) (fun _ => cvL v false) i2) ((n * 64) + i2) (cvL v false)) tr on rp lt ru lg lp) H := by exact hP
          replace hD : va_D A (wC ad cI cZ cJ n kd sd (vp_updL (pt ts (n * 64) (fun _ => cvL v true) i2) ((n * 64) + i2) (cvL v true)) (vp_updL (pt fs (n * 64) (fun _ => cvL v false) i2) ((n * 64) + i2) (cvL v false)) tr on rp lt ru lg lp) := sameD2 hD rfl
          refine lv_iinc (v := nI (i2 + 1)) (lv' := [(3, .int (nI (i2 + 1))), (2, .int (nI (n * 64))), (0, .ref (ad 0)), (1, .int (nI v))]) hx hb dX0_constant_66 hl (k := 0) rfl (iinc1 _) (by decide) rfl (fun ls hl => ?_)
          refine lv_goto (tgt := 18) hx hb dX0_constant_69 (by decide) ?_
          exact ih_i2 (i2 + 1) (by omega) H locs ls hP hD hS (lv_sub hl [0, 1, 2, 3] rfl)
        · have e_55 : told v false = true := ts_nf (fun q => c_7 ((told_f hv).mpr q))
          refine lv_ldc2 (v := (-1)) hx hb hown (hts (.constantLong RX0 46 (-1)) (by decide +kernel)) dX0_constant_58 ?_
          refine tc_long (y := cvL v false) (by unfold cvL; rw [if_pos e_55]) ?_
          refine lv_goto (tgt := 65) hx hb dX0_constant_61 (by decide) ?_
          refine st_nl hx hb hK hP hD hS 4 2 rfl rfl (j := ((n * 64) + i2)) (by omega) (by decide) dX0_constant_65 (fun H locs hP hD hS => ?_)
          replace hP : va_P D vwCl (wC ad cI cZ cJ n kd sd (vp_updL (pt ts (n * 64) (fun _ => cvL v true) i2) ((n * 64) + i2) (cvL v true)) (vp_updL (pt fs (n * 64) (fun _ => cvL v false) i2) ((n * 64) + i2) (cvL v false)) tr on rp lt ru lg lp) H := by exact hP
          replace hD : va_D A (wC ad cI cZ cJ n kd sd (vp_updL (pt ts (n * 64) (fun _ => cvL v true) i2) ((n * 64) + i2) (cvL v true)) (vp_updL (pt fs (n * 64) (fun _ => cvL v false) i2) ((n * 64) + i2) (cvL v false)) tr on rp lt ru lg lp) := sameD2 hD rfl
          refine lv_iinc (v := nI (i2 + 1)) (lv' := [(3, .int (nI (i2 + 1))), (2, .int (nI (n * 64))), (0, .ref (ad 0)), (1, .int (nI v))]) hx hb dX0_constant_66 hl (k := 0) rfl (iinc1 _) (by decide) rfl (fun ls hl => ?_)
          refine lv_goto (tgt := 18) hx hb dX0_constant_69 (by decide) ?_
          exact ih_i2 (i2 + 1) (by omega) H locs ls hP hD hS (lv_sub hl [0, 1, 2, 3] rfl)
  exact key1 (64) 0 (by omega) _ _ ls hP hD hS (lv_sub hl [0, 1, 2, 3] rfl)

end
