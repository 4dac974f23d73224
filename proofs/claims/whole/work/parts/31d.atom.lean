section
variable (l : Launch) (D : va_G) (ad : Nat → Nat) (cI cZ cJ : ClassId) (n : Nat) (kd : Nat → Nat) (sd : Nat → Bool) (ts fs : Nat → Int64) (tr : Nat → Nat) (on : Nat → Bool) (rp : Nat → Nat) (lt : Nat) (ru : Nat → Option Nat) (lg : Nat) (lp : Int64)
theorem hin_X0_atom : ∀ w ∈ wsX00, w ∈ wsX0_atom := by first | exact fun _ h => List.mem_cons_of_mem _ (List.mem_append_right _ h) | exact fun _ h => List.mem_cons_of_mem _ (List.mem_append_left _ (List.mem_append_right _ h)) | exact fun _ h => List.mem_cons_of_mem _ (List.mem_append_left _ (List.mem_append_left _ (List.mem_append_right _ h))) | exact fun _ h => List.mem_cons_of_mem _ (List.mem_append_left _ (List.mem_append_left _ (List.mem_append_left _ (List.mem_append_right _ h)))) | decide +kernel
def rm_X0_atom : Room := { frames := 1, cells := 0, slots := 0, locals := 23 }
set_option maxHeartbeats 4000000 in
set_option maxRecDepth 100000 in
theorem c_X0_atom (hO : OKC n tr rp lt lg ru) (a : Nat) (ha : a < 6) (hn40 : n < 40) : MuIe l yX0_atom wsX0_atom rm_X0_atom D vwCl (wC ad cI cZ cJ n kd sd ts fs tr on rp lt ru lg lp) (fun _ => wC ad cI cZ cJ (n + 1) (va_up kd n 0) (va_up sd n true) (pt ts (n * 64) (fun w => vbL (2 * (5 - a)) w) 64) (pt fs (n * 64) (fun w => vbL (2 * (5 - a) + 1) w) 64) tr on rp lt ru lg lp) (tyC cI cZ cJ) [.ref (ad 0), .int (nI a)] (nI n) := by
  refine MuIe.of (cc := cX0_atom) (maxL := 5) (by decide) rfl (Nat.le_of_ble_eq_true rfl) (vp_nar_int _) ?_
  intro A p e s m args below meth c Q ls hx hb hml hown hts hP hK hD hTB kret hl
  have hown : s.vm.findClass RX0 = some m.cls := hown
  have hl : lv_has ls 5 [(0, .ref (ad 0)), (1, .int (nI a))] := hl
  have hS : va_S A s.heap s.heap [] := va_S.rf
  have hin0 : ∀ w ∈ u_ws RX0 TX0 12, w ∈ wsX0_atom := hin_X0_atom
  refine lv_iload_n hx hb dX0_atom_0 rfl (lv_at hl 1 rfl) ?_
  refine puV_S (own := RX0) (As := [.int (nI a)]) (rest := []) ⟨hx, hb, hml, hown, hts⟩ (c_X0_requireAtom l D a (by omega)) gX0_atom_X0_requireAtom rfl ⟨rfl, rfl⟩ 1 rfl (by decide +kernel) ⟨Nat.le_of_ble_eq_true rfl, Nat.le_of_ble_eq_true rfl⟩ nilP (hK.sub (tys' := []) [] rfl) hS hl.1 rfl (Nat.le_of_ble_eq_true rfl) dX0_atom_1 ⟨Nat.zero_le _, Nat.zero_le _⟩ (fun H locs hk1 hS => ?_)
  replace hP := keptP hP hk1
  refine lv_aload_n hx hb dX0_atom_4 rfl (lv_at hl 0 rfl) ?_
  refine puV_V (own := RX0) (As := []) (rest := []) (C := RX0) (ci := 0) (q0 := 0) ⟨hx, hb, hml, hown, hts⟩ (c_X0_requireRoom l D ad cI cZ cJ n kd sd ts fs tr on rp lt ru lg lp (by omega)) gX0_atom_X0_requireRoom rfl ⟨rfl, rfl⟩ 0 rfl (by decide +kernel) ⟨Nat.le_of_ble_eq_true rfl, Nat.le_of_ble_eq_true rfl⟩ hP hK rfl rfl rfl hS hl.1 rfl (Nat.le_of_ble_eq_true rfl) dX0_atom_5 ⟨Nat.zero_le _, Nat.zero_le _⟩ (fun H locs hk1 hS => ?_)
  replace hP := keptP hP hk1
  refine lv_iload_n hx hb dX0_atom_8 rfl (lv_at hl 1 rfl) ?_
  refine puI_S (own := RX0) (As := [.int (nI a)]) (rest := []) ⟨hx, hb, hml, hown, hts⟩ (c_X0_placeOf l D a (by omega)) gX0_atom_X0_placeOf rfl ⟨rfl, rfl⟩ 1 rfl (by decide +kernel) ⟨Nat.le_of_ble_eq_true rfl, Nat.le_of_ble_eq_true rfl⟩ nilP (hK.sub (tys' := []) [] rfl) hS hl.1 rfl (Nat.le_of_ble_eq_true rfl) dX0_atom_9 ⟨Nat.zero_le _, Nat.zero_le _⟩ (fun H locs hk1 hS => ?_)
  replace hP := keptP hP hk1
  refine lv_istore_n (lv' := [(2, .int (nI (2 * (5 - a)))), (0, .ref (ad 0)), (1, .int (nI a))]) hx hb dX0_atom_12 rfl hl (by decide) rfl (fun ls hl => ?_)
  refine lv_aload_n hx hb dX0_atom_13 rfl (lv_at hl 1 rfl) ?_
  refine va_get (D := D) (ci := 0) (v := .int (nI n)) (C := RX0) (T := TX0) (N := 12) hx hb hts hin0 hown hK hP 0 rfl rfl 0 (by decide) (hts (.fieldLink RX0 9 "RumourReasoner" "count" "I") (by decide +kernel)) (fun _ h9 => h9) rfl dX0_atom_14 ?_
  refine puI_S (own := RX0) (As := [.int (nI n)]) (rest := []) ⟨hx, hb, hml, hown, hts⟩ (c_X0_rowOf l D n) gX0_atom_X0_rowOf rfl ⟨rfl, rfl⟩ 1 rfl (by decide +kernel) ⟨Nat.le_of_ble_eq_true rfl, Nat.le_of_ble_eq_true rfl⟩ nilP (hK.sub (tys' := []) [] rfl) hS hl.1 rfl (Nat.le_of_ble_eq_true rfl) dX0_atom_17 ⟨Nat.zero_le _, Nat.zero_le _⟩ (fun H locs hk1 hS => ?_)
  replace hP := keptP hP hk1
  refine lv_istore_n (lv' := [(3, .int (nI (n * 64))), (2, .int (nI (2 * (5 - a)))), (0, .ref (ad 0)), (1, .int (nI a))]) hx hb dX0_atom_20 rfl hl (by decide) rfl (fun ls hl => ?_)
  refine lv_iconst (v := nI 0) hx hb dX0_atom_21 (by decide) ?_
  refine lv_istore (lv' := [(4, .int (nI 0)), (3, .int (nI (n * 64))), (2, .int (nI (2 * (5 - a)))), (0, .ref (ad 0)), (1, .int (nI a))]) hx hb dX0_atom_22 hl (by decide) rfl (fun ls hl => ?_)
  have key1 : ∀ (d3 i2 : Nat), i2 + d3 = 64 → ∀ (H : Heap) (locs : List Loc) (ls : Array Slot), va_P D vwCl (wC ad cI cZ cJ n kd sd (pt ts (n * 64) (fun w => vbL (2 * (5 - a)) w) i2) (pt fs (n * 64) (fun w => vbL (2 * (5 - a) + 1) w) i2) tr on rp lt ru lg lp) H → va_D A (wC ad cI cZ cJ n kd sd (pt ts (n * 64) (fun w => vbL (2 * (5 - a)) w) i2) (pt fs (n * 64) (fun w => vbL (2 * (5 - a) + 1) w) i2) tr on rp lt ru lg lp) → va_S A s.heap H locs → lv_has ls 5 [(4, .int (nI i2)), (3, .int (nI (n * 64))), (2, .int (nI (2 * (5 - a)))), (0, .ref (ad 0)), (1, .int (nI a))] → W p l e rm_X0_atom s m args below meth c H locs 0 0 Q (F0 m 24 ls []) := by
    intro d3
    induction d3 with
    | zero =>
      intro i2 hi_i2 H locs ls hP hD hS hl
      obtain rfl : i2 = 64 := by omega
      refine lv_iload hx hb dX0_atom_24 (lv_at hl 0 rfl) ?_
      refine lv_bipush (v := nI 64) hx hb dX0_atom_26 (by decide) ?_
      refine cT_ge (tgt := 69) hx hb dX0_atom_28 (by decide) (nI_le (by omega) (by omega)) ?_
      refine lv_aload_n hx hb dX0_atom_69 rfl (lv_at hl 3 rfl) ?_
      refine lv_iconst (v := nI 0) hx hb dX0_atom_70 (by decide) ?_
      refine lv_iconst (v := nI 1) hx hb dX0_atom_71 (by decide) ?_
      refine tc_int (y := bI true) (rfl) ?_
      refine muI_V (own := RX0) (As := [.int (nI 0), .int (bI true)]) (rest := []) (C := RX0) (ci := 0) (q0 := 0) (A1 := A) ⟨hx, hb, hml, hown, hts⟩ (c_X0_addFormula l D ad cI cZ cJ n kd sd (pt ts (n * 64) (fun w => vbL (2 * (5 - a)) w) 64) (pt fs (n * 64) (fun w => vbL (2 * (5 - a) + 1) w) 64) tr on rp lt ru lg lp 0 true (by omega)) gX0_atom_X0_addFormula rfl ⟨rfl, rfl⟩ 2 rfl (by decide +kernel) ⟨Nat.le_of_ble_eq_true rfl, Nat.le_of_ble_eq_true rfl⟩ hP hK hD (fun _ h9 => h9) rfl rfl rfl hS hl.1 rfl (Nat.le_of_ble_eq_true rfl) dX0_atom_72 ⟨Nat.zero_le _, Nat.zero_le _⟩ (fun u4 H locs hP hz1 hk1 hS => ?_)
      replace hP : va_P D vwCl (wC ad cI cZ cJ (n + 1) (va_up kd n 0) (va_up sd n true) (pt ts (n * 64) (fun w => vbL (2 * (5 - a)) w) 64) (pt fs (n * 64) (fun w => vbL (2 * (5 - a) + 1) w) 64) tr on rp lt ru lg lp) H := hP
      replace hD : va_D A (wC ad cI cZ cJ (n + 1) (va_up kd n 0) (va_up sd n true) (pt ts (n * 64) (fun w => vbL (2 * (5 - a)) w) 64) (pt fs (n * 64) (fun w => vbL (2 * (5 - a) + 1) w) 64) tr on rp lt ru lg lp) := sameD2 hD rfl
      exact kret _ (fun _ => 0) _ _ _ _ (rfl) hP hS dX0_atom_75
    | succ d3 ih_i2 =>
      intro i2 hi_i2 H locs ls hP hD hS hl
      refine lv_iload hx hb dX0_atom_24 (lv_at hl 0 rfl) ?_
      refine lv_bipush (v := nI 64) hx hb dX0_atom_26 (by decide) ?_
      refine cF_ge (tgt := 69) hx hb dX0_atom_28 (by decide) (nI_ge (by omega) (by omega)) ?_
      refine lv_aload_n hx hb dX0_atom_31 rfl (lv_at hl 3 rfl) ?_
      refine va_get (D := D) (ci := 0) (v := .ref (ad 3)) (C := RX0) (T := TX0) (N := 12) hx hb hts hin0 hown hK hP 0 rfl rfl 3 (by decide) (hts (.fieldLink RX0 21 "RumourReasoner" "trueSets" "[J") (by decide +kernel)) (fun _ h9 => h9) rfl dX0_atom_32 ?_
      refine lv_iload_n hx hb dX0_atom_35 rfl (lv_at hl 1 rfl) ?_
      refine lv_iload hx hb dX0_atom_36 (lv_at hl 0 rfl) ?_
      refine lv_iadd hx hb dX0_atom_38 ?_
      refine tc_int (y := nI ((n * 64) + i2)) (nI_add _ _) ?_
      refine lv_iload_n hx hb dX0_atom_39 rfl (lv_at hl 2 rfl) ?_
      refine lv_iload hx hb dX0_atom_40 (lv_at hl 0 rfl) ?_
      refine puL_Se (own := RX0) (As := [.int (nI (2 * (5 - a))), .int (nI i2)]) (rest := [.int (nI ((n * 64) + i2)), .ref (ad 3)]) ⟨hx, hb, hml, hown, hts⟩ (c_X0_valuationsWithBit l D (2 * (5 - a)) i2 (by omega) (by omega)) gX0_atom_X0_valuationsWithBit rfl ⟨rfl, rfl⟩ 2 rfl (by decide +kernel) ⟨Nat.le_of_ble_eq_true rfl, Nat.le_of_ble_eq_true rfl⟩ nilP (hK.sub (tys' := []) [] rfl) ((hTB.kept hS.2.1).narrow (fun _ h9 => h9.elim)) hS hl.1 rfl (Nat.le_of_ble_eq_true rfl) dX0_atom_42 ⟨Nat.zero_le _, Nat.zero_le _⟩ (fun H locs hk1 hS => ?_)
      replace hP := keptP hP hk1
      refine st_nl hx hb hK hP hD hS 3 2 rfl rfl (j := ((n * 64) + i2)) (by omega) (by decide) dX0_atom_45 (fun H locs hP hD hS => ?_)
      replace hP : va_P D vwCl (wC ad cI cZ cJ n kd sd (vp_updL (pt ts (n * 64) (fun w => vbL (2 * (5 - a)) w) i2) ((n * 64) + i2) (vbL (2 * (5 - a)) i2)) (pt fs (n * 64) (fun w => vbL (2 * (5 - a) + 1) w) i2) tr on rp lt ru lg lp) H := by exact hP
      replace hD : va_D A (wC ad cI cZ cJ n kd sd (vp_updL (pt ts (n * 64) (fun w => vbL (2 * (5 - a)) w) i2) ((n * 64) + i2) (vbL (2 * (5 - a)) i2)) (pt fs (n * 64) (fun w => vbL (2 * (5 - a) + 1) w) i2) tr on rp lt ru lg lp) := sameD2 hD rfl
      refine lv_aload_n hx hb dX0_atom_46 rfl (lv_at hl 3 rfl) ?_
      refine va_get (D := D) (ci := 0) (v := .ref (ad 4)) (C := RX0) (T := TX0) (N := 12) hx hb hts hin0 hown hK hP 0 rfl rfl 4 (by decide) (hts (.fieldLink RX0 25 "RumourReasoner" "falseSets" "[J") (by decide +kernel)) (fun _ h9 => h9) rfl dX0_atom_47 ?_
      refine lv_iload_n hx hb dX0_atom_50 rfl (lv_at hl 1 rfl) ?_
      refine lv_iload hx hb dX0_atom_51 (lv_at hl 0 rfl) ?_
      refine lv_iadd hx hb dX0_atom_53 ?_
      refine tc_int (y := nI ((n * 64) + i2)) (nI_add _ _) ?_
      refine lv_iload_n hx hb dX0_atom_54 rfl (lv_at hl 2 rfl) ?_
      refine lv_iconst (v := nI 1) hx hb dX0_atom_55 (by decide) ?_
      refine lv_iadd hx hb dX0_atom_56 ?_
      refine tc_int (y := nI ((2 * (5 - a)) + 1)) (nI_add _ _) ?_
      refine lv_iload hx hb dX0_atom_57 (lv_at hl 0 rfl) ?_
      refine puL_Se (own := RX0) (As := [.int (nI ((2 * (5 - a)) + 1)), .int (nI i2)]) (rest := [.int (nI ((n * 64) + i2)), .ref (ad 4)]) ⟨hx, hb, hml, hown, hts⟩ (c_X0_valuationsWithBit l D ((2 * (5 - a)) + 1) i2 (by omega) (by omega)) gX0_atom_X0_valuationsWithBit rfl ⟨rfl, rfl⟩ 2 rfl (by decide +kernel) ⟨Nat.le_of_ble_eq_true rfl, Nat.le_of_ble_eq_true rfl⟩ nilP (hK.sub (tys' := []) [] rfl) ((hTB.kept hS.2.1).narrow (fun _ h9 => h9.elim)) hS hl.1 rfl (Nat.le_of_ble_eq_true rfl) dX0_atom_59 ⟨Nat.zero_le _, Nat.zero_le _⟩ (fun H locs hk1 hS => ?_)
      replace hP := keptP hP hk1
      refine st_nl hx hb hK hP hD hS 4 2 rfl rfl (j := ((n * 64) + i2)) (by omega) (by decide) dX0_atom_62 (fun H locs hP hD hS => ?_)
      replace hP : va_P D vwCl (wC ad cI cZ cJ n kd sd (vp_updL (pt ts (n * 64) (fun w => vbL (2 * (5 - a)) w) i2) ((n * 64) + i2) (vbL (2 * (5 - a)) i2)) (vp_updL (pt fs (n * 64) (fun w => vbL (2 * (5 - a) + 1) w) i2) ((n * 64) + i2) (vbL ((2 * (5 - a)) + 1) i2)) tr on rp lt ru lg lp) H := by exact hP
      replace hD : va_D A (wC ad cI cZ cJ n kd sd (vp_updL (pt ts (n * 64) (fun w => vbL (2 * (5 - a)) w) i2) ((n * 64) + i2) (vbL (2 * (5 - a)) i2)) (vp_updL (pt fs (n * 64) (fun w => vbL (2 * (5 - a) + 1) w) i2) ((n * 64) + i2) (vbL ((2 * (5 - a)) + 1) i2)) tr on rp lt ru lg lp) := sameD2 hD rfl
      refine lv_iinc (v := nI (i2 + 1)) (lv' := [(4, .int (nI (i2 + 1))), (3, .int (nI (n * 64))), (2, .int (nI (2 * (5 - a)))), (0, .ref (ad 0)), (1, .int (nI a))]) hx hb dX0_atom_63 hl (k := 0) rfl (iinc1 _) (by decide) rfl (fun ls hl => ?_)
      refine lv_goto (tgt := 24) hx hb dX0_atom_66 (by decide) ?_
      exact ih_i2 (i2 + 1) (by omega) H locs ls hP hD hS (lv_sub hl [0, 1, 2, 3, 4] rfl)
  exact key1 (64) 0 (by omega) _ _ ls hP hD hS (lv_sub hl [0, 1, 2, 3, 4] rfl)

end
