section
variable (l : Launch) (D : va_G) (bd : Nat → Nat) (cI cZ cJ : ClassId) (th : Int32) (n : Nat) (kd fi se : Nat → Nat) (sd : Nat → Bool) (tr : Nat → Nat) (on : Nat → Bool) (sy : Nat → Nat) (lt : Nat) (ru : Nat → Option Nat) (lg : Nat) (rs : Nat → Int32)
theorem gG_lt {n : Nat} {kd fi se tr sy : Nat → Nat} {lt lg : Nat} {ru : Nat → Option Nat} (hM : OKM n kd fi se tr sy lt lg ru) (h v : Nat) : ∀ a, a < 6 → gG sy (wv kd fi se) ru h v a < 4 := by
  intro a ha
  unfold gG
  refine Nat.or_lt_two_pow (n := 2) (gbS_lt hM.2.2.1 ha 6 (Nat.le_refl 6)) ?_
  cases e : ru a with
  | none => simp
  | some f => exact wv_lt hM.2.2.2.2.2.2 v f (hM.2.2.2.2.2.1 a f ha e)
theorem mIt_lt {n : Nat} {kd fi se tr sy : Nat → Nat} {lt lg : Nat} {ru : Nat → Option Nat} (hM : OKM n kd fi se tr sy lt lg ru) (h : Nat) : ∀ r, mIt sy (wv kd fi se) ru h r < 4096
  | 0 => bgS_lt6 (fun a ha => gbS_lt hM.2.2.1 ha 6 (Nat.le_refl 6))
  | r + 1 => bgS_lt6 (gG_lt hM h _)
theorem hin_X1_goOn : ∀ w ∈ wsX10, w ∈ wsX1_goOn := by first | exact fun _ h => List.mem_cons_of_mem _ (List.mem_append_right _ h) | exact fun _ h => List.mem_cons_of_mem _ (List.mem_append_left _ (List.mem_append_right _ h)) | exact fun _ h => List.mem_cons_of_mem _ (List.mem_append_left _ (List.mem_append_left _ (List.mem_append_right _ h))) | exact fun _ h => List.mem_cons_of_mem _ (List.mem_append_left _ (List.mem_append_left _ (List.mem_append_left _ (List.mem_append_right _ h)))) | decide +kernel
def rm_X1_goOn : Room := { frames := 2, cells := 0, slots := 0, locals := 47 }
set_option maxHeartbeats 4000000 in
set_option maxRecDepth 100000 in
theorem c_X1_goOn (hM : OKM n kd fi se tr sy lt lg ru) (wh v : Nat) (hwh : wh < 64) (hv : v < 4096) : MuI l yX1_goOn wsX1_goOn rm_X1_goOn D vwCl (wM bd cI cZ cJ th n kd fi se sd tr on sy lt ru lg rs) (fun u => wM bd cI cZ cJ th n kd fi se sd tr on sy lt ru lg u) (tyC cI cZ cJ) [.ref (bd 0), .int (nI wh), .int (nI v)] (nI (bgS (gG sy (wv kd fi se) ru wh v) 6)) := by
  refine MuI.of (cc := cX1_goOn) (maxL := 5) (by decide) rfl (Nat.le_of_ble_eq_true rfl) (vp_nar_int _) ?_
  intro A p e s m args below meth c Q ls hx hb hml hown hts hP hK hD kret hl
  have hown : s.vm.findClass RX1 = some m.cls := hown
  have hl : lv_has ls 5 [(0, .ref (bd 0)), (1, .int (nI wh)), (2, .int (nI v))] := hl
  have hS : va_S A s.heap s.heap [] := va_S.rf
  have hin0 : ∀ w ∈ u_ws RX1 TX1 13, w ∈ wsX1_goOn := hin_X1_goOn
  have hn40 := hM.1
  refine lv_iconst (v := nI 0) hx hb dX1_goOn_0 (by decide) ?_
  refine lv_istore_n (lv' := [(3, .int (nI 0)), (0, .ref (bd 0)), (1, .int (nI wh)), (2, .int (nI v))]) hx hb dX1_goOn_1 rfl hl (by decide) rfl (fun ls hl => ?_)
  refine lv_iconst (v := nI 0) hx hb dX1_goOn_2 (by decide) ?_
  refine lv_istore (lv' := [(4, .int (nI 0)), (3, .int (nI 0)), (0, .ref (bd 0)), (1, .int (nI wh)), (2, .int (nI v))]) hx hb dX1_goOn_3 hl (by decide) rfl (fun ls hl => ?_)
  have key1 : ∀ (d3 i2 : Nat), i2 + d3 = 6 → ∀ (rs_i2 : Nat → Int32), ∀ (H : Heap) (locs : List Loc) (ls : Array Slot), va_P D vwCl (wM bd cI cZ cJ th n kd fi se sd tr on sy lt ru lg rs_i2) H → va_D A (wM bd cI cZ cJ th n kd fi se sd tr on sy lt ru lg rs_i2) → va_S A s.heap H locs → lv_has ls 5 [(4, .int (nI i2)), (3, .int (nI (bgS (gG sy (wv kd fi se) ru wh v) i2))), (0, .ref (bd 0)), (1, .int (nI wh)), (2, .int (nI v))] → W p l e rm_X1_goOn s m args below meth c H locs 0 0 Q (F0 m 5 ls []) := by
    intro d3
    induction d3 with
    | zero =>
      intro i2 hi_i2 rs_i2 H locs ls hP hD hS hl
      obtain rfl : i2 = 6 := by omega
      refine lv_iload hx hb dX1_goOn_5 (lv_at hl 0 rfl) ?_
      refine lv_bipush (v := nI 6) hx hb dX1_goOn_7 (by decide) ?_
      refine cT_ge (tgt := 58) hx hb dX1_goOn_9 (by decide) (nI_le (by omega) (by omega)) ?_
      refine lv_iload_n hx hb dX1_goOn_58 rfl (lv_at hl 1 rfl) ?_
      exact kret _ rs_i2 _ _ _ _ (rfl) hP hS dX1_goOn_59
    | succ d3 ih_i2 =>
      intro i2 hi_i2 rs_i2 H locs ls hP hD hS hl
      refine lv_iload hx hb dX1_goOn_5 (lv_at hl 0 rfl) ?_
      refine lv_bipush (v := nI 6) hx hb dX1_goOn_7 (by decide) ?_
      refine cF_ge (tgt := 58) hx hb dX1_goOn_9 (by decide) (nI_ge (by omega) (by omega)) ?_
      refine lv_iconst (v := nI 4) hx hb dX1_goOn_12 (by decide) ?_
      refine lv_iload_n hx hb dX1_goOn_13 rfl (lv_at hl 1 rfl) ?_
      refine lv_imul hx hb dX1_goOn_14 ?_
      refine tc_int (y := nI (4 * (bgS (gG sy (wv kd fi se) ru wh v) i2))) (pk_mul _ _) ?_
      refine lv_aload_n hx hb dX1_goOn_15 rfl (lv_at hl 2 rfl) ?_
      refine lv_iload_n hx hb dX1_goOn_16 rfl (lv_at hl 3 rfl) ?_
      refine lv_iload hx hb dX1_goOn_17 (lv_at hl 0 rfl) ?_
      refine puI_V (own := RX1) (As := [.int (nI wh), .int (nI i2)]) (rest := [.int (nI (4 * (bgS (gG sy (wv kd fi se) ru wh v) i2)))]) (C := RX1) (ci := 1) (q0 := 0) ⟨hx, hb, hml, hown, hts⟩ (c_X1_givenBy l D bd cI cZ cJ th n kd fi se sd tr on sy lt ru lg rs_i2 hM wh i2 (by omega) (by omega)) gX1_goOn_X1_givenBy rfl ⟨rfl, rfl⟩ 2 rfl (by decide +kernel) ⟨Nat.le_of_ble_eq_true rfl, Nat.le_of_ble_eq_true rfl⟩ hP hK rfl rfl rfl hS hl.1 rfl (Nat.le_of_ble_eq_true rfl) dX1_goOn_19 ⟨Nat.zero_le _, Nat.zero_le _⟩ (fun H locs hk1 hS => ?_)
      replace hP := keptP hP hk1
      refine lv_aload_n hx hb dX1_goOn_22 rfl (lv_at hl 2 rfl) ?_
      refine va_get (D := D) (ci := 1) (v := .ref (bd 8)) (C := RX1) (T := TX1) (N := 13) hx hb hts hin0 hown hK hP 0 rfl rfl 10 (by decide) (hts (.fieldLink RX1 36 "RumourReasonerModel" "rules" "[I") (by decide +kernel)) (fun _ h9 => h9) rfl dX1_goOn_23 ?_
      refine lv_iload hx hb dX1_goOn_26 (lv_at hl 0 rfl) ?_
      refine ld_ni hx hb hK hP 8 0 rfl rfl (j := i2) (by omega) (by decide) dX1_goOn_28 ?_
      refine lv_iconst (v := (-1)) hx hb dX1_goOn_29 (by decide) ?_
      refine lv_icmp_ne (tgt := 37) hx hb dX1_goOn_30 (by decide) (fun c_4 => ?_) (fun c_4 => ?_)
      · obtain ⟨f9, e_30⟩ := rI_some c_4
        have hf9 : f9 < n := hM.2.2.2.2.2.1 i2 f9 (by omega) e_30
        refine lv_aload_n hx hb dX1_goOn_37 rfl (lv_at hl 2 rfl) ?_
        refine lv_aload_n hx hb dX1_goOn_38 rfl (lv_at hl 2 rfl) ?_
        refine va_get (D := D) (ci := 1) (v := .ref (bd 8)) (C := RX1) (T := TX1) (N := 13) hx hb hts hin0 hown hK hP 0 rfl rfl 10 (by decide) (hts (.fieldLink RX1 36 "RumourReasonerModel" "rules" "[I") (by decide +kernel)) (fun _ h9 => h9) rfl dX1_goOn_39 ?_
        refine lv_iload hx hb dX1_goOn_42 (lv_at hl 0 rfl) ?_
        refine ld_ni hx hb hK hP 8 0 rfl rfl (j := i2) (by omega) (by decide) dX1_goOn_44 ?_
        refine tc_int (y := nI f9) (by rw [e_30]; rfl) ?_
        refine lv_iload_n hx hb dX1_goOn_45 rfl (lv_at hl 4 rfl) ?_
        refine muI_V (own := RX1) (As := [.int (nI f9), .int (nI v)]) (rest := [.int (nI (gbS sy wh i2 6)), .int (nI (4 * (bgS (gG sy (wv kd fi se) ru wh v) i2)))]) (C := RX1) (ci := 1) (q0 := 0) (A1 := A) ⟨hx, hb, hml, hown, hts⟩ (c_X1_worth l D bd cI cZ cJ th n kd fi se sd tr on sy lt ru lg rs_i2 hM f9 v (by omega) (by omega)) gX1_goOn_X1_worth rfl ⟨rfl, rfl⟩ 2 rfl (by decide +kernel) ⟨Nat.le_of_ble_eq_true rfl, Nat.le_of_ble_eq_true rfl⟩ hP hK hD (fun _ h9 => h9) rfl rfl rfl hS hl.1 rfl (Nat.le_of_ble_eq_true rfl) dX1_goOn_46 ⟨Nat.zero_le _, Nat.zero_le _⟩ (fun u5 H locs hP hz1 hk1 hS => ?_)
        replace hP : va_P D vwCl (wM bd cI cZ cJ th n kd fi se sd tr on sy lt ru lg u5) H := hP
        replace hD : va_D A (wM bd cI cZ cJ th n kd fi se sd tr on sy lt ru lg u5) := sameD2 hD rfl
        refine lv_ior hx hb dX1_goOn_49 ?_
        refine tc_int (y := nI (gG sy (wv kd fi se) ru wh v i2)) (by rw [fa_or]; unfold gG; rw [e_30]) ?_
        refine lv_iadd hx hb dX1_goOn_50 ?_
        refine tc_int (y := nI ((4 * (bgS (gG sy (wv kd fi se) ru wh v) i2)) + (gG sy (wv kd fi se) ru wh v i2))) (nI_add _ _) ?_
        refine lv_istore_n (lv' := [(3, .int (nI ((4 * (bgS (gG sy (wv kd fi se) ru wh v) i2)) + (gG sy (wv kd fi se) ru wh v i2)))), (4, .int (nI i2)), (0, .ref (bd 0)), (1, .int (nI wh)), (2, .int (nI v))]) hx hb dX1_goOn_51 rfl hl (by decide) rfl (fun ls hl => ?_)
        refine lv_iinc (v := nI (i2 + 1)) (lv' := [(4, .int (nI (i2 + 1))), (3, .int (nI ((4 * (bgS (gG sy (wv kd fi se) ru wh v) i2)) + (gG sy (wv kd fi se) ru wh v i2)))), (0, .ref (bd 0)), (1, .int (nI wh)), (2, .int (nI v))]) hx hb dX1_goOn_52 hl (k := 1) rfl (iinc1 _) (by decide) rfl (fun ls hl => ?_)
        refine lv_goto (tgt := 5) hx hb dX1_goOn_55 (by decide) ?_
        exact ih_i2 (i2 + 1) (by omega) u5 H locs ls hP hD hS (lv_sub hl [0, 1, 2, 3, 4] rfl)
      · have e_30 : ru i2 = none := (rI_none (fun f hf => Nat.lt_of_lt_of_le (hM.2.2.2.2.2.1 _ f (by omega) hf) (Nat.le_trans hM.1 (by decide)))).mp c_4
        refine lv_iconst (v := nI 0) hx hb dX1_goOn_33 (by decide) ?_
        refine lv_goto (tgt := 49) hx hb dX1_goOn_34 (by decide) ?_
        refine lv_ior hx hb dX1_goOn_49 ?_
        refine tc_int (y := nI (gG sy (wv kd fi se) ru wh v i2)) (by rw [fa_or]; unfold gG; rw [e_30]) ?_
        refine lv_iadd hx hb dX1_goOn_50 ?_
        refine tc_int (y := nI ((4 * (bgS (gG sy (wv kd fi se) ru wh v) i2)) + (gG sy (wv kd fi se) ru wh v i2))) (nI_add _ _) ?_
        refine lv_istore_n (lv' := [(3, .int (nI ((4 * (bgS (gG sy (wv kd fi se) ru wh v) i2)) + (gG sy (wv kd fi se) ru wh v i2)))), (4, .int (nI i2)), (0, .ref (bd 0)), (1, .int (nI wh)), (2, .int (nI v))]) hx hb dX1_goOn_51 rfl hl (by decide) rfl (fun ls hl => ?_)
        refine lv_iinc (v := nI (i2 + 1)) (lv' := [(4, .int (nI (i2 + 1))), (3, .int (nI ((4 * (bgS (gG sy (wv kd fi se) ru wh v) i2)) + (gG sy (wv kd fi se) ru wh v i2)))), (0, .ref (bd 0)), (1, .int (nI wh)), (2, .int (nI v))]) hx hb dX1_goOn_52 hl (k := 1) rfl (iinc1 _) (by decide) rfl (fun ls hl => ?_)
        refine lv_goto (tgt := 5) hx hb dX1_goOn_55 (by decide) ?_
        exact ih_i2 (i2 + 1) (by omega) rs_i2 H locs ls hP hD hS (lv_sub hl [0, 1, 2, 3, 4] rfl)
  exact key1 (6) 0 (by omega) rs _ _ ls hP hD hS (lv_sub hl [0, 1, 2, 3, 4] rfl)

def rm_X1_settle : Room := { frames := 3, cells := 0, slots := 0, locals := 71 }
set_option maxHeartbeats 4000000 in
set_option maxRecDepth 100000 in
theorem c_X1_settle (hM : OKM n kd fi se tr sy lt lg ru) (hF : ∀ h, h < 64 → mIt sy (wv kd fi se) ru h 13 = mIt sy (wv kd fi se) ru h 12) (wh : Nat) (hwh : wh < 64) : MuI l yX1_settle wsX1_settle rm_X1_settle D vwCl (wM bd cI cZ cJ th n kd fi se sd tr on sy lt ru lg rs) (fun u => wM bd cI cZ cJ th n kd fi se sd tr on sy lt ru lg u) (tyC cI cZ cJ) [.ref (bd 0), .int (nI wh)] (nI (mIt sy (wv kd fi se) ru wh 12)) := by
  refine MuI.of (cc := cX1_settle) (maxL := 4) (by decide) rfl (Nat.le_of_ble_eq_true rfl) (vp_nar_int _) ?_
  intro A p e s m args below meth c Q ls hx hb hml hown hts hP hK hD kret hl
  have hown : s.vm.findClass RX1 = some m.cls := hown
  have hl : lv_has ls 4 [(0, .ref (bd 0)), (1, .int (nI wh))] := hl
  have hS : va_S A s.heap s.heap [] := va_S.rf
  refine lv_aload_n hx hb dX1_settle_0 rfl (lv_at hl 0 rfl) ?_
  refine lv_iload_n hx hb dX1_settle_1 rfl (lv_at hl 1 rfl) ?_
  refine puI_V (own := RX1) (As := [.int (nI wh)]) (rest := []) (C := RX1) (ci := 1) (q0 := 0) ⟨hx, hb, hml, hown, hts⟩ (c_X1_begin l D bd cI cZ cJ th n kd fi se sd tr on sy lt ru lg rs hM wh (by omega)) gX1_settle_X1_begin rfl ⟨rfl, rfl⟩ 1 rfl (by decide +kernel) ⟨Nat.le_of_ble_eq_true rfl, Nat.le_of_ble_eq_true rfl⟩ hP hK rfl rfl rfl hS hl.1 rfl (Nat.le_of_ble_eq_true rfl) dX1_settle_2 ⟨Nat.zero_le _, Nat.zero_le _⟩ (fun H locs hk1 hS => ?_)
  replace hP := keptP hP hk1
  refine lv_istore_n (lv' := [(2, .int (nI (mIt sy (wv kd fi se) ru wh 0))), (0, .ref (bd 0)), (1, .int (nI wh))]) hx hb dX1_settle_5 rfl hl (by decide) rfl (fun ls hl => ?_)
  refine lv_aload_n hx hb dX1_settle_6 rfl (lv_at hl 1 rfl) ?_
  refine lv_iload_n hx hb dX1_settle_7 rfl (lv_at hl 2 rfl) ?_
  refine lv_iload_n hx hb dX1_settle_8 rfl (lv_at hl 0 rfl) ?_
  refine muI_V (own := RX1) (As := [.int (nI wh), .int (nI (mIt sy (wv kd fi se) ru wh 0))]) (rest := []) (C := RX1) (ci := 1) (q0 := 0) (A1 := A) ⟨hx, hb, hml, hown, hts⟩ (c_X1_goOn l D bd cI cZ cJ th n kd fi se sd tr on sy lt ru lg rs hM wh (mIt sy (wv kd fi se) ru wh 0) (by omega) (mIt_lt hM _ _)) gX1_settle_X1_goOn rfl ⟨rfl, rfl⟩ 2 rfl (by decide +kernel) ⟨Nat.le_of_ble_eq_true rfl, Nat.le_of_ble_eq_true rfl⟩ hP hK hD (fun _ h9 => h9) rfl rfl rfl hS hl.1 rfl (Nat.le_of_ble_eq_true rfl) dX1_settle_9 ⟨Nat.zero_le _, Nat.zero_le _⟩ (fun u1 H locs hP hz1 hk1 hS => ?_)
  replace hP : va_P D vwCl (wM bd cI cZ cJ th n kd fi se sd tr on sy lt ru lg u1) H := hP
  replace hD : va_D A (wM bd cI cZ cJ th n kd fi se sd tr on sy lt ru lg u1) := sameD2 hD rfl
  refine tc_int (y := nI (mIt sy (wv kd fi se) ru wh 1)) (rfl) ?_
  refine lv_istore_n (lv' := [(3, .int (nI (mIt sy (wv kd fi se) ru wh 1))), (2, .int (nI (mIt sy (wv kd fi se) ru wh 0))), (0, .ref (bd 0)), (1, .int (nI wh))]) hx hb dX1_settle_12 rfl hl (by decide) rfl (fun ls hl => ?_)
  have key2 : ∀ (d4 i3 : Nat), i3 + d4 = 12 → ∀ (rs_i3 : Nat → Int32), ∀ (H : Heap) (locs : List Loc) (ls : Array Slot), va_P D vwCl (wM bd cI cZ cJ th n kd fi se sd tr on sy lt ru lg rs_i3) H → va_D A (wM bd cI cZ cJ th n kd fi se sd tr on sy lt ru lg rs_i3) → va_S A s.heap H locs → lv_has ls 4 [(2, .int (nI (mIt sy (wv kd fi se) ru wh i3))), (3, .int (nI (mIt sy (wv kd fi se) ru wh (i3 + 1)))), (0, .ref (bd 0)), (1, .int (nI wh))] → W p l e rm_X1_settle s m args below meth c H locs 0 0 Q (F0 m 13 ls []) := by
    intro d4
    induction d4 with
    | zero =>
      intro i3 hi_i3 rs_i3 H locs ls hP hD hS hl
      obtain rfl : i3 = 12 := by omega
      refine lv_iload_n hx hb dX1_settle_13 rfl (lv_at hl 1 rfl) ?_
      refine lv_iload_n hx hb dX1_settle_14 rfl (lv_at hl 0 rfl) ?_
      refine cT_eq (tgt := 30) hx hb dX1_settle_15 (by decide) (by rw [hF wh hwh]) ?_
      refine lv_iload_n hx hb dX1_settle_30 rfl (lv_at hl 0 rfl) ?_
      exact kret _ rs_i3 _ _ _ _ (rfl) hP hS dX1_settle_31
    | succ d4 ih_i3 =>
      intro i3 hi_i3 rs_i3 H locs ls hP hD hS hl
      refine lv_iload_n hx hb dX1_settle_13 rfl (lv_at hl 1 rfl) ?_
      refine lv_iload_n hx hb dX1_settle_14 rfl (lv_at hl 0 rfl) ?_
      refine lv_icmp_eq (tgt := 30) hx hb dX1_settle_15 (by decide) (fun c_5 => ?_) (fun c_5 => ?_)
      · have e_15 := (nI_eq (Nat.lt_trans (mIt_lt hM wh _) (by decide)) (Nat.lt_trans (mIt_lt hM wh _) (by decide))).mp c_5
        refine lv_iload_n hx hb dX1_settle_30 rfl (lv_at hl 0 rfl) ?_
        exact kret _ rs_i3 _ _ _ _ (by rw [mIt_at e_15 (k := 12) (by omega)]) hP hS dX1_settle_31
      · refine lv_iload_n hx hb dX1_settle_18 rfl (lv_at hl 1 rfl) ?_
        refine lv_istore_n (lv' := [(2, .int (nI (mIt sy (wv kd fi se) ru wh (i3 + 1)))), (3, .int (nI (mIt sy (wv kd fi se) ru wh (i3 + 1)))), (0, .ref (bd 0)), (1, .int (nI wh))]) hx hb dX1_settle_19 rfl hl (by decide) rfl (fun ls hl => ?_)
        refine lv_aload_n hx hb dX1_settle_20 rfl (lv_at hl 2 rfl) ?_
        refine lv_iload_n hx hb dX1_settle_21 rfl (lv_at hl 3 rfl) ?_
        refine lv_iload_n hx hb dX1_settle_22 rfl (lv_at hl 0 rfl) ?_
        refine muI_V (own := RX1) (As := [.int (nI wh), .int (nI (mIt sy (wv kd fi se) ru wh (i3 + 1)))]) (rest := []) (C := RX1) (ci := 1) (q0 := 0) (A1 := A) ⟨hx, hb, hml, hown, hts⟩ (c_X1_goOn l D bd cI cZ cJ th n kd fi se sd tr on sy lt ru lg rs_i3 hM wh (mIt sy (wv kd fi se) ru wh (i3 + 1)) (by omega) (mIt_lt hM _ _)) gX1_settle_X1_goOn rfl ⟨rfl, rfl⟩ 2 rfl (by decide +kernel) ⟨Nat.le_of_ble_eq_true rfl, Nat.le_of_ble_eq_true rfl⟩ hP hK hD (fun _ h9 => h9) rfl rfl rfl hS hl.1 rfl (Nat.le_of_ble_eq_true rfl) dX1_settle_23 ⟨Nat.zero_le _, Nat.zero_le _⟩ (fun u6 H locs hP hz1 hk1 hS => ?_)
        replace hP : va_P D vwCl (wM bd cI cZ cJ th n kd fi se sd tr on sy lt ru lg u6) H := hP
        replace hD : va_D A (wM bd cI cZ cJ th n kd fi se sd tr on sy lt ru lg u6) := sameD2 hD rfl
        refine tc_int (y := nI (mIt sy (wv kd fi se) ru wh (i3 + 1 + 1))) (rfl) ?_
        refine lv_istore_n (lv' := [(3, .int (nI (mIt sy (wv kd fi se) ru wh (i3 + 1 + 1)))), (2, .int (nI (mIt sy (wv kd fi se) ru wh (i3 + 1)))), (0, .ref (bd 0)), (1, .int (nI wh))]) hx hb dX1_settle_26 rfl hl (by decide) rfl (fun ls hl => ?_)
        refine lv_goto (tgt := 13) hx hb dX1_settle_27 (by decide) ?_
        exact ih_i3 (i3 + 1) (by omega) u6 H locs ls hP hD hS (lv_sub hl [1, 0, 2, 3] rfl)
  exact key2 (12) 0 (by omega) u1 _ _ ls hP hD hS (lv_sub hl [1, 0, 2, 3] rfl)

def rm_X1_present : Room := { frames := 4, cells := 0, slots := 0, locals := 94 }
set_option maxHeartbeats 4000000 in
set_option maxRecDepth 100000 in
theorem c_X1_present (hM : OKM n kd fi se tr sy lt lg ru) (hF : ∀ h, h < 64 → mIt sy (wv kd fi se) ru h 13 = mIt sy (wv kd fi se) ru h 12) : MuI l yX1_present wsX1_present rm_X1_present D vwCl (wM bd cI cZ cJ th n kd fi se sd tr on sy lt ru lg rs) (fun u => wM bd cI cZ cJ th n kd fi se sd tr on sy lt ru lg u) (tyC cI cZ cJ) [.ref (bd 0)] (nI (mIt sy (wv kd fi se) ru (hsS tr on lt 6) 12)) := by
  refine MuI.of (cc := cX1_present) (maxL := 1) (by decide) rfl (Nat.le_of_ble_eq_true rfl) (vp_nar_int _) ?_
  intro A p e s m args below meth c Q ls hx hb hml hown hts hP hK hD kret hl
  have hown : s.vm.findClass RX1 = some m.cls := hown
  have hl : lv_has ls 1 [(0, .ref (bd 0))] := hl
  have hS : va_S A s.heap s.heap [] := va_S.rf
  refine lv_aload_n hx hb dX1_present_0 rfl (lv_at hl 0 rfl) ?_
  refine lv_aload_n hx hb dX1_present_1 rfl (lv_at hl 0 rfl) ?_
  refine puI_V (own := RX1) (As := []) (rest := [.ref (bd 0)]) (C := RX1) (ci := 1) (q0 := 0) ⟨hx, hb, hml, hown, hts⟩ (c_X1_heardSet l D bd cI cZ cJ th n kd fi se sd tr on sy lt ru lg rs hM) gX1_present_X1_heardSet rfl ⟨rfl, rfl⟩ 0 rfl (by decide +kernel) ⟨Nat.le_of_ble_eq_true rfl, Nat.le_of_ble_eq_true rfl⟩ hP hK rfl rfl rfl hS hl.1 rfl (Nat.le_of_ble_eq_true rfl) dX1_present_2 ⟨Nat.zero_le _, Nat.zero_le _⟩ (fun H locs hk1 hS => ?_)
  replace hP := keptP hP hk1
  refine muI_V (own := RX1) (As := [.int (nI (hsS tr on lt 6))]) (rest := []) (C := RX1) (ci := 1) (q0 := 0) (A1 := A) ⟨hx, hb, hml, hown, hts⟩ (c_X1_settle l D bd cI cZ cJ th n kd fi se sd tr on sy lt ru lg rs hM hF (hsS tr on lt 6) (hsS_lt tr on lt 6 (Nat.le_refl 6))) gX1_present_X1_settle rfl ⟨rfl, rfl⟩ 1 rfl (by decide +kernel) ⟨Nat.le_of_ble_eq_true rfl, Nat.le_of_ble_eq_true rfl⟩ hP hK hD (fun _ h9 => h9) rfl rfl rfl hS hl.1 rfl (Nat.le_of_ble_eq_true rfl) dX1_present_5 ⟨Nat.zero_le _, Nat.zero_le _⟩ (fun u1 H locs hP hz1 hk1 hS => ?_)
  replace hP : va_P D vwCl (wM bd cI cZ cJ th n kd fi se sd tr on sy lt ru lg u1) H := hP
  replace hD : va_D A (wM bd cI cZ cJ th n kd fi se sd tr on sy lt ru lg u1) := sameD2 hD rfl
  exact kret _ u1 _ _ _ _ (rfl) hP hS dX1_present_8

def rm_X1_roundCount : Room := { frames := 3, cells := 0, slots := 0, locals := 71 }
set_option maxHeartbeats 4000000 in
set_option maxRecDepth 100000 in
theorem c_X1_roundCount (hM : OKM n kd fi se tr sy lt lg ru) (hF : ∀ h, h < 64 → mIt sy (wv kd fi se) ru h 13 = mIt sy (wv kd fi se) ru h 12) : MuI l yX1_roundCount wsX1_roundCount rm_X1_roundCount D vwCl (wM bd cI cZ cJ th n kd fi se sd tr on sy lt ru lg rs) (fun u => wM bd cI cZ cJ th n kd fi se sd tr on sy lt ru lg u) (tyC cI cZ cJ) [.ref (bd 0)] (nI (fa_first (fun r => decide (mIt sy (wv kd fi se) ru (hsS tr on lt 6) (r + 1) = mIt sy (wv kd fi se) ru (hsS tr on lt 6) r)) 12)) := by
  refine MuI.of (cc := cX1_roundCount) (maxL := 4) (by decide) rfl (Nat.le_of_ble_eq_true rfl) (vp_nar_int _) ?_
  intro A p e s m args below meth c Q ls hx hb hml hown hts hP hK hD kret hl
  have hown : s.vm.findClass RX1 = some m.cls := hown
  have hl : lv_has ls 4 [(0, .ref (bd 0))] := hl
  have hS : va_S A s.heap s.heap [] := va_S.rf
  have hh0 : hsS tr on lt 6 < 64 := hsS_lt tr on lt 6 (Nat.le_refl 6)
  refine lv_iconst (v := nI 0) hx hb dX1_roundCount_0 (by decide) ?_
  refine lv_istore_n (lv' := [(1, .int (nI 0)), (0, .ref (bd 0))]) hx hb dX1_roundCount_1 rfl hl (by decide) rfl (fun ls hl => ?_)
  refine lv_aload_n hx hb dX1_roundCount_2 rfl (lv_at hl 1 rfl) ?_
  refine puI_V (own := RX1) (As := []) (rest := []) (C := RX1) (ci := 1) (q0 := 0) ⟨hx, hb, hml, hown, hts⟩ (c_X1_heardSet l D bd cI cZ cJ th n kd fi se sd tr on sy lt ru lg rs hM) gX1_roundCount_X1_heardSet rfl ⟨rfl, rfl⟩ 0 rfl (by decide +kernel) ⟨Nat.le_of_ble_eq_true rfl, Nat.le_of_ble_eq_true rfl⟩ hP hK rfl rfl rfl hS hl.1 rfl (Nat.le_of_ble_eq_true rfl) dX1_roundCount_3 ⟨Nat.zero_le _, Nat.zero_le _⟩ (fun H locs hk1 hS => ?_)
  replace hP := keptP hP hk1
  refine lv_istore_n (lv' := [(2, .int (nI (hsS tr on lt 6))), (1, .int (nI 0)), (0, .ref (bd 0))]) hx hb dX1_roundCount_6 rfl hl (by decide) rfl (fun ls hl => ?_)
  refine lv_aload_n hx hb dX1_roundCount_7 rfl (lv_at hl 2 rfl) ?_
  refine lv_iload_n hx hb dX1_roundCount_8 rfl (lv_at hl 0 rfl) ?_
  refine puI_V (own := RX1) (As := [.int (nI (hsS tr on lt 6))]) (rest := []) (C := RX1) (ci := 1) (q0 := 0) ⟨hx, hb, hml, hown, hts⟩ (c_X1_begin l D bd cI cZ cJ th n kd fi se sd tr on sy lt ru lg rs hM (hsS tr on lt 6) hh0) gX1_roundCount_X1_begin rfl ⟨rfl, rfl⟩ 1 rfl (by decide +kernel) ⟨Nat.le_of_ble_eq_true rfl, Nat.le_of_ble_eq_true rfl⟩ hP hK rfl rfl rfl hS hl.1 rfl (Nat.le_of_ble_eq_true rfl) dX1_roundCount_9 ⟨Nat.zero_le _, Nat.zero_le _⟩ (fun H locs hk1 hS => ?_)
  replace hP := keptP hP hk1
  refine lv_istore_n (lv' := [(3, .int (nI (mIt sy (wv kd fi se) ru (hsS tr on lt 6) 0))), (2, .int (nI (hsS tr on lt 6))), (1, .int (nI 0)), (0, .ref (bd 0))]) hx hb dX1_roundCount_12 rfl hl (by decide) rfl (fun ls hl => ?_)
  have key1 : ∀ (d3 i2 : Nat), i2 + d3 = 12 → ∀ (rs_i2 : Nat → Int32), (∀ j, j < i2 → (fun r => decide (mIt sy (wv kd fi se) ru (hsS tr on lt 6) (r + 1) = mIt sy (wv kd fi se) ru (hsS tr on lt 6) r)) j = false) → ∀ (H : Heap) (locs : List Loc) (ls : Array Slot), va_P D vwCl (wM bd cI cZ cJ th n kd fi se sd tr on sy lt ru lg rs_i2) H → va_D A (wM bd cI cZ cJ th n kd fi se sd tr on sy lt ru lg rs_i2) → va_S A s.heap H locs → lv_has ls 4 [(1, .int (nI i2)), (3, .int (nI (mIt sy (wv kd fi se) ru (hsS tr on lt 6) i2))), (2, .int (nI (hsS tr on lt 6))), (0, .ref (bd 0))] → W p l e rm_X1_roundCount s m args below meth c H locs 0 0 Q (F0 m 13 ls []) := by
    intro d3
    induction d3 with
    | zero =>
      intro i2 hi_i2 rs_i2 hinv_i2 H locs ls hP hD hS hl
      obtain rfl : i2 = 12 := by omega
      refine lv_aload_n hx hb dX1_roundCount_13 rfl (lv_at hl 3 rfl) ?_
      refine lv_iload_n hx hb dX1_roundCount_14 rfl (lv_at hl 2 rfl) ?_
      refine lv_iload_n hx hb dX1_roundCount_15 rfl (lv_at hl 1 rfl) ?_
      refine muI_V (own := RX1) (As := [.int (nI (hsS tr on lt 6)), .int (nI (mIt sy (wv kd fi se) ru (hsS tr on lt 6) 12))]) (rest := []) (C := RX1) (ci := 1) (q0 := 0) (A1 := A) ⟨hx, hb, hml, hown, hts⟩ (c_X1_goOn l D bd cI cZ cJ th n kd fi se sd tr on sy lt ru lg rs_i2 hM (hsS tr on lt 6) (mIt sy (wv kd fi se) ru (hsS tr on lt 6) 12) hh0 (mIt_lt hM _ _)) gX1_roundCount_X1_goOn rfl ⟨rfl, rfl⟩ 2 rfl (by decide +kernel) ⟨Nat.le_of_ble_eq_true rfl, Nat.le_of_ble_eq_true rfl⟩ hP hK hD (fun _ h9 => h9) rfl rfl rfl hS hl.1 rfl (Nat.le_of_ble_eq_true rfl) dX1_roundCount_16 ⟨Nat.zero_le _, Nat.zero_le _⟩ (fun u4 H locs hP hz1 hk1 hS => ?_)
      replace hP : va_P D vwCl (wM bd cI cZ cJ th n kd fi se sd tr on sy lt ru lg u4) H := hP
      replace hD : va_D A (wM bd cI cZ cJ th n kd fi se sd tr on sy lt ru lg u4) := sameD2 hD rfl
      refine tc_int (y := nI (mIt sy (wv kd fi se) ru (hsS tr on lt 6) (12 + 1))) (rfl) ?_
      refine lv_iload_n hx hb dX1_roundCount_19 rfl (lv_at hl 1 rfl) ?_
      refine cT_eq (tgt := 36) hx hb dX1_roundCount_20 (by decide) (congrArg nI (hF _ hh0)) ?_
      refine lv_iload_n hx hb dX1_roundCount_36 rfl (lv_at hl 0 rfl) ?_
      exact kret _ u4 _ _ _ _ (by rw [ff_none hinv_i2]) hP hS dX1_roundCount_37
    | succ d3 ih_i2 =>
      intro i2 hi_i2 rs_i2 hinv_i2 H locs ls hP hD hS hl
      refine lv_aload_n hx hb dX1_roundCount_13 rfl (lv_at hl 3 rfl) ?_
      refine lv_iload_n hx hb dX1_roundCount_14 rfl (lv_at hl 2 rfl) ?_
      refine lv_iload_n hx hb dX1_roundCount_15 rfl (lv_at hl 1 rfl) ?_
      refine muI_V (own := RX1) (As := [.int (nI (hsS tr on lt 6)), .int (nI (mIt sy (wv kd fi se) ru (hsS tr on lt 6) i2))]) (rest := []) (C := RX1) (ci := 1) (q0 := 0) (A1 := A) ⟨hx, hb, hml, hown, hts⟩ (c_X1_goOn l D bd cI cZ cJ th n kd fi se sd tr on sy lt ru lg rs_i2 hM (hsS tr on lt 6) (mIt sy (wv kd fi se) ru (hsS tr on lt 6) i2) hh0 (mIt_lt hM _ _)) gX1_roundCount_X1_goOn rfl ⟨rfl, rfl⟩ 2 rfl (by decide +kernel) ⟨Nat.le_of_ble_eq_true rfl, Nat.le_of_ble_eq_true rfl⟩ hP hK hD (fun _ h9 => h9) rfl rfl rfl hS hl.1 rfl (Nat.le_of_ble_eq_true rfl) dX1_roundCount_16 ⟨Nat.zero_le _, Nat.zero_le _⟩ (fun u5 H locs hP hz1 hk1 hS => ?_)
      replace hP : va_P D vwCl (wM bd cI cZ cJ th n kd fi se sd tr on sy lt ru lg u5) H := hP
      replace hD : va_D A (wM bd cI cZ cJ th n kd fi se sd tr on sy lt ru lg u5) := sameD2 hD rfl
      refine tc_int (y := nI (mIt sy (wv kd fi se) ru (hsS tr on lt 6) (i2 + 1))) (rfl) ?_
      refine lv_iload_n hx hb dX1_roundCount_19 rfl (lv_at hl 1 rfl) ?_
      refine lv_icmp_eq (tgt := 36) hx hb dX1_roundCount_20 (by decide) (fun c_6 => ?_) (fun c_6 => ?_)
      · have e_20 : (fun r => decide (mIt sy (wv kd fi se) ru (hsS tr on lt 6) (r + 1) = mIt sy (wv kd fi se) ru (hsS tr on lt 6) r)) i2 = true := decide_eq_true ((nI_eq (Nat.lt_trans (mIt_lt hM _ (i2 + 1)) (by decide)) (Nat.lt_trans (mIt_lt hM _ _) (by decide))).mp c_6)
        refine lv_iload_n hx hb dX1_roundCount_36 rfl (lv_at hl 0 rfl) ?_
        exact kret _ u5 _ _ _ _ (by rw [ff_at (by omega) e_20 hinv_i2]) hP hS dX1_roundCount_37
      · have e_20 : (fun r => decide (mIt sy (wv kd fi se) ru (hsS tr on lt 6) (r + 1) = mIt sy (wv kd fi se) ru (hsS tr on lt 6) r)) i2 = false := decide_eq_false (fun q => c_6 (congrArg nI q))
        refine lv_aload_n hx hb dX1_roundCount_23 rfl (lv_at hl 3 rfl) ?_
        refine lv_iload_n hx hb dX1_roundCount_24 rfl (lv_at hl 2 rfl) ?_
        refine lv_iload_n hx hb dX1_roundCount_25 rfl (lv_at hl 1 rfl) ?_
        refine muI_V (own := RX1) (As := [.int (nI (hsS tr on lt 6)), .int (nI (mIt sy (wv kd fi se) ru (hsS tr on lt 6) i2))]) (rest := []) (C := RX1) (ci := 1) (q0 := 0) (A1 := A) ⟨hx, hb, hml, hown, hts⟩ (c_X1_goOn l D bd cI cZ cJ th n kd fi se sd tr on sy lt ru lg u5 hM (hsS tr on lt 6) (mIt sy (wv kd fi se) ru (hsS tr on lt 6) i2) hh0 (mIt_lt hM _ _)) gX1_roundCount_X1_goOn rfl ⟨rfl, rfl⟩ 2 rfl (by decide +kernel) ⟨Nat.le_of_ble_eq_true rfl, Nat.le_of_ble_eq_true rfl⟩ hP hK hD (fun _ h9 => h9) rfl rfl rfl hS hl.1 rfl (Nat.le_of_ble_eq_true rfl) dX1_roundCount_26 ⟨Nat.zero_le _, Nat.zero_le _⟩ (fun u7 H locs hP hz1 hk1 hS => ?_)
        replace hP : va_P D vwCl (wM bd cI cZ cJ th n kd fi se sd tr on sy lt ru lg u7) H := hP
        replace hD : va_D A (wM bd cI cZ cJ th n kd fi se sd tr on sy lt ru lg u7) := sameD2 hD rfl
        refine tc_int (y := nI (mIt sy (wv kd fi se) ru (hsS tr on lt 6) (i2 + 1))) (rfl) ?_
        refine lv_istore_n (lv' := [(3, .int (nI (mIt sy (wv kd fi se) ru (hsS tr on lt 6) (i2 + 1)))), (1, .int (nI i2)), (2, .int (nI (hsS tr on lt 6))), (0, .ref (bd 0))]) hx hb dX1_roundCount_29 rfl hl (by decide) rfl (fun ls hl => ?_)
        refine lv_iinc (v := nI (i2 + 1)) (lv' := [(1, .int (nI (i2 + 1))), (3, .int (nI (mIt sy (wv kd fi se) ru (hsS tr on lt 6) (i2 + 1)))), (2, .int (nI (hsS tr on lt 6))), (0, .ref (bd 0))]) hx hb dX1_roundCount_30 hl (k := 1) rfl (iinc1 _) (by decide) rfl (fun ls hl => ?_)
        refine lv_goto (tgt := 13) hx hb dX1_roundCount_33 (by decide) ?_
        exact ih_i2 (i2 + 1) (by omega) u7 (lt_s hinv_i2 e_20) H locs ls hP hD hS (lv_sub hl [0, 1, 2, 3] rfl)
  exact key1 (12) 0 (by omega) rs lt_0 _ _ ls hP hD hS (lv_sub hl [2, 0, 1, 3] rfl)

def rm_X1_isYes : Room := { frames := 2, cells := 0, slots := 0, locals := 47 }
set_option maxHeartbeats 4000000 in
set_option maxRecDepth 100000 in
theorem c_X1_isYes (hM : OKM n kd fi se tr sy lt lg ru) (f v : Nat) (hf : f < n) (hv : v < 4096) : MuI l yX1_isYes wsX1_isYes rm_X1_isYes D vwCl (wM bd cI cZ cJ th n kd fi se sd tr on sy lt ru lg rs) (fun u => wM bd cI cZ cJ th n kd fi se sd tr on sy lt ru lg u) (tyC cI cZ cJ) [.ref (bd 0), .int (nI f), .int (nI v)] (bI (told (wv kd fi se f v) true)) := by
  refine MuI.of (cc := cX1_isYes) (maxL := 3) (by decide) rfl (Nat.le_of_ble_eq_true rfl) (bI_n _) ?_
  intro A p e s m args below meth c Q ls hx hb hml hown hts hP hK hD kret hl
  have hown : s.vm.findClass RX1 = some m.cls := hown
  have hl : lv_has ls 3 [(0, .ref (bd 0)), (1, .int (nI f)), (2, .int (nI v))] := hl
  have hS : va_S A s.heap s.heap [] := va_S.rf
  have hA : wv kd fi se f v < 4 := wv_lt hM.2.2.2.2.2.2 v f hf
  refine lv_aload_n hx hb dX1_isYes_0 rfl (lv_at hl 0 rfl) ?_
  refine lv_iload_n hx hb dX1_isYes_1 rfl (lv_at hl 1 rfl) ?_
  refine lv_iload_n hx hb dX1_isYes_2 rfl (lv_at hl 2 rfl) ?_
  refine muI_V (own := RX1) (As := [.int (nI f), .int (nI v)]) (rest := []) (C := RX1) (ci := 1) (q0 := 0) (A1 := A) ⟨hx, hb, hml, hown, hts⟩ (c_X1_worth l D bd cI cZ cJ th n kd fi se sd tr on sy lt ru lg rs hM f v (by omega) (by omega)) gX1_isYes_X1_worth rfl ⟨rfl, rfl⟩ 2 rfl (by decide +kernel) ⟨Nat.le_of_ble_eq_true rfl, Nat.le_of_ble_eq_true rfl⟩ hP hK hD (fun _ h9 => h9) rfl rfl rfl hS hl.1 rfl (Nat.le_of_ble_eq_true rfl) dX1_isYes_3 ⟨Nat.zero_le _, Nat.zero_le _⟩ (fun u1 H locs hP hz1 hk1 hS => ?_)
  replace hP : va_P D vwCl (wM bd cI cZ cJ th n kd fi se sd tr on sy lt ru lg u1) H := hP
  replace hD : va_D A (wM bd cI cZ cJ th n kd fi se sd tr on sy lt ru lg u1) := sameD2 hD rfl
  refine lv_iconst (v := nI 1) hx hb dX1_isYes_6 (by decide) ?_
  refine lv_iand hx hb dX1_isYes_7 ?_
  refine tc_int (y := nI (wv kd fi se f v % 2)) (told_1 hA) ?_
  refine lv_if_eq (tgt := 15) hx hb dX1_isYes_8 (by decide) (fun c_2 => ?_) (fun c_2 => ?_)
  · have e_8 := (told_t hA).mp c_2
    refine lv_iconst (v := nI 0) hx hb dX1_isYes_15 (by decide) ?_
    exact kret _ u1 _ _ _ _ (by rw [e_8]; rfl) hP hS dX1_isYes_16
  · have e_8 : told (wv kd fi se f v) true = true := ts_nf (fun q => c_2 ((told_t hA).mpr q))
    refine lv_iconst (v := nI 1) hx hb dX1_isYes_11 (by decide) ?_
    refine lv_goto (tgt := 16) hx hb dX1_isYes_12 (by decide) ?_
    exact kret _ u1 _ _ _ _ (by rw [e_8]; rfl) hP hS dX1_isYes_16

def rm_X1_firstAgainst : Room := { frames := 3, cells := 0, slots := 0, locals := 69 }
set_option maxHeartbeats 4000000 in
set_option maxRecDepth 100000 in
theorem c_X1_firstAgainst (hM : OKM n kd fi se tr sy lt lg ru) (a b : Nat) (ha : a < n) (hb9 : b < n) : MuI l yX1_firstAgainst wsX1_firstAgainst rm_X1_firstAgainst D vwCl (wM bd cI cZ cJ th n kd fi se sd tr on sy lt ru lg rs) (fun u => wM bd cI cZ cJ th n kd fi se sd tr on sy lt ru lg u) (tyC cI cZ cJ) [.ref (bd 0), .int (nI a), .int (nI b)] (rI (ffO (fun v => cnS lg v 6 && (told (wv kd fi se a v) true && !told (wv kd fi se b v) true)) 4096)) := by
  refine MuI.of (cc := cX1_firstAgainst) (maxL := 4) (by decide) rfl (Nat.le_of_ble_eq_true rfl) (vp_nar_int _) ?_
  intro A p e s m args below meth c Q ls hx hb hml hown hts hP hK hD kret hl
  have hown : s.vm.findClass RX1 = some m.cls := hown
  have hl : lv_has ls 4 [(0, .ref (bd 0)), (1, .int (nI a)), (2, .int (nI b))] := hl
  have hS : va_S A s.heap s.heap [] := va_S.rf
  refine lv_iconst (v := nI 0) hx hb dX1_firstAgainst_0 (by decide) ?_
  refine lv_istore_n (lv' := [(3, .int (nI 0)), (0, .ref (bd 0)), (1, .int (nI a)), (2, .int (nI b))]) hx hb dX1_firstAgainst_1 rfl hl (by decide) rfl (fun ls hl => ?_)
  have key1 : ∀ (d3 v2 : Nat), v2 + d3 = 4096 → ∀ (rs_v2 : Nat → Int32), (∀ j, j < v2 → (fun v => cnS lg v 6 && (told (wv kd fi se a v) true && !told (wv kd fi se b v) true)) j = false) → ∀ (H : Heap) (locs : List Loc) (ls : Array Slot), va_P D vwCl (wM bd cI cZ cJ th n kd fi se sd tr on sy lt ru lg rs_v2) H → va_D A (wM bd cI cZ cJ th n kd fi se sd tr on sy lt ru lg rs_v2) → va_S A s.heap H locs → lv_has ls 4 [(3, .int (nI v2)), (0, .ref (bd 0)), (1, .int (nI a)), (2, .int (nI b))] → W p l e rm_X1_firstAgainst s m args below meth c H locs 0 0 Q (F0 m 2 ls []) := by
    intro d3
    induction d3 with
    | zero =>
      intro v2 hi_v2 rs_v2 hinv_v2 H locs ls hP hD hS hl
      obtain rfl : v2 = 4096 := by omega
      refine lv_iload_n hx hb dX1_firstAgainst_2 rfl (lv_at hl 0 rfl) ?_
      refine lv_sipush (v := nI 4096) hx hb dX1_firstAgainst_3 (by decide) ?_
      refine cT_ge (tgt := 43) hx hb dX1_firstAgainst_6 (by decide) (nI_le (by omega) (by omega)) ?_
      refine lv_iconst (v := (-1)) hx hb dX1_firstAgainst_43 (by decide) ?_
      exact kret _ rs_v2 _ _ _ _ (by rw [ffO_none hinv_v2]; rfl) hP hS dX1_firstAgainst_44
    | succ d3 ih_v2 =>
      intro v2 hi_v2 rs_v2 hinv_v2 H locs ls hP hD hS hl
      refine lv_iload_n hx hb dX1_firstAgainst_2 rfl (lv_at hl 0 rfl) ?_
      refine lv_sipush (v := nI 4096) hx hb dX1_firstAgainst_3 (by decide) ?_
      refine cF_ge (tgt := 43) hx hb dX1_firstAgainst_6 (by decide) (nI_ge (by omega) (by omega)) ?_
      refine lv_aload_n hx hb dX1_firstAgainst_9 rfl (lv_at hl 1 rfl) ?_
      refine lv_iload_n hx hb dX1_firstAgainst_10 rfl (lv_at hl 0 rfl) ?_
      refine puI_V (own := RX1) (As := [.int (nI v2)]) (rest := []) (C := RX1) (ci := 1) (q0 := 0) ⟨hx, hb, hml, hown, hts⟩ (c_X1_counts l D bd cI cZ cJ th n kd fi se sd tr on sy lt ru lg rs_v2 hM v2 (by omega)) gX1_firstAgainst_X1_counts rfl ⟨rfl, rfl⟩ 1 rfl (by decide +kernel) ⟨Nat.le_of_ble_eq_true rfl, Nat.le_of_ble_eq_true rfl⟩ hP hK rfl rfl rfl hS hl.1 rfl (Nat.le_of_ble_eq_true rfl) dX1_firstAgainst_11 ⟨Nat.zero_le _, Nat.zero_le _⟩ (fun H locs hk1 hS => ?_)
      replace hP := keptP hP hk1
      refine lv_if_eq (tgt := 37) hx hb dX1_firstAgainst_14 (by decide) (fun c_4 => ?_) (fun c_4 => ?_)
      · have e_14 := bI_0 c_4
        refine lv_iinc (v := nI (v2 + 1)) (lv' := [(3, .int (nI (v2 + 1))), (0, .ref (bd 0)), (1, .int (nI a)), (2, .int (nI b))]) hx hb dX1_firstAgainst_37 hl (k := 0) rfl (iinc1 _) (by decide) rfl (fun ls hl => ?_)
        refine lv_goto (tgt := 2) hx hb dX1_firstAgainst_40 (by decide) ?_
        exact ih_v2 (v2 + 1) (by omega) rs_v2 (lt_s hinv_v2 (by show (cnS lg v2 6 && (told (wv kd fi se a v2) true && !told (wv kd fi se b v2) true)) = _; simp [e_14])) H locs ls hP hD hS (lv_sub hl [0, 1, 2, 3] rfl)
      · have e_14 := bI_1 c_4
        refine lv_aload_n hx hb dX1_firstAgainst_17 rfl (lv_at hl 1 rfl) ?_
        refine lv_iload_n hx hb dX1_firstAgainst_18 rfl (lv_at hl 2 rfl) ?_
        refine lv_iload_n hx hb dX1_firstAgainst_19 rfl (lv_at hl 0 rfl) ?_
        refine muI_V (own := RX1) (As := [.int (nI a), .int (nI v2)]) (rest := []) (C := RX1) (ci := 1) (q0 := 0) (A1 := A) ⟨hx, hb, hml, hown, hts⟩ (c_X1_isYes l D bd cI cZ cJ th n kd fi se sd tr on sy lt ru lg rs_v2 hM a v2 (by omega) (by omega)) gX1_firstAgainst_X1_isYes rfl ⟨rfl, rfl⟩ 2 rfl (by decide +kernel) ⟨Nat.le_of_ble_eq_true rfl, Nat.le_of_ble_eq_true rfl⟩ hP hK hD (fun _ h9 => h9) rfl rfl rfl hS hl.1 rfl (Nat.le_of_ble_eq_true rfl) dX1_firstAgainst_20 ⟨Nat.zero_le _, Nat.zero_le _⟩ (fun u5 H locs hP hz1 hk1 hS => ?_)
        replace hP : va_P D vwCl (wM bd cI cZ cJ th n kd fi se sd tr on sy lt ru lg u5) H := hP
        replace hD : va_D A (wM bd cI cZ cJ th n kd fi se sd tr on sy lt ru lg u5) := sameD2 hD rfl
        refine lv_if_eq (tgt := 37) hx hb dX1_firstAgainst_23 (by decide) (fun c_6 => ?_) (fun c_6 => ?_)
        · have e_23 := bI_0 c_6
          refine lv_iinc (v := nI (v2 + 1)) (lv' := [(3, .int (nI (v2 + 1))), (0, .ref (bd 0)), (1, .int (nI a)), (2, .int (nI b))]) hx hb dX1_firstAgainst_37 hl (k := 0) rfl (iinc1 _) (by decide) rfl (fun ls hl => ?_)
          refine lv_goto (tgt := 2) hx hb dX1_firstAgainst_40 (by decide) ?_
          exact ih_v2 (v2 + 1) (by omega) u5 (lt_s hinv_v2 (by show (cnS lg v2 6 && (told (wv kd fi se a v2) true && !told (wv kd fi se b v2) true)) = _; simp [e_14, e_23])) H locs ls hP hD hS (lv_sub hl [0, 1, 2, 3] rfl)
        · have e_23 := bI_1 c_6
          refine lv_aload_n hx hb dX1_firstAgainst_26 rfl (lv_at hl 1 rfl) ?_
          refine lv_iload_n hx hb dX1_firstAgainst_27 rfl (lv_at hl 3 rfl) ?_
          refine lv_iload_n hx hb dX1_firstAgainst_28 rfl (lv_at hl 0 rfl) ?_
          refine muI_V (own := RX1) (As := [.int (nI b), .int (nI v2)]) (rest := []) (C := RX1) (ci := 1) (q0 := 0) (A1 := A) ⟨hx, hb, hml, hown, hts⟩ (c_X1_isYes l D bd cI cZ cJ th n kd fi se sd tr on sy lt ru lg u5 hM b v2 (by omega) (by omega)) gX1_firstAgainst_X1_isYes rfl ⟨rfl, rfl⟩ 2 rfl (by decide +kernel) ⟨Nat.le_of_ble_eq_true rfl, Nat.le_of_ble_eq_true rfl⟩ hP hK hD (fun _ h9 => h9) rfl rfl rfl hS hl.1 rfl (Nat.le_of_ble_eq_true rfl) dX1_firstAgainst_29 ⟨Nat.zero_le _, Nat.zero_le _⟩ (fun u7 H locs hP hz1 hk1 hS => ?_)
          replace hP : va_P D vwCl (wM bd cI cZ cJ th n kd fi se sd tr on sy lt ru lg u7) H := hP
          replace hD : va_D A (wM bd cI cZ cJ th n kd fi se sd tr on sy lt ru lg u7) := sameD2 hD rfl
          refine lv_if_ne (tgt := 37) hx hb dX1_firstAgainst_32 (by decide) (fun c_8 => ?_) (fun c_8 => ?_)
          · have e_32 := bI_1 c_8
            refine lv_iinc (v := nI (v2 + 1)) (lv' := [(3, .int (nI (v2 + 1))), (0, .ref (bd 0)), (1, .int (nI a)), (2, .int (nI b))]) hx hb dX1_firstAgainst_37 hl (k := 0) rfl (iinc1 _) (by decide) rfl (fun ls hl => ?_)
            refine lv_goto (tgt := 2) hx hb dX1_firstAgainst_40 (by decide) ?_
            exact ih_v2 (v2 + 1) (by omega) u7 (lt_s hinv_v2 (by show (cnS lg v2 6 && (told (wv kd fi se a v2) true && !told (wv kd fi se b v2) true)) = _; simp [e_14, e_23, e_32])) H locs ls hP hD hS (lv_sub hl [0, 1, 2, 3] rfl)
          · have e_32 := bI_0 c_8
            refine lv_iload_n hx hb dX1_firstAgainst_35 rfl (lv_at hl 0 rfl) ?_
            exact kret _ u7 _ _ _ _ (by rw [ffO_at (p := (fun v => cnS lg v 6 && (told (wv kd fi se a v) true && !told (wv kd fi se b v) true))) (i := v2) (by omega) (by show (cnS lg v2 6 && (told (wv kd fi se a v2) true && !told (wv kd fi se b v2) true)) = _; simp [e_14, e_23, e_32]) hinv_v2]; rfl) hP hS dX1_firstAgainst_36
  exact key1 (4096) 0 (by omega) rs lt_0 _ _ ls hP hD hS (lv_sub hl [0, 1, 2, 3] rfl)

theorem hin_X1_create : ∀ w ∈ wsX10, w ∈ wsX1_create := by first | exact fun _ h => List.mem_cons_of_mem _ (List.mem_append_right _ h) | exact fun _ h => List.mem_cons_of_mem _ (List.mem_append_left _ (List.mem_append_right _ h)) | exact fun _ h => List.mem_cons_of_mem _ (List.mem_append_left _ (List.mem_append_left _ (List.mem_append_right _ h))) | exact fun _ h => List.mem_cons_of_mem _ (List.mem_append_left _ (List.mem_append_left _ (List.mem_append_left _ (List.mem_append_right _ h)))) | decide +kernel
def rm_X1_create : Room := { frames := 1, cells := 0, slots := 0, locals := 21 }
set_option maxHeartbeats 4000000 in
set_option maxRecDepth 100000 in
theorem c_X1_create (k x y : Nat) (b : Bool) (hn40 : n < 40) : MuI l yX1_create wsX1_create rm_X1_create D vwCl (wM bd cI cZ cJ th n kd fi se sd tr on sy lt ru lg rs) (fun u => wM bd cI cZ cJ th (n + 1) (va_up kd n k) (va_up fi n x) (va_up se n y) (va_up sd n b) tr on sy lt ru lg u) (tyC cI cZ cJ) [.ref (bd 0), .int (nI k), .int (nI x), .int (nI y), .int (bI b)] (nI n) := by
  refine MuI.of (cc := cX1_create) (maxL := 5) (by decide) rfl (Nat.le_of_ble_eq_true rfl) (vp_nar_int _) ?_
  intro A p e s m args below meth c Q ls hx hb hml hown hts hP hK hD kret hl
  have hown : s.vm.findClass RX1 = some m.cls := hown
  have hl : lv_has ls 5 [(0, .ref (bd 0)), (1, .int (nI k)), (2, .int (nI x)), (3, .int (nI y)), (4, .int (bI b))] := hl
  have hS : va_S A s.heap s.heap [] := va_S.rf
  have hin0 : ∀ w ∈ u_ws RX1 TX1 13, w ∈ wsX1_create := hin_X1_create
  refine lv_aload_n hx hb dX1_create_0 rfl (lv_at hl 0 rfl) ?_
  refine va_get (D := D) (ci := 1) (v := .int (nI n)) (C := RX1) (T := TX1) (N := 13) hx hb hts hin0 hown hK hP 0 rfl rfl 1 (by decide) (hts (.fieldLink RX1 48 "RumourReasonerModel" "formulas" "I") (by decide +kernel)) (fun _ h9 => h9) rfl dX1_create_1 ?_
  refine lv_bipush (v := nI 40) hx hb dX1_create_4 (by decide) ?_
  refine cT_ne (tgt := 28) hx hb dX1_create_6 (by decide) (fun q => absurd ((nI_eq (by omega) (by decide)).mp q) (by omega)) ?_
  refine lv_aload_n hx hb dX1_create_28 rfl (lv_at hl 0 rfl) ?_
  refine va_get (D := D) (ci := 1) (v := .ref (bd 1)) (C := RX1) (T := TX1) (N := 13) hx hb hts hin0 hown hK hP 0 rfl rfl 2 (by decide) (hts (.fieldLink RX1 9 "RumourReasonerModel" "kinds" "[I") (by decide +kernel)) (fun _ h9 => h9) rfl dX1_create_29 ?_
  refine lv_aload_n hx hb dX1_create_32 rfl (lv_at hl 0 rfl) ?_
  refine va_get (D := D) (ci := 1) (v := .int (nI n)) (C := RX1) (T := TX1) (N := 13) hx hb hts hin0 hown hK hP 0 rfl rfl 1 (by decide) (hts (.fieldLink RX1 48 "RumourReasonerModel" "formulas" "I") (by decide +kernel)) (fun _ h9 => h9) rfl dX1_create_33 ?_
  refine lv_iload_n hx hb dX1_create_36 rfl (lv_at hl 1 rfl) ?_
  refine st_ni hx hb hK hP hD hS 1 0 rfl rfl (j := n) (by omega) (by decide) dX1_create_37 (fun H locs hP hD hS => ?_)
  replace hP : va_P D vwCl (wM bd cI cZ cJ th n (va_up kd n k) fi se sd tr on sy lt ru lg rs) H := by rw [upN] at hP; exact hP
  replace hD : va_D A (wM bd cI cZ cJ th n (va_up kd n k) fi se sd tr on sy lt ru lg rs) := sameD2 hD rfl
  refine lv_aload_n hx hb dX1_create_38 rfl (lv_at hl 0 rfl) ?_
  refine va_get (D := D) (ci := 1) (v := .ref (bd 2)) (C := RX1) (T := TX1) (N := 13) hx hb hts hin0 hown hK hP 0 rfl rfl 3 (by decide) (hts (.fieldLink RX1 13 "RumourReasonerModel" "firsts" "[I") (by decide +kernel)) (fun _ h9 => h9) rfl dX1_create_39 ?_
  refine lv_aload_n hx hb dX1_create_42 rfl (lv_at hl 0 rfl) ?_
  refine va_get (D := D) (ci := 1) (v := .int (nI n)) (C := RX1) (T := TX1) (N := 13) hx hb hts hin0 hown hK hP 0 rfl rfl 1 (by decide) (hts (.fieldLink RX1 48 "RumourReasonerModel" "formulas" "I") (by decide +kernel)) (fun _ h9 => h9) rfl dX1_create_43 ?_
  refine lv_iload_n hx hb dX1_create_46 rfl (lv_at hl 2 rfl) ?_
  refine st_ni hx hb hK hP hD hS 2 0 rfl rfl (j := n) (by omega) (by decide) dX1_create_47 (fun H locs hP hD hS => ?_)
  replace hP : va_P D vwCl (wM bd cI cZ cJ th n (va_up kd n k) (va_up fi n x) se sd tr on sy lt ru lg rs) H := by rw [upN] at hP; exact hP
  replace hD : va_D A (wM bd cI cZ cJ th n (va_up kd n k) (va_up fi n x) se sd tr on sy lt ru lg rs) := sameD2 hD rfl
  refine lv_aload_n hx hb dX1_create_48 rfl (lv_at hl 0 rfl) ?_
  refine va_get (D := D) (ci := 1) (v := .ref (bd 3)) (C := RX1) (T := TX1) (N := 13) hx hb hts hin0 hown hK hP 0 rfl rfl 4 (by decide) (hts (.fieldLink RX1 16 "RumourReasonerModel" "seconds" "[I") (by decide +kernel)) (fun _ h9 => h9) rfl dX1_create_49 ?_
  refine lv_aload_n hx hb dX1_create_52 rfl (lv_at hl 0 rfl) ?_
  refine va_get (D := D) (ci := 1) (v := .int (nI n)) (C := RX1) (T := TX1) (N := 13) hx hb hts hin0 hown hK hP 0 rfl rfl 1 (by decide) (hts (.fieldLink RX1 48 "RumourReasonerModel" "formulas" "I") (by decide +kernel)) (fun _ h9 => h9) rfl dX1_create_53 ?_
  refine lv_iload_n hx hb dX1_create_56 rfl (lv_at hl 3 rfl) ?_
  refine st_ni hx hb hK hP hD hS 3 0 rfl rfl (j := n) (by omega) (by decide) dX1_create_57 (fun H locs hP hD hS => ?_)
  replace hP : va_P D vwCl (wM bd cI cZ cJ th n (va_up kd n k) (va_up fi n x) (va_up se n y) sd tr on sy lt ru lg rs) H := by rw [upN] at hP; exact hP
  replace hD : va_D A (wM bd cI cZ cJ th n (va_up kd n k) (va_up fi n x) (va_up se n y) sd tr on sy lt ru lg rs) := sameD2 hD rfl
  refine lv_aload_n hx hb dX1_create_58 rfl (lv_at hl 0 rfl) ?_
  refine va_get (D := D) (ci := 1) (v := .ref (bd 4)) (C := RX1) (T := TX1) (N := 13) hx hb hts hin0 hown hK hP 0 rfl rfl 5 (by decide) (hts (.fieldLink RX1 19 "RumourReasonerModel" "areSteady" "[Z") (by decide +kernel)) (fun _ h9 => h9) rfl dX1_create_59 ?_
  refine lv_aload_n hx hb dX1_create_62 rfl (lv_at hl 0 rfl) ?_
  refine va_get (D := D) (ci := 1) (v := .int (nI n)) (C := RX1) (T := TX1) (N := 13) hx hb hts hin0 hown hK hP 0 rfl rfl 1 (by decide) (hts (.fieldLink RX1 48 "RumourReasonerModel" "formulas" "I") (by decide +kernel)) (fun _ h9 => h9) rfl dX1_create_63 ?_
  refine lv_iload hx hb dX1_create_66 (lv_at hl 4 rfl) ?_
  refine st_nz hx hb hK hP hD hS 4 1 rfl rfl (j := n) (by omega) (by decide) dX1_create_68 (fun H locs hP hD hS => ?_)
  replace hP : va_P D vwCl (wM bd cI cZ cJ th n (va_up kd n k) (va_up fi n x) (va_up se n y) (va_up sd n b) tr on sy lt ru lg rs) H := by rw [bI_nar, upB] at hP; exact hP
  replace hD : va_D A (wM bd cI cZ cJ th n (va_up kd n k) (va_up fi n x) (va_up se n y) (va_up sd n b) tr on sy lt ru lg rs) := sameD2 hD rfl
  refine lv_aload_n hx hb dX1_create_69 rfl (lv_at hl 0 rfl) ?_
  refine lv_dup hx hb dX1_create_70 rfl ?_
  refine va_get (D := D) (ci := 1) (v := .int (nI n)) (C := RX1) (T := TX1) (N := 13) hx hb hts hin0 hown hK hP 0 rfl rfl 1 (by decide) (hts (.fieldLink RX1 48 "RumourReasonerModel" "formulas" "I") (by decide +kernel)) (fun _ h9 => h9) rfl dX1_create_71 ?_
  refine lv_iconst (v := nI 1) hx hb dX1_create_74 (by decide) ?_
  refine lv_iadd hx hb dX1_create_75 ?_
  refine tc_int (y := nI (n + 1)) (nI_add _ _) ?_
  refine va_put (D := D) (ci := 1) (v := .int (nI (n + 1))) (ty := .int) (C := RX1) (T := TX1) (N := 13) hx hb hts hin0 tyX1 tyX1_ok nmX1 hown hK hP hD hS 0 rfl rfl 1 (by decide) (hts (.fieldLink RX1 48 "RumourReasonerModel" "formulas" "I") (by decide +kernel)) (fun _ h9 => h9) rfl (by decide +kernel) rfl rfl (Nat.le_of_ble_eq_true rfl) dX1_create_76 (fun H locs hP hD hS => ?_)
  have hP : va_P D vwCl (wM bd cI cZ cJ th ((n + 1)) (va_up kd n k) (va_up fi n x) (va_up se n y) (va_up sd n b) tr on sy lt ru lg rs) H := hP
  have hD : va_D A (wM bd cI cZ cJ th ((n + 1)) (va_up kd n k) (va_up fi n x) (va_up se n y) (va_up sd n b) tr on sy lt ru lg rs) := hD
  refine lv_aload_n hx hb dX1_create_79 rfl (lv_at hl 0 rfl) ?_
  refine va_get (D := D) (ci := 1) (v := .int (nI (n + 1))) (C := RX1) (T := TX1) (N := 13) hx hb hts hin0 hown hK hP 0 rfl rfl 1 (by decide) (hts (.fieldLink RX1 48 "RumourReasonerModel" "formulas" "I") (by decide +kernel)) (fun _ h9 => h9) rfl dX1_create_80 ?_
  refine lv_iconst (v := nI 1) hx hb dX1_create_83 (by decide) ?_
  refine lv_isub hx hb dX1_create_84 ?_
  refine tc_int (y := nI n) (nI_pred n) ?_
  exact kret _ rs _ _ _ _ (rfl) hP hS dX1_create_85

set_option maxHeartbeats 4000000 in
set_option maxRecDepth 100000 in
theorem d_X1_create (k x y : Nat) (b : Bool) (t9 : Nat) (hn40 : n = 40) (hk9 : k < 9) (ht9 : t9 = if k < 2 then 2 else 3) : MuI l yX1_create wsX1_create rm_X1_create D vwCl (wM bd cI cZ cJ th n kd fi se sd tr on sy lt ru lg rs) (fun u => wM bd cI cZ cJ (nI t9) n kd fi se sd tr on sy lt ru lg u) (tyC cI cZ cJ) [.ref (bd 0), .int (nI k), .int (nI x), .int (nI y), .int (bI b)] (nI 0) := by
  refine MuI.of (cc := cX1_create) (maxL := 5) (by decide) rfl (Nat.le_of_ble_eq_true rfl) (vp_nar_int _) ?_
  intro A p e s m args below meth c Q ls hx hb hml hown hts hP hK hD kret hl
  have hown : s.vm.findClass RX1 = some m.cls := hown
  have hl : lv_has ls 5 [(0, .ref (bd 0)), (1, .int (nI k)), (2, .int (nI x)), (3, .int (nI y)), (4, .int (bI b))] := hl
  have hS : va_S A s.heap s.heap [] := va_S.rf
  have hin0 : ∀ w ∈ u_ws RX1 TX1 13, w ∈ wsX1_create := hin_X1_create
  refine lv_aload_n hx hb dX1_create_0 rfl (lv_at hl 0 rfl) ?_
  refine va_get (D := D) (ci := 1) (v := .int (nI n)) (C := RX1) (T := TX1) (N := 13) hx hb hts hin0 hown hK hP 0 rfl rfl 1 (by decide) (hts (.fieldLink RX1 48 "RumourReasonerModel" "formulas" "I") (by decide +kernel)) (fun _ h9 => h9) rfl dX1_create_1 ?_
  refine lv_bipush (v := nI 40) hx hb dX1_create_4 (by decide) ?_
  refine cF_ne (tgt := 28) hx hb dX1_create_6 (by decide) (by rw [hn40]) ?_
  refine lv_aload_n hx hb dX1_create_9 rfl (lv_at hl 0 rfl) ?_
  refine lv_iload_n hx hb dX1_create_10 rfl (lv_at hl 1 rfl) ?_
  refine lv_if_eq (tgt := 19) hx hb dX1_create_11 (by decide) (fun c_1 => ?_) (fun c_1 => ?_)
  · have e_11 : k = 0 := (nz (by omega)).mp c_1
    refine lv_iconst (v := nI 2) hx hb dX1_create_19 (by decide) ?_
    refine tc_int (y := nI t9) (by rw [ht9, if_pos (by omega)]) ?_
    refine lv_goto (tgt := 24) hx hb dX1_create_20 (by decide) ?_
    refine muI_V (own := RX1) (As := [.int (nI t9)]) (rest := []) (C := RX1) (ci := 1) (q0 := 0) (A1 := A) ⟨hx, hb, hml, hown, hts⟩ (c_X1_no l D bd cI cZ cJ th n kd fi se sd tr on sy lt ru lg rs t9) gX1_create_X1_no rfl ⟨rfl, rfl⟩ 1 rfl (by decide +kernel) ⟨Nat.le_of_ble_eq_true rfl, Nat.le_of_ble_eq_true rfl⟩ hP hK hD (fun _ h9 => h9) rfl rfl rfl hS hl.1 rfl (Nat.le_of_ble_eq_true rfl) dX1_create_24 ⟨Nat.zero_le _, Nat.zero_le _⟩ (fun u2 H locs hP hz1 hk1 hS => ?_)
    replace hP : va_P D vwCl (wM bd cI cZ cJ (nI t9) n kd fi se sd tr on sy lt ru lg u2) H := hP
    replace hD : va_D A (wM bd cI cZ cJ (nI t9) n kd fi se sd tr on sy lt ru lg u2) := sameD2 hD rfl
    exact kret _ u2 _ _ _ _ (rfl) hP hS dX1_create_27
  · have e_11 : ¬ k = 0 := fun q => c_1 (by rw [q]; rfl)
    refine lv_iload_n hx hb dX1_create_14 rfl (lv_at hl 1 rfl) ?_
    refine lv_iconst (v := nI 1) hx hb dX1_create_15 (by decide) ?_
    refine lv_icmp_ne (tgt := 23) hx hb dX1_create_16 (by decide) (fun c_3 => ?_) (fun c_3 => ?_)
    · have e_16 : ¬ k = 1 := fun q => c_3 (by rw [q])
      refine lv_iconst (v := nI 3) hx hb dX1_create_23 (by decide) ?_
      refine tc_int (y := nI t9) (by rw [ht9, if_neg (by omega)]) ?_
      refine muI_V (own := RX1) (As := [.int (nI t9)]) (rest := []) (C := RX1) (ci := 1) (q0 := 0) (A1 := A) ⟨hx, hb, hml, hown, hts⟩ (c_X1_no l D bd cI cZ cJ th n kd fi se sd tr on sy lt ru lg rs t9) gX1_create_X1_no rfl ⟨rfl, rfl⟩ 1 rfl (by decide +kernel) ⟨Nat.le_of_ble_eq_true rfl, Nat.le_of_ble_eq_true rfl⟩ hP hK hD (fun _ h9 => h9) rfl rfl rfl hS hl.1 rfl (Nat.le_of_ble_eq_true rfl) dX1_create_24 ⟨Nat.zero_le _, Nat.zero_le _⟩ (fun u4 H locs hP hz1 hk1 hS => ?_)
      replace hP : va_P D vwCl (wM bd cI cZ cJ (nI t9) n kd fi se sd tr on sy lt ru lg u4) H := hP
      replace hD : va_D A (wM bd cI cZ cJ (nI t9) n kd fi se sd tr on sy lt ru lg u4) := sameD2 hD rfl
      exact kret _ u4 _ _ _ _ (rfl) hP hS dX1_create_27
    · have e_16 : k = 1 := (nI_eq (by omega) (by decide)).mp c_3
      refine lv_iconst (v := nI 2) hx hb dX1_create_19 (by decide) ?_
      refine tc_int (y := nI t9) (by rw [ht9, if_pos (by omega)]) ?_
      refine lv_goto (tgt := 24) hx hb dX1_create_20 (by decide) ?_
      refine muI_V (own := RX1) (As := [.int (nI t9)]) (rest := []) (C := RX1) (ci := 1) (q0 := 0) (A1 := A) ⟨hx, hb, hml, hown, hts⟩ (c_X1_no l D bd cI cZ cJ th n kd fi se sd tr on sy lt ru lg rs t9) gX1_create_X1_no rfl ⟨rfl, rfl⟩ 1 rfl (by decide +kernel) ⟨Nat.le_of_ble_eq_true rfl, Nat.le_of_ble_eq_true rfl⟩ hP hK hD (fun _ h9 => h9) rfl rfl rfl hS hl.1 rfl (Nat.le_of_ble_eq_true rfl) dX1_create_24 ⟨Nat.zero_le _, Nat.zero_le _⟩ (fun u5 H locs hP hz1 hk1 hS => ?_)
      replace hP : va_P D vwCl (wM bd cI cZ cJ (nI t9) n kd fi se sd tr on sy lt ru lg u5) H := hP
      replace hD : va_D A (wM bd cI cZ cJ (nI t9) n kd fi se sd tr on sy lt ru lg u5) := sameD2 hD rfl
      exact kret _ u5 _ _ _ _ (rfl) hP hS dX1_create_27

end
