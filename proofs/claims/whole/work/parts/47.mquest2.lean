section
variable (l : Launch) (D : va_G) (bd : Nat → Nat) (cI cZ cJ : ClassId) (th : Int32) (n : Nat) (kd fi se : Nat → Nat) (sd : Nat → Bool) (tr : Nat → Nat) (on : Nat → Bool) (sy : Nat → Nat) (lt : Nat) (ru : Nat → Option Nat) (lg : Nat) (rs : Nat → Int32)
theorem hin_X1_since : ∀ w ∈ wsX10, w ∈ wsX1_since := by first | exact fun _ h => List.mem_cons_of_mem _ (List.mem_append_right _ h) | exact fun _ h => List.mem_cons_of_mem _ (List.mem_append_left _ (List.mem_append_right _ h)) | exact fun _ h => List.mem_cons_of_mem _ (List.mem_append_left _ (List.mem_append_left _ (List.mem_append_right _ h))) | exact fun _ h => List.mem_cons_of_mem _ (List.mem_append_left _ (List.mem_append_left _ (List.mem_append_left _ (List.mem_append_right _ h)))) | decide +kernel
def rm_X1_since : Room := { frames := 4, cells := 0, slots := 0, locals := 94 }
set_option maxHeartbeats 4000000 in
set_option maxRecDepth 100000 in
theorem c_X1_since (hM : OKM n kd fi se tr sy lt lg ru) (hF : ∀ h, h < 64 → mIt sy (wv kd fi se) ru h 13 = mIt sy (wv kd fi se) ru h 12) (a : Nat) (b : Bool) (ha : a < 6) : MuI l yX1_since wsX1_since rm_X1_since D vwCl (wM bd cI cZ cJ th n kd fi se sd tr on sy lt ru lg rs) (fun u => wM bd cI cZ cJ (nI 0) n kd fi se sd tr on sy lt ru lg u) (tyC cI cZ cJ) [.ref (bd 0), .int (nI a), .int (bI b)] (rI (ffO (fun r => told (dg (mIt sy (wv kd fi se) ru (hsS tr on lt 6) r) a) b) (fa_first (fun r => decide (mIt sy (wv kd fi se) ru (hsS tr on lt 6) (r + 1) = mIt sy (wv kd fi se) ru (hsS tr on lt 6) r)) 12 + 1))) := by
  refine MuI.of (cc := cX1_since) (maxL := 7) (by decide) rfl (Nat.le_of_ble_eq_true rfl) (vp_nar_int _) ?_
  intro A p e s m args below meth c Q ls hx hb hml hown hts hP hK hD kret hl
  have hown : s.vm.findClass RX1 = some m.cls := hown
  have hl : lv_has ls 7 [(0, .ref (bd 0)), (1, .int (nI a)), (2, .int (bI b))] := hl
  have hS : va_S A s.heap s.heap [] := va_S.rf
  have hin0 : ∀ w ∈ u_ws RX1 TX1 13, w ∈ wsX1_since := hin_X1_since
  have hh0 : hsS tr on lt 6 < 64 := hsS_lt tr on lt 6 (Nat.le_refl 6)
  obtain ⟨RD, hRD⟩ : ∃ z, z = fa_first (fun r => decide (mIt sy (wv kd fi se) ru (hsS tr on lt 6) (r + 1) = mIt sy (wv kd fi se) ru (hsS tr on lt 6) r)) 12 := ⟨_, rfl⟩
  have hRD12 : RD ≤ 12 := by rw [hRD]; exact fa_first_le _ 12
  rw [← hRD] at kret
  refine lv_aload_n hx hb dX1_since_0 rfl (lv_at hl 0 rfl) ?_
  refine lv_iconst (v := nI 0) hx hb dX1_since_1 (by decide) ?_
  refine va_put (D := D) (ci := 1) (v := .int (nI 0)) (ty := .int) (C := RX1) (T := TX1) (N := 13) hx hb hts hin0 tyX1 tyX1_ok nmX1 hown hK hP hD hS 0 rfl rfl 0 (by decide) (hts (.fieldLink RX1 45 "RumourReasonerModel" "thrown" "I") (by decide +kernel)) (fun _ h9 => h9) rfl (by decide +kernel) rfl rfl (Nat.le_of_ble_eq_true rfl) dX1_since_2 (fun H locs hP hD hS => ?_)
  have hP : va_P D vwCl (wM bd cI cZ cJ (nI 0) n kd fi se sd tr on sy lt ru lg rs) H := hP
  have hD : va_D A (wM bd cI cZ cJ (nI 0) n kd fi se sd tr on sy lt ru lg rs) := hD
  refine lv_iload_n hx hb dX1_since_5 rfl (lv_at hl 1 rfl) ?_
  refine puI_S (own := RX1) (As := [.int (nI a)]) (rest := []) ⟨hx, hb, hml, hown, hts⟩ (c_X1_isAtom l D (nI a)) gX1_since_X1_isAtom rfl ⟨rfl, rfl⟩ 1 rfl (by decide +kernel) ⟨Nat.le_of_ble_eq_true rfl, Nat.le_of_ble_eq_true rfl⟩ nilP (hK.sub (tys' := []) [] rfl) hS hl.1 rfl (Nat.le_of_ble_eq_true rfl) dX1_since_6 ⟨Nat.zero_le _, Nat.zero_le _⟩ (fun H locs hk1 hS => ?_)
  replace hP := keptP hP hk1
  refine tc_int (y := bI true) (by rw [inB_t (by omega) (by omega) (by decide)]) ?_
  refine zT_ne (tgt := 18) hx hb dX1_since_9 (by decide) (by decide) ?_
  refine lv_aload_n hx hb dX1_since_18 rfl (lv_at hl 0 rfl) ?_
  refine puI_V (own := RX1) (As := []) (rest := []) (C := RX1) (ci := 1) (q0 := 0) ⟨hx, hb, hml, hown, hts⟩ (c_X1_heardSet l D bd cI cZ cJ (nI 0) n kd fi se sd tr on sy lt ru lg rs hM) gX1_since_X1_heardSet rfl ⟨rfl, rfl⟩ 0 rfl (by decide +kernel) ⟨Nat.le_of_ble_eq_true rfl, Nat.le_of_ble_eq_true rfl⟩ hP hK rfl rfl rfl hS hl.1 rfl (Nat.le_of_ble_eq_true rfl) dX1_since_19 ⟨Nat.zero_le _, Nat.zero_le _⟩ (fun H locs hk1 hS => ?_)
  replace hP := keptP hP hk1
  refine lv_istore_n (lv' := [(3, .int (nI (hsS tr on lt 6))), (0, .ref (bd 0)), (1, .int (nI a)), (2, .int (bI b))]) hx hb dX1_since_22 rfl hl (by decide) rfl (fun ls hl => ?_)
  refine lv_aload_n hx hb dX1_since_23 rfl (lv_at hl 1 rfl) ?_
  refine lv_iload_n hx hb dX1_since_24 rfl (lv_at hl 0 rfl) ?_
  refine puI_V (own := RX1) (As := [.int (nI (hsS tr on lt 6))]) (rest := []) (C := RX1) (ci := 1) (q0 := 0) ⟨hx, hb, hml, hown, hts⟩ (c_X1_begin l D bd cI cZ cJ (nI 0) n kd fi se sd tr on sy lt ru lg rs hM (hsS tr on lt 6) hh0) gX1_since_X1_begin rfl ⟨rfl, rfl⟩ 1 rfl (by decide +kernel) ⟨Nat.le_of_ble_eq_true rfl, Nat.le_of_ble_eq_true rfl⟩ hP hK rfl rfl rfl hS hl.1 rfl (Nat.le_of_ble_eq_true rfl) dX1_since_25 ⟨Nat.zero_le _, Nat.zero_le _⟩ (fun H locs hk1 hS => ?_)
  replace hP := keptP hP hk1
  refine lv_istore (lv' := [(4, .int (nI (mIt sy (wv kd fi se) ru (hsS tr on lt 6) 0))), (3, .int (nI (hsS tr on lt 6))), (0, .ref (bd 0)), (1, .int (nI a)), (2, .int (bI b))]) hx hb dX1_since_28 hl (by decide) rfl (fun ls hl => ?_)
  refine lv_aload_n hx hb dX1_since_30 rfl (lv_at hl 2 rfl) ?_
  refine muI_V (own := RX1) (As := []) (rest := []) (C := RX1) (ci := 1) (q0 := 0) (A1 := A) ⟨hx, hb, hml, hown, hts⟩ (c_X1_roundCount l D bd cI cZ cJ (nI 0) n kd fi se sd tr on sy lt ru lg rs hM hF) gX1_since_X1_roundCount rfl ⟨rfl, rfl⟩ 0 rfl (by decide +kernel) ⟨Nat.le_of_ble_eq_true rfl, Nat.le_of_ble_eq_true rfl⟩ hP hK hD (fun _ h9 => h9) rfl rfl rfl hS hl.1 rfl (Nat.le_of_ble_eq_true rfl) dX1_since_31 ⟨Nat.zero_le _, Nat.zero_le _⟩ (fun u1 H locs hP hz1 hk1 hS => ?_)
  replace hP : va_P D vwCl (wM bd cI cZ cJ (nI 0) n kd fi se sd tr on sy lt ru lg u1) H := hP
  replace hD : va_D A (wM bd cI cZ cJ (nI 0) n kd fi se sd tr on sy lt ru lg u1) := sameD2 hD rfl
  refine tc_int (y := nI RD) (by rw [hRD]) ?_
  refine lv_istore (lv' := [(5, .int (nI RD)), (4, .int (nI (mIt sy (wv kd fi se) ru (hsS tr on lt 6) 0))), (3, .int (nI (hsS tr on lt 6))), (0, .ref (bd 0)), (1, .int (nI a)), (2, .int (bI b))]) hx hb dX1_since_34 hl (by decide) rfl (fun ls hl => ?_)
  refine lv_iconst (v := nI 0) hx hb dX1_since_36 (by decide) ?_
  refine lv_istore (lv' := [(6, .int (nI 0)), (5, .int (nI RD)), (4, .int (nI (mIt sy (wv kd fi se) ru (hsS tr on lt 6) 0))), (3, .int (nI (hsS tr on lt 6))), (0, .ref (bd 0)), (1, .int (nI a)), (2, .int (bI b))]) hx hb dX1_since_37 hl (by decide) rfl (fun ls hl => ?_)
  have key2 : ∀ (d4 i3 : Nat), i3 + d4 = RD + 1 → ∀ (rs_i3 : Nat → Int32), (∀ j, j < i3 → (fun r => told (dg (mIt sy (wv kd fi se) ru (hsS tr on lt 6) r) a) b) j = false) → ∀ (H : Heap) (locs : List Loc) (ls : Array Slot), va_P D vwCl (wM bd cI cZ cJ (nI 0) n kd fi se sd tr on sy lt ru lg rs_i3) H → va_D A (wM bd cI cZ cJ (nI 0) n kd fi se sd tr on sy lt ru lg rs_i3) → va_S A s.heap H locs → lv_has ls 7 [(6, .int (nI i3)), (4, .int (nI (mIt sy (wv kd fi se) ru (hsS tr on lt 6) i3))), (5, .int (nI RD)), (3, .int (nI (hsS tr on lt 6))), (0, .ref (bd 0)), (1, .int (nI a)), (2, .int (bI b))] → W p l e rm_X1_since s m args below meth c H locs 0 0 Q (F0 m 39 ls []) := by
    intro d4
    induction d4 with
    | zero =>
      intro i3 hi_i3 rs_i3 hinv_i3 H locs ls hP hD hS hl
      obtain rfl : i3 = RD + 1 := by omega
      refine lv_iload hx hb dX1_since_39 (lv_at hl 0 rfl) ?_
      refine lv_iload hx hb dX1_since_41 (lv_at hl 2 rfl) ?_
      refine cT_gt (tgt := 83) hx hb dX1_since_43 (by decide) (nI_lt (by omega) (by omega)) ?_
      refine lv_iconst (v := (-1)) hx hb dX1_since_83 (by decide) ?_
      exact kret _ rs_i3 _ _ _ _ (by rw [ffO_none hinv_i3]; rfl) hP hS dX1_since_84
    | succ d4 ih_i3 =>
      intro i3 hi_i3 rs_i3 hinv_i3 H locs ls hP hD hS hl
      refine lv_iload hx hb dX1_since_39 (lv_at hl 0 rfl) ?_
      refine lv_iload hx hb dX1_since_41 (lv_at hl 2 rfl) ?_
      refine cF_gt (tgt := 83) hx hb dX1_since_43 (by decide) (nI_nlt (by omega) (by omega)) ?_
      refine lv_iload hx hb dX1_since_46 (lv_at hl 1 rfl) ?_
      refine lv_iload_n hx hb dX1_since_48 rfl (lv_at hl 5 rfl) ?_
      refine puI_S (own := RX1) (As := [.int (nI (mIt sy (wv kd fi se) ru (hsS tr on lt 6) i3)), .int (nI a)]) (rest := []) ⟨hx, hb, hml, hown, hts⟩ (c_X1_valueIn l D (mIt sy (wv kd fi se) ru (hsS tr on lt 6) i3) a (mIt_lt hM _ _) (by omega)) gX1_since_X1_valueIn rfl ⟨rfl, rfl⟩ 2 rfl (by decide +kernel) ⟨Nat.le_of_ble_eq_true rfl, Nat.le_of_ble_eq_true rfl⟩ nilP (hK.sub (tys' := []) [] rfl) hS hl.1 rfl (Nat.le_of_ble_eq_true rfl) dX1_since_49 ⟨Nat.zero_le _, Nat.zero_le _⟩ (fun H locs hk1 hS => ?_)
      replace hP := keptP hP hk1
      refine lv_iload_n hx hb dX1_since_52 rfl (lv_at hl 6 rfl) ?_
      refine lv_if_eq (tgt := 60) hx hb dX1_since_53 (by decide) (fun c_5 => ?_) (fun c_5 => ?_)
      · have e_53 := bI_0 c_5
        refine lv_iconst (v := nI 2) hx hb dX1_since_60 (by decide) ?_
        refine lv_iand hx hb dX1_since_61 ?_
        refine tc_int (y := nI (2 * (dg (mIt sy (wv kd fi se) ru (hsS tr on lt 6) i3) a / 2 % 2))) (told_2 (dg_lt _ _)) ?_
        refine lv_if_eq (tgt := 68) hx hb dX1_since_62 (by decide) (fun c_6 => ?_) (fun c_6 => ?_)
        · have e_62 : told (dg (mIt sy (wv kd fi se) ru (hsS tr on lt 6) i3) a) b = false := by rw [e_53]; exact (told_f (dg_lt _ _)).mp c_6
          refine lv_aload_n hx hb dX1_since_68 rfl (lv_at hl 4 rfl) ?_
          refine lv_iload_n hx hb dX1_since_69 rfl (lv_at hl 3 rfl) ?_
          refine lv_iload hx hb dX1_since_70 (lv_at hl 1 rfl) ?_
          refine muI_V (own := RX1) (As := [.int (nI (hsS tr on lt 6)), .int (nI (mIt sy (wv kd fi se) ru (hsS tr on lt 6) i3))]) (rest := []) (C := RX1) (ci := 1) (q0 := 0) (A1 := A) ⟨hx, hb, hml, hown, hts⟩ (c_X1_goOn l D bd cI cZ cJ (nI 0) n kd fi se sd tr on sy lt ru lg rs_i3 hM (hsS tr on lt 6) (mIt sy (wv kd fi se) ru (hsS tr on lt 6) i3) hh0 (mIt_lt hM _ _)) gX1_since_X1_goOn rfl ⟨rfl, rfl⟩ 2 rfl (by decide +kernel) ⟨Nat.le_of_ble_eq_true rfl, Nat.le_of_ble_eq_true rfl⟩ hP hK hD (fun _ h9 => h9) rfl rfl rfl hS hl.1 rfl (Nat.le_of_ble_eq_true rfl) dX1_since_72 ⟨Nat.zero_le _, Nat.zero_le _⟩ (fun u7 H locs hP hz1 hk1 hS => ?_)
          replace hP : va_P D vwCl (wM bd cI cZ cJ (nI 0) n kd fi se sd tr on sy lt ru lg u7) H := hP
          replace hD : va_D A (wM bd cI cZ cJ (nI 0) n kd fi se sd tr on sy lt ru lg u7) := sameD2 hD rfl
          refine tc_int (y := nI (mIt sy (wv kd fi se) ru (hsS tr on lt 6) (i3 + 1))) (rfl) ?_
          refine lv_istore (lv' := [(4, .int (nI (mIt sy (wv kd fi se) ru (hsS tr on lt 6) (i3 + 1)))), (6, .int (nI i3)), (5, .int (nI RD)), (3, .int (nI (hsS tr on lt 6))), (0, .ref (bd 0)), (1, .int (nI a)), (2, .int (bI b))]) hx hb dX1_since_75 hl (by decide) rfl (fun ls hl => ?_)
          refine lv_iinc (v := nI (i3 + 1)) (lv' := [(6, .int (nI (i3 + 1))), (4, .int (nI (mIt sy (wv kd fi se) ru (hsS tr on lt 6) (i3 + 1)))), (5, .int (nI RD)), (3, .int (nI (hsS tr on lt 6))), (0, .ref (bd 0)), (1, .int (nI a)), (2, .int (bI b))]) hx hb dX1_since_77 hl (k := 1) rfl (iinc1 _) (by decide) rfl (fun ls hl => ?_)
          refine lv_goto (tgt := 39) hx hb dX1_since_80 (by decide) ?_
          exact ih_i3 (i3 + 1) (by omega) u7 (lt_s hinv_i3 e_62) H locs ls hP hD hS (lv_sub hl [0, 1, 2, 3, 4, 5, 6] rfl)
        · have e_62 : told (dg (mIt sy (wv kd fi se) ru (hsS tr on lt 6) i3) a) b = true := by rw [e_53]; exact ts_nf (fun q => c_6 ((told_f (dg_lt _ _)).mpr q))
          refine lv_iload hx hb dX1_since_65 (lv_at hl 0 rfl) ?_
          exact kret _ rs_i3 _ _ _ _ (by rw [ffO_at (p := (fun r => told (dg (mIt sy (wv kd fi se) ru (hsS tr on lt 6) r) a) b)) (by omega) e_62 hinv_i3]; rfl) hP hS dX1_since_67
      · have e_53 := bI_1 c_5
        refine lv_iconst (v := nI 1) hx hb dX1_since_56 (by decide) ?_
        refine lv_goto (tgt := 61) hx hb dX1_since_57 (by decide) ?_
        refine lv_iand hx hb dX1_since_61 ?_
        refine tc_int (y := nI (dg (mIt sy (wv kd fi se) ru (hsS tr on lt 6) i3) a % 2)) (told_1 (dg_lt _ _)) ?_
        refine lv_if_eq (tgt := 68) hx hb dX1_since_62 (by decide) (fun c_8 => ?_) (fun c_8 => ?_)
        · have e_62 : told (dg (mIt sy (wv kd fi se) ru (hsS tr on lt 6) i3) a) b = false := by rw [e_53]; exact (told_t (dg_lt _ _)).mp c_8
          refine lv_aload_n hx hb dX1_since_68 rfl (lv_at hl 4 rfl) ?_
          refine lv_iload_n hx hb dX1_since_69 rfl (lv_at hl 3 rfl) ?_
          refine lv_iload hx hb dX1_since_70 (lv_at hl 1 rfl) ?_
          refine muI_V (own := RX1) (As := [.int (nI (hsS tr on lt 6)), .int (nI (mIt sy (wv kd fi se) ru (hsS tr on lt 6) i3))]) (rest := []) (C := RX1) (ci := 1) (q0 := 0) (A1 := A) ⟨hx, hb, hml, hown, hts⟩ (c_X1_goOn l D bd cI cZ cJ (nI 0) n kd fi se sd tr on sy lt ru lg rs_i3 hM (hsS tr on lt 6) (mIt sy (wv kd fi se) ru (hsS tr on lt 6) i3) hh0 (mIt_lt hM _ _)) gX1_since_X1_goOn rfl ⟨rfl, rfl⟩ 2 rfl (by decide +kernel) ⟨Nat.le_of_ble_eq_true rfl, Nat.le_of_ble_eq_true rfl⟩ hP hK hD (fun _ h9 => h9) rfl rfl rfl hS hl.1 rfl (Nat.le_of_ble_eq_true rfl) dX1_since_72 ⟨Nat.zero_le _, Nat.zero_le _⟩ (fun u9 H locs hP hz1 hk1 hS => ?_)
          replace hP : va_P D vwCl (wM bd cI cZ cJ (nI 0) n kd fi se sd tr on sy lt ru lg u9) H := hP
          replace hD : va_D A (wM bd cI cZ cJ (nI 0) n kd fi se sd tr on sy lt ru lg u9) := sameD2 hD rfl
          refine tc_int (y := nI (mIt sy (wv kd fi se) ru (hsS tr on lt 6) (i3 + 1))) (rfl) ?_
          refine lv_istore (lv' := [(4, .int (nI (mIt sy (wv kd fi se) ru (hsS tr on lt 6) (i3 + 1)))), (6, .int (nI i3)), (5, .int (nI RD)), (3, .int (nI (hsS tr on lt 6))), (0, .ref (bd 0)), (1, .int (nI a)), (2, .int (bI b))]) hx hb dX1_since_75 hl (by decide) rfl (fun ls hl => ?_)
          refine lv_iinc (v := nI (i3 + 1)) (lv' := [(6, .int (nI (i3 + 1))), (4, .int (nI (mIt sy (wv kd fi se) ru (hsS tr on lt 6) (i3 + 1)))), (5, .int (nI RD)), (3, .int (nI (hsS tr on lt 6))), (0, .ref (bd 0)), (1, .int (nI a)), (2, .int (bI b))]) hx hb dX1_since_77 hl (k := 1) rfl (iinc1 _) (by decide) rfl (fun ls hl => ?_)
          refine lv_goto (tgt := 39) hx hb dX1_since_80 (by decide) ?_
          exact ih_i3 (i3 + 1) (by omega) u9 (lt_s hinv_i3 e_62) H locs ls hP hD hS (lv_sub hl [0, 1, 2, 3, 4, 5, 6] rfl)
        · have e_62 : told (dg (mIt sy (wv kd fi se) ru (hsS tr on lt 6) i3) a) b = true := by rw [e_53]; exact ts_nf (fun q => c_8 ((told_t (dg_lt _ _)).mpr q))
          refine lv_iload hx hb dX1_since_65 (lv_at hl 0 rfl) ?_
          exact kret _ rs_i3 _ _ _ _ (by rw [ffO_at (p := (fun r => told (dg (mIt sy (wv kd fi se) ru (hsS tr on lt 6) r) a) b)) (by omega) e_62 hinv_i3]; rfl) hP hS dX1_since_67
  exact key2 (RD + 1) 0 (by omega) u1 lt_0 _ _ ls hP hD hS (lv_sub hl [0, 2, 1, 3, 4, 5, 6] rfl)

set_option maxHeartbeats 4000000 in
set_option maxRecDepth 100000 in
theorem d_X1_since (y : Int32) (x : Int32) (hx9 : x < 0 ∨ nI 6 ≤ x) : MuI l yX1_since wsX1_since rm_X1_since D vwCl (wM bd cI cZ cJ th n kd fi se sd tr on sy lt ru lg rs) (fun u => wM bd cI cZ cJ (nI 1) n kd fi se sd tr on sy lt ru lg u) (tyC cI cZ cJ) [.ref (bd 0), .int x, .int y] (nI 0) := by
  refine MuI.of (cc := cX1_since) (maxL := 7) (by decide) rfl (Nat.le_of_ble_eq_true rfl) (vp_nar_int _) ?_
  intro A p e s m args below meth c Q ls hx hb hml hown hts hP hK hD kret hl
  have hown : s.vm.findClass RX1 = some m.cls := hown
  have hl : lv_has ls 7 [(0, .ref (bd 0)), (1, .int x), (2, .int y)] := hl
  have hS : va_S A s.heap s.heap [] := va_S.rf
  have hin0 : ∀ w ∈ u_ws RX1 TX1 13, w ∈ wsX1_since := hin_X1_since
  refine lv_aload_n hx hb dX1_since_0 rfl (lv_at hl 0 rfl) ?_
  refine lv_iconst (v := nI 0) hx hb dX1_since_1 (by decide) ?_
  refine va_put (D := D) (ci := 1) (v := .int (nI 0)) (ty := .int) (C := RX1) (T := TX1) (N := 13) hx hb hts hin0 tyX1 tyX1_ok nmX1 hown hK hP hD hS 0 rfl rfl 0 (by decide) (hts (.fieldLink RX1 45 "RumourReasonerModel" "thrown" "I") (by decide +kernel)) (fun _ h9 => h9) rfl (by decide +kernel) rfl rfl (Nat.le_of_ble_eq_true rfl) dX1_since_2 (fun H locs hP hD hS => ?_)
  have hP : va_P D vwCl (wM bd cI cZ cJ (nI 0) n kd fi se sd tr on sy lt ru lg rs) H := hP
  have hD : va_D A (wM bd cI cZ cJ (nI 0) n kd fi se sd tr on sy lt ru lg rs) := hD
  refine lv_iload_n hx hb dX1_since_5 rfl (lv_at hl 1 rfl) ?_
  refine puI_S (own := RX1) (As := [.int x]) (rest := []) ⟨hx, hb, hml, hown, hts⟩ (c_X1_isAtom l D x) gX1_since_X1_isAtom rfl ⟨rfl, rfl⟩ 1 rfl (by decide +kernel) ⟨Nat.le_of_ble_eq_true rfl, Nat.le_of_ble_eq_true rfl⟩ nilP (hK.sub (tys' := []) [] rfl) hS hl.1 rfl (Nat.le_of_ble_eq_true rfl) dX1_since_6 ⟨Nat.zero_le _, Nat.zero_le _⟩ (fun H locs hk1 hS => ?_)
  replace hP := keptP hP hk1
  refine tc_int (y := bI false) (by rw [inB_bad hx9 (by decide)]) ?_
  refine zF_ne (tgt := 18) hx hb dX1_since_9 (by decide) (rfl) ?_
  refine lv_aload_n hx hb dX1_since_12 rfl (lv_at hl 0 rfl) ?_
  refine lv_iconst (v := nI 1) hx hb dX1_since_13 (by decide) ?_
  refine muI_V (own := RX1) (As := [.int (nI 1)]) (rest := []) (C := RX1) (ci := 1) (q0 := 0) (A1 := A) ⟨hx, hb, hml, hown, hts⟩ (c_X1_no l D bd cI cZ cJ (nI 0) n kd fi se sd tr on sy lt ru lg rs 1) gX1_since_X1_no rfl ⟨rfl, rfl⟩ 1 rfl (by decide +kernel) ⟨Nat.le_of_ble_eq_true rfl, Nat.le_of_ble_eq_true rfl⟩ hP hK hD (fun _ h9 => h9) rfl rfl rfl hS hl.1 rfl (Nat.le_of_ble_eq_true rfl) dX1_since_14 ⟨Nat.zero_le _, Nat.zero_le _⟩ (fun u1 H locs hP hz1 hk1 hS => ?_)
  replace hP : va_P D vwCl (wM bd cI cZ cJ (nI 1) n kd fi se sd tr on sy lt ru lg u1) H := hP
  replace hD : va_D A (wM bd cI cZ cJ (nI 1) n kd fi se sd tr on sy lt ru lg u1) := sameD2 hD rfl
  exact kret _ u1 _ _ _ _ (rfl) hP hS dX1_since_17

theorem hin_X1_sayers : ∀ w ∈ wsX10, w ∈ wsX1_sayers := by first | exact fun _ h => List.mem_cons_of_mem _ (List.mem_append_right _ h) | exact fun _ h => List.mem_cons_of_mem _ (List.mem_append_left _ (List.mem_append_right _ h)) | exact fun _ h => List.mem_cons_of_mem _ (List.mem_append_left _ (List.mem_append_left _ (List.mem_append_right _ h))) | exact fun _ h => List.mem_cons_of_mem _ (List.mem_append_left _ (List.mem_append_left _ (List.mem_append_left _ (List.mem_append_right _ h)))) | decide +kernel
def rm_X1_sayers : Room := { frames := 2, cells := 0, slots := 0, locals := 42 }
set_option maxHeartbeats 4000000 in
set_option maxRecDepth 100000 in
theorem c_X1_sayers (hM : OKM n kd fi se tr sy lt lg ru) (a : Nat) (b : Bool) (ha : a < 6) : MuI l yX1_sayers wsX1_sayers rm_X1_sayers D vwCl (wM bd cI cZ cJ th n kd fi se sd tr on sy lt ru lg rs) (fun u => wM bd cI cZ cJ (nI 0) n kd fi se sd tr on sy lt ru lg u) (tyC cI cZ cJ) [.ref (bd 0), .int (nI a), .int (bI b)] (nI (syS tr on lt (fun s => sy (6 * s + a)) b 6)) := by
  refine MuI.of (cc := cX1_sayers) (maxL := 5) (by decide) rfl (Nat.le_of_ble_eq_true rfl) (vp_nar_int _) ?_
  intro A p e s m args below meth c Q ls hx hb hml hown hts hP hK hD kret hl
  have hown : s.vm.findClass RX1 = some m.cls := hown
  have hl : lv_has ls 5 [(0, .ref (bd 0)), (1, .int (nI a)), (2, .int (bI b))] := hl
  have hS : va_S A s.heap s.heap [] := va_S.rf
  have hin0 : ∀ w ∈ u_ws RX1 TX1 13, w ∈ wsX1_sayers := hin_X1_sayers
  refine lv_aload_n hx hb dX1_sayers_0 rfl (lv_at hl 0 rfl) ?_
  refine lv_iconst (v := nI 0) hx hb dX1_sayers_1 (by decide) ?_
  refine va_put (D := D) (ci := 1) (v := .int (nI 0)) (ty := .int) (C := RX1) (T := TX1) (N := 13) hx hb hts hin0 tyX1 tyX1_ok nmX1 hown hK hP hD hS 0 rfl rfl 0 (by decide) (hts (.fieldLink RX1 45 "RumourReasonerModel" "thrown" "I") (by decide +kernel)) (fun _ h9 => h9) rfl (by decide +kernel) rfl rfl (Nat.le_of_ble_eq_true rfl) dX1_sayers_2 (fun H locs hP hD hS => ?_)
  have hP : va_P D vwCl (wM bd cI cZ cJ (nI 0) n kd fi se sd tr on sy lt ru lg rs) H := hP
  have hD : va_D A (wM bd cI cZ cJ (nI 0) n kd fi se sd tr on sy lt ru lg rs) := hD
  refine lv_iload_n hx hb dX1_sayers_5 rfl (lv_at hl 1 rfl) ?_
  refine puI_S (own := RX1) (As := [.int (nI a)]) (rest := []) ⟨hx, hb, hml, hown, hts⟩ (c_X1_isAtom l D (nI a)) gX1_sayers_X1_isAtom rfl ⟨rfl, rfl⟩ 1 rfl (by decide +kernel) ⟨Nat.le_of_ble_eq_true rfl, Nat.le_of_ble_eq_true rfl⟩ nilP (hK.sub (tys' := []) [] rfl) hS hl.1 rfl (Nat.le_of_ble_eq_true rfl) dX1_sayers_6 ⟨Nat.zero_le _, Nat.zero_le _⟩ (fun H locs hk1 hS => ?_)
  replace hP := keptP hP hk1
  refine tc_int (y := bI true) (by rw [inB_t (by omega) (by omega) (by decide)]) ?_
  refine zT_ne (tgt := 18) hx hb dX1_sayers_9 (by decide) (by decide) ?_
  refine lv_iconst (v := nI 0) hx hb dX1_sayers_18 (by decide) ?_
  refine lv_istore_n (lv' := [(3, .int (nI 0)), (0, .ref (bd 0)), (1, .int (nI a)), (2, .int (bI b))]) hx hb dX1_sayers_19 rfl hl (by decide) rfl (fun ls hl => ?_)
  refine lv_iconst (v := nI 0) hx hb dX1_sayers_20 (by decide) ?_
  refine lv_istore (lv' := [(4, .int (nI 0)), (3, .int (nI 0)), (0, .ref (bd 0)), (1, .int (nI a)), (2, .int (bI b))]) hx hb dX1_sayers_21 hl (by decide) rfl (fun ls hl => ?_)
  have key1 : ∀ (d3 i2 : Nat), i2 + d3 = 6 → ∀ (rs_i2 : Nat → Int32), ∀ (H : Heap) (locs : List Loc) (ls : Array Slot), va_P D vwCl (wM bd cI cZ cJ (nI 0) n kd fi se sd tr on sy lt ru lg rs_i2) H → va_D A (wM bd cI cZ cJ (nI 0) n kd fi se sd tr on sy lt ru lg rs_i2) → va_S A s.heap H locs → lv_has ls 5 [(4, .int (nI i2)), (3, .int (nI (syS tr on lt (fun s => sy (6 * s + a)) b i2))), (0, .ref (bd 0)), (1, .int (nI a)), (2, .int (bI b))] → W p l e rm_X1_sayers s m args below meth c H locs 0 0 Q (F0 m 23 ls []) := by
    intro d3
    induction d3 with
    | zero =>
      intro i2 hi_i2 rs_i2 H locs ls hP hD hS hl
      obtain rfl : i2 = 6 := by omega
      refine lv_iload hx hb dX1_sayers_23 (lv_at hl 0 rfl) ?_
      refine lv_bipush (v := nI 6) hx hb dX1_sayers_25 (by decide) ?_
      refine cT_ge (tgt := 77) hx hb dX1_sayers_27 (by decide) (nI_le (by omega) (by omega)) ?_
      refine lv_iload_n hx hb dX1_sayers_77 rfl (lv_at hl 1 rfl) ?_
      exact kret _ rs_i2 _ _ _ _ (rfl) hP hS dX1_sayers_78
    | succ d3 ih_i2 =>
      intro i2 hi_i2 rs_i2 H locs ls hP hD hS hl
      refine lv_iload hx hb dX1_sayers_23 (lv_at hl 0 rfl) ?_
      refine lv_bipush (v := nI 6) hx hb dX1_sayers_25 (by decide) ?_
      refine cF_ge (tgt := 77) hx hb dX1_sayers_27 (by decide) (nI_ge (by omega) (by omega)) ?_
      refine lv_aload_n hx hb dX1_sayers_30 rfl (lv_at hl 2 rfl) ?_
      refine lv_iload hx hb dX1_sayers_31 (lv_at hl 0 rfl) ?_
      refine puI_V (own := RX1) (As := [.int (nI i2)]) (rest := []) (C := RX1) (ci := 1) (q0 := 0) ⟨hx, hb, hml, hown, hts⟩ (c_X1_isHeard l D bd cI cZ cJ (nI 0) n kd fi se sd tr on sy lt ru lg rs_i2 hM i2 (by omega)) gX1_sayers_X1_isHeard rfl ⟨rfl, rfl⟩ 1 rfl (by decide +kernel) ⟨Nat.le_of_ble_eq_true rfl, Nat.le_of_ble_eq_true rfl⟩ hP hK rfl rfl rfl hS hl.1 rfl (Nat.le_of_ble_eq_true rfl) dX1_sayers_33 ⟨Nat.zero_le _, Nat.zero_le _⟩ (fun H locs hk1 hS => ?_)
      replace hP := keptP hP hk1
      refine lv_if_eq (tgt := 71) hx hb dX1_sayers_36 (by decide) (fun c_4 => ?_) (fun c_4 => ?_)
      · have e_36 := bI_0 c_4
        refine lv_iinc (v := nI (i2 + 1)) (lv' := [(4, .int (nI (i2 + 1))), (3, .int (nI (syS tr on lt (fun s => sy (6 * s + a)) b i2))), (0, .ref (bd 0)), (1, .int (nI a)), (2, .int (bI b))]) hx hb dX1_sayers_71 hl (k := 0) rfl (iinc1 _) (by decide) rfl (fun ls hl => ?_)
        refine lv_goto (tgt := 23) hx hb dX1_sayers_74 (by decide) ?_
        exact ih_i2 (i2 + 1) (by omega) rs_i2 H locs ls hP hD hS (by have h9 := lv_sub hl [0, 1, 2, 3, 4] rfl; rw [show syS tr on lt (fun s => sy (6 * s + a)) b (i2 + 1) = syS tr on lt (fun s => sy (6 * s + a)) b i2 from if_neg (by rw [e_36]; simp)]; exact h9)
      · have e_36 := bI_1 c_4
        refine lv_aload_n hx hb dX1_sayers_39 rfl (lv_at hl 2 rfl) ?_
        refine va_get (D := D) (ci := 1) (v := .ref (bd 7)) (C := RX1) (T := TX1) (N := 13) hx hb hts hin0 hown hK hP 0 rfl rfl 8 (by decide) (hts (.fieldLink RX1 29 "RumourReasonerModel" "says" "[I") (by decide +kernel)) (fun _ h9 => h9) rfl dX1_sayers_40 ?_
        refine lv_bipush (v := nI 6) hx hb dX1_sayers_43 (by decide) ?_
        refine lv_iload hx hb dX1_sayers_45 (lv_at hl 0 rfl) ?_
        refine lv_imul hx hb dX1_sayers_47 ?_
        refine tc_int (y := nI (6 * i2)) (pk_mul _ _) ?_
        refine lv_iload_n hx hb dX1_sayers_48 rfl (lv_at hl 3 rfl) ?_
        refine lv_iadd hx hb dX1_sayers_49 ?_
        refine tc_int (y := nI ((6 * i2) + a)) (nI_add _ _) ?_
        refine ld_ni hx hb hK hP 7 0 rfl rfl (j := ((6 * i2) + a)) (by omega) (by decide) dX1_sayers_50 ?_
        refine lv_iload_n hx hb dX1_sayers_51 rfl (lv_at hl 4 rfl) ?_
        refine lv_if_eq (tgt := 59) hx hb dX1_sayers_52 (by decide) (fun c_5 => ?_) (fun c_5 => ?_)
        · have e_52 := bI_0 c_5
          refine lv_iconst (v := nI 2) hx hb dX1_sayers_59 (by decide) ?_
          refine lv_iand hx hb dX1_sayers_60 ?_
          refine tc_int (y := nI (2 * (sy (6 * i2 + a) / 2 % 2))) (told_2 (hM.2.2.1 _ (by omega))) ?_
          refine lv_if_eq (tgt := 71) hx hb dX1_sayers_61 (by decide) (fun c_6 => ?_) (fun c_6 => ?_)
          · have e_61 : told (sy (6 * i2 + a)) b = false := by rw [e_52]; exact (told_f (hM.2.2.1 _ (by omega))).mp c_6
            refine lv_iinc (v := nI (i2 + 1)) (lv' := [(4, .int (nI (i2 + 1))), (3, .int (nI (syS tr on lt (fun s => sy (6 * s + a)) b i2))), (0, .ref (bd 0)), (1, .int (nI a)), (2, .int (bI b))]) hx hb dX1_sayers_71 hl (k := 0) rfl (iinc1 _) (by decide) rfl (fun ls hl => ?_)
            refine lv_goto (tgt := 23) hx hb dX1_sayers_74 (by decide) ?_
            exact ih_i2 (i2 + 1) (by omega) rs_i2 H locs ls hP hD hS (by have h9 := lv_sub hl [0, 1, 2, 3, 4] rfl; rw [show syS tr on lt (fun s => sy (6 * s + a)) b (i2 + 1) = syS tr on lt (fun s => sy (6 * s + a)) b i2 from if_neg (fun q => by have q2 := (Bool.and_eq_true_iff.mp q).2; exact Bool.noConfusion (e_61.symm.trans q2))]; exact h9)
          · have e_61 : told (sy (6 * i2 + a)) b = true := by rw [e_52]; exact ts_nf (fun q => c_6 ((told_f (hM.2.2.1 _ (by omega))).mpr q))
            refine lv_iload_n hx hb dX1_sayers_64 rfl (lv_at hl 1 rfl) ?_
            refine lv_iconst (v := nI 1) hx hb dX1_sayers_65 (by decide) ?_
            refine lv_iload hx hb dX1_sayers_66 (lv_at hl 0 rfl) ?_
            refine lv_ishl hx hb dX1_sayers_68 ?_
            refine tc_int (y := nI (2 ^ i2)) (shl1 (by omega)) ?_
            refine lv_ior hx hb dX1_sayers_69 ?_
            refine tc_int (y := nI (syS tr on lt (fun s => sy (6 * s + a)) b i2 ||| 2 ^ i2)) (fa_or _ _) ?_
            refine lv_istore_n (lv' := [(3, .int (nI (syS tr on lt (fun s => sy (6 * s + a)) b i2 ||| 2 ^ i2))), (4, .int (nI i2)), (0, .ref (bd 0)), (1, .int (nI a)), (2, .int (bI b))]) hx hb dX1_sayers_70 rfl hl (by decide) rfl (fun ls hl => ?_)
            refine lv_iinc (v := nI (i2 + 1)) (lv' := [(4, .int (nI (i2 + 1))), (3, .int (nI (syS tr on lt (fun s => sy (6 * s + a)) b i2 ||| 2 ^ i2))), (0, .ref (bd 0)), (1, .int (nI a)), (2, .int (bI b))]) hx hb dX1_sayers_71 hl (k := 1) rfl (iinc1 _) (by decide) rfl (fun ls hl => ?_)
            refine lv_goto (tgt := 23) hx hb dX1_sayers_74 (by decide) ?_
            exact ih_i2 (i2 + 1) (by omega) rs_i2 H locs ls hP hD hS (by have h9 := lv_sub hl [0, 1, 2, 3, 4] rfl; rw [show syS tr on lt (fun s => sy (6 * s + a)) b (i2 + 1) = syS tr on lt (fun s => sy (6 * s + a)) b i2 ||| 2 ^ i2 from if_pos (by rw [e_36]; show (true && told (sy (6 * i2 + a)) b) = true; rw [e_61]; rfl)]; exact h9)
        · have e_52 := bI_1 c_5
          refine lv_iconst (v := nI 1) hx hb dX1_sayers_55 (by decide) ?_
          refine lv_goto (tgt := 60) hx hb dX1_sayers_56 (by decide) ?_
          refine lv_iand hx hb dX1_sayers_60 ?_
          refine tc_int (y := nI (sy (6 * i2 + a) % 2)) (told_1 (hM.2.2.1 _ (by omega))) ?_
          refine lv_if_eq (tgt := 71) hx hb dX1_sayers_61 (by decide) (fun c_7 => ?_) (fun c_7 => ?_)
          · have e_61 : told (sy (6 * i2 + a)) b = false := by rw [e_52]; exact (told_t (hM.2.2.1 _ (by omega))).mp c_7
            refine lv_iinc (v := nI (i2 + 1)) (lv' := [(4, .int (nI (i2 + 1))), (3, .int (nI (syS tr on lt (fun s => sy (6 * s + a)) b i2))), (0, .ref (bd 0)), (1, .int (nI a)), (2, .int (bI b))]) hx hb dX1_sayers_71 hl (k := 0) rfl (iinc1 _) (by decide) rfl (fun ls hl => ?_)
            refine lv_goto (tgt := 23) hx hb dX1_sayers_74 (by decide) ?_
            exact ih_i2 (i2 + 1) (by omega) rs_i2 H locs ls hP hD hS (by have h9 := lv_sub hl [0, 1, 2, 3, 4] rfl; rw [show syS tr on lt (fun s => sy (6 * s + a)) b (i2 + 1) = syS tr on lt (fun s => sy (6 * s + a)) b i2 from if_neg (fun q => by have q2 := (Bool.and_eq_true_iff.mp q).2; exact Bool.noConfusion (e_61.symm.trans q2))]; exact h9)
          · have e_61 : told (sy (6 * i2 + a)) b = true := by rw [e_52]; exact ts_nf (fun q => c_7 ((told_t (hM.2.2.1 _ (by omega))).mpr q))
            refine lv_iload_n hx hb dX1_sayers_64 rfl (lv_at hl 1 rfl) ?_
            refine lv_iconst (v := nI 1) hx hb dX1_sayers_65 (by decide) ?_
            refine lv_iload hx hb dX1_sayers_66 (lv_at hl 0 rfl) ?_
            refine lv_ishl hx hb dX1_sayers_68 ?_
            refine tc_int (y := nI (2 ^ i2)) (shl1 (by omega)) ?_
            refine lv_ior hx hb dX1_sayers_69 ?_
            refine tc_int (y := nI (syS tr on lt (fun s => sy (6 * s + a)) b i2 ||| 2 ^ i2)) (fa_or _ _) ?_
            refine lv_istore_n (lv' := [(3, .int (nI (syS tr on lt (fun s => sy (6 * s + a)) b i2 ||| 2 ^ i2))), (4, .int (nI i2)), (0, .ref (bd 0)), (1, .int (nI a)), (2, .int (bI b))]) hx hb dX1_sayers_70 rfl hl (by decide) rfl (fun ls hl => ?_)
            refine lv_iinc (v := nI (i2 + 1)) (lv' := [(4, .int (nI (i2 + 1))), (3, .int (nI (syS tr on lt (fun s => sy (6 * s + a)) b i2 ||| 2 ^ i2))), (0, .ref (bd 0)), (1, .int (nI a)), (2, .int (bI b))]) hx hb dX1_sayers_71 hl (k := 1) rfl (iinc1 _) (by decide) rfl (fun ls hl => ?_)
            refine lv_goto (tgt := 23) hx hb dX1_sayers_74 (by decide) ?_
            exact ih_i2 (i2 + 1) (by omega) rs_i2 H locs ls hP hD hS (by have h9 := lv_sub hl [0, 1, 2, 3, 4] rfl; rw [show syS tr on lt (fun s => sy (6 * s + a)) b (i2 + 1) = syS tr on lt (fun s => sy (6 * s + a)) b i2 ||| 2 ^ i2 from if_pos (by rw [e_36]; show (true && told (sy (6 * i2 + a)) b) = true; rw [e_61]; rfl)]; exact h9)
  exact key1 (6) 0 (by omega) rs _ _ ls hP hD hS (lv_sub hl [0, 1, 2, 3, 4] rfl)

set_option maxHeartbeats 4000000 in
set_option maxRecDepth 100000 in
theorem d_X1_sayers (y : Int32) (x : Int32) (hx9 : x < 0 ∨ nI 6 ≤ x) : MuI l yX1_sayers wsX1_sayers rm_X1_sayers D vwCl (wM bd cI cZ cJ th n kd fi se sd tr on sy lt ru lg rs) (fun u => wM bd cI cZ cJ (nI 1) n kd fi se sd tr on sy lt ru lg u) (tyC cI cZ cJ) [.ref (bd 0), .int x, .int y] (nI 0) := by
  refine MuI.of (cc := cX1_sayers) (maxL := 5) (by decide) rfl (Nat.le_of_ble_eq_true rfl) (vp_nar_int _) ?_
  intro A p e s m args below meth c Q ls hx hb hml hown hts hP hK hD kret hl
  have hown : s.vm.findClass RX1 = some m.cls := hown
  have hl : lv_has ls 5 [(0, .ref (bd 0)), (1, .int x), (2, .int y)] := hl
  have hS : va_S A s.heap s.heap [] := va_S.rf
  have hin0 : ∀ w ∈ u_ws RX1 TX1 13, w ∈ wsX1_sayers := hin_X1_sayers
  refine lv_aload_n hx hb dX1_sayers_0 rfl (lv_at hl 0 rfl) ?_
  refine lv_iconst (v := nI 0) hx hb dX1_sayers_1 (by decide) ?_
  refine va_put (D := D) (ci := 1) (v := .int (nI 0)) (ty := .int) (C := RX1) (T := TX1) (N := 13) hx hb hts hin0 tyX1 tyX1_ok nmX1 hown hK hP hD hS 0 rfl rfl 0 (by decide) (hts (.fieldLink RX1 45 "RumourReasonerModel" "thrown" "I") (by decide +kernel)) (fun _ h9 => h9) rfl (by decide +kernel) rfl rfl (Nat.le_of_ble_eq_true rfl) dX1_sayers_2 (fun H locs hP hD hS => ?_)
  have hP : va_P D vwCl (wM bd cI cZ cJ (nI 0) n kd fi se sd tr on sy lt ru lg rs) H := hP
  have hD : va_D A (wM bd cI cZ cJ (nI 0) n kd fi se sd tr on sy lt ru lg rs) := hD
  refine lv_iload_n hx hb dX1_sayers_5 rfl (lv_at hl 1 rfl) ?_
  refine puI_S (own := RX1) (As := [.int x]) (rest := []) ⟨hx, hb, hml, hown, hts⟩ (c_X1_isAtom l D x) gX1_sayers_X1_isAtom rfl ⟨rfl, rfl⟩ 1 rfl (by decide +kernel) ⟨Nat.le_of_ble_eq_true rfl, Nat.le_of_ble_eq_true rfl⟩ nilP (hK.sub (tys' := []) [] rfl) hS hl.1 rfl (Nat.le_of_ble_eq_true rfl) dX1_sayers_6 ⟨Nat.zero_le _, Nat.zero_le _⟩ (fun H locs hk1 hS => ?_)
  replace hP := keptP hP hk1
  refine tc_int (y := bI false) (by rw [inB_bad hx9 (by decide)]) ?_
  refine zF_ne (tgt := 18) hx hb dX1_sayers_9 (by decide) (rfl) ?_
  refine lv_aload_n hx hb dX1_sayers_12 rfl (lv_at hl 0 rfl) ?_
  refine lv_iconst (v := nI 1) hx hb dX1_sayers_13 (by decide) ?_
  refine muI_V (own := RX1) (As := [.int (nI 1)]) (rest := []) (C := RX1) (ci := 1) (q0 := 0) (A1 := A) ⟨hx, hb, hml, hown, hts⟩ (c_X1_no l D bd cI cZ cJ (nI 0) n kd fi se sd tr on sy lt ru lg rs 1) gX1_sayers_X1_no rfl ⟨rfl, rfl⟩ 1 rfl (by decide +kernel) ⟨Nat.le_of_ble_eq_true rfl, Nat.le_of_ble_eq_true rfl⟩ hP hK hD (fun _ h9 => h9) rfl rfl rfl hS hl.1 rfl (Nat.le_of_ble_eq_true rfl) dX1_sayers_14 ⟨Nat.zero_le _, Nat.zero_le _⟩ (fun u1 H locs hP hz1 hk1 hS => ?_)
  replace hP : va_P D vwCl (wM bd cI cZ cJ (nI 1) n kd fi se sd tr on sy lt ru lg u1) H := hP
  replace hD : va_D A (wM bd cI cZ cJ (nI 1) n kd fi se sd tr on sy lt ru lg u1) := sameD2 hD rfl
  exact kret _ u1 _ _ _ _ (rfl) hP hS dX1_sayers_17

theorem hin_X1_matters : ∀ w ∈ wsX10, w ∈ wsX1_matters := by first | exact fun _ h => List.mem_cons_of_mem _ (List.mem_append_right _ h) | exact fun _ h => List.mem_cons_of_mem _ (List.mem_append_left _ (List.mem_append_right _ h)) | exact fun _ h => List.mem_cons_of_mem _ (List.mem_append_left _ (List.mem_append_left _ (List.mem_append_right _ h))) | exact fun _ h => List.mem_cons_of_mem _ (List.mem_append_left _ (List.mem_append_left _ (List.mem_append_left _ (List.mem_append_right _ h)))) | decide +kernel
def rm_X1_matters : Room := { frames := 5, cells := 0, slots := 0, locals := 114 }
set_option maxHeartbeats 4000000 in
set_option maxRecDepth 100000 in
theorem c_X1_matters (hM : OKM n kd fi se tr sy lt lg ru) (hF : ∀ h, h < 64 → mIt sy (wv kd fi se) ru h 13 = mIt sy (wv kd fi se) ru h 12) (a b : Nat) (ha : a < 6) (hb6 : b < 6) : MuI l yX1_matters wsX1_matters rm_X1_matters D vwCl (wM bd cI cZ cJ th n kd fi se sd tr on sy lt ru lg rs) (fun u => wM bd cI cZ cJ (nI 0) n kd fi se sd tr on sy lt ru lg u) (tyC cI cZ cJ) [.ref (bd 0), .int (nI a), .int (nI b)] (bI (hdB tr on lt a && decide (dg (mIt sy (wv kd fi se) ru (hsS tr on lt 6) 12) b ≠ dg (mIt sy (wv kd fi se) ru (hsS tr on lt 6 &&& (63 ^^^ 2 ^ a)) 12) b))) := by
  refine MuI.of (cc := cX1_matters) (maxL := 3) (by decide) rfl (Nat.le_of_ble_eq_true rfl) (bI_n _) ?_
  intro A p e s m args below meth c Q ls hx hb hml hown hts hP hK hD kret hl
  have hown : s.vm.findClass RX1 = some m.cls := hown
  have hl : lv_has ls 3 [(0, .ref (bd 0)), (1, .int (nI a)), (2, .int (nI b))] := hl
  have hS : va_S A s.heap s.heap [] := va_S.rf
  have hin0 : ∀ w ∈ u_ws RX1 TX1 13, w ∈ wsX1_matters := hin_X1_matters
  have hh0 : hsS tr on lt 6 < 64 := hsS_lt tr on lt 6 (Nat.le_refl 6)
  refine lv_aload_n hx hb dX1_matters_0 rfl (lv_at hl 0 rfl) ?_
  refine lv_iload_n hx hb dX1_matters_1 rfl (lv_at hl 1 rfl) ?_
  refine puI_S (own := RX1) (As := [.int (nI a)]) (rest := [.ref (bd 0)]) ⟨hx, hb, hml, hown, hts⟩ (c_X1_isSource l D (nI a)) gX1_matters_X1_isSource rfl ⟨rfl, rfl⟩ 1 rfl (by decide +kernel) ⟨Nat.le_of_ble_eq_true rfl, Nat.le_of_ble_eq_true rfl⟩ nilP (hK.sub (tys' := []) [] rfl) hS hl.1 rfl (Nat.le_of_ble_eq_true rfl) dX1_matters_2 ⟨Nat.zero_le _, Nat.zero_le _⟩ (fun H locs hk1 hS => ?_)
  replace hP := keptP hP hk1
  refine tc_int (y := bI true) (by rw [inB_t (by omega) (by omega) (by decide)]) ?_
  refine zF_eq (tgt := 19) hx hb dX1_matters_5 (by decide) (by decide) ?_
  refine lv_iload_n hx hb dX1_matters_8 rfl (lv_at hl 2 rfl) ?_
  refine puI_S (own := RX1) (As := [.int (nI b)]) (rest := [.ref (bd 0)]) ⟨hx, hb, hml, hown, hts⟩ (c_X1_isAtom l D (nI b)) gX1_matters_X1_isAtom rfl ⟨rfl, rfl⟩ 1 rfl (by decide +kernel) ⟨Nat.le_of_ble_eq_true rfl, Nat.le_of_ble_eq_true rfl⟩ nilP (hK.sub (tys' := []) [] rfl) hS hl.1 rfl (Nat.le_of_ble_eq_true rfl) dX1_matters_9 ⟨Nat.zero_le _, Nat.zero_le _⟩ (fun H locs hk1 hS => ?_)
  replace hP := keptP hP hk1
  refine tc_int (y := bI true) (by rw [inB_t (by omega) (by omega) (by decide)]) ?_
  refine zF_eq (tgt := 19) hx hb dX1_matters_12 (by decide) (by decide) ?_
  refine lv_iconst (v := nI 0) hx hb dX1_matters_15 (by decide) ?_
  refine lv_goto (tgt := 20) hx hb dX1_matters_16 (by decide) ?_
  refine va_put (D := D) (ci := 1) (v := .int (nI 0)) (ty := .int) (C := RX1) (T := TX1) (N := 13) hx hb hts hin0 tyX1 tyX1_ok nmX1 hown hK hP hD hS 0 rfl rfl 0 (by decide) (hts (.fieldLink RX1 45 "RumourReasonerModel" "thrown" "I") (by decide +kernel)) (fun _ h9 => h9) rfl (by decide +kernel) rfl rfl (Nat.le_of_ble_eq_true rfl) dX1_matters_20 (fun H locs hP hD hS => ?_)
  have hP : va_P D vwCl (wM bd cI cZ cJ (nI 0) n kd fi se sd tr on sy lt ru lg rs) H := hP
  have hD : va_D A (wM bd cI cZ cJ (nI 0) n kd fi se sd tr on sy lt ru lg rs) := hD
  refine lv_aload_n hx hb dX1_matters_23 rfl (lv_at hl 0 rfl) ?_
  refine va_get (D := D) (ci := 1) (v := .int (nI 0)) (C := RX1) (T := TX1) (N := 13) hx hb hts hin0 hown hK hP 0 rfl rfl 0 (by decide) (hts (.fieldLink RX1 45 "RumourReasonerModel" "thrown" "I") (by decide +kernel)) (fun _ h9 => h9) rfl dX1_matters_24 ?_
  refine zF_ne (tgt := 38) hx hb dX1_matters_27 (by decide) (rfl) ?_
  refine lv_aload_n hx hb dX1_matters_30 rfl (lv_at hl 0 rfl) ?_
  refine lv_iload_n hx hb dX1_matters_31 rfl (lv_at hl 1 rfl) ?_
  refine puI_V (own := RX1) (As := [.int (nI a)]) (rest := []) (C := RX1) (ci := 1) (q0 := 0) ⟨hx, hb, hml, hown, hts⟩ (c_X1_isHeard l D bd cI cZ cJ (nI 0) n kd fi se sd tr on sy lt ru lg rs hM a (by omega)) gX1_matters_X1_isHeard rfl ⟨rfl, rfl⟩ 1 rfl (by decide +kernel) ⟨Nat.le_of_ble_eq_true rfl, Nat.le_of_ble_eq_true rfl⟩ hP hK rfl rfl rfl hS hl.1 rfl (Nat.le_of_ble_eq_true rfl) dX1_matters_32 ⟨Nat.zero_le _, Nat.zero_le _⟩ (fun H locs hk1 hS => ?_)
  replace hP := keptP hP hk1
  refine lv_if_ne (tgt := 40) hx hb dX1_matters_35 (by decide) (fun c_1 => ?_) (fun c_1 => ?_)
  · have e_35 := bI_1 c_1
    refine lv_aload_n hx hb dX1_matters_40 rfl (lv_at hl 0 rfl) ?_
    refine muI_V (own := RX1) (As := []) (rest := []) (C := RX1) (ci := 1) (q0 := 0) (A1 := A) ⟨hx, hb, hml, hown, hts⟩ (c_X1_present l D bd cI cZ cJ (nI 0) n kd fi se sd tr on sy lt ru lg rs hM hF) gX1_matters_X1_present rfl ⟨rfl, rfl⟩ 0 rfl (by decide +kernel) ⟨Nat.le_of_ble_eq_true rfl, Nat.le_of_ble_eq_true rfl⟩ hP hK hD (fun _ h9 => h9) rfl rfl rfl hS hl.1 rfl (Nat.le_of_ble_eq_true rfl) dX1_matters_41 ⟨Nat.zero_le _, Nat.zero_le _⟩ (fun u2 H locs hP hz1 hk1 hS => ?_)
    replace hP : va_P D vwCl (wM bd cI cZ cJ (nI 0) n kd fi se sd tr on sy lt ru lg u2) H := hP
    replace hD : va_D A (wM bd cI cZ cJ (nI 0) n kd fi se sd tr on sy lt ru lg u2) := sameD2 hD rfl
    refine lv_iload_n hx hb dX1_matters_44 rfl (lv_at hl 2 rfl) ?_
    refine puI_S (own := RX1) (As := [.int (nI (mIt sy (wv kd fi se) ru (hsS tr on lt 6) 12)), .int (nI b)]) (rest := []) ⟨hx, hb, hml, hown, hts⟩ (c_X1_valueIn l D (mIt sy (wv kd fi se) ru (hsS tr on lt 6) 12) b (mIt_lt hM _ _) (by omega)) gX1_matters_X1_valueIn rfl ⟨rfl, rfl⟩ 2 rfl (by decide +kernel) ⟨Nat.le_of_ble_eq_true rfl, Nat.le_of_ble_eq_true rfl⟩ nilP (hK.sub (tys' := []) [] rfl) hS hl.1 rfl (Nat.le_of_ble_eq_true rfl) dX1_matters_45 ⟨Nat.zero_le _, Nat.zero_le _⟩ (fun H locs hk1 hS => ?_)
    replace hP := keptP hP hk1
    refine lv_aload_n hx hb dX1_matters_48 rfl (lv_at hl 0 rfl) ?_
    refine lv_aload_n hx hb dX1_matters_49 rfl (lv_at hl 0 rfl) ?_
    refine puI_V (own := RX1) (As := []) (rest := [.ref (bd 0), .int (nI (dg (mIt sy (wv kd fi se) ru (hsS tr on lt 6) 12) b))]) (C := RX1) (ci := 1) (q0 := 0) ⟨hx, hb, hml, hown, hts⟩ (c_X1_heardSet l D bd cI cZ cJ (nI 0) n kd fi se sd tr on sy lt ru lg u2 hM) gX1_matters_X1_heardSet rfl ⟨rfl, rfl⟩ 0 rfl (by decide +kernel) ⟨Nat.le_of_ble_eq_true rfl, Nat.le_of_ble_eq_true rfl⟩ hP hK rfl rfl rfl hS hl.1 rfl (Nat.le_of_ble_eq_true rfl) dX1_matters_50 ⟨Nat.zero_le _, Nat.zero_le _⟩ (fun H locs hk1 hS => ?_)
    replace hP := keptP hP hk1
    refine lv_iconst (v := nI 1) hx hb dX1_matters_53 (by decide) ?_
    refine lv_iload_n hx hb dX1_matters_54 rfl (lv_at hl 1 rfl) ?_
    refine lv_ishl hx hb dX1_matters_55 ?_
    refine tc_int (y := nI (2 ^ a)) (shl1 (by omega)) ?_
    refine lv_iconst (v := (-1)) hx hb dX1_matters_56 (by decide) ?_
    refine lv_ixor hx hb dX1_matters_57 ?_
    refine lv_iand hx hb dX1_matters_58 ?_
    refine tc_int (y := nI (hsS tr on lt 6 &&& (63 ^^^ 2 ^ a))) (andnot (k := 6) hh0) ?_
    refine muI_V (own := RX1) (As := [.int (nI (hsS tr on lt 6 &&& (63 ^^^ 2 ^ a)))]) (rest := [.int (nI (dg (mIt sy (wv kd fi se) ru (hsS tr on lt 6) 12) b))]) (C := RX1) (ci := 1) (q0 := 0) (A1 := A) ⟨hx, hb, hml, hown, hts⟩ (c_X1_settle l D bd cI cZ cJ (nI 0) n kd fi se sd tr on sy lt ru lg u2 hM hF (hsS tr on lt 6 &&& (63 ^^^ 2 ^ a)) (and_lt64 hh0)) gX1_matters_X1_settle rfl ⟨rfl, rfl⟩ 1 rfl (by decide +kernel) ⟨Nat.le_of_ble_eq_true rfl, Nat.le_of_ble_eq_true rfl⟩ hP hK hD (fun _ h9 => h9) rfl rfl rfl hS hl.1 rfl (Nat.le_of_ble_eq_true rfl) dX1_matters_59 ⟨Nat.zero_le _, Nat.zero_le _⟩ (fun u3 H locs hP hz1 hk1 hS => ?_)
    replace hP : va_P D vwCl (wM bd cI cZ cJ (nI 0) n kd fi se sd tr on sy lt ru lg u3) H := hP
    replace hD : va_D A (wM bd cI cZ cJ (nI 0) n kd fi se sd tr on sy lt ru lg u3) := sameD2 hD rfl
    refine lv_iload_n hx hb dX1_matters_62 rfl (lv_at hl 2 rfl) ?_
    refine puI_S (own := RX1) (As := [.int (nI (mIt sy (wv kd fi se) ru (hsS tr on lt 6 &&& (63 ^^^ 2 ^ a)) 12)), .int (nI b)]) (rest := [.int (nI (dg (mIt sy (wv kd fi se) ru (hsS tr on lt 6) 12) b))]) ⟨hx, hb, hml, hown, hts⟩ (c_X1_valueIn l D (mIt sy (wv kd fi se) ru (hsS tr on lt 6 &&& (63 ^^^ 2 ^ a)) 12) b (mIt_lt hM _ _) (by omega)) gX1_matters_X1_valueIn rfl ⟨rfl, rfl⟩ 2 rfl (by decide +kernel) ⟨Nat.le_of_ble_eq_true rfl, Nat.le_of_ble_eq_true rfl⟩ nilP (hK.sub (tys' := []) [] rfl) hS hl.1 rfl (Nat.le_of_ble_eq_true rfl) dX1_matters_63 ⟨Nat.zero_le _, Nat.zero_le _⟩ (fun H locs hk1 hS => ?_)
    replace hP := keptP hP hk1
    refine lv_icmp_eq (tgt := 73) hx hb dX1_matters_66 (by decide) (fun c_4 => ?_) (fun c_4 => ?_)
    · have e_66 : decide (dg (mIt sy (wv kd fi se) ru (hsS tr on lt 6) 12) b ≠ dg (mIt sy (wv kd fi se) ru (hsS tr on lt 6 &&& (63 ^^^ 2 ^ a)) 12) b) = false := decide_eq_false (fun q => q ((nI_eq (Nat.lt_trans (dg_lt _ _) (by decide)) (Nat.lt_trans (dg_lt _ _) (by decide))).mp c_4))
      refine lv_iconst (v := nI 0) hx hb dX1_matters_73 (by decide) ?_
      exact kret _ u3 _ _ _ _ (by rw [e_35, e_66]; rfl) hP hS dX1_matters_74
    · have e_66 : decide (dg (mIt sy (wv kd fi se) ru (hsS tr on lt 6) 12) b ≠ dg (mIt sy (wv kd fi se) ru (hsS tr on lt 6 &&& (63 ^^^ 2 ^ a)) 12) b) = true := decide_eq_true (fun q => c_4 (by rw [q]))
      refine lv_iconst (v := nI 1) hx hb dX1_matters_69 (by decide) ?_
      refine lv_goto (tgt := 74) hx hb dX1_matters_70 (by decide) ?_
      exact kret _ u3 _ _ _ _ (by rw [e_35, e_66]; rfl) hP hS dX1_matters_74
  · have e_35 := bI_0 c_1
    refine lv_iconst (v := nI 0) hx hb dX1_matters_38 (by decide) ?_
    exact kret _ rs _ _ _ _ (by rw [e_35]; rfl) hP hS dX1_matters_39

set_option maxHeartbeats 4000000 in
set_option maxRecDepth 100000 in
theorem d_X1_matters_1 (y : Int32) (x : Int32) (hx9 : x < 0 ∨ nI 6 ≤ x) : MuI l yX1_matters wsX1_matters rm_X1_matters D vwCl (wM bd cI cZ cJ th n kd fi se sd tr on sy lt ru lg rs) (fun u => wM bd cI cZ cJ (nI 1) n kd fi se sd tr on sy lt ru lg u) (tyC cI cZ cJ) [.ref (bd 0), .int x, .int y] (bI false) := by
  refine MuI.of (cc := cX1_matters) (maxL := 3) (by decide) rfl (Nat.le_of_ble_eq_true rfl) (bI_n _) ?_
  intro A p e s m args below meth c Q ls hx hb hml hown hts hP hK hD kret hl
  have hown : s.vm.findClass RX1 = some m.cls := hown
  have hl : lv_has ls 3 [(0, .ref (bd 0)), (1, .int x), (2, .int y)] := hl
  have hS : va_S A s.heap s.heap [] := va_S.rf
  have hin0 : ∀ w ∈ u_ws RX1 TX1 13, w ∈ wsX1_matters := hin_X1_matters
  refine lv_aload_n hx hb dX1_matters_0 rfl (lv_at hl 0 rfl) ?_
  refine lv_iload_n hx hb dX1_matters_1 rfl (lv_at hl 1 rfl) ?_
  refine puI_S (own := RX1) (As := [.int x]) (rest := [.ref (bd 0)]) ⟨hx, hb, hml, hown, hts⟩ (c_X1_isSource l D x) gX1_matters_X1_isSource rfl ⟨rfl, rfl⟩ 1 rfl (by decide +kernel) ⟨Nat.le_of_ble_eq_true rfl, Nat.le_of_ble_eq_true rfl⟩ nilP (hK.sub (tys' := []) [] rfl) hS hl.1 rfl (Nat.le_of_ble_eq_true rfl) dX1_matters_2 ⟨Nat.zero_le _, Nat.zero_le _⟩ (fun H locs hk1 hS => ?_)
  replace hP := keptP hP hk1
  refine tc_int (y := bI false) (by rw [inB_bad hx9 (by decide)]) ?_
  refine zT_eq (tgt := 19) hx hb dX1_matters_5 (by decide) (rfl) ?_
  refine lv_iconst (v := nI 1) hx hb dX1_matters_19 (by decide) ?_
  refine va_put (D := D) (ci := 1) (v := .int (nI 1)) (ty := .int) (C := RX1) (T := TX1) (N := 13) hx hb hts hin0 tyX1 tyX1_ok nmX1 hown hK hP hD hS 0 rfl rfl 0 (by decide) (hts (.fieldLink RX1 45 "RumourReasonerModel" "thrown" "I") (by decide +kernel)) (fun _ h9 => h9) rfl (by decide +kernel) rfl rfl (Nat.le_of_ble_eq_true rfl) dX1_matters_20 (fun H locs hP hD hS => ?_)
  have hP : va_P D vwCl (wM bd cI cZ cJ (nI 1) n kd fi se sd tr on sy lt ru lg rs) H := hP
  have hD : va_D A (wM bd cI cZ cJ (nI 1) n kd fi se sd tr on sy lt ru lg rs) := hD
  refine lv_aload_n hx hb dX1_matters_23 rfl (lv_at hl 0 rfl) ?_
  refine va_get (D := D) (ci := 1) (v := .int (nI 1)) (C := RX1) (T := TX1) (N := 13) hx hb hts hin0 hown hK hP 0 rfl rfl 0 (by decide) (hts (.fieldLink RX1 45 "RumourReasonerModel" "thrown" "I") (by decide +kernel)) (fun _ h9 => h9) rfl dX1_matters_24 ?_
  refine zT_ne (tgt := 38) hx hb dX1_matters_27 (by decide) (by decide) ?_
  refine lv_iconst (v := nI 0) hx hb dX1_matters_38 (by decide) ?_
  exact kret _ rs _ _ _ _ (rfl) hP hS dX1_matters_39

set_option maxHeartbeats 4000000 in
set_option maxRecDepth 100000 in
theorem d_X1_matters_2 (a : Nat) (ha : a < 6) (x : Int32) (hx9 : x < 0 ∨ nI 6 ≤ x) : MuI l yX1_matters wsX1_matters rm_X1_matters D vwCl (wM bd cI cZ cJ th n kd fi se sd tr on sy lt ru lg rs) (fun u => wM bd cI cZ cJ (nI 1) n kd fi se sd tr on sy lt ru lg u) (tyC cI cZ cJ) [.ref (bd 0), .int (nI a), .int x] (bI false) := by
  refine MuI.of (cc := cX1_matters) (maxL := 3) (by decide) rfl (Nat.le_of_ble_eq_true rfl) (bI_n _) ?_
  intro A p e s m args below meth c Q ls hx hb hml hown hts hP hK hD kret hl
  have hown : s.vm.findClass RX1 = some m.cls := hown
  have hl : lv_has ls 3 [(0, .ref (bd 0)), (1, .int (nI a)), (2, .int x)] := hl
  have hS : va_S A s.heap s.heap [] := va_S.rf
  have hin0 : ∀ w ∈ u_ws RX1 TX1 13, w ∈ wsX1_matters := hin_X1_matters
  refine lv_aload_n hx hb dX1_matters_0 rfl (lv_at hl 0 rfl) ?_
  refine lv_iload_n hx hb dX1_matters_1 rfl (lv_at hl 1 rfl) ?_
  refine puI_S (own := RX1) (As := [.int (nI a)]) (rest := [.ref (bd 0)]) ⟨hx, hb, hml, hown, hts⟩ (c_X1_isSource l D (nI a)) gX1_matters_X1_isSource rfl ⟨rfl, rfl⟩ 1 rfl (by decide +kernel) ⟨Nat.le_of_ble_eq_true rfl, Nat.le_of_ble_eq_true rfl⟩ nilP (hK.sub (tys' := []) [] rfl) hS hl.1 rfl (Nat.le_of_ble_eq_true rfl) dX1_matters_2 ⟨Nat.zero_le _, Nat.zero_le _⟩ (fun H locs hk1 hS => ?_)
  replace hP := keptP hP hk1
  refine tc_int (y := bI true) (by rw [inB_t (by omega) (by omega) (by decide)]) ?_
  refine zF_eq (tgt := 19) hx hb dX1_matters_5 (by decide) (by decide) ?_
  refine lv_iload_n hx hb dX1_matters_8 rfl (lv_at hl 2 rfl) ?_
  refine puI_S (own := RX1) (As := [.int x]) (rest := [.ref (bd 0)]) ⟨hx, hb, hml, hown, hts⟩ (c_X1_isAtom l D x) gX1_matters_X1_isAtom rfl ⟨rfl, rfl⟩ 1 rfl (by decide +kernel) ⟨Nat.le_of_ble_eq_true rfl, Nat.le_of_ble_eq_true rfl⟩ nilP (hK.sub (tys' := []) [] rfl) hS hl.1 rfl (Nat.le_of_ble_eq_true rfl) dX1_matters_9 ⟨Nat.zero_le _, Nat.zero_le _⟩ (fun H locs hk1 hS => ?_)
  replace hP := keptP hP hk1
  refine tc_int (y := bI false) (by rw [inB_bad hx9 (by decide)]) ?_
  refine zT_eq (tgt := 19) hx hb dX1_matters_12 (by decide) (rfl) ?_
  refine lv_iconst (v := nI 1) hx hb dX1_matters_19 (by decide) ?_
  refine va_put (D := D) (ci := 1) (v := .int (nI 1)) (ty := .int) (C := RX1) (T := TX1) (N := 13) hx hb hts hin0 tyX1 tyX1_ok nmX1 hown hK hP hD hS 0 rfl rfl 0 (by decide) (hts (.fieldLink RX1 45 "RumourReasonerModel" "thrown" "I") (by decide +kernel)) (fun _ h9 => h9) rfl (by decide +kernel) rfl rfl (Nat.le_of_ble_eq_true rfl) dX1_matters_20 (fun H locs hP hD hS => ?_)
  have hP : va_P D vwCl (wM bd cI cZ cJ (nI 1) n kd fi se sd tr on sy lt ru lg rs) H := hP
  have hD : va_D A (wM bd cI cZ cJ (nI 1) n kd fi se sd tr on sy lt ru lg rs) := hD
  refine lv_aload_n hx hb dX1_matters_23 rfl (lv_at hl 0 rfl) ?_
  refine va_get (D := D) (ci := 1) (v := .int (nI 1)) (C := RX1) (T := TX1) (N := 13) hx hb hts hin0 hown hK hP 0 rfl rfl 0 (by decide) (hts (.fieldLink RX1 45 "RumourReasonerModel" "thrown" "I") (by decide +kernel)) (fun _ h9 => h9) rfl dX1_matters_24 ?_
  refine zT_ne (tgt := 38) hx hb dX1_matters_27 (by decide) (by decide) ?_
  refine lv_iconst (v := nI 0) hx hb dX1_matters_38 (by decide) ?_
  exact kret _ rs _ _ _ _ (rfl) hP hS dX1_matters_39

theorem hin_X1_contradicted : ∀ w ∈ wsX10, w ∈ wsX1_contradicted := by first | exact fun _ h => List.mem_cons_of_mem _ (List.mem_append_right _ h) | exact fun _ h => List.mem_cons_of_mem _ (List.mem_append_left _ (List.mem_append_right _ h)) | exact fun _ h => List.mem_cons_of_mem _ (List.mem_append_left _ (List.mem_append_left _ (List.mem_append_right _ h))) | exact fun _ h => List.mem_cons_of_mem _ (List.mem_append_left _ (List.mem_append_left _ (List.mem_append_left _ (List.mem_append_right _ h)))) | decide +kernel
def rm_X1_contradicted : Room := { frames := 5, cells := 0, slots := 0, locals := 114 }
set_option maxHeartbeats 4000000 in
set_option maxRecDepth 100000 in
theorem c_X1_contradicted (hM : OKM n kd fi se tr sy lt lg ru) (hF : ∀ h, h < 64 → mIt sy (wv kd fi se) ru h 13 = mIt sy (wv kd fi se) ru h 12) (a : Nat) (ha : a < 6) : MuI l yX1_contradicted wsX1_contradicted rm_X1_contradicted D vwCl (wM bd cI cZ cJ th n kd fi se sd tr on sy lt ru lg rs) (fun u => wM bd cI cZ cJ (nI 0) n kd fi se sd tr on sy lt ru lg u) (tyC cI cZ cJ) [.ref (bd 0), .int (nI a)] (nI (ctS (fun b => sy (6 * a + b)) (fun b => dg (mIt sy (wv kd fi se) ru (hsS tr on lt 6) 12) b) 6)) := by
  refine MuI.of (cc := cX1_contradicted) (maxL := 7) (by decide) rfl (Nat.le_of_ble_eq_true rfl) (vp_nar_int _) ?_
  intro A p e s m args below meth c Q ls hx hb hml hown hts hP hK hD kret hl
  have hown : s.vm.findClass RX1 = some m.cls := hown
  have hl : lv_has ls 7 [(0, .ref (bd 0)), (1, .int (nI a))] := hl
  have hS : va_S A s.heap s.heap [] := va_S.rf
  have hin0 : ∀ w ∈ u_ws RX1 TX1 13, w ∈ wsX1_contradicted := hin_X1_contradicted
  refine lv_aload_n hx hb dX1_contradicted_0 rfl (lv_at hl 0 rfl) ?_
  refine lv_iconst (v := nI 0) hx hb dX1_contradicted_1 (by decide) ?_
  refine va_put (D := D) (ci := 1) (v := .int (nI 0)) (ty := .int) (C := RX1) (T := TX1) (N := 13) hx hb hts hin0 tyX1 tyX1_ok nmX1 hown hK hP hD hS 0 rfl rfl 0 (by decide) (hts (.fieldLink RX1 45 "RumourReasonerModel" "thrown" "I") (by decide +kernel)) (fun _ h9 => h9) rfl (by decide +kernel) rfl rfl (Nat.le_of_ble_eq_true rfl) dX1_contradicted_2 (fun H locs hP hD hS => ?_)
  have hP : va_P D vwCl (wM bd cI cZ cJ (nI 0) n kd fi se sd tr on sy lt ru lg rs) H := hP
  have hD : va_D A (wM bd cI cZ cJ (nI 0) n kd fi se sd tr on sy lt ru lg rs) := hD
  refine lv_iload_n hx hb dX1_contradicted_5 rfl (lv_at hl 1 rfl) ?_
  refine puI_S (own := RX1) (As := [.int (nI a)]) (rest := []) ⟨hx, hb, hml, hown, hts⟩ (c_X1_isSource l D (nI a)) gX1_contradicted_X1_isSource rfl ⟨rfl, rfl⟩ 1 rfl (by decide +kernel) ⟨Nat.le_of_ble_eq_true rfl, Nat.le_of_ble_eq_true rfl⟩ nilP (hK.sub (tys' := []) [] rfl) hS hl.1 rfl (Nat.le_of_ble_eq_true rfl) dX1_contradicted_6 ⟨Nat.zero_le _, Nat.zero_le _⟩ (fun H locs hk1 hS => ?_)
  replace hP := keptP hP hk1
  refine tc_int (y := bI true) (by rw [inB_t (by omega) (by omega) (by decide)]) ?_
  refine zT_ne (tgt := 18) hx hb dX1_contradicted_9 (by decide) (by decide) ?_
  refine lv_aload_n hx hb dX1_contradicted_18 rfl (lv_at hl 0 rfl) ?_
  refine muI_V (own := RX1) (As := []) (rest := []) (C := RX1) (ci := 1) (q0 := 0) (A1 := A) ⟨hx, hb, hml, hown, hts⟩ (c_X1_present l D bd cI cZ cJ (nI 0) n kd fi se sd tr on sy lt ru lg rs hM hF) gX1_contradicted_X1_present rfl ⟨rfl, rfl⟩ 0 rfl (by decide +kernel) ⟨Nat.le_of_ble_eq_true rfl, Nat.le_of_ble_eq_true rfl⟩ hP hK hD (fun _ h9 => h9) rfl rfl rfl hS hl.1 rfl (Nat.le_of_ble_eq_true rfl) dX1_contradicted_19 ⟨Nat.zero_le _, Nat.zero_le _⟩ (fun u1 H locs hP hz1 hk1 hS => ?_)
  replace hP : va_P D vwCl (wM bd cI cZ cJ (nI 0) n kd fi se sd tr on sy lt ru lg u1) H := hP
  replace hD : va_D A (wM bd cI cZ cJ (nI 0) n kd fi se sd tr on sy lt ru lg u1) := sameD2 hD rfl
  refine lv_istore_n (lv' := [(2, .int (nI (mIt sy (wv kd fi se) ru (hsS tr on lt 6) 12))), (0, .ref (bd 0)), (1, .int (nI a))]) hx hb dX1_contradicted_22 rfl hl (by decide) rfl (fun ls hl => ?_)
  refine lv_iconst (v := nI 0) hx hb dX1_contradicted_23 (by decide) ?_
  refine lv_istore_n (lv' := [(3, .int (nI 0)), (2, .int (nI (mIt sy (wv kd fi se) ru (hsS tr on lt 6) 12))), (0, .ref (bd 0)), (1, .int (nI a))]) hx hb dX1_contradicted_24 rfl hl (by decide) rfl (fun ls hl => ?_)
  refine lv_iconst (v := nI 0) hx hb dX1_contradicted_25 (by decide) ?_
  refine lv_istore (lv' := [(4, .int (nI 0)), (3, .int (nI 0)), (2, .int (nI (mIt sy (wv kd fi se) ru (hsS tr on lt 6) 12))), (0, .ref (bd 0)), (1, .int (nI a))]) hx hb dX1_contradicted_26 hl (by decide) rfl (fun ls hl => ?_)
  have key2 : ∀ (d4 i3 : Nat), i3 + d4 = 6 → ∀ (rs_i3 : Nat → Int32), ∀ (H : Heap) (locs : List Loc) (ls : Array Slot), va_P D vwCl (wM bd cI cZ cJ (nI 0) n kd fi se sd tr on sy lt ru lg rs_i3) H → va_D A (wM bd cI cZ cJ (nI 0) n kd fi se sd tr on sy lt ru lg rs_i3) → va_S A s.heap H locs → lv_has ls 7 [(4, .int (nI i3)), (3, .int (nI (ctS (fun b => sy (6 * a + b)) (fun b => dg (mIt sy (wv kd fi se) ru (hsS tr on lt 6) 12) b) i3))), (2, .int (nI (mIt sy (wv kd fi se) ru (hsS tr on lt 6) 12))), (0, .ref (bd 0)), (1, .int (nI a))] → W p l e rm_X1_contradicted s m args below meth c H locs 0 0 Q (F0 m 28 ls []) := by
    intro d4
    induction d4 with
    | zero =>
      intro i3 hi_i3 rs_i3 H locs ls hP hD hS hl
      obtain rfl : i3 = 6 := by omega
      refine lv_iload hx hb dX1_contradicted_28 (lv_at hl 0 rfl) ?_
      refine lv_bipush (v := nI 6) hx hb dX1_contradicted_30 (by decide) ?_
      refine cT_ge (tgt := 99) hx hb dX1_contradicted_32 (by decide) (nI_le (by omega) (by omega)) ?_
      refine lv_iload_n hx hb dX1_contradicted_99 rfl (lv_at hl 1 rfl) ?_
      exact kret _ rs_i3 _ _ _ _ (rfl) hP hS dX1_contradicted_100
    | succ d4 ih_i3 =>
      intro i3 hi_i3 rs_i3 H locs ls hP hD hS hl
      refine lv_iload hx hb dX1_contradicted_28 (lv_at hl 0 rfl) ?_
      refine lv_bipush (v := nI 6) hx hb dX1_contradicted_30 (by decide) ?_
      refine cF_ge (tgt := 99) hx hb dX1_contradicted_32 (by decide) (nI_ge (by omega) (by omega)) ?_
      refine lv_aload_n hx hb dX1_contradicted_35 rfl (lv_at hl 3 rfl) ?_
      refine va_get (D := D) (ci := 1) (v := .ref (bd 7)) (C := RX1) (T := TX1) (N := 13) hx hb hts hin0 hown hK hP 0 rfl rfl 8 (by decide) (hts (.fieldLink RX1 29 "RumourReasonerModel" "says" "[I") (by decide +kernel)) (fun _ h9 => h9) rfl dX1_contradicted_36 ?_
      refine lv_bipush (v := nI 6) hx hb dX1_contradicted_39 (by decide) ?_
      refine lv_iload_n hx hb dX1_contradicted_41 rfl (lv_at hl 4 rfl) ?_
      refine lv_imul hx hb dX1_contradicted_42 ?_
      refine tc_int (y := nI (6 * a)) (pk_mul _ _) ?_
      refine lv_iload hx hb dX1_contradicted_43 (lv_at hl 0 rfl) ?_
      refine lv_iadd hx hb dX1_contradicted_45 ?_
      refine tc_int (y := nI ((6 * a) + i3)) (nI_add _ _) ?_
      refine ld_ni hx hb hK hP 7 0 rfl rfl (j := ((6 * a) + i3)) (by omega) (by decide) dX1_contradicted_46 ?_
      refine lv_istore (lv' := [(5, .int (nI (sy ((6 * a) + i3)))), (4, .int (nI i3)), (3, .int (nI (ctS (fun b => sy (6 * a + b)) (fun b => dg (mIt sy (wv kd fi se) ru (hsS tr on lt 6) 12) b) i3))), (2, .int (nI (mIt sy (wv kd fi se) ru (hsS tr on lt 6) 12))), (0, .ref (bd 0)), (1, .int (nI a))]) hx hb dX1_contradicted_47 hl (by decide) rfl (fun ls hl => ?_)
      refine lv_iload_n hx hb dX1_contradicted_49 rfl (lv_at hl 3 rfl) ?_
      refine lv_iload hx hb dX1_contradicted_50 (lv_at hl 1 rfl) ?_
      refine puI_S (own := RX1) (As := [.int (nI (mIt sy (wv kd fi se) ru (hsS tr on lt 6) 12)), .int (nI i3)]) (rest := []) ⟨hx, hb, hml, hown, hts⟩ (c_X1_valueIn l D (mIt sy (wv kd fi se) ru (hsS tr on lt 6) 12) i3 (mIt_lt hM _ _) (by omega)) gX1_contradicted_X1_valueIn rfl ⟨rfl, rfl⟩ 2 rfl (by decide +kernel) ⟨Nat.le_of_ble_eq_true rfl, Nat.le_of_ble_eq_true rfl⟩ nilP (hK.sub (tys' := []) [] rfl) hS hl.1 rfl (Nat.le_of_ble_eq_true rfl) dX1_contradicted_52 ⟨Nat.zero_le _, Nat.zero_le _⟩ (fun H locs hk1 hS => ?_)
      replace hP := keptP hP hk1
      refine lv_istore (lv' := [(6, .int (nI (dg (mIt sy (wv kd fi se) ru (hsS tr on lt 6) 12) i3))), (5, .int (nI (sy ((6 * a) + i3)))), (4, .int (nI i3)), (3, .int (nI (ctS (fun b => sy (6 * a + b)) (fun b => dg (mIt sy (wv kd fi se) ru (hsS tr on lt 6) 12) b) i3))), (2, .int (nI (mIt sy (wv kd fi se) ru (hsS tr on lt 6) 12))), (0, .ref (bd 0)), (1, .int (nI a))]) hx hb dX1_contradicted_55 hl (by decide) rfl (fun ls hl => ?_)
      refine lv_iload_n hx hb dX1_contradicted_57 rfl (lv_at hl 3 rfl) ?_
      refine lv_iload hx hb dX1_contradicted_58 (lv_at hl 1 rfl) ?_
      refine lv_iconst (v := nI 1) hx hb dX1_contradicted_60 (by decide) ?_
      refine lv_iand hx hb dX1_contradicted_61 ?_
      refine tc_int (y := nI (sy (6 * a + i3) % 2)) (told_1 (hM.2.2.1 _ (by omega))) ?_
      refine lv_if_eq (tgt := 72) hx hb dX1_contradicted_62 (by decide) (fun c_5 => ?_) (fun c_5 => ?_)
      · have e_62 : told (sy (6 * a + i3)) true = false := (told_t (hM.2.2.1 _ (by omega))).mp c_5
        refine lv_iload hx hb dX1_contradicted_72 (lv_at hl 1 rfl) ?_
        refine lv_iconst (v := nI 2) hx hb dX1_contradicted_74 (by decide) ?_
        refine lv_iand hx hb dX1_contradicted_75 ?_
        refine tc_int (y := nI (2 * (sy (6 * a + i3) / 2 % 2))) (told_2 (hM.2.2.1 _ (by omega))) ?_
        refine lv_if_eq (tgt := 90) hx hb dX1_contradicted_76 (by decide) (fun c_6 => ?_) (fun c_6 => ?_)
        · have e_76 : told (sy (6 * a + i3)) false = false := (told_f (hM.2.2.1 _ (by omega))).mp c_6
          refine lv_iconst (v := nI 0) hx hb dX1_contradicted_90 (by decide) ?_
          refine lv_iadd hx hb dX1_contradicted_91 ?_
          refine tc_int (y := nI ((ctS (fun b => sy (6 * a + b)) (fun b => dg (mIt sy (wv kd fi se) ru (hsS tr on lt 6) 12) b) i3) + 0)) (nI_add _ _) ?_
          refine lv_istore_n (lv' := [(3, .int (nI ((ctS (fun b => sy (6 * a + b)) (fun b => dg (mIt sy (wv kd fi se) ru (hsS tr on lt 6) 12) b) i3) + 0))), (6, .int (nI (dg (mIt sy (wv kd fi se) ru (hsS tr on lt 6) 12) i3))), (5, .int (nI (sy ((6 * a) + i3)))), (4, .int (nI i3)), (2, .int (nI (mIt sy (wv kd fi se) ru (hsS tr on lt 6) 12))), (0, .ref (bd 0)), (1, .int (nI a))]) hx hb dX1_contradicted_92 rfl hl (by decide) rfl (fun ls hl => ?_)
          refine lv_iinc (v := nI (i3 + 1)) (lv' := [(4, .int (nI (i3 + 1))), (3, .int (nI ((ctS (fun b => sy (6 * a + b)) (fun b => dg (mIt sy (wv kd fi se) ru (hsS tr on lt 6) 12) b) i3) + 0))), (6, .int (nI (dg (mIt sy (wv kd fi se) ru (hsS tr on lt 6) 12) i3))), (5, .int (nI (sy ((6 * a) + i3)))), (2, .int (nI (mIt sy (wv kd fi se) ru (hsS tr on lt 6) 12))), (0, .ref (bd 0)), (1, .int (nI a))]) hx hb dX1_contradicted_93 hl (k := 3) rfl (iinc1 _) (by decide) rfl (fun ls hl => ?_)
          refine lv_goto (tgt := 28) hx hb dX1_contradicted_96 (by decide) ?_
          exact ih_i3 (i3 + 1) (by omega) rs_i3 H locs ls hP hD hS (by have h9 := lv_sub hl [0, 1, 4, 5, 6] rfl; rw [show ctS (fun b => sy (6 * a + b)) (fun b => dg (mIt sy (wv kd fi se) ru (hsS tr on lt 6) 12) b) (i3 + 1) = ctS (fun b => sy (6 * a + b)) (fun b => dg (mIt sy (wv kd fi se) ru (hsS tr on lt 6) 12) b) i3 from if_neg (fun q => Bool.noConfusion ((show agB (sy (6 * a + i3)) (dg (mIt sy (wv kd fi se) ru (hsS tr on lt 6) 12) i3) = false from by unfold agB; simp only [e_62, e_76]; rfl).symm.trans q))]; exact h9)
        · have e_76 : told (sy (6 * a + i3)) false = true := ts_nf (fun q => c_6 ((told_f (hM.2.2.1 _ (by omega))).mpr q))
          refine lv_iload hx hb dX1_contradicted_79 (lv_at hl 0 rfl) ?_
          refine lv_iconst (v := nI 1) hx hb dX1_contradicted_81 (by decide) ?_
          refine lv_iand hx hb dX1_contradicted_82 ?_
          refine tc_int (y := nI (dg (mIt sy (wv kd fi se) ru (hsS tr on lt 6) 12) i3 % 2)) (told_1 (dg_lt _ _)) ?_
          refine lv_if_eq (tgt := 90) hx hb dX1_contradicted_83 (by decide) (fun c_7 => ?_) (fun c_7 => ?_)
          · have e_83 : told (dg (mIt sy (wv kd fi se) ru (hsS tr on lt 6) 12) i3) true = false := (told_t (dg_lt _ _)).mp c_7
            refine lv_iconst (v := nI 0) hx hb dX1_contradicted_90 (by decide) ?_
            refine lv_iadd hx hb dX1_contradicted_91 ?_
            refine tc_int (y := nI ((ctS (fun b => sy (6 * a + b)) (fun b => dg (mIt sy (wv kd fi se) ru (hsS tr on lt 6) 12) b) i3) + 0)) (nI_add _ _) ?_
            refine lv_istore_n (lv' := [(3, .int (nI ((ctS (fun b => sy (6 * a + b)) (fun b => dg (mIt sy (wv kd fi se) ru (hsS tr on lt 6) 12) b) i3) + 0))), (6, .int (nI (dg (mIt sy (wv kd fi se) ru (hsS tr on lt 6) 12) i3))), (5, .int (nI (sy ((6 * a) + i3)))), (4, .int (nI i3)), (2, .int (nI (mIt sy (wv kd fi se) ru (hsS tr on lt 6) 12))), (0, .ref (bd 0)), (1, .int (nI a))]) hx hb dX1_contradicted_92 rfl hl (by decide) rfl (fun ls hl => ?_)
            refine lv_iinc (v := nI (i3 + 1)) (lv' := [(4, .int (nI (i3 + 1))), (3, .int (nI ((ctS (fun b => sy (6 * a + b)) (fun b => dg (mIt sy (wv kd fi se) ru (hsS tr on lt 6) 12) b) i3) + 0))), (6, .int (nI (dg (mIt sy (wv kd fi se) ru (hsS tr on lt 6) 12) i3))), (5, .int (nI (sy ((6 * a) + i3)))), (2, .int (nI (mIt sy (wv kd fi se) ru (hsS tr on lt 6) 12))), (0, .ref (bd 0)), (1, .int (nI a))]) hx hb dX1_contradicted_93 hl (k := 3) rfl (iinc1 _) (by decide) rfl (fun ls hl => ?_)
            refine lv_goto (tgt := 28) hx hb dX1_contradicted_96 (by decide) ?_
            exact ih_i3 (i3 + 1) (by omega) rs_i3 H locs ls hP hD hS (by have h9 := lv_sub hl [0, 1, 4, 5, 6] rfl; rw [show ctS (fun b => sy (6 * a + b)) (fun b => dg (mIt sy (wv kd fi se) ru (hsS tr on lt 6) 12) b) (i3 + 1) = ctS (fun b => sy (6 * a + b)) (fun b => dg (mIt sy (wv kd fi se) ru (hsS tr on lt 6) 12) b) i3 from if_neg (fun q => Bool.noConfusion ((show agB (sy (6 * a + i3)) (dg (mIt sy (wv kd fi se) ru (hsS tr on lt 6) 12) i3) = false from by unfold agB; simp only [e_62, e_76, e_83]; rfl).symm.trans q))]; exact h9)
          · have e_83 : told (dg (mIt sy (wv kd fi se) ru (hsS tr on lt 6) 12) i3) true = true := ts_nf (fun q => c_7 ((told_t (dg_lt _ _)).mpr q))
            refine lv_iconst (v := nI 1) hx hb dX1_contradicted_86 (by decide) ?_
            refine lv_goto (tgt := 91) hx hb dX1_contradicted_87 (by decide) ?_
            refine lv_iadd hx hb dX1_contradicted_91 ?_
            refine tc_int (y := nI ((ctS (fun b => sy (6 * a + b)) (fun b => dg (mIt sy (wv kd fi se) ru (hsS tr on lt 6) 12) b) i3) + 1)) (nI_add _ _) ?_
            refine lv_istore_n (lv' := [(3, .int (nI ((ctS (fun b => sy (6 * a + b)) (fun b => dg (mIt sy (wv kd fi se) ru (hsS tr on lt 6) 12) b) i3) + 1))), (6, .int (nI (dg (mIt sy (wv kd fi se) ru (hsS tr on lt 6) 12) i3))), (5, .int (nI (sy ((6 * a) + i3)))), (4, .int (nI i3)), (2, .int (nI (mIt sy (wv kd fi se) ru (hsS tr on lt 6) 12))), (0, .ref (bd 0)), (1, .int (nI a))]) hx hb dX1_contradicted_92 rfl hl (by decide) rfl (fun ls hl => ?_)
            refine lv_iinc (v := nI (i3 + 1)) (lv' := [(4, .int (nI (i3 + 1))), (3, .int (nI ((ctS (fun b => sy (6 * a + b)) (fun b => dg (mIt sy (wv kd fi se) ru (hsS tr on lt 6) 12) b) i3) + 1))), (6, .int (nI (dg (mIt sy (wv kd fi se) ru (hsS tr on lt 6) 12) i3))), (5, .int (nI (sy ((6 * a) + i3)))), (2, .int (nI (mIt sy (wv kd fi se) ru (hsS tr on lt 6) 12))), (0, .ref (bd 0)), (1, .int (nI a))]) hx hb dX1_contradicted_93 hl (k := 3) rfl (iinc1 _) (by decide) rfl (fun ls hl => ?_)
            refine lv_goto (tgt := 28) hx hb dX1_contradicted_96 (by decide) ?_
            exact ih_i3 (i3 + 1) (by omega) rs_i3 H locs ls hP hD hS (by have h9 := lv_sub hl [0, 1, 4, 5, 6] rfl; rw [show ctS (fun b => sy (6 * a + b)) (fun b => dg (mIt sy (wv kd fi se) ru (hsS tr on lt 6) 12) b) (i3 + 1) = ctS (fun b => sy (6 * a + b)) (fun b => dg (mIt sy (wv kd fi se) ru (hsS tr on lt 6) 12) b) i3 + 1 from if_pos (by show agB (sy (6 * a + i3)) (dg (mIt sy (wv kd fi se) ru (hsS tr on lt 6) 12) i3) = true; unfold agB; simp only [e_62, e_76, e_83]; rfl)]; exact h9)
      · have e_62 : told (sy (6 * a + i3)) true = true := ts_nf (fun q => c_5 ((told_t (hM.2.2.1 _ (by omega))).mpr q))
        refine lv_iload hx hb dX1_contradicted_65 (lv_at hl 0 rfl) ?_
        refine lv_iconst (v := nI 2) hx hb dX1_contradicted_67 (by decide) ?_
        refine lv_iand hx hb dX1_contradicted_68 ?_
        refine tc_int (y := nI (2 * (dg (mIt sy (wv kd fi se) ru (hsS tr on lt 6) 12) i3 / 2 % 2))) (told_2 (dg_lt _ _)) ?_
        refine lv_if_ne (tgt := 86) hx hb dX1_contradicted_69 (by decide) (fun c_8 => ?_) (fun c_8 => ?_)
        · have e_69 : told (dg (mIt sy (wv kd fi se) ru (hsS tr on lt 6) 12) i3) false = true := ts_nf (fun q => c_8 ((told_f (dg_lt _ _)).mpr q))
          refine lv_iconst (v := nI 1) hx hb dX1_contradicted_86 (by decide) ?_
          refine lv_goto (tgt := 91) hx hb dX1_contradicted_87 (by decide) ?_
          refine lv_iadd hx hb dX1_contradicted_91 ?_
          refine tc_int (y := nI ((ctS (fun b => sy (6 * a + b)) (fun b => dg (mIt sy (wv kd fi se) ru (hsS tr on lt 6) 12) b) i3) + 1)) (nI_add _ _) ?_
          refine lv_istore_n (lv' := [(3, .int (nI ((ctS (fun b => sy (6 * a + b)) (fun b => dg (mIt sy (wv kd fi se) ru (hsS tr on lt 6) 12) b) i3) + 1))), (6, .int (nI (dg (mIt sy (wv kd fi se) ru (hsS tr on lt 6) 12) i3))), (5, .int (nI (sy ((6 * a) + i3)))), (4, .int (nI i3)), (2, .int (nI (mIt sy (wv kd fi se) ru (hsS tr on lt 6) 12))), (0, .ref (bd 0)), (1, .int (nI a))]) hx hb dX1_contradicted_92 rfl hl (by decide) rfl (fun ls hl => ?_)
          refine lv_iinc (v := nI (i3 + 1)) (lv' := [(4, .int (nI (i3 + 1))), (3, .int (nI ((ctS (fun b => sy (6 * a + b)) (fun b => dg (mIt sy (wv kd fi se) ru (hsS tr on lt 6) 12) b) i3) + 1))), (6, .int (nI (dg (mIt sy (wv kd fi se) ru (hsS tr on lt 6) 12) i3))), (5, .int (nI (sy ((6 * a) + i3)))), (2, .int (nI (mIt sy (wv kd fi se) ru (hsS tr on lt 6) 12))), (0, .ref (bd 0)), (1, .int (nI a))]) hx hb dX1_contradicted_93 hl (k := 3) rfl (iinc1 _) (by decide) rfl (fun ls hl => ?_)
          refine lv_goto (tgt := 28) hx hb dX1_contradicted_96 (by decide) ?_
          exact ih_i3 (i3 + 1) (by omega) rs_i3 H locs ls hP hD hS (by have h9 := lv_sub hl [0, 1, 4, 5, 6] rfl; rw [show ctS (fun b => sy (6 * a + b)) (fun b => dg (mIt sy (wv kd fi se) ru (hsS tr on lt 6) 12) b) (i3 + 1) = ctS (fun b => sy (6 * a + b)) (fun b => dg (mIt sy (wv kd fi se) ru (hsS tr on lt 6) 12) b) i3 + 1 from if_pos (by show agB (sy (6 * a + i3)) (dg (mIt sy (wv kd fi se) ru (hsS tr on lt 6) 12) i3) = true; unfold agB; simp only [e_62, e_69]; rfl)]; exact h9)
        · have e_69 : told (dg (mIt sy (wv kd fi se) ru (hsS tr on lt 6) 12) i3) false = false := (told_f (dg_lt _ _)).mp c_8
          refine lv_iload hx hb dX1_contradicted_72 (lv_at hl 1 rfl) ?_
          refine lv_iconst (v := nI 2) hx hb dX1_contradicted_74 (by decide) ?_
          refine lv_iand hx hb dX1_contradicted_75 ?_
          refine tc_int (y := nI (2 * (sy (6 * a + i3) / 2 % 2))) (told_2 (hM.2.2.1 _ (by omega))) ?_
          refine lv_if_eq (tgt := 90) hx hb dX1_contradicted_76 (by decide) (fun c_9 => ?_) (fun c_9 => ?_)
          · have e_76 : told (sy (6 * a + i3)) false = false := (told_f (hM.2.2.1 _ (by omega))).mp c_9
            refine lv_iconst (v := nI 0) hx hb dX1_contradicted_90 (by decide) ?_
            refine lv_iadd hx hb dX1_contradicted_91 ?_
            refine tc_int (y := nI ((ctS (fun b => sy (6 * a + b)) (fun b => dg (mIt sy (wv kd fi se) ru (hsS tr on lt 6) 12) b) i3) + 0)) (nI_add _ _) ?_
            refine lv_istore_n (lv' := [(3, .int (nI ((ctS (fun b => sy (6 * a + b)) (fun b => dg (mIt sy (wv kd fi se) ru (hsS tr on lt 6) 12) b) i3) + 0))), (6, .int (nI (dg (mIt sy (wv kd fi se) ru (hsS tr on lt 6) 12) i3))), (5, .int (nI (sy ((6 * a) + i3)))), (4, .int (nI i3)), (2, .int (nI (mIt sy (wv kd fi se) ru (hsS tr on lt 6) 12))), (0, .ref (bd 0)), (1, .int (nI a))]) hx hb dX1_contradicted_92 rfl hl (by decide) rfl (fun ls hl => ?_)
            refine lv_iinc (v := nI (i3 + 1)) (lv' := [(4, .int (nI (i3 + 1))), (3, .int (nI ((ctS (fun b => sy (6 * a + b)) (fun b => dg (mIt sy (wv kd fi se) ru (hsS tr on lt 6) 12) b) i3) + 0))), (6, .int (nI (dg (mIt sy (wv kd fi se) ru (hsS tr on lt 6) 12) i3))), (5, .int (nI (sy ((6 * a) + i3)))), (2, .int (nI (mIt sy (wv kd fi se) ru (hsS tr on lt 6) 12))), (0, .ref (bd 0)), (1, .int (nI a))]) hx hb dX1_contradicted_93 hl (k := 3) rfl (iinc1 _) (by decide) rfl (fun ls hl => ?_)
            refine lv_goto (tgt := 28) hx hb dX1_contradicted_96 (by decide) ?_
            exact ih_i3 (i3 + 1) (by omega) rs_i3 H locs ls hP hD hS (by have h9 := lv_sub hl [0, 1, 4, 5, 6] rfl; rw [show ctS (fun b => sy (6 * a + b)) (fun b => dg (mIt sy (wv kd fi se) ru (hsS tr on lt 6) 12) b) (i3 + 1) = ctS (fun b => sy (6 * a + b)) (fun b => dg (mIt sy (wv kd fi se) ru (hsS tr on lt 6) 12) b) i3 from if_neg (fun q => Bool.noConfusion ((show agB (sy (6 * a + i3)) (dg (mIt sy (wv kd fi se) ru (hsS tr on lt 6) 12) i3) = false from by unfold agB; simp only [e_62, e_69, e_76]; rfl).symm.trans q))]; exact h9)
          · have e_76 : told (sy (6 * a + i3)) false = true := ts_nf (fun q => c_9 ((told_f (hM.2.2.1 _ (by omega))).mpr q))
            refine lv_iload hx hb dX1_contradicted_79 (lv_at hl 0 rfl) ?_
            refine lv_iconst (v := nI 1) hx hb dX1_contradicted_81 (by decide) ?_
            refine lv_iand hx hb dX1_contradicted_82 ?_
            refine tc_int (y := nI (dg (mIt sy (wv kd fi se) ru (hsS tr on lt 6) 12) i3 % 2)) (told_1 (dg_lt _ _)) ?_
            refine lv_if_eq (tgt := 90) hx hb dX1_contradicted_83 (by decide) (fun c_10 => ?_) (fun c_10 => ?_)
            · have e_83 : told (dg (mIt sy (wv kd fi se) ru (hsS tr on lt 6) 12) i3) true = false := (told_t (dg_lt _ _)).mp c_10
              refine lv_iconst (v := nI 0) hx hb dX1_contradicted_90 (by decide) ?_
              refine lv_iadd hx hb dX1_contradicted_91 ?_
              refine tc_int (y := nI ((ctS (fun b => sy (6 * a + b)) (fun b => dg (mIt sy (wv kd fi se) ru (hsS tr on lt 6) 12) b) i3) + 0)) (nI_add _ _) ?_
              refine lv_istore_n (lv' := [(3, .int (nI ((ctS (fun b => sy (6 * a + b)) (fun b => dg (mIt sy (wv kd fi se) ru (hsS tr on lt 6) 12) b) i3) + 0))), (6, .int (nI (dg (mIt sy (wv kd fi se) ru (hsS tr on lt 6) 12) i3))), (5, .int (nI (sy ((6 * a) + i3)))), (4, .int (nI i3)), (2, .int (nI (mIt sy (wv kd fi se) ru (hsS tr on lt 6) 12))), (0, .ref (bd 0)), (1, .int (nI a))]) hx hb dX1_contradicted_92 rfl hl (by decide) rfl (fun ls hl => ?_)
              refine lv_iinc (v := nI (i3 + 1)) (lv' := [(4, .int (nI (i3 + 1))), (3, .int (nI ((ctS (fun b => sy (6 * a + b)) (fun b => dg (mIt sy (wv kd fi se) ru (hsS tr on lt 6) 12) b) i3) + 0))), (6, .int (nI (dg (mIt sy (wv kd fi se) ru (hsS tr on lt 6) 12) i3))), (5, .int (nI (sy ((6 * a) + i3)))), (2, .int (nI (mIt sy (wv kd fi se) ru (hsS tr on lt 6) 12))), (0, .ref (bd 0)), (1, .int (nI a))]) hx hb dX1_contradicted_93 hl (k := 3) rfl (iinc1 _) (by decide) rfl (fun ls hl => ?_)
              refine lv_goto (tgt := 28) hx hb dX1_contradicted_96 (by decide) ?_
              exact ih_i3 (i3 + 1) (by omega) rs_i3 H locs ls hP hD hS (by have h9 := lv_sub hl [0, 1, 4, 5, 6] rfl; rw [show ctS (fun b => sy (6 * a + b)) (fun b => dg (mIt sy (wv kd fi se) ru (hsS tr on lt 6) 12) b) (i3 + 1) = ctS (fun b => sy (6 * a + b)) (fun b => dg (mIt sy (wv kd fi se) ru (hsS tr on lt 6) 12) b) i3 from if_neg (fun q => Bool.noConfusion ((show agB (sy (6 * a + i3)) (dg (mIt sy (wv kd fi se) ru (hsS tr on lt 6) 12) i3) = false from by unfold agB; simp only [e_62, e_69, e_76, e_83]; rfl).symm.trans q))]; exact h9)
            · have e_83 : told (dg (mIt sy (wv kd fi se) ru (hsS tr on lt 6) 12) i3) true = true := ts_nf (fun q => c_10 ((told_t (dg_lt _ _)).mpr q))
              refine lv_iconst (v := nI 1) hx hb dX1_contradicted_86 (by decide) ?_
              refine lv_goto (tgt := 91) hx hb dX1_contradicted_87 (by decide) ?_
              refine lv_iadd hx hb dX1_contradicted_91 ?_
              refine tc_int (y := nI ((ctS (fun b => sy (6 * a + b)) (fun b => dg (mIt sy (wv kd fi se) ru (hsS tr on lt 6) 12) b) i3) + 1)) (nI_add _ _) ?_
              refine lv_istore_n (lv' := [(3, .int (nI ((ctS (fun b => sy (6 * a + b)) (fun b => dg (mIt sy (wv kd fi se) ru (hsS tr on lt 6) 12) b) i3) + 1))), (6, .int (nI (dg (mIt sy (wv kd fi se) ru (hsS tr on lt 6) 12) i3))), (5, .int (nI (sy ((6 * a) + i3)))), (4, .int (nI i3)), (2, .int (nI (mIt sy (wv kd fi se) ru (hsS tr on lt 6) 12))), (0, .ref (bd 0)), (1, .int (nI a))]) hx hb dX1_contradicted_92 rfl hl (by decide) rfl (fun ls hl => ?_)
              refine lv_iinc (v := nI (i3 + 1)) (lv' := [(4, .int (nI (i3 + 1))), (3, .int (nI ((ctS (fun b => sy (6 * a + b)) (fun b => dg (mIt sy (wv kd fi se) ru (hsS tr on lt 6) 12) b) i3) + 1))), (6, .int (nI (dg (mIt sy (wv kd fi se) ru (hsS tr on lt 6) 12) i3))), (5, .int (nI (sy ((6 * a) + i3)))), (2, .int (nI (mIt sy (wv kd fi se) ru (hsS tr on lt 6) 12))), (0, .ref (bd 0)), (1, .int (nI a))]) hx hb dX1_contradicted_93 hl (k := 3) rfl (iinc1 _) (by decide) rfl (fun ls hl => ?_)
              refine lv_goto (tgt := 28) hx hb dX1_contradicted_96 (by decide) ?_
              exact ih_i3 (i3 + 1) (by omega) rs_i3 H locs ls hP hD hS (by have h9 := lv_sub hl [0, 1, 4, 5, 6] rfl; rw [show ctS (fun b => sy (6 * a + b)) (fun b => dg (mIt sy (wv kd fi se) ru (hsS tr on lt 6) 12) b) (i3 + 1) = ctS (fun b => sy (6 * a + b)) (fun b => dg (mIt sy (wv kd fi se) ru (hsS tr on lt 6) 12) b) i3 + 1 from if_pos (by show agB (sy (6 * a + i3)) (dg (mIt sy (wv kd fi se) ru (hsS tr on lt 6) 12) i3) = true; unfold agB; simp only [e_62, e_69, e_76, e_83]; rfl)]; exact h9)
  exact key2 (6) 0 (by omega) u1 _ _ ls hP hD hS (lv_sub hl [0, 1, 2, 3, 4] rfl)

set_option maxHeartbeats 4000000 in
set_option maxRecDepth 100000 in
theorem d_X1_contradicted (x : Int32) (hx9 : x < 0 ∨ nI 6 ≤ x) : MuI l yX1_contradicted wsX1_contradicted rm_X1_contradicted D vwCl (wM bd cI cZ cJ th n kd fi se sd tr on sy lt ru lg rs) (fun u => wM bd cI cZ cJ (nI 1) n kd fi se sd tr on sy lt ru lg u) (tyC cI cZ cJ) [.ref (bd 0), .int x] (nI 0) := by
  refine MuI.of (cc := cX1_contradicted) (maxL := 7) (by decide) rfl (Nat.le_of_ble_eq_true rfl) (vp_nar_int _) ?_
  intro A p e s m args below meth c Q ls hx hb hml hown hts hP hK hD kret hl
  have hown : s.vm.findClass RX1 = some m.cls := hown
  have hl : lv_has ls 7 [(0, .ref (bd 0)), (1, .int x)] := hl
  have hS : va_S A s.heap s.heap [] := va_S.rf
  have hin0 : ∀ w ∈ u_ws RX1 TX1 13, w ∈ wsX1_contradicted := hin_X1_contradicted
  refine lv_aload_n hx hb dX1_contradicted_0 rfl (lv_at hl 0 rfl) ?_
  refine lv_iconst (v := nI 0) hx hb dX1_contradicted_1 (by decide) ?_
  refine va_put (D := D) (ci := 1) (v := .int (nI 0)) (ty := .int) (C := RX1) (T := TX1) (N := 13) hx hb hts hin0 tyX1 tyX1_ok nmX1 hown hK hP hD hS 0 rfl rfl 0 (by decide) (hts (.fieldLink RX1 45 "RumourReasonerModel" "thrown" "I") (by decide +kernel)) (fun _ h9 => h9) rfl (by decide +kernel) rfl rfl (Nat.le_of_ble_eq_true rfl) dX1_contradicted_2 (fun H locs hP hD hS => ?_)
  have hP : va_P D vwCl (wM bd cI cZ cJ (nI 0) n kd fi se sd tr on sy lt ru lg rs) H := hP
  have hD : va_D A (wM bd cI cZ cJ (nI 0) n kd fi se sd tr on sy lt ru lg rs) := hD
  refine lv_iload_n hx hb dX1_contradicted_5 rfl (lv_at hl 1 rfl) ?_
  refine puI_S (own := RX1) (As := [.int x]) (rest := []) ⟨hx, hb, hml, hown, hts⟩ (c_X1_isSource l D x) gX1_contradicted_X1_isSource rfl ⟨rfl, rfl⟩ 1 rfl (by decide +kernel) ⟨Nat.le_of_ble_eq_true rfl, Nat.le_of_ble_eq_true rfl⟩ nilP (hK.sub (tys' := []) [] rfl) hS hl.1 rfl (Nat.le_of_ble_eq_true rfl) dX1_contradicted_6 ⟨Nat.zero_le _, Nat.zero_le _⟩ (fun H locs hk1 hS => ?_)
  replace hP := keptP hP hk1
  refine tc_int (y := bI false) (by rw [inB_bad hx9 (by decide)]) ?_
  refine zF_ne (tgt := 18) hx hb dX1_contradicted_9 (by decide) (rfl) ?_
  refine lv_aload_n hx hb dX1_contradicted_12 rfl (lv_at hl 0 rfl) ?_
  refine lv_iconst (v := nI 1) hx hb dX1_contradicted_13 (by decide) ?_
  refine muI_V (own := RX1) (As := [.int (nI 1)]) (rest := []) (C := RX1) (ci := 1) (q0 := 0) (A1 := A) ⟨hx, hb, hml, hown, hts⟩ (c_X1_no l D bd cI cZ cJ (nI 0) n kd fi se sd tr on sy lt ru lg rs 1) gX1_contradicted_X1_no rfl ⟨rfl, rfl⟩ 1 rfl (by decide +kernel) ⟨Nat.le_of_ble_eq_true rfl, Nat.le_of_ble_eq_true rfl⟩ hP hK hD (fun _ h9 => h9) rfl rfl rfl hS hl.1 rfl (Nat.le_of_ble_eq_true rfl) dX1_contradicted_14 ⟨Nat.zero_le _, Nat.zero_le _⟩ (fun u1 H locs hP hz1 hk1 hS => ?_)
  replace hP : va_P D vwCl (wM bd cI cZ cJ (nI 1) n kd fi se sd tr on sy lt ru lg u1) H := hP
  replace hD : va_D A (wM bd cI cZ cJ (nI 1) n kd fi se sd tr on sy lt ru lg u1) := sameD2 hD rfl
  exact kret _ u1 _ _ _ _ (rfl) hP hS dX1_contradicted_17

end
