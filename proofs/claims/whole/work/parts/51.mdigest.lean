section
variable (l : Launch) (D : va_G) (bd : Nat → Nat) (cI cZ cJ : ClassId) (th : Int32) (n : Nat) (kd fi se : Nat → Nat) (sd : Nat → Bool) (tr : Nat → Nat) (on : Nat → Bool) (sy : Nat → Nat) (lt : Nat) (ru : Nat → Option Nat) (lg : Nat) (rs : Nat → Int32)
theorem hin_X1_digest : ∀ w ∈ wsX10, w ∈ wsX1_digest := by first | exact fun _ h => List.mem_cons_of_mem _ (List.mem_append_right _ h) | exact fun _ h => List.mem_cons_of_mem _ (List.mem_append_left _ (List.mem_append_right _ h)) | exact fun _ h => List.mem_cons_of_mem _ (List.mem_append_left _ (List.mem_append_left _ (List.mem_append_right _ h))) | exact fun _ h => List.mem_cons_of_mem _ (List.mem_append_left _ (List.mem_append_left _ (List.mem_append_left _ (List.mem_append_right _ h)))) | decide +kernel
def rm_X1_digest : Room := { frames := 4, cells := 0, slots := 0, locals := 94 }
set_option maxHeartbeats 4000000 in
set_option maxRecDepth 100000 in
theorem c_X1_digest (hM : OKM n kd fi se tr sy lt lg ru) (hF : ∀ h, h < 64 → mIt sy (wv kd fi se) ru h 13 = mIt sy (wv kd fi se) ru h 12) : MuL l yX1_digest wsX1_digest rm_X1_digest D vwCl (wM bd cI cZ cJ th n kd fi se sd tr on sy lt ru lg rs) (fun u => wM bd cI cZ cJ (nI 0) n kd fi se sd tr on sy lt ru lg u) (tyC cI cZ cJ) [.ref (bd 0)] (dgF n kd lt tr on (fun s a => sy (6 * s + a)) ru (fun a => gbS sy (hsS tr on lt 6) a 6) (fun a => dg (mIt sy (wv kd fi se) ru (hsS tr on lt 6) 12) a) (fa_first (fun r => decide (mIt sy (wv kd fi se) ru (hsS tr on lt 6) (r + 1) = mIt sy (wv kd fi se) ru (hsS tr on lt 6) r)) 12) lg) := by
  refine MuL.of (cc := cX1_digest) (maxL := 6) (by decide) rfl (Nat.le_of_ble_eq_true rfl) ?_
  intro A p e s m args below meth c Q ls hx hb hml hown hts hP hK hD kret hl
  have hown : s.vm.findClass RX1 = some m.cls := hown
  have hl : lv_has ls 6 [(0, .ref (bd 0))] := hl
  have hS : va_S A s.heap s.heap [] := va_S.rf
  have hin0 : ∀ w ∈ u_ws RX1 TX1 13, w ∈ wsX1_digest := hin_X1_digest
  have hh0 : hsS tr on lt 6 < 64 := hsS_lt tr on lt 6 (Nat.le_refl 6)
  have hn40 := hM.1
  have hl12 : mIt sy (wv kd fi se) ru (hsS tr on lt 6) 12 < 4096 := mIt_lt hM _ 12
  obtain ⟨HD, hHD⟩ : ∃ z, z = (hsS tr on lt 6) := ⟨_, rfl⟩
  obtain ⟨LA, hLA⟩ : ∃ z, z = mIt sy (wv kd fi se) ru (hsS tr on lt 6) 12 := ⟨_, rfl⟩
  obtain ⟨RD, hRD⟩ : ∃ z, z = fa_first (fun r => decide (mIt sy (wv kd fi se) ru (hsS tr on lt 6) (r + 1) = mIt sy (wv kd fi se) ru (hsS tr on lt 6) r)) 12 := ⟨_, rfl⟩
  rw [← hLA] at hl12
  have hHD64 : HD < 64 := by rw [hHD]; exact hh0
  refine lv_aload_n hx hb dX1_digest_0 rfl (lv_at hl 0 rfl) ?_
  refine lv_iconst (v := nI 0) hx hb dX1_digest_1 (by decide) ?_
  refine va_put (D := D) (ci := 1) (v := .int (nI 0)) (ty := .int) (C := RX1) (T := TX1) (N := 13) hx hb hts hin0 tyX1 tyX1_ok nmX1 hown hK hP hD hS 0 rfl rfl 0 (by decide) (hts (.fieldLink RX1 45 "RumourReasonerModel" "thrown" "I") (by decide +kernel)) (fun _ h9 => h9) rfl (by decide +kernel) rfl rfl (Nat.le_of_ble_eq_true rfl) dX1_digest_2 (fun H locs hP hD hS => ?_)
  have hP : va_P D vwCl (wM bd cI cZ cJ (nI 0) n kd fi se sd tr on sy lt ru lg rs) H := hP
  have hD : va_D A (wM bd cI cZ cJ (nI 0) n kd fi se sd tr on sy lt ru lg rs) := hD
  refine lv_ldc2 (v := 4061) hx hb hown (hts (.constantLong RX1 126 (4061)) (by decide +kernel)) dX1_digest_5 ?_
  refine lv_aload_n hx hb dX1_digest_8 rfl (lv_at hl 0 rfl) ?_
  refine va_get (D := D) (ci := 1) (v := .int (nI n)) (C := RX1) (T := TX1) (N := 13) hx hb hts hin0 hown hK hP 0 rfl rfl 1 (by decide) (hts (.fieldLink RX1 48 "RumourReasonerModel" "formulas" "I") (by decide +kernel)) (fun _ h9 => h9) rfl dX1_digest_9 ?_
  refine lv_i2l (v := (nI n).toInt64) hx hb dX1_digest_12 rfl ?_
  refine lv_ladd hx hb dX1_digest_13 ?_
  refine tc_long (y := (mixI 131 (nI n))) (by unfold mixI; rw [show (131 : Int64) * 31 = 4061 from by decide]) ?_
  refine lv_lstore_n (lv' := [(1, .long (mixI 131 (nI n))), (0, .ref (bd 0))]) hx hb dX1_digest_14 rfl hl (by decide) rfl (fun ls hl => ?_)
  refine lv_iconst (v := nI 0) hx hb dX1_digest_15 (by decide) ?_
  refine lv_istore_n (lv' := [(3, .int (nI 0)), (1, .long (mixI 131 (nI n))), (0, .ref (bd 0))]) hx hb dX1_digest_16 rfl hl (by decide) rfl (fun ls hl => ?_)
  have key1 : ∀ (d3 i2 : Nat), i2 + d3 = n → ∀ (rs_i2 : Nat → Int32), ∀ (H : Heap) (locs : List Loc) (ls : Array Slot), va_P D vwCl (wM bd cI cZ cJ (nI 0) n kd fi se sd tr on sy lt ru lg rs_i2) H → va_D A (wM bd cI cZ cJ (nI 0) n kd fi se sd tr on sy lt ru lg rs_i2) → va_S A s.heap H locs → lv_has ls 6 [(3, .int (nI i2)), (1, .long (foldD (fun d j => mixI d (nI (kd j))) (mixI 131 (nI n)) i2)), (0, .ref (bd 0))] → W p l e rm_X1_digest s m args below meth c H locs 0 0 Q (F0 m 17 ls []) := by
    intro d3
    induction d3 with
    | zero =>
      intro i2 hi_i2 rs_i2 H locs ls hP hD hS hl
      have hi9 : i2 = n := by omega
      rw [hi9] at hl
      refine lv_iload_n hx hb dX1_digest_17 rfl (lv_at hl 0 rfl) ?_
      refine lv_aload_n hx hb dX1_digest_18 rfl (lv_at hl 2 rfl) ?_
      refine va_get (D := D) (ci := 1) (v := .int (nI n)) (C := RX1) (T := TX1) (N := 13) hx hb hts hin0 hown hK hP 0 rfl rfl 1 (by decide) (hts (.fieldLink RX1 48 "RumourReasonerModel" "formulas" "I") (by decide +kernel)) (fun _ h9 => h9) rfl dX1_digest_19 ?_
      refine cT_ge (tgt := 45) hx hb dX1_digest_22 (by decide) (nI_le (by omega) (by omega)) ?_
      refine lv_lload_n hx hb dX1_digest_45 rfl (lv_at hl 1 rfl) ?_
      refine lv_ldc2 (v := 31) hx hb hown (hts (.constantLong RX1 128 (31)) (by decide +kernel)) dX1_digest_46 ?_
      refine lv_lmul hx hb dX1_digest_49 ?_
      refine lv_aload_n hx hb dX1_digest_50 rfl (lv_at hl 2 rfl) ?_
      refine va_get (D := D) (ci := 1) (v := .int (nI lt)) (C := RX1) (T := TX1) (N := 13) hx hb hts hin0 hown hK hP 0 rfl rfl 9 (by decide) (hts (.fieldLink RX1 32 "RumourReasonerModel" "leastTrust" "I") (by decide +kernel)) (fun _ h9 => h9) rfl dX1_digest_51 ?_
      refine lv_i2l (v := (nI lt).toInt64) hx hb dX1_digest_54 rfl ?_
      refine lv_ladd hx hb dX1_digest_55 ?_
      refine lv_topl (fun y_55 ey_55 => ?_)
      refine lv_lstore_n (lv' := [(1, .long y_55), (3, .int (nI n)), (0, .ref (bd 0))]) hx hb dX1_digest_56 rfl hl (by decide) rfl (fun ls hl => ?_)
      refine lv_iconst (v := nI 0) hx hb dX1_digest_57 (by decide) ?_
      refine lv_istore_n (lv' := [(3, .int (nI 0)), (1, .long y_55), (0, .ref (bd 0))]) hx hb dX1_digest_58 rfl hl (by decide) rfl (fun ls hl => ?_)
      have key4 : ∀ (d6 i5 : Nat), i5 + d6 = 6 → ∀ (rs_i5 : Nat → Int32), ∀ (H : Heap) (locs : List Loc) (ls : Array Slot), va_P D vwCl (wM bd cI cZ cJ (nI 0) n kd fi se sd tr on sy lt ru lg rs_i5) H → va_D A (wM bd cI cZ cJ (nI 0) n kd fi se sd tr on sy lt ru lg rs_i5) → va_S A s.heap H locs → lv_has ls 6 [(3, .int (nI i5)), (1, .long (foldD (fun d s => foldD (fun d a => mixI d (nI (sy (6 * s + a)))) (mixI (mixI d (nI (tr s))) (bI (on s))) 6) y_55 i5)), (0, .ref (bd 0))] → W p l e rm_X1_digest s m args below meth c H locs 0 0 Q (F0 m 59 ls []) := by
        intro d6
        induction d6 with
        | zero =>
          intro i5 hi_i5 rs_i5 H locs ls hP hD hS hl
          obtain rfl : i5 = 6 := by omega
          refine lv_iload_n hx hb dX1_digest_59 rfl (lv_at hl 0 rfl) ?_
          refine lv_bipush (v := nI 6) hx hb dX1_digest_60 (by decide) ?_
          refine cT_ge (tgt := 140) hx hb dX1_digest_62 (by decide) (nI_le (by omega) (by omega)) ?_
          refine lv_aload_n hx hb dX1_digest_140 rfl (lv_at hl 2 rfl) ?_
          refine puI_V (own := RX1) (As := []) (rest := []) (C := RX1) (ci := 1) (q0 := 0) ⟨hx, hb, hml, hown, hts⟩ (c_X1_heardSet l D bd cI cZ cJ (nI 0) n kd fi se sd tr on sy lt ru lg rs_i5 hM) gX1_digest_X1_heardSet rfl ⟨rfl, rfl⟩ 0 rfl (by decide +kernel) ⟨Nat.le_of_ble_eq_true rfl, Nat.le_of_ble_eq_true rfl⟩ hP hK rfl rfl rfl hS hl.1 rfl (Nat.le_of_ble_eq_true rfl) dX1_digest_141 ⟨Nat.zero_le _, Nat.zero_le _⟩ (fun H locs hk1 hS => ?_)
          replace hP := keptP hP hk1
          refine tc_int (y := nI HD) (by rw [hHD]) ?_
          refine lv_istore_n (lv' := [(3, .int (nI HD)), (1, .long (foldD (fun d s => foldD (fun d a => mixI d (nI (sy (6 * s + a)))) (mixI (mixI d (nI (tr s))) (bI (on s))) 6) y_55 6)), (0, .ref (bd 0))]) hx hb dX1_digest_144 rfl hl (by decide) rfl (fun ls hl => ?_)
          refine lv_aload_n hx hb dX1_digest_145 rfl (lv_at hl 2 rfl) ?_
          refine lv_iload_n hx hb dX1_digest_146 rfl (lv_at hl 0 rfl) ?_
          refine muI_V (own := RX1) (As := [.int (nI HD)]) (rest := []) (C := RX1) (ci := 1) (q0 := 0) (A1 := A) ⟨hx, hb, hml, hown, hts⟩ (c_X1_settle l D bd cI cZ cJ (nI 0) n kd fi se sd tr on sy lt ru lg rs_i5 hM hF HD hHD64) gX1_digest_X1_settle rfl ⟨rfl, rfl⟩ 1 rfl (by decide +kernel) ⟨Nat.le_of_ble_eq_true rfl, Nat.le_of_ble_eq_true rfl⟩ hP hK hD (fun _ h9 => h9) rfl rfl rfl hS hl.1 rfl (Nat.le_of_ble_eq_true rfl) dX1_digest_147 ⟨Nat.zero_le _, Nat.zero_le _⟩ (fun u7 H locs hP hz1 hk1 hS => ?_)
          replace hP : va_P D vwCl (wM bd cI cZ cJ (nI 0) n kd fi se sd tr on sy lt ru lg u7) H := hP
          replace hD : va_D A (wM bd cI cZ cJ (nI 0) n kd fi se sd tr on sy lt ru lg u7) := sameD2 hD rfl
          refine tc_int (y := nI LA) (by rw [hLA, hHD]) ?_
          refine lv_istore (lv' := [(4, .int (nI LA)), (3, .int (nI HD)), (1, .long (foldD (fun d s => foldD (fun d a => mixI d (nI (sy (6 * s + a)))) (mixI (mixI d (nI (tr s))) (bI (on s))) 6) y_55 6)), (0, .ref (bd 0))]) hx hb dX1_digest_150 hl (by decide) rfl (fun ls hl => ?_)
          refine lv_iconst (v := nI 0) hx hb dX1_digest_152 (by decide) ?_
          refine lv_istore (lv' := [(5, .int (nI 0)), (4, .int (nI LA)), (3, .int (nI HD)), (1, .long (foldD (fun d s => foldD (fun d a => mixI d (nI (sy (6 * s + a)))) (mixI (mixI d (nI (tr s))) (bI (on s))) 6) y_55 6)), (0, .ref (bd 0))]) hx hb dX1_digest_153 hl (by decide) rfl (fun ls hl => ?_)
          have key8 : ∀ (d10 i9 : Nat), i9 + d10 = 6 → ∀ (rs_i9 : Nat → Int32), ∀ (H : Heap) (locs : List Loc) (ls : Array Slot), va_P D vwCl (wM bd cI cZ cJ (nI 0) n kd fi se sd tr on sy lt ru lg rs_i9) H → va_D A (wM bd cI cZ cJ (nI 0) n kd fi se sd tr on sy lt ru lg rs_i9) → va_S A s.heap H locs → lv_has ls 6 [(5, .int (nI i9)), (1, .long (foldD (fun d a => mixI (mixI (mixI d (rI (ru a))) (nI (gbS sy HD a 6))) (nI (dg LA a))) (foldD (fun d s => foldD (fun d a => mixI d (nI (sy (6 * s + a)))) (mixI (mixI d (nI (tr s))) (bI (on s))) 6) y_55 6) i9)), (4, .int (nI LA)), (3, .int (nI HD)), (0, .ref (bd 0))] → W p l e rm_X1_digest s m args below meth c H locs 0 0 Q (F0 m 155 ls []) := by
            intro d10
            induction d10 with
            | zero =>
              intro i9 hi_i9 rs_i9 H locs ls hP hD hS hl
              obtain rfl : i9 = 6 := by omega
              refine lv_iload hx hb dX1_digest_155 (lv_at hl 0 rfl) ?_
              refine lv_bipush (v := nI 6) hx hb dX1_digest_157 (by decide) ?_
              refine cT_ge (tgt := 209) hx hb dX1_digest_159 (by decide) (nI_le (by omega) (by omega)) ?_
              refine lv_lload_n hx hb dX1_digest_209 rfl (lv_at hl 1 rfl) ?_
              refine lv_ldc2 (v := 31) hx hb hown (hts (.constantLong RX1 128 (31)) (by decide +kernel)) dX1_digest_210 ?_
              refine lv_lmul hx hb dX1_digest_213 ?_
              refine lv_aload_n hx hb dX1_digest_214 rfl (lv_at hl 4 rfl) ?_
              refine muI_V (own := RX1) (As := []) (rest := [.long ((foldD (fun d a => mixI (mixI (mixI d (rI (ru a))) (nI (gbS sy HD a 6))) (nI (dg LA a))) (foldD (fun d s => foldD (fun d a => mixI d (nI (sy (6 * s + a)))) (mixI (mixI d (nI (tr s))) (bI (on s))) 6) y_55 6) 6) * 31)]) (C := RX1) (ci := 1) (q0 := 0) (A1 := A) ⟨hx, hb, hml, hown, hts⟩ (c_X1_roundCount l D bd cI cZ cJ (nI 0) n kd fi se sd tr on sy lt ru lg rs_i9 hM hF) gX1_digest_X1_roundCount rfl ⟨rfl, rfl⟩ 0 rfl (by decide +kernel) ⟨Nat.le_of_ble_eq_true rfl, Nat.le_of_ble_eq_true rfl⟩ hP hK hD (fun _ h9 => h9) rfl rfl rfl hS hl.1 rfl (Nat.le_of_ble_eq_true rfl) dX1_digest_215 ⟨Nat.zero_le _, Nat.zero_le _⟩ (fun u11 H locs hP hz1 hk1 hS => ?_)
              replace hP : va_P D vwCl (wM bd cI cZ cJ (nI 0) n kd fi se sd tr on sy lt ru lg u11) H := hP
              replace hD : va_D A (wM bd cI cZ cJ (nI 0) n kd fi se sd tr on sy lt ru lg u11) := sameD2 hD rfl
              refine tc_int (y := nI RD) (by rw [hRD]) ?_
              refine lv_i2l (v := (nI RD).toInt64) hx hb dX1_digest_218 rfl ?_
              refine lv_ladd hx hb dX1_digest_219 ?_
              refine tc_long (y := mixI (foldD (fun d a => mixI (mixI (mixI d (rI (ru a))) (nI (gbS sy HD a 6))) (nI (dg LA a))) (foldD (fun d s => foldD (fun d a => mixI d (nI (sy (6 * s + a)))) (mixI (mixI d (nI (tr s))) (bI (on s))) 6) y_55 6) 6) (nI RD)) (rfl) ?_
              refine lv_ldc2 (v := 31) hx hb hown (hts (.constantLong RX1 128 (31)) (by decide +kernel)) dX1_digest_220 ?_
              refine lv_lmul hx hb dX1_digest_223 ?_
              refine lv_aload_n hx hb dX1_digest_224 rfl (lv_at hl 4 rfl) ?_
              refine va_get (D := D) (ci := 1) (v := .int (nI lg)) (C := RX1) (T := TX1) (N := 13) hx hb hts hin0 hown hK hP 0 rfl rfl 11 (by decide) (hts (.fieldLink RX1 39 "RumourReasonerModel" "logic" "I") (by decide +kernel)) (fun _ h9 => h9) rfl dX1_digest_225 ?_
              refine lv_i2l (v := (nI lg).toInt64) hx hb dX1_digest_228 rfl ?_
              refine lv_ladd hx hb dX1_digest_229 ?_
              refine tc_long (y := mixI (mixI (foldD (fun d a => mixI (mixI (mixI d (rI (ru a))) (nI (gbS sy HD a 6))) (nI (dg LA a))) (foldD (fun d s => foldD (fun d a => mixI d (nI (sy (6 * s + a)))) (mixI (mixI d (nI (tr s))) (bI (on s))) 6) y_55 6) 6) (nI RD)) (nI lg)) (rfl) ?_
              exact kret _ u11 _ _ _ _ (by rw [ey_55, hRD, hLA, hHD]; rfl) hP hS dX1_digest_230
            | succ d10 ih_i9 =>
              intro i9 hi_i9 rs_i9 H locs ls hP hD hS hl
              refine lv_iload hx hb dX1_digest_155 (lv_at hl 0 rfl) ?_
              refine lv_bipush (v := nI 6) hx hb dX1_digest_157 (by decide) ?_
              refine cF_ge (tgt := 209) hx hb dX1_digest_159 (by decide) (nI_ge (by omega) (by omega)) ?_
              refine lv_lload_n hx hb dX1_digest_162 rfl (lv_at hl 1 rfl) ?_
              refine lv_ldc2 (v := 31) hx hb hown (hts (.constantLong RX1 128 (31)) (by decide +kernel)) dX1_digest_163 ?_
              refine lv_lmul hx hb dX1_digest_166 ?_
              refine lv_aload_n hx hb dX1_digest_167 rfl (lv_at hl 4 rfl) ?_
              refine va_get (D := D) (ci := 1) (v := .ref (bd 8)) (C := RX1) (T := TX1) (N := 13) hx hb hts hin0 hown hK hP 0 rfl rfl 10 (by decide) (hts (.fieldLink RX1 36 "RumourReasonerModel" "rules" "[I") (by decide +kernel)) (fun _ h9 => h9) rfl dX1_digest_168 ?_
              refine lv_iload hx hb dX1_digest_171 (lv_at hl 0 rfl) ?_
              refine ld_ni hx hb hK hP 8 0 rfl rfl (j := i9) (by omega) (by decide) dX1_digest_173 ?_
              refine lv_i2l (v := (rI (ru i9)).toInt64) hx hb dX1_digest_174 rfl ?_
              refine lv_ladd hx hb dX1_digest_175 ?_
              refine tc_long (y := mixI (foldD (fun d a => mixI (mixI (mixI d (rI (ru a))) (nI (gbS sy HD a 6))) (nI (dg LA a))) (foldD (fun d s => foldD (fun d a => mixI d (nI (sy (6 * s + a)))) (mixI (mixI d (nI (tr s))) (bI (on s))) 6) y_55 6) i9) (rI (ru i9))) (rfl) ?_
              refine lv_ldc2 (v := 31) hx hb hown (hts (.constantLong RX1 128 (31)) (by decide +kernel)) dX1_digest_176 ?_
              refine lv_lmul hx hb dX1_digest_179 ?_
              refine lv_aload_n hx hb dX1_digest_180 rfl (lv_at hl 4 rfl) ?_
              refine lv_iload_n hx hb dX1_digest_181 rfl (lv_at hl 3 rfl) ?_
              refine lv_iload hx hb dX1_digest_182 (lv_at hl 0 rfl) ?_
              refine puI_V (own := RX1) (As := [.int (nI HD), .int (nI i9)]) (rest := [.long ((mixI (foldD (fun d a => mixI (mixI (mixI d (rI (ru a))) (nI (gbS sy HD a 6))) (nI (dg LA a))) (foldD (fun d s => foldD (fun d a => mixI d (nI (sy (6 * s + a)))) (mixI (mixI d (nI (tr s))) (bI (on s))) 6) y_55 6) i9) (rI (ru i9))) * 31)]) (C := RX1) (ci := 1) (q0 := 0) ⟨hx, hb, hml, hown, hts⟩ (c_X1_givenBy l D bd cI cZ cJ (nI 0) n kd fi se sd tr on sy lt ru lg rs_i9 hM HD i9 hHD64 (by omega)) gX1_digest_X1_givenBy rfl ⟨rfl, rfl⟩ 2 rfl (by decide +kernel) ⟨Nat.le_of_ble_eq_true rfl, Nat.le_of_ble_eq_true rfl⟩ hP hK rfl rfl rfl hS hl.1 rfl (Nat.le_of_ble_eq_true rfl) dX1_digest_184 ⟨Nat.zero_le _, Nat.zero_le _⟩ (fun H locs hk1 hS => ?_)
              replace hP := keptP hP hk1
              refine lv_i2l (v := (nI (gbS sy HD i9 6)).toInt64) hx hb dX1_digest_187 rfl ?_
              refine lv_ladd hx hb dX1_digest_188 ?_
              refine tc_long (y := mixI (mixI (foldD (fun d a => mixI (mixI (mixI d (rI (ru a))) (nI (gbS sy HD a 6))) (nI (dg LA a))) (foldD (fun d s => foldD (fun d a => mixI d (nI (sy (6 * s + a)))) (mixI (mixI d (nI (tr s))) (bI (on s))) 6) y_55 6) i9) (rI (ru i9))) (nI (gbS sy HD i9 6))) (rfl) ?_
              refine lv_ldc2 (v := 31) hx hb hown (hts (.constantLong RX1 128 (31)) (by decide +kernel)) dX1_digest_189 ?_
              refine lv_lmul hx hb dX1_digest_192 ?_
              refine lv_iload hx hb dX1_digest_193 (lv_at hl 2 rfl) ?_
              refine lv_iload hx hb dX1_digest_195 (lv_at hl 0 rfl) ?_
              refine puI_S (own := RX1) (As := [.int (nI LA), .int (nI i9)]) (rest := [.long ((mixI (mixI (foldD (fun d a => mixI (mixI (mixI d (rI (ru a))) (nI (gbS sy HD a 6))) (nI (dg LA a))) (foldD (fun d s => foldD (fun d a => mixI d (nI (sy (6 * s + a)))) (mixI (mixI d (nI (tr s))) (bI (on s))) 6) y_55 6) i9) (rI (ru i9))) (nI (gbS sy HD i9 6))) * 31)]) ⟨hx, hb, hml, hown, hts⟩ (c_X1_valueIn l D LA i9 hl12 (by omega)) gX1_digest_X1_valueIn rfl ⟨rfl, rfl⟩ 2 rfl (by decide +kernel) ⟨Nat.le_of_ble_eq_true rfl, Nat.le_of_ble_eq_true rfl⟩ nilP (hK.sub (tys' := []) [] rfl) hS hl.1 rfl (Nat.le_of_ble_eq_true rfl) dX1_digest_197 ⟨Nat.zero_le _, Nat.zero_le _⟩ (fun H locs hk1 hS => ?_)
              replace hP := keptP hP hk1
              refine lv_i2l (v := (nI (dg LA i9)).toInt64) hx hb dX1_digest_200 rfl ?_
              refine lv_ladd hx hb dX1_digest_201 ?_
              refine tc_long (y := mixI (mixI (mixI (foldD (fun d a => mixI (mixI (mixI d (rI (ru a))) (nI (gbS sy HD a 6))) (nI (dg LA a))) (foldD (fun d s => foldD (fun d a => mixI d (nI (sy (6 * s + a)))) (mixI (mixI d (nI (tr s))) (bI (on s))) 6) y_55 6) i9) (rI (ru i9))) (nI (gbS sy HD i9 6))) (nI (dg LA i9))) (rfl) ?_
              refine lv_lstore_n (lv' := [(1, .long (mixI (mixI (mixI (foldD (fun d a => mixI (mixI (mixI d (rI (ru a))) (nI (gbS sy HD a 6))) (nI (dg LA a))) (foldD (fun d s => foldD (fun d a => mixI d (nI (sy (6 * s + a)))) (mixI (mixI d (nI (tr s))) (bI (on s))) 6) y_55 6) i9) (rI (ru i9))) (nI (gbS sy HD i9 6))) (nI (dg LA i9)))), (5, .int (nI i9)), (4, .int (nI LA)), (3, .int (nI HD)), (0, .ref (bd 0))]) hx hb dX1_digest_202 rfl hl (by decide) rfl (fun ls hl => ?_)
              refine lv_iinc (v := nI (i9 + 1)) (lv' := [(5, .int (nI (i9 + 1))), (1, .long (mixI (mixI (mixI (foldD (fun d a => mixI (mixI (mixI d (rI (ru a))) (nI (gbS sy HD a 6))) (nI (dg LA a))) (foldD (fun d s => foldD (fun d a => mixI d (nI (sy (6 * s + a)))) (mixI (mixI d (nI (tr s))) (bI (on s))) 6) y_55 6) i9) (rI (ru i9))) (nI (gbS sy HD i9 6))) (nI (dg LA i9)))), (4, .int (nI LA)), (3, .int (nI HD)), (0, .ref (bd 0))]) hx hb dX1_digest_203 hl (k := 1) rfl (iinc1 _) (by decide) rfl (fun ls hl => ?_)
              refine lv_goto (tgt := 155) hx hb dX1_digest_206 (by decide) ?_
              exact ih_i9 (i9 + 1) (by omega) rs_i9 H locs ls hP hD hS (lv_sub hl [0, 1, 2, 3, 4] rfl)
          exact key8 (6) 0 (by omega) u7 _ _ ls hP hD hS (lv_sub hl [0, 3, 1, 2, 4] rfl)
        | succ d6 ih_i5 =>
          intro i5 hi_i5 rs_i5 H locs ls hP hD hS hl
          refine lv_iload_n hx hb dX1_digest_59 rfl (lv_at hl 0 rfl) ?_
          refine lv_bipush (v := nI 6) hx hb dX1_digest_60 (by decide) ?_
          refine cF_ge (tgt := 140) hx hb dX1_digest_62 (by decide) (nI_ge (by omega) (by omega)) ?_
          refine lv_lload_n hx hb dX1_digest_65 rfl (lv_at hl 1 rfl) ?_
          refine lv_ldc2 (v := 31) hx hb hown (hts (.constantLong RX1 128 (31)) (by decide +kernel)) dX1_digest_66 ?_
          refine lv_lmul hx hb dX1_digest_69 ?_
          refine lv_aload_n hx hb dX1_digest_70 rfl (lv_at hl 2 rfl) ?_
          refine va_get (D := D) (ci := 1) (v := .ref (bd 5)) (C := RX1) (T := TX1) (N := 13) hx hb hts hin0 hown hK hP 0 rfl rfl 6 (by decide) (hts (.fieldLink RX1 23 "RumourReasonerModel" "trusts" "[I") (by decide +kernel)) (fun _ h9 => h9) rfl dX1_digest_71 ?_
          refine lv_iload_n hx hb dX1_digest_74 rfl (lv_at hl 0 rfl) ?_
          refine ld_ni hx hb hK hP 5 0 rfl rfl (j := i5) (by omega) (by decide) dX1_digest_75 ?_
          refine lv_i2l (v := (nI (tr i5)).toInt64) hx hb dX1_digest_76 rfl ?_
          refine lv_ladd hx hb dX1_digest_77 ?_
          refine tc_long (y := mixI (foldD (fun d s => foldD (fun d a => mixI d (nI (sy (6 * s + a)))) (mixI (mixI d (nI (tr s))) (bI (on s))) 6) y_55 i5) (nI (tr i5))) (rfl) ?_
          refine lv_ldc2 (v := 31) hx hb hown (hts (.constantLong RX1 128 (31)) (by decide +kernel)) dX1_digest_78 ?_
          refine lv_lmul hx hb dX1_digest_81 ?_
          refine lv_aload_n hx hb dX1_digest_82 rfl (lv_at hl 2 rfl) ?_
          refine va_get (D := D) (ci := 1) (v := .ref (bd 6)) (C := RX1) (T := TX1) (N := 13) hx hb hts hin0 hown hK hP 0 rfl rfl 7 (by decide) (hts (.fieldLink RX1 26 "RumourReasonerModel" "areOn" "[Z") (by decide +kernel)) (fun _ h9 => h9) rfl dX1_digest_83 ?_
          refine lv_iload_n hx hb dX1_digest_86 rfl (lv_at hl 0 rfl) ?_
          refine ld_nz hx hb hK hP 6 1 rfl rfl (j := i5) (by omega) (by decide) dX1_digest_87 ?_
          refine lv_if_eq (tgt := 95) hx hb dX1_digest_88 (by decide) (fun c_12 => ?_) (fun c_12 => ?_)
          · have e_88 := bI_0 c_12
            refine lv_lconst (v := 0) hx hb dX1_digest_95 (by decide) ?_
            refine lv_ladd hx hb dX1_digest_96 ?_
            refine tc_long (y := mixI (mixI (foldD (fun d s => foldD (fun d a => mixI d (nI (sy (6 * s + a)))) (mixI (mixI d (nI (tr s))) (bI (on s))) 6) y_55 i5) (nI (tr i5))) (bI (on i5))) (by unfold mixI; rw [e_88]; rfl) ?_
            refine lv_lstore_n (lv' := [(1, .long (mixI (mixI (foldD (fun d s => foldD (fun d a => mixI d (nI (sy (6 * s + a)))) (mixI (mixI d (nI (tr s))) (bI (on s))) 6) y_55 i5) (nI (tr i5))) (bI (on i5)))), (3, .int (nI i5)), (0, .ref (bd 0))]) hx hb dX1_digest_97 rfl hl (by decide) rfl (fun ls hl => ?_)
            refine lv_iconst (v := nI 0) hx hb dX1_digest_98 (by decide) ?_
            refine lv_istore (lv' := [(4, .int (nI 0)), (1, .long (mixI (mixI (foldD (fun d s => foldD (fun d a => mixI d (nI (sy (6 * s + a)))) (mixI (mixI d (nI (tr s))) (bI (on s))) 6) y_55 i5) (nI (tr i5))) (bI (on i5)))), (3, .int (nI i5)), (0, .ref (bd 0))]) hx hb dX1_digest_99 hl (by decide) rfl (fun ls hl => ?_)
            have key13 : ∀ (d15 j14 : Nat), j14 + d15 = 6 → ∀ (rs_j14 : Nat → Int32), ∀ (H : Heap) (locs : List Loc) (ls : Array Slot), va_P D vwCl (wM bd cI cZ cJ (nI 0) n kd fi se sd tr on sy lt ru lg rs_j14) H → va_D A (wM bd cI cZ cJ (nI 0) n kd fi se sd tr on sy lt ru lg rs_j14) → va_S A s.heap H locs → lv_has ls 6 [(4, .int (nI j14)), (1, .long (foldD (fun d a => mixI d (nI (sy (6 * i5 + a)))) (mixI (mixI (foldD (fun d s => foldD (fun d a => mixI d (nI (sy (6 * s + a)))) (mixI (mixI d (nI (tr s))) (bI (on s))) 6) y_55 i5) (nI (tr i5))) (bI (on i5))) j14)), (3, .int (nI i5)), (0, .ref (bd 0))] → W p l e rm_X1_digest s m args below meth c H locs 0 0 Q (F0 m 101 ls []) := by
              intro d15
              induction d15 with
              | zero =>
                intro j14 hi_j14 rs_j14 H locs ls hP hD hS hl
                obtain rfl : j14 = 6 := by omega
                refine lv_iload hx hb dX1_digest_101 (lv_at hl 0 rfl) ?_
                refine lv_bipush (v := nI 6) hx hb dX1_digest_103 (by decide) ?_
                refine cT_ge (tgt := 134) hx hb dX1_digest_105 (by decide) (nI_le (by omega) (by omega)) ?_
                refine lv_iinc (v := nI (i5 + 1)) (lv' := [(3, .int (nI (i5 + 1))), (4, .int (nI 6)), (1, .long (foldD (fun d a => mixI d (nI (sy (6 * i5 + a)))) (mixI (mixI (foldD (fun d s => foldD (fun d a => mixI d (nI (sy (6 * s + a)))) (mixI (mixI d (nI (tr s))) (bI (on s))) 6) y_55 i5) (nI (tr i5))) (bI (on i5))) 6)), (0, .ref (bd 0))]) hx hb dX1_digest_134 hl (k := 2) rfl (iinc1 _) (by decide) rfl (fun ls hl => ?_)
                refine lv_goto (tgt := 59) hx hb dX1_digest_137 (by decide) ?_
                exact ih_i5 (i5 + 1) (by omega) rs_j14 H locs ls hP hD hS (lv_sub hl [0, 2, 3] rfl)
              | succ d15 ih_j14 =>
                intro j14 hi_j14 rs_j14 H locs ls hP hD hS hl
                refine lv_iload hx hb dX1_digest_101 (lv_at hl 0 rfl) ?_
                refine lv_bipush (v := nI 6) hx hb dX1_digest_103 (by decide) ?_
                refine cF_ge (tgt := 134) hx hb dX1_digest_105 (by decide) (nI_ge (by omega) (by omega)) ?_
                refine lv_lload_n hx hb dX1_digest_108 rfl (lv_at hl 1 rfl) ?_
                refine lv_ldc2 (v := 31) hx hb hown (hts (.constantLong RX1 128 (31)) (by decide +kernel)) dX1_digest_109 ?_
                refine lv_lmul hx hb dX1_digest_112 ?_
                refine lv_aload_n hx hb dX1_digest_113 rfl (lv_at hl 3 rfl) ?_
                refine va_get (D := D) (ci := 1) (v := .ref (bd 7)) (C := RX1) (T := TX1) (N := 13) hx hb hts hin0 hown hK hP 0 rfl rfl 8 (by decide) (hts (.fieldLink RX1 29 "RumourReasonerModel" "says" "[I") (by decide +kernel)) (fun _ h9 => h9) rfl dX1_digest_114 ?_
                refine lv_bipush (v := nI 6) hx hb dX1_digest_117 (by decide) ?_
                refine lv_iload_n hx hb dX1_digest_119 rfl (lv_at hl 2 rfl) ?_
                refine lv_imul hx hb dX1_digest_120 ?_
                refine tc_int (y := nI (6 * i5)) (pk_mul _ _) ?_
                refine lv_iload hx hb dX1_digest_121 (lv_at hl 0 rfl) ?_
                refine lv_iadd hx hb dX1_digest_123 ?_
                refine tc_int (y := nI ((6 * i5) + j14)) (nI_add _ _) ?_
                refine ld_ni hx hb hK hP 7 0 rfl rfl (j := ((6 * i5) + j14)) (by omega) (by decide) dX1_digest_124 ?_
                refine lv_i2l (v := (nI (sy ((6 * i5) + j14))).toInt64) hx hb dX1_digest_125 rfl ?_
                refine lv_ladd hx hb dX1_digest_126 ?_
                refine tc_long (y := mixI (foldD (fun d a => mixI d (nI (sy (6 * i5 + a)))) (mixI (mixI (foldD (fun d s => foldD (fun d a => mixI d (nI (sy (6 * s + a)))) (mixI (mixI d (nI (tr s))) (bI (on s))) 6) y_55 i5) (nI (tr i5))) (bI (on i5))) j14) (nI (sy (6 * i5 + j14)))) (rfl) ?_
                refine lv_lstore_n (lv' := [(1, .long (mixI (foldD (fun d a => mixI d (nI (sy (6 * i5 + a)))) (mixI (mixI (foldD (fun d s => foldD (fun d a => mixI d (nI (sy (6 * s + a)))) (mixI (mixI d (nI (tr s))) (bI (on s))) 6) y_55 i5) (nI (tr i5))) (bI (on i5))) j14) (nI (sy (6 * i5 + j14))))), (4, .int (nI j14)), (3, .int (nI i5)), (0, .ref (bd 0))]) hx hb dX1_digest_127 rfl hl (by decide) rfl (fun ls hl => ?_)
                refine lv_iinc (v := nI (j14 + 1)) (lv' := [(4, .int (nI (j14 + 1))), (1, .long (mixI (foldD (fun d a => mixI d (nI (sy (6 * i5 + a)))) (mixI (mixI (foldD (fun d s => foldD (fun d a => mixI d (nI (sy (6 * s + a)))) (mixI (mixI d (nI (tr s))) (bI (on s))) 6) y_55 i5) (nI (tr i5))) (bI (on i5))) j14) (nI (sy (6 * i5 + j14))))), (3, .int (nI i5)), (0, .ref (bd 0))]) hx hb dX1_digest_128 hl (k := 1) rfl (iinc1 _) (by decide) rfl (fun ls hl => ?_)
                refine lv_goto (tgt := 101) hx hb dX1_digest_131 (by decide) ?_
                exact ih_j14 (j14 + 1) (by omega) rs_j14 H locs ls hP hD hS (lv_sub hl [0, 1, 2, 3] rfl)
            exact key13 (6) 0 (by omega) rs_i5 _ _ ls hP hD hS (lv_sub hl [0, 1, 2, 3] rfl)
          · have e_88 := bI_1 c_12
            refine lv_lconst (v := 1) hx hb dX1_digest_91 (by decide) ?_
            refine lv_goto (tgt := 96) hx hb dX1_digest_92 (by decide) ?_
            refine lv_ladd hx hb dX1_digest_96 ?_
            refine tc_long (y := mixI (mixI (foldD (fun d s => foldD (fun d a => mixI d (nI (sy (6 * s + a)))) (mixI (mixI d (nI (tr s))) (bI (on s))) 6) y_55 i5) (nI (tr i5))) (bI (on i5))) (by unfold mixI; rw [e_88]; rfl) ?_
            refine lv_lstore_n (lv' := [(1, .long (mixI (mixI (foldD (fun d s => foldD (fun d a => mixI d (nI (sy (6 * s + a)))) (mixI (mixI d (nI (tr s))) (bI (on s))) 6) y_55 i5) (nI (tr i5))) (bI (on i5)))), (3, .int (nI i5)), (0, .ref (bd 0))]) hx hb dX1_digest_97 rfl hl (by decide) rfl (fun ls hl => ?_)
            refine lv_iconst (v := nI 0) hx hb dX1_digest_98 (by decide) ?_
            refine lv_istore (lv' := [(4, .int (nI 0)), (1, .long (mixI (mixI (foldD (fun d s => foldD (fun d a => mixI d (nI (sy (6 * s + a)))) (mixI (mixI d (nI (tr s))) (bI (on s))) 6) y_55 i5) (nI (tr i5))) (bI (on i5)))), (3, .int (nI i5)), (0, .ref (bd 0))]) hx hb dX1_digest_99 hl (by decide) rfl (fun ls hl => ?_)
            have key16 : ∀ (d18 j17 : Nat), j17 + d18 = 6 → ∀ (rs_j17 : Nat → Int32), ∀ (H : Heap) (locs : List Loc) (ls : Array Slot), va_P D vwCl (wM bd cI cZ cJ (nI 0) n kd fi se sd tr on sy lt ru lg rs_j17) H → va_D A (wM bd cI cZ cJ (nI 0) n kd fi se sd tr on sy lt ru lg rs_j17) → va_S A s.heap H locs → lv_has ls 6 [(4, .int (nI j17)), (1, .long (foldD (fun d a => mixI d (nI (sy (6 * i5 + a)))) (mixI (mixI (foldD (fun d s => foldD (fun d a => mixI d (nI (sy (6 * s + a)))) (mixI (mixI d (nI (tr s))) (bI (on s))) 6) y_55 i5) (nI (tr i5))) (bI (on i5))) j17)), (3, .int (nI i5)), (0, .ref (bd 0))] → W p l e rm_X1_digest s m args below meth c H locs 0 0 Q (F0 m 101 ls []) := by
              intro d18
              induction d18 with
              | zero =>
                intro j17 hi_j17 rs_j17 H locs ls hP hD hS hl
                obtain rfl : j17 = 6 := by omega
                refine lv_iload hx hb dX1_digest_101 (lv_at hl 0 rfl) ?_
                refine lv_bipush (v := nI 6) hx hb dX1_digest_103 (by decide) ?_
                refine cT_ge (tgt := 134) hx hb dX1_digest_105 (by decide) (nI_le (by omega) (by omega)) ?_
                refine lv_iinc (v := nI (i5 + 1)) (lv' := [(3, .int (nI (i5 + 1))), (4, .int (nI 6)), (1, .long (foldD (fun d a => mixI d (nI (sy (6 * i5 + a)))) (mixI (mixI (foldD (fun d s => foldD (fun d a => mixI d (nI (sy (6 * s + a)))) (mixI (mixI d (nI (tr s))) (bI (on s))) 6) y_55 i5) (nI (tr i5))) (bI (on i5))) 6)), (0, .ref (bd 0))]) hx hb dX1_digest_134 hl (k := 2) rfl (iinc1 _) (by decide) rfl (fun ls hl => ?_)
                refine lv_goto (tgt := 59) hx hb dX1_digest_137 (by decide) ?_
                exact ih_i5 (i5 + 1) (by omega) rs_j17 H locs ls hP hD hS (lv_sub hl [0, 2, 3] rfl)
              | succ d18 ih_j17 =>
                intro j17 hi_j17 rs_j17 H locs ls hP hD hS hl
                refine lv_iload hx hb dX1_digest_101 (lv_at hl 0 rfl) ?_
                refine lv_bipush (v := nI 6) hx hb dX1_digest_103 (by decide) ?_
                refine cF_ge (tgt := 134) hx hb dX1_digest_105 (by decide) (nI_ge (by omega) (by omega)) ?_
                refine lv_lload_n hx hb dX1_digest_108 rfl (lv_at hl 1 rfl) ?_
                refine lv_ldc2 (v := 31) hx hb hown (hts (.constantLong RX1 128 (31)) (by decide +kernel)) dX1_digest_109 ?_
                refine lv_lmul hx hb dX1_digest_112 ?_
                refine lv_aload_n hx hb dX1_digest_113 rfl (lv_at hl 3 rfl) ?_
                refine va_get (D := D) (ci := 1) (v := .ref (bd 7)) (C := RX1) (T := TX1) (N := 13) hx hb hts hin0 hown hK hP 0 rfl rfl 8 (by decide) (hts (.fieldLink RX1 29 "RumourReasonerModel" "says" "[I") (by decide +kernel)) (fun _ h9 => h9) rfl dX1_digest_114 ?_
                refine lv_bipush (v := nI 6) hx hb dX1_digest_117 (by decide) ?_
                refine lv_iload_n hx hb dX1_digest_119 rfl (lv_at hl 2 rfl) ?_
                refine lv_imul hx hb dX1_digest_120 ?_
                refine tc_int (y := nI (6 * i5)) (pk_mul _ _) ?_
                refine lv_iload hx hb dX1_digest_121 (lv_at hl 0 rfl) ?_
                refine lv_iadd hx hb dX1_digest_123 ?_
                refine tc_int (y := nI ((6 * i5) + j17)) (nI_add _ _) ?_
                refine ld_ni hx hb hK hP 7 0 rfl rfl (j := ((6 * i5) + j17)) (by omega) (by decide) dX1_digest_124 ?_
                refine lv_i2l (v := (nI (sy ((6 * i5) + j17))).toInt64) hx hb dX1_digest_125 rfl ?_
                refine lv_ladd hx hb dX1_digest_126 ?_
                refine tc_long (y := mixI (foldD (fun d a => mixI d (nI (sy (6 * i5 + a)))) (mixI (mixI (foldD (fun d s => foldD (fun d a => mixI d (nI (sy (6 * s + a)))) (mixI (mixI d (nI (tr s))) (bI (on s))) 6) y_55 i5) (nI (tr i5))) (bI (on i5))) j17) (nI (sy (6 * i5 + j17)))) (rfl) ?_
                refine lv_lstore_n (lv' := [(1, .long (mixI (foldD (fun d a => mixI d (nI (sy (6 * i5 + a)))) (mixI (mixI (foldD (fun d s => foldD (fun d a => mixI d (nI (sy (6 * s + a)))) (mixI (mixI d (nI (tr s))) (bI (on s))) 6) y_55 i5) (nI (tr i5))) (bI (on i5))) j17) (nI (sy (6 * i5 + j17))))), (4, .int (nI j17)), (3, .int (nI i5)), (0, .ref (bd 0))]) hx hb dX1_digest_127 rfl hl (by decide) rfl (fun ls hl => ?_)
                refine lv_iinc (v := nI (j17 + 1)) (lv' := [(4, .int (nI (j17 + 1))), (1, .long (mixI (foldD (fun d a => mixI d (nI (sy (6 * i5 + a)))) (mixI (mixI (foldD (fun d s => foldD (fun d a => mixI d (nI (sy (6 * s + a)))) (mixI (mixI d (nI (tr s))) (bI (on s))) 6) y_55 i5) (nI (tr i5))) (bI (on i5))) j17) (nI (sy (6 * i5 + j17))))), (3, .int (nI i5)), (0, .ref (bd 0))]) hx hb dX1_digest_128 hl (k := 1) rfl (iinc1 _) (by decide) rfl (fun ls hl => ?_)
                refine lv_goto (tgt := 101) hx hb dX1_digest_131 (by decide) ?_
                exact ih_j17 (j17 + 1) (by omega) rs_j17 H locs ls hP hD hS (lv_sub hl [0, 1, 2, 3] rfl)
            exact key16 (6) 0 (by omega) rs_i5 _ _ ls hP hD hS (lv_sub hl [0, 1, 2, 3] rfl)
      exact key4 (6) 0 (by omega) rs_i2 _ _ ls hP hD hS (lv_sub hl [0, 1, 2] rfl)
    | succ d3 ih_i2 =>
      intro i2 hi_i2 rs_i2 H locs ls hP hD hS hl
      refine lv_iload_n hx hb dX1_digest_17 rfl (lv_at hl 0 rfl) ?_
      refine lv_aload_n hx hb dX1_digest_18 rfl (lv_at hl 2 rfl) ?_
      refine va_get (D := D) (ci := 1) (v := .int (nI n)) (C := RX1) (T := TX1) (N := 13) hx hb hts hin0 hown hK hP 0 rfl rfl 1 (by decide) (hts (.fieldLink RX1 48 "RumourReasonerModel" "formulas" "I") (by decide +kernel)) (fun _ h9 => h9) rfl dX1_digest_19 ?_
      refine cF_ge (tgt := 45) hx hb dX1_digest_22 (by decide) (nI_ge (by omega) (by omega)) ?_
      refine lv_lload_n hx hb dX1_digest_25 rfl (lv_at hl 1 rfl) ?_
      refine lv_ldc2 (v := 31) hx hb hown (hts (.constantLong RX1 128 (31)) (by decide +kernel)) dX1_digest_26 ?_
      refine lv_lmul hx hb dX1_digest_29 ?_
      refine lv_aload_n hx hb dX1_digest_30 rfl (lv_at hl 2 rfl) ?_
      refine va_get (D := D) (ci := 1) (v := .ref (bd 1)) (C := RX1) (T := TX1) (N := 13) hx hb hts hin0 hown hK hP 0 rfl rfl 2 (by decide) (hts (.fieldLink RX1 9 "RumourReasonerModel" "kinds" "[I") (by decide +kernel)) (fun _ h9 => h9) rfl dX1_digest_31 ?_
      refine lv_iload_n hx hb dX1_digest_34 rfl (lv_at hl 0 rfl) ?_
      refine ld_ni hx hb hK hP 1 0 rfl rfl (j := i2) (by omega) (by decide) dX1_digest_35 ?_
      refine lv_i2l (v := (nI (kd i2)).toInt64) hx hb dX1_digest_36 rfl ?_
      refine lv_ladd hx hb dX1_digest_37 ?_
      refine tc_long (y := mixI (foldD (fun d j => mixI d (nI (kd j))) (mixI 131 (nI n)) i2) (nI (kd i2))) (rfl) ?_
      refine lv_lstore_n (lv' := [(1, .long (mixI (foldD (fun d j => mixI d (nI (kd j))) (mixI 131 (nI n)) i2) (nI (kd i2)))), (3, .int (nI i2)), (0, .ref (bd 0))]) hx hb dX1_digest_38 rfl hl (by decide) rfl (fun ls hl => ?_)
      refine lv_iinc (v := nI (i2 + 1)) (lv' := [(3, .int (nI (i2 + 1))), (1, .long (mixI (foldD (fun d j => mixI d (nI (kd j))) (mixI 131 (nI n)) i2) (nI (kd i2)))), (0, .ref (bd 0))]) hx hb dX1_digest_39 hl (k := 1) rfl (iinc1 _) (by decide) rfl (fun ls hl => ?_)
      refine lv_goto (tgt := 17) hx hb dX1_digest_42 (by decide) ?_
      exact ih_i2 (i2 + 1) (by omega) rs_i2 H locs ls hP hD hS (lv_sub hl [0, 1, 2] rfl)
  exact key1 (n) 0 (by omega) rs _ _ ls hP hD hS (lv_sub hl [0, 1, 2] rfl)

end
