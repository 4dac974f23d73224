section
variable (l : Launch) (D : va_G) (bd : Nat → Nat) (cI cZ cJ : ClassId) (th : Int32) (n : Nat) (kd fi se : Nat → Nat) (sd : Nat → Bool) (tr : Nat → Nat) (on : Nat → Bool) (sy : Nat → Nat) (lt : Nat) (ru : Nat → Option Nat) (lg : Nat) (rs : Nat → Int32)
theorem z2 {a : Nat} (h : a < 4) : nI (2 * (a / 2 % 2)) = 0 ↔ a / 2 % 2 = 0 := by
  rcases (show a = 0 ∨ a = 1 ∨ a = 2 ∨ a = 3 by omega) with rfl | rfl | rfl | rfl <;> decide
theorem z1 {a : Nat} (h : a < 4) : nI (a % 2) = 0 ↔ a % 2 = 0 := by
  rcases (show a = 0 ∨ a = 1 ∨ a = 2 ∨ a = 3 by omega) with rfl | rfl | rfl | rfl <;> decide
theorem hin_X1_worth : ∀ w ∈ wsX10, w ∈ wsX1_worth := by first | exact fun _ h => List.mem_cons_of_mem _ (List.mem_append_right _ h) | exact fun _ h => List.mem_cons_of_mem _ (List.mem_append_left _ (List.mem_append_right _ h)) | exact fun _ h => List.mem_cons_of_mem _ (List.mem_append_left _ (List.mem_append_left _ (List.mem_append_right _ h))) | exact fun _ h => List.mem_cons_of_mem _ (List.mem_append_left _ (List.mem_append_left _ (List.mem_append_left _ (List.mem_append_right _ h)))) | decide +kernel
def rm_X1_worth : Room := { frames := 1, cells := 0, slots := 0, locals := 22 }
set_option maxHeartbeats 4000000 in
set_option maxRecDepth 100000 in
theorem c_X1_worth (hM : OKM n kd fi se tr sy lt lg ru) (f v : Nat) (hf : f < n) (hv : v < 4096) : MuI l yX1_worth wsX1_worth rm_X1_worth D vwCl (wM bd cI cZ cJ th n kd fi se sd tr on sy lt ru lg rs) (fun u => wM bd cI cZ cJ th n kd fi se sd tr on sy lt ru lg u) (tyC cI cZ cJ) [.ref (bd 0), .int (nI f), .int (nI v)] (nI (wv kd fi se f v)) := by
  refine MuI.of (cc := cX1_worth) (maxL := 6) (by decide) rfl (Nat.le_of_ble_eq_true rfl) (vp_nar_int _) ?_
  intro A p e s m args below meth c Q ls hx hb hml hown hts hP hK hD kret hl
  have hown : s.vm.findClass RX1 = some m.cls := hown
  have hl : lv_has ls 6 [(0, .ref (bd 0)), (1, .int (nI f)), (2, .int (nI v))] := hl
  have hS : va_S A s.heap s.heap [] := va_S.rf
  have hin0 : ∀ w ∈ u_ws RX1 TX1 13, w ∈ wsX1_worth := hin_X1_worth
  have hn40 := hM.1
  refine lv_iconst (v := nI 0) hx hb dX1_worth_0 (by decide) ?_
  refine lv_istore_n (lv' := [(3, .int (nI 0)), (0, .ref (bd 0)), (1, .int (nI f)), (2, .int (nI v))]) hx hb dX1_worth_1 rfl hl (by decide) rfl (fun ls hl => ?_)
  have key1 : ∀ (d3 i2 : Nat), i2 + d3 = f + 1 → ∀ (rs_i2 : Nat → Int32), (∀ j, j < i2 → rs_i2 j = nI (wv kd fi se j v)) → ∀ (H : Heap) (locs : List Loc) (ls : Array Slot), va_P D vwCl (wM bd cI cZ cJ th n kd fi se sd tr on sy lt ru lg rs_i2) H → va_D A (wM bd cI cZ cJ th n kd fi se sd tr on sy lt ru lg rs_i2) → va_S A s.heap H locs → lv_has ls 6 [(3, .int (nI i2)), (0, .ref (bd 0)), (1, .int (nI f)), (2, .int (nI v))] → W p l e rm_X1_worth s m args below meth c H locs 0 0 Q (F0 m 2 ls []) := by
    intro d3
    induction d3 with
    | zero =>
      intro i2 hi_i2 rs_i2 hinv_i2 H locs ls hP hD hS hl
      obtain rfl : i2 = f + 1 := by omega
      refine lv_iload_n hx hb dX1_worth_2 rfl (lv_at hl 0 rfl) ?_
      refine lv_iload_n hx hb dX1_worth_3 rfl (lv_at hl 2 rfl) ?_
      refine cT_gt (tgt := 315) hx hb dX1_worth_4 (by decide) (nI_lt (by omega) (by omega)) ?_
      refine lv_aload_n hx hb dX1_worth_315 rfl (lv_at hl 1 rfl) ?_
      refine va_get (D := D) (ci := 1) (v := .ref (bd 9)) (C := RX1) (T := TX1) (N := 13) hx hb hts hin0 hown hK hP 0 rfl rfl 12 (by decide) (hts (.fieldLink RX1 42 "RumourReasonerModel" "results" "[I") (by decide +kernel)) (fun _ h9 => h9) rfl dX1_worth_316 ?_
      refine lv_iload_n hx hb dX1_worth_319 rfl (lv_at hl 2 rfl) ?_
      refine ld_ni hx hb hK hP 9 0 rfl rfl (j := f) (by omega) (by decide) dX1_worth_320 ?_
      refine tc_int (y := nI (wv kd fi se f v)) (hinv_i2 f (Nat.lt_succ_self f)) ?_
      exact kret _ rs_i2 _ _ _ _ (rfl) hP hS dX1_worth_321
    | succ d3 ih_i2 =>
      intro i2 hi_i2 rs_i2 hinv_i2 H locs ls hP hD hS hl
      have hif : i2 < n := by omega
      obtain ⟨w9, w0, w1, w2, w3⟩ := hM.2.2.2.2.2.2 i2 hif
      refine lv_iload_n hx hb dX1_worth_2 rfl (lv_at hl 0 rfl) ?_
      refine lv_iload_n hx hb dX1_worth_3 rfl (lv_at hl 2 rfl) ?_
      refine cF_gt (tgt := 315) hx hb dX1_worth_4 (by decide) (nI_nlt (by omega) (by omega)) ?_
      refine lv_aload_n hx hb dX1_worth_7 rfl (lv_at hl 1 rfl) ?_
      refine va_get (D := D) (ci := 1) (v := .ref (bd 1)) (C := RX1) (T := TX1) (N := 13) hx hb hts hin0 hown hK hP 0 rfl rfl 2 (by decide) (hts (.fieldLink RX1 9 "RumourReasonerModel" "kinds" "[I") (by decide +kernel)) (fun _ h9 => h9) rfl dX1_worth_8 ?_
      refine lv_iload_n hx hb dX1_worth_11 rfl (lv_at hl 0 rfl) ?_
      refine ld_ni hx hb hK hP 1 0 rfl rfl (j := i2) (by omega) (by decide) dX1_worth_12 ?_
      refine lv_iconst (v := nI 1) hx hb dX1_worth_13 (by decide) ?_
      refine lv_icmp_le (tgt := 31) hx hb dX1_worth_14 (by decide) (fun c_4 => ?_) (fun c_4 => ?_)
      · have e_14 : kd i2 ≤ 1 := (nI_leI (by omega) (by decide)).mp c_4
        refine lv_iconst (v := nI 0) hx hb dX1_worth_31 (by decide) ?_
        refine lv_istore (lv' := [(4, .int (nI 0)), (3, .int (nI i2)), (0, .ref (bd 0)), (1, .int (nI f)), (2, .int (nI v))]) hx hb dX1_worth_32 hl (by decide) rfl (fun ls hl => ?_)
        refine lv_aload_n hx hb dX1_worth_34 rfl (lv_at hl 2 rfl) ?_
        refine va_get (D := D) (ci := 1) (v := .ref (bd 1)) (C := RX1) (T := TX1) (N := 13) hx hb hts hin0 hown hK hP 0 rfl rfl 2 (by decide) (hts (.fieldLink RX1 9 "RumourReasonerModel" "kinds" "[I") (by decide +kernel)) (fun _ h9 => h9) rfl dX1_worth_35 ?_
        refine lv_iload_n hx hb dX1_worth_38 rfl (lv_at hl 1 rfl) ?_
        refine ld_ni hx hb hK hP 1 0 rfl rfl (j := i2) (by omega) (by decide) dX1_worth_39 ?_
        refine lv_iconst (v := nI 3) hx hb dX1_worth_40 (by decide) ?_
        refine lv_bipush (v := nI 7) hx hb dX1_worth_41 (by decide) ?_
        refine puI_S (own := RX1) (As := [.int (nI (kd i2)), .int (nI 3), .int (nI 7)]) (rest := []) ⟨hx, hb, hml, hown, hts⟩ (c_X1_isIn l D (nI (kd i2)) (nI 3) (nI 7)) gX1_worth_X1_isIn rfl ⟨rfl, rfl⟩ 3 rfl (by decide +kernel) ⟨Nat.le_of_ble_eq_true rfl, Nat.le_of_ble_eq_true rfl⟩ nilP (hK.sub (tys' := []) [] rfl) hS hl.1 rfl (Nat.le_of_ble_eq_true rfl) dX1_worth_43 ⟨Nat.zero_le _, Nat.zero_le _⟩ (fun H locs hk1 hS => ?_)
        replace hP := keptP hP hk1
        refine tc_int (y := bI (decide (3 ≤ kd i2) && decide (kd i2 ≤ 7))) (by rw [inB_n (by omega) (by decide) (by decide)]) ?_
        refine lv_if_eq (tgt := 63) hx hb dX1_worth_46 (by decide) (fun c_5 => ?_) (fun c_5 => ?_)
        · have e_46 := bI_0 c_5
          have e_47 : ¬ (3 ≤ kd i2 ∧ kd i2 ≤ 7) := by simpa using e_46
          refine lv_iconst (v := nI 0) hx hb dX1_worth_63 (by decide) ?_
          refine lv_istore (lv' := [(5, .int (nI 0)), (4, .int (nI 0)), (3, .int (nI i2)), (0, .ref (bd 0)), (1, .int (nI f)), (2, .int (nI v))]) hx hb dX1_worth_64 hl (by decide) rfl (fun ls hl => ?_)
          refine lv_aload_n hx hb dX1_worth_66 rfl (lv_at hl 3 rfl) ?_
          refine va_get (D := D) (ci := 1) (v := .ref (bd 1)) (C := RX1) (T := TX1) (N := 13) hx hb hts hin0 hown hK hP 0 rfl rfl 2 (by decide) (hts (.fieldLink RX1 9 "RumourReasonerModel" "kinds" "[I") (by decide +kernel)) (fun _ h9 => h9) rfl dX1_worth_67 ?_
          refine lv_iload_n hx hb dX1_worth_70 rfl (lv_at hl 2 rfl) ?_
          refine ld_ni hx hb hK hP 1 0 rfl rfl (j := i2) (by omega) (by decide) dX1_worth_71 ?_
          rcases (show kd i2 = 0 ∨ kd i2 = 1 by omega) with e_k | e_k
          · refine tc_int (y := nI 0) (by rw [e_k]) ?_
            refine lv_tableIn (off := 48) (tgt := 120) hx hb dX1_worth_72 (by decide) (by decide) rfl (by decide) ?_
            refine lv_aload_n hx hb dX1_worth_120 rfl (lv_at hl 3 rfl) ?_
            refine va_get (D := D) (ci := 1) (v := .ref (bd 9)) (C := RX1) (T := TX1) (N := 13) hx hb hts hin0 hown hK hP 0 rfl rfl 12 (by decide) (hts (.fieldLink RX1 42 "RumourReasonerModel" "results" "[I") (by decide +kernel)) (fun _ h9 => h9) rfl dX1_worth_121 ?_
            refine lv_iload_n hx hb dX1_worth_124 rfl (lv_at hl 2 rfl) ?_
            refine lv_iload_n hx hb dX1_worth_125 rfl (lv_at hl 5 rfl) ?_
            refine lv_iconst (v := nI 2) hx hb dX1_worth_126 (by decide) ?_
            refine lv_iconst (v := nI 5) hx hb dX1_worth_127 (by decide) ?_
            refine lv_aload_n hx hb dX1_worth_128 rfl (lv_at hl 3 rfl) ?_
            refine va_get (D := D) (ci := 1) (v := .ref (bd 2)) (C := RX1) (T := TX1) (N := 13) hx hb hts hin0 hown hK hP 0 rfl rfl 3 (by decide) (hts (.fieldLink RX1 13 "RumourReasonerModel" "firsts" "[I") (by decide +kernel)) (fun _ h9 => h9) rfl dX1_worth_129 ?_
            refine lv_iload_n hx hb dX1_worth_132 rfl (lv_at hl 2 rfl) ?_
            refine ld_ni hx hb hK hP 2 0 rfl rfl (j := i2) (by omega) (by decide) dX1_worth_133 ?_
            refine lv_isub hx hb dX1_worth_134 ?_
            refine tc_int (y := nI (5 - fi i2)) (pk_sub (by have := w0 e_k; omega)) ?_
            refine lv_imul hx hb dX1_worth_135 ?_
            refine tc_int (y := nI (2 * (5 - fi i2))) (pk_mul _ _) ?_
            refine lv_ishr hx hb dX1_worth_136 ?_
            refine tc_int (y := nI (v / 2 ^ (2 * (5 - fi i2)))) (shrN (by omega) (by omega)) ?_
            refine lv_iconst (v := nI 3) hx hb dX1_worth_137 (by decide) ?_
            refine lv_iand hx hb dX1_worth_138 ?_
            refine tc_int (y := nI (wv kd fi se i2 v)) (by rw [and3 (Nat.lt_of_le_of_lt (Nat.div_le_self _ _) (by omega)), wv_eq, e_k]; rfl) ?_
            refine st_ni hx hb hK hP hD hS 9 0 rfl rfl (j := i2) (by omega) (by decide) dX1_worth_139 (fun H locs hP hD hS => ?_)
            replace hP : va_P D vwCl (wM bd cI cZ cJ th n kd fi se sd tr on sy lt ru lg (upd rs_i2 i2 (nI (wv kd fi se i2 v)))) H := by exact hP
            replace hD : va_D A (wM bd cI cZ cJ th n kd fi se sd tr on sy lt ru lg (upd rs_i2 i2 (nI (wv kd fi se i2 v)))) := sameD2 hD rfl
            refine lv_goto (tgt := 309) hx hb dX1_worth_140 (by decide) ?_
            refine lv_iinc (v := nI (i2 + 1)) (lv' := [(3, .int (nI (i2 + 1))), (5, .int (nI 0)), (4, .int (nI 0)), (0, .ref (bd 0)), (1, .int (nI f)), (2, .int (nI v))]) hx hb dX1_worth_309 hl (k := 2) rfl (iinc1 _) (by decide) rfl (fun ls hl => ?_)
            refine lv_goto (tgt := 2) hx hb dX1_worth_312 (by decide) ?_
            exact ih_i2 (i2 + 1) (by omega) (upd rs_i2 i2 (nI (wv kd fi se i2 v))) (lt_s (fun a9 ha9 => by rw [pk_un (by omega)]; exact hinv_i2 a9 ha9) pk_us) H locs ls hP hD hS (lv_sub hl [0, 3, 4, 5] rfl)
          · refine tc_int (y := nI 1) (by rw [e_k]) ?_
            refine lv_tableIn (off := 71) (tgt := 143) hx hb dX1_worth_72 (by decide) (by decide) rfl (by decide) ?_
            refine lv_aload_n hx hb dX1_worth_143 rfl (lv_at hl 3 rfl) ?_
            refine va_get (D := D) (ci := 1) (v := .ref (bd 9)) (C := RX1) (T := TX1) (N := 13) hx hb hts hin0 hown hK hP 0 rfl rfl 12 (by decide) (hts (.fieldLink RX1 42 "RumourReasonerModel" "results" "[I") (by decide +kernel)) (fun _ h9 => h9) rfl dX1_worth_144 ?_
            refine lv_iload_n hx hb dX1_worth_147 rfl (lv_at hl 2 rfl) ?_
            refine lv_aload_n hx hb dX1_worth_148 rfl (lv_at hl 3 rfl) ?_
            refine va_get (D := D) (ci := 1) (v := .ref (bd 2)) (C := RX1) (T := TX1) (N := 13) hx hb hts hin0 hown hK hP 0 rfl rfl 3 (by decide) (hts (.fieldLink RX1 13 "RumourReasonerModel" "firsts" "[I") (by decide +kernel)) (fun _ h9 => h9) rfl dX1_worth_149 ?_
            refine lv_iload_n hx hb dX1_worth_152 rfl (lv_at hl 2 rfl) ?_
            refine ld_ni hx hb hK hP 2 0 rfl rfl (j := i2) (by omega) (by decide) dX1_worth_153 ?_
            refine tc_int (y := nI (wv kd fi se i2 v)) (by rw [wv_eq, e_k]; rfl) ?_
            refine st_ni hx hb hK hP hD hS 9 0 rfl rfl (j := i2) (by omega) (by decide) dX1_worth_154 (fun H locs hP hD hS => ?_)
            replace hP : va_P D vwCl (wM bd cI cZ cJ th n kd fi se sd tr on sy lt ru lg (upd rs_i2 i2 (nI (wv kd fi se i2 v)))) H := by exact hP
            replace hD : va_D A (wM bd cI cZ cJ th n kd fi se sd tr on sy lt ru lg (upd rs_i2 i2 (nI (wv kd fi se i2 v)))) := sameD2 hD rfl
            refine lv_goto (tgt := 309) hx hb dX1_worth_155 (by decide) ?_
            refine lv_iinc (v := nI (i2 + 1)) (lv' := [(3, .int (nI (i2 + 1))), (5, .int (nI 0)), (4, .int (nI 0)), (0, .ref (bd 0)), (1, .int (nI f)), (2, .int (nI v))]) hx hb dX1_worth_309 hl (k := 2) rfl (iinc1 _) (by decide) rfl (fun ls hl => ?_)
            refine lv_goto (tgt := 2) hx hb dX1_worth_312 (by decide) ?_
            exact ih_i2 (i2 + 1) (by omega) (upd rs_i2 i2 (nI (wv kd fi se i2 v))) (lt_s (fun a9 ha9 => by rw [pk_un (by omega)]; exact hinv_i2 a9 ha9) pk_us) H locs ls hP hD hS (lv_sub hl [0, 3, 4, 5] rfl)
        · have e_46 := bI_1 c_5
          have e_47 : 3 ≤ kd i2 ∧ kd i2 ≤ 7 := by simpa using e_46
          exact absurd e_47.1 (by omega)
      · have e_14 : ¬ kd i2 ≤ 1 := fun q => c_4 (nI_le q (by decide))
        have e_fi : fi i2 < i2 := w2 (by omega)
        have hA : wv kd fi se (fi i2) v < 4 := wv_lt hM.2.2.2.2.2.2 v _ (by omega)
        refine lv_aload_n hx hb dX1_worth_17 rfl (lv_at hl 1 rfl) ?_
        refine va_get (D := D) (ci := 1) (v := .ref (bd 9)) (C := RX1) (T := TX1) (N := 13) hx hb hts hin0 hown hK hP 0 rfl rfl 12 (by decide) (hts (.fieldLink RX1 42 "RumourReasonerModel" "results" "[I") (by decide +kernel)) (fun _ h9 => h9) rfl dX1_worth_18 ?_
        refine lv_aload_n hx hb dX1_worth_21 rfl (lv_at hl 1 rfl) ?_
        refine va_get (D := D) (ci := 1) (v := .ref (bd 2)) (C := RX1) (T := TX1) (N := 13) hx hb hts hin0 hown hK hP 0 rfl rfl 3 (by decide) (hts (.fieldLink RX1 13 "RumourReasonerModel" "firsts" "[I") (by decide +kernel)) (fun _ h9 => h9) rfl dX1_worth_22 ?_
        refine lv_iload_n hx hb dX1_worth_25 rfl (lv_at hl 0 rfl) ?_
        refine ld_ni hx hb hK hP 2 0 rfl rfl (j := i2) (by omega) (by decide) dX1_worth_26 ?_
        refine ld_ni hx hb hK hP 9 0 rfl rfl (j := (fi i2)) (by omega) (by decide) dX1_worth_27 ?_
        refine tc_int (y := nI (wv kd fi se (fi i2) v)) (hinv_i2 _ e_fi) ?_
        refine lv_goto (tgt := 32) hx hb dX1_worth_28 (by decide) ?_
        refine lv_istore (lv' := [(4, .int (nI (wv kd fi se (fi i2) v))), (3, .int (nI i2)), (0, .ref (bd 0)), (1, .int (nI f)), (2, .int (nI v))]) hx hb dX1_worth_32 hl (by decide) rfl (fun ls hl => ?_)
        refine lv_aload_n hx hb dX1_worth_34 rfl (lv_at hl 2 rfl) ?_
        refine va_get (D := D) (ci := 1) (v := .ref (bd 1)) (C := RX1) (T := TX1) (N := 13) hx hb hts hin0 hown hK hP 0 rfl rfl 2 (by decide) (hts (.fieldLink RX1 9 "RumourReasonerModel" "kinds" "[I") (by decide +kernel)) (fun _ h9 => h9) rfl dX1_worth_35 ?_
        refine lv_iload_n hx hb dX1_worth_38 rfl (lv_at hl 1 rfl) ?_
        refine ld_ni hx hb hK hP 1 0 rfl rfl (j := i2) (by omega) (by decide) dX1_worth_39 ?_
        refine lv_iconst (v := nI 3) hx hb dX1_worth_40 (by decide) ?_
        refine lv_bipush (v := nI 7) hx hb dX1_worth_41 (by decide) ?_
        refine puI_S (own := RX1) (As := [.int (nI (kd i2)), .int (nI 3), .int (nI 7)]) (rest := []) ⟨hx, hb, hml, hown, hts⟩ (c_X1_isIn l D (nI (kd i2)) (nI 3) (nI 7)) gX1_worth_X1_isIn rfl ⟨rfl, rfl⟩ 3 rfl (by decide +kernel) ⟨Nat.le_of_ble_eq_true rfl, Nat.le_of_ble_eq_true rfl⟩ nilP (hK.sub (tys' := []) [] rfl) hS hl.1 rfl (Nat.le_of_ble_eq_true rfl) dX1_worth_43 ⟨Nat.zero_le _, Nat.zero_le _⟩ (fun H locs hk1 hS => ?_)
        replace hP := keptP hP hk1
        refine tc_int (y := bI (decide (3 ≤ kd i2) && decide (kd i2 ≤ 7))) (by rw [inB_n (by omega) (by decide) (by decide)]) ?_
        refine lv_if_eq (tgt := 63) hx hb dX1_worth_46 (by decide) (fun c_6 => ?_) (fun c_6 => ?_)
        · have e_46 := bI_0 c_6
          have e_47 : ¬ (3 ≤ kd i2 ∧ kd i2 ≤ 7) := by simpa using e_46
          refine lv_iconst (v := nI 0) hx hb dX1_worth_63 (by decide) ?_
          refine lv_istore (lv' := [(5, .int (nI 0)), (4, .int (nI (wv kd fi se (fi i2) v))), (3, .int (nI i2)), (0, .ref (bd 0)), (1, .int (nI f)), (2, .int (nI v))]) hx hb dX1_worth_64 hl (by decide) rfl (fun ls hl => ?_)
          refine lv_aload_n hx hb dX1_worth_66 rfl (lv_at hl 3 rfl) ?_
          refine va_get (D := D) (ci := 1) (v := .ref (bd 1)) (C := RX1) (T := TX1) (N := 13) hx hb hts hin0 hown hK hP 0 rfl rfl 2 (by decide) (hts (.fieldLink RX1 9 "RumourReasonerModel" "kinds" "[I") (by decide +kernel)) (fun _ h9 => h9) rfl dX1_worth_67 ?_
          refine lv_iload_n hx hb dX1_worth_70 rfl (lv_at hl 2 rfl) ?_
          refine ld_ni hx hb hK hP 1 0 rfl rfl (j := i2) (by omega) (by decide) dX1_worth_71 ?_
          rcases (show kd i2 = 2 ∨ kd i2 = 8 by omega) with e_k | e_k
          · refine tc_int (y := nI 2) (by rw [e_k]) ?_
            refine lv_tableIn (off := 86) (tgt := 158) hx hb dX1_worth_72 (by decide) (by decide) rfl (by decide) ?_
            refine lv_aload_n hx hb dX1_worth_158 rfl (lv_at hl 3 rfl) ?_
            refine va_get (D := D) (ci := 1) (v := .ref (bd 9)) (C := RX1) (T := TX1) (N := 13) hx hb hts hin0 hown hK hP 0 rfl rfl 12 (by decide) (hts (.fieldLink RX1 42 "RumourReasonerModel" "results" "[I") (by decide +kernel)) (fun _ h9 => h9) rfl dX1_worth_159 ?_
            refine lv_iload_n hx hb dX1_worth_162 rfl (lv_at hl 2 rfl) ?_
            refine lv_iload hx hb dX1_worth_163 (lv_at hl 1 rfl) ?_
            refine lv_iconst (v := nI 1) hx hb dX1_worth_165 (by decide) ?_
            refine lv_iand hx hb dX1_worth_166 ?_
            refine lv_iconst (v := nI 2) hx hb dX1_worth_167 (by decide) ?_
            refine lv_imul hx hb dX1_worth_168 ?_
            refine lv_iload hx hb dX1_worth_169 (lv_at hl 1 rfl) ?_
            refine lv_iconst (v := nI 2) hx hb dX1_worth_171 (by decide) ?_
            refine lv_iand hx hb dX1_worth_172 ?_
            refine lv_iconst (v := nI 2) hx hb dX1_worth_173 (by decide) ?_
            refine lv_idiv hx hb dX1_worth_174 (by decide) ?_
            refine lv_iadd hx hb dX1_worth_175 ?_
            refine tc_int (y := nI (wv kd fi se i2 v)) (by rw [i_not _ hA, wv_k e_k e_fi (Or.inr (Or.inl rfl))]; rfl) ?_
            refine st_ni hx hb hK hP hD hS 9 0 rfl rfl (j := i2) (by omega) (by decide) dX1_worth_176 (fun H locs hP hD hS => ?_)
            replace hP : va_P D vwCl (wM bd cI cZ cJ th n kd fi se sd tr on sy lt ru lg (upd rs_i2 i2 (nI (wv kd fi se i2 v)))) H := by exact hP
            replace hD : va_D A (wM bd cI cZ cJ th n kd fi se sd tr on sy lt ru lg (upd rs_i2 i2 (nI (wv kd fi se i2 v)))) := sameD2 hD rfl
            refine lv_goto (tgt := 309) hx hb dX1_worth_177 (by decide) ?_
            refine lv_iinc (v := nI (i2 + 1)) (lv' := [(3, .int (nI (i2 + 1))), (5, .int (nI 0)), (4, .int (nI (wv kd fi se (fi i2) v))), (0, .ref (bd 0)), (1, .int (nI f)), (2, .int (nI v))]) hx hb dX1_worth_309 hl (k := 2) rfl (iinc1 _) (by decide) rfl (fun ls hl => ?_)
            refine lv_goto (tgt := 2) hx hb dX1_worth_312 (by decide) ?_
            exact ih_i2 (i2 + 1) (by omega) (upd rs_i2 i2 (nI (wv kd fi se i2 v))) (lt_s (fun a9 ha9 => by rw [pk_un (by omega)]; exact hinv_i2 a9 ha9) pk_us) H locs ls hP hD hS (lv_sub hl [0, 3, 4, 5] rfl)
          · refine tc_int (y := nI 8) (by rw [e_k]) ?_
            refine lv_tableOut (tgt := 278) hx hb dX1_worth_72 (Or.inr (by decide)) (by decide) ?_
            refine lv_aload_n hx hb dX1_worth_278 rfl (lv_at hl 3 rfl) ?_
            refine va_get (D := D) (ci := 1) (v := .ref (bd 9)) (C := RX1) (T := TX1) (N := 13) hx hb hts hin0 hown hK hP 0 rfl rfl 12 (by decide) (hts (.fieldLink RX1 42 "RumourReasonerModel" "results" "[I") (by decide +kernel)) (fun _ h9 => h9) rfl dX1_worth_279 ?_
            refine lv_iload_n hx hb dX1_worth_282 rfl (lv_at hl 2 rfl) ?_
            refine lv_iload hx hb dX1_worth_283 (lv_at hl 1 rfl) ?_
            refine lv_iconst (v := nI 2) hx hb dX1_worth_285 (by decide) ?_
            refine lv_iand hx hb dX1_worth_286 ?_
            refine tc_int (y := nI (2 * (wv kd fi se (fi i2) v / 2 % 2))) (told_2 hA) ?_
            refine lv_if_ne (tgt := 294) hx hb dX1_worth_287 (by decide) (fun c_7 => ?_) (fun c_7 => ?_)
            · have e_287 : ¬ wv kd fi se (fi i2) v / 2 % 2 = 0 := fun q => c_7 ((z2 hA).mpr q)
              refine lv_iconst (v := nI 0) hx hb dX1_worth_294 (by decide) ?_
              refine lv_iload hx hb dX1_worth_295 (lv_at hl 1 rfl) ?_
              refine lv_iconst (v := nI 1) hx hb dX1_worth_297 (by decide) ?_
              refine lv_iand hx hb dX1_worth_298 ?_
              refine tc_int (y := nI (wv kd fi se (fi i2) v % 2)) (told_1 hA) ?_
              refine lv_if_ne (tgt := 306) hx hb dX1_worth_299 (by decide) (fun c_8 => ?_) (fun c_8 => ?_)
              · have e_299 : ¬ wv kd fi se (fi i2) v % 2 = 0 := fun q => c_8 ((z1 hA).mpr q)
                refine lv_iconst (v := nI 0) hx hb dX1_worth_306 (by decide) ?_
                refine lv_iadd hx hb dX1_worth_307 ?_
                refine tc_int (y := nI (wv kd fi se i2 v)) (by rw [wv_k e_k e_fi (Or.inr (Or.inr rfl))]; show _ = nI ((if wv kd fi se (fi i2) v / 2 % 2 = 0 then 1 else 0) + (if wv kd fi se (fi i2) v % 2 = 0 then 2 else 0)); rw [if_neg e_287, if_neg e_299]; rfl) ?_
                refine st_ni hx hb hK hP hD hS 9 0 rfl rfl (j := i2) (by omega) (by decide) dX1_worth_308 (fun H locs hP hD hS => ?_)
                replace hP : va_P D vwCl (wM bd cI cZ cJ th n kd fi se sd tr on sy lt ru lg (upd rs_i2 i2 (nI (wv kd fi se i2 v)))) H := by exact hP
                replace hD : va_D A (wM bd cI cZ cJ th n kd fi se sd tr on sy lt ru lg (upd rs_i2 i2 (nI (wv kd fi se i2 v)))) := sameD2 hD rfl
                refine lv_iinc (v := nI (i2 + 1)) (lv' := [(3, .int (nI (i2 + 1))), (5, .int (nI 0)), (4, .int (nI (wv kd fi se (fi i2) v))), (0, .ref (bd 0)), (1, .int (nI f)), (2, .int (nI v))]) hx hb dX1_worth_309 hl (k := 2) rfl (iinc1 _) (by decide) rfl (fun ls hl => ?_)
                refine lv_goto (tgt := 2) hx hb dX1_worth_312 (by decide) ?_
                exact ih_i2 (i2 + 1) (by omega) (upd rs_i2 i2 (nI (wv kd fi se i2 v))) (lt_s (fun a9 ha9 => by rw [pk_un (by omega)]; exact hinv_i2 a9 ha9) pk_us) H locs ls hP hD hS (lv_sub hl [0, 3, 4, 5] rfl)
              · have e_299 : wv kd fi se (fi i2) v % 2 = 0 := (z1 hA).mp c_8
                refine lv_iconst (v := nI 2) hx hb dX1_worth_302 (by decide) ?_
                refine lv_goto (tgt := 307) hx hb dX1_worth_303 (by decide) ?_
                refine lv_iadd hx hb dX1_worth_307 ?_
                refine tc_int (y := nI (wv kd fi se i2 v)) (by rw [wv_k e_k e_fi (Or.inr (Or.inr rfl))]; show _ = nI ((if wv kd fi se (fi i2) v / 2 % 2 = 0 then 1 else 0) + (if wv kd fi se (fi i2) v % 2 = 0 then 2 else 0)); rw [if_neg e_287, if_pos e_299]; rfl) ?_
                refine st_ni hx hb hK hP hD hS 9 0 rfl rfl (j := i2) (by omega) (by decide) dX1_worth_308 (fun H locs hP hD hS => ?_)
                replace hP : va_P D vwCl (wM bd cI cZ cJ th n kd fi se sd tr on sy lt ru lg (upd rs_i2 i2 (nI (wv kd fi se i2 v)))) H := by exact hP
                replace hD : va_D A (wM bd cI cZ cJ th n kd fi se sd tr on sy lt ru lg (upd rs_i2 i2 (nI (wv kd fi se i2 v)))) := sameD2 hD rfl
                refine lv_iinc (v := nI (i2 + 1)) (lv' := [(3, .int (nI (i2 + 1))), (5, .int (nI 0)), (4, .int (nI (wv kd fi se (fi i2) v))), (0, .ref (bd 0)), (1, .int (nI f)), (2, .int (nI v))]) hx hb dX1_worth_309 hl (k := 2) rfl (iinc1 _) (by decide) rfl (fun ls hl => ?_)
                refine lv_goto (tgt := 2) hx hb dX1_worth_312 (by decide) ?_
                exact ih_i2 (i2 + 1) (by omega) (upd rs_i2 i2 (nI (wv kd fi se i2 v))) (lt_s (fun a9 ha9 => by rw [pk_un (by omega)]; exact hinv_i2 a9 ha9) pk_us) H locs ls hP hD hS (lv_sub hl [0, 3, 4, 5] rfl)
            · have e_287 : wv kd fi se (fi i2) v / 2 % 2 = 0 := (z2 hA).mp c_7
              refine lv_iconst (v := nI 1) hx hb dX1_worth_290 (by decide) ?_
              refine lv_goto (tgt := 295) hx hb dX1_worth_291 (by decide) ?_
              refine lv_iload hx hb dX1_worth_295 (lv_at hl 1 rfl) ?_
              refine lv_iconst (v := nI 1) hx hb dX1_worth_297 (by decide) ?_
              refine lv_iand hx hb dX1_worth_298 ?_
              refine tc_int (y := nI (wv kd fi se (fi i2) v % 2)) (told_1 hA) ?_
              refine lv_if_ne (tgt := 306) hx hb dX1_worth_299 (by decide) (fun c_9 => ?_) (fun c_9 => ?_)
              · have e_299 : ¬ wv kd fi se (fi i2) v % 2 = 0 := fun q => c_9 ((z1 hA).mpr q)
                refine lv_iconst (v := nI 0) hx hb dX1_worth_306 (by decide) ?_
                refine lv_iadd hx hb dX1_worth_307 ?_
                refine tc_int (y := nI (wv kd fi se i2 v)) (by rw [wv_k e_k e_fi (Or.inr (Or.inr rfl))]; show _ = nI ((if wv kd fi se (fi i2) v / 2 % 2 = 0 then 1 else 0) + (if wv kd fi se (fi i2) v % 2 = 0 then 2 else 0)); rw [if_pos e_287, if_neg e_299]; rfl) ?_
                refine st_ni hx hb hK hP hD hS 9 0 rfl rfl (j := i2) (by omega) (by decide) dX1_worth_308 (fun H locs hP hD hS => ?_)
                replace hP : va_P D vwCl (wM bd cI cZ cJ th n kd fi se sd tr on sy lt ru lg (upd rs_i2 i2 (nI (wv kd fi se i2 v)))) H := by exact hP
                replace hD : va_D A (wM bd cI cZ cJ th n kd fi se sd tr on sy lt ru lg (upd rs_i2 i2 (nI (wv kd fi se i2 v)))) := sameD2 hD rfl
                refine lv_iinc (v := nI (i2 + 1)) (lv' := [(3, .int (nI (i2 + 1))), (5, .int (nI 0)), (4, .int (nI (wv kd fi se (fi i2) v))), (0, .ref (bd 0)), (1, .int (nI f)), (2, .int (nI v))]) hx hb dX1_worth_309 hl (k := 2) rfl (iinc1 _) (by decide) rfl (fun ls hl => ?_)
                refine lv_goto (tgt := 2) hx hb dX1_worth_312 (by decide) ?_
                exact ih_i2 (i2 + 1) (by omega) (upd rs_i2 i2 (nI (wv kd fi se i2 v))) (lt_s (fun a9 ha9 => by rw [pk_un (by omega)]; exact hinv_i2 a9 ha9) pk_us) H locs ls hP hD hS (lv_sub hl [0, 3, 4, 5] rfl)
              · have e_299 : wv kd fi se (fi i2) v % 2 = 0 := (z1 hA).mp c_9
                refine lv_iconst (v := nI 2) hx hb dX1_worth_302 (by decide) ?_
                refine lv_goto (tgt := 307) hx hb dX1_worth_303 (by decide) ?_
                refine lv_iadd hx hb dX1_worth_307 ?_
                refine tc_int (y := nI (wv kd fi se i2 v)) (by rw [wv_k e_k e_fi (Or.inr (Or.inr rfl))]; show _ = nI ((if wv kd fi se (fi i2) v / 2 % 2 = 0 then 1 else 0) + (if wv kd fi se (fi i2) v % 2 = 0 then 2 else 0)); rw [if_pos e_287, if_pos e_299]; rfl) ?_
                refine st_ni hx hb hK hP hD hS 9 0 rfl rfl (j := i2) (by omega) (by decide) dX1_worth_308 (fun H locs hP hD hS => ?_)
                replace hP : va_P D vwCl (wM bd cI cZ cJ th n kd fi se sd tr on sy lt ru lg (upd rs_i2 i2 (nI (wv kd fi se i2 v)))) H := by exact hP
                replace hD : va_D A (wM bd cI cZ cJ th n kd fi se sd tr on sy lt ru lg (upd rs_i2 i2 (nI (wv kd fi se i2 v)))) := sameD2 hD rfl
                refine lv_iinc (v := nI (i2 + 1)) (lv' := [(3, .int (nI (i2 + 1))), (5, .int (nI 0)), (4, .int (nI (wv kd fi se (fi i2) v))), (0, .ref (bd 0)), (1, .int (nI f)), (2, .int (nI v))]) hx hb dX1_worth_309 hl (k := 2) rfl (iinc1 _) (by decide) rfl (fun ls hl => ?_)
                refine lv_goto (tgt := 2) hx hb dX1_worth_312 (by decide) ?_
                exact ih_i2 (i2 + 1) (by omega) (upd rs_i2 i2 (nI (wv kd fi se i2 v))) (lt_s (fun a9 ha9 => by rw [pk_un (by omega)]; exact hinv_i2 a9 ha9) pk_us) H locs ls hP hD hS (lv_sub hl [0, 3, 4, 5] rfl)
        · have e_46 := bI_1 c_6
          have e_47 : 3 ≤ kd i2 ∧ kd i2 ≤ 7 := by simpa using e_46
          have e_se : se i2 < i2 := w3 e_47
          have hB : wv kd fi se (se i2) v < 4 := wv_lt hM.2.2.2.2.2.2 v _ (by omega)
          refine lv_aload_n hx hb dX1_worth_49 rfl (lv_at hl 2 rfl) ?_
          refine va_get (D := D) (ci := 1) (v := .ref (bd 9)) (C := RX1) (T := TX1) (N := 13) hx hb hts hin0 hown hK hP 0 rfl rfl 12 (by decide) (hts (.fieldLink RX1 42 "RumourReasonerModel" "results" "[I") (by decide +kernel)) (fun _ h9 => h9) rfl dX1_worth_50 ?_
          refine lv_aload_n hx hb dX1_worth_53 rfl (lv_at hl 2 rfl) ?_
          refine va_get (D := D) (ci := 1) (v := .ref (bd 3)) (C := RX1) (T := TX1) (N := 13) hx hb hts hin0 hown hK hP 0 rfl rfl 4 (by decide) (hts (.fieldLink RX1 16 "RumourReasonerModel" "seconds" "[I") (by decide +kernel)) (fun _ h9 => h9) rfl dX1_worth_54 ?_
          refine lv_iload_n hx hb dX1_worth_57 rfl (lv_at hl 1 rfl) ?_
          refine ld_ni hx hb hK hP 3 0 rfl rfl (j := i2) (by omega) (by decide) dX1_worth_58 ?_
          refine ld_ni hx hb hK hP 9 0 rfl rfl (j := (se i2)) (by omega) (by decide) dX1_worth_59 ?_
          refine tc_int (y := nI (wv kd fi se (se i2) v)) (hinv_i2 _ e_se) ?_
          refine lv_goto (tgt := 64) hx hb dX1_worth_60 (by decide) ?_
          refine lv_istore (lv' := [(5, .int (nI (wv kd fi se (se i2) v))), (4, .int (nI (wv kd fi se (fi i2) v))), (3, .int (nI i2)), (0, .ref (bd 0)), (1, .int (nI f)), (2, .int (nI v))]) hx hb dX1_worth_64 hl (by decide) rfl (fun ls hl => ?_)
          refine lv_aload_n hx hb dX1_worth_66 rfl (lv_at hl 3 rfl) ?_
          refine va_get (D := D) (ci := 1) (v := .ref (bd 1)) (C := RX1) (T := TX1) (N := 13) hx hb hts hin0 hown hK hP 0 rfl rfl 2 (by decide) (hts (.fieldLink RX1 9 "RumourReasonerModel" "kinds" "[I") (by decide +kernel)) (fun _ h9 => h9) rfl dX1_worth_67 ?_
          refine lv_iload_n hx hb dX1_worth_70 rfl (lv_at hl 2 rfl) ?_
          refine ld_ni hx hb hK hP 1 0 rfl rfl (j := i2) (by omega) (by decide) dX1_worth_71 ?_
          rcases (show kd i2 = 3 ∨ kd i2 = 4 ∨ kd i2 = 5 ∨ kd i2 = 6 ∨ kd i2 = 7 by omega) with e_k | e_k | e_k | e_k | e_k
          · refine tc_int (y := nI 3) (by rw [e_k]) ?_
            refine lv_tableIn (off := 108) (tgt := 180) hx hb dX1_worth_72 (by decide) (by decide) rfl (by decide) ?_
            refine lv_aload_n hx hb dX1_worth_180 rfl (lv_at hl 3 rfl) ?_
            refine va_get (D := D) (ci := 1) (v := .ref (bd 9)) (C := RX1) (T := TX1) (N := 13) hx hb hts hin0 hown hK hP 0 rfl rfl 12 (by decide) (hts (.fieldLink RX1 42 "RumourReasonerModel" "results" "[I") (by decide +kernel)) (fun _ h9 => h9) rfl dX1_worth_181 ?_
            refine lv_iload_n hx hb dX1_worth_184 rfl (lv_at hl 2 rfl) ?_
            refine lv_iload hx hb dX1_worth_185 (lv_at hl 1 rfl) ?_
            refine lv_iload hx hb dX1_worth_187 (lv_at hl 0 rfl) ?_
            refine lv_iand hx hb dX1_worth_189 ?_
            refine lv_iconst (v := nI 1) hx hb dX1_worth_190 (by decide) ?_
            refine lv_iand hx hb dX1_worth_191 ?_
            refine lv_iload hx hb dX1_worth_192 (lv_at hl 1 rfl) ?_
            refine lv_iload hx hb dX1_worth_194 (lv_at hl 0 rfl) ?_
            refine lv_ior hx hb dX1_worth_196 ?_
            refine lv_iconst (v := nI 2) hx hb dX1_worth_197 (by decide) ?_
            refine lv_iand hx hb dX1_worth_198 ?_
            refine lv_ior hx hb dX1_worth_199 ?_
            refine tc_int (y := nI (wv kd fi se i2 v)) (by rw [i_and _ hA _ hB, wv_k e_k e_fi (Or.inl e_se)]; rfl) ?_
            refine st_ni hx hb hK hP hD hS 9 0 rfl rfl (j := i2) (by omega) (by decide) dX1_worth_200 (fun H locs hP hD hS => ?_)
            replace hP : va_P D vwCl (wM bd cI cZ cJ th n kd fi se sd tr on sy lt ru lg (upd rs_i2 i2 (nI (wv kd fi se i2 v)))) H := by exact hP
            replace hD : va_D A (wM bd cI cZ cJ th n kd fi se sd tr on sy lt ru lg (upd rs_i2 i2 (nI (wv kd fi se i2 v)))) := sameD2 hD rfl
            refine lv_goto (tgt := 309) hx hb dX1_worth_201 (by decide) ?_
            refine lv_iinc (v := nI (i2 + 1)) (lv' := [(3, .int (nI (i2 + 1))), (5, .int (nI (wv kd fi se (se i2) v))), (4, .int (nI (wv kd fi se (fi i2) v))), (0, .ref (bd 0)), (1, .int (nI f)), (2, .int (nI v))]) hx hb dX1_worth_309 hl (k := 2) rfl (iinc1 _) (by decide) rfl (fun ls hl => ?_)
            refine lv_goto (tgt := 2) hx hb dX1_worth_312 (by decide) ?_
            exact ih_i2 (i2 + 1) (by omega) (upd rs_i2 i2 (nI (wv kd fi se i2 v))) (lt_s (fun a9 ha9 => by rw [pk_un (by omega)]; exact hinv_i2 a9 ha9) pk_us) H locs ls hP hD hS (lv_sub hl [0, 3, 4, 5] rfl)
          · refine tc_int (y := nI 4) (by rw [e_k]) ?_
            refine lv_tableIn (off := 132) (tgt := 204) hx hb dX1_worth_72 (by decide) (by decide) rfl (by decide) ?_
            refine lv_aload_n hx hb dX1_worth_204 rfl (lv_at hl 3 rfl) ?_
            refine va_get (D := D) (ci := 1) (v := .ref (bd 9)) (C := RX1) (T := TX1) (N := 13) hx hb hts hin0 hown hK hP 0 rfl rfl 12 (by decide) (hts (.fieldLink RX1 42 "RumourReasonerModel" "results" "[I") (by decide +kernel)) (fun _ h9 => h9) rfl dX1_worth_205 ?_
            refine lv_iload_n hx hb dX1_worth_208 rfl (lv_at hl 2 rfl) ?_
            refine lv_iload hx hb dX1_worth_209 (lv_at hl 1 rfl) ?_
            refine lv_iload hx hb dX1_worth_211 (lv_at hl 0 rfl) ?_
            refine lv_ior hx hb dX1_worth_213 ?_
            refine lv_iconst (v := nI 1) hx hb dX1_worth_214 (by decide) ?_
            refine lv_iand hx hb dX1_worth_215 ?_
            refine lv_iload hx hb dX1_worth_216 (lv_at hl 1 rfl) ?_
            refine lv_iload hx hb dX1_worth_218 (lv_at hl 0 rfl) ?_
            refine lv_iand hx hb dX1_worth_220 ?_
            refine lv_iconst (v := nI 2) hx hb dX1_worth_221 (by decide) ?_
            refine lv_iand hx hb dX1_worth_222 ?_
            refine lv_ior hx hb dX1_worth_223 ?_
            refine tc_int (y := nI (wv kd fi se i2 v)) (by rw [i_or _ hA _ hB, wv_k e_k e_fi (Or.inl e_se)]; rfl) ?_
            refine st_ni hx hb hK hP hD hS 9 0 rfl rfl (j := i2) (by omega) (by decide) dX1_worth_224 (fun H locs hP hD hS => ?_)
            replace hP : va_P D vwCl (wM bd cI cZ cJ th n kd fi se sd tr on sy lt ru lg (upd rs_i2 i2 (nI (wv kd fi se i2 v)))) H := by exact hP
            replace hD : va_D A (wM bd cI cZ cJ th n kd fi se sd tr on sy lt ru lg (upd rs_i2 i2 (nI (wv kd fi se i2 v)))) := sameD2 hD rfl
            refine lv_goto (tgt := 309) hx hb dX1_worth_225 (by decide) ?_
            refine lv_iinc (v := nI (i2 + 1)) (lv' := [(3, .int (nI (i2 + 1))), (5, .int (nI (wv kd fi se (se i2) v))), (4, .int (nI (wv kd fi se (fi i2) v))), (0, .ref (bd 0)), (1, .int (nI f)), (2, .int (nI v))]) hx hb dX1_worth_309 hl (k := 2) rfl (iinc1 _) (by decide) rfl (fun ls hl => ?_)
            refine lv_goto (tgt := 2) hx hb dX1_worth_312 (by decide) ?_
            exact ih_i2 (i2 + 1) (by omega) (upd rs_i2 i2 (nI (wv kd fi se i2 v))) (lt_s (fun a9 ha9 => by rw [pk_un (by omega)]; exact hinv_i2 a9 ha9) pk_us) H locs ls hP hD hS (lv_sub hl [0, 3, 4, 5] rfl)
          · refine tc_int (y := nI 5) (by rw [e_k]) ?_
            refine lv_tableIn (off := 156) (tgt := 228) hx hb dX1_worth_72 (by decide) (by decide) rfl (by decide) ?_
            refine lv_aload_n hx hb dX1_worth_228 rfl (lv_at hl 3 rfl) ?_
            refine va_get (D := D) (ci := 1) (v := .ref (bd 9)) (C := RX1) (T := TX1) (N := 13) hx hb hts hin0 hown hK hP 0 rfl rfl 12 (by decide) (hts (.fieldLink RX1 42 "RumourReasonerModel" "results" "[I") (by decide +kernel)) (fun _ h9 => h9) rfl dX1_worth_229 ?_
            refine lv_iload_n hx hb dX1_worth_232 rfl (lv_at hl 2 rfl) ?_
            refine lv_iload hx hb dX1_worth_233 (lv_at hl 1 rfl) ?_
            refine lv_iload hx hb dX1_worth_235 (lv_at hl 0 rfl) ?_
            refine lv_iand hx hb dX1_worth_237 ?_
            refine tc_int (y := nI (wv kd fi se i2 v)) (by rw [fa_and, wv_k e_k e_fi (Or.inl e_se)]; rfl) ?_
            refine st_ni hx hb hK hP hD hS 9 0 rfl rfl (j := i2) (by omega) (by decide) dX1_worth_238 (fun H locs hP hD hS => ?_)
            replace hP : va_P D vwCl (wM bd cI cZ cJ th n kd fi se sd tr on sy lt ru lg (upd rs_i2 i2 (nI (wv kd fi se i2 v)))) H := by exact hP
            replace hD : va_D A (wM bd cI cZ cJ th n kd fi se sd tr on sy lt ru lg (upd rs_i2 i2 (nI (wv kd fi se i2 v)))) := sameD2 hD rfl
            refine lv_goto (tgt := 309) hx hb dX1_worth_239 (by decide) ?_
            refine lv_iinc (v := nI (i2 + 1)) (lv' := [(3, .int (nI (i2 + 1))), (5, .int (nI (wv kd fi se (se i2) v))), (4, .int (nI (wv kd fi se (fi i2) v))), (0, .ref (bd 0)), (1, .int (nI f)), (2, .int (nI v))]) hx hb dX1_worth_309 hl (k := 2) rfl (iinc1 _) (by decide) rfl (fun ls hl => ?_)
            refine lv_goto (tgt := 2) hx hb dX1_worth_312 (by decide) ?_
            exact ih_i2 (i2 + 1) (by omega) (upd rs_i2 i2 (nI (wv kd fi se i2 v))) (lt_s (fun a9 ha9 => by rw [pk_un (by omega)]; exact hinv_i2 a9 ha9) pk_us) H locs ls hP hD hS (lv_sub hl [0, 3, 4, 5] rfl)
          · refine tc_int (y := nI 6) (by rw [e_k]) ?_
            refine lv_tableIn (off := 170) (tgt := 242) hx hb dX1_worth_72 (by decide) (by decide) rfl (by decide) ?_
            refine lv_aload_n hx hb dX1_worth_242 rfl (lv_at hl 3 rfl) ?_
            refine va_get (D := D) (ci := 1) (v := .ref (bd 9)) (C := RX1) (T := TX1) (N := 13) hx hb hts hin0 hown hK hP 0 rfl rfl 12 (by decide) (hts (.fieldLink RX1 42 "RumourReasonerModel" "results" "[I") (by decide +kernel)) (fun _ h9 => h9) rfl dX1_worth_243 ?_
            refine lv_iload_n hx hb dX1_worth_246 rfl (lv_at hl 2 rfl) ?_
            refine lv_iload hx hb dX1_worth_247 (lv_at hl 1 rfl) ?_
            refine lv_iload hx hb dX1_worth_249 (lv_at hl 0 rfl) ?_
            refine lv_ior hx hb dX1_worth_251 ?_
            refine tc_int (y := nI (wv kd fi se i2 v)) (by rw [fa_or, wv_k e_k e_fi (Or.inl e_se)]; rfl) ?_
            refine st_ni hx hb hK hP hD hS 9 0 rfl rfl (j := i2) (by omega) (by decide) dX1_worth_252 (fun H locs hP hD hS => ?_)
            replace hP : va_P D vwCl (wM bd cI cZ cJ th n kd fi se sd tr on sy lt ru lg (upd rs_i2 i2 (nI (wv kd fi se i2 v)))) H := by exact hP
            replace hD : va_D A (wM bd cI cZ cJ th n kd fi se sd tr on sy lt ru lg (upd rs_i2 i2 (nI (wv kd fi se i2 v)))) := sameD2 hD rfl
            refine lv_goto (tgt := 309) hx hb dX1_worth_253 (by decide) ?_
            refine lv_iinc (v := nI (i2 + 1)) (lv' := [(3, .int (nI (i2 + 1))), (5, .int (nI (wv kd fi se (se i2) v))), (4, .int (nI (wv kd fi se (fi i2) v))), (0, .ref (bd 0)), (1, .int (nI f)), (2, .int (nI v))]) hx hb dX1_worth_309 hl (k := 2) rfl (iinc1 _) (by decide) rfl (fun ls hl => ?_)
            refine lv_goto (tgt := 2) hx hb dX1_worth_312 (by decide) ?_
            exact ih_i2 (i2 + 1) (by omega) (upd rs_i2 i2 (nI (wv kd fi se i2 v))) (lt_s (fun a9 ha9 => by rw [pk_un (by omega)]; exact hinv_i2 a9 ha9) pk_us) H locs ls hP hD hS (lv_sub hl [0, 3, 4, 5] rfl)
          · refine tc_int (y := nI 7) (by rw [e_k]) ?_
            refine lv_tableIn (off := 184) (tgt := 256) hx hb dX1_worth_72 (by decide) (by decide) rfl (by decide) ?_
            refine lv_aload_n hx hb dX1_worth_256 rfl (lv_at hl 3 rfl) ?_
            refine va_get (D := D) (ci := 1) (v := .ref (bd 9)) (C := RX1) (T := TX1) (N := 13) hx hb hts hin0 hown hK hP 0 rfl rfl 12 (by decide) (hts (.fieldLink RX1 42 "RumourReasonerModel" "results" "[I") (by decide +kernel)) (fun _ h9 => h9) rfl dX1_worth_257 ?_
            refine lv_iload_n hx hb dX1_worth_260 rfl (lv_at hl 2 rfl) ?_
            refine lv_iload hx hb dX1_worth_261 (lv_at hl 1 rfl) ?_
            refine lv_iconst (v := nI 1) hx hb dX1_worth_263 (by decide) ?_
            refine lv_iand hx hb dX1_worth_264 ?_
            refine tc_int (y := nI (wv kd fi se (fi i2) v % 2)) (told_1 hA) ?_
            refine lv_if_ne (tgt := 272) hx hb dX1_worth_265 (by decide) (fun c_10 => ?_) (fun c_10 => ?_)
            · have e_265 : ¬ wv kd fi se (fi i2) v % 2 = 0 := fun q => c_10 ((z1 hA).mpr q)
              refine lv_iload hx hb dX1_worth_272 (lv_at hl 0 rfl) ?_
              refine tc_int (y := nI (wv kd fi se i2 v)) (by rw [wv_k e_k e_fi (Or.inl e_se)]; show _ = nI (if wv kd fi se (fi i2) v % 2 = 0 then 1 else _); rw [if_neg e_265]; rfl) ?_
              refine st_ni hx hb hK hP hD hS 9 0 rfl rfl (j := i2) (by omega) (by decide) dX1_worth_274 (fun H locs hP hD hS => ?_)
              replace hP : va_P D vwCl (wM bd cI cZ cJ th n kd fi se sd tr on sy lt ru lg (upd rs_i2 i2 (nI (wv kd fi se i2 v)))) H := by exact hP
              replace hD : va_D A (wM bd cI cZ cJ th n kd fi se sd tr on sy lt ru lg (upd rs_i2 i2 (nI (wv kd fi se i2 v)))) := sameD2 hD rfl
              refine lv_goto (tgt := 309) hx hb dX1_worth_275 (by decide) ?_
              refine lv_iinc (v := nI (i2 + 1)) (lv' := [(3, .int (nI (i2 + 1))), (5, .int (nI (wv kd fi se (se i2) v))), (4, .int (nI (wv kd fi se (fi i2) v))), (0, .ref (bd 0)), (1, .int (nI f)), (2, .int (nI v))]) hx hb dX1_worth_309 hl (k := 2) rfl (iinc1 _) (by decide) rfl (fun ls hl => ?_)
              refine lv_goto (tgt := 2) hx hb dX1_worth_312 (by decide) ?_
              exact ih_i2 (i2 + 1) (by omega) (upd rs_i2 i2 (nI (wv kd fi se i2 v))) (lt_s (fun a9 ha9 => by rw [pk_un (by omega)]; exact hinv_i2 a9 ha9) pk_us) H locs ls hP hD hS (lv_sub hl [0, 3, 4, 5] rfl)
            · have e_265 : wv kd fi se (fi i2) v % 2 = 0 := (z1 hA).mp c_10
              refine lv_iconst (v := nI 1) hx hb dX1_worth_268 (by decide) ?_
              refine tc_int (y := nI (wv kd fi se i2 v)) (by rw [wv_k e_k e_fi (Or.inl e_se)]; show _ = nI (if wv kd fi se (fi i2) v % 2 = 0 then 1 else _); rw [if_pos e_265]) ?_
              refine lv_goto (tgt := 274) hx hb dX1_worth_269 (by decide) ?_
              refine st_ni hx hb hK hP hD hS 9 0 rfl rfl (j := i2) (by omega) (by decide) dX1_worth_274 (fun H locs hP hD hS => ?_)
              replace hP : va_P D vwCl (wM bd cI cZ cJ th n kd fi se sd tr on sy lt ru lg (upd rs_i2 i2 (nI (wv kd fi se i2 v)))) H := by exact hP
              replace hD : va_D A (wM bd cI cZ cJ th n kd fi se sd tr on sy lt ru lg (upd rs_i2 i2 (nI (wv kd fi se i2 v)))) := sameD2 hD rfl
              refine lv_goto (tgt := 309) hx hb dX1_worth_275 (by decide) ?_
              refine lv_iinc (v := nI (i2 + 1)) (lv' := [(3, .int (nI (i2 + 1))), (5, .int (nI (wv kd fi se (se i2) v))), (4, .int (nI (wv kd fi se (fi i2) v))), (0, .ref (bd 0)), (1, .int (nI f)), (2, .int (nI v))]) hx hb dX1_worth_309 hl (k := 2) rfl (iinc1 _) (by decide) rfl (fun ls hl => ?_)
              refine lv_goto (tgt := 2) hx hb dX1_worth_312 (by decide) ?_
              exact ih_i2 (i2 + 1) (by omega) (upd rs_i2 i2 (nI (wv kd fi se i2 v))) (lt_s (fun a9 ha9 => by rw [pk_un (by omega)]; exact hinv_i2 a9 ha9) pk_us) H locs ls hP hD hS (lv_sub hl [0, 3, 4, 5] rfl)
  exact key1 (f + 1) 0 (by omega) rs (fun j hj => absurd hj (Nat.not_lt_zero j)) _ _ ls hP hD hS (lv_sub hl [0, 1, 2, 3] rfl)

end
