section
variable (l : Launch) (D : va_G) (bd : Nat → Nat) (cI cZ cJ : ClassId) (th : Int32) (n : Nat) (kd fi se : Nat → Nat) (sd : Nat → Bool) (tr : Nat → Nat) (on : Nat → Bool) (sy : Nat → Nat) (lt : Nat) (ru : Nat → Option Nat) (lg : Nat) (rs : Nat → Int32)
theorem slM_some {all : Nat} {tr cf : Nat → Nat} : ∀ k, (∀ f, (slM all tr cf k).1 = some f → f < k)
  | 0 => fun f h => by simp [slM] at h
  | k + 1 => fun f h => by
    unfold slM at h
    split at h
    · cases h; exact Nat.lt_succ_self _
    · exact Nat.lt_succ_of_lt (slM_some k f h)
theorem slM_lt {all : Nat} {tr : Nat → Nat} (h : ∀ s, s < 6 → tr s ≤ 100) (cf : Nat → Nat) : ∀ k, (slM all tr cf k).2 ≤ 600
  | 0 => Nat.zero_le _
  | k + 1 => by
    have ih := slM_lt h cf k (all := all)
    have := trS_le h k 6 (Nat.le_refl 6)
    unfold slM
    split
    · exact this
    · exact ih
theorem hin_X1_silence : ∀ w ∈ wsX10, w ∈ wsX1_silence := by first | exact fun _ h => List.mem_cons_of_mem _ (List.mem_append_right _ h) | exact fun _ h => List.mem_cons_of_mem _ (List.mem_append_left _ (List.mem_append_right _ h)) | exact fun _ h => List.mem_cons_of_mem _ (List.mem_append_left _ (List.mem_append_left _ (List.mem_append_right _ h))) | exact fun _ h => List.mem_cons_of_mem _ (List.mem_append_left _ (List.mem_append_left _ (List.mem_append_left _ (List.mem_append_right _ h)))) | decide +kernel
def rm_X1_silence : Room := { frames := 4, cells := 0, slots := 0, locals := 94 }
set_option maxHeartbeats 4000000 in
set_option maxRecDepth 100000 in
theorem c_X1_silence (hM : OKM n kd fi se tr sy lt lg ru) (hF : ∀ h, h < 64 → mIt sy (wv kd fi se) ru h 13 = mIt sy (wv kd fi se) ru h 12) : MuI l yX1_silence wsX1_silence rm_X1_silence D vwCl (wM bd cI cZ cJ th n kd fi se sd tr on sy lt ru lg rs) (fun u => wM bd cI cZ cJ (nI 0) n kd fi se sd tr on sy lt ru lg u) (tyC cI cZ cJ) [.ref (bd 0)] (rI (slM (hsS tr on lt 6) tr (fun h => awS (mIt sy (wv kd fi se) ru h 12) 3 6) 64).1) := by
  refine MuI.of (cc := cX1_silence) (maxL := 7) (by decide) rfl (Nat.le_of_ble_eq_true rfl) (vp_nar_int _) ?_
  intro A p e s m args below meth c Q ls hx hb hml hown hts hP hK hD kret hl
  have hown : s.vm.findClass RX1 = some m.cls := hown
  have hl : lv_has ls 7 [(0, .ref (bd 0))] := hl
  have hS : va_S A s.heap s.heap [] := va_S.rf
  have hin0 : ∀ w ∈ u_ws RX1 TX1 13, w ∈ wsX1_silence := hin_X1_silence
  have hh0 : hsS tr on lt 6 < 64 := hsS_lt tr on lt 6 (Nat.le_refl 6)
  have hsl : ∀ k, (slM (hsS tr on lt 6) tr (fun h => awS (mIt sy (wv kd fi se) ru h 12) 3 6) k).2 < 2 ^ 31 := fun k => Nat.lt_of_le_of_lt (slM_lt hM.2.1 _ k) (by decide)
  have hts9 : ∀ k, trS tr k 6 < 2 ^ 31 := fun k => Nat.lt_of_le_of_lt (trS_le hM.2.1 k 6 (Nat.le_refl 6)) (by decide)
  refine lv_aload_n hx hb dX1_silence_0 rfl (lv_at hl 0 rfl) ?_
  refine lv_iconst (v := nI 0) hx hb dX1_silence_1 (by decide) ?_
  refine va_put (D := D) (ci := 1) (v := .int (nI 0)) (ty := .int) (C := RX1) (T := TX1) (N := 13) hx hb hts hin0 tyX1 tyX1_ok nmX1 hown hK hP hD hS 0 rfl rfl 0 (by decide) (hts (.fieldLink RX1 45 "RumourReasonerModel" "thrown" "I") (by decide +kernel)) (fun _ h9 => h9) rfl (by decide +kernel) rfl rfl (Nat.le_of_ble_eq_true rfl) dX1_silence_2 (fun H locs hP hD hS => ?_)
  have hP : va_P D vwCl (wM bd cI cZ cJ (nI 0) n kd fi se sd tr on sy lt ru lg rs) H := hP
  have hD : va_D A (wM bd cI cZ cJ (nI 0) n kd fi se sd tr on sy lt ru lg rs) := hD
  refine lv_aload_n hx hb dX1_silence_5 rfl (lv_at hl 0 rfl) ?_
  refine puI_V (own := RX1) (As := []) (rest := []) (C := RX1) (ci := 1) (q0 := 0) ⟨hx, hb, hml, hown, hts⟩ (c_X1_heardSet l D bd cI cZ cJ (nI 0) n kd fi se sd tr on sy lt ru lg rs hM) gX1_silence_X1_heardSet rfl ⟨rfl, rfl⟩ 0 rfl (by decide +kernel) ⟨Nat.le_of_ble_eq_true rfl, Nat.le_of_ble_eq_true rfl⟩ hP hK rfl rfl rfl hS hl.1 rfl (Nat.le_of_ble_eq_true rfl) dX1_silence_6 ⟨Nat.zero_le _, Nat.zero_le _⟩ (fun H locs hk1 hS => ?_)
  replace hP := keptP hP hk1
  refine lv_istore_n (lv' := [(1, .int (nI (hsS tr on lt 6))), (0, .ref (bd 0))]) hx hb dX1_silence_9 rfl hl (by decide) rfl (fun ls hl => ?_)
  refine lv_iconst (v := (-1)) hx hb dX1_silence_10 (by decide) ?_
  refine tc_int (y := rI none) (rfl) ?_
  refine lv_istore_n (lv' := [(2, .int (rI none)), (1, .int (nI (hsS tr on lt 6))), (0, .ref (bd 0))]) hx hb dX1_silence_11 rfl hl (by decide) rfl (fun ls hl => ?_)
  refine lv_iconst (v := nI 0) hx hb dX1_silence_12 (by decide) ?_
  refine lv_istore_n (lv' := [(3, .int (nI 0)), (2, .int (rI none)), (1, .int (nI (hsS tr on lt 6))), (0, .ref (bd 0))]) hx hb dX1_silence_13 rfl hl (by decide) rfl (fun ls hl => ?_)
  refine lv_iconst (v := nI 0) hx hb dX1_silence_14 (by decide) ?_
  refine lv_istore (lv' := [(4, .int (nI 0)), (3, .int (nI 0)), (2, .int (rI none)), (1, .int (nI (hsS tr on lt 6))), (0, .ref (bd 0))]) hx hb dX1_silence_15 hl (by decide) rfl (fun ls hl => ?_)
  have key1 : ∀ (d3 i2 : Nat), i2 + d3 = 64 → ∀ (rs_i2 : Nat → Int32), ∀ (H : Heap) (locs : List Loc) (ls : Array Slot), va_P D vwCl (wM bd cI cZ cJ (nI 0) n kd fi se sd tr on sy lt ru lg rs_i2) H → va_D A (wM bd cI cZ cJ (nI 0) n kd fi se sd tr on sy lt ru lg rs_i2) → va_S A s.heap H locs → lv_has ls 7 [(4, .int (nI i2)), (2, .int (rI (slM (hsS tr on lt 6) tr (fun h => awS (mIt sy (wv kd fi se) ru h 12) 3 6) i2).1)), (3, .int (nI (slM (hsS tr on lt 6) tr (fun h => awS (mIt sy (wv kd fi se) ru h 12) 3 6) i2).2)), (1, .int (nI (hsS tr on lt 6))), (0, .ref (bd 0))] → W p l e rm_X1_silence s m args below meth c H locs 0 0 Q (F0 m 17 ls []) := by
    intro d3
    induction d3 with
    | zero =>
      intro i2 hi_i2 rs_i2 H locs ls hP hD hS hl
      obtain rfl : i2 = 64 := by omega
      refine lv_iload hx hb dX1_silence_17 (lv_at hl 0 rfl) ?_
      refine lv_bipush (v := nI 64) hx hb dX1_silence_19 (by decide) ?_
      refine cT_ge (tgt := 124) hx hb dX1_silence_21 (by decide) (nI_le (by omega) (by omega)) ?_
      refine lv_iload_n hx hb dX1_silence_124 rfl (lv_at hl 1 rfl) ?_
      exact kret _ rs_i2 _ _ _ _ (rfl) hP hS dX1_silence_125
    | succ d3 ih_i2 =>
      intro i2 hi_i2 rs_i2 H locs ls hP hD hS hl
      refine lv_iload hx hb dX1_silence_17 (lv_at hl 0 rfl) ?_
      refine lv_bipush (v := nI 64) hx hb dX1_silence_19 (by decide) ?_
      refine cF_ge (tgt := 124) hx hb dX1_silence_21 (by decide) (nI_ge (by omega) (by omega)) ?_
      refine lv_iload hx hb dX1_silence_24 (lv_at hl 0 rfl) ?_
      refine lv_iload_n hx hb dX1_silence_26 rfl (lv_at hl 3 rfl) ?_
      refine lv_iconst (v := (-1)) hx hb dX1_silence_27 (by decide) ?_
      refine lv_ixor hx hb dX1_silence_28 ?_
      refine lv_iand hx hb dX1_silence_29 ?_
      refine tc_int (y := nI (i2 &&& (63 ^^^ hsS tr on lt 6))) (andnot (k := 6) (by omega)) ?_
      refine lv_if_eq (tgt := 36) hx hb dX1_silence_30 (by decide) (fun c_4 => ?_) (fun c_4 => ?_)
      · have e_30 : i2 &&& (63 ^^^ hsS tr on lt 6) = 0 := (nz (Nat.lt_of_le_of_lt Nat.and_le_left (by omega))).mp c_4
        refine lv_iconst (v := nI 0) hx hb dX1_silence_36 (by decide) ?_
        refine lv_istore (lv' := [(5, .int (nI 0)), (4, .int (nI i2)), (2, .int (rI (slM (hsS tr on lt 6) tr (fun h => awS (mIt sy (wv kd fi se) ru h 12) 3 6) i2).1)), (3, .int (nI (slM (hsS tr on lt 6) tr (fun h => awS (mIt sy (wv kd fi se) ru h 12) 3 6) i2).2)), (1, .int (nI (hsS tr on lt 6))), (0, .ref (bd 0))]) hx hb dX1_silence_37 hl (by decide) rfl (fun ls hl => ?_)
        refine lv_iconst (v := nI 0) hx hb dX1_silence_39 (by decide) ?_
        refine lv_istore (lv' := [(6, .int (nI 0)), (5, .int (nI 0)), (4, .int (nI i2)), (2, .int (rI (slM (hsS tr on lt 6) tr (fun h => awS (mIt sy (wv kd fi se) ru h 12) 3 6) i2).1)), (3, .int (nI (slM (hsS tr on lt 6) tr (fun h => awS (mIt sy (wv kd fi se) ru h 12) 3 6) i2).2)), (1, .int (nI (hsS tr on lt 6))), (0, .ref (bd 0))]) hx hb dX1_silence_40 hl (by decide) rfl (fun ls hl => ?_)
        have key5 : ∀ (d7 j6 : Nat), j6 + d7 = 6 → ∀ (rs_j6 : Nat → Int32), ∀ (H : Heap) (locs : List Loc) (ls : Array Slot), va_P D vwCl (wM bd cI cZ cJ (nI 0) n kd fi se sd tr on sy lt ru lg rs_j6) H → va_D A (wM bd cI cZ cJ (nI 0) n kd fi se sd tr on sy lt ru lg rs_j6) → va_S A s.heap H locs → lv_has ls 7 [(6, .int (nI j6)), (5, .int (nI (trS tr i2 j6))), (4, .int (nI i2)), (2, .int (rI (slM (hsS tr on lt 6) tr (fun h => awS (mIt sy (wv kd fi se) ru h 12) 3 6) i2).1)), (3, .int (nI (slM (hsS tr on lt 6) tr (fun h => awS (mIt sy (wv kd fi se) ru h 12) 3 6) i2).2)), (1, .int (nI (hsS tr on lt 6))), (0, .ref (bd 0))] → W p l e rm_X1_silence s m args below meth c H locs 0 0 Q (F0 m 42 ls []) := by
          intro d7
          induction d7 with
          | zero =>
            intro j6 hi_j6 rs_j6 H locs ls hP hD hS hl
            obtain rfl : j6 = 6 := by omega
            refine lv_iload hx hb dX1_silence_42 (lv_at hl 0 rfl) ?_
            refine lv_bipush (v := nI 6) hx hb dX1_silence_44 (by decide) ?_
            refine cT_ge (tgt := 81) hx hb dX1_silence_46 (by decide) (nI_le (by omega) (by omega)) ?_
            refine lv_iload_n hx hb dX1_silence_81 rfl (lv_at hl 3 rfl) ?_
            refine lv_iconst (v := (-1)) hx hb dX1_silence_82 (by decide) ?_
            refine lv_icmp_eq (tgt := 92) hx hb dX1_silence_83 (by decide) (fun c_8 => ?_) (fun c_8 => ?_)
            · have e_or : (slM (hsS tr on lt 6) tr (fun h => awS (mIt sy (wv kd fi se) ru h 12) 3 6) i2).1 = none ∨ trS tr i2 6 < (slM (hsS tr on lt 6) tr (fun h => awS (mIt sy (wv kd fi se) ru h 12) 3 6) i2).2 := Or.inl ((rI_none (fun f hf => by have := slM_some i2 f hf; omega)).mp c_8)
              refine lv_aload_n hx hb dX1_silence_92 rfl (lv_at hl 6 rfl) ?_
              refine lv_iload_n hx hb dX1_silence_93 rfl (lv_at hl 5 rfl) ?_
              refine lv_iload hx hb dX1_silence_94 (lv_at hl 2 rfl) ?_
              refine lv_iconst (v := (-1)) hx hb dX1_silence_96 (by decide) ?_
              refine lv_ixor hx hb dX1_silence_97 ?_
              refine lv_iand hx hb dX1_silence_98 ?_
              refine tc_int (y := nI (hsS tr on lt 6 &&& (63 ^^^ i2))) (andnot (k := 6) hh0) ?_
              refine muI_V (own := RX1) (As := [.int (nI (hsS tr on lt 6 &&& (63 ^^^ i2)))]) (rest := []) (C := RX1) (ci := 1) (q0 := 0) (A1 := A) ⟨hx, hb, hml, hown, hts⟩ (c_X1_settle l D bd cI cZ cJ (nI 0) n kd fi se sd tr on sy lt ru lg rs_j6 hM hF (hsS tr on lt 6 &&& (63 ^^^ i2)) (and_lt64 hh0)) gX1_silence_X1_settle rfl ⟨rfl, rfl⟩ 1 rfl (by decide +kernel) ⟨Nat.le_of_ble_eq_true rfl, Nat.le_of_ble_eq_true rfl⟩ hP hK hD (fun _ h9 => h9) rfl rfl rfl hS hl.1 rfl (Nat.le_of_ble_eq_true rfl) dX1_silence_99 ⟨Nat.zero_le _, Nat.zero_le _⟩ (fun u9 H locs hP hz1 hk1 hS => ?_)
              replace hP : va_P D vwCl (wM bd cI cZ cJ (nI 0) n kd fi se sd tr on sy lt ru lg u9) H := hP
              replace hD : va_D A (wM bd cI cZ cJ (nI 0) n kd fi se sd tr on sy lt ru lg u9) := sameD2 hD rfl
              refine lv_iconst (v := nI 3) hx hb dX1_silence_102 (by decide) ?_
              refine puI_S (own := RX1) (As := [.int (nI (mIt sy (wv kd fi se) ru (hsS tr on lt 6 &&& (63 ^^^ i2)) 12)), .int (nI 3)]) (rest := []) ⟨hx, hb, hml, hown, hts⟩ (c_X1_having l D (mIt sy (wv kd fi se) ru (hsS tr on lt 6 &&& (63 ^^^ i2)) 12) 3 (mIt_lt hM _ _) (by omega)) gX1_silence_X1_having rfl ⟨rfl, rfl⟩ 2 rfl (by decide +kernel) ⟨Nat.le_of_ble_eq_true rfl, Nat.le_of_ble_eq_true rfl⟩ nilP (hK.sub (tys' := []) [] rfl) hS hl.1 rfl (Nat.le_of_ble_eq_true rfl) dX1_silence_103 ⟨Nat.zero_le _, Nat.zero_le _⟩ (fun H locs hk1 hS => ?_)
              replace hP := keptP hP hk1
              refine lv_if_eq (tgt := 112) hx hb dX1_silence_106 (by decide) (fun c_10 => ?_) (fun c_10 => ?_)
              · have e_106 : (fun h => awS (mIt sy (wv kd fi se) ru h 12) 3 6) (hsS tr on lt 6 &&& (63 ^^^ i2)) = 0 := (nz (Nat.lt_trans (awS_lt6 _ _) (by decide))).mp c_10
                refine lv_iload hx hb dX1_silence_112 (lv_at hl 2 rfl) ?_
                refine tc_int (y := rI (some i2)) (rfl) ?_
                refine lv_istore_n (lv' := [(2, .int (rI (some i2))), (6, .int (nI 6)), (5, .int (nI (trS tr i2 6))), (4, .int (nI i2)), (3, .int (nI (slM (hsS tr on lt 6) tr (fun h => awS (mIt sy (wv kd fi se) ru h 12) 3 6) i2).2)), (1, .int (nI (hsS tr on lt 6))), (0, .ref (bd 0))]) hx hb dX1_silence_114 rfl hl (by decide) rfl (fun ls hl => ?_)
                refine lv_iload hx hb dX1_silence_115 (lv_at hl 2 rfl) ?_
                refine lv_istore_n (lv' := [(3, .int (nI (trS tr i2 6))), (2, .int (rI (some i2))), (6, .int (nI 6)), (5, .int (nI (trS tr i2 6))), (4, .int (nI i2)), (1, .int (nI (hsS tr on lt 6))), (0, .ref (bd 0))]) hx hb dX1_silence_117 rfl hl (by decide) rfl (fun ls hl => ?_)
                refine lv_iinc (v := nI (i2 + 1)) (lv' := [(4, .int (nI (i2 + 1))), (3, .int (nI (trS tr i2 6))), (2, .int (rI (some i2))), (6, .int (nI 6)), (5, .int (nI (trS tr i2 6))), (1, .int (nI (hsS tr on lt 6))), (0, .ref (bd 0))]) hx hb dX1_silence_118 hl (k := 4) rfl (iinc1 _) (by decide) rfl (fun ls hl => ?_)
                refine lv_goto (tgt := 17) hx hb dX1_silence_121 (by decide) ?_
                exact ih_i2 (i2 + 1) (by omega) u9 H locs ls hP hD hS (by have h9 := lv_sub hl [0, 2, 1, 5, 6] rfl; rw [show slM (hsS tr on lt 6) tr (fun h => awS (mIt sy (wv kd fi se) ru h 12) 3 6) (i2 + 1) = (some i2, trS tr i2 6) from if_pos ⟨e_30, e_or, e_106⟩]; exact h9)
              · have e_106 : ¬ (fun h => awS (mIt sy (wv kd fi se) ru h 12) 3 6) (hsS tr on lt 6 &&& (63 ^^^ i2)) = 0 := fun q => c_10 (by show nI ((fun h => awS (mIt sy (wv kd fi se) ru h 12) 3 6) (hsS tr on lt 6 &&& (63 ^^^ i2))) = 0; rw [q]; rfl)
                refine lv_goto (tgt := 118) hx hb dX1_silence_109 (by decide) ?_
                refine lv_iinc (v := nI (i2 + 1)) (lv' := [(4, .int (nI (i2 + 1))), (6, .int (nI 6)), (5, .int (nI (trS tr i2 6))), (2, .int (rI (slM (hsS tr on lt 6) tr (fun h => awS (mIt sy (wv kd fi se) ru h 12) 3 6) i2).1)), (3, .int (nI (slM (hsS tr on lt 6) tr (fun h => awS (mIt sy (wv kd fi se) ru h 12) 3 6) i2).2)), (1, .int (nI (hsS tr on lt 6))), (0, .ref (bd 0))]) hx hb dX1_silence_118 hl (k := 2) rfl (iinc1 _) (by decide) rfl (fun ls hl => ?_)
                refine lv_goto (tgt := 17) hx hb dX1_silence_121 (by decide) ?_
                exact ih_i2 (i2 + 1) (by omega) u9 H locs ls hP hD hS (by have h9 := lv_sub hl [0, 3, 4, 5, 6] rfl; rw [show slM (hsS tr on lt 6) tr (fun h => awS (mIt sy (wv kd fi se) ru h 12) 3 6) (i2 + 1) = slM (hsS tr on lt 6) tr (fun h => awS (mIt sy (wv kd fi se) ru h 12) 3 6) i2 from if_neg (fun q => e_106 q.2.2)]; exact h9)
            · have e_83 : ¬ (slM (hsS tr on lt 6) tr (fun h => awS (mIt sy (wv kd fi se) ru h 12) 3 6) i2).1 = none := fun q => c_8 (by rw [q]; rfl)
              refine lv_iload hx hb dX1_silence_86 (lv_at hl 1 rfl) ?_
              refine lv_iload_n hx hb dX1_silence_88 rfl (lv_at hl 4 rfl) ?_
              refine lv_icmp_ge (tgt := 118) hx hb dX1_silence_89 (by decide) (fun c_11 => ?_) (fun c_11 => ?_)
              · have e_or : ¬ ((slM (hsS tr on lt 6) tr (fun h => awS (mIt sy (wv kd fi se) ru h 12) 3 6) i2).1 = none ∨ trS tr i2 6 < (slM (hsS tr on lt 6) tr (fun h => awS (mIt sy (wv kd fi se) ru h 12) 3 6) i2).2) := fun q => q.elim e_83 (fun q => nI_ge q (hsl _) c_11)
                refine lv_iinc (v := nI (i2 + 1)) (lv' := [(4, .int (nI (i2 + 1))), (6, .int (nI 6)), (5, .int (nI (trS tr i2 6))), (2, .int (rI (slM (hsS tr on lt 6) tr (fun h => awS (mIt sy (wv kd fi se) ru h 12) 3 6) i2).1)), (3, .int (nI (slM (hsS tr on lt 6) tr (fun h => awS (mIt sy (wv kd fi se) ru h 12) 3 6) i2).2)), (1, .int (nI (hsS tr on lt 6))), (0, .ref (bd 0))]) hx hb dX1_silence_118 hl (k := 2) rfl (iinc1 _) (by decide) rfl (fun ls hl => ?_)
                refine lv_goto (tgt := 17) hx hb dX1_silence_121 (by decide) ?_
                exact ih_i2 (i2 + 1) (by omega) rs_j6 H locs ls hP hD hS (by have h9 := lv_sub hl [0, 3, 4, 5, 6] rfl; rw [show slM (hsS tr on lt 6) tr (fun h => awS (mIt sy (wv kd fi se) ru h 12) 3 6) (i2 + 1) = slM (hsS tr on lt 6) tr (fun h => awS (mIt sy (wv kd fi se) ru h 12) 3 6) i2 from if_neg (fun q => e_or q.2.1)]; exact h9)
              · have e_or : (slM (hsS tr on lt 6) tr (fun h => awS (mIt sy (wv kd fi se) ru h 12) 3 6) i2).1 = none ∨ trS tr i2 6 < (slM (hsS tr on lt 6) tr (fun h => awS (mIt sy (wv kd fi se) ru h 12) 3 6) i2).2 := Or.inr (Nat.not_le.mp (fun q => c_11 (nI_le q (hts9 _))))
                refine lv_aload_n hx hb dX1_silence_92 rfl (lv_at hl 6 rfl) ?_
                refine lv_iload_n hx hb dX1_silence_93 rfl (lv_at hl 5 rfl) ?_
                refine lv_iload hx hb dX1_silence_94 (lv_at hl 2 rfl) ?_
                refine lv_iconst (v := (-1)) hx hb dX1_silence_96 (by decide) ?_
                refine lv_ixor hx hb dX1_silence_97 ?_
                refine lv_iand hx hb dX1_silence_98 ?_
                refine tc_int (y := nI (hsS tr on lt 6 &&& (63 ^^^ i2))) (andnot (k := 6) hh0) ?_
                refine muI_V (own := RX1) (As := [.int (nI (hsS tr on lt 6 &&& (63 ^^^ i2)))]) (rest := []) (C := RX1) (ci := 1) (q0 := 0) (A1 := A) ⟨hx, hb, hml, hown, hts⟩ (c_X1_settle l D bd cI cZ cJ (nI 0) n kd fi se sd tr on sy lt ru lg rs_j6 hM hF (hsS tr on lt 6 &&& (63 ^^^ i2)) (and_lt64 hh0)) gX1_silence_X1_settle rfl ⟨rfl, rfl⟩ 1 rfl (by decide +kernel) ⟨Nat.le_of_ble_eq_true rfl, Nat.le_of_ble_eq_true rfl⟩ hP hK hD (fun _ h9 => h9) rfl rfl rfl hS hl.1 rfl (Nat.le_of_ble_eq_true rfl) dX1_silence_99 ⟨Nat.zero_le _, Nat.zero_le _⟩ (fun u12 H locs hP hz1 hk1 hS => ?_)
                replace hP : va_P D vwCl (wM bd cI cZ cJ (nI 0) n kd fi se sd tr on sy lt ru lg u12) H := hP
                replace hD : va_D A (wM bd cI cZ cJ (nI 0) n kd fi se sd tr on sy lt ru lg u12) := sameD2 hD rfl
                refine lv_iconst (v := nI 3) hx hb dX1_silence_102 (by decide) ?_
                refine puI_S (own := RX1) (As := [.int (nI (mIt sy (wv kd fi se) ru (hsS tr on lt 6 &&& (63 ^^^ i2)) 12)), .int (nI 3)]) (rest := []) ⟨hx, hb, hml, hown, hts⟩ (c_X1_having l D (mIt sy (wv kd fi se) ru (hsS tr on lt 6 &&& (63 ^^^ i2)) 12) 3 (mIt_lt hM _ _) (by omega)) gX1_silence_X1_having rfl ⟨rfl, rfl⟩ 2 rfl (by decide +kernel) ⟨Nat.le_of_ble_eq_true rfl, Nat.le_of_ble_eq_true rfl⟩ nilP (hK.sub (tys' := []) [] rfl) hS hl.1 rfl (Nat.le_of_ble_eq_true rfl) dX1_silence_103 ⟨Nat.zero_le _, Nat.zero_le _⟩ (fun H locs hk1 hS => ?_)
                replace hP := keptP hP hk1
                refine lv_if_eq (tgt := 112) hx hb dX1_silence_106 (by decide) (fun c_13 => ?_) (fun c_13 => ?_)
                · have e_106 : (fun h => awS (mIt sy (wv kd fi se) ru h 12) 3 6) (hsS tr on lt 6 &&& (63 ^^^ i2)) = 0 := (nz (Nat.lt_trans (awS_lt6 _ _) (by decide))).mp c_13
                  refine lv_iload hx hb dX1_silence_112 (lv_at hl 2 rfl) ?_
                  refine tc_int (y := rI (some i2)) (rfl) ?_
                  refine lv_istore_n (lv' := [(2, .int (rI (some i2))), (6, .int (nI 6)), (5, .int (nI (trS tr i2 6))), (4, .int (nI i2)), (3, .int (nI (slM (hsS tr on lt 6) tr (fun h => awS (mIt sy (wv kd fi se) ru h 12) 3 6) i2).2)), (1, .int (nI (hsS tr on lt 6))), (0, .ref (bd 0))]) hx hb dX1_silence_114 rfl hl (by decide) rfl (fun ls hl => ?_)
                  refine lv_iload hx hb dX1_silence_115 (lv_at hl 2 rfl) ?_
                  refine lv_istore_n (lv' := [(3, .int (nI (trS tr i2 6))), (2, .int (rI (some i2))), (6, .int (nI 6)), (5, .int (nI (trS tr i2 6))), (4, .int (nI i2)), (1, .int (nI (hsS tr on lt 6))), (0, .ref (bd 0))]) hx hb dX1_silence_117 rfl hl (by decide) rfl (fun ls hl => ?_)
                  refine lv_iinc (v := nI (i2 + 1)) (lv' := [(4, .int (nI (i2 + 1))), (3, .int (nI (trS tr i2 6))), (2, .int (rI (some i2))), (6, .int (nI 6)), (5, .int (nI (trS tr i2 6))), (1, .int (nI (hsS tr on lt 6))), (0, .ref (bd 0))]) hx hb dX1_silence_118 hl (k := 4) rfl (iinc1 _) (by decide) rfl (fun ls hl => ?_)
                  refine lv_goto (tgt := 17) hx hb dX1_silence_121 (by decide) ?_
                  exact ih_i2 (i2 + 1) (by omega) u12 H locs ls hP hD hS (by have h9 := lv_sub hl [0, 2, 1, 5, 6] rfl; rw [show slM (hsS tr on lt 6) tr (fun h => awS (mIt sy (wv kd fi se) ru h 12) 3 6) (i2 + 1) = (some i2, trS tr i2 6) from if_pos ⟨e_30, e_or, e_106⟩]; exact h9)
                · have e_106 : ¬ (fun h => awS (mIt sy (wv kd fi se) ru h 12) 3 6) (hsS tr on lt 6 &&& (63 ^^^ i2)) = 0 := fun q => c_13 (by show nI ((fun h => awS (mIt sy (wv kd fi se) ru h 12) 3 6) (hsS tr on lt 6 &&& (63 ^^^ i2))) = 0; rw [q]; rfl)
                  refine lv_goto (tgt := 118) hx hb dX1_silence_109 (by decide) ?_
                  refine lv_iinc (v := nI (i2 + 1)) (lv' := [(4, .int (nI (i2 + 1))), (6, .int (nI 6)), (5, .int (nI (trS tr i2 6))), (2, .int (rI (slM (hsS tr on lt 6) tr (fun h => awS (mIt sy (wv kd fi se) ru h 12) 3 6) i2).1)), (3, .int (nI (slM (hsS tr on lt 6) tr (fun h => awS (mIt sy (wv kd fi se) ru h 12) 3 6) i2).2)), (1, .int (nI (hsS tr on lt 6))), (0, .ref (bd 0))]) hx hb dX1_silence_118 hl (k := 2) rfl (iinc1 _) (by decide) rfl (fun ls hl => ?_)
                  refine lv_goto (tgt := 17) hx hb dX1_silence_121 (by decide) ?_
                  exact ih_i2 (i2 + 1) (by omega) u12 H locs ls hP hD hS (by have h9 := lv_sub hl [0, 3, 4, 5, 6] rfl; rw [show slM (hsS tr on lt 6) tr (fun h => awS (mIt sy (wv kd fi se) ru h 12) 3 6) (i2 + 1) = slM (hsS tr on lt 6) tr (fun h => awS (mIt sy (wv kd fi se) ru h 12) 3 6) i2 from if_neg (fun q => e_106 q.2.2)]; exact h9)
          | succ d7 ih_j6 =>
            intro j6 hi_j6 rs_j6 H locs ls hP hD hS hl
            refine lv_iload hx hb dX1_silence_42 (lv_at hl 0 rfl) ?_
            refine lv_bipush (v := nI 6) hx hb dX1_silence_44 (by decide) ?_
            refine cF_ge (tgt := 81) hx hb dX1_silence_46 (by decide) (nI_ge (by omega) (by omega)) ?_
            refine lv_iload hx hb dX1_silence_49 (lv_at hl 1 rfl) ?_
            refine lv_iload hx hb dX1_silence_51 (lv_at hl 2 rfl) ?_
            refine lv_iload hx hb dX1_silence_53 (lv_at hl 0 rfl) ?_
            refine puI_S (own := RX1) (As := [.int (nI i2), .int (nI j6)]) (rest := [.int (nI (trS tr i2 j6))]) ⟨hx, hb, hml, hown, hts⟩ (c_X1_has l D i2 j6 (by omega) (by omega)) gX1_silence_X1_has rfl ⟨rfl, rfl⟩ 2 rfl (by decide +kernel) ⟨Nat.le_of_ble_eq_true rfl, Nat.le_of_ble_eq_true rfl⟩ nilP (hK.sub (tys' := []) [] rfl) hS hl.1 rfl (Nat.le_of_ble_eq_true rfl) dX1_silence_55 ⟨Nat.zero_le _, Nat.zero_le _⟩ (fun H locs hk1 hS => ?_)
            replace hP := keptP hP hk1
            refine lv_if_eq (tgt := 71) hx hb dX1_silence_58 (by decide) (fun c_14 => ?_) (fun c_14 => ?_)
            · have e_58 := bI_0 c_14
              refine lv_iconst (v := nI 0) hx hb dX1_silence_71 (by decide) ?_
              refine lv_iadd hx hb dX1_silence_72 ?_
              refine tc_int (y := nI ((trS tr i2 j6) + 0)) (nI_add _ _) ?_
              refine lv_istore (lv' := [(5, .int (nI ((trS tr i2 j6) + 0))), (6, .int (nI j6)), (4, .int (nI i2)), (2, .int (rI (slM (hsS tr on lt 6) tr (fun h => awS (mIt sy (wv kd fi se) ru h 12) 3 6) i2).1)), (3, .int (nI (slM (hsS tr on lt 6) tr (fun h => awS (mIt sy (wv kd fi se) ru h 12) 3 6) i2).2)), (1, .int (nI (hsS tr on lt 6))), (0, .ref (bd 0))]) hx hb dX1_silence_73 hl (by decide) rfl (fun ls hl => ?_)
              refine lv_iinc (v := nI (j6 + 1)) (lv' := [(6, .int (nI (j6 + 1))), (5, .int (nI ((trS tr i2 j6) + 0))), (4, .int (nI i2)), (2, .int (rI (slM (hsS tr on lt 6) tr (fun h => awS (mIt sy (wv kd fi se) ru h 12) 3 6) i2).1)), (3, .int (nI (slM (hsS tr on lt 6) tr (fun h => awS (mIt sy (wv kd fi se) ru h 12) 3 6) i2).2)), (1, .int (nI (hsS tr on lt 6))), (0, .ref (bd 0))]) hx hb dX1_silence_75 hl (k := 1) rfl (iinc1 _) (by decide) rfl (fun ls hl => ?_)
              refine lv_goto (tgt := 42) hx hb dX1_silence_78 (by decide) ?_
              exact ih_j6 (j6 + 1) (by omega) rs_j6 H locs ls hP hD hS (by have h9 := lv_sub hl [0, 1, 2, 3, 4, 5, 6] rfl; rw [show trS tr i2 (j6 + 1) = trS tr i2 j6 + 0 from if_neg (fun q => Bool.noConfusion (e_58.symm.trans q))]; exact h9)
            · have e_58 := bI_1 c_14
              refine lv_aload_n hx hb dX1_silence_61 rfl (lv_at hl 6 rfl) ?_
              refine va_get (D := D) (ci := 1) (v := .ref (bd 5)) (C := RX1) (T := TX1) (N := 13) hx hb hts hin0 hown hK hP 0 rfl rfl 6 (by decide) (hts (.fieldLink RX1 23 "RumourReasonerModel" "trusts" "[I") (by decide +kernel)) (fun _ h9 => h9) rfl dX1_silence_62 ?_
              refine lv_iload hx hb dX1_silence_65 (lv_at hl 0 rfl) ?_
              refine ld_ni hx hb hK hP 5 0 rfl rfl (j := j6) (by omega) (by decide) dX1_silence_67 ?_
              refine lv_goto (tgt := 72) hx hb dX1_silence_68 (by decide) ?_
              refine lv_iadd hx hb dX1_silence_72 ?_
              refine tc_int (y := nI ((trS tr i2 j6) + (tr j6))) (nI_add _ _) ?_
              refine lv_istore (lv' := [(5, .int (nI ((trS tr i2 j6) + (tr j6)))), (6, .int (nI j6)), (4, .int (nI i2)), (2, .int (rI (slM (hsS tr on lt 6) tr (fun h => awS (mIt sy (wv kd fi se) ru h 12) 3 6) i2).1)), (3, .int (nI (slM (hsS tr on lt 6) tr (fun h => awS (mIt sy (wv kd fi se) ru h 12) 3 6) i2).2)), (1, .int (nI (hsS tr on lt 6))), (0, .ref (bd 0))]) hx hb dX1_silence_73 hl (by decide) rfl (fun ls hl => ?_)
              refine lv_iinc (v := nI (j6 + 1)) (lv' := [(6, .int (nI (j6 + 1))), (5, .int (nI ((trS tr i2 j6) + (tr j6)))), (4, .int (nI i2)), (2, .int (rI (slM (hsS tr on lt 6) tr (fun h => awS (mIt sy (wv kd fi se) ru h 12) 3 6) i2).1)), (3, .int (nI (slM (hsS tr on lt 6) tr (fun h => awS (mIt sy (wv kd fi se) ru h 12) 3 6) i2).2)), (1, .int (nI (hsS tr on lt 6))), (0, .ref (bd 0))]) hx hb dX1_silence_75 hl (k := 1) rfl (iinc1 _) (by decide) rfl (fun ls hl => ?_)
              refine lv_goto (tgt := 42) hx hb dX1_silence_78 (by decide) ?_
              exact ih_j6 (j6 + 1) (by omega) rs_j6 H locs ls hP hD hS (by have h9 := lv_sub hl [0, 1, 2, 3, 4, 5, 6] rfl; rw [show trS tr i2 (j6 + 1) = trS tr i2 j6 + tr j6 from if_pos e_58]; exact h9)
        exact key5 (6) 0 (by omega) rs_i2 _ _ ls hP hD hS (lv_sub hl [0, 1, 2, 3, 4, 5, 6] rfl)
      · have e_30 : ¬ i2 &&& (63 ^^^ hsS tr on lt 6) = 0 := fun q => c_4 (by rw [q]; rfl)
        refine lv_goto (tgt := 118) hx hb dX1_silence_33 (by decide) ?_
        refine lv_iinc (v := nI (i2 + 1)) (lv' := [(4, .int (nI (i2 + 1))), (2, .int (rI (slM (hsS tr on lt 6) tr (fun h => awS (mIt sy (wv kd fi se) ru h 12) 3 6) i2).1)), (3, .int (nI (slM (hsS tr on lt 6) tr (fun h => awS (mIt sy (wv kd fi se) ru h 12) 3 6) i2).2)), (1, .int (nI (hsS tr on lt 6))), (0, .ref (bd 0))]) hx hb dX1_silence_118 hl (k := 0) rfl (iinc1 _) (by decide) rfl (fun ls hl => ?_)
        refine lv_goto (tgt := 17) hx hb dX1_silence_121 (by decide) ?_
        exact ih_i2 (i2 + 1) (by omega) rs_i2 H locs ls hP hD hS (by have h9 := lv_sub hl [0, 1, 2, 3, 4] rfl; rw [show slM (hsS tr on lt 6) tr (fun h => awS (mIt sy (wv kd fi se) ru h 12) 3 6) (i2 + 1) = slM (hsS tr on lt 6) tr (fun h => awS (mIt sy (wv kd fi se) ru h 12) 3 6) i2 from if_neg (fun q => e_30 q.1)]; exact h9)
  exact key1 (64) 0 (by omega) rs _ _ ls hP hD hS (lv_sub hl [0, 2, 1, 3, 4] rfl)

end
