section
variable (l : Launch) (D : va_G) (bd : Nat → Nat) (cI cZ cJ : ClassId) (th : Int32) (n : Nat) (kd fi se : Nat → Nat) (sd : Nat → Bool) (tr : Nat → Nat) (on : Nat → Bool) (sy : Nat → Nat) (lt : Nat) (ru : Nat → Option Nat) (lg : Nat) (rs : Nat → Int32)
theorem dg0_lt {v a x : Nat} (hv : v < 4096) (h : dg v a = 0) (hx : x < 4) (ha : a < 6) : v + x * 2 ^ (2 * (5 - a)) < 4096 := by
  unfold dg at h
  rcases (show a = 0 ∨ a = 1 ∨ a = 2 ∨ a = 3 ∨ a = 4 ∨ a = 5 by omega) with rfl | rfl | rfl | rfl | rfl | rfl <;> simp at h ⊢ <;> omega
theorem fdS_lt {c : Nat → Bool} {e : Nat → Nat} (he : ∀ v, e v < 4) (v p : Nat) : ∀ x, fdS c e v p x < 16
  | 0 => by simp [fdS]
  | x + 1 => by
    have ih := fdS_lt he v p x (c := c)
    unfold fdS
    split
    · exact Nat.or_lt_two_pow (n := 4) ih (Nat.pow_lt_pow_right (by decide) (he _))
    · exact ih
theorem hin_X1_depends : ∀ w ∈ wsX10, w ∈ wsX1_depends := by first | exact fun _ h => List.mem_cons_of_mem _ (List.mem_append_right _ h) | exact fun _ h => List.mem_cons_of_mem _ (List.mem_append_left _ (List.mem_append_right _ h)) | exact fun _ h => List.mem_cons_of_mem _ (List.mem_append_left _ (List.mem_append_left _ (List.mem_append_right _ h))) | exact fun _ h => List.mem_cons_of_mem _ (List.mem_append_left _ (List.mem_append_left _ (List.mem_append_left _ (List.mem_append_right _ h)))) | decide +kernel
def rm_X1_depends : Room := { frames := 2, cells := 0, slots := 0, locals := 47 }
set_option maxHeartbeats 4000000 in
set_option maxRecDepth 100000 in
theorem c_X1_depends (hM : OKM n kd fi se tr sy lt lg ru) (f a : Nat) (hf : f < n) (ha : a < 6) : MuI l yX1_depends wsX1_depends rm_X1_depends D vwCl (wM bd cI cZ cJ th n kd fi se sd tr on sy lt ru lg rs) (fun u => wM bd cI cZ cJ (nI 0) n kd fi se sd tr on sy lt ru lg u) (tyC cI cZ cJ) [.ref (bd 0), .int (nI f), .int (nI a)] (bI (dpS (fun v => decide (dg v a = 0) && decide (1 < fb_ct (fun i => Nat.testBit (fdS (fun v => cnS lg v 6) (fun v => wv kd fi se f v) v (2 ^ (2 * (5 - a))) 4) i) 6)) 4096)) := by
  refine MuI.of (cc := cX1_depends) (maxL := 8) (by decide) rfl (Nat.le_of_ble_eq_true rfl) (bI_n _) ?_
  intro A p e s m args below meth c Q ls hx hb hml hown hts hP hK hD kret hl
  have hown : s.vm.findClass RX1 = some m.cls := hown
  have hl : lv_has ls 8 [(0, .ref (bd 0)), (1, .int (nI f)), (2, .int (nI a))] := hl
  have hS : va_S A s.heap s.heap [] := va_S.rf
  have hin0 : ∀ w ∈ u_ws RX1 TX1 13, w ∈ wsX1_depends := hin_X1_depends
  have hwv : ∀ v, wv kd fi se f v < 4 := fun v => wv_lt hM.2.2.2.2.2.2 v f hf
  refine lv_aload_n hx hb dX1_depends_0 rfl (lv_at hl 0 rfl) ?_
  refine lv_aload_n hx hb dX1_depends_1 rfl (lv_at hl 0 rfl) ?_
  refine lv_iload_n hx hb dX1_depends_2 rfl (lv_at hl 1 rfl) ?_
  refine puI_V (own := RX1) (As := [.int (nI f)]) (rest := [.ref (bd 0)]) (C := RX1) (ci := 1) (q0 := 0) ⟨hx, hb, hml, hown, hts⟩ (c_X1_isFormula l D bd cI cZ cJ th n kd fi se sd tr on sy lt ru lg rs (nI f)) gX1_depends_X1_isFormula rfl ⟨rfl, rfl⟩ 1 rfl (by decide +kernel) ⟨Nat.le_of_ble_eq_true rfl, Nat.le_of_ble_eq_true rfl⟩ hP hK rfl rfl rfl hS hl.1 rfl (Nat.le_of_ble_eq_true rfl) dX1_depends_3 ⟨Nat.zero_le _, Nat.zero_le _⟩ (fun H locs hk1 hS => ?_)
  replace hP := keptP hP hk1
  refine tc_int (y := bI true) (by rw [isF_t hf hM.1]) ?_
  refine zF_eq (tgt := 20) hx hb dX1_depends_6 (by decide) (by decide) ?_
  refine lv_iload_n hx hb dX1_depends_9 rfl (lv_at hl 2 rfl) ?_
  refine puI_S (own := RX1) (As := [.int (nI a)]) (rest := [.ref (bd 0)]) ⟨hx, hb, hml, hown, hts⟩ (c_X1_isAtom l D (nI a)) gX1_depends_X1_isAtom rfl ⟨rfl, rfl⟩ 1 rfl (by decide +kernel) ⟨Nat.le_of_ble_eq_true rfl, Nat.le_of_ble_eq_true rfl⟩ nilP (hK.sub (tys' := []) [] rfl) hS hl.1 rfl (Nat.le_of_ble_eq_true rfl) dX1_depends_10 ⟨Nat.zero_le _, Nat.zero_le _⟩ (fun H locs hk1 hS => ?_)
  replace hP := keptP hP hk1
  refine tc_int (y := bI true) (by rw [inB_t (by omega) (by omega) (by decide)]) ?_
  refine zF_eq (tgt := 20) hx hb dX1_depends_13 (by decide) (by decide) ?_
  refine lv_iconst (v := nI 0) hx hb dX1_depends_16 (by decide) ?_
  refine lv_goto (tgt := 21) hx hb dX1_depends_17 (by decide) ?_
  refine va_put (D := D) (ci := 1) (v := .int (nI 0)) (ty := .int) (C := RX1) (T := TX1) (N := 13) hx hb hts hin0 tyX1 tyX1_ok nmX1 hown hK hP hD hS 0 rfl rfl 0 (by decide) (hts (.fieldLink RX1 45 "RumourReasonerModel" "thrown" "I") (by decide +kernel)) (fun _ h9 => h9) rfl (by decide +kernel) rfl rfl (Nat.le_of_ble_eq_true rfl) dX1_depends_21 (fun H locs hP hD hS => ?_)
  have hP : va_P D vwCl (wM bd cI cZ cJ (nI 0) n kd fi se sd tr on sy lt ru lg rs) H := hP
  have hD : va_D A (wM bd cI cZ cJ (nI 0) n kd fi se sd tr on sy lt ru lg rs) := hD
  refine lv_iconst (v := nI 0) hx hb dX1_depends_24 (by decide) ?_
  refine tc_int (y := bI (dpS (fun v => decide (dg v a = 0) && decide (1 < fb_ct (fun i => Nat.testBit (fdS (fun v => cnS lg v 6) (fun v => wv kd fi se f v) v (2 ^ (2 * (5 - a))) 4) i) 6)) 0)) (rfl) ?_
  refine lv_istore_n (lv' := [(3, .int (bI (dpS (fun v => decide (dg v a = 0) && decide (1 < fb_ct (fun i => Nat.testBit (fdS (fun v => cnS lg v 6) (fun v => wv kd fi se f v) v (2 ^ (2 * (5 - a))) 4) i) 6)) 0))), (0, .ref (bd 0)), (1, .int (nI f)), (2, .int (nI a))]) hx hb dX1_depends_25 rfl hl (by decide) rfl (fun ls hl => ?_)
  refine lv_iconst (v := nI 1) hx hb dX1_depends_26 (by decide) ?_
  refine lv_iconst (v := nI 2) hx hb dX1_depends_27 (by decide) ?_
  refine lv_iconst (v := nI 5) hx hb dX1_depends_28 (by decide) ?_
  refine lv_iload_n hx hb dX1_depends_29 rfl (lv_at hl 3 rfl) ?_
  refine lv_isub hx hb dX1_depends_30 ?_
  refine tc_int (y := nI (5 - a)) (pk_sub (by omega)) ?_
  refine lv_imul hx hb dX1_depends_31 ?_
  refine tc_int (y := nI (2 * (5 - a))) (pk_mul _ _) ?_
  refine lv_ishl hx hb dX1_depends_32 ?_
  refine tc_int (y := nI (2 ^ (2 * (5 - a)))) (shl1 (by omega)) ?_
  refine lv_istore (lv' := [(4, .int (nI (2 ^ (2 * (5 - a))))), (3, .int (bI (dpS (fun v => decide (dg v a = 0) && decide (1 < fb_ct (fun i => Nat.testBit (fdS (fun v => cnS lg v 6) (fun v => wv kd fi se f v) v (2 ^ (2 * (5 - a))) 4) i) 6)) 0))), (0, .ref (bd 0)), (1, .int (nI f)), (2, .int (nI a))]) hx hb dX1_depends_33 hl (by decide) rfl (fun ls hl => ?_)
  refine lv_iconst (v := nI 0) hx hb dX1_depends_35 (by decide) ?_
  refine lv_istore (lv' := [(5, .int (nI 0)), (4, .int (nI (2 ^ (2 * (5 - a))))), (3, .int (bI (dpS (fun v => decide (dg v a = 0) && decide (1 < fb_ct (fun i => Nat.testBit (fdS (fun v => cnS lg v 6) (fun v => wv kd fi se f v) v (2 ^ (2 * (5 - a))) 4) i) 6)) 0))), (0, .ref (bd 0)), (1, .int (nI f)), (2, .int (nI a))]) hx hb dX1_depends_36 hl (by decide) rfl (fun ls hl => ?_)
  have key1 : ∀ (d3 v2 : Nat), v2 + d3 = 4096 → ∀ (rs_v2 : Nat → Int32), ∀ (H : Heap) (locs : List Loc) (ls : Array Slot), va_P D vwCl (wM bd cI cZ cJ (nI 0) n kd fi se sd tr on sy lt ru lg rs_v2) H → va_D A (wM bd cI cZ cJ (nI 0) n kd fi se sd tr on sy lt ru lg rs_v2) → va_S A s.heap H locs → lv_has ls 8 [(5, .int (nI v2)), (3, .int (bI (dpS (fun v => decide (dg v a = 0) && decide (1 < fb_ct (fun i => Nat.testBit (fdS (fun v => cnS lg v 6) (fun v => wv kd fi se f v) v (2 ^ (2 * (5 - a))) 4) i) 6)) v2))), (4, .int (nI (2 ^ (2 * (5 - a))))), (0, .ref (bd 0)), (1, .int (nI f)), (2, .int (nI a))] → W p l e rm_X1_depends s m args below meth c H locs 0 0 Q (F0 m 38 ls []) := by
    intro d3
    induction d3 with
    | zero =>
      intro v2 hi_v2 rs_v2 H locs ls hP hD hS hl
      obtain rfl : v2 = 4096 := by omega
      refine lv_iload hx hb dX1_depends_38 (lv_at hl 0 rfl) ?_
      refine lv_sipush (v := nI 4096) hx hb dX1_depends_40 (by decide) ?_
      refine cT_ge (tgt := 143) hx hb dX1_depends_43 (by decide) (nI_le (by omega) (by omega)) ?_
      refine lv_iload_n hx hb dX1_depends_143 rfl (lv_at hl 1 rfl) ?_
      exact kret _ rs_v2 _ _ _ _ (rfl) hP hS dX1_depends_144
    | succ d3 ih_v2 =>
      intro v2 hi_v2 rs_v2 H locs ls hP hD hS hl
      have hv9 : v2 < 4096 := by omega
      refine lv_iload hx hb dX1_depends_38 (lv_at hl 0 rfl) ?_
      refine lv_sipush (v := nI 4096) hx hb dX1_depends_40 (by decide) ?_
      refine cF_ge (tgt := 143) hx hb dX1_depends_43 (by decide) (nI_ge (by omega) (by omega)) ?_
      refine lv_aload_n hx hb dX1_depends_46 rfl (lv_at hl 3 rfl) ?_
      refine va_get (D := D) (ci := 1) (v := .int (nI 0)) (C := RX1) (T := TX1) (N := 13) hx hb hts hin0 hown hK hP 0 rfl rfl 0 (by decide) (hts (.fieldLink RX1 45 "RumourReasonerModel" "thrown" "I") (by decide +kernel)) (fun _ h9 => h9) rfl dX1_depends_47 ?_
      refine zF_ne (tgt := 143) hx hb dX1_depends_50 (by decide) (rfl) ?_
      refine lv_iload_n hx hb dX1_depends_53 rfl (lv_at hl 1 rfl) ?_
      refine lv_if_ne (tgt := 143) hx hb dX1_depends_54 (by decide) (fun c_4 => ?_) (fun c_4 => ?_)
      · have e_54 := bI_1 c_4
        refine lv_iload_n hx hb dX1_depends_143 rfl (lv_at hl 1 rfl) ?_
        exact kret _ rs_v2 _ _ _ _ (by rw [e_54]; have := dpS_t e_54 (4096 - v2); rw [show v2 + (4096 - v2) = 4096 by omega] at this; rw [this]) hP hS dX1_depends_144
      · have e_54 := bI_0 c_4
        refine lv_iload hx hb dX1_depends_57 (lv_at hl 0 rfl) ?_
        refine lv_iload_n hx hb dX1_depends_59 rfl (lv_at hl 5 rfl) ?_
        refine puI_S (own := RX1) (As := [.int (nI v2), .int (nI a)]) (rest := []) ⟨hx, hb, hml, hown, hts⟩ (c_X1_valueIn l D v2 a hv9 (by omega)) gX1_depends_X1_valueIn rfl ⟨rfl, rfl⟩ 2 rfl (by decide +kernel) ⟨Nat.le_of_ble_eq_true rfl, Nat.le_of_ble_eq_true rfl⟩ nilP (hK.sub (tys' := []) [] rfl) hS hl.1 rfl (Nat.le_of_ble_eq_true rfl) dX1_depends_60 ⟨Nat.zero_le _, Nat.zero_le _⟩ (fun H locs hk1 hS => ?_)
        replace hP := keptP hP hk1
        refine lv_if_eq (tgt := 69) hx hb dX1_depends_63 (by decide) (fun c_5 => ?_) (fun c_5 => ?_)
        · have e_63 : dg v2 a = 0 := (nz (Nat.lt_trans (dg_lt _ _) (by decide))).mp c_5
          refine lv_iconst (v := nI 0) hx hb dX1_depends_69 (by decide) ?_
          refine lv_istore (lv' := [(6, .int (nI 0)), (5, .int (nI v2)), (3, .int (bI (dpS (fun v => decide (dg v a = 0) && decide (1 < fb_ct (fun i => Nat.testBit (fdS (fun v => cnS lg v 6) (fun v => wv kd fi se f v) v (2 ^ (2 * (5 - a))) 4) i) 6)) v2))), (4, .int (nI (2 ^ (2 * (5 - a))))), (0, .ref (bd 0)), (1, .int (nI f)), (2, .int (nI a))]) hx hb dX1_depends_70 hl (by decide) rfl (fun ls hl => ?_)
          refine lv_iconst (v := nI 0) hx hb dX1_depends_72 (by decide) ?_
          refine lv_istore (lv' := [(7, .int (nI 0)), (6, .int (nI 0)), (5, .int (nI v2)), (3, .int (bI (dpS (fun v => decide (dg v a = 0) && decide (1 < fb_ct (fun i => Nat.testBit (fdS (fun v => cnS lg v 6) (fun v => wv kd fi se f v) v (2 ^ (2 * (5 - a))) 4) i) 6)) v2))), (4, .int (nI (2 ^ (2 * (5 - a))))), (0, .ref (bd 0)), (1, .int (nI f)), (2, .int (nI a))]) hx hb dX1_depends_73 hl (by decide) rfl (fun ls hl => ?_)
          have key6 : ∀ (d8 x7 : Nat), x7 + d8 = 4 → ∀ (rs_x7 : Nat → Int32), ∀ (H : Heap) (locs : List Loc) (ls : Array Slot), va_P D vwCl (wM bd cI cZ cJ (nI 0) n kd fi se sd tr on sy lt ru lg rs_x7) H → va_D A (wM bd cI cZ cJ (nI 0) n kd fi se sd tr on sy lt ru lg rs_x7) → va_S A s.heap H locs → lv_has ls 8 [(7, .int (nI x7)), (6, .int (nI (fdS (fun v => cnS lg v 6) (fun v => wv kd fi se f v) v2 (2 ^ (2 * (5 - a))) x7))), (5, .int (nI v2)), (3, .int (bI (dpS (fun v => decide (dg v a = 0) && decide (1 < fb_ct (fun i => Nat.testBit (fdS (fun v => cnS lg v 6) (fun v => wv kd fi se f v) v (2 ^ (2 * (5 - a))) 4) i) 6)) v2))), (4, .int (nI (2 ^ (2 * (5 - a))))), (0, .ref (bd 0)), (1, .int (nI f)), (2, .int (nI a))] → W p l e rm_X1_depends s m args below meth c H locs 0 0 Q (F0 m 75 ls []) := by
            intro d8
            induction d8 with
            | zero =>
              intro x7 hi_x7 rs_x7 H locs ls hP hD hS hl
              obtain rfl : x7 = 4 := by omega
              refine lv_iload hx hb dX1_depends_75 (lv_at hl 0 rfl) ?_
              refine lv_iconst (v := nI 4) hx hb dX1_depends_77 (by decide) ?_
              refine cT_ge (tgt := 122) hx hb dX1_depends_78 (by decide) (nI_le (by omega) (by omega)) ?_
              refine lv_iload hx hb dX1_depends_122 (lv_at hl 1 rfl) ?_
              refine puI_S (own := RX1) (As := [.int (nI (fdS (fun v => cnS lg v 6) (fun v => wv kd fi se f v) v2 (2 ^ (2 * (5 - a))) 4))]) (rest := []) ⟨hx, hb, hml, hown, hts⟩ (c_J6_bitCount_0f7a4 l D (fdS (fun v => cnS lg v 6) (fun v => wv kd fi se f v) v2 (2 ^ (2 * (5 - a))) 4) (Nat.lt_trans (fdS_lt hwv _ _ 4) (by decide))) gX1_depends_J6_bitCount_0f7a4 rfl ⟨rfl, rfl⟩ 1 rfl (by decide +kernel) ⟨Nat.le_of_ble_eq_true rfl, Nat.le_of_ble_eq_true rfl⟩ nilP (hK.sub (tys' := []) [] rfl) hS hl.1 rfl (Nat.le_of_ble_eq_true rfl) dX1_depends_124 ⟨Nat.zero_le _, Nat.zero_le _⟩ (fun H locs hk1 hS => ?_)
              replace hP := keptP hP hk1
              refine lv_iconst (v := nI 1) hx hb dX1_depends_127 (by decide) ?_
              refine lv_icmp_le (tgt := 135) hx hb dX1_depends_128 (by decide) (fun c_9 => ?_) (fun c_9 => ?_)
              · have e_128 : decide (1 < fb_ct (fun i => Nat.testBit (fdS (fun v => cnS lg v 6) (fun v => wv kd fi se f v) v2 (2 ^ (2 * (5 - a))) 4) i) 6) = false := decide_eq_false (fun q => nI_ge q (Nat.lt_of_le_of_lt (fb_ct_le _ 6) (by decide)) c_9)
                refine lv_iconst (v := nI 0) hx hb dX1_depends_135 (by decide) ?_
                refine tc_int (y := bI (dpS (fun v => decide (dg v a = 0) && decide (1 < fb_ct (fun i => Nat.testBit (fdS (fun v => cnS lg v 6) (fun v => wv kd fi se f v) v (2 ^ (2 * (5 - a))) 4) i) 6)) (v2 + 1))) (by rw [show dpS (fun v => decide (dg v a = 0) && decide (1 < fb_ct (fun i => Nat.testBit (fdS (fun v => cnS lg v 6) (fun v => wv kd fi se f v) v (2 ^ (2 * (5 - a))) 4) i) 6)) (v2 + 1) = false from by show (dpS (fun v => decide (dg v a = 0) && decide (1 < fb_ct (fun i => Nat.testBit (fdS (fun v => cnS lg v 6) (fun v => wv kd fi se f v) v (2 ^ (2 * (5 - a))) 4) i) 6)) v2 || (decide (dg v2 a = 0) && _)) = false; rw [e_54, decide_eq_true e_63, e_128]; rfl]; rfl) ?_
                refine lv_istore_n (lv' := [(3, .int (bI (dpS (fun v => decide (dg v a = 0) && decide (1 < fb_ct (fun i => Nat.testBit (fdS (fun v => cnS lg v 6) (fun v => wv kd fi se f v) v (2 ^ (2 * (5 - a))) 4) i) 6)) (v2 + 1)))), (7, .int (nI 4)), (6, .int (nI (fdS (fun v => cnS lg v 6) (fun v => wv kd fi se f v) v2 (2 ^ (2 * (5 - a))) 4))), (5, .int (nI v2)), (4, .int (nI (2 ^ (2 * (5 - a))))), (0, .ref (bd 0)), (1, .int (nI f)), (2, .int (nI a))]) hx hb dX1_depends_136 rfl hl (by decide) rfl (fun ls hl => ?_)
                refine lv_iinc (v := nI (v2 + 1)) (lv' := [(5, .int (nI (v2 + 1))), (3, .int (bI (dpS (fun v => decide (dg v a = 0) && decide (1 < fb_ct (fun i => Nat.testBit (fdS (fun v => cnS lg v 6) (fun v => wv kd fi se f v) v (2 ^ (2 * (5 - a))) 4) i) 6)) (v2 + 1)))), (7, .int (nI 4)), (6, .int (nI (fdS (fun v => cnS lg v 6) (fun v => wv kd fi se f v) v2 (2 ^ (2 * (5 - a))) 4))), (4, .int (nI (2 ^ (2 * (5 - a))))), (0, .ref (bd 0)), (1, .int (nI f)), (2, .int (nI a))]) hx hb dX1_depends_137 hl (k := 3) rfl (iinc1 _) (by decide) rfl (fun ls hl => ?_)
                refine lv_goto (tgt := 38) hx hb dX1_depends_140 (by decide) ?_
                exact ih_v2 (v2 + 1) (by omega) rs_x7 H locs ls hP hD hS (lv_sub hl [0, 1, 4, 5, 6, 7] rfl)
              · have e_128 : decide (1 < fb_ct (fun i => Nat.testBit (fdS (fun v => cnS lg v 6) (fun v => wv kd fi se f v) v2 (2 ^ (2 * (5 - a))) 4) i) 6) = true := decide_eq_true (Nat.not_le.mp (fun q => c_9 (nI_le q (by decide))))
                refine lv_iconst (v := nI 1) hx hb dX1_depends_131 (by decide) ?_
                refine tc_int (y := bI (dpS (fun v => decide (dg v a = 0) && decide (1 < fb_ct (fun i => Nat.testBit (fdS (fun v => cnS lg v 6) (fun v => wv kd fi se f v) v (2 ^ (2 * (5 - a))) 4) i) 6)) (v2 + 1))) (by rw [show dpS (fun v => decide (dg v a = 0) && decide (1 < fb_ct (fun i => Nat.testBit (fdS (fun v => cnS lg v 6) (fun v => wv kd fi se f v) v (2 ^ (2 * (5 - a))) 4) i) 6)) (v2 + 1) = true from by show (dpS (fun v => decide (dg v a = 0) && decide (1 < fb_ct (fun i => Nat.testBit (fdS (fun v => cnS lg v 6) (fun v => wv kd fi se f v) v (2 ^ (2 * (5 - a))) 4) i) 6)) v2 || (decide (dg v2 a = 0) && _)) = true; rw [e_54, decide_eq_true e_63, e_128]; rfl]; rfl) ?_
                refine lv_goto (tgt := 136) hx hb dX1_depends_132 (by decide) ?_
                refine lv_istore_n (lv' := [(3, .int (bI (dpS (fun v => decide (dg v a = 0) && decide (1 < fb_ct (fun i => Nat.testBit (fdS (fun v => cnS lg v 6) (fun v => wv kd fi se f v) v (2 ^ (2 * (5 - a))) 4) i) 6)) (v2 + 1)))), (7, .int (nI 4)), (6, .int (nI (fdS (fun v => cnS lg v 6) (fun v => wv kd fi se f v) v2 (2 ^ (2 * (5 - a))) 4))), (5, .int (nI v2)), (4, .int (nI (2 ^ (2 * (5 - a))))), (0, .ref (bd 0)), (1, .int (nI f)), (2, .int (nI a))]) hx hb dX1_depends_136 rfl hl (by decide) rfl (fun ls hl => ?_)
                refine lv_iinc (v := nI (v2 + 1)) (lv' := [(5, .int (nI (v2 + 1))), (3, .int (bI (dpS (fun v => decide (dg v a = 0) && decide (1 < fb_ct (fun i => Nat.testBit (fdS (fun v => cnS lg v 6) (fun v => wv kd fi se f v) v (2 ^ (2 * (5 - a))) 4) i) 6)) (v2 + 1)))), (7, .int (nI 4)), (6, .int (nI (fdS (fun v => cnS lg v 6) (fun v => wv kd fi se f v) v2 (2 ^ (2 * (5 - a))) 4))), (4, .int (nI (2 ^ (2 * (5 - a))))), (0, .ref (bd 0)), (1, .int (nI f)), (2, .int (nI a))]) hx hb dX1_depends_137 hl (k := 3) rfl (iinc1 _) (by decide) rfl (fun ls hl => ?_)
                refine lv_goto (tgt := 38) hx hb dX1_depends_140 (by decide) ?_
                exact ih_v2 (v2 + 1) (by omega) rs_x7 H locs ls hP hD hS (lv_sub hl [0, 1, 4, 5, 6, 7] rfl)
            | succ d8 ih_x7 =>
              intro x7 hi_x7 rs_x7 H locs ls hP hD hS hl
              have hvx := dg0_lt (x := x7) hv9 e_63 (by omega) ha
              refine lv_iload hx hb dX1_depends_75 (lv_at hl 0 rfl) ?_
              refine lv_iconst (v := nI 4) hx hb dX1_depends_77 (by decide) ?_
              refine cF_ge (tgt := 122) hx hb dX1_depends_78 (by decide) (nI_ge (by omega) (by omega)) ?_
              refine lv_aload_n hx hb dX1_depends_81 rfl (lv_at hl 5 rfl) ?_
              refine lv_iload hx hb dX1_depends_82 (lv_at hl 2 rfl) ?_
              refine lv_iload hx hb dX1_depends_84 (lv_at hl 0 rfl) ?_
              refine lv_iload hx hb dX1_depends_86 (lv_at hl 4 rfl) ?_
              refine lv_imul hx hb dX1_depends_88 ?_
              refine tc_int (y := nI (x7 * (2 ^ (2 * (5 - a))))) (pk_mul _ _) ?_
              refine lv_iadd hx hb dX1_depends_89 ?_
              refine tc_int (y := nI (v2 + (x7 * (2 ^ (2 * (5 - a)))))) (nI_add _ _) ?_
              refine puI_V (own := RX1) (As := [.int (nI (v2 + (x7 * (2 ^ (2 * (5 - a))))))]) (rest := []) (C := RX1) (ci := 1) (q0 := 0) ⟨hx, hb, hml, hown, hts⟩ (c_X1_counts l D bd cI cZ cJ (nI 0) n kd fi se sd tr on sy lt ru lg rs_x7 hM (v2 + (x7 * (2 ^ (2 * (5 - a))))) hvx) gX1_depends_X1_counts rfl ⟨rfl, rfl⟩ 1 rfl (by decide +kernel) ⟨Nat.le_of_ble_eq_true rfl, Nat.le_of_ble_eq_true rfl⟩ hP hK rfl rfl rfl hS hl.1 rfl (Nat.le_of_ble_eq_true rfl) dX1_depends_90 ⟨Nat.zero_le _, Nat.zero_le _⟩ (fun H locs hk1 hS => ?_)
              replace hP := keptP hP hk1
              refine lv_if_eq (tgt := 116) hx hb dX1_depends_93 (by decide) (fun c_10 => ?_) (fun c_10 => ?_)
              · have e_93 := bI_0 c_10
                refine lv_iinc (v := nI (x7 + 1)) (lv' := [(7, .int (nI (x7 + 1))), (6, .int (nI (fdS (fun v => cnS lg v 6) (fun v => wv kd fi se f v) v2 (2 ^ (2 * (5 - a))) x7))), (5, .int (nI v2)), (3, .int (bI (dpS (fun v => decide (dg v a = 0) && decide (1 < fb_ct (fun i => Nat.testBit (fdS (fun v => cnS lg v 6) (fun v => wv kd fi se f v) v (2 ^ (2 * (5 - a))) 4) i) 6)) v2))), (4, .int (nI (2 ^ (2 * (5 - a))))), (0, .ref (bd 0)), (1, .int (nI f)), (2, .int (nI a))]) hx hb dX1_depends_116 hl (k := 0) rfl (iinc1 _) (by decide) rfl (fun ls hl => ?_)
                refine lv_goto (tgt := 75) hx hb dX1_depends_119 (by decide) ?_
                exact ih_x7 (x7 + 1) (by omega) rs_x7 H locs ls hP hD hS (by have h9 := lv_sub hl [0, 1, 2, 3, 4, 5, 6, 7] rfl; rw [show fdS (fun v => cnS lg v 6) (fun v => wv kd fi se f v) v2 (2 ^ (2 * (5 - a))) (x7 + 1) = fdS (fun v => cnS lg v 6) (fun v => wv kd fi se f v) v2 (2 ^ (2 * (5 - a))) x7 from if_neg (fun q => Bool.noConfusion (e_93.symm.trans q))]; exact h9)
              · have e_93 := bI_1 c_10
                refine lv_iload hx hb dX1_depends_96 (lv_at hl 1 rfl) ?_
                refine lv_iconst (v := nI 1) hx hb dX1_depends_98 (by decide) ?_
                refine lv_aload_n hx hb dX1_depends_99 rfl (lv_at hl 5 rfl) ?_
                refine lv_iload_n hx hb dX1_depends_100 rfl (lv_at hl 6 rfl) ?_
                refine lv_iload hx hb dX1_depends_101 (lv_at hl 2 rfl) ?_
                refine lv_iload hx hb dX1_depends_103 (lv_at hl 0 rfl) ?_
                refine lv_iload hx hb dX1_depends_105 (lv_at hl 4 rfl) ?_
                refine lv_imul hx hb dX1_depends_107 ?_
                refine tc_int (y := nI (x7 * (2 ^ (2 * (5 - a))))) (pk_mul _ _) ?_
                refine lv_iadd hx hb dX1_depends_108 ?_
                refine tc_int (y := nI (v2 + (x7 * (2 ^ (2 * (5 - a)))))) (nI_add _ _) ?_
                refine muI_V (own := RX1) (As := [.int (nI f), .int (nI (v2 + (x7 * (2 ^ (2 * (5 - a))))))]) (rest := [.int (nI 1), .int (nI (fdS (fun v => cnS lg v 6) (fun v => wv kd fi se f v) v2 (2 ^ (2 * (5 - a))) x7))]) (C := RX1) (ci := 1) (q0 := 0) (A1 := A) ⟨hx, hb, hml, hown, hts⟩ (c_X1_worth l D bd cI cZ cJ (nI 0) n kd fi se sd tr on sy lt ru lg rs_x7 hM f (v2 + (x7 * (2 ^ (2 * (5 - a))))) hf hvx) gX1_depends_X1_worth rfl ⟨rfl, rfl⟩ 2 rfl (by decide +kernel) ⟨Nat.le_of_ble_eq_true rfl, Nat.le_of_ble_eq_true rfl⟩ hP hK hD (fun _ h9 => h9) rfl rfl rfl hS hl.1 rfl (Nat.le_of_ble_eq_true rfl) dX1_depends_109 ⟨Nat.zero_le _, Nat.zero_le _⟩ (fun u11 H locs hP hz1 hk1 hS => ?_)
                replace hP : va_P D vwCl (wM bd cI cZ cJ (nI 0) n kd fi se sd tr on sy lt ru lg u11) H := hP
                replace hD : va_D A (wM bd cI cZ cJ (nI 0) n kd fi se sd tr on sy lt ru lg u11) := sameD2 hD rfl
                refine lv_ishl hx hb dX1_depends_112 ?_
                refine tc_int (y := nI (2 ^ wv kd fi se f (v2 + x7 * 2 ^ (2 * (5 - a))))) (shl1 (Nat.lt_trans (hwv _) (by decide))) ?_
                refine lv_ior hx hb dX1_depends_113 ?_
                refine tc_int (y := nI (fdS (fun v => cnS lg v 6) (fun v => wv kd fi se f v) v2 (2 ^ (2 * (5 - a))) x7 ||| 2 ^ wv kd fi se f (v2 + x7 * 2 ^ (2 * (5 - a))))) (fa_or _ _) ?_
                refine lv_istore (lv' := [(6, .int (nI (fdS (fun v => cnS lg v 6) (fun v => wv kd fi se f v) v2 (2 ^ (2 * (5 - a))) x7 ||| 2 ^ wv kd fi se f (v2 + x7 * 2 ^ (2 * (5 - a)))))), (7, .int (nI x7)), (5, .int (nI v2)), (3, .int (bI (dpS (fun v => decide (dg v a = 0) && decide (1 < fb_ct (fun i => Nat.testBit (fdS (fun v => cnS lg v 6) (fun v => wv kd fi se f v) v (2 ^ (2 * (5 - a))) 4) i) 6)) v2))), (4, .int (nI (2 ^ (2 * (5 - a))))), (0, .ref (bd 0)), (1, .int (nI f)), (2, .int (nI a))]) hx hb dX1_depends_114 hl (by decide) rfl (fun ls hl => ?_)
                refine lv_iinc (v := nI (x7 + 1)) (lv' := [(7, .int (nI (x7 + 1))), (6, .int (nI (fdS (fun v => cnS lg v 6) (fun v => wv kd fi se f v) v2 (2 ^ (2 * (5 - a))) x7 ||| 2 ^ wv kd fi se f (v2 + x7 * 2 ^ (2 * (5 - a)))))), (5, .int (nI v2)), (3, .int (bI (dpS (fun v => decide (dg v a = 0) && decide (1 < fb_ct (fun i => Nat.testBit (fdS (fun v => cnS lg v 6) (fun v => wv kd fi se f v) v (2 ^ (2 * (5 - a))) 4) i) 6)) v2))), (4, .int (nI (2 ^ (2 * (5 - a))))), (0, .ref (bd 0)), (1, .int (nI f)), (2, .int (nI a))]) hx hb dX1_depends_116 hl (k := 1) rfl (iinc1 _) (by decide) rfl (fun ls hl => ?_)
                refine lv_goto (tgt := 75) hx hb dX1_depends_119 (by decide) ?_
                exact ih_x7 (x7 + 1) (by omega) u11 H locs ls hP hD hS (by have h9 := lv_sub hl [0, 1, 2, 3, 4, 5, 6, 7] rfl; rw [show fdS (fun v => cnS lg v 6) (fun v => wv kd fi se f v) v2 (2 ^ (2 * (5 - a))) (x7 + 1) = fdS (fun v => cnS lg v 6) (fun v => wv kd fi se f v) v2 (2 ^ (2 * (5 - a))) x7 ||| 2 ^ wv kd fi se f (v2 + x7 * 2 ^ (2 * (5 - a))) from if_pos e_93]; exact h9)
          exact key6 (4) 0 (by omega) rs_v2 _ _ ls hP hD hS (lv_sub hl [0, 1, 2, 3, 4, 5, 6, 7] rfl)
        · have e_63 : ¬ dg v2 a = 0 := fun q => c_5 (by rw [q]; rfl)
          refine lv_goto (tgt := 137) hx hb dX1_depends_66 (by decide) ?_
          refine lv_iinc (v := nI (v2 + 1)) (lv' := [(5, .int (nI (v2 + 1))), (3, .int (bI (dpS (fun v => decide (dg v a = 0) && decide (1 < fb_ct (fun i => Nat.testBit (fdS (fun v => cnS lg v 6) (fun v => wv kd fi se f v) v (2 ^ (2 * (5 - a))) 4) i) 6)) v2))), (4, .int (nI (2 ^ (2 * (5 - a))))), (0, .ref (bd 0)), (1, .int (nI f)), (2, .int (nI a))]) hx hb dX1_depends_137 hl (k := 0) rfl (iinc1 _) (by decide) rfl (fun ls hl => ?_)
          refine lv_goto (tgt := 38) hx hb dX1_depends_140 (by decide) ?_
          exact ih_v2 (v2 + 1) (by omega) rs_v2 H locs ls hP hD hS (by have h9 := lv_sub hl [0, 1, 2, 3, 4, 5] rfl; rw [show dpS (fun v => decide (dg v a = 0) && decide (1 < fb_ct (fun i => Nat.testBit (fdS (fun v => cnS lg v 6) (fun v => wv kd fi se f v) v (2 ^ (2 * (5 - a))) 4) i) 6)) (v2 + 1) = dpS (fun v => decide (dg v a = 0) && decide (1 < fb_ct (fun i => Nat.testBit (fdS (fun v => cnS lg v 6) (fun v => wv kd fi se f v) v (2 ^ (2 * (5 - a))) 4) i) 6)) v2 from by show (dpS (fun v => decide (dg v a = 0) && decide (1 < fb_ct (fun i => Nat.testBit (fdS (fun v => cnS lg v 6) (fun v => wv kd fi se f v) v (2 ^ (2 * (5 - a))) 4) i) 6)) v2 || (decide (dg v2 a = 0) && _)) = _; rw [e_54, decide_eq_false e_63]; rfl]; exact h9)
  exact key1 (4096) 0 (by omega) rs _ _ ls hP hD hS (lv_sub hl [0, 2, 1, 3, 4, 5] rfl)

set_option maxHeartbeats 4000000 in
set_option maxRecDepth 100000 in
theorem d_X1_depends_1 (hM : OKM n kd fi se tr sy lt lg ru) (y : Int32) (x : Int32) (hx9 : x < 0 ∨ nI n ≤ x) : MuI l yX1_depends wsX1_depends rm_X1_depends D vwCl (wM bd cI cZ cJ th n kd fi se sd tr on sy lt ru lg rs) (fun u => wM bd cI cZ cJ (nI 1) n kd fi se sd tr on sy lt ru lg u) (tyC cI cZ cJ) [.ref (bd 0), .int x, .int y] (bI false) := by
  refine MuI.of (cc := cX1_depends) (maxL := 8) (by decide) rfl (Nat.le_of_ble_eq_true rfl) (bI_n _) ?_
  intro A p e s m args below meth c Q ls hx hb hml hown hts hP hK hD kret hl
  have hown : s.vm.findClass RX1 = some m.cls := hown
  have hl : lv_has ls 8 [(0, .ref (bd 0)), (1, .int x), (2, .int y)] := hl
  have hS : va_S A s.heap s.heap [] := va_S.rf
  have hin0 : ∀ w ∈ u_ws RX1 TX1 13, w ∈ wsX1_depends := hin_X1_depends
  refine lv_aload_n hx hb dX1_depends_0 rfl (lv_at hl 0 rfl) ?_
  refine lv_aload_n hx hb dX1_depends_1 rfl (lv_at hl 0 rfl) ?_
  refine lv_iload_n hx hb dX1_depends_2 rfl (lv_at hl 1 rfl) ?_
  refine puI_V (own := RX1) (As := [.int x]) (rest := [.ref (bd 0)]) (C := RX1) (ci := 1) (q0 := 0) ⟨hx, hb, hml, hown, hts⟩ (c_X1_isFormula l D bd cI cZ cJ th n kd fi se sd tr on sy lt ru lg rs x) gX1_depends_X1_isFormula rfl ⟨rfl, rfl⟩ 1 rfl (by decide +kernel) ⟨Nat.le_of_ble_eq_true rfl, Nat.le_of_ble_eq_true rfl⟩ hP hK rfl rfl rfl hS hl.1 rfl (Nat.le_of_ble_eq_true rfl) dX1_depends_3 ⟨Nat.zero_le _, Nat.zero_le _⟩ (fun H locs hk1 hS => ?_)
  replace hP := keptP hP hk1
  refine tc_int (y := bI false) (by rw [isF_f hx9 hM.1]) ?_
  refine zT_eq (tgt := 20) hx hb dX1_depends_6 (by decide) (rfl) ?_
  refine lv_iconst (v := nI 1) hx hb dX1_depends_20 (by decide) ?_
  refine va_put (D := D) (ci := 1) (v := .int (nI 1)) (ty := .int) (C := RX1) (T := TX1) (N := 13) hx hb hts hin0 tyX1 tyX1_ok nmX1 hown hK hP hD hS 0 rfl rfl 0 (by decide) (hts (.fieldLink RX1 45 "RumourReasonerModel" "thrown" "I") (by decide +kernel)) (fun _ h9 => h9) rfl (by decide +kernel) rfl rfl (Nat.le_of_ble_eq_true rfl) dX1_depends_21 (fun H locs hP hD hS => ?_)
  have hP : va_P D vwCl (wM bd cI cZ cJ (nI 1) n kd fi se sd tr on sy lt ru lg rs) H := hP
  have hD : va_D A (wM bd cI cZ cJ (nI 1) n kd fi se sd tr on sy lt ru lg rs) := hD
  refine lv_iconst (v := nI 0) hx hb dX1_depends_24 (by decide) ?_
  refine tc_int (y := bI false) (rfl) ?_
  refine lv_istore_n (lv' := [(3, .int (bI false)), (0, .ref (bd 0)), (1, .int x), (2, .int y)]) hx hb dX1_depends_25 rfl hl (by decide) rfl (fun ls hl => ?_)
  refine lv_iconst (v := nI 1) hx hb dX1_depends_26 (by decide) ?_
  refine lv_iconst (v := nI 2) hx hb dX1_depends_27 (by decide) ?_
  refine lv_iconst (v := nI 5) hx hb dX1_depends_28 (by decide) ?_
  refine lv_iload_n hx hb dX1_depends_29 rfl (lv_at hl 3 rfl) ?_
  refine lv_isub hx hb dX1_depends_30 ?_
  refine lv_imul hx hb dX1_depends_31 ?_
  refine lv_ishl hx hb dX1_depends_32 ?_
  refine lv_istore (lv' := [(4, .int ((nI 1) <<< (((nI 2) * ((nI 5) - y)) &&& 31))), (3, .int (bI false)), (0, .ref (bd 0)), (1, .int x), (2, .int y)]) hx hb dX1_depends_33 hl (by decide) rfl (fun ls hl => ?_)
  refine lv_iconst (v := nI 0) hx hb dX1_depends_35 (by decide) ?_
  refine lv_istore (lv' := [(5, .int (nI 0)), (4, .int ((nI 1) <<< (((nI 2) * ((nI 5) - y)) &&& 31))), (3, .int (bI false)), (0, .ref (bd 0)), (1, .int x), (2, .int y)]) hx hb dX1_depends_36 hl (by decide) rfl (fun ls hl => ?_)
  refine lv_iload hx hb dX1_depends_38 (lv_at hl 0 rfl) ?_
  refine lv_sipush (v := nI 4096) hx hb dX1_depends_40 (by decide) ?_
  refine cF_ge (tgt := 143) hx hb dX1_depends_43 (by decide) (nI_ge (by omega) (by omega)) ?_
  refine lv_aload_n hx hb dX1_depends_46 rfl (lv_at hl 3 rfl) ?_
  refine va_get (D := D) (ci := 1) (v := .int (nI 1)) (C := RX1) (T := TX1) (N := 13) hx hb hts hin0 hown hK hP 0 rfl rfl 0 (by decide) (hts (.fieldLink RX1 45 "RumourReasonerModel" "thrown" "I") (by decide +kernel)) (fun _ h9 => h9) rfl dX1_depends_47 ?_
  refine zT_ne (tgt := 143) hx hb dX1_depends_50 (by decide) (by decide) ?_
  refine lv_iload_n hx hb dX1_depends_143 rfl (lv_at hl 2 rfl) ?_
  exact kret _ rs _ _ _ _ (rfl) hP hS dX1_depends_144

set_option maxHeartbeats 4000000 in
set_option maxRecDepth 100000 in
theorem d_X1_depends_2 (hM : OKM n kd fi se tr sy lt lg ru) (f : Nat) (hf : f < n) (x : Int32) (hx9 : x < 0 ∨ nI 6 ≤ x) : MuI l yX1_depends wsX1_depends rm_X1_depends D vwCl (wM bd cI cZ cJ th n kd fi se sd tr on sy lt ru lg rs) (fun u => wM bd cI cZ cJ (nI 1) n kd fi se sd tr on sy lt ru lg u) (tyC cI cZ cJ) [.ref (bd 0), .int (nI f), .int x] (bI false) := by
  refine MuI.of (cc := cX1_depends) (maxL := 8) (by decide) rfl (Nat.le_of_ble_eq_true rfl) (bI_n _) ?_
  intro A p e s m args below meth c Q ls hx hb hml hown hts hP hK hD kret hl
  have hown : s.vm.findClass RX1 = some m.cls := hown
  have hl : lv_has ls 8 [(0, .ref (bd 0)), (1, .int (nI f)), (2, .int x)] := hl
  have hS : va_S A s.heap s.heap [] := va_S.rf
  have hin0 : ∀ w ∈ u_ws RX1 TX1 13, w ∈ wsX1_depends := hin_X1_depends
  refine lv_aload_n hx hb dX1_depends_0 rfl (lv_at hl 0 rfl) ?_
  refine lv_aload_n hx hb dX1_depends_1 rfl (lv_at hl 0 rfl) ?_
  refine lv_iload_n hx hb dX1_depends_2 rfl (lv_at hl 1 rfl) ?_
  refine puI_V (own := RX1) (As := [.int (nI f)]) (rest := [.ref (bd 0)]) (C := RX1) (ci := 1) (q0 := 0) ⟨hx, hb, hml, hown, hts⟩ (c_X1_isFormula l D bd cI cZ cJ th n kd fi se sd tr on sy lt ru lg rs (nI f)) gX1_depends_X1_isFormula rfl ⟨rfl, rfl⟩ 1 rfl (by decide +kernel) ⟨Nat.le_of_ble_eq_true rfl, Nat.le_of_ble_eq_true rfl⟩ hP hK rfl rfl rfl hS hl.1 rfl (Nat.le_of_ble_eq_true rfl) dX1_depends_3 ⟨Nat.zero_le _, Nat.zero_le _⟩ (fun H locs hk1 hS => ?_)
  replace hP := keptP hP hk1
  refine tc_int (y := bI true) (by rw [isF_t hf hM.1]) ?_
  refine zF_eq (tgt := 20) hx hb dX1_depends_6 (by decide) (by decide) ?_
  refine lv_iload_n hx hb dX1_depends_9 rfl (lv_at hl 2 rfl) ?_
  refine puI_S (own := RX1) (As := [.int x]) (rest := [.ref (bd 0)]) ⟨hx, hb, hml, hown, hts⟩ (c_X1_isAtom l D x) gX1_depends_X1_isAtom rfl ⟨rfl, rfl⟩ 1 rfl (by decide +kernel) ⟨Nat.le_of_ble_eq_true rfl, Nat.le_of_ble_eq_true rfl⟩ nilP (hK.sub (tys' := []) [] rfl) hS hl.1 rfl (Nat.le_of_ble_eq_true rfl) dX1_depends_10 ⟨Nat.zero_le _, Nat.zero_le _⟩ (fun H locs hk1 hS => ?_)
  replace hP := keptP hP hk1
  refine tc_int (y := bI false) (by rw [inB_bad hx9 (by decide)]) ?_
  refine zT_eq (tgt := 20) hx hb dX1_depends_13 (by decide) (rfl) ?_
  refine lv_iconst (v := nI 1) hx hb dX1_depends_20 (by decide) ?_
  refine va_put (D := D) (ci := 1) (v := .int (nI 1)) (ty := .int) (C := RX1) (T := TX1) (N := 13) hx hb hts hin0 tyX1 tyX1_ok nmX1 hown hK hP hD hS 0 rfl rfl 0 (by decide) (hts (.fieldLink RX1 45 "RumourReasonerModel" "thrown" "I") (by decide +kernel)) (fun _ h9 => h9) rfl (by decide +kernel) rfl rfl (Nat.le_of_ble_eq_true rfl) dX1_depends_21 (fun H locs hP hD hS => ?_)
  have hP : va_P D vwCl (wM bd cI cZ cJ (nI 1) n kd fi se sd tr on sy lt ru lg rs) H := hP
  have hD : va_D A (wM bd cI cZ cJ (nI 1) n kd fi se sd tr on sy lt ru lg rs) := hD
  refine lv_iconst (v := nI 0) hx hb dX1_depends_24 (by decide) ?_
  refine tc_int (y := bI false) (rfl) ?_
  refine lv_istore_n (lv' := [(3, .int (bI false)), (0, .ref (bd 0)), (1, .int (nI f)), (2, .int x)]) hx hb dX1_depends_25 rfl hl (by decide) rfl (fun ls hl => ?_)
  refine lv_iconst (v := nI 1) hx hb dX1_depends_26 (by decide) ?_
  refine lv_iconst (v := nI 2) hx hb dX1_depends_27 (by decide) ?_
  refine lv_iconst (v := nI 5) hx hb dX1_depends_28 (by decide) ?_
  refine lv_iload_n hx hb dX1_depends_29 rfl (lv_at hl 3 rfl) ?_
  refine lv_isub hx hb dX1_depends_30 ?_
  refine lv_imul hx hb dX1_depends_31 ?_
  refine lv_ishl hx hb dX1_depends_32 ?_
  refine lv_istore (lv' := [(4, .int ((nI 1) <<< (((nI 2) * ((nI 5) - x)) &&& 31))), (3, .int (bI false)), (0, .ref (bd 0)), (1, .int (nI f)), (2, .int x)]) hx hb dX1_depends_33 hl (by decide) rfl (fun ls hl => ?_)
  refine lv_iconst (v := nI 0) hx hb dX1_depends_35 (by decide) ?_
  refine lv_istore (lv' := [(5, .int (nI 0)), (4, .int ((nI 1) <<< (((nI 2) * ((nI 5) - x)) &&& 31))), (3, .int (bI false)), (0, .ref (bd 0)), (1, .int (nI f)), (2, .int x)]) hx hb dX1_depends_36 hl (by decide) rfl (fun ls hl => ?_)
  refine lv_iload hx hb dX1_depends_38 (lv_at hl 0 rfl) ?_
  refine lv_sipush (v := nI 4096) hx hb dX1_depends_40 (by decide) ?_
  refine cF_ge (tgt := 143) hx hb dX1_depends_43 (by decide) (nI_ge (by omega) (by omega)) ?_
  refine lv_aload_n hx hb dX1_depends_46 rfl (lv_at hl 3 rfl) ?_
  refine va_get (D := D) (ci := 1) (v := .int (nI 1)) (C := RX1) (T := TX1) (N := 13) hx hb hts hin0 hown hK hP 0 rfl rfl 0 (by decide) (hts (.fieldLink RX1 45 "RumourReasonerModel" "thrown" "I") (by decide +kernel)) (fun _ h9 => h9) rfl dX1_depends_47 ?_
  refine zT_ne (tgt := 143) hx hb dX1_depends_50 (by decide) (by decide) ?_
  refine lv_iload_n hx hb dX1_depends_143 rfl (lv_at hl 2 rfl) ?_
  exact kret _ rs _ _ _ _ (rfl) hP hS dX1_depends_144

end
