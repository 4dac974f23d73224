section
variable (l : Launch) (D : va_G) (ad : Nat → Nat) (cI cZ cJ : ClassId) (n : Nat) (kd : Nat → Nat) (sd : Nat → Bool) (ts fs : Nat → Int64) (tr : Nat → Nat) (on : Nat → Bool) (rp : Nat → Nat) (lt : Nat) (ru : Nat → Option Nat) (lg : Nat) (lp : Int64)
theorem hin_X0_join : ∀ w ∈ wsX00, w ∈ wsX0_join := by first | exact fun _ h => List.mem_cons_of_mem _ (List.mem_append_right _ h) | exact fun _ h => List.mem_cons_of_mem _ (List.mem_append_left _ (List.mem_append_right _ h)) | exact fun _ h => List.mem_cons_of_mem _ (List.mem_append_left _ (List.mem_append_left _ (List.mem_append_right _ h))) | exact fun _ h => List.mem_cons_of_mem _ (List.mem_append_left _ (List.mem_append_left _ (List.mem_append_left _ (List.mem_append_right _ h)))) | decide +kernel
def rm_X0_join : Room := { frames := 1, cells := 0, slots := 0, locals := 26 }
set_option maxHeartbeats 4000000 in
set_option maxRecDepth 100000 in
theorem c_X0_join (hO : OKC n tr rp lt lg ru) (k a b : Nat) (hk : 3 ≤ k ∧ k ≤ 7) (ha : a < n) (hb9 : b < n) (hn40 : n < 40) : MuI l yX0_join wsX0_join rm_X0_join D vwCl (wC ad cI cZ cJ n kd sd ts fs tr on rp lt ru lg lp) (fun _ => wC ad cI cZ cJ (n + 1) (va_up kd n k) (va_up sd n (decide (k ≠ 7) && sd a && sd b)) (pt ts (n * 64) (fun w => jTL k (ts (a * 64 + w)) (ts (b * 64 + w))) 64) (pt fs (n * 64) (fun w => jFL k (ts (a * 64 + w)) (fs (a * 64 + w)) (fs (b * 64 + w))) 64) tr on rp lt ru lg lp) (tyC cI cZ cJ) [.ref (ad 0), .int (nI k), .int (nI a), .int (nI b)] (nI n) := by
  refine MuI.of (cc := cX0_join) (maxL := 10) (by decide) rfl (Nat.le_of_ble_eq_true rfl) (vp_nar_int _) ?_
  intro A p e s m args below meth c Q ls hx hb hml hown hts hP hK hD kret hl
  have hown : s.vm.findClass RX0 = some m.cls := hown
  have hl : lv_has ls 10 [(0, .ref (ad 0)), (1, .int (nI k)), (2, .int (nI a)), (3, .int (nI b))] := hl
  have hS : va_S A s.heap s.heap [] := va_S.rf
  have hin0 : ∀ w ∈ u_ws RX0 TX0 12, w ∈ wsX0_join := hin_X0_join
  refine lv_aload_n hx hb dX0_join_0 rfl (lv_at hl 0 rfl) ?_
  refine lv_iload_n hx hb dX0_join_1 rfl (lv_at hl 2 rfl) ?_
  refine puV_V (own := RX0) (As := [.int (nI a)]) (rest := []) (C := RX0) (ci := 0) (q0 := 0) ⟨hx, hb, hml, hown, hts⟩ (c_X0_requireFormula l D ad cI cZ cJ n kd sd ts fs tr on rp lt ru lg lp hO a (by omega)) gX0_join_X0_requireFormula rfl ⟨rfl, rfl⟩ 1 rfl (by decide +kernel) ⟨Nat.le_of_ble_eq_true rfl, Nat.le_of_ble_eq_true rfl⟩ hP hK rfl rfl rfl hS hl.1 rfl (Nat.le_of_ble_eq_true rfl) dX0_join_2 ⟨Nat.zero_le _, Nat.zero_le _⟩ (fun H locs hk1 hS => ?_)
  replace hP := keptP hP hk1
  refine lv_aload_n hx hb dX0_join_5 rfl (lv_at hl 0 rfl) ?_
  refine lv_iload_n hx hb dX0_join_6 rfl (lv_at hl 3 rfl) ?_
  refine puV_V (own := RX0) (As := [.int (nI b)]) (rest := []) (C := RX0) (ci := 0) (q0 := 0) ⟨hx, hb, hml, hown, hts⟩ (c_X0_requireFormula l D ad cI cZ cJ n kd sd ts fs tr on rp lt ru lg lp hO b (by omega)) gX0_join_X0_requireFormula rfl ⟨rfl, rfl⟩ 1 rfl (by decide +kernel) ⟨Nat.le_of_ble_eq_true rfl, Nat.le_of_ble_eq_true rfl⟩ hP hK rfl rfl rfl hS hl.1 rfl (Nat.le_of_ble_eq_true rfl) dX0_join_7 ⟨Nat.zero_le _, Nat.zero_le _⟩ (fun H locs hk1 hS => ?_)
  replace hP := keptP hP hk1
  refine lv_iload_n hx hb dX0_join_10 rfl (lv_at hl 1 rfl) ?_
  refine lv_iconst (v := nI 3) hx hb dX0_join_11 (by decide) ?_
  refine cF_lt (tgt := 21) hx hb dX0_join_12 (by decide) (nI_nlt (by omega) (by omega)) ?_
  refine lv_iload_n hx hb dX0_join_15 rfl (lv_at hl 1 rfl) ?_
  refine lv_bipush (v := nI 7) hx hb dX0_join_16 (by decide) ?_
  refine cT_le (tgt := 31) hx hb dX0_join_18 (by decide) (nI_le (by omega) (by omega)) ?_
  refine lv_aload_n hx hb dX0_join_31 rfl (lv_at hl 0 rfl) ?_
  refine puV_V (own := RX0) (As := []) (rest := []) (C := RX0) (ci := 0) (q0 := 0) ⟨hx, hb, hml, hown, hts⟩ (c_X0_requireRoom l D ad cI cZ cJ n kd sd ts fs tr on rp lt ru lg lp (by omega)) gX0_join_X0_requireRoom rfl ⟨rfl, rfl⟩ 0 rfl (by decide +kernel) ⟨Nat.le_of_ble_eq_true rfl, Nat.le_of_ble_eq_true rfl⟩ hP hK rfl rfl rfl hS hl.1 rfl (Nat.le_of_ble_eq_true rfl) dX0_join_32 ⟨Nat.zero_le _, Nat.zero_le _⟩ (fun H locs hk1 hS => ?_)
  replace hP := keptP hP hk1
  refine lv_aload_n hx hb dX0_join_35 rfl (lv_at hl 0 rfl) ?_
  refine va_get (D := D) (ci := 0) (v := .int (nI n)) (C := RX0) (T := TX0) (N := 12) hx hb hts hin0 hown hK hP 0 rfl rfl 0 (by decide) (hts (.fieldLink RX0 9 "RumourReasoner" "count" "I") (by decide +kernel)) (fun _ h9 => h9) rfl dX0_join_36 ?_
  refine puI_S (own := RX0) (As := [.int (nI n)]) (rest := []) ⟨hx, hb, hml, hown, hts⟩ (c_X0_rowOf l D n) gX0_join_X0_rowOf rfl ⟨rfl, rfl⟩ 1 rfl (by decide +kernel) ⟨Nat.le_of_ble_eq_true rfl, Nat.le_of_ble_eq_true rfl⟩ nilP (hK.sub (tys' := []) [] rfl) hS hl.1 rfl (Nat.le_of_ble_eq_true rfl) dX0_join_39 ⟨Nat.zero_le _, Nat.zero_le _⟩ (fun H locs hk1 hS => ?_)
  replace hP := keptP hP hk1
  refine lv_istore (lv' := [(4, .int (nI (n * 64))), (0, .ref (ad 0)), (1, .int (nI k)), (2, .int (nI a)), (3, .int (nI b))]) hx hb dX0_join_42 hl (by decide) rfl (fun ls hl => ?_)
  refine lv_iload_n hx hb dX0_join_44 rfl (lv_at hl 3 rfl) ?_
  refine puI_S (own := RX0) (As := [.int (nI a)]) (rest := []) ⟨hx, hb, hml, hown, hts⟩ (c_X0_rowOf l D a) gX0_join_X0_rowOf rfl ⟨rfl, rfl⟩ 1 rfl (by decide +kernel) ⟨Nat.le_of_ble_eq_true rfl, Nat.le_of_ble_eq_true rfl⟩ nilP (hK.sub (tys' := []) [] rfl) hS hl.1 rfl (Nat.le_of_ble_eq_true rfl) dX0_join_45 ⟨Nat.zero_le _, Nat.zero_le _⟩ (fun H locs hk1 hS => ?_)
  replace hP := keptP hP hk1
  refine lv_istore (lv' := [(5, .int (nI (a * 64))), (4, .int (nI (n * 64))), (0, .ref (ad 0)), (1, .int (nI k)), (2, .int (nI a)), (3, .int (nI b))]) hx hb dX0_join_48 hl (by decide) rfl (fun ls hl => ?_)
  refine lv_iload_n hx hb dX0_join_50 rfl (lv_at hl 5 rfl) ?_
  refine puI_S (own := RX0) (As := [.int (nI b)]) (rest := []) ⟨hx, hb, hml, hown, hts⟩ (c_X0_rowOf l D b) gX0_join_X0_rowOf rfl ⟨rfl, rfl⟩ 1 rfl (by decide +kernel) ⟨Nat.le_of_ble_eq_true rfl, Nat.le_of_ble_eq_true rfl⟩ nilP (hK.sub (tys' := []) [] rfl) hS hl.1 rfl (Nat.le_of_ble_eq_true rfl) dX0_join_51 ⟨Nat.zero_le _, Nat.zero_le _⟩ (fun H locs hk1 hS => ?_)
  replace hP := keptP hP hk1
  refine lv_istore (lv' := [(6, .int (nI (b * 64))), (5, .int (nI (a * 64))), (4, .int (nI (n * 64))), (0, .ref (ad 0)), (1, .int (nI k)), (2, .int (nI a)), (3, .int (nI b))]) hx hb dX0_join_54 hl (by decide) rfl (fun ls hl => ?_)
  refine lv_iconst (v := nI 0) hx hb dX0_join_56 (by decide) ?_
  refine lv_istore (lv' := [(7, .int (nI 0)), (6, .int (nI (b * 64))), (5, .int (nI (a * 64))), (4, .int (nI (n * 64))), (0, .ref (ad 0)), (1, .int (nI k)), (2, .int (nI a)), (3, .int (nI b))]) hx hb dX0_join_57 hl (by decide) rfl (fun ls hl => ?_)
  have key1 : ∀ (d3 i2 : Nat), i2 + d3 = 64 → ∀ (H : Heap) (locs : List Loc) (ls : Array Slot), va_P D vwCl (wC ad cI cZ cJ n kd sd (pt ts (n * 64) (fun w => jTL k (ts (a * 64 + w)) (ts (b * 64 + w))) i2) (pt fs (n * 64) (fun w => jFL k (ts (a * 64 + w)) (fs (a * 64 + w)) (fs (b * 64 + w))) i2) tr on rp lt ru lg lp) H → va_D A (wC ad cI cZ cJ n kd sd (pt ts (n * 64) (fun w => jTL k (ts (a * 64 + w)) (ts (b * 64 + w))) i2) (pt fs (n * 64) (fun w => jFL k (ts (a * 64 + w)) (fs (a * 64 + w)) (fs (b * 64 + w))) i2) tr on rp lt ru lg lp) → va_S A s.heap H locs → lv_has ls 10 [(7, .int (nI i2)), (6, .int (nI (b * 64))), (5, .int (nI (a * 64))), (4, .int (nI (n * 64))), (0, .ref (ad 0)), (1, .int (nI k)), (2, .int (nI a)), (3, .int (nI b))] → W p l e rm_X0_join s m args below meth c H locs 0 0 Q (F0 m 59 ls []) := by
    intro d3
    induction d3 with
    | zero =>
      intro i2 hi_i2 H locs ls hP hD hS hl
      obtain rfl : i2 = 64 := by omega
      refine lv_iload hx hb dX0_join_59 (lv_at hl 0 rfl) ?_
      refine lv_bipush (v := nI 64) hx hb dX0_join_61 (by decide) ?_
      refine cT_ge (tgt := 146) hx hb dX0_join_63 (by decide) (nI_le (by omega) (by omega)) ?_
      refine lv_aload_n hx hb dX0_join_146 rfl (lv_at hl 4 rfl) ?_
      refine lv_iload_n hx hb dX0_join_147 rfl (lv_at hl 5 rfl) ?_
      refine lv_iload_n hx hb dX0_join_148 rfl (lv_at hl 5 rfl) ?_
      refine lv_bipush (v := nI 7) hx hb dX0_join_149 (by decide) ?_
      refine lv_icmp_eq (tgt := 176) hx hb dX0_join_151 (by decide) (fun c_4 => ?_) (fun c_4 => ?_)
      · have e_151 : decide (k ≠ 7) = false := decide_eq_false (fun q => q ((nI_eq (by omega) (by decide)).mp c_4))
        refine lv_iconst (v := nI 0) hx hb dX0_join_176 (by decide) ?_
        refine tc_int (y := bI (decide (k ≠ 7) && sd a && sd b)) (by rw [e_151]; rfl) ?_
        refine muI_V (own := RX0) (As := [.int (nI k), .int (bI (decide (k ≠ 7) && sd a && sd b))]) (rest := []) (C := RX0) (ci := 0) (q0 := 0) (A1 := A) ⟨hx, hb, hml, hown, hts⟩ (c_X0_addFormula l D ad cI cZ cJ n kd sd (pt ts (n * 64) (fun w => jTL k (ts (a * 64 + w)) (ts (b * 64 + w))) 64) (pt fs (n * 64) (fun w => jFL k (ts (a * 64 + w)) (fs (a * 64 + w)) (fs (b * 64 + w))) 64) tr on rp lt ru lg lp k (decide (k ≠ 7) && sd a && sd b) (by omega)) gX0_join_X0_addFormula rfl ⟨rfl, rfl⟩ 2 rfl (by decide +kernel) ⟨Nat.le_of_ble_eq_true rfl, Nat.le_of_ble_eq_true rfl⟩ hP hK hD (fun _ h9 => h9) rfl rfl rfl hS hl.1 rfl (Nat.le_of_ble_eq_true rfl) dX0_join_177 ⟨Nat.zero_le _, Nat.zero_le _⟩ (fun u5 H locs hP hz1 hk1 hS => ?_)
        replace hP : va_P D vwCl (wC ad cI cZ cJ (n + 1) (va_up kd n k) (va_up sd n (decide (k ≠ 7) && sd a && sd b)) (pt ts (n * 64) (fun w => jTL k (ts (a * 64 + w)) (ts (b * 64 + w))) 64) (pt fs (n * 64) (fun w => jFL k (ts (a * 64 + w)) (fs (a * 64 + w)) (fs (b * 64 + w))) 64) tr on rp lt ru lg lp) H := hP
        replace hD : va_D A (wC ad cI cZ cJ (n + 1) (va_up kd n k) (va_up sd n (decide (k ≠ 7) && sd a && sd b)) (pt ts (n * 64) (fun w => jTL k (ts (a * 64 + w)) (ts (b * 64 + w))) 64) (pt fs (n * 64) (fun w => jFL k (ts (a * 64 + w)) (fs (a * 64 + w)) (fs (b * 64 + w))) 64) tr on rp lt ru lg lp) := sameD2 hD rfl
        exact kret _ (fun _ => 0) _ _ _ _ (rfl) hP hS dX0_join_180
      · have e_151 : decide (k ≠ 7) = true := decide_eq_true (fun q => c_4 (by rw [q]))
        refine lv_aload_n hx hb dX0_join_154 rfl (lv_at hl 4 rfl) ?_
        refine va_get (D := D) (ci := 0) (v := .ref (ad 2)) (C := RX0) (T := TX0) (N := 12) hx hb hts hin0 hown hK hP 0 rfl rfl 2 (by decide) (hts (.fieldLink RX0 17 "RumourReasoner" "steady" "[Z") (by decide +kernel)) (fun _ h9 => h9) rfl dX0_join_155 ?_
        refine lv_iload_n hx hb dX0_join_158 rfl (lv_at hl 6 rfl) ?_
        refine ld_nz hx hb hK hP 2 1 rfl rfl (j := a) (by omega) (by decide) dX0_join_159 ?_
        refine lv_if_eq (tgt := 176) hx hb dX0_join_160 (by decide) (fun c_6 => ?_) (fun c_6 => ?_)
        · have e_160 := bI_0 c_6
          refine lv_iconst (v := nI 0) hx hb dX0_join_176 (by decide) ?_
          refine tc_int (y := bI (decide (k ≠ 7) && sd a && sd b)) (by rw [e_151, e_160]; rfl) ?_
          refine muI_V (own := RX0) (As := [.int (nI k), .int (bI (decide (k ≠ 7) && sd a && sd b))]) (rest := []) (C := RX0) (ci := 0) (q0 := 0) (A1 := A) ⟨hx, hb, hml, hown, hts⟩ (c_X0_addFormula l D ad cI cZ cJ n kd sd (pt ts (n * 64) (fun w => jTL k (ts (a * 64 + w)) (ts (b * 64 + w))) 64) (pt fs (n * 64) (fun w => jFL k (ts (a * 64 + w)) (fs (a * 64 + w)) (fs (b * 64 + w))) 64) tr on rp lt ru lg lp k (decide (k ≠ 7) && sd a && sd b) (by omega)) gX0_join_X0_addFormula rfl ⟨rfl, rfl⟩ 2 rfl (by decide +kernel) ⟨Nat.le_of_ble_eq_true rfl, Nat.le_of_ble_eq_true rfl⟩ hP hK hD (fun _ h9 => h9) rfl rfl rfl hS hl.1 rfl (Nat.le_of_ble_eq_true rfl) dX0_join_177 ⟨Nat.zero_le _, Nat.zero_le _⟩ (fun u7 H locs hP hz1 hk1 hS => ?_)
          replace hP : va_P D vwCl (wC ad cI cZ cJ (n + 1) (va_up kd n k) (va_up sd n (decide (k ≠ 7) && sd a && sd b)) (pt ts (n * 64) (fun w => jTL k (ts (a * 64 + w)) (ts (b * 64 + w))) 64) (pt fs (n * 64) (fun w => jFL k (ts (a * 64 + w)) (fs (a * 64 + w)) (fs (b * 64 + w))) 64) tr on rp lt ru lg lp) H := hP
          replace hD : va_D A (wC ad cI cZ cJ (n + 1) (va_up kd n k) (va_up sd n (decide (k ≠ 7) && sd a && sd b)) (pt ts (n * 64) (fun w => jTL k (ts (a * 64 + w)) (ts (b * 64 + w))) 64) (pt fs (n * 64) (fun w => jFL k (ts (a * 64 + w)) (fs (a * 64 + w)) (fs (b * 64 + w))) 64) tr on rp lt ru lg lp) := sameD2 hD rfl
          exact kret _ (fun _ => 0) _ _ _ _ (rfl) hP hS dX0_join_180
        · have e_160 := bI_1 c_6
          refine lv_aload_n hx hb dX0_join_163 rfl (lv_at hl 4 rfl) ?_
          refine va_get (D := D) (ci := 0) (v := .ref (ad 2)) (C := RX0) (T := TX0) (N := 12) hx hb hts hin0 hown hK hP 0 rfl rfl 2 (by decide) (hts (.fieldLink RX0 17 "RumourReasoner" "steady" "[Z") (by decide +kernel)) (fun _ h9 => h9) rfl dX0_join_164 ?_
          refine lv_iload_n hx hb dX0_join_167 rfl (lv_at hl 7 rfl) ?_
          refine ld_nz hx hb hK hP 2 1 rfl rfl (j := b) (by omega) (by decide) dX0_join_168 ?_
          refine lv_if_eq (tgt := 176) hx hb dX0_join_169 (by decide) (fun c_8 => ?_) (fun c_8 => ?_)
          · have e_169 := bI_0 c_8
            refine lv_iconst (v := nI 0) hx hb dX0_join_176 (by decide) ?_
            refine tc_int (y := bI (decide (k ≠ 7) && sd a && sd b)) (by rw [e_151, e_160, e_169]; rfl) ?_
            refine muI_V (own := RX0) (As := [.int (nI k), .int (bI (decide (k ≠ 7) && sd a && sd b))]) (rest := []) (C := RX0) (ci := 0) (q0 := 0) (A1 := A) ⟨hx, hb, hml, hown, hts⟩ (c_X0_addFormula l D ad cI cZ cJ n kd sd (pt ts (n * 64) (fun w => jTL k (ts (a * 64 + w)) (ts (b * 64 + w))) 64) (pt fs (n * 64) (fun w => jFL k (ts (a * 64 + w)) (fs (a * 64 + w)) (fs (b * 64 + w))) 64) tr on rp lt ru lg lp k (decide (k ≠ 7) && sd a && sd b) (by omega)) gX0_join_X0_addFormula rfl ⟨rfl, rfl⟩ 2 rfl (by decide +kernel) ⟨Nat.le_of_ble_eq_true rfl, Nat.le_of_ble_eq_true rfl⟩ hP hK hD (fun _ h9 => h9) rfl rfl rfl hS hl.1 rfl (Nat.le_of_ble_eq_true rfl) dX0_join_177 ⟨Nat.zero_le _, Nat.zero_le _⟩ (fun u9 H locs hP hz1 hk1 hS => ?_)
            replace hP : va_P D vwCl (wC ad cI cZ cJ (n + 1) (va_up kd n k) (va_up sd n (decide (k ≠ 7) && sd a && sd b)) (pt ts (n * 64) (fun w => jTL k (ts (a * 64 + w)) (ts (b * 64 + w))) 64) (pt fs (n * 64) (fun w => jFL k (ts (a * 64 + w)) (fs (a * 64 + w)) (fs (b * 64 + w))) 64) tr on rp lt ru lg lp) H := hP
            replace hD : va_D A (wC ad cI cZ cJ (n + 1) (va_up kd n k) (va_up sd n (decide (k ≠ 7) && sd a && sd b)) (pt ts (n * 64) (fun w => jTL k (ts (a * 64 + w)) (ts (b * 64 + w))) 64) (pt fs (n * 64) (fun w => jFL k (ts (a * 64 + w)) (fs (a * 64 + w)) (fs (b * 64 + w))) 64) tr on rp lt ru lg lp) := sameD2 hD rfl
            exact kret _ (fun _ => 0) _ _ _ _ (rfl) hP hS dX0_join_180
          · have e_169 := bI_1 c_8
            refine lv_iconst (v := nI 1) hx hb dX0_join_172 (by decide) ?_
            refine tc_int (y := bI (decide (k ≠ 7) && sd a && sd b)) (by rw [e_151, e_160, e_169]; rfl) ?_
            refine lv_goto (tgt := 177) hx hb dX0_join_173 (by decide) ?_
            refine muI_V (own := RX0) (As := [.int (nI k), .int (bI (decide (k ≠ 7) && sd a && sd b))]) (rest := []) (C := RX0) (ci := 0) (q0 := 0) (A1 := A) ⟨hx, hb, hml, hown, hts⟩ (c_X0_addFormula l D ad cI cZ cJ n kd sd (pt ts (n * 64) (fun w => jTL k (ts (a * 64 + w)) (ts (b * 64 + w))) 64) (pt fs (n * 64) (fun w => jFL k (ts (a * 64 + w)) (fs (a * 64 + w)) (fs (b * 64 + w))) 64) tr on rp lt ru lg lp k (decide (k ≠ 7) && sd a && sd b) (by omega)) gX0_join_X0_addFormula rfl ⟨rfl, rfl⟩ 2 rfl (by decide +kernel) ⟨Nat.le_of_ble_eq_true rfl, Nat.le_of_ble_eq_true rfl⟩ hP hK hD (fun _ h9 => h9) rfl rfl rfl hS hl.1 rfl (Nat.le_of_ble_eq_true rfl) dX0_join_177 ⟨Nat.zero_le _, Nat.zero_le _⟩ (fun u10 H locs hP hz1 hk1 hS => ?_)
            replace hP : va_P D vwCl (wC ad cI cZ cJ (n + 1) (va_up kd n k) (va_up sd n (decide (k ≠ 7) && sd a && sd b)) (pt ts (n * 64) (fun w => jTL k (ts (a * 64 + w)) (ts (b * 64 + w))) 64) (pt fs (n * 64) (fun w => jFL k (ts (a * 64 + w)) (fs (a * 64 + w)) (fs (b * 64 + w))) 64) tr on rp lt ru lg lp) H := hP
            replace hD : va_D A (wC ad cI cZ cJ (n + 1) (va_up kd n k) (va_up sd n (decide (k ≠ 7) && sd a && sd b)) (pt ts (n * 64) (fun w => jTL k (ts (a * 64 + w)) (ts (b * 64 + w))) 64) (pt fs (n * 64) (fun w => jFL k (ts (a * 64 + w)) (fs (a * 64 + w)) (fs (b * 64 + w))) 64) tr on rp lt ru lg lp) := sameD2 hD rfl
            exact kret _ (fun _ => 0) _ _ _ _ (rfl) hP hS dX0_join_180
    | succ d3 ih_i2 =>
      intro i2 hi_i2 H locs ls hP hD hS hl
      refine lv_iload hx hb dX0_join_59 (lv_at hl 0 rfl) ?_
      refine lv_bipush (v := nI 64) hx hb dX0_join_61 (by decide) ?_
      refine cF_ge (tgt := 146) hx hb dX0_join_63 (by decide) (nI_ge (by omega) (by omega)) ?_
      refine lv_aload_n hx hb dX0_join_66 rfl (lv_at hl 4 rfl) ?_
      refine va_get (D := D) (ci := 0) (v := .ref (ad 3)) (C := RX0) (T := TX0) (N := 12) hx hb hts hin0 hown hK hP 0 rfl rfl 3 (by decide) (hts (.fieldLink RX0 21 "RumourReasoner" "trueSets" "[J") (by decide +kernel)) (fun _ h9 => h9) rfl dX0_join_67 ?_
      refine lv_iload hx hb dX0_join_70 (lv_at hl 2 rfl) ?_
      refine lv_iload hx hb dX0_join_72 (lv_at hl 0 rfl) ?_
      refine lv_iadd hx hb dX0_join_74 ?_
      refine tc_int (y := nI ((a * 64) + i2)) (nI_add _ _) ?_
      refine ld_nl hx hb hK hP 3 2 rfl rfl (j := ((a * 64) + i2)) (by omega) (by decide) dX0_join_75 ?_
      refine tc_long (y := ts (a * 64 + i2)) (pt_out (Or.inl (by omega))) ?_
      refine lv_lstore (lv' := [(8, .long (ts (a * 64 + i2))), (7, .int (nI i2)), (6, .int (nI (b * 64))), (5, .int (nI (a * 64))), (4, .int (nI (n * 64))), (0, .ref (ad 0)), (1, .int (nI k)), (2, .int (nI a)), (3, .int (nI b))]) hx hb dX0_join_76 hl (by decide) rfl (fun ls hl => ?_)
      refine lv_aload_n hx hb dX0_join_78 rfl (lv_at hl 5 rfl) ?_
      refine va_get (D := D) (ci := 0) (v := .ref (ad 3)) (C := RX0) (T := TX0) (N := 12) hx hb hts hin0 hown hK hP 0 rfl rfl 3 (by decide) (hts (.fieldLink RX0 21 "RumourReasoner" "trueSets" "[J") (by decide +kernel)) (fun _ h9 => h9) rfl dX0_join_79 ?_
      refine lv_iload hx hb dX0_join_82 (lv_at hl 4 rfl) ?_
      refine lv_iload hx hb dX0_join_84 (lv_at hl 1 rfl) ?_
      refine lv_iadd hx hb dX0_join_86 ?_
      refine tc_int (y := nI ((n * 64) + i2)) (nI_add _ _) ?_
      refine lv_iload_n hx hb dX0_join_87 rfl (lv_at hl 6 rfl) ?_
      refine lv_lload hx hb dX0_join_88 (lv_at hl 0 rfl) ?_
      refine lv_aload_n hx hb dX0_join_90 rfl (lv_at hl 5 rfl) ?_
      refine va_get (D := D) (ci := 0) (v := .ref (ad 3)) (C := RX0) (T := TX0) (N := 12) hx hb hts hin0 hown hK hP 0 rfl rfl 3 (by decide) (hts (.fieldLink RX0 21 "RumourReasoner" "trueSets" "[J") (by decide +kernel)) (fun _ h9 => h9) rfl dX0_join_91 ?_
      refine lv_iload hx hb dX0_join_94 (lv_at hl 2 rfl) ?_
      refine lv_iload hx hb dX0_join_96 (lv_at hl 1 rfl) ?_
      refine lv_iadd hx hb dX0_join_98 ?_
      refine tc_int (y := nI ((b * 64) + i2)) (nI_add _ _) ?_
      refine ld_nl hx hb hK hP 3 2 rfl rfl (j := ((b * 64) + i2)) (by omega) (by decide) dX0_join_99 ?_
      refine tc_long (y := ts (b * 64 + i2)) (pt_out (Or.inl (by omega))) ?_
      refine puL_S (own := RX0) (As := [.int (nI k), .long (ts (a * 64 + i2)), .long (ts (b * 64 + i2))]) (rest := [.int (nI ((n * 64) + i2)), .ref (ad 3)]) ⟨hx, hb, hml, hown, hts⟩ (c_X0_joinTrue l D k (ts (a * 64 + i2)) (ts (b * 64 + i2)) hk) gX0_join_X0_joinTrue rfl ⟨rfl, rfl⟩ 3 rfl (by decide +kernel) ⟨Nat.le_of_ble_eq_true rfl, Nat.le_of_ble_eq_true rfl⟩ nilP (hK.sub (tys' := []) [] rfl) hS hl.1 rfl (Nat.le_of_ble_eq_true rfl) dX0_join_100 ⟨Nat.zero_le _, Nat.zero_le _⟩ (fun H locs hk1 hS => ?_)
      replace hP := keptP hP hk1
      refine st_nl hx hb hK hP hD hS 3 2 rfl rfl (j := ((n * 64) + i2)) (by omega) (by decide) dX0_join_103 (fun H locs hP hD hS => ?_)
      replace hP : va_P D vwCl (wC ad cI cZ cJ n kd sd (vp_updL (pt ts (n * 64) (fun w => jTL k (ts (a * 64 + w)) (ts (b * 64 + w))) i2) ((n * 64) + i2) (jTL k (ts (a * 64 + i2)) (ts (b * 64 + i2)))) (pt fs (n * 64) (fun w => jFL k (ts (a * 64 + w)) (fs (a * 64 + w)) (fs (b * 64 + w))) i2) tr on rp lt ru lg lp) H := by exact hP
      replace hD : va_D A (wC ad cI cZ cJ n kd sd (vp_updL (pt ts (n * 64) (fun w => jTL k (ts (a * 64 + w)) (ts (b * 64 + w))) i2) ((n * 64) + i2) (jTL k (ts (a * 64 + i2)) (ts (b * 64 + i2)))) (pt fs (n * 64) (fun w => jFL k (ts (a * 64 + w)) (fs (a * 64 + w)) (fs (b * 64 + w))) i2) tr on rp lt ru lg lp) := sameD2 hD rfl
      refine lv_aload_n hx hb dX0_join_104 rfl (lv_at hl 5 rfl) ?_
      refine va_get (D := D) (ci := 0) (v := .ref (ad 4)) (C := RX0) (T := TX0) (N := 12) hx hb hts hin0 hown hK hP 0 rfl rfl 4 (by decide) (hts (.fieldLink RX0 25 "RumourReasoner" "falseSets" "[J") (by decide +kernel)) (fun _ h9 => h9) rfl dX0_join_105 ?_
      refine lv_iload hx hb dX0_join_108 (lv_at hl 4 rfl) ?_
      refine lv_iload hx hb dX0_join_110 (lv_at hl 1 rfl) ?_
      refine lv_iadd hx hb dX0_join_112 ?_
      refine tc_int (y := nI ((n * 64) + i2)) (nI_add _ _) ?_
      refine lv_iload_n hx hb dX0_join_113 rfl (lv_at hl 6 rfl) ?_
      refine lv_lload hx hb dX0_join_114 (lv_at hl 0 rfl) ?_
      refine lv_aload_n hx hb dX0_join_116 rfl (lv_at hl 5 rfl) ?_
      refine va_get (D := D) (ci := 0) (v := .ref (ad 4)) (C := RX0) (T := TX0) (N := 12) hx hb hts hin0 hown hK hP 0 rfl rfl 4 (by decide) (hts (.fieldLink RX0 25 "RumourReasoner" "falseSets" "[J") (by decide +kernel)) (fun _ h9 => h9) rfl dX0_join_117 ?_
      refine lv_iload hx hb dX0_join_120 (lv_at hl 3 rfl) ?_
      refine lv_iload hx hb dX0_join_122 (lv_at hl 1 rfl) ?_
      refine lv_iadd hx hb dX0_join_124 ?_
      refine tc_int (y := nI ((a * 64) + i2)) (nI_add _ _) ?_
      refine ld_nl hx hb hK hP 4 2 rfl rfl (j := ((a * 64) + i2)) (by omega) (by decide) dX0_join_125 ?_
      refine tc_long (y := fs (a * 64 + i2)) (pt_out (Or.inl (by omega))) ?_
      refine lv_aload_n hx hb dX0_join_126 rfl (lv_at hl 5 rfl) ?_
      refine va_get (D := D) (ci := 0) (v := .ref (ad 4)) (C := RX0) (T := TX0) (N := 12) hx hb hts hin0 hown hK hP 0 rfl rfl 4 (by decide) (hts (.fieldLink RX0 25 "RumourReasoner" "falseSets" "[J") (by decide +kernel)) (fun _ h9 => h9) rfl dX0_join_127 ?_
      refine lv_iload hx hb dX0_join_130 (lv_at hl 2 rfl) ?_
      refine lv_iload hx hb dX0_join_132 (lv_at hl 1 rfl) ?_
      refine lv_iadd hx hb dX0_join_134 ?_
      refine tc_int (y := nI ((b * 64) + i2)) (nI_add _ _) ?_
      refine ld_nl hx hb hK hP 4 2 rfl rfl (j := ((b * 64) + i2)) (by omega) (by decide) dX0_join_135 ?_
      refine tc_long (y := fs (b * 64 + i2)) (pt_out (Or.inl (by omega))) ?_
      refine puL_S (own := RX0) (As := [.int (nI k), .long (ts (a * 64 + i2)), .long (fs (a * 64 + i2)), .long (fs (b * 64 + i2))]) (rest := [.int (nI ((n * 64) + i2)), .ref (ad 4)]) ⟨hx, hb, hml, hown, hts⟩ (c_X0_joinFalse l D k (ts (a * 64 + i2)) (fs (a * 64 + i2)) (fs (b * 64 + i2)) hk) gX0_join_X0_joinFalse rfl ⟨rfl, rfl⟩ 4 rfl (by decide +kernel) ⟨Nat.le_of_ble_eq_true rfl, Nat.le_of_ble_eq_true rfl⟩ nilP (hK.sub (tys' := []) [] rfl) hS hl.1 rfl (Nat.le_of_ble_eq_true rfl) dX0_join_136 ⟨Nat.zero_le _, Nat.zero_le _⟩ (fun H locs hk1 hS => ?_)
      replace hP := keptP hP hk1
      refine st_nl hx hb hK hP hD hS 4 2 rfl rfl (j := ((n * 64) + i2)) (by omega) (by decide) dX0_join_139 (fun H locs hP hD hS => ?_)
      replace hP : va_P D vwCl (wC ad cI cZ cJ n kd sd (vp_updL (pt ts (n * 64) (fun w => jTL k (ts (a * 64 + w)) (ts (b * 64 + w))) i2) ((n * 64) + i2) (jTL k (ts (a * 64 + i2)) (ts (b * 64 + i2)))) (vp_updL (pt fs (n * 64) (fun w => jFL k (ts (a * 64 + w)) (fs (a * 64 + w)) (fs (b * 64 + w))) i2) ((n * 64) + i2) (jFL k (ts (a * 64 + i2)) (fs (a * 64 + i2)) (fs (b * 64 + i2)))) tr on rp lt ru lg lp) H := by exact hP
      replace hD : va_D A (wC ad cI cZ cJ n kd sd (vp_updL (pt ts (n * 64) (fun w => jTL k (ts (a * 64 + w)) (ts (b * 64 + w))) i2) ((n * 64) + i2) (jTL k (ts (a * 64 + i2)) (ts (b * 64 + i2)))) (vp_updL (pt fs (n * 64) (fun w => jFL k (ts (a * 64 + w)) (fs (a * 64 + w)) (fs (b * 64 + w))) i2) ((n * 64) + i2) (jFL k (ts (a * 64 + i2)) (fs (a * 64 + i2)) (fs (b * 64 + i2)))) tr on rp lt ru lg lp) := sameD2 hD rfl
      refine lv_iinc (v := nI (i2 + 1)) (lv' := [(7, .int (nI (i2 + 1))), (8, .long (ts (a * 64 + i2))), (6, .int (nI (b * 64))), (5, .int (nI (a * 64))), (4, .int (nI (n * 64))), (0, .ref (ad 0)), (1, .int (nI k)), (2, .int (nI a)), (3, .int (nI b))]) hx hb dX0_join_140 hl (k := 1) rfl (iinc1 _) (by decide) rfl (fun ls hl => ?_)
      refine lv_goto (tgt := 59) hx hb dX0_join_143 (by decide) ?_
      exact ih_i2 (i2 + 1) (by omega) H locs ls hP hD hS (lv_sub hl [0, 2, 3, 4, 5, 6, 7, 8] rfl)
  exact key1 (64) 0 (by omega) _ _ ls hP hD hS (lv_sub hl [0, 1, 2, 3, 4, 5, 6, 7] rfl)

end
