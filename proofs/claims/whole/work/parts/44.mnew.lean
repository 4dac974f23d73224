section
variable (l : Launch) (D : va_G) (bd : Nat → Nat) (cI cZ cJ : ClassId) (th : Int32) (n : Nat) (kd fi se : Nat → Nat) (sd : Nat → Bool) (tr : Nat → Nat) (on : Nat → Bool) (sy : Nat → Nat) (lt : Nat) (ru : Nat → Option Nat) (lg : Nat) (rs : Nat → Int32)
theorem hin_X1_atom : ∀ w ∈ wsX10, w ∈ wsX1_atom := by first | exact fun _ h => List.mem_cons_of_mem _ (List.mem_append_right _ h) | exact fun _ h => List.mem_cons_of_mem _ (List.mem_append_left _ (List.mem_append_right _ h)) | exact fun _ h => List.mem_cons_of_mem _ (List.mem_append_left _ (List.mem_append_left _ (List.mem_append_right _ h))) | exact fun _ h => List.mem_cons_of_mem _ (List.mem_append_left _ (List.mem_append_left _ (List.mem_append_left _ (List.mem_append_right _ h)))) | decide +kernel
def rm_X1_atom : Room := { frames := 2, cells := 0, slots := 0, locals := 45 }
set_option maxHeartbeats 4000000 in
set_option maxRecDepth 100000 in
theorem c_X1_atom (a : Nat) (ha : a < 6) (hn40 : n < 40) : MuI l yX1_atom wsX1_atom rm_X1_atom D vwCl (wM bd cI cZ cJ th n kd fi se sd tr on sy lt ru lg rs) (fun u => wM bd cI cZ cJ (nI 0) (n + 1) (va_up kd n 0) (va_up fi n a) (va_up se n 0) (va_up sd n true) tr on sy lt ru lg u) (tyC cI cZ cJ) [.ref (bd 0), .int (nI a)] (nI n) := by
  refine MuI.of (cc := cX1_atom) (maxL := 2) (by decide) rfl (Nat.le_of_ble_eq_true rfl) (vp_nar_int _) ?_
  intro A p e s m args below meth c Q ls hx hb hml hown hts hP hK hD kret hl
  have hown : s.vm.findClass RX1 = some m.cls := hown
  have hl : lv_has ls 2 [(0, .ref (bd 0)), (1, .int (nI a))] := hl
  have hS : va_S A s.heap s.heap [] := va_S.rf
  have hin0 : ∀ w ∈ u_ws RX1 TX1 13, w ∈ wsX1_atom := hin_X1_atom
  refine lv_aload_n hx hb dX1_atom_0 rfl (lv_at hl 0 rfl) ?_
  refine lv_iconst (v := nI 0) hx hb dX1_atom_1 (by decide) ?_
  refine va_put (D := D) (ci := 1) (v := .int (nI 0)) (ty := .int) (C := RX1) (T := TX1) (N := 13) hx hb hts hin0 tyX1 tyX1_ok nmX1 hown hK hP hD hS 0 rfl rfl 0 (by decide) (hts (.fieldLink RX1 45 "RumourReasonerModel" "thrown" "I") (by decide +kernel)) (fun _ h9 => h9) rfl (by decide +kernel) rfl rfl (Nat.le_of_ble_eq_true rfl) dX1_atom_2 (fun H locs hP hD hS => ?_)
  have hP : va_P D vwCl (wM bd cI cZ cJ (nI 0) n kd fi se sd tr on sy lt ru lg rs) H := hP
  have hD : va_D A (wM bd cI cZ cJ (nI 0) n kd fi se sd tr on sy lt ru lg rs) := hD
  refine lv_iload_n hx hb dX1_atom_5 rfl (lv_at hl 1 rfl) ?_
  refine puI_S (own := RX1) (As := [.int (nI a)]) (rest := []) ⟨hx, hb, hml, hown, hts⟩ (c_X1_isAtom l D (nI a)) gX1_atom_X1_isAtom rfl ⟨rfl, rfl⟩ 1 rfl (by decide +kernel) ⟨Nat.le_of_ble_eq_true rfl, Nat.le_of_ble_eq_true rfl⟩ nilP (hK.sub (tys' := []) [] rfl) hS hl.1 rfl (Nat.le_of_ble_eq_true rfl) dX1_atom_6 ⟨Nat.zero_le _, Nat.zero_le _⟩ (fun H locs hk1 hS => ?_)
  replace hP := keptP hP hk1
  refine tc_int (y := bI true) (by rw [inB_t (by omega) (by omega) (by decide)]) ?_
  refine zF_eq (tgt := 23) hx hb dX1_atom_9 (by decide) (by decide) ?_
  refine lv_aload_n hx hb dX1_atom_12 rfl (lv_at hl 0 rfl) ?_
  refine lv_iconst (v := nI 0) hx hb dX1_atom_13 (by decide) ?_
  refine lv_iload_n hx hb dX1_atom_14 rfl (lv_at hl 1 rfl) ?_
  refine lv_iconst (v := nI 0) hx hb dX1_atom_15 (by decide) ?_
  refine lv_iconst (v := nI 1) hx hb dX1_atom_16 (by decide) ?_
  refine tc_int (y := bI true) (rfl) ?_
  refine muI_V (own := RX1) (As := [.int (nI 0), .int (nI a), .int (nI 0), .int (bI true)]) (rest := []) (C := RX1) (ci := 1) (q0 := 0) (A1 := A) ⟨hx, hb, hml, hown, hts⟩ (c_X1_create l D bd cI cZ cJ (nI 0) n kd fi se sd tr on sy lt ru lg rs 0 a 0 true (by omega)) gX1_atom_X1_create rfl ⟨rfl, rfl⟩ 4 rfl (by decide +kernel) ⟨Nat.le_of_ble_eq_true rfl, Nat.le_of_ble_eq_true rfl⟩ hP hK hD (fun _ h9 => h9) rfl rfl rfl hS hl.1 rfl (Nat.le_of_ble_eq_true rfl) dX1_atom_17 ⟨Nat.zero_le _, Nat.zero_le _⟩ (fun u1 H locs hP hz1 hk1 hS => ?_)
  replace hP : va_P D vwCl (wM bd cI cZ cJ (nI 0) (n + 1) (va_up kd n 0) (va_up fi n a) (va_up se n 0) (va_up sd n true) tr on sy lt ru lg u1) H := hP
  replace hD : va_D A (wM bd cI cZ cJ (nI 0) (n + 1) (va_up kd n 0) (va_up fi n a) (va_up se n 0) (va_up sd n true) tr on sy lt ru lg u1) := sameD2 hD rfl
  refine lv_goto (tgt := 28) hx hb dX1_atom_20 (by decide) ?_
  exact kret _ u1 _ _ _ _ (rfl) hP hS dX1_atom_28

set_option maxHeartbeats 4000000 in
set_option maxRecDepth 100000 in
theorem d_X1_atom_1 (x : Int32) (hx9 : x < 0 ∨ nI 6 ≤ x) : MuI l yX1_atom wsX1_atom rm_X1_atom D vwCl (wM bd cI cZ cJ th n kd fi se sd tr on sy lt ru lg rs) (fun u => wM bd cI cZ cJ (nI 1) n kd fi se sd tr on sy lt ru lg u) (tyC cI cZ cJ) [.ref (bd 0), .int x] (nI 0) := by
  refine MuI.of (cc := cX1_atom) (maxL := 2) (by decide) rfl (Nat.le_of_ble_eq_true rfl) (vp_nar_int _) ?_
  intro A p e s m args below meth c Q ls hx hb hml hown hts hP hK hD kret hl
  have hown : s.vm.findClass RX1 = some m.cls := hown
  have hl : lv_has ls 2 [(0, .ref (bd 0)), (1, .int x)] := hl
  have hS : va_S A s.heap s.heap [] := va_S.rf
  have hin0 : ∀ w ∈ u_ws RX1 TX1 13, w ∈ wsX1_atom := hin_X1_atom
  refine lv_aload_n hx hb dX1_atom_0 rfl (lv_at hl 0 rfl) ?_
  refine lv_iconst (v := nI 0) hx hb dX1_atom_1 (by decide) ?_
  refine va_put (D := D) (ci := 1) (v := .int (nI 0)) (ty := .int) (C := RX1) (T := TX1) (N := 13) hx hb hts hin0 tyX1 tyX1_ok nmX1 hown hK hP hD hS 0 rfl rfl 0 (by decide) (hts (.fieldLink RX1 45 "RumourReasonerModel" "thrown" "I") (by decide +kernel)) (fun _ h9 => h9) rfl (by decide +kernel) rfl rfl (Nat.le_of_ble_eq_true rfl) dX1_atom_2 (fun H locs hP hD hS => ?_)
  have hP : va_P D vwCl (wM bd cI cZ cJ (nI 0) n kd fi se sd tr on sy lt ru lg rs) H := hP
  have hD : va_D A (wM bd cI cZ cJ (nI 0) n kd fi se sd tr on sy lt ru lg rs) := hD
  refine lv_iload_n hx hb dX1_atom_5 rfl (lv_at hl 1 rfl) ?_
  refine puI_S (own := RX1) (As := [.int x]) (rest := []) ⟨hx, hb, hml, hown, hts⟩ (c_X1_isAtom l D x) gX1_atom_X1_isAtom rfl ⟨rfl, rfl⟩ 1 rfl (by decide +kernel) ⟨Nat.le_of_ble_eq_true rfl, Nat.le_of_ble_eq_true rfl⟩ nilP (hK.sub (tys' := []) [] rfl) hS hl.1 rfl (Nat.le_of_ble_eq_true rfl) dX1_atom_6 ⟨Nat.zero_le _, Nat.zero_le _⟩ (fun H locs hk1 hS => ?_)
  replace hP := keptP hP hk1
  refine tc_int (y := bI false) (by rw [inB_bad hx9 (by decide)]) ?_
  refine zT_eq (tgt := 23) hx hb dX1_atom_9 (by decide) (rfl) ?_
  refine lv_aload_n hx hb dX1_atom_23 rfl (lv_at hl 0 rfl) ?_
  refine lv_iconst (v := nI 1) hx hb dX1_atom_24 (by decide) ?_
  refine muI_V (own := RX1) (As := [.int (nI 1)]) (rest := []) (C := RX1) (ci := 1) (q0 := 0) (A1 := A) ⟨hx, hb, hml, hown, hts⟩ (c_X1_no l D bd cI cZ cJ (nI 0) n kd fi se sd tr on sy lt ru lg rs 1) gX1_atom_X1_no rfl ⟨rfl, rfl⟩ 1 rfl (by decide +kernel) ⟨Nat.le_of_ble_eq_true rfl, Nat.le_of_ble_eq_true rfl⟩ hP hK hD (fun _ h9 => h9) rfl rfl rfl hS hl.1 rfl (Nat.le_of_ble_eq_true rfl) dX1_atom_25 ⟨Nat.zero_le _, Nat.zero_le _⟩ (fun u1 H locs hP hz1 hk1 hS => ?_)
  replace hP : va_P D vwCl (wM bd cI cZ cJ (nI 1) n kd fi se sd tr on sy lt ru lg u1) H := hP
  replace hD : va_D A (wM bd cI cZ cJ (nI 1) n kd fi se sd tr on sy lt ru lg u1) := sameD2 hD rfl
  exact kret _ u1 _ _ _ _ (rfl) hP hS dX1_atom_28

set_option maxHeartbeats 4000000 in
set_option maxRecDepth 100000 in
theorem d_X1_atom_2 (a : Nat) (ha : a < 6) (hn40 : n = 40) : MuI l yX1_atom wsX1_atom rm_X1_atom D vwCl (wM bd cI cZ cJ th n kd fi se sd tr on sy lt ru lg rs) (fun u => wM bd cI cZ cJ (nI 2) n kd fi se sd tr on sy lt ru lg u) (tyC cI cZ cJ) [.ref (bd 0), .int (nI a)] (nI 0) := by
  refine MuI.of (cc := cX1_atom) (maxL := 2) (by decide) rfl (Nat.le_of_ble_eq_true rfl) (vp_nar_int _) ?_
  intro A p e s m args below meth c Q ls hx hb hml hown hts hP hK hD kret hl
  have hown : s.vm.findClass RX1 = some m.cls := hown
  have hl : lv_has ls 2 [(0, .ref (bd 0)), (1, .int (nI a))] := hl
  have hS : va_S A s.heap s.heap [] := va_S.rf
  have hin0 : ∀ w ∈ u_ws RX1 TX1 13, w ∈ wsX1_atom := hin_X1_atom
  refine lv_aload_n hx hb dX1_atom_0 rfl (lv_at hl 0 rfl) ?_
  refine lv_iconst (v := nI 0) hx hb dX1_atom_1 (by decide) ?_
  refine va_put (D := D) (ci := 1) (v := .int (nI 0)) (ty := .int) (C := RX1) (T := TX1) (N := 13) hx hb hts hin0 tyX1 tyX1_ok nmX1 hown hK hP hD hS 0 rfl rfl 0 (by decide) (hts (.fieldLink RX1 45 "RumourReasonerModel" "thrown" "I") (by decide +kernel)) (fun _ h9 => h9) rfl (by decide +kernel) rfl rfl (Nat.le_of_ble_eq_true rfl) dX1_atom_2 (fun H locs hP hD hS => ?_)
  have hP : va_P D vwCl (wM bd cI cZ cJ (nI 0) n kd fi se sd tr on sy lt ru lg rs) H := hP
  have hD : va_D A (wM bd cI cZ cJ (nI 0) n kd fi se sd tr on sy lt ru lg rs) := hD
  refine lv_iload_n hx hb dX1_atom_5 rfl (lv_at hl 1 rfl) ?_
  refine puI_S (own := RX1) (As := [.int (nI a)]) (rest := []) ⟨hx, hb, hml, hown, hts⟩ (c_X1_isAtom l D (nI a)) gX1_atom_X1_isAtom rfl ⟨rfl, rfl⟩ 1 rfl (by decide +kernel) ⟨Nat.le_of_ble_eq_true rfl, Nat.le_of_ble_eq_true rfl⟩ nilP (hK.sub (tys' := []) [] rfl) hS hl.1 rfl (Nat.le_of_ble_eq_true rfl) dX1_atom_6 ⟨Nat.zero_le _, Nat.zero_le _⟩ (fun H locs hk1 hS => ?_)
  replace hP := keptP hP hk1
  refine tc_int (y := bI true) (by rw [inB_t (by omega) (by omega) (by decide)]) ?_
  refine zF_eq (tgt := 23) hx hb dX1_atom_9 (by decide) (by decide) ?_
  refine lv_aload_n hx hb dX1_atom_12 rfl (lv_at hl 0 rfl) ?_
  refine lv_iconst (v := nI 0) hx hb dX1_atom_13 (by decide) ?_
  refine lv_iload_n hx hb dX1_atom_14 rfl (lv_at hl 1 rfl) ?_
  refine lv_iconst (v := nI 0) hx hb dX1_atom_15 (by decide) ?_
  refine lv_iconst (v := nI 1) hx hb dX1_atom_16 (by decide) ?_
  refine tc_int (y := bI true) (rfl) ?_
  refine muI_V (own := RX1) (As := [.int (nI 0), .int (nI a), .int (nI 0), .int (bI true)]) (rest := []) (C := RX1) (ci := 1) (q0 := 0) (A1 := A) ⟨hx, hb, hml, hown, hts⟩ (d_X1_create l D bd cI cZ cJ (nI 0) n kd fi se sd tr on sy lt ru lg rs 0 a 0 true 2 hn40 (by decide) (by decide)) gX1_atom_X1_create rfl ⟨rfl, rfl⟩ 4 rfl (by decide +kernel) ⟨Nat.le_of_ble_eq_true rfl, Nat.le_of_ble_eq_true rfl⟩ hP hK hD (fun _ h9 => h9) rfl rfl rfl hS hl.1 rfl (Nat.le_of_ble_eq_true rfl) dX1_atom_17 ⟨Nat.zero_le _, Nat.zero_le _⟩ (fun u1 H locs hP hz1 hk1 hS => ?_)
  replace hP : va_P D vwCl (wM bd cI cZ cJ (nI 2) n kd fi se sd tr on sy lt ru lg u1) H := hP
  replace hD : va_D A (wM bd cI cZ cJ (nI 2) n kd fi se sd tr on sy lt ru lg u1) := sameD2 hD rfl
  refine lv_goto (tgt := 28) hx hb dX1_atom_20 (by decide) ?_
  exact kret _ u1 _ _ _ _ (rfl) hP hS dX1_atom_28

theorem hin_X1_constant : ∀ w ∈ wsX10, w ∈ wsX1_constant := by first | exact fun _ h => List.mem_cons_of_mem _ (List.mem_append_right _ h) | exact fun _ h => List.mem_cons_of_mem _ (List.mem_append_left _ (List.mem_append_right _ h)) | exact fun _ h => List.mem_cons_of_mem _ (List.mem_append_left _ (List.mem_append_left _ (List.mem_append_right _ h))) | exact fun _ h => List.mem_cons_of_mem _ (List.mem_append_left _ (List.mem_append_left _ (List.mem_append_left _ (List.mem_append_right _ h)))) | decide +kernel
def rm_X1_constant : Room := { frames := 2, cells := 0, slots := 0, locals := 45 }
set_option maxHeartbeats 4000000 in
set_option maxRecDepth 100000 in
theorem c_X1_constant (a : Nat) (ha : a < 4) (hn40 : n < 40) : MuI l yX1_constant wsX1_constant rm_X1_constant D vwCl (wM bd cI cZ cJ th n kd fi se sd tr on sy lt ru lg rs) (fun u => wM bd cI cZ cJ (nI 0) (n + 1) (va_up kd n 1) (va_up fi n a) (va_up se n 0) (va_up sd n true) tr on sy lt ru lg u) (tyC cI cZ cJ) [.ref (bd 0), .int (nI a)] (nI n) := by
  refine MuI.of (cc := cX1_constant) (maxL := 2) (by decide) rfl (Nat.le_of_ble_eq_true rfl) (vp_nar_int _) ?_
  intro A p e s m args below meth c Q ls hx hb hml hown hts hP hK hD kret hl
  have hown : s.vm.findClass RX1 = some m.cls := hown
  have hl : lv_has ls 2 [(0, .ref (bd 0)), (1, .int (nI a))] := hl
  have hS : va_S A s.heap s.heap [] := va_S.rf
  have hin0 : ∀ w ∈ u_ws RX1 TX1 13, w ∈ wsX1_constant := hin_X1_constant
  refine lv_aload_n hx hb dX1_constant_0 rfl (lv_at hl 0 rfl) ?_
  refine lv_iconst (v := nI 0) hx hb dX1_constant_1 (by decide) ?_
  refine va_put (D := D) (ci := 1) (v := .int (nI 0)) (ty := .int) (C := RX1) (T := TX1) (N := 13) hx hb hts hin0 tyX1 tyX1_ok nmX1 hown hK hP hD hS 0 rfl rfl 0 (by decide) (hts (.fieldLink RX1 45 "RumourReasonerModel" "thrown" "I") (by decide +kernel)) (fun _ h9 => h9) rfl (by decide +kernel) rfl rfl (Nat.le_of_ble_eq_true rfl) dX1_constant_2 (fun H locs hP hD hS => ?_)
  have hP : va_P D vwCl (wM bd cI cZ cJ (nI 0) n kd fi se sd tr on sy lt ru lg rs) H := hP
  have hD : va_D A (wM bd cI cZ cJ (nI 0) n kd fi se sd tr on sy lt ru lg rs) := hD
  refine lv_iload_n hx hb dX1_constant_5 rfl (lv_at hl 1 rfl) ?_
  refine lv_iconst (v := nI 0) hx hb dX1_constant_6 (by decide) ?_
  refine lv_iconst (v := nI 3) hx hb dX1_constant_7 (by decide) ?_
  refine puI_S (own := RX1) (As := [.int (nI a), .int (nI 0), .int (nI 3)]) (rest := []) ⟨hx, hb, hml, hown, hts⟩ (c_X1_isIn l D (nI a) (nI 0) (nI 3)) gX1_constant_X1_isIn rfl ⟨rfl, rfl⟩ 3 rfl (by decide +kernel) ⟨Nat.le_of_ble_eq_true rfl, Nat.le_of_ble_eq_true rfl⟩ nilP (hK.sub (tys' := []) [] rfl) hS hl.1 rfl (Nat.le_of_ble_eq_true rfl) dX1_constant_8 ⟨Nat.zero_le _, Nat.zero_le _⟩ (fun H locs hk1 hS => ?_)
  replace hP := keptP hP hk1
  refine tc_int (y := bI true) (by rw [inB_t (by omega) (by omega) (by decide)]) ?_
  refine zF_eq (tgt := 25) hx hb dX1_constant_11 (by decide) (by decide) ?_
  refine lv_aload_n hx hb dX1_constant_14 rfl (lv_at hl 0 rfl) ?_
  refine lv_iconst (v := nI 1) hx hb dX1_constant_15 (by decide) ?_
  refine lv_iload_n hx hb dX1_constant_16 rfl (lv_at hl 1 rfl) ?_
  refine lv_iconst (v := nI 0) hx hb dX1_constant_17 (by decide) ?_
  refine lv_iconst (v := nI 1) hx hb dX1_constant_18 (by decide) ?_
  refine tc_int (y := bI true) (rfl) ?_
  refine muI_V (own := RX1) (As := [.int (nI 1), .int (nI a), .int (nI 0), .int (bI true)]) (rest := []) (C := RX1) (ci := 1) (q0 := 0) (A1 := A) ⟨hx, hb, hml, hown, hts⟩ (c_X1_create l D bd cI cZ cJ (nI 0) n kd fi se sd tr on sy lt ru lg rs 1 a 0 true (by omega)) gX1_constant_X1_create rfl ⟨rfl, rfl⟩ 4 rfl (by decide +kernel) ⟨Nat.le_of_ble_eq_true rfl, Nat.le_of_ble_eq_true rfl⟩ hP hK hD (fun _ h9 => h9) rfl rfl rfl hS hl.1 rfl (Nat.le_of_ble_eq_true rfl) dX1_constant_19 ⟨Nat.zero_le _, Nat.zero_le _⟩ (fun u1 H locs hP hz1 hk1 hS => ?_)
  replace hP : va_P D vwCl (wM bd cI cZ cJ (nI 0) (n + 1) (va_up kd n 1) (va_up fi n a) (va_up se n 0) (va_up sd n true) tr on sy lt ru lg u1) H := hP
  replace hD : va_D A (wM bd cI cZ cJ (nI 0) (n + 1) (va_up kd n 1) (va_up fi n a) (va_up se n 0) (va_up sd n true) tr on sy lt ru lg u1) := sameD2 hD rfl
  refine lv_goto (tgt := 30) hx hb dX1_constant_22 (by decide) ?_
  exact kret _ u1 _ _ _ _ (rfl) hP hS dX1_constant_30

set_option maxHeartbeats 4000000 in
set_option maxRecDepth 100000 in
theorem d_X1_constant_1 (x : Int32) (hx9 : x < 0 ∨ nI 4 ≤ x) : MuI l yX1_constant wsX1_constant rm_X1_constant D vwCl (wM bd cI cZ cJ th n kd fi se sd tr on sy lt ru lg rs) (fun u => wM bd cI cZ cJ (nI 1) n kd fi se sd tr on sy lt ru lg u) (tyC cI cZ cJ) [.ref (bd 0), .int x] (nI 0) := by
  refine MuI.of (cc := cX1_constant) (maxL := 2) (by decide) rfl (Nat.le_of_ble_eq_true rfl) (vp_nar_int _) ?_
  intro A p e s m args below meth c Q ls hx hb hml hown hts hP hK hD kret hl
  have hown : s.vm.findClass RX1 = some m.cls := hown
  have hl : lv_has ls 2 [(0, .ref (bd 0)), (1, .int x)] := hl
  have hS : va_S A s.heap s.heap [] := va_S.rf
  have hin0 : ∀ w ∈ u_ws RX1 TX1 13, w ∈ wsX1_constant := hin_X1_constant
  refine lv_aload_n hx hb dX1_constant_0 rfl (lv_at hl 0 rfl) ?_
  refine lv_iconst (v := nI 0) hx hb dX1_constant_1 (by decide) ?_
  refine va_put (D := D) (ci := 1) (v := .int (nI 0)) (ty := .int) (C := RX1) (T := TX1) (N := 13) hx hb hts hin0 tyX1 tyX1_ok nmX1 hown hK hP hD hS 0 rfl rfl 0 (by decide) (hts (.fieldLink RX1 45 "RumourReasonerModel" "thrown" "I") (by decide +kernel)) (fun _ h9 => h9) rfl (by decide +kernel) rfl rfl (Nat.le_of_ble_eq_true rfl) dX1_constant_2 (fun H locs hP hD hS => ?_)
  have hP : va_P D vwCl (wM bd cI cZ cJ (nI 0) n kd fi se sd tr on sy lt ru lg rs) H := hP
  have hD : va_D A (wM bd cI cZ cJ (nI 0) n kd fi se sd tr on sy lt ru lg rs) := hD
  refine lv_iload_n hx hb dX1_constant_5 rfl (lv_at hl 1 rfl) ?_
  refine lv_iconst (v := nI 0) hx hb dX1_constant_6 (by decide) ?_
  refine lv_iconst (v := nI 3) hx hb dX1_constant_7 (by decide) ?_
  refine puI_S (own := RX1) (As := [.int x, .int (nI 0), .int (nI 3)]) (rest := []) ⟨hx, hb, hml, hown, hts⟩ (c_X1_isIn l D x (nI 0) (nI 3)) gX1_constant_X1_isIn rfl ⟨rfl, rfl⟩ 3 rfl (by decide +kernel) ⟨Nat.le_of_ble_eq_true rfl, Nat.le_of_ble_eq_true rfl⟩ nilP (hK.sub (tys' := []) [] rfl) hS hl.1 rfl (Nat.le_of_ble_eq_true rfl) dX1_constant_8 ⟨Nat.zero_le _, Nat.zero_le _⟩ (fun H locs hk1 hS => ?_)
  replace hP := keptP hP hk1
  refine tc_int (y := bI false) (by rw [inB_bad hx9 (by decide)]) ?_
  refine zT_eq (tgt := 25) hx hb dX1_constant_11 (by decide) (rfl) ?_
  refine lv_aload_n hx hb dX1_constant_25 rfl (lv_at hl 0 rfl) ?_
  refine lv_iconst (v := nI 1) hx hb dX1_constant_26 (by decide) ?_
  refine muI_V (own := RX1) (As := [.int (nI 1)]) (rest := []) (C := RX1) (ci := 1) (q0 := 0) (A1 := A) ⟨hx, hb, hml, hown, hts⟩ (c_X1_no l D bd cI cZ cJ (nI 0) n kd fi se sd tr on sy lt ru lg rs 1) gX1_constant_X1_no rfl ⟨rfl, rfl⟩ 1 rfl (by decide +kernel) ⟨Nat.le_of_ble_eq_true rfl, Nat.le_of_ble_eq_true rfl⟩ hP hK hD (fun _ h9 => h9) rfl rfl rfl hS hl.1 rfl (Nat.le_of_ble_eq_true rfl) dX1_constant_27 ⟨Nat.zero_le _, Nat.zero_le _⟩ (fun u1 H locs hP hz1 hk1 hS => ?_)
  replace hP : va_P D vwCl (wM bd cI cZ cJ (nI 1) n kd fi se sd tr on sy lt ru lg u1) H := hP
  replace hD : va_D A (wM bd cI cZ cJ (nI 1) n kd fi se sd tr on sy lt ru lg u1) := sameD2 hD rfl
  exact kret _ u1 _ _ _ _ (rfl) hP hS dX1_constant_30

set_option maxHeartbeats 4000000 in
set_option maxRecDepth 100000 in
theorem d_X1_constant_2 (a : Nat) (ha : a < 4) (hn40 : n = 40) : MuI l yX1_constant wsX1_constant rm_X1_constant D vwCl (wM bd cI cZ cJ th n kd fi se sd tr on sy lt ru lg rs) (fun u => wM bd cI cZ cJ (nI 2) n kd fi se sd tr on sy lt ru lg u) (tyC cI cZ cJ) [.ref (bd 0), .int (nI a)] (nI 0) := by
  refine MuI.of (cc := cX1_constant) (maxL := 2) (by decide) rfl (Nat.le_of_ble_eq_true rfl) (vp_nar_int _) ?_
  intro A p e s m args below meth c Q ls hx hb hml hown hts hP hK hD kret hl
  have hown : s.vm.findClass RX1 = some m.cls := hown
  have hl : lv_has ls 2 [(0, .ref (bd 0)), (1, .int (nI a))] := hl
  have hS : va_S A s.heap s.heap [] := va_S.rf
  have hin0 : ∀ w ∈ u_ws RX1 TX1 13, w ∈ wsX1_constant := hin_X1_constant
  refine lv_aload_n hx hb dX1_constant_0 rfl (lv_at hl 0 rfl) ?_
  refine lv_iconst (v := nI 0) hx hb dX1_constant_1 (by decide) ?_
  refine va_put (D := D) (ci := 1) (v := .int (nI 0)) (ty := .int) (C := RX1) (T := TX1) (N := 13) hx hb hts hin0 tyX1 tyX1_ok nmX1 hown hK hP hD hS 0 rfl rfl 0 (by decide) (hts (.fieldLink RX1 45 "RumourReasonerModel" "thrown" "I") (by decide +kernel)) (fun _ h9 => h9) rfl (by decide +kernel) rfl rfl (Nat.le_of_ble_eq_true rfl) dX1_constant_2 (fun H locs hP hD hS => ?_)
  have hP : va_P D vwCl (wM bd cI cZ cJ (nI 0) n kd fi se sd tr on sy lt ru lg rs) H := hP
  have hD : va_D A (wM bd cI cZ cJ (nI 0) n kd fi se sd tr on sy lt ru lg rs) := hD
  refine lv_iload_n hx hb dX1_constant_5 rfl (lv_at hl 1 rfl) ?_
  refine lv_iconst (v := nI 0) hx hb dX1_constant_6 (by decide) ?_
  refine lv_iconst (v := nI 3) hx hb dX1_constant_7 (by decide) ?_
  refine puI_S (own := RX1) (As := [.int (nI a), .int (nI 0), .int (nI 3)]) (rest := []) ⟨hx, hb, hml, hown, hts⟩ (c_X1_isIn l D (nI a) (nI 0) (nI 3)) gX1_constant_X1_isIn rfl ⟨rfl, rfl⟩ 3 rfl (by decide +kernel) ⟨Nat.le_of_ble_eq_true rfl, Nat.le_of_ble_eq_true rfl⟩ nilP (hK.sub (tys' := []) [] rfl) hS hl.1 rfl (Nat.le_of_ble_eq_true rfl) dX1_constant_8 ⟨Nat.zero_le _, Nat.zero_le _⟩ (fun H locs hk1 hS => ?_)
  replace hP := keptP hP hk1
  refine tc_int (y := bI true) (by rw [inB_t (by omega) (by omega) (by decide)]) ?_
  refine zF_eq (tgt := 25) hx hb dX1_constant_11 (by decide) (by decide) ?_
  refine lv_aload_n hx hb dX1_constant_14 rfl (lv_at hl 0 rfl) ?_
  refine lv_iconst (v := nI 1) hx hb dX1_constant_15 (by decide) ?_
  refine lv_iload_n hx hb dX1_constant_16 rfl (lv_at hl 1 rfl) ?_
  refine lv_iconst (v := nI 0) hx hb dX1_constant_17 (by decide) ?_
  refine lv_iconst (v := nI 1) hx hb dX1_constant_18 (by decide) ?_
  refine tc_int (y := bI true) (rfl) ?_
  refine muI_V (own := RX1) (As := [.int (nI 1), .int (nI a), .int (nI 0), .int (bI true)]) (rest := []) (C := RX1) (ci := 1) (q0 := 0) (A1 := A) ⟨hx, hb, hml, hown, hts⟩ (d_X1_create l D bd cI cZ cJ (nI 0) n kd fi se sd tr on sy lt ru lg rs 1 a 0 true 2 hn40 (by decide) (by decide)) gX1_constant_X1_create rfl ⟨rfl, rfl⟩ 4 rfl (by decide +kernel) ⟨Nat.le_of_ble_eq_true rfl, Nat.le_of_ble_eq_true rfl⟩ hP hK hD (fun _ h9 => h9) rfl rfl rfl hS hl.1 rfl (Nat.le_of_ble_eq_true rfl) dX1_constant_19 ⟨Nat.zero_le _, Nat.zero_le _⟩ (fun u1 H locs hP hz1 hk1 hS => ?_)
  replace hP : va_P D vwCl (wM bd cI cZ cJ (nI 2) n kd fi se sd tr on sy lt ru lg u1) H := hP
  replace hD : va_D A (wM bd cI cZ cJ (nI 2) n kd fi se sd tr on sy lt ru lg u1) := sameD2 hD rfl
  refine lv_goto (tgt := 30) hx hb dX1_constant_22 (by decide) ?_
  exact kret _ u1 _ _ _ _ (rfl) hP hS dX1_constant_30

theorem hin_X1_turn : ∀ w ∈ wsX10, w ∈ wsX1_turn := by first | exact fun _ h => List.mem_cons_of_mem _ (List.mem_append_right _ h) | exact fun _ h => List.mem_cons_of_mem _ (List.mem_append_left _ (List.mem_append_right _ h)) | exact fun _ h => List.mem_cons_of_mem _ (List.mem_append_left _ (List.mem_append_left _ (List.mem_append_right _ h))) | exact fun _ h => List.mem_cons_of_mem _ (List.mem_append_left _ (List.mem_append_left _ (List.mem_append_left _ (List.mem_append_right _ h)))) | decide +kernel
def rm_X1_turn : Room := { frames := 2, cells := 0, slots := 0, locals := 45 }
set_option maxHeartbeats 4000000 in
set_option maxRecDepth 100000 in
theorem c_X1_turn_2 (hM : OKM n kd fi se tr sy lt lg ru) (a : Nat) (ha : a < n) (hn40 : n < 40) : MuI l yX1_turn wsX1_turn rm_X1_turn D vwCl (wM bd cI cZ cJ th n kd fi se sd tr on sy lt ru lg rs) (fun u => wM bd cI cZ cJ (nI 0) (n + 1) (va_up kd n 2) (va_up fi n a) (va_up se n 0) (va_up sd n (sd a)) tr on sy lt ru lg u) (tyC cI cZ cJ) [.ref (bd 0), .int (nI 2), .int (nI a)] (nI n) := by
  refine MuI.of (cc := cX1_turn) (maxL := 3) (by decide) rfl (Nat.le_of_ble_eq_true rfl) (vp_nar_int _) ?_
  intro A p e s m args below meth c Q ls hx hb hml hown hts hP hK hD kret hl
  have hown : s.vm.findClass RX1 = some m.cls := hown
  have hl : lv_has ls 3 [(0, .ref (bd 0)), (1, .int (nI 2)), (2, .int (nI a))] := hl
  have hS : va_S A s.heap s.heap [] := va_S.rf
  have hin0 : ∀ w ∈ u_ws RX1 TX1 13, w ∈ wsX1_turn := hin_X1_turn
  have hn41 := hM.1
  refine lv_aload_n hx hb dX1_turn_0 rfl (lv_at hl 0 rfl) ?_
  refine lv_iconst (v := nI 0) hx hb dX1_turn_1 (by decide) ?_
  refine va_put (D := D) (ci := 1) (v := .int (nI 0)) (ty := .int) (C := RX1) (T := TX1) (N := 13) hx hb hts hin0 tyX1 tyX1_ok nmX1 hown hK hP hD hS 0 rfl rfl 0 (by decide) (hts (.fieldLink RX1 45 "RumourReasonerModel" "thrown" "I") (by decide +kernel)) (fun _ h9 => h9) rfl (by decide +kernel) rfl rfl (Nat.le_of_ble_eq_true rfl) dX1_turn_2 (fun H locs hP hD hS => ?_)
  have hP : va_P D vwCl (wM bd cI cZ cJ (nI 0) n kd fi se sd tr on sy lt ru lg rs) H := hP
  have hD : va_D A (wM bd cI cZ cJ (nI 0) n kd fi se sd tr on sy lt ru lg rs) := hD
  refine lv_aload_n hx hb dX1_turn_5 rfl (lv_at hl 0 rfl) ?_
  refine lv_iload_n hx hb dX1_turn_6 rfl (lv_at hl 2 rfl) ?_
  refine puI_V (own := RX1) (As := [.int (nI a)]) (rest := []) (C := RX1) (ci := 1) (q0 := 0) ⟨hx, hb, hml, hown, hts⟩ (c_X1_isFormula l D bd cI cZ cJ (nI 0) n kd fi se sd tr on sy lt ru lg rs (nI a)) gX1_turn_X1_isFormula rfl ⟨rfl, rfl⟩ 1 rfl (by decide +kernel) ⟨Nat.le_of_ble_eq_true rfl, Nat.le_of_ble_eq_true rfl⟩ hP hK rfl rfl rfl hS hl.1 rfl (Nat.le_of_ble_eq_true rfl) dX1_turn_7 ⟨Nat.zero_le _, Nat.zero_le _⟩ (fun H locs hk1 hS => ?_)
  replace hP := keptP hP hk1
  refine tc_int (y := bI true) (by rw [isF_t ha hM.1]) ?_
  refine zT_ne (tgt := 19) hx hb dX1_turn_10 (by decide) (by decide) ?_
  refine lv_iload_n hx hb dX1_turn_19 rfl (lv_at hl 1 rfl) ?_
  refine lv_iconst (v := nI 2) hx hb dX1_turn_20 (by decide) ?_
  refine cT_eq (tgt := 30) hx hb dX1_turn_21 (by decide) (rfl) ?_
  refine lv_aload_n hx hb dX1_turn_30 rfl (lv_at hl 0 rfl) ?_
  refine lv_iload_n hx hb dX1_turn_31 rfl (lv_at hl 1 rfl) ?_
  refine lv_iload_n hx hb dX1_turn_32 rfl (lv_at hl 2 rfl) ?_
  refine lv_iconst (v := nI 0) hx hb dX1_turn_33 (by decide) ?_
  refine lv_iload_n hx hb dX1_turn_34 rfl (lv_at hl 1 rfl) ?_
  refine lv_iconst (v := nI 2) hx hb dX1_turn_35 (by decide) ?_
  refine cF_ne (tgt := 52) hx hb dX1_turn_36 (by decide) (rfl) ?_
  refine lv_aload_n hx hb dX1_turn_39 rfl (lv_at hl 0 rfl) ?_
  refine va_get (D := D) (ci := 1) (v := .ref (bd 4)) (C := RX1) (T := TX1) (N := 13) hx hb hts hin0 hown hK hP 0 rfl rfl 5 (by decide) (hts (.fieldLink RX1 19 "RumourReasonerModel" "areSteady" "[Z") (by decide +kernel)) (fun _ h9 => h9) rfl dX1_turn_40 ?_
  refine lv_iload_n hx hb dX1_turn_43 rfl (lv_at hl 2 rfl) ?_
  refine ld_nz hx hb hK hP 4 1 rfl rfl (j := a) (by omega) (by decide) dX1_turn_44 ?_
  refine lv_if_eq (tgt := 52) hx hb dX1_turn_45 (by decide) (fun c_1 => ?_) (fun c_1 => ?_)
  · have e_45 := bI_0 c_1
    refine lv_iconst (v := nI 0) hx hb dX1_turn_52 (by decide) ?_
    refine tc_int (y := bI (sd a)) (by rw [e_45]; rfl) ?_
    refine muI_V (own := RX1) (As := [.int (nI 2), .int (nI a), .int (nI 0), .int (bI (sd a))]) (rest := []) (C := RX1) (ci := 1) (q0 := 0) (A1 := A) ⟨hx, hb, hml, hown, hts⟩ (c_X1_create l D bd cI cZ cJ (nI 0) n kd fi se sd tr on sy lt ru lg rs 2 a 0 (sd a) (by omega)) gX1_turn_X1_create rfl ⟨rfl, rfl⟩ 4 rfl (by decide +kernel) ⟨Nat.le_of_ble_eq_true rfl, Nat.le_of_ble_eq_true rfl⟩ hP hK hD (fun _ h9 => h9) rfl rfl rfl hS hl.1 rfl (Nat.le_of_ble_eq_true rfl) dX1_turn_53 ⟨Nat.zero_le _, Nat.zero_le _⟩ (fun u2 H locs hP hz1 hk1 hS => ?_)
    replace hP : va_P D vwCl (wM bd cI cZ cJ (nI 0) (n + 1) (va_up kd n 2) (va_up fi n a) (va_up se n 0) (va_up sd n (sd a)) tr on sy lt ru lg u2) H := hP
    replace hD : va_D A (wM bd cI cZ cJ (nI 0) (n + 1) (va_up kd n 2) (va_up fi n a) (va_up se n 0) (va_up sd n (sd a)) tr on sy lt ru lg u2) := sameD2 hD rfl
    refine lv_goto (tgt := 64) hx hb dX1_turn_56 (by decide) ?_
    exact kret _ u2 _ _ _ _ (rfl) hP hS dX1_turn_64
  · have e_45 := bI_1 c_1
    refine lv_iconst (v := nI 1) hx hb dX1_turn_48 (by decide) ?_
    refine tc_int (y := bI (sd a)) (by rw [e_45]; rfl) ?_
    refine lv_goto (tgt := 53) hx hb dX1_turn_49 (by decide) ?_
    refine muI_V (own := RX1) (As := [.int (nI 2), .int (nI a), .int (nI 0), .int (bI (sd a))]) (rest := []) (C := RX1) (ci := 1) (q0 := 0) (A1 := A) ⟨hx, hb, hml, hown, hts⟩ (c_X1_create l D bd cI cZ cJ (nI 0) n kd fi se sd tr on sy lt ru lg rs 2 a 0 (sd a) (by omega)) gX1_turn_X1_create rfl ⟨rfl, rfl⟩ 4 rfl (by decide +kernel) ⟨Nat.le_of_ble_eq_true rfl, Nat.le_of_ble_eq_true rfl⟩ hP hK hD (fun _ h9 => h9) rfl rfl rfl hS hl.1 rfl (Nat.le_of_ble_eq_true rfl) dX1_turn_53 ⟨Nat.zero_le _, Nat.zero_le _⟩ (fun u3 H locs hP hz1 hk1 hS => ?_)
    replace hP : va_P D vwCl (wM bd cI cZ cJ (nI 0) (n + 1) (va_up kd n 2) (va_up fi n a) (va_up se n 0) (va_up sd n (sd a)) tr on sy lt ru lg u3) H := hP
    replace hD : va_D A (wM bd cI cZ cJ (nI 0) (n + 1) (va_up kd n 2) (va_up fi n a) (va_up se n 0) (va_up sd n (sd a)) tr on sy lt ru lg u3) := sameD2 hD rfl
    refine lv_goto (tgt := 64) hx hb dX1_turn_56 (by decide) ?_
    exact kret _ u3 _ _ _ _ (rfl) hP hS dX1_turn_64

set_option maxHeartbeats 4000000 in
set_option maxRecDepth 100000 in
theorem d_X1_turn_3_2 (hM : OKM n kd fi se tr sy lt lg ru) (a : Nat) (ha : a < n) (hn40 : n = 40) : MuI l yX1_turn wsX1_turn rm_X1_turn D vwCl (wM bd cI cZ cJ th n kd fi se sd tr on sy lt ru lg rs) (fun u => wM bd cI cZ cJ (nI 3) n kd fi se sd tr on sy lt ru lg u) (tyC cI cZ cJ) [.ref (bd 0), .int (nI 2), .int (nI a)] (nI 0) := by
  refine MuI.of (cc := cX1_turn) (maxL := 3) (by decide) rfl (Nat.le_of_ble_eq_true rfl) (vp_nar_int _) ?_
  intro A p e s m args below meth c Q ls hx hb hml hown hts hP hK hD kret hl
  have hown : s.vm.findClass RX1 = some m.cls := hown
  have hl : lv_has ls 3 [(0, .ref (bd 0)), (1, .int (nI 2)), (2, .int (nI a))] := hl
  have hS : va_S A s.heap s.heap [] := va_S.rf
  have hin0 : ∀ w ∈ u_ws RX1 TX1 13, w ∈ wsX1_turn := hin_X1_turn
  have hn41 := hM.1
  refine lv_aload_n hx hb dX1_turn_0 rfl (lv_at hl 0 rfl) ?_
  refine lv_iconst (v := nI 0) hx hb dX1_turn_1 (by decide) ?_
  refine va_put (D := D) (ci := 1) (v := .int (nI 0)) (ty := .int) (C := RX1) (T := TX1) (N := 13) hx hb hts hin0 tyX1 tyX1_ok nmX1 hown hK hP hD hS 0 rfl rfl 0 (by decide) (hts (.fieldLink RX1 45 "RumourReasonerModel" "thrown" "I") (by decide +kernel)) (fun _ h9 => h9) rfl (by decide +kernel) rfl rfl (Nat.le_of_ble_eq_true rfl) dX1_turn_2 (fun H locs hP hD hS => ?_)
  have hP : va_P D vwCl (wM bd cI cZ cJ (nI 0) n kd fi se sd tr on sy lt ru lg rs) H := hP
  have hD : va_D A (wM bd cI cZ cJ (nI 0) n kd fi se sd tr on sy lt ru lg rs) := hD
  refine lv_aload_n hx hb dX1_turn_5 rfl (lv_at hl 0 rfl) ?_
  refine lv_iload_n hx hb dX1_turn_6 rfl (lv_at hl 2 rfl) ?_
  refine puI_V (own := RX1) (As := [.int (nI a)]) (rest := []) (C := RX1) (ci := 1) (q0 := 0) ⟨hx, hb, hml, hown, hts⟩ (c_X1_isFormula l D bd cI cZ cJ (nI 0) n kd fi se sd tr on sy lt ru lg rs (nI a)) gX1_turn_X1_isFormula rfl ⟨rfl, rfl⟩ 1 rfl (by decide +kernel) ⟨Nat.le_of_ble_eq_true rfl, Nat.le_of_ble_eq_true rfl⟩ hP hK rfl rfl rfl hS hl.1 rfl (Nat.le_of_ble_eq_true rfl) dX1_turn_7 ⟨Nat.zero_le _, Nat.zero_le _⟩ (fun H locs hk1 hS => ?_)
  replace hP := keptP hP hk1
  refine tc_int (y := bI true) (by rw [isF_t ha hM.1]) ?_
  refine zT_ne (tgt := 19) hx hb dX1_turn_10 (by decide) (by decide) ?_
  refine lv_iload_n hx hb dX1_turn_19 rfl (lv_at hl 1 rfl) ?_
  refine lv_iconst (v := nI 2) hx hb dX1_turn_20 (by decide) ?_
  refine cT_eq (tgt := 30) hx hb dX1_turn_21 (by decide) (rfl) ?_
  refine lv_aload_n hx hb dX1_turn_30 rfl (lv_at hl 0 rfl) ?_
  refine lv_iload_n hx hb dX1_turn_31 rfl (lv_at hl 1 rfl) ?_
  refine lv_iload_n hx hb dX1_turn_32 rfl (lv_at hl 2 rfl) ?_
  refine lv_iconst (v := nI 0) hx hb dX1_turn_33 (by decide) ?_
  refine lv_iload_n hx hb dX1_turn_34 rfl (lv_at hl 1 rfl) ?_
  refine lv_iconst (v := nI 2) hx hb dX1_turn_35 (by decide) ?_
  refine cF_ne (tgt := 52) hx hb dX1_turn_36 (by decide) (rfl) ?_
  refine lv_aload_n hx hb dX1_turn_39 rfl (lv_at hl 0 rfl) ?_
  refine va_get (D := D) (ci := 1) (v := .ref (bd 4)) (C := RX1) (T := TX1) (N := 13) hx hb hts hin0 hown hK hP 0 rfl rfl 5 (by decide) (hts (.fieldLink RX1 19 "RumourReasonerModel" "areSteady" "[Z") (by decide +kernel)) (fun _ h9 => h9) rfl dX1_turn_40 ?_
  refine lv_iload_n hx hb dX1_turn_43 rfl (lv_at hl 2 rfl) ?_
  refine ld_nz hx hb hK hP 4 1 rfl rfl (j := a) (by omega) (by decide) dX1_turn_44 ?_
  refine lv_if_eq (tgt := 52) hx hb dX1_turn_45 (by decide) (fun c_1 => ?_) (fun c_1 => ?_)
  · have e_45 := bI_0 c_1
    refine lv_iconst (v := nI 0) hx hb dX1_turn_52 (by decide) ?_
    refine tc_int (y := bI (sd a)) (by rw [e_45]; rfl) ?_
    refine muI_V (own := RX1) (As := [.int (nI 2), .int (nI a), .int (nI 0), .int (bI (sd a))]) (rest := []) (C := RX1) (ci := 1) (q0 := 0) (A1 := A) ⟨hx, hb, hml, hown, hts⟩ (d_X1_create l D bd cI cZ cJ (nI 0) n kd fi se sd tr on sy lt ru lg rs 2 a 0 (sd a) 3 hn40 (by decide) (by decide)) gX1_turn_X1_create rfl ⟨rfl, rfl⟩ 4 rfl (by decide +kernel) ⟨Nat.le_of_ble_eq_true rfl, Nat.le_of_ble_eq_true rfl⟩ hP hK hD (fun _ h9 => h9) rfl rfl rfl hS hl.1 rfl (Nat.le_of_ble_eq_true rfl) dX1_turn_53 ⟨Nat.zero_le _, Nat.zero_le _⟩ (fun u2 H locs hP hz1 hk1 hS => ?_)
    replace hP : va_P D vwCl (wM bd cI cZ cJ (nI 3) n kd fi se sd tr on sy lt ru lg u2) H := hP
    replace hD : va_D A (wM bd cI cZ cJ (nI 3) n kd fi se sd tr on sy lt ru lg u2) := sameD2 hD rfl
    refine lv_goto (tgt := 64) hx hb dX1_turn_56 (by decide) ?_
    exact kret _ u2 _ _ _ _ (rfl) hP hS dX1_turn_64
  · have e_45 := bI_1 c_1
    refine lv_iconst (v := nI 1) hx hb dX1_turn_48 (by decide) ?_
    refine tc_int (y := bI (sd a)) (by rw [e_45]; rfl) ?_
    refine lv_goto (tgt := 53) hx hb dX1_turn_49 (by decide) ?_
    refine muI_V (own := RX1) (As := [.int (nI 2), .int (nI a), .int (nI 0), .int (bI (sd a))]) (rest := []) (C := RX1) (ci := 1) (q0 := 0) (A1 := A) ⟨hx, hb, hml, hown, hts⟩ (d_X1_create l D bd cI cZ cJ (nI 0) n kd fi se sd tr on sy lt ru lg rs 2 a 0 (sd a) 3 hn40 (by decide) (by decide)) gX1_turn_X1_create rfl ⟨rfl, rfl⟩ 4 rfl (by decide +kernel) ⟨Nat.le_of_ble_eq_true rfl, Nat.le_of_ble_eq_true rfl⟩ hP hK hD (fun _ h9 => h9) rfl rfl rfl hS hl.1 rfl (Nat.le_of_ble_eq_true rfl) dX1_turn_53 ⟨Nat.zero_le _, Nat.zero_le _⟩ (fun u3 H locs hP hz1 hk1 hS => ?_)
    replace hP : va_P D vwCl (wM bd cI cZ cJ (nI 3) n kd fi se sd tr on sy lt ru lg u3) H := hP
    replace hD : va_D A (wM bd cI cZ cJ (nI 3) n kd fi se sd tr on sy lt ru lg u3) := sameD2 hD rfl
    refine lv_goto (tgt := 64) hx hb dX1_turn_56 (by decide) ?_
    exact kret _ u3 _ _ _ _ (rfl) hP hS dX1_turn_64

set_option maxHeartbeats 4000000 in
set_option maxRecDepth 100000 in
theorem c_X1_turn_8 (hM : OKM n kd fi se tr sy lt lg ru) (a : Nat) (ha : a < n) (hn40 : n < 40) : MuI l yX1_turn wsX1_turn rm_X1_turn D vwCl (wM bd cI cZ cJ th n kd fi se sd tr on sy lt ru lg rs) (fun u => wM bd cI cZ cJ (nI 0) (n + 1) (va_up kd n 8) (va_up fi n a) (va_up se n 0) (va_up sd n false) tr on sy lt ru lg u) (tyC cI cZ cJ) [.ref (bd 0), .int (nI 8), .int (nI a)] (nI n) := by
  refine MuI.of (cc := cX1_turn) (maxL := 3) (by decide) rfl (Nat.le_of_ble_eq_true rfl) (vp_nar_int _) ?_
  intro A p e s m args below meth c Q ls hx hb hml hown hts hP hK hD kret hl
  have hown : s.vm.findClass RX1 = some m.cls := hown
  have hl : lv_has ls 3 [(0, .ref (bd 0)), (1, .int (nI 8)), (2, .int (nI a))] := hl
  have hS : va_S A s.heap s.heap [] := va_S.rf
  have hin0 : ∀ w ∈ u_ws RX1 TX1 13, w ∈ wsX1_turn := hin_X1_turn
  have hn41 := hM.1
  refine lv_aload_n hx hb dX1_turn_0 rfl (lv_at hl 0 rfl) ?_
  refine lv_iconst (v := nI 0) hx hb dX1_turn_1 (by decide) ?_
  refine va_put (D := D) (ci := 1) (v := .int (nI 0)) (ty := .int) (C := RX1) (T := TX1) (N := 13) hx hb hts hin0 tyX1 tyX1_ok nmX1 hown hK hP hD hS 0 rfl rfl 0 (by decide) (hts (.fieldLink RX1 45 "RumourReasonerModel" "thrown" "I") (by decide +kernel)) (fun _ h9 => h9) rfl (by decide +kernel) rfl rfl (Nat.le_of_ble_eq_true rfl) dX1_turn_2 (fun H locs hP hD hS => ?_)
  have hP : va_P D vwCl (wM bd cI cZ cJ (nI 0) n kd fi se sd tr on sy lt ru lg rs) H := hP
  have hD : va_D A (wM bd cI cZ cJ (nI 0) n kd fi se sd tr on sy lt ru lg rs) := hD
  refine lv_aload_n hx hb dX1_turn_5 rfl (lv_at hl 0 rfl) ?_
  refine lv_iload_n hx hb dX1_turn_6 rfl (lv_at hl 2 rfl) ?_
  refine puI_V (own := RX1) (As := [.int (nI a)]) (rest := []) (C := RX1) (ci := 1) (q0 := 0) ⟨hx, hb, hml, hown, hts⟩ (c_X1_isFormula l D bd cI cZ cJ (nI 0) n kd fi se sd tr on sy lt ru lg rs (nI a)) gX1_turn_X1_isFormula rfl ⟨rfl, rfl⟩ 1 rfl (by decide +kernel) ⟨Nat.le_of_ble_eq_true rfl, Nat.le_of_ble_eq_true rfl⟩ hP hK rfl rfl rfl hS hl.1 rfl (Nat.le_of_ble_eq_true rfl) dX1_turn_7 ⟨Nat.zero_le _, Nat.zero_le _⟩ (fun H locs hk1 hS => ?_)
  replace hP := keptP hP hk1
  refine tc_int (y := bI true) (by rw [isF_t ha hM.1]) ?_
  refine zT_ne (tgt := 19) hx hb dX1_turn_10 (by decide) (by decide) ?_
  refine lv_iload_n hx hb dX1_turn_19 rfl (lv_at hl 1 rfl) ?_
  refine lv_iconst (v := nI 2) hx hb dX1_turn_20 (by decide) ?_
  refine cF_eq (tgt := 30) hx hb dX1_turn_21 (by decide) (by decide) ?_
  refine lv_iload_n hx hb dX1_turn_24 rfl (lv_at hl 1 rfl) ?_
  refine lv_bipush (v := nI 8) hx hb dX1_turn_25 (by decide) ?_
  refine cF_ne (tgt := 59) hx hb dX1_turn_27 (by decide) (rfl) ?_
  refine lv_aload_n hx hb dX1_turn_30 rfl (lv_at hl 0 rfl) ?_
  refine lv_iload_n hx hb dX1_turn_31 rfl (lv_at hl 1 rfl) ?_
  refine lv_iload_n hx hb dX1_turn_32 rfl (lv_at hl 2 rfl) ?_
  refine lv_iconst (v := nI 0) hx hb dX1_turn_33 (by decide) ?_
  refine lv_iload_n hx hb dX1_turn_34 rfl (lv_at hl 1 rfl) ?_
  refine lv_iconst (v := nI 2) hx hb dX1_turn_35 (by decide) ?_
  refine cT_ne (tgt := 52) hx hb dX1_turn_36 (by decide) (by decide) ?_
  refine lv_iconst (v := nI 0) hx hb dX1_turn_52 (by decide) ?_
  refine tc_int (y := bI false) (rfl) ?_
  refine muI_V (own := RX1) (As := [.int (nI 8), .int (nI a), .int (nI 0), .int (bI false)]) (rest := []) (C := RX1) (ci := 1) (q0 := 0) (A1 := A) ⟨hx, hb, hml, hown, hts⟩ (c_X1_create l D bd cI cZ cJ (nI 0) n kd fi se sd tr on sy lt ru lg rs 8 a 0 false (by omega)) gX1_turn_X1_create rfl ⟨rfl, rfl⟩ 4 rfl (by decide +kernel) ⟨Nat.le_of_ble_eq_true rfl, Nat.le_of_ble_eq_true rfl⟩ hP hK hD (fun _ h9 => h9) rfl rfl rfl hS hl.1 rfl (Nat.le_of_ble_eq_true rfl) dX1_turn_53 ⟨Nat.zero_le _, Nat.zero_le _⟩ (fun u1 H locs hP hz1 hk1 hS => ?_)
  replace hP : va_P D vwCl (wM bd cI cZ cJ (nI 0) (n + 1) (va_up kd n 8) (va_up fi n a) (va_up se n 0) (va_up sd n false) tr on sy lt ru lg u1) H := hP
  replace hD : va_D A (wM bd cI cZ cJ (nI 0) (n + 1) (va_up kd n 8) (va_up fi n a) (va_up se n 0) (va_up sd n false) tr on sy lt ru lg u1) := sameD2 hD rfl
  refine lv_goto (tgt := 64) hx hb dX1_turn_56 (by decide) ?_
  exact kret _ u1 _ _ _ _ (rfl) hP hS dX1_turn_64

set_option maxHeartbeats 4000000 in
set_option maxRecDepth 100000 in
theorem d_X1_turn_3_8 (hM : OKM n kd fi se tr sy lt lg ru) (a : Nat) (ha : a < n) (hn40 : n = 40) : MuI l yX1_turn wsX1_turn rm_X1_turn D vwCl (wM bd cI cZ cJ th n kd fi se sd tr on sy lt ru lg rs) (fun u => wM bd cI cZ cJ (nI 3) n kd fi se sd tr on sy lt ru lg u) (tyC cI cZ cJ) [.ref (bd 0), .int (nI 8), .int (nI a)] (nI 0) := by
  refine MuI.of (cc := cX1_turn) (maxL := 3) (by decide) rfl (Nat.le_of_ble_eq_true rfl) (vp_nar_int _) ?_
  intro A p e s m args below meth c Q ls hx hb hml hown hts hP hK hD kret hl
  have hown : s.vm.findClass RX1 = some m.cls := hown
  have hl : lv_has ls 3 [(0, .ref (bd 0)), (1, .int (nI 8)), (2, .int (nI a))] := hl
  have hS : va_S A s.heap s.heap [] := va_S.rf
  have hin0 : ∀ w ∈ u_ws RX1 TX1 13, w ∈ wsX1_turn := hin_X1_turn
  have hn41 := hM.1
  refine lv_aload_n hx hb dX1_turn_0 rfl (lv_at hl 0 rfl) ?_
  refine lv_iconst (v := nI 0) hx hb dX1_turn_1 (by decide) ?_
  refine va_put (D := D) (ci := 1) (v := .int (nI 0)) (ty := .int) (C := RX1) (T := TX1) (N := 13) hx hb hts hin0 tyX1 tyX1_ok nmX1 hown hK hP hD hS 0 rfl rfl 0 (by decide) (hts (.fieldLink RX1 45 "RumourReasonerModel" "thrown" "I") (by decide +kernel)) (fun _ h9 => h9) rfl (by decide +kernel) rfl rfl (Nat.le_of_ble_eq_true rfl) dX1_turn_2 (fun H locs hP hD hS => ?_)
  have hP : va_P D vwCl (wM bd cI cZ cJ (nI 0) n kd fi se sd tr on sy lt ru lg rs) H := hP
  have hD : va_D A (wM bd cI cZ cJ (nI 0) n kd fi se sd tr on sy lt ru lg rs) := hD
  refine lv_aload_n hx hb dX1_turn_5 rfl (lv_at hl 0 rfl) ?_
  refine lv_iload_n hx hb dX1_turn_6 rfl (lv_at hl 2 rfl) ?_
  refine puI_V (own := RX1) (As := [.int (nI a)]) (rest := []) (C := RX1) (ci := 1) (q0 := 0) ⟨hx, hb, hml, hown, hts⟩ (c_X1_isFormula l D bd cI cZ cJ (nI 0) n kd fi se sd tr on sy lt ru lg rs (nI a)) gX1_turn_X1_isFormula rfl ⟨rfl, rfl⟩ 1 rfl (by decide +kernel) ⟨Nat.le_of_ble_eq_true rfl, Nat.le_of_ble_eq_true rfl⟩ hP hK rfl rfl rfl hS hl.1 rfl (Nat.le_of_ble_eq_true rfl) dX1_turn_7 ⟨Nat.zero_le _, Nat.zero_le _⟩ (fun H locs hk1 hS => ?_)
  replace hP := keptP hP hk1
  refine tc_int (y := bI true) (by rw [isF_t ha hM.1]) ?_
  refine zT_ne (tgt := 19) hx hb dX1_turn_10 (by decide) (by decide) ?_
  refine lv_iload_n hx hb dX1_turn_19 rfl (lv_at hl 1 rfl) ?_
  refine lv_iconst (v := nI 2) hx hb dX1_turn_20 (by decide) ?_
  refine cF_eq (tgt := 30) hx hb dX1_turn_21 (by decide) (by decide) ?_
  refine lv_iload_n hx hb dX1_turn_24 rfl (lv_at hl 1 rfl) ?_
  refine lv_bipush (v := nI 8) hx hb dX1_turn_25 (by decide) ?_
  refine cF_ne (tgt := 59) hx hb dX1_turn_27 (by decide) (rfl) ?_
  refine lv_aload_n hx hb dX1_turn_30 rfl (lv_at hl 0 rfl) ?_
  refine lv_iload_n hx hb dX1_turn_31 rfl (lv_at hl 1 rfl) ?_
  refine lv_iload_n hx hb dX1_turn_32 rfl (lv_at hl 2 rfl) ?_
  refine lv_iconst (v := nI 0) hx hb dX1_turn_33 (by decide) ?_
  refine lv_iload_n hx hb dX1_turn_34 rfl (lv_at hl 1 rfl) ?_
  refine lv_iconst (v := nI 2) hx hb dX1_turn_35 (by decide) ?_
  refine cT_ne (tgt := 52) hx hb dX1_turn_36 (by decide) (by decide) ?_
  refine lv_iconst (v := nI 0) hx hb dX1_turn_52 (by decide) ?_
  refine tc_int (y := bI false) (rfl) ?_
  refine muI_V (own := RX1) (As := [.int (nI 8), .int (nI a), .int (nI 0), .int (bI false)]) (rest := []) (C := RX1) (ci := 1) (q0 := 0) (A1 := A) ⟨hx, hb, hml, hown, hts⟩ (d_X1_create l D bd cI cZ cJ (nI 0) n kd fi se sd tr on sy lt ru lg rs 8 a 0 false 3 hn40 (by decide) (by decide)) gX1_turn_X1_create rfl ⟨rfl, rfl⟩ 4 rfl (by decide +kernel) ⟨Nat.le_of_ble_eq_true rfl, Nat.le_of_ble_eq_true rfl⟩ hP hK hD (fun _ h9 => h9) rfl rfl rfl hS hl.1 rfl (Nat.le_of_ble_eq_true rfl) dX1_turn_53 ⟨Nat.zero_le _, Nat.zero_le _⟩ (fun u1 H locs hP hz1 hk1 hS => ?_)
  replace hP : va_P D vwCl (wM bd cI cZ cJ (nI 3) n kd fi se sd tr on sy lt ru lg u1) H := hP
  replace hD : va_D A (wM bd cI cZ cJ (nI 3) n kd fi se sd tr on sy lt ru lg u1) := sameD2 hD rfl
  refine lv_goto (tgt := 64) hx hb dX1_turn_56 (by decide) ?_
  exact kret _ u1 _ _ _ _ (rfl) hP hS dX1_turn_64

set_option maxHeartbeats 4000000 in
set_option maxRecDepth 100000 in
theorem d_X1_turn_1 (hM : OKM n kd fi se tr sy lt lg ru) (y : Int32) (x : Int32) (hx9 : x < 0 ∨ nI n ≤ x) : MuI l yX1_turn wsX1_turn rm_X1_turn D vwCl (wM bd cI cZ cJ th n kd fi se sd tr on sy lt ru lg rs) (fun u => wM bd cI cZ cJ (nI 1) n kd fi se sd tr on sy lt ru lg u) (tyC cI cZ cJ) [.ref (bd 0), .int y, .int x] (nI 0) := by
  refine MuI.of (cc := cX1_turn) (maxL := 3) (by decide) rfl (Nat.le_of_ble_eq_true rfl) (vp_nar_int _) ?_
  intro A p e s m args below meth c Q ls hx hb hml hown hts hP hK hD kret hl
  have hown : s.vm.findClass RX1 = some m.cls := hown
  have hl : lv_has ls 3 [(0, .ref (bd 0)), (1, .int y), (2, .int x)] := hl
  have hS : va_S A s.heap s.heap [] := va_S.rf
  have hin0 : ∀ w ∈ u_ws RX1 TX1 13, w ∈ wsX1_turn := hin_X1_turn
  refine lv_aload_n hx hb dX1_turn_0 rfl (lv_at hl 0 rfl) ?_
  refine lv_iconst (v := nI 0) hx hb dX1_turn_1 (by decide) ?_
  refine va_put (D := D) (ci := 1) (v := .int (nI 0)) (ty := .int) (C := RX1) (T := TX1) (N := 13) hx hb hts hin0 tyX1 tyX1_ok nmX1 hown hK hP hD hS 0 rfl rfl 0 (by decide) (hts (.fieldLink RX1 45 "RumourReasonerModel" "thrown" "I") (by decide +kernel)) (fun _ h9 => h9) rfl (by decide +kernel) rfl rfl (Nat.le_of_ble_eq_true rfl) dX1_turn_2 (fun H locs hP hD hS => ?_)
  have hP : va_P D vwCl (wM bd cI cZ cJ (nI 0) n kd fi se sd tr on sy lt ru lg rs) H := hP
  have hD : va_D A (wM bd cI cZ cJ (nI 0) n kd fi se sd tr on sy lt ru lg rs) := hD
  refine lv_aload_n hx hb dX1_turn_5 rfl (lv_at hl 0 rfl) ?_
  refine lv_iload_n hx hb dX1_turn_6 rfl (lv_at hl 2 rfl) ?_
  refine puI_V (own := RX1) (As := [.int x]) (rest := []) (C := RX1) (ci := 1) (q0 := 0) ⟨hx, hb, hml, hown, hts⟩ (c_X1_isFormula l D bd cI cZ cJ (nI 0) n kd fi se sd tr on sy lt ru lg rs x) gX1_turn_X1_isFormula rfl ⟨rfl, rfl⟩ 1 rfl (by decide +kernel) ⟨Nat.le_of_ble_eq_true rfl, Nat.le_of_ble_eq_true rfl⟩ hP hK rfl rfl rfl hS hl.1 rfl (Nat.le_of_ble_eq_true rfl) dX1_turn_7 ⟨Nat.zero_le _, Nat.zero_le _⟩ (fun H locs hk1 hS => ?_)
  replace hP := keptP hP hk1
  refine tc_int (y := bI false) (by rw [isF_f hx9 hM.1]) ?_
  refine zF_ne (tgt := 19) hx hb dX1_turn_10 (by decide) (rfl) ?_
  refine lv_aload_n hx hb dX1_turn_13 rfl (lv_at hl 0 rfl) ?_
  refine lv_iconst (v := nI 1) hx hb dX1_turn_14 (by decide) ?_
  refine muI_V (own := RX1) (As := [.int (nI 1)]) (rest := []) (C := RX1) (ci := 1) (q0 := 0) (A1 := A) ⟨hx, hb, hml, hown, hts⟩ (c_X1_no l D bd cI cZ cJ (nI 0) n kd fi se sd tr on sy lt ru lg rs 1) gX1_turn_X1_no rfl ⟨rfl, rfl⟩ 1 rfl (by decide +kernel) ⟨Nat.le_of_ble_eq_true rfl, Nat.le_of_ble_eq_true rfl⟩ hP hK hD (fun _ h9 => h9) rfl rfl rfl hS hl.1 rfl (Nat.le_of_ble_eq_true rfl) dX1_turn_15 ⟨Nat.zero_le _, Nat.zero_le _⟩ (fun u1 H locs hP hz1 hk1 hS => ?_)
  replace hP : va_P D vwCl (wM bd cI cZ cJ (nI 1) n kd fi se sd tr on sy lt ru lg u1) H := hP
  replace hD : va_D A (wM bd cI cZ cJ (nI 1) n kd fi se sd tr on sy lt ru lg u1) := sameD2 hD rfl
  exact kret _ u1 _ _ _ _ (rfl) hP hS dX1_turn_18

set_option maxHeartbeats 4000000 in
set_option maxRecDepth 100000 in
theorem d_X1_turn_2 (hM : OKM n kd fi se tr sy lt lg ru) (y : Int32) (a : Nat) (ha : a < n) (hy9 : ¬ y = nI 2 ∧ ¬ y = nI 8) : MuI l yX1_turn wsX1_turn rm_X1_turn D vwCl (wM bd cI cZ cJ th n kd fi se sd tr on sy lt ru lg rs) (fun u => wM bd cI cZ cJ (nI 2) n kd fi se sd tr on sy lt ru lg u) (tyC cI cZ cJ) [.ref (bd 0), .int y, .int (nI a)] (nI 0) := by
  refine MuI.of (cc := cX1_turn) (maxL := 3) (by decide) rfl (Nat.le_of_ble_eq_true rfl) (vp_nar_int _) ?_
  intro A p e s m args below meth c Q ls hx hb hml hown hts hP hK hD kret hl
  have hown : s.vm.findClass RX1 = some m.cls := hown
  have hl : lv_has ls 3 [(0, .ref (bd 0)), (1, .int y), (2, .int (nI a))] := hl
  have hS : va_S A s.heap s.heap [] := va_S.rf
  have hin0 : ∀ w ∈ u_ws RX1 TX1 13, w ∈ wsX1_turn := hin_X1_turn
  refine lv_aload_n hx hb dX1_turn_0 rfl (lv_at hl 0 rfl) ?_
  refine lv_iconst (v := nI 0) hx hb dX1_turn_1 (by decide) ?_
  refine va_put (D := D) (ci := 1) (v := .int (nI 0)) (ty := .int) (C := RX1) (T := TX1) (N := 13) hx hb hts hin0 tyX1 tyX1_ok nmX1 hown hK hP hD hS 0 rfl rfl 0 (by decide) (hts (.fieldLink RX1 45 "RumourReasonerModel" "thrown" "I") (by decide +kernel)) (fun _ h9 => h9) rfl (by decide +kernel) rfl rfl (Nat.le_of_ble_eq_true rfl) dX1_turn_2 (fun H locs hP hD hS => ?_)
  have hP : va_P D vwCl (wM bd cI cZ cJ (nI 0) n kd fi se sd tr on sy lt ru lg rs) H := hP
  have hD : va_D A (wM bd cI cZ cJ (nI 0) n kd fi se sd tr on sy lt ru lg rs) := hD
  refine lv_aload_n hx hb dX1_turn_5 rfl (lv_at hl 0 rfl) ?_
  refine lv_iload_n hx hb dX1_turn_6 rfl (lv_at hl 2 rfl) ?_
  refine puI_V (own := RX1) (As := [.int (nI a)]) (rest := []) (C := RX1) (ci := 1) (q0 := 0) ⟨hx, hb, hml, hown, hts⟩ (c_X1_isFormula l D bd cI cZ cJ (nI 0) n kd fi se sd tr on sy lt ru lg rs (nI a)) gX1_turn_X1_isFormula rfl ⟨rfl, rfl⟩ 1 rfl (by decide +kernel) ⟨Nat.le_of_ble_eq_true rfl, Nat.le_of_ble_eq_true rfl⟩ hP hK rfl rfl rfl hS hl.1 rfl (Nat.le_of_ble_eq_true rfl) dX1_turn_7 ⟨Nat.zero_le _, Nat.zero_le _⟩ (fun H locs hk1 hS => ?_)
  replace hP := keptP hP hk1
  refine tc_int (y := bI true) (by rw [isF_t ha hM.1]) ?_
  refine zT_ne (tgt := 19) hx hb dX1_turn_10 (by decide) (by decide) ?_
  refine lv_iload_n hx hb dX1_turn_19 rfl (lv_at hl 1 rfl) ?_
  refine lv_iconst (v := nI 2) hx hb dX1_turn_20 (by decide) ?_
  refine cF_eq (tgt := 30) hx hb dX1_turn_21 (by decide) (hy9.1) ?_
  refine lv_iload_n hx hb dX1_turn_24 rfl (lv_at hl 1 rfl) ?_
  refine lv_bipush (v := nI 8) hx hb dX1_turn_25 (by decide) ?_
  refine cT_ne (tgt := 59) hx hb dX1_turn_27 (by decide) (hy9.2) ?_
  refine lv_aload_n hx hb dX1_turn_59 rfl (lv_at hl 0 rfl) ?_
  refine lv_iconst (v := nI 2) hx hb dX1_turn_60 (by decide) ?_
  refine muI_V (own := RX1) (As := [.int (nI 2)]) (rest := []) (C := RX1) (ci := 1) (q0 := 0) (A1 := A) ⟨hx, hb, hml, hown, hts⟩ (c_X1_no l D bd cI cZ cJ (nI 0) n kd fi se sd tr on sy lt ru lg rs 2) gX1_turn_X1_no rfl ⟨rfl, rfl⟩ 1 rfl (by decide +kernel) ⟨Nat.le_of_ble_eq_true rfl, Nat.le_of_ble_eq_true rfl⟩ hP hK hD (fun _ h9 => h9) rfl rfl rfl hS hl.1 rfl (Nat.le_of_ble_eq_true rfl) dX1_turn_61 ⟨Nat.zero_le _, Nat.zero_le _⟩ (fun u1 H locs hP hz1 hk1 hS => ?_)
  replace hP : va_P D vwCl (wM bd cI cZ cJ (nI 2) n kd fi se sd tr on sy lt ru lg u1) H := hP
  replace hD : va_D A (wM bd cI cZ cJ (nI 2) n kd fi se sd tr on sy lt ru lg u1) := sameD2 hD rfl
  exact kret _ u1 _ _ _ _ (rfl) hP hS dX1_turn_64

theorem hin_X1_join : ∀ w ∈ wsX10, w ∈ wsX1_join := by first | exact fun _ h => List.mem_cons_of_mem _ (List.mem_append_right _ h) | exact fun _ h => List.mem_cons_of_mem _ (List.mem_append_left _ (List.mem_append_right _ h)) | exact fun _ h => List.mem_cons_of_mem _ (List.mem_append_left _ (List.mem_append_left _ (List.mem_append_right _ h))) | exact fun _ h => List.mem_cons_of_mem _ (List.mem_append_left _ (List.mem_append_left _ (List.mem_append_left _ (List.mem_append_right _ h)))) | decide +kernel
def rm_X1_join : Room := { frames := 2, cells := 0, slots := 0, locals := 45 }
set_option maxHeartbeats 4000000 in
set_option maxRecDepth 100000 in
theorem c_X1_join (hM : OKM n kd fi se tr sy lt lg ru) (k a b : Nat) (hk : 3 ≤ k ∧ k ≤ 7) (ha : a < n) (hb9 : b < n) (hn40 : n < 40) : MuI l yX1_join wsX1_join rm_X1_join D vwCl (wM bd cI cZ cJ th n kd fi se sd tr on sy lt ru lg rs) (fun u => wM bd cI cZ cJ (nI 0) (n + 1) (va_up kd n k) (va_up fi n a) (va_up se n b) (va_up sd n (decide (k ≠ 7) && sd a && sd b)) tr on sy lt ru lg u) (tyC cI cZ cJ) [.ref (bd 0), .int (nI k), .int (nI a), .int (nI b)] (nI n) := by
  refine MuI.of (cc := cX1_join) (maxL := 4) (by decide) rfl (Nat.le_of_ble_eq_true rfl) (vp_nar_int _) ?_
  intro A p e s m args below meth c Q ls hx hb hml hown hts hP hK hD kret hl
  have hown : s.vm.findClass RX1 = some m.cls := hown
  have hl : lv_has ls 4 [(0, .ref (bd 0)), (1, .int (nI k)), (2, .int (nI a)), (3, .int (nI b))] := hl
  have hS : va_S A s.heap s.heap [] := va_S.rf
  have hin0 : ∀ w ∈ u_ws RX1 TX1 13, w ∈ wsX1_join := hin_X1_join
  have hn41 := hM.1
  refine lv_aload_n hx hb dX1_join_0 rfl (lv_at hl 0 rfl) ?_
  refine lv_iconst (v := nI 0) hx hb dX1_join_1 (by decide) ?_
  refine va_put (D := D) (ci := 1) (v := .int (nI 0)) (ty := .int) (C := RX1) (T := TX1) (N := 13) hx hb hts hin0 tyX1 tyX1_ok nmX1 hown hK hP hD hS 0 rfl rfl 0 (by decide) (hts (.fieldLink RX1 45 "RumourReasonerModel" "thrown" "I") (by decide +kernel)) (fun _ h9 => h9) rfl (by decide +kernel) rfl rfl (Nat.le_of_ble_eq_true rfl) dX1_join_2 (fun H locs hP hD hS => ?_)
  have hP : va_P D vwCl (wM bd cI cZ cJ (nI 0) n kd fi se sd tr on sy lt ru lg rs) H := hP
  have hD : va_D A (wM bd cI cZ cJ (nI 0) n kd fi se sd tr on sy lt ru lg rs) := hD
  refine lv_aload_n hx hb dX1_join_5 rfl (lv_at hl 0 rfl) ?_
  refine lv_iload_n hx hb dX1_join_6 rfl (lv_at hl 2 rfl) ?_
  refine puI_V (own := RX1) (As := [.int (nI a)]) (rest := []) (C := RX1) (ci := 1) (q0 := 0) ⟨hx, hb, hml, hown, hts⟩ (c_X1_isFormula l D bd cI cZ cJ (nI 0) n kd fi se sd tr on sy lt ru lg rs (nI a)) gX1_join_X1_isFormula rfl ⟨rfl, rfl⟩ 1 rfl (by decide +kernel) ⟨Nat.le_of_ble_eq_true rfl, Nat.le_of_ble_eq_true rfl⟩ hP hK rfl rfl rfl hS hl.1 rfl (Nat.le_of_ble_eq_true rfl) dX1_join_7 ⟨Nat.zero_le _, Nat.zero_le _⟩ (fun H locs hk1 hS => ?_)
  replace hP := keptP hP hk1
  refine tc_int (y := bI true) (by rw [isF_t ha hM.1]) ?_
  refine zF_eq (tgt := 21) hx hb dX1_join_10 (by decide) (by decide) ?_
  refine lv_aload_n hx hb dX1_join_13 rfl (lv_at hl 0 rfl) ?_
  refine lv_iload_n hx hb dX1_join_14 rfl (lv_at hl 3 rfl) ?_
  refine puI_V (own := RX1) (As := [.int (nI b)]) (rest := []) (C := RX1) (ci := 1) (q0 := 0) ⟨hx, hb, hml, hown, hts⟩ (c_X1_isFormula l D bd cI cZ cJ (nI 0) n kd fi se sd tr on sy lt ru lg rs (nI b)) gX1_join_X1_isFormula rfl ⟨rfl, rfl⟩ 1 rfl (by decide +kernel) ⟨Nat.le_of_ble_eq_true rfl, Nat.le_of_ble_eq_true rfl⟩ hP hK rfl rfl rfl hS hl.1 rfl (Nat.le_of_ble_eq_true rfl) dX1_join_15 ⟨Nat.zero_le _, Nat.zero_le _⟩ (fun H locs hk1 hS => ?_)
  replace hP := keptP hP hk1
  refine tc_int (y := bI true) (by rw [isF_t hb9 hM.1]) ?_
  refine zT_ne (tgt := 27) hx hb dX1_join_18 (by decide) (by decide) ?_
  refine lv_iload_n hx hb dX1_join_27 rfl (lv_at hl 1 rfl) ?_
  refine lv_iconst (v := nI 3) hx hb dX1_join_28 (by decide) ?_
  refine lv_bipush (v := nI 7) hx hb dX1_join_29 (by decide) ?_
  refine puI_S (own := RX1) (As := [.int (nI k), .int (nI 3), .int (nI 7)]) (rest := []) ⟨hx, hb, hml, hown, hts⟩ (c_X1_isIn l D (nI k) (nI 3) (nI 7)) gX1_join_X1_isIn rfl ⟨rfl, rfl⟩ 3 rfl (by decide +kernel) ⟨Nat.le_of_ble_eq_true rfl, Nat.le_of_ble_eq_true rfl⟩ nilP (hK.sub (tys' := []) [] rfl) hS hl.1 rfl (Nat.le_of_ble_eq_true rfl) dX1_join_31 ⟨Nat.zero_le _, Nat.zero_le _⟩ (fun H locs hk1 hS => ?_)
  replace hP := keptP hP hk1
  refine tc_int (y := bI true) (by rw [inB_t (by omega) (by omega) (by decide)]) ?_
  refine zF_eq (tgt := 76) hx hb dX1_join_34 (by decide) (by decide) ?_
  refine lv_aload_n hx hb dX1_join_37 rfl (lv_at hl 0 rfl) ?_
  refine lv_iload_n hx hb dX1_join_38 rfl (lv_at hl 1 rfl) ?_
  refine lv_iload_n hx hb dX1_join_39 rfl (lv_at hl 2 rfl) ?_
  refine lv_iload_n hx hb dX1_join_40 rfl (lv_at hl 3 rfl) ?_
  refine lv_iload_n hx hb dX1_join_41 rfl (lv_at hl 1 rfl) ?_
  refine lv_bipush (v := nI 7) hx hb dX1_join_42 (by decide) ?_
  refine lv_icmp_eq (tgt := 69) hx hb dX1_join_44 (by decide) (fun c_1 => ?_) (fun c_1 => ?_)
  · have e_44 : decide (k ≠ 7) = false := decide_eq_false (fun q => q ((nI_eq (by omega) (by decide)).mp c_1))
    refine lv_iconst (v := nI 0) hx hb dX1_join_69 (by decide) ?_
    refine tc_int (y := bI (decide (k ≠ 7) && sd a && sd b)) (by rw [e_44]; rfl) ?_
    refine muI_V (own := RX1) (As := [.int (nI k), .int (nI a), .int (nI b), .int (bI (decide (k ≠ 7) && sd a && sd b))]) (rest := []) (C := RX1) (ci := 1) (q0 := 0) (A1 := A) ⟨hx, hb, hml, hown, hts⟩ (c_X1_create l D bd cI cZ cJ (nI 0) n kd fi se sd tr on sy lt ru lg rs k a b (decide (k ≠ 7) && sd a && sd b) (by omega)) gX1_join_X1_create rfl ⟨rfl, rfl⟩ 4 rfl (by decide +kernel) ⟨Nat.le_of_ble_eq_true rfl, Nat.le_of_ble_eq_true rfl⟩ hP hK hD (fun _ h9 => h9) rfl rfl rfl hS hl.1 rfl (Nat.le_of_ble_eq_true rfl) dX1_join_70 ⟨Nat.zero_le _, Nat.zero_le _⟩ (fun u2 H locs hP hz1 hk1 hS => ?_)
    replace hP : va_P D vwCl (wM bd cI cZ cJ (nI 0) (n + 1) (va_up kd n k) (va_up fi n a) (va_up se n b) (va_up sd n (decide (k ≠ 7) && sd a && sd b)) tr on sy lt ru lg u2) H := hP
    replace hD : va_D A (wM bd cI cZ cJ (nI 0) (n + 1) (va_up kd n k) (va_up fi n a) (va_up se n b) (va_up sd n (decide (k ≠ 7) && sd a && sd b)) tr on sy lt ru lg u2) := sameD2 hD rfl
    refine lv_goto (tgt := 81) hx hb dX1_join_73 (by decide) ?_
    exact kret _ u2 _ _ _ _ (rfl) hP hS dX1_join_81
  · have e_44 : decide (k ≠ 7) = true := decide_eq_true (fun q => c_1 (by rw [q]))
    refine lv_aload_n hx hb dX1_join_47 rfl (lv_at hl 0 rfl) ?_
    refine va_get (D := D) (ci := 1) (v := .ref (bd 4)) (C := RX1) (T := TX1) (N := 13) hx hb hts hin0 hown hK hP 0 rfl rfl 5 (by decide) (hts (.fieldLink RX1 19 "RumourReasonerModel" "areSteady" "[Z") (by decide +kernel)) (fun _ h9 => h9) rfl dX1_join_48 ?_
    refine lv_iload_n hx hb dX1_join_51 rfl (lv_at hl 2 rfl) ?_
    refine ld_nz hx hb hK hP 4 1 rfl rfl (j := a) (by omega) (by decide) dX1_join_52 ?_
    refine lv_if_eq (tgt := 69) hx hb dX1_join_53 (by decide) (fun c_3 => ?_) (fun c_3 => ?_)
    · have e_53 := bI_0 c_3
      refine lv_iconst (v := nI 0) hx hb dX1_join_69 (by decide) ?_
      refine tc_int (y := bI (decide (k ≠ 7) && sd a && sd b)) (by rw [e_44, e_53]; rfl) ?_
      refine muI_V (own := RX1) (As := [.int (nI k), .int (nI a), .int (nI b), .int (bI (decide (k ≠ 7) && sd a && sd b))]) (rest := []) (C := RX1) (ci := 1) (q0 := 0) (A1 := A) ⟨hx, hb, hml, hown, hts⟩ (c_X1_create l D bd cI cZ cJ (nI 0) n kd fi se sd tr on sy lt ru lg rs k a b (decide (k ≠ 7) && sd a && sd b) (by omega)) gX1_join_X1_create rfl ⟨rfl, rfl⟩ 4 rfl (by decide +kernel) ⟨Nat.le_of_ble_eq_true rfl, Nat.le_of_ble_eq_true rfl⟩ hP hK hD (fun _ h9 => h9) rfl rfl rfl hS hl.1 rfl (Nat.le_of_ble_eq_true rfl) dX1_join_70 ⟨Nat.zero_le _, Nat.zero_le _⟩ (fun u4 H locs hP hz1 hk1 hS => ?_)
      replace hP : va_P D vwCl (wM bd cI cZ cJ (nI 0) (n + 1) (va_up kd n k) (va_up fi n a) (va_up se n b) (va_up sd n (decide (k ≠ 7) && sd a && sd b)) tr on sy lt ru lg u4) H := hP
      replace hD : va_D A (wM bd cI cZ cJ (nI 0) (n + 1) (va_up kd n k) (va_up fi n a) (va_up se n b) (va_up sd n (decide (k ≠ 7) && sd a && sd b)) tr on sy lt ru lg u4) := sameD2 hD rfl
      refine lv_goto (tgt := 81) hx hb dX1_join_73 (by decide) ?_
      exact kret _ u4 _ _ _ _ (rfl) hP hS dX1_join_81
    · have e_53 := bI_1 c_3
      refine lv_aload_n hx hb dX1_join_56 rfl (lv_at hl 0 rfl) ?_
      refine va_get (D := D) (ci := 1) (v := .ref (bd 4)) (C := RX1) (T := TX1) (N := 13) hx hb hts hin0 hown hK hP 0 rfl rfl 5 (by decide) (hts (.fieldLink RX1 19 "RumourReasonerModel" "areSteady" "[Z") (by decide +kernel)) (fun _ h9 => h9) rfl dX1_join_57 ?_
      refine lv_iload_n hx hb dX1_join_60 rfl (lv_at hl 3 rfl) ?_
      refine ld_nz hx hb hK hP 4 1 rfl rfl (j := b) (by omega) (by decide) dX1_join_61 ?_
      refine lv_if_eq (tgt := 69) hx hb dX1_join_62 (by decide) (fun c_5 => ?_) (fun c_5 => ?_)
      · have e_62 := bI_0 c_5
        refine lv_iconst (v := nI 0) hx hb dX1_join_69 (by decide) ?_
        refine tc_int (y := bI (decide (k ≠ 7) && sd a && sd b)) (by rw [e_44, e_53, e_62]; rfl) ?_
        refine muI_V (own := RX1) (As := [.int (nI k), .int (nI a), .int (nI b), .int (bI (decide (k ≠ 7) && sd a && sd b))]) (rest := []) (C := RX1) (ci := 1) (q0 := 0) (A1 := A) ⟨hx, hb, hml, hown, hts⟩ (c_X1_create l D bd cI cZ cJ (nI 0) n kd fi se sd tr on sy lt ru lg rs k a b (decide (k ≠ 7) && sd a && sd b) (by omega)) gX1_join_X1_create rfl ⟨rfl, rfl⟩ 4 rfl (by decide +kernel) ⟨Nat.le_of_ble_eq_true rfl, Nat.le_of_ble_eq_true rfl⟩ hP hK hD (fun _ h9 => h9) rfl rfl rfl hS hl.1 rfl (Nat.le_of_ble_eq_true rfl) dX1_join_70 ⟨Nat.zero_le _, Nat.zero_le _⟩ (fun u6 H locs hP hz1 hk1 hS => ?_)
        replace hP : va_P D vwCl (wM bd cI cZ cJ (nI 0) (n + 1) (va_up kd n k) (va_up fi n a) (va_up se n b) (va_up sd n (decide (k ≠ 7) && sd a && sd b)) tr on sy lt ru lg u6) H := hP
        replace hD : va_D A (wM bd cI cZ cJ (nI 0) (n + 1) (va_up kd n k) (va_up fi n a) (va_up se n b) (va_up sd n (decide (k ≠ 7) && sd a && sd b)) tr on sy lt ru lg u6) := sameD2 hD rfl
        refine lv_goto (tgt := 81) hx hb dX1_join_73 (by decide) ?_
        exact kret _ u6 _ _ _ _ (rfl) hP hS dX1_join_81
      · have e_62 := bI_1 c_5
        refine lv_iconst (v := nI 1) hx hb dX1_join_65 (by decide) ?_
        refine tc_int (y := bI (decide (k ≠ 7) && sd a && sd b)) (by rw [e_44, e_53, e_62]; rfl) ?_
        refine lv_goto (tgt := 70) hx hb dX1_join_66 (by decide) ?_
        refine muI_V (own := RX1) (As := [.int (nI k), .int (nI a), .int (nI b), .int (bI (decide (k ≠ 7) && sd a && sd b))]) (rest := []) (C := RX1) (ci := 1) (q0 := 0) (A1 := A) ⟨hx, hb, hml, hown, hts⟩ (c_X1_create l D bd cI cZ cJ (nI 0) n kd fi se sd tr on sy lt ru lg rs k a b (decide (k ≠ 7) && sd a && sd b) (by omega)) gX1_join_X1_create rfl ⟨rfl, rfl⟩ 4 rfl (by decide +kernel) ⟨Nat.le_of_ble_eq_true rfl, Nat.le_of_ble_eq_true rfl⟩ hP hK hD (fun _ h9 => h9) rfl rfl rfl hS hl.1 rfl (Nat.le_of_ble_eq_true rfl) dX1_join_70 ⟨Nat.zero_le _, Nat.zero_le _⟩ (fun u7 H locs hP hz1 hk1 hS => ?_)
        replace hP : va_P D vwCl (wM bd cI cZ cJ (nI 0) (n + 1) (va_up kd n k) (va_up fi n a) (va_up se n b) (va_up sd n (decide (k ≠ 7) && sd a && sd b)) tr on sy lt ru lg u7) H := hP
        replace hD : va_D A (wM bd cI cZ cJ (nI 0) (n + 1) (va_up kd n k) (va_up fi n a) (va_up se n b) (va_up sd n (decide (k ≠ 7) && sd a && sd b)) tr on sy lt ru lg u7) := sameD2 hD rfl
        refine lv_goto (tgt := 81) hx hb dX1_join_73 (by decide) ?_
        exact kret _ u7 _ _ _ _ (rfl) hP hS dX1_join_81

set_option maxHeartbeats 4000000 in
set_option maxRecDepth 100000 in
theorem d_X1_join_4 (hM : OKM n kd fi se tr sy lt lg ru) (k a b : Nat) (hk : 3 ≤ k ∧ k ≤ 7) (ha : a < n) (hb9 : b < n) (hn40 : n = 40) : MuI l yX1_join wsX1_join rm_X1_join D vwCl (wM bd cI cZ cJ th n kd fi se sd tr on sy lt ru lg rs) (fun u => wM bd cI cZ cJ (nI 3) n kd fi se sd tr on sy lt ru lg u) (tyC cI cZ cJ) [.ref (bd 0), .int (nI k), .int (nI a), .int (nI b)] (nI 0) := by
  refine MuI.of (cc := cX1_join) (maxL := 4) (by decide) rfl (Nat.le_of_ble_eq_true rfl) (vp_nar_int _) ?_
  intro A p e s m args below meth c Q ls hx hb hml hown hts hP hK hD kret hl
  have hown : s.vm.findClass RX1 = some m.cls := hown
  have hl : lv_has ls 4 [(0, .ref (bd 0)), (1, .int (nI k)), (2, .int (nI a)), (3, .int (nI b))] := hl
  have hS : va_S A s.heap s.heap [] := va_S.rf
  have hin0 : ∀ w ∈ u_ws RX1 TX1 13, w ∈ wsX1_join := hin_X1_join
  have hn41 := hM.1
  refine lv_aload_n hx hb dX1_join_0 rfl (lv_at hl 0 rfl) ?_
  refine lv_iconst (v := nI 0) hx hb dX1_join_1 (by decide) ?_
  refine va_put (D := D) (ci := 1) (v := .int (nI 0)) (ty := .int) (C := RX1) (T := TX1) (N := 13) hx hb hts hin0 tyX1 tyX1_ok nmX1 hown hK hP hD hS 0 rfl rfl 0 (by decide) (hts (.fieldLink RX1 45 "RumourReasonerModel" "thrown" "I") (by decide +kernel)) (fun _ h9 => h9) rfl (by decide +kernel) rfl rfl (Nat.le_of_ble_eq_true rfl) dX1_join_2 (fun H locs hP hD hS => ?_)
  have hP : va_P D vwCl (wM bd cI cZ cJ (nI 0) n kd fi se sd tr on sy lt ru lg rs) H := hP
  have hD : va_D A (wM bd cI cZ cJ (nI 0) n kd fi se sd tr on sy lt ru lg rs) := hD
  refine lv_aload_n hx hb dX1_join_5 rfl (lv_at hl 0 rfl) ?_
  refine lv_iload_n hx hb dX1_join_6 rfl (lv_at hl 2 rfl) ?_
  refine puI_V (own := RX1) (As := [.int (nI a)]) (rest := []) (C := RX1) (ci := 1) (q0 := 0) ⟨hx, hb, hml, hown, hts⟩ (c_X1_isFormula l D bd cI cZ cJ (nI 0) n kd fi se sd tr on sy lt ru lg rs (nI a)) gX1_join_X1_isFormula rfl ⟨rfl, rfl⟩ 1 rfl (by decide +kernel) ⟨Nat.le_of_ble_eq_true rfl, Nat.le_of_ble_eq_true rfl⟩ hP hK rfl rfl rfl hS hl.1 rfl (Nat.le_of_ble_eq_true rfl) dX1_join_7 ⟨Nat.zero_le _, Nat.zero_le _⟩ (fun H locs hk1 hS => ?_)
  replace hP := keptP hP hk1
  refine tc_int (y := bI true) (by rw [isF_t ha hM.1]) ?_
  refine zF_eq (tgt := 21) hx hb dX1_join_10 (by decide) (by decide) ?_
  refine lv_aload_n hx hb dX1_join_13 rfl (lv_at hl 0 rfl) ?_
  refine lv_iload_n hx hb dX1_join_14 rfl (lv_at hl 3 rfl) ?_
  refine puI_V (own := RX1) (As := [.int (nI b)]) (rest := []) (C := RX1) (ci := 1) (q0 := 0) ⟨hx, hb, hml, hown, hts⟩ (c_X1_isFormula l D bd cI cZ cJ (nI 0) n kd fi se sd tr on sy lt ru lg rs (nI b)) gX1_join_X1_isFormula rfl ⟨rfl, rfl⟩ 1 rfl (by decide +kernel) ⟨Nat.le_of_ble_eq_true rfl, Nat.le_of_ble_eq_true rfl⟩ hP hK rfl rfl rfl hS hl.1 rfl (Nat.le_of_ble_eq_true rfl) dX1_join_15 ⟨Nat.zero_le _, Nat.zero_le _⟩ (fun H locs hk1 hS => ?_)
  replace hP := keptP hP hk1
  refine tc_int (y := bI true) (by rw [isF_t hb9 hM.1]) ?_
  refine zT_ne (tgt := 27) hx hb dX1_join_18 (by decide) (by decide) ?_
  refine lv_iload_n hx hb dX1_join_27 rfl (lv_at hl 1 rfl) ?_
  refine lv_iconst (v := nI 3) hx hb dX1_join_28 (by decide) ?_
  refine lv_bipush (v := nI 7) hx hb dX1_join_29 (by decide) ?_
  refine puI_S (own := RX1) (As := [.int (nI k), .int (nI 3), .int (nI 7)]) (rest := []) ⟨hx, hb, hml, hown, hts⟩ (c_X1_isIn l D (nI k) (nI 3) (nI 7)) gX1_join_X1_isIn rfl ⟨rfl, rfl⟩ 3 rfl (by decide +kernel) ⟨Nat.le_of_ble_eq_true rfl, Nat.le_of_ble_eq_true rfl⟩ nilP (hK.sub (tys' := []) [] rfl) hS hl.1 rfl (Nat.le_of_ble_eq_true rfl) dX1_join_31 ⟨Nat.zero_le _, Nat.zero_le _⟩ (fun H locs hk1 hS => ?_)
  replace hP := keptP hP hk1
  refine tc_int (y := bI true) (by rw [inB_t (by omega) (by omega) (by decide)]) ?_
  refine zF_eq (tgt := 76) hx hb dX1_join_34 (by decide) (by decide) ?_
  refine lv_aload_n hx hb dX1_join_37 rfl (lv_at hl 0 rfl) ?_
  refine lv_iload_n hx hb dX1_join_38 rfl (lv_at hl 1 rfl) ?_
  refine lv_iload_n hx hb dX1_join_39 rfl (lv_at hl 2 rfl) ?_
  refine lv_iload_n hx hb dX1_join_40 rfl (lv_at hl 3 rfl) ?_
  refine lv_iload_n hx hb dX1_join_41 rfl (lv_at hl 1 rfl) ?_
  refine lv_bipush (v := nI 7) hx hb dX1_join_42 (by decide) ?_
  refine lv_icmp_eq (tgt := 69) hx hb dX1_join_44 (by decide) (fun c_1 => ?_) (fun c_1 => ?_)
  · have e_44 : decide (k ≠ 7) = false := decide_eq_false (fun q => q ((nI_eq (by omega) (by decide)).mp c_1))
    refine lv_iconst (v := nI 0) hx hb dX1_join_69 (by decide) ?_
    refine tc_int (y := bI (decide (k ≠ 7) && sd a && sd b)) (by rw [e_44]; rfl) ?_
    refine muI_V (own := RX1) (As := [.int (nI k), .int (nI a), .int (nI b), .int (bI (decide (k ≠ 7) && sd a && sd b))]) (rest := []) (C := RX1) (ci := 1) (q0 := 0) (A1 := A) ⟨hx, hb, hml, hown, hts⟩ (d_X1_create l D bd cI cZ cJ (nI 0) n kd fi se sd tr on sy lt ru lg rs k a b (decide (k ≠ 7) && sd a && sd b) 3 hn40 (by omega) (by rw [if_neg (by omega)])) gX1_join_X1_create rfl ⟨rfl, rfl⟩ 4 rfl (by decide +kernel) ⟨Nat.le_of_ble_eq_true rfl, Nat.le_of_ble_eq_true rfl⟩ hP hK hD (fun _ h9 => h9) rfl rfl rfl hS hl.1 rfl (Nat.le_of_ble_eq_true rfl) dX1_join_70 ⟨Nat.zero_le _, Nat.zero_le _⟩ (fun u2 H locs hP hz1 hk1 hS => ?_)
    replace hP : va_P D vwCl (wM bd cI cZ cJ (nI 3) n kd fi se sd tr on sy lt ru lg u2) H := hP
    replace hD : va_D A (wM bd cI cZ cJ (nI 3) n kd fi se sd tr on sy lt ru lg u2) := sameD2 hD rfl
    refine lv_goto (tgt := 81) hx hb dX1_join_73 (by decide) ?_
    exact kret _ u2 _ _ _ _ (rfl) hP hS dX1_join_81
  · have e_44 : decide (k ≠ 7) = true := decide_eq_true (fun q => c_1 (by rw [q]))
    refine lv_aload_n hx hb dX1_join_47 rfl (lv_at hl 0 rfl) ?_
    refine va_get (D := D) (ci := 1) (v := .ref (bd 4)) (C := RX1) (T := TX1) (N := 13) hx hb hts hin0 hown hK hP 0 rfl rfl 5 (by decide) (hts (.fieldLink RX1 19 "RumourReasonerModel" "areSteady" "[Z") (by decide +kernel)) (fun _ h9 => h9) rfl dX1_join_48 ?_
    refine lv_iload_n hx hb dX1_join_51 rfl (lv_at hl 2 rfl) ?_
    refine ld_nz hx hb hK hP 4 1 rfl rfl (j := a) (by omega) (by decide) dX1_join_52 ?_
    refine lv_if_eq (tgt := 69) hx hb dX1_join_53 (by decide) (fun c_3 => ?_) (fun c_3 => ?_)
    · have e_53 := bI_0 c_3
      refine lv_iconst (v := nI 0) hx hb dX1_join_69 (by decide) ?_
      refine tc_int (y := bI (decide (k ≠ 7) && sd a && sd b)) (by rw [e_44, e_53]; rfl) ?_
      refine muI_V (own := RX1) (As := [.int (nI k), .int (nI a), .int (nI b), .int (bI (decide (k ≠ 7) && sd a && sd b))]) (rest := []) (C := RX1) (ci := 1) (q0 := 0) (A1 := A) ⟨hx, hb, hml, hown, hts⟩ (d_X1_create l D bd cI cZ cJ (nI 0) n kd fi se sd tr on sy lt ru lg rs k a b (decide (k ≠ 7) && sd a && sd b) 3 hn40 (by omega) (by rw [if_neg (by omega)])) gX1_join_X1_create rfl ⟨rfl, rfl⟩ 4 rfl (by decide +kernel) ⟨Nat.le_of_ble_eq_true rfl, Nat.le_of_ble_eq_true rfl⟩ hP hK hD (fun _ h9 => h9) rfl rfl rfl hS hl.1 rfl (Nat.le_of_ble_eq_true rfl) dX1_join_70 ⟨Nat.zero_le _, Nat.zero_le _⟩ (fun u4 H locs hP hz1 hk1 hS => ?_)
      replace hP : va_P D vwCl (wM bd cI cZ cJ (nI 3) n kd fi se sd tr on sy lt ru lg u4) H := hP
      replace hD : va_D A (wM bd cI cZ cJ (nI 3) n kd fi se sd tr on sy lt ru lg u4) := sameD2 hD rfl
      refine lv_goto (tgt := 81) hx hb dX1_join_73 (by decide) ?_
      exact kret _ u4 _ _ _ _ (rfl) hP hS dX1_join_81
    · have e_53 := bI_1 c_3
      refine lv_aload_n hx hb dX1_join_56 rfl (lv_at hl 0 rfl) ?_
      refine va_get (D := D) (ci := 1) (v := .ref (bd 4)) (C := RX1) (T := TX1) (N := 13) hx hb hts hin0 hown hK hP 0 rfl rfl 5 (by decide) (hts (.fieldLink RX1 19 "RumourReasonerModel" "areSteady" "[Z") (by decide +kernel)) (fun _ h9 => h9) rfl dX1_join_57 ?_
      refine lv_iload_n hx hb dX1_join_60 rfl (lv_at hl 3 rfl) ?_
      refine ld_nz hx hb hK hP 4 1 rfl rfl (j := b) (by omega) (by decide) dX1_join_61 ?_
      refine lv_if_eq (tgt := 69) hx hb dX1_join_62 (by decide) (fun c_5 => ?_) (fun c_5 => ?_)
      · have e_62 := bI_0 c_5
        refine lv_iconst (v := nI 0) hx hb dX1_join_69 (by decide) ?_
        refine tc_int (y := bI (decide (k ≠ 7) && sd a && sd b)) (by rw [e_44, e_53, e_62]; rfl) ?_
        refine muI_V (own := RX1) (As := [.int (nI k), .int (nI a), .int (nI b), .int (bI (decide (k ≠ 7) && sd a && sd b))]) (rest := []) (C := RX1) (ci := 1) (q0 := 0) (A1 := A) ⟨hx, hb, hml, hown, hts⟩ (d_X1_create l D bd cI cZ cJ (nI 0) n kd fi se sd tr on sy lt ru lg rs k a b (decide (k ≠ 7) && sd a && sd b) 3 hn40 (by omega) (by rw [if_neg (by omega)])) gX1_join_X1_create rfl ⟨rfl, rfl⟩ 4 rfl (by decide +kernel) ⟨Nat.le_of_ble_eq_true rfl, Nat.le_of_ble_eq_true rfl⟩ hP hK hD (fun _ h9 => h9) rfl rfl rfl hS hl.1 rfl (Nat.le_of_ble_eq_true rfl) dX1_join_70 ⟨Nat.zero_le _, Nat.zero_le _⟩ (fun u6 H locs hP hz1 hk1 hS => ?_)
        replace hP : va_P D vwCl (wM bd cI cZ cJ (nI 3) n kd fi se sd tr on sy lt ru lg u6) H := hP
        replace hD : va_D A (wM bd cI cZ cJ (nI 3) n kd fi se sd tr on sy lt ru lg u6) := sameD2 hD rfl
        refine lv_goto (tgt := 81) hx hb dX1_join_73 (by decide) ?_
        exact kret _ u6 _ _ _ _ (rfl) hP hS dX1_join_81
      · have e_62 := bI_1 c_5
        refine lv_iconst (v := nI 1) hx hb dX1_join_65 (by decide) ?_
        refine tc_int (y := bI (decide (k ≠ 7) && sd a && sd b)) (by rw [e_44, e_53, e_62]; rfl) ?_
        refine lv_goto (tgt := 70) hx hb dX1_join_66 (by decide) ?_
        refine muI_V (own := RX1) (As := [.int (nI k), .int (nI a), .int (nI b), .int (bI (decide (k ≠ 7) && sd a && sd b))]) (rest := []) (C := RX1) (ci := 1) (q0 := 0) (A1 := A) ⟨hx, hb, hml, hown, hts⟩ (d_X1_create l D bd cI cZ cJ (nI 0) n kd fi se sd tr on sy lt ru lg rs k a b (decide (k ≠ 7) && sd a && sd b) 3 hn40 (by omega) (by rw [if_neg (by omega)])) gX1_join_X1_create rfl ⟨rfl, rfl⟩ 4 rfl (by decide +kernel) ⟨Nat.le_of_ble_eq_true rfl, Nat.le_of_ble_eq_true rfl⟩ hP hK hD (fun _ h9 => h9) rfl rfl rfl hS hl.1 rfl (Nat.le_of_ble_eq_true rfl) dX1_join_70 ⟨Nat.zero_le _, Nat.zero_le _⟩ (fun u7 H locs hP hz1 hk1 hS => ?_)
        replace hP : va_P D vwCl (wM bd cI cZ cJ (nI 3) n kd fi se sd tr on sy lt ru lg u7) H := hP
        replace hD : va_D A (wM bd cI cZ cJ (nI 3) n kd fi se sd tr on sy lt ru lg u7) := sameD2 hD rfl
        refine lv_goto (tgt := 81) hx hb dX1_join_73 (by decide) ?_
        exact kret _ u7 _ _ _ _ (rfl) hP hS dX1_join_81

set_option maxHeartbeats 4000000 in
set_option maxRecDepth 100000 in
theorem d_X1_join_1 (hM : OKM n kd fi se tr sy lt lg ru) (y z : Int32) (x : Int32) (hx9 : x < 0 ∨ nI n ≤ x) : MuI l yX1_join wsX1_join rm_X1_join D vwCl (wM bd cI cZ cJ th n kd fi se sd tr on sy lt ru lg rs) (fun u => wM bd cI cZ cJ (nI 1) n kd fi se sd tr on sy lt ru lg u) (tyC cI cZ cJ) [.ref (bd 0), .int y, .int x, .int z] (nI 0) := by
  refine MuI.of (cc := cX1_join) (maxL := 4) (by decide) rfl (Nat.le_of_ble_eq_true rfl) (vp_nar_int _) ?_
  intro A p e s m args below meth c Q ls hx hb hml hown hts hP hK hD kret hl
  have hown : s.vm.findClass RX1 = some m.cls := hown
  have hl : lv_has ls 4 [(0, .ref (bd 0)), (1, .int y), (2, .int x), (3, .int z)] := hl
  have hS : va_S A s.heap s.heap [] := va_S.rf
  have hin0 : ∀ w ∈ u_ws RX1 TX1 13, w ∈ wsX1_join := hin_X1_join
  refine lv_aload_n hx hb dX1_join_0 rfl (lv_at hl 0 rfl) ?_
  refine lv_iconst (v := nI 0) hx hb dX1_join_1 (by decide) ?_
  refine va_put (D := D) (ci := 1) (v := .int (nI 0)) (ty := .int) (C := RX1) (T := TX1) (N := 13) hx hb hts hin0 tyX1 tyX1_ok nmX1 hown hK hP hD hS 0 rfl rfl 0 (by decide) (hts (.fieldLink RX1 45 "RumourReasonerModel" "thrown" "I") (by decide +kernel)) (fun _ h9 => h9) rfl (by decide +kernel) rfl rfl (Nat.le_of_ble_eq_true rfl) dX1_join_2 (fun H locs hP hD hS => ?_)
  have hP : va_P D vwCl (wM bd cI cZ cJ (nI 0) n kd fi se sd tr on sy lt ru lg rs) H := hP
  have hD : va_D A (wM bd cI cZ cJ (nI 0) n kd fi se sd tr on sy lt ru lg rs) := hD
  refine lv_aload_n hx hb dX1_join_5 rfl (lv_at hl 0 rfl) ?_
  refine lv_iload_n hx hb dX1_join_6 rfl (lv_at hl 2 rfl) ?_
  refine puI_V (own := RX1) (As := [.int x]) (rest := []) (C := RX1) (ci := 1) (q0 := 0) ⟨hx, hb, hml, hown, hts⟩ (c_X1_isFormula l D bd cI cZ cJ (nI 0) n kd fi se sd tr on sy lt ru lg rs x) gX1_join_X1_isFormula rfl ⟨rfl, rfl⟩ 1 rfl (by decide +kernel) ⟨Nat.le_of_ble_eq_true rfl, Nat.le_of_ble_eq_true rfl⟩ hP hK rfl rfl rfl hS hl.1 rfl (Nat.le_of_ble_eq_true rfl) dX1_join_7 ⟨Nat.zero_le _, Nat.zero_le _⟩ (fun H locs hk1 hS => ?_)
  replace hP := keptP hP hk1
  refine tc_int (y := bI false) (by rw [isF_f hx9 hM.1]) ?_
  refine zT_eq (tgt := 21) hx hb dX1_join_10 (by decide) (rfl) ?_
  refine lv_aload_n hx hb dX1_join_21 rfl (lv_at hl 0 rfl) ?_
  refine lv_iconst (v := nI 1) hx hb dX1_join_22 (by decide) ?_
  refine muI_V (own := RX1) (As := [.int (nI 1)]) (rest := []) (C := RX1) (ci := 1) (q0 := 0) (A1 := A) ⟨hx, hb, hml, hown, hts⟩ (c_X1_no l D bd cI cZ cJ (nI 0) n kd fi se sd tr on sy lt ru lg rs 1) gX1_join_X1_no rfl ⟨rfl, rfl⟩ 1 rfl (by decide +kernel) ⟨Nat.le_of_ble_eq_true rfl, Nat.le_of_ble_eq_true rfl⟩ hP hK hD (fun _ h9 => h9) rfl rfl rfl hS hl.1 rfl (Nat.le_of_ble_eq_true rfl) dX1_join_23 ⟨Nat.zero_le _, Nat.zero_le _⟩ (fun u1 H locs hP hz1 hk1 hS => ?_)
  replace hP : va_P D vwCl (wM bd cI cZ cJ (nI 1) n kd fi se sd tr on sy lt ru lg u1) H := hP
  replace hD : va_D A (wM bd cI cZ cJ (nI 1) n kd fi se sd tr on sy lt ru lg u1) := sameD2 hD rfl
  exact kret _ u1 _ _ _ _ (rfl) hP hS dX1_join_26

set_option maxHeartbeats 4000000 in
set_option maxRecDepth 100000 in
theorem d_X1_join_2 (hM : OKM n kd fi se tr sy lt lg ru) (y : Int32) (a : Nat) (ha : a < n) (x : Int32) (hx9 : x < 0 ∨ nI n ≤ x) : MuI l yX1_join wsX1_join rm_X1_join D vwCl (wM bd cI cZ cJ th n kd fi se sd tr on sy lt ru lg rs) (fun u => wM bd cI cZ cJ (nI 1) n kd fi se sd tr on sy lt ru lg u) (tyC cI cZ cJ) [.ref (bd 0), .int y, .int (nI a), .int x] (nI 0) := by
  refine MuI.of (cc := cX1_join) (maxL := 4) (by decide) rfl (Nat.le_of_ble_eq_true rfl) (vp_nar_int _) ?_
  intro A p e s m args below meth c Q ls hx hb hml hown hts hP hK hD kret hl
  have hown : s.vm.findClass RX1 = some m.cls := hown
  have hl : lv_has ls 4 [(0, .ref (bd 0)), (1, .int y), (2, .int (nI a)), (3, .int x)] := hl
  have hS : va_S A s.heap s.heap [] := va_S.rf
  have hin0 : ∀ w ∈ u_ws RX1 TX1 13, w ∈ wsX1_join := hin_X1_join
  refine lv_aload_n hx hb dX1_join_0 rfl (lv_at hl 0 rfl) ?_
  refine lv_iconst (v := nI 0) hx hb dX1_join_1 (by decide) ?_
  refine va_put (D := D) (ci := 1) (v := .int (nI 0)) (ty := .int) (C := RX1) (T := TX1) (N := 13) hx hb hts hin0 tyX1 tyX1_ok nmX1 hown hK hP hD hS 0 rfl rfl 0 (by decide) (hts (.fieldLink RX1 45 "RumourReasonerModel" "thrown" "I") (by decide +kernel)) (fun _ h9 => h9) rfl (by decide +kernel) rfl rfl (Nat.le_of_ble_eq_true rfl) dX1_join_2 (fun H locs hP hD hS => ?_)
  have hP : va_P D vwCl (wM bd cI cZ cJ (nI 0) n kd fi se sd tr on sy lt ru lg rs) H := hP
  have hD : va_D A (wM bd cI cZ cJ (nI 0) n kd fi se sd tr on sy lt ru lg rs) := hD
  refine lv_aload_n hx hb dX1_join_5 rfl (lv_at hl 0 rfl) ?_
  refine lv_iload_n hx hb dX1_join_6 rfl (lv_at hl 2 rfl) ?_
  refine puI_V (own := RX1) (As := [.int (nI a)]) (rest := []) (C := RX1) (ci := 1) (q0 := 0) ⟨hx, hb, hml, hown, hts⟩ (c_X1_isFormula l D bd cI cZ cJ (nI 0) n kd fi se sd tr on sy lt ru lg rs (nI a)) gX1_join_X1_isFormula rfl ⟨rfl, rfl⟩ 1 rfl (by decide +kernel) ⟨Nat.le_of_ble_eq_true rfl, Nat.le_of_ble_eq_true rfl⟩ hP hK rfl rfl rfl hS hl.1 rfl (Nat.le_of_ble_eq_true rfl) dX1_join_7 ⟨Nat.zero_le _, Nat.zero_le _⟩ (fun H locs hk1 hS => ?_)
  replace hP := keptP hP hk1
  refine tc_int (y := bI true) (by rw [isF_t ha hM.1]) ?_
  refine zF_eq (tgt := 21) hx hb dX1_join_10 (by decide) (by decide) ?_
  refine lv_aload_n hx hb dX1_join_13 rfl (lv_at hl 0 rfl) ?_
  refine lv_iload_n hx hb dX1_join_14 rfl (lv_at hl 3 rfl) ?_
  refine puI_V (own := RX1) (As := [.int x]) (rest := []) (C := RX1) (ci := 1) (q0 := 0) ⟨hx, hb, hml, hown, hts⟩ (c_X1_isFormula l D bd cI cZ cJ (nI 0) n kd fi se sd tr on sy lt ru lg rs x) gX1_join_X1_isFormula rfl ⟨rfl, rfl⟩ 1 rfl (by decide +kernel) ⟨Nat.le_of_ble_eq_true rfl, Nat.le_of_ble_eq_true rfl⟩ hP hK rfl rfl rfl hS hl.1 rfl (Nat.le_of_ble_eq_true rfl) dX1_join_15 ⟨Nat.zero_le _, Nat.zero_le _⟩ (fun H locs hk1 hS => ?_)
  replace hP := keptP hP hk1
  refine tc_int (y := bI false) (by rw [isF_f hx9 hM.1]) ?_
  refine zF_ne (tgt := 27) hx hb dX1_join_18 (by decide) (rfl) ?_
  refine lv_aload_n hx hb dX1_join_21 rfl (lv_at hl 0 rfl) ?_
  refine lv_iconst (v := nI 1) hx hb dX1_join_22 (by decide) ?_
  refine muI_V (own := RX1) (As := [.int (nI 1)]) (rest := []) (C := RX1) (ci := 1) (q0 := 0) (A1 := A) ⟨hx, hb, hml, hown, hts⟩ (c_X1_no l D bd cI cZ cJ (nI 0) n kd fi se sd tr on sy lt ru lg rs 1) gX1_join_X1_no rfl ⟨rfl, rfl⟩ 1 rfl (by decide +kernel) ⟨Nat.le_of_ble_eq_true rfl, Nat.le_of_ble_eq_true rfl⟩ hP hK hD (fun _ h9 => h9) rfl rfl rfl hS hl.1 rfl (Nat.le_of_ble_eq_true rfl) dX1_join_23 ⟨Nat.zero_le _, Nat.zero_le _⟩ (fun u1 H locs hP hz1 hk1 hS => ?_)
  replace hP : va_P D vwCl (wM bd cI cZ cJ (nI 1) n kd fi se sd tr on sy lt ru lg u1) H := hP
  replace hD : va_D A (wM bd cI cZ cJ (nI 1) n kd fi se sd tr on sy lt ru lg u1) := sameD2 hD rfl
  exact kret _ u1 _ _ _ _ (rfl) hP hS dX1_join_26

theorem inB37 {y : Int32} (h : y < nI 3 ∨ nI 8 ≤ y) : inB y (nI 3) (nI 7) = false := by
  rcases h with h | h
  · exact inB_lo h
  · exact inB_hi h (by decide)
set_option maxHeartbeats 4000000 in
set_option maxRecDepth 100000 in
theorem d_X1_join_3 (hM : OKM n kd fi se tr sy lt lg ru) (y : Int32) (a b : Nat) (ha : a < n) (hb9 : b < n) (hy9 : y < nI 3 ∨ nI 8 ≤ y) : MuI l yX1_join wsX1_join rm_X1_join D vwCl (wM bd cI cZ cJ th n kd fi se sd tr on sy lt ru lg rs) (fun u => wM bd cI cZ cJ (nI 2) n kd fi se sd tr on sy lt ru lg u) (tyC cI cZ cJ) [.ref (bd 0), .int y, .int (nI a), .int (nI b)] (nI 0) := by
  refine MuI.of (cc := cX1_join) (maxL := 4) (by decide) rfl (Nat.le_of_ble_eq_true rfl) (vp_nar_int _) ?_
  intro A p e s m args below meth c Q ls hx hb hml hown hts hP hK hD kret hl
  have hown : s.vm.findClass RX1 = some m.cls := hown
  have hl : lv_has ls 4 [(0, .ref (bd 0)), (1, .int y), (2, .int (nI a)), (3, .int (nI b))] := hl
  have hS : va_S A s.heap s.heap [] := va_S.rf
  have hin0 : ∀ w ∈ u_ws RX1 TX1 13, w ∈ wsX1_join := hin_X1_join
  refine lv_aload_n hx hb dX1_join_0 rfl (lv_at hl 0 rfl) ?_
  refine lv_iconst (v := nI 0) hx hb dX1_join_1 (by decide) ?_
  refine va_put (D := D) (ci := 1) (v := .int (nI 0)) (ty := .int) (C := RX1) (T := TX1) (N := 13) hx hb hts hin0 tyX1 tyX1_ok nmX1 hown hK hP hD hS 0 rfl rfl 0 (by decide) (hts (.fieldLink RX1 45 "RumourReasonerModel" "thrown" "I") (by decide +kernel)) (fun _ h9 => h9) rfl (by decide +kernel) rfl rfl (Nat.le_of_ble_eq_true rfl) dX1_join_2 (fun H locs hP hD hS => ?_)
  have hP : va_P D vwCl (wM bd cI cZ cJ (nI 0) n kd fi se sd tr on sy lt ru lg rs) H := hP
  have hD : va_D A (wM bd cI cZ cJ (nI 0) n kd fi se sd tr on sy lt ru lg rs) := hD
  refine lv_aload_n hx hb dX1_join_5 rfl (lv_at hl 0 rfl) ?_
  refine lv_iload_n hx hb dX1_join_6 rfl (lv_at hl 2 rfl) ?_
  refine puI_V (own := RX1) (As := [.int (nI a)]) (rest := []) (C := RX1) (ci := 1) (q0 := 0) ⟨hx, hb, hml, hown, hts⟩ (c_X1_isFormula l D bd cI cZ cJ (nI 0) n kd fi se sd tr on sy lt ru lg rs (nI a)) gX1_join_X1_isFormula rfl ⟨rfl, rfl⟩ 1 rfl (by decide +kernel) ⟨Nat.le_of_ble_eq_true rfl, Nat.le_of_ble_eq_true rfl⟩ hP hK rfl rfl rfl hS hl.1 rfl (Nat.le_of_ble_eq_true rfl) dX1_join_7 ⟨Nat.zero_le _, Nat.zero_le _⟩ (fun H locs hk1 hS => ?_)
  replace hP := keptP hP hk1
  refine tc_int (y := bI true) (by rw [isF_t ha hM.1]) ?_
  refine zF_eq (tgt := 21) hx hb dX1_join_10 (by decide) (by decide) ?_
  refine lv_aload_n hx hb dX1_join_13 rfl (lv_at hl 0 rfl) ?_
  refine lv_iload_n hx hb dX1_join_14 rfl (lv_at hl 3 rfl) ?_
  refine puI_V (own := RX1) (As := [.int (nI b)]) (rest := []) (C := RX1) (ci := 1) (q0 := 0) ⟨hx, hb, hml, hown, hts⟩ (c_X1_isFormula l D bd cI cZ cJ (nI 0) n kd fi se sd tr on sy lt ru lg rs (nI b)) gX1_join_X1_isFormula rfl ⟨rfl, rfl⟩ 1 rfl (by decide +kernel) ⟨Nat.le_of_ble_eq_true rfl, Nat.le_of_ble_eq_true rfl⟩ hP hK rfl rfl rfl hS hl.1 rfl (Nat.le_of_ble_eq_true rfl) dX1_join_15 ⟨Nat.zero_le _, Nat.zero_le _⟩ (fun H locs hk1 hS => ?_)
  replace hP := keptP hP hk1
  refine tc_int (y := bI true) (by rw [isF_t hb9 hM.1]) ?_
  refine zT_ne (tgt := 27) hx hb dX1_join_18 (by decide) (by decide) ?_
  refine lv_iload_n hx hb dX1_join_27 rfl (lv_at hl 1 rfl) ?_
  refine lv_iconst (v := nI 3) hx hb dX1_join_28 (by decide) ?_
  refine lv_bipush (v := nI 7) hx hb dX1_join_29 (by decide) ?_
  refine puI_S (own := RX1) (As := [.int y, .int (nI 3), .int (nI 7)]) (rest := []) ⟨hx, hb, hml, hown, hts⟩ (c_X1_isIn l D y (nI 3) (nI 7)) gX1_join_X1_isIn rfl ⟨rfl, rfl⟩ 3 rfl (by decide +kernel) ⟨Nat.le_of_ble_eq_true rfl, Nat.le_of_ble_eq_true rfl⟩ nilP (hK.sub (tys' := []) [] rfl) hS hl.1 rfl (Nat.le_of_ble_eq_true rfl) dX1_join_31 ⟨Nat.zero_le _, Nat.zero_le _⟩ (fun H locs hk1 hS => ?_)
  replace hP := keptP hP hk1
  refine tc_int (y := bI false) (by rw [inB37 hy9]) ?_
  refine zT_eq (tgt := 76) hx hb dX1_join_34 (by decide) (rfl) ?_
  refine lv_aload_n hx hb dX1_join_76 rfl (lv_at hl 0 rfl) ?_
  refine lv_iconst (v := nI 2) hx hb dX1_join_77 (by decide) ?_
  refine muI_V (own := RX1) (As := [.int (nI 2)]) (rest := []) (C := RX1) (ci := 1) (q0 := 0) (A1 := A) ⟨hx, hb, hml, hown, hts⟩ (c_X1_no l D bd cI cZ cJ (nI 0) n kd fi se sd tr on sy lt ru lg rs 2) gX1_join_X1_no rfl ⟨rfl, rfl⟩ 1 rfl (by decide +kernel) ⟨Nat.le_of_ble_eq_true rfl, Nat.le_of_ble_eq_true rfl⟩ hP hK hD (fun _ h9 => h9) rfl rfl rfl hS hl.1 rfl (Nat.le_of_ble_eq_true rfl) dX1_join_78 ⟨Nat.zero_le _, Nat.zero_le _⟩ (fun u1 H locs hP hz1 hk1 hS => ?_)
  replace hP : va_P D vwCl (wM bd cI cZ cJ (nI 2) n kd fi se sd tr on sy lt ru lg u1) H := hP
  replace hD : va_D A (wM bd cI cZ cJ (nI 2) n kd fi se sd tr on sy lt ru lg u1) := sameD2 hD rfl
  exact kret _ u1 _ _ _ _ (rfl) hP hS dX1_join_81

end
