section
variable (l : Launch) (D : va_G) (ad : Nat → Nat) (cI cZ cJ : ClassId) (n : Nat) (kd : Nat → Nat) (sd : Nat → Bool) (ts fs : Nat → Int64) (tr : Nat → Nat) (on : Nat → Bool) (rp : Nat → Nat) (lt : Nat) (ru : Nat → Option Nat) (lg : Nat) (lp : Int64)
theorem hin_X0_requireFormula : ∀ w ∈ wsX00, w ∈ wsX0_requireFormula := by first | exact fun _ h => List.mem_cons_of_mem _ (List.mem_append_right _ h) | exact fun _ h => List.mem_cons_of_mem _ (List.mem_append_left _ (List.mem_append_right _ h)) | exact fun _ h => List.mem_cons_of_mem _ (List.mem_append_left _ (List.mem_append_left _ (List.mem_append_right _ h))) | exact fun _ h => List.mem_cons_of_mem _ (List.mem_append_left _ (List.mem_append_left _ (List.mem_append_left _ (List.mem_append_right _ h)))) | decide +kernel
def rm_X0_requireFormula : Room := { frames := 0, cells := 0, slots := 0, locals := 0 }
set_option maxHeartbeats 4000000 in
set_option maxRecDepth 100000 in
theorem c_X0_requireFormula (hO : OKC n tr rp lt lg ru) (f : Nat) (hf : f < n) : PuV l yX0_requireFormula wsX0_requireFormula rm_X0_requireFormula D vwCl (wC ad cI cZ cJ n kd sd ts fs tr on rp lt ru lg lp) (tyC cI cZ cJ) [.ref (ad 0), .int (nI f)] := by
  refine PuV.of (cc := cX0_requireFormula) (maxL := 2) (by decide) rfl (Nat.le_of_ble_eq_true rfl) ?_
  intro p e s m args below meth c Q ls hx hb hml hown hts hP hK kret hl
  have hown : s.vm.findClass RX0 = some m.cls := hown
  have hl : lv_has ls 2 [(0, .ref (ad 0)), (1, .int (nI f))] := hl
  have hS : va_S (fun _ => False) s.heap s.heap [] := va_S.rf
  have hin0 : ∀ w ∈ u_ws RX0 TX0 12, w ∈ wsX0_requireFormula := hin_X0_requireFormula
  refine lv_iload_n hx hb dX0_requireFormula_0 rfl (lv_at hl 1 rfl) ?_
  refine zF_lt (tgt := 12) hx hb dX0_requireFormula_1 (by decide) (nI_pos (Nat.lt_of_lt_of_le hf (Nat.le_trans hO.1 (by decide)))) ?_
  refine lv_iload_n hx hb dX0_requireFormula_4 rfl (lv_at hl 1 rfl) ?_
  refine lv_aload_n hx hb dX0_requireFormula_5 rfl (lv_at hl 0 rfl) ?_
  refine va_get (D := D) (ci := 0) (v := .int (nI n)) (C := RX0) (T := TX0) (N := 12) hx hb hts hin0 hown hK hP 0 rfl rfl 0 (by decide) (hts (.fieldLink RX0 9 "RumourReasoner" "count" "I") (by decide +kernel)) (fun _ h9 => h9) rfl dX0_requireFormula_6 ?_
  refine cT_lt (tgt := 22) hx hb dX0_requireFormula_9 (by decide) (nI_lt hf (Nat.lt_of_le_of_lt hO.1 (by decide))) ?_
  exact kret _ _ _ _ hS dX0_requireFormula_22

def rb_X0_requireFormula : Room := { frames := 6, cells := 1, slots := 6, locals := 82 }
theorem hgIO_X0_requireFormula : ∀ w ∈ aIO.filter goodWord, w ∈ wsX0_requireFormula := by first | exact fun _ h => List.mem_cons_of_mem _ (List.mem_append_right _ h) | exact fun _ h => List.mem_cons_of_mem _ (List.mem_append_left _ (List.mem_append_right _ h)) | exact fun _ h => List.mem_cons_of_mem _ (List.mem_append_left _ (List.mem_append_left _ (List.mem_append_right _ h))) | exact fun _ h => List.mem_cons_of_mem _ (List.mem_append_left _ (List.mem_append_left _ (List.mem_append_left _ (List.mem_append_right _ h)))) | decide +kernel
set_option maxHeartbeats 4000000 in
set_option maxRecDepth 100000 in
theorem b_X0_requireFormula (htr : l.stackTraces = false) (hO : OKC n tr rp lt lg ru) (x : Int32) (hx9 : x < 0 ∨ nI n ≤ x) : Bd l yX0_requireFormula wsX0_requireFormula rb_X0_requireFormula D vwCl (wC ad cI cZ cJ n kd sd ts fs tr on rp lt ru lg lp) (tyC cI cZ cJ) [.ref (ad 0), .int x] eIO := by
  refine Bd.of (cc := cX0_requireFormula) (maxL := 2) (ret := none) (by decide) rfl (Nat.le_of_ble_eq_true rfl) ?_
  intro p e s m args below meth c ls hx hb hml hown hts htab hlocks hP hK hX0 hl
  have hown : s.vm.findClass RX0 = some m.cls := hown
  have hl : lv_has ls 2 [(0, .ref (ad 0)), (1, .int x)] := hl
  have hS : va_S (fun q => s.heap.size ≤ q) s.heap s.heap [] := va_S.rf
  have hX : XEh (fun _ => False) s s.heap := hX0
  have hin0 : ∀ w ∈ u_ws RX0 TX0 12, w ∈ wsX0_requireFormula := hin_X0_requireFormula
  refine lv_iload_n hx hb dX0_requireFormula_0 rfl (lv_at hl 1 rfl) ?_
  refine lv_if_lt (tgt := 12) hx hb dX0_requireFormula_1 (by decide) (fun c_1 => ?_) (fun c_1 => ?_)
  · exact bd_throw (E := eIO) (is := 208) (text := "no such formula") (ik := 197) (ic := 201) ⟨hx, hb, hml.trans hl.1.symm, hown, hts⟩ htr rfl (by decide +kernel) (by decide +kernel) (by decide +kernel) (by decide +kernel) hgIO_X0_requireFormula xwIO otIO hX0 htab hlocks hS dX0_requireFormula_12 dX0_requireFormula_15 dX0_requireFormula_16 dX0_requireFormula_18 dX0_requireFormula_21 ⟨Nat.le_of_ble_eq_true rfl, Nat.le_of_ble_eq_true rfl, Nat.le_of_ble_eq_true rfl, Nat.le_of_ble_eq_true rfl⟩
  · have hx8 : nI n ≤ x := hx9.resolve_left c_1
    refine lv_iload_n hx hb dX0_requireFormula_4 rfl (lv_at hl 1 rfl) ?_
    refine lv_aload_n hx hb dX0_requireFormula_5 rfl (lv_at hl 0 rfl) ?_
    refine va_get (D := D) (ci := 0) (v := .int (nI n)) (C := RX0) (T := TX0) (N := 12) hx hb hts hin0 hown hK hP 0 rfl rfl 0 (by decide) (hts (.fieldLink RX0 9 "RumourReasoner" "count" "I") (by decide +kernel)) (fun _ h9 => h9) rfl dX0_requireFormula_6 ?_
    refine cF_lt (tgt := 22) hx hb dX0_requireFormula_9 (by decide) (fun q => by rw [Int32.lt_iff_toInt_lt] at q; rw [Int32.le_iff_toInt_le] at hx8; omega) ?_
    exact bd_throw (E := eIO) (is := 208) (text := "no such formula") (ik := 197) (ic := 201) ⟨hx, hb, hml.trans hl.1.symm, hown, hts⟩ htr rfl (by decide +kernel) (by decide +kernel) (by decide +kernel) (by decide +kernel) hgIO_X0_requireFormula xwIO otIO hX0 htab hlocks hS dX0_requireFormula_12 dX0_requireFormula_15 dX0_requireFormula_16 dX0_requireFormula_18 dX0_requireFormula_21 ⟨Nat.le_of_ble_eq_true rfl, Nat.le_of_ble_eq_true rfl, Nat.le_of_ble_eq_true rfl, Nat.le_of_ble_eq_true rfl⟩

theorem hin_X0_requireSteady : ∀ w ∈ wsX00, w ∈ wsX0_requireSteady := by first | exact fun _ h => List.mem_cons_of_mem _ (List.mem_append_right _ h) | exact fun _ h => List.mem_cons_of_mem _ (List.mem_append_left _ (List.mem_append_right _ h)) | exact fun _ h => List.mem_cons_of_mem _ (List.mem_append_left _ (List.mem_append_left _ (List.mem_append_right _ h))) | exact fun _ h => List.mem_cons_of_mem _ (List.mem_append_left _ (List.mem_append_left _ (List.mem_append_left _ (List.mem_append_right _ h)))) | decide +kernel
def rm_X0_requireSteady : Room := { frames := 0, cells := 0, slots := 0, locals := 0 }
set_option maxHeartbeats 4000000 in
set_option maxRecDepth 100000 in
theorem c_X0_requireSteady (f : Nat) (hf : f < 40) (hs : sd f = true) : PuV l yX0_requireSteady wsX0_requireSteady rm_X0_requireSteady D vwCl (wC ad cI cZ cJ n kd sd ts fs tr on rp lt ru lg lp) (tyC cI cZ cJ) [.ref (ad 0), .int (nI f)] := by
  refine PuV.of (cc := cX0_requireSteady) (maxL := 2) (by decide) rfl (Nat.le_of_ble_eq_true rfl) ?_
  intro p e s m args below meth c Q ls hx hb hml hown hts hP hK kret hl
  have hown : s.vm.findClass RX0 = some m.cls := hown
  have hl : lv_has ls 2 [(0, .ref (ad 0)), (1, .int (nI f))] := hl
  have hS : va_S (fun _ => False) s.heap s.heap [] := va_S.rf
  have hin0 : ∀ w ∈ u_ws RX0 TX0 12, w ∈ wsX0_requireSteady := hin_X0_requireSteady
  refine lv_aload_n hx hb dX0_requireSteady_0 rfl (lv_at hl 0 rfl) ?_
  refine va_get (D := D) (ci := 0) (v := .ref (ad 2)) (C := RX0) (T := TX0) (N := 12) hx hb hts hin0 hown hK hP 0 rfl rfl 2 (by decide) (hts (.fieldLink RX0 17 "RumourReasoner" "steady" "[Z") (by decide +kernel)) (fun _ h9 => h9) rfl dX0_requireSteady_1 ?_
  refine lv_iload_n hx hb dX0_requireSteady_4 rfl (lv_at hl 1 rfl) ?_
  refine ld_nz hx hb hK hP 2 1 rfl rfl (j := f) (by omega) (by decide) dX0_requireSteady_5 ?_
  refine zT_ne (tgt := 19) hx hb dX0_requireSteady_6 (by decide) (bI_t hs) ?_
  exact kret _ _ _ _ hS dX0_requireSteady_19

def rb_X0_requireSteady : Room := { frames := 6, cells := 1, slots := 6, locals := 82 }
theorem hgIA_X0_requireSteady : ∀ w ∈ aIA.filter goodWord, w ∈ wsX0_requireSteady := by first | exact fun _ h => List.mem_cons_of_mem _ (List.mem_append_right _ h) | exact fun _ h => List.mem_cons_of_mem _ (List.mem_append_left _ (List.mem_append_right _ h)) | exact fun _ h => List.mem_cons_of_mem _ (List.mem_append_left _ (List.mem_append_left _ (List.mem_append_right _ h))) | exact fun _ h => List.mem_cons_of_mem _ (List.mem_append_left _ (List.mem_append_left _ (List.mem_append_left _ (List.mem_append_right _ h)))) | decide +kernel
set_option maxHeartbeats 4000000 in
set_option maxRecDepth 100000 in
theorem b_X0_requireSteady (htr : l.stackTraces = false) (f : Nat) (hf : f < 40) (hs : sd f = false) : Bd l yX0_requireSteady wsX0_requireSteady rb_X0_requireSteady D vwCl (wC ad cI cZ cJ n kd sd ts fs tr on rp lt ru lg lp) (tyC cI cZ cJ) [.ref (ad 0), .int (nI f)] eIA := by
  refine Bd.of (cc := cX0_requireSteady) (maxL := 2) (ret := none) (by decide) rfl (Nat.le_of_ble_eq_true rfl) ?_
  intro p e s m args below meth c ls hx hb hml hown hts htab hlocks hP hK hX0 hl
  have hown : s.vm.findClass RX0 = some m.cls := hown
  have hl : lv_has ls 2 [(0, .ref (ad 0)), (1, .int (nI f))] := hl
  have hS : va_S (fun q => s.heap.size ≤ q) s.heap s.heap [] := va_S.rf
  have hX : XEh (fun _ => False) s s.heap := hX0
  have hin0 : ∀ w ∈ u_ws RX0 TX0 12, w ∈ wsX0_requireSteady := hin_X0_requireSteady
  refine lv_aload_n hx hb dX0_requireSteady_0 rfl (lv_at hl 0 rfl) ?_
  refine va_get (D := D) (ci := 0) (v := .ref (ad 2)) (C := RX0) (T := TX0) (N := 12) hx hb hts hin0 hown hK hP 0 rfl rfl 2 (by decide) (hts (.fieldLink RX0 17 "RumourReasoner" "steady" "[Z") (by decide +kernel)) (fun _ h9 => h9) rfl dX0_requireSteady_1 ?_
  refine lv_iload_n hx hb dX0_requireSteady_4 rfl (lv_at hl 1 rfl) ?_
  refine ld_nz hx hb hK hP 2 1 rfl rfl (j := f) (by omega) (by decide) dX0_requireSteady_5 ?_
  refine zF_ne (tgt := 19) hx hb dX0_requireSteady_6 (by decide) (bI_f hs) ?_
  exact bd_throw (E := eIA) (is := 210) (text := "the formula is not steady") (ik := 80) (ic := 84) ⟨hx, hb, hml.trans hl.1.symm, hown, hts⟩ htr rfl (by decide +kernel) (by decide +kernel) (by decide +kernel) (by decide +kernel) hgIA_X0_requireSteady xwIA otIA hX0 htab hlocks hS dX0_requireSteady_9 dX0_requireSteady_12 dX0_requireSteady_13 dX0_requireSteady_15 dX0_requireSteady_18 ⟨Nat.le_of_ble_eq_true rfl, Nat.le_of_ble_eq_true rfl, Nat.le_of_ble_eq_true rfl, Nat.le_of_ble_eq_true rfl⟩

theorem hin_X0_requireRoom : ∀ w ∈ wsX00, w ∈ wsX0_requireRoom := by first | exact fun _ h => List.mem_cons_of_mem _ (List.mem_append_right _ h) | exact fun _ h => List.mem_cons_of_mem _ (List.mem_append_left _ (List.mem_append_right _ h)) | exact fun _ h => List.mem_cons_of_mem _ (List.mem_append_left _ (List.mem_append_left _ (List.mem_append_right _ h))) | exact fun _ h => List.mem_cons_of_mem _ (List.mem_append_left _ (List.mem_append_left _ (List.mem_append_left _ (List.mem_append_right _ h)))) | decide +kernel
def rm_X0_requireRoom : Room := { frames := 0, cells := 0, slots := 0, locals := 0 }
set_option maxHeartbeats 4000000 in
set_option maxRecDepth 100000 in
theorem c_X0_requireRoom (hn40 : n < 40) : PuV l yX0_requireRoom wsX0_requireRoom rm_X0_requireRoom D vwCl (wC ad cI cZ cJ n kd sd ts fs tr on rp lt ru lg lp) (tyC cI cZ cJ) [.ref (ad 0)] := by
  refine PuV.of (cc := cX0_requireRoom) (maxL := 1) (by decide) rfl (Nat.le_of_ble_eq_true rfl) ?_
  intro p e s m args below meth c Q ls hx hb hml hown hts hP hK kret hl
  have hown : s.vm.findClass RX0 = some m.cls := hown
  have hl : lv_has ls 1 [(0, .ref (ad 0))] := hl
  have hS : va_S (fun _ => False) s.heap s.heap [] := va_S.rf
  have hin0 : ∀ w ∈ u_ws RX0 TX0 12, w ∈ wsX0_requireRoom := hin_X0_requireRoom
  refine lv_aload_n hx hb dX0_requireRoom_0 rfl (lv_at hl 0 rfl) ?_
  refine va_get (D := D) (ci := 0) (v := .int (nI n)) (C := RX0) (T := TX0) (N := 12) hx hb hts hin0 hown hK hP 0 rfl rfl 0 (by decide) (hts (.fieldLink RX0 9 "RumourReasoner" "count" "I") (by decide +kernel)) (fun _ h9 => h9) rfl dX0_requireRoom_1 ?_
  refine lv_bipush (v := nI 40) hx hb dX0_requireRoom_4 (by decide) ?_
  refine cT_lt (tgt := 19) hx hb dX0_requireRoom_6 (by decide) (nI_lt (by omega) (by omega)) ?_
  exact kret _ _ _ _ hS dX0_requireRoom_19

def rb_X0_requireRoom : Room := { frames := 6, cells := 1, slots := 6, locals := 82 }
theorem hgIS_X0_requireRoom : ∀ w ∈ aIS.filter goodWord, w ∈ wsX0_requireRoom := by first | exact fun _ h => List.mem_cons_of_mem _ (List.mem_append_right _ h) | exact fun _ h => List.mem_cons_of_mem _ (List.mem_append_left _ (List.mem_append_right _ h)) | exact fun _ h => List.mem_cons_of_mem _ (List.mem_append_left _ (List.mem_append_left _ (List.mem_append_right _ h))) | exact fun _ h => List.mem_cons_of_mem _ (List.mem_append_left _ (List.mem_append_left _ (List.mem_append_left _ (List.mem_append_right _ h)))) | decide +kernel
set_option maxHeartbeats 4000000 in
set_option maxRecDepth 100000 in
theorem b_X0_requireRoom (htr : l.stackTraces = false) (hn40 : n = 40) : Bd l yX0_requireRoom wsX0_requireRoom rb_X0_requireRoom D vwCl (wC ad cI cZ cJ n kd sd ts fs tr on rp lt ru lg lp) (tyC cI cZ cJ) [.ref (ad 0)] eIS := by
  refine Bd.of (cc := cX0_requireRoom) (maxL := 1) (ret := none) (by decide) rfl (Nat.le_of_ble_eq_true rfl) ?_
  intro p e s m args below meth c ls hx hb hml hown hts htab hlocks hP hK hX0 hl
  have hown : s.vm.findClass RX0 = some m.cls := hown
  have hl : lv_has ls 1 [(0, .ref (ad 0))] := hl
  have hS : va_S (fun q => s.heap.size ≤ q) s.heap s.heap [] := va_S.rf
  have hX : XEh (fun _ => False) s s.heap := hX0
  have hin0 : ∀ w ∈ u_ws RX0 TX0 12, w ∈ wsX0_requireRoom := hin_X0_requireRoom
  refine lv_aload_n hx hb dX0_requireRoom_0 rfl (lv_at hl 0 rfl) ?_
  refine va_get (D := D) (ci := 0) (v := .int (nI n)) (C := RX0) (T := TX0) (N := 12) hx hb hts hin0 hown hK hP 0 rfl rfl 0 (by decide) (hts (.fieldLink RX0 9 "RumourReasoner" "count" "I") (by decide +kernel)) (fun _ h9 => h9) rfl dX0_requireRoom_1 ?_
  refine lv_bipush (v := nI 40) hx hb dX0_requireRoom_4 (by decide) ?_
  refine cF_lt (tgt := 19) hx hb dX0_requireRoom_6 (by decide) (by rw [hn40]; decide) ?_
  exact bd_throw (E := eIS) (is := 214) (text := "there are 40 formulas") (ik := 212) (ic := 216) ⟨hx, hb, hml.trans hl.1.symm, hown, hts⟩ htr rfl (by decide +kernel) (by decide +kernel) (by decide +kernel) (by decide +kernel) hgIS_X0_requireRoom xwIS otIS hX0 htab hlocks hS dX0_requireRoom_9 dX0_requireRoom_12 dX0_requireRoom_13 dX0_requireRoom_15 dX0_requireRoom_18 ⟨Nat.le_of_ble_eq_true rfl, Nat.le_of_ble_eq_true rfl, Nat.le_of_ble_eq_true rfl, Nat.le_of_ble_eq_true rfl⟩

end
