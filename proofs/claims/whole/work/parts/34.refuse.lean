section
variable (l : Launch) (D : va_G) (ad : Nat → Nat) (cI cZ cJ : ClassId) (n : Nat) (kd : Nat → Nat) (sd : Nat → Bool) (ts fs : Nat → Int64) (tr : Nat → Nat) (on : Nat → Bool) (rp : Nat → Nat) (lt : Nat) (ru : Nat → Option Nat) (lg : Nat) (lp : Int64)
def rb_X0_atom : Room := { frames := 7, cells := 1, slots := 6, locals := 102 }
set_option maxHeartbeats 4000000 in
set_option maxRecDepth 100000 in
theorem b_X0_atom_1 (htr : l.stackTraces = false) (x : Int32) (hx9 : x < 0 ∨ nI 6 ≤ x) : Bd l yX0_atom wsX0_atom rb_X0_atom D vwCl (wC ad cI cZ cJ n kd sd ts fs tr on rp lt ru lg lp) (tyC cI cZ cJ) [.ref (ad 0), .int x] eIO := by
  refine Bd.of (cc := cX0_atom) (maxL := 5) (ret := (some .int)) (by decide) rfl (Nat.le_of_ble_eq_true rfl) ?_
  intro p e s m args below meth c ls hx hb hml hown hts htab hlocks hP hK hX0 hl
  have hown : s.vm.findClass RX0 = some m.cls := hown
  have hl : lv_has ls 5 [(0, .ref (ad 0)), (1, .int x)] := hl
  have hS : va_S (fun q => s.heap.size ≤ q) s.heap s.heap [] := va_S.rf
  have hX : XEh (fun _ => False) s s.heap := hX0
  refine lv_iload_n hx hb dX0_atom_0 rfl (lv_at hl 1 rfl) ?_
  exact bd_S (own := RX0) (As := [.int x]) (rest := []) ⟨hx, hb, hml, hown, hts⟩ (b_X0_requireAtom l D htr x hx9) gX0_atom_X0_requireAtom rfl ⟨rfl, rfl⟩ 1 rfl (by decide +kernel) ⟨Nat.le_of_ble_eq_true rfl, Nat.le_of_ble_eq_true rfl⟩ nilP (hK.sub (tys' := []) [] rfl) hX hS htab hlocks hl.1 rfl (Nat.le_of_ble_eq_true rfl) dX0_atom_1 ⟨Nat.le_of_ble_eq_true rfl, Nat.le_of_ble_eq_true rfl⟩

set_option maxHeartbeats 4000000 in
set_option maxRecDepth 100000 in
theorem b_X0_atom_2 (htr : l.stackTraces = false) (a : Nat) (ha : a < 6) (hn40 : n = 40) : Bd l yX0_atom wsX0_atom rb_X0_atom D vwCl (wC ad cI cZ cJ n kd sd ts fs tr on rp lt ru lg lp) (tyC cI cZ cJ) [.ref (ad 0), .int (nI a)] eIS := by
  refine Bd.of (cc := cX0_atom) (maxL := 5) (ret := (some .int)) (by decide) rfl (Nat.le_of_ble_eq_true rfl) ?_
  intro p e s m args below meth c ls hx hb hml hown hts htab hlocks hP hK hX0 hl
  have hown : s.vm.findClass RX0 = some m.cls := hown
  have hl : lv_has ls 5 [(0, .ref (ad 0)), (1, .int (nI a))] := hl
  have hS : va_S (fun q => s.heap.size ≤ q) s.heap s.heap [] := va_S.rf
  have hX : XEh (fun _ => False) s s.heap := hX0
  refine lv_iload_n hx hb dX0_atom_0 rfl (lv_at hl 1 rfl) ?_
  refine puV_S (own := RX0) (As := [.int (nI a)]) (rest := []) ⟨hx, hb, hml, hown, hts⟩ (c_X0_requireAtom l D a (by omega)) gX0_atom_X0_requireAtom rfl ⟨rfl, rfl⟩ 1 rfl (by decide +kernel) ⟨Nat.le_of_ble_eq_true rfl, Nat.le_of_ble_eq_true rfl⟩ nilP (hK.sub (tys' := []) [] rfl) hS hl.1 rfl (Nat.le_of_ble_eq_true rfl) dX0_atom_1 ⟨Nat.zero_le _, Nat.zero_le _⟩ (fun H locs hk1 hS => ?_)
  replace hP := keptP hP hk1
  replace hX := hX.kept (fun q hq _ => hk1 q hq)
  refine lv_aload_n hx hb dX0_atom_4 rfl (lv_at hl 0 rfl) ?_
  exact bd_V (own := RX0) (As := []) (rest := []) (C := RX0) (ci := 0) (q0 := 0) ⟨hx, hb, hml, hown, hts⟩ (b_X0_requireRoom l D ad cI cZ cJ n kd sd ts fs tr on rp lt ru lg lp htr hn40) gX0_atom_X0_requireRoom rfl ⟨rfl, rfl⟩ 0 rfl (by decide +kernel) ⟨Nat.le_of_ble_eq_true rfl, Nat.le_of_ble_eq_true rfl⟩ hP hK rfl rfl rfl hX hS htab hlocks hl.1 rfl (Nat.le_of_ble_eq_true rfl) dX0_atom_5 ⟨Nat.le_of_ble_eq_true rfl, Nat.le_of_ble_eq_true rfl⟩

def rb_X0_constant : Room := { frames := 7, cells := 1, slots := 6, locals := 102 }
set_option maxHeartbeats 4000000 in
set_option maxRecDepth 100000 in
theorem b_X0_constant_1 (htr : l.stackTraces = false) (x : Int32) (hx9 : x < 0 ∨ nI 4 ≤ x) : Bd l yX0_constant wsX0_constant rb_X0_constant D vwCl (wC ad cI cZ cJ n kd sd ts fs tr on rp lt ru lg lp) (tyC cI cZ cJ) [.ref (ad 0), .int x] eIA := by
  refine Bd.of (cc := cX0_constant) (maxL := 4) (ret := (some .int)) (by decide) rfl (Nat.le_of_ble_eq_true rfl) ?_
  intro p e s m args below meth c ls hx hb hml hown hts htab hlocks hP hK hX0 hl
  have hown : s.vm.findClass RX0 = some m.cls := hown
  have hl : lv_has ls 4 [(0, .ref (ad 0)), (1, .int x)] := hl
  have hS : va_S (fun q => s.heap.size ≤ q) s.heap s.heap [] := va_S.rf
  have hX : XEh (fun _ => False) s s.heap := hX0
  refine lv_iload_n hx hb dX0_constant_0 rfl (lv_at hl 1 rfl) ?_
  exact bd_S (own := RX0) (As := [.int x]) (rest := []) ⟨hx, hb, hml, hown, hts⟩ (b_X0_requireValue l D htr x hx9) gX0_constant_X0_requireValue rfl ⟨rfl, rfl⟩ 1 rfl (by decide +kernel) ⟨Nat.le_of_ble_eq_true rfl, Nat.le_of_ble_eq_true rfl⟩ nilP (hK.sub (tys' := []) [] rfl) hX hS htab hlocks hl.1 rfl (Nat.le_of_ble_eq_true rfl) dX0_constant_1 ⟨Nat.le_of_ble_eq_true rfl, Nat.le_of_ble_eq_true rfl⟩

set_option maxHeartbeats 4000000 in
set_option maxRecDepth 100000 in
theorem b_X0_constant_2 (htr : l.stackTraces = false) (a : Nat) (ha : a < 4) (hn40 : n = 40) : Bd l yX0_constant wsX0_constant rb_X0_constant D vwCl (wC ad cI cZ cJ n kd sd ts fs tr on rp lt ru lg lp) (tyC cI cZ cJ) [.ref (ad 0), .int (nI a)] eIS := by
  refine Bd.of (cc := cX0_constant) (maxL := 4) (ret := (some .int)) (by decide) rfl (Nat.le_of_ble_eq_true rfl) ?_
  intro p e s m args below meth c ls hx hb hml hown hts htab hlocks hP hK hX0 hl
  have hown : s.vm.findClass RX0 = some m.cls := hown
  have hl : lv_has ls 4 [(0, .ref (ad 0)), (1, .int (nI a))] := hl
  have hS : va_S (fun q => s.heap.size ≤ q) s.heap s.heap [] := va_S.rf
  have hX : XEh (fun _ => False) s s.heap := hX0
  refine lv_iload_n hx hb dX0_constant_0 rfl (lv_at hl 1 rfl) ?_
  refine puV_S (own := RX0) (As := [.int (nI a)]) (rest := []) ⟨hx, hb, hml, hown, hts⟩ (c_X0_requireValue l D a (by omega)) gX0_constant_X0_requireValue rfl ⟨rfl, rfl⟩ 1 rfl (by decide +kernel) ⟨Nat.le_of_ble_eq_true rfl, Nat.le_of_ble_eq_true rfl⟩ nilP (hK.sub (tys' := []) [] rfl) hS hl.1 rfl (Nat.le_of_ble_eq_true rfl) dX0_constant_1 ⟨Nat.zero_le _, Nat.zero_le _⟩ (fun H locs hk1 hS => ?_)
  replace hP := keptP hP hk1
  replace hX := hX.kept (fun q hq _ => hk1 q hq)
  refine lv_aload_n hx hb dX0_constant_4 rfl (lv_at hl 0 rfl) ?_
  exact bd_V (own := RX0) (As := []) (rest := []) (C := RX0) (ci := 0) (q0 := 0) ⟨hx, hb, hml, hown, hts⟩ (b_X0_requireRoom l D ad cI cZ cJ n kd sd ts fs tr on rp lt ru lg lp htr hn40) gX0_constant_X0_requireRoom rfl ⟨rfl, rfl⟩ 0 rfl (by decide +kernel) ⟨Nat.le_of_ble_eq_true rfl, Nat.le_of_ble_eq_true rfl⟩ hP hK rfl rfl rfl hX hS htab hlocks hl.1 rfl (Nat.le_of_ble_eq_true rfl) dX0_constant_5 ⟨Nat.le_of_ble_eq_true rfl, Nat.le_of_ble_eq_true rfl⟩

def rb_X0_turn : Room := { frames := 7, cells := 1, slots := 6, locals := 103 }
set_option maxHeartbeats 4000000 in
set_option maxRecDepth 100000 in
theorem b_X0_turn_1 (htr : l.stackTraces = false) (hO : OKC n tr rp lt lg ru) (y : Int32) (x : Int32) (hx9 : x < 0 ∨ nI n ≤ x) : Bd l yX0_turn wsX0_turn rb_X0_turn D vwCl (wC ad cI cZ cJ n kd sd ts fs tr on rp lt ru lg lp) (tyC cI cZ cJ) [.ref (ad 0), .int y, .int x] eIO := by
  refine Bd.of (cc := cX0_turn) (maxL := 10) (ret := (some .int)) (by decide) rfl (Nat.le_of_ble_eq_true rfl) ?_
  intro p e s m args below meth c ls hx hb hml hown hts htab hlocks hP hK hX0 hl
  have hown : s.vm.findClass RX0 = some m.cls := hown
  have hl : lv_has ls 10 [(0, .ref (ad 0)), (1, .int y), (2, .int x)] := hl
  have hS : va_S (fun q => s.heap.size ≤ q) s.heap s.heap [] := va_S.rf
  have hX : XEh (fun _ => False) s s.heap := hX0
  refine lv_aload_n hx hb dX0_turn_0 rfl (lv_at hl 0 rfl) ?_
  refine lv_iload_n hx hb dX0_turn_1 rfl (lv_at hl 2 rfl) ?_
  exact bd_V (own := RX0) (As := [.int x]) (rest := []) (C := RX0) (ci := 0) (q0 := 0) ⟨hx, hb, hml, hown, hts⟩ (b_X0_requireFormula l D ad cI cZ cJ n kd sd ts fs tr on rp lt ru lg lp htr hO x hx9) gX0_turn_X0_requireFormula rfl ⟨rfl, rfl⟩ 1 rfl (by decide +kernel) ⟨Nat.le_of_ble_eq_true rfl, Nat.le_of_ble_eq_true rfl⟩ hP hK rfl rfl rfl hX hS htab hlocks hl.1 rfl (Nat.le_of_ble_eq_true rfl) dX0_turn_2 ⟨Nat.le_of_ble_eq_true rfl, Nat.le_of_ble_eq_true rfl⟩

theorem hgIA_X0_turn : ∀ w ∈ aIA.filter goodWord, w ∈ wsX0_turn := by first | exact fun _ h => List.mem_cons_of_mem _ (List.mem_append_right _ h) | exact fun _ h => List.mem_cons_of_mem _ (List.mem_append_left _ (List.mem_append_right _ h)) | exact fun _ h => List.mem_cons_of_mem _ (List.mem_append_left _ (List.mem_append_left _ (List.mem_append_right _ h))) | exact fun _ h => List.mem_cons_of_mem _ (List.mem_append_left _ (List.mem_append_left _ (List.mem_append_left _ (List.mem_append_right _ h)))) | decide +kernel
set_option maxHeartbeats 4000000 in
set_option maxRecDepth 100000 in
theorem b_X0_turn_2 (htr : l.stackTraces = false) (hO : OKC n tr rp lt lg ru) (y : Int32) (a : Nat) (ha : a < n) (hy9 : ¬ y = nI 2 ∧ ¬ y = nI 8) : Bd l yX0_turn wsX0_turn rb_X0_turn D vwCl (wC ad cI cZ cJ n kd sd ts fs tr on rp lt ru lg lp) (tyC cI cZ cJ) [.ref (ad 0), .int y, .int (nI a)] eIA := by
  refine Bd.of (cc := cX0_turn) (maxL := 10) (ret := (some .int)) (by decide) rfl (Nat.le_of_ble_eq_true rfl) ?_
  intro p e s m args below meth c ls hx hb hml hown hts htab hlocks hP hK hX0 hl
  have hown : s.vm.findClass RX0 = some m.cls := hown
  have hl : lv_has ls 10 [(0, .ref (ad 0)), (1, .int y), (2, .int (nI a))] := hl
  have hS : va_S (fun q => s.heap.size ≤ q) s.heap s.heap [] := va_S.rf
  have hX : XEh (fun _ => False) s s.heap := hX0
  refine lv_aload_n hx hb dX0_turn_0 rfl (lv_at hl 0 rfl) ?_
  refine lv_iload_n hx hb dX0_turn_1 rfl (lv_at hl 2 rfl) ?_
  refine puV_V (own := RX0) (As := [.int (nI a)]) (rest := []) (C := RX0) (ci := 0) (q0 := 0) ⟨hx, hb, hml, hown, hts⟩ (c_X0_requireFormula l D ad cI cZ cJ n kd sd ts fs tr on rp lt ru lg lp hO a (by omega)) gX0_turn_X0_requireFormula rfl ⟨rfl, rfl⟩ 1 rfl (by decide +kernel) ⟨Nat.le_of_ble_eq_true rfl, Nat.le_of_ble_eq_true rfl⟩ hP hK rfl rfl rfl hS hl.1 rfl (Nat.le_of_ble_eq_true rfl) dX0_turn_2 ⟨Nat.zero_le _, Nat.zero_le _⟩ (fun H locs hk1 hS => ?_)
  replace hP := keptP hP hk1
  replace hX := hX.kept (fun q hq _ => hk1 q hq)
  refine lv_iload_n hx hb dX0_turn_5 rfl (lv_at hl 1 rfl) ?_
  refine lv_iconst (v := nI 2) hx hb dX0_turn_6 (by decide) ?_
  refine cF_eq (tgt := 26) hx hb dX0_turn_7 (by decide) (hy9.1) ?_
  refine lv_iload_n hx hb dX0_turn_10 rfl (lv_at hl 1 rfl) ?_
  refine lv_bipush (v := nI 8) hx hb dX0_turn_11 (by decide) ?_
  refine cF_eq (tgt := 26) hx hb dX0_turn_13 (by decide) (hy9.2) ?_
  exact bd_throw (E := eIA) (is := 82) (text := "kind is not 2 or 8") (ik := 80) (ic := 84) ⟨hx, hb, hml.trans hl.1.symm, hown, hts⟩ htr rfl (by decide +kernel) (by decide +kernel) (by decide +kernel) (by decide +kernel) hgIA_X0_turn xwIA otIA hX0 htab hlocks hS dX0_turn_16 dX0_turn_19 dX0_turn_20 dX0_turn_22 dX0_turn_25 ⟨Nat.le_of_ble_eq_true rfl, Nat.le_of_ble_eq_true rfl, Nat.le_of_ble_eq_true rfl, Nat.le_of_ble_eq_true rfl⟩

set_option maxHeartbeats 4000000 in
set_option maxRecDepth 100000 in
theorem b_X0_turn_3 (htr : l.stackTraces = false) (hO : OKC n tr rp lt lg ru) (a : Nat) (ha : a < n) (hn40 : n = 40) : Bd l yX0_turn wsX0_turn rb_X0_turn D vwCl (wC ad cI cZ cJ n kd sd ts fs tr on rp lt ru lg lp) (tyC cI cZ cJ) [.ref (ad 0), .int (nI 2), .int (nI a)] eIS := by
  refine Bd.of (cc := cX0_turn) (maxL := 10) (ret := (some .int)) (by decide) rfl (Nat.le_of_ble_eq_true rfl) ?_
  intro p e s m args below meth c ls hx hb hml hown hts htab hlocks hP hK hX0 hl
  have hown : s.vm.findClass RX0 = some m.cls := hown
  have hl : lv_has ls 10 [(0, .ref (ad 0)), (1, .int (nI 2)), (2, .int (nI a))] := hl
  have hS : va_S (fun q => s.heap.size ≤ q) s.heap s.heap [] := va_S.rf
  have hX : XEh (fun _ => False) s s.heap := hX0
  refine lv_aload_n hx hb dX0_turn_0 rfl (lv_at hl 0 rfl) ?_
  refine lv_iload_n hx hb dX0_turn_1 rfl (lv_at hl 2 rfl) ?_
  refine puV_V (own := RX0) (As := [.int (nI a)]) (rest := []) (C := RX0) (ci := 0) (q0 := 0) ⟨hx, hb, hml, hown, hts⟩ (c_X0_requireFormula l D ad cI cZ cJ n kd sd ts fs tr on rp lt ru lg lp hO a (by omega)) gX0_turn_X0_requireFormula rfl ⟨rfl, rfl⟩ 1 rfl (by decide +kernel) ⟨Nat.le_of_ble_eq_true rfl, Nat.le_of_ble_eq_true rfl⟩ hP hK rfl rfl rfl hS hl.1 rfl (Nat.le_of_ble_eq_true rfl) dX0_turn_2 ⟨Nat.zero_le _, Nat.zero_le _⟩ (fun H locs hk1 hS => ?_)
  replace hP := keptP hP hk1
  replace hX := hX.kept (fun q hq _ => hk1 q hq)
  refine lv_iload_n hx hb dX0_turn_5 rfl (lv_at hl 1 rfl) ?_
  refine lv_iconst (v := nI 2) hx hb dX0_turn_6 (by decide) ?_
  refine cT_eq (tgt := 26) hx hb dX0_turn_7 (by decide) (rfl) ?_
  refine lv_aload_n hx hb dX0_turn_26 rfl (lv_at hl 0 rfl) ?_
  exact bd_V (own := RX0) (As := []) (rest := []) (C := RX0) (ci := 0) (q0 := 0) ⟨hx, hb, hml, hown, hts⟩ (b_X0_requireRoom l D ad cI cZ cJ n kd sd ts fs tr on rp lt ru lg lp htr hn40) gX0_turn_X0_requireRoom rfl ⟨rfl, rfl⟩ 0 rfl (by decide +kernel) ⟨Nat.le_of_ble_eq_true rfl, Nat.le_of_ble_eq_true rfl⟩ hP hK rfl rfl rfl hX hS htab hlocks hl.1 rfl (Nat.le_of_ble_eq_true rfl) dX0_turn_27 ⟨Nat.le_of_ble_eq_true rfl, Nat.le_of_ble_eq_true rfl⟩

set_option maxHeartbeats 4000000 in
set_option maxRecDepth 100000 in
theorem b_X0_turn_4 (htr : l.stackTraces = false) (hO : OKC n tr rp lt lg ru) (a : Nat) (ha : a < n) (hn40 : n = 40) : Bd l yX0_turn wsX0_turn rb_X0_turn D vwCl (wC ad cI cZ cJ n kd sd ts fs tr on rp lt ru lg lp) (tyC cI cZ cJ) [.ref (ad 0), .int (nI 8), .int (nI a)] eIS := by
  refine Bd.of (cc := cX0_turn) (maxL := 10) (ret := (some .int)) (by decide) rfl (Nat.le_of_ble_eq_true rfl) ?_
  intro p e s m args below meth c ls hx hb hml hown hts htab hlocks hP hK hX0 hl
  have hown : s.vm.findClass RX0 = some m.cls := hown
  have hl : lv_has ls 10 [(0, .ref (ad 0)), (1, .int (nI 8)), (2, .int (nI a))] := hl
  have hS : va_S (fun q => s.heap.size ≤ q) s.heap s.heap [] := va_S.rf
  have hX : XEh (fun _ => False) s s.heap := hX0
  refine lv_aload_n hx hb dX0_turn_0 rfl (lv_at hl 0 rfl) ?_
  refine lv_iload_n hx hb dX0_turn_1 rfl (lv_at hl 2 rfl) ?_
  refine puV_V (own := RX0) (As := [.int (nI a)]) (rest := []) (C := RX0) (ci := 0) (q0 := 0) ⟨hx, hb, hml, hown, hts⟩ (c_X0_requireFormula l D ad cI cZ cJ n kd sd ts fs tr on rp lt ru lg lp hO a (by omega)) gX0_turn_X0_requireFormula rfl ⟨rfl, rfl⟩ 1 rfl (by decide +kernel) ⟨Nat.le_of_ble_eq_true rfl, Nat.le_of_ble_eq_true rfl⟩ hP hK rfl rfl rfl hS hl.1 rfl (Nat.le_of_ble_eq_true rfl) dX0_turn_2 ⟨Nat.zero_le _, Nat.zero_le _⟩ (fun H locs hk1 hS => ?_)
  replace hP := keptP hP hk1
  replace hX := hX.kept (fun q hq _ => hk1 q hq)
  refine lv_iload_n hx hb dX0_turn_5 rfl (lv_at hl 1 rfl) ?_
  refine lv_iconst (v := nI 2) hx hb dX0_turn_6 (by decide) ?_
  refine cF_eq (tgt := 26) hx hb dX0_turn_7 (by decide) (by decide) ?_
  refine lv_iload_n hx hb dX0_turn_10 rfl (lv_at hl 1 rfl) ?_
  refine lv_bipush (v := nI 8) hx hb dX0_turn_11 (by decide) ?_
  refine cT_eq (tgt := 26) hx hb dX0_turn_13 (by decide) (rfl) ?_
  refine lv_aload_n hx hb dX0_turn_26 rfl (lv_at hl 0 rfl) ?_
  exact bd_V (own := RX0) (As := []) (rest := []) (C := RX0) (ci := 0) (q0 := 0) ⟨hx, hb, hml, hown, hts⟩ (b_X0_requireRoom l D ad cI cZ cJ n kd sd ts fs tr on rp lt ru lg lp htr hn40) gX0_turn_X0_requireRoom rfl ⟨rfl, rfl⟩ 0 rfl (by decide +kernel) ⟨Nat.le_of_ble_eq_true rfl, Nat.le_of_ble_eq_true rfl⟩ hP hK rfl rfl rfl hX hS htab hlocks hl.1 rfl (Nat.le_of_ble_eq_true rfl) dX0_turn_27 ⟨Nat.le_of_ble_eq_true rfl, Nat.le_of_ble_eq_true rfl⟩

def rb_X0_join : Room := { frames := 7, cells := 1, slots := 6, locals := 103 }
set_option maxHeartbeats 4000000 in
set_option maxRecDepth 100000 in
theorem b_X0_join_1 (htr : l.stackTraces = false) (hO : OKC n tr rp lt lg ru) (y z : Int32) (x : Int32) (hx9 : x < 0 ∨ nI n ≤ x) : Bd l yX0_join wsX0_join rb_X0_join D vwCl (wC ad cI cZ cJ n kd sd ts fs tr on rp lt ru lg lp) (tyC cI cZ cJ) [.ref (ad 0), .int y, .int x, .int z] eIO := by
  refine Bd.of (cc := cX0_join) (maxL := 10) (ret := (some .int)) (by decide) rfl (Nat.le_of_ble_eq_true rfl) ?_
  intro p e s m args below meth c ls hx hb hml hown hts htab hlocks hP hK hX0 hl
  have hown : s.vm.findClass RX0 = some m.cls := hown
  have hl : lv_has ls 10 [(0, .ref (ad 0)), (1, .int y), (2, .int x), (3, .int z)] := hl
  have hS : va_S (fun q => s.heap.size ≤ q) s.heap s.heap [] := va_S.rf
  have hX : XEh (fun _ => False) s s.heap := hX0
  refine lv_aload_n hx hb dX0_join_0 rfl (lv_at hl 0 rfl) ?_
  refine lv_iload_n hx hb dX0_join_1 rfl (lv_at hl 2 rfl) ?_
  exact bd_V (own := RX0) (As := [.int x]) (rest := []) (C := RX0) (ci := 0) (q0 := 0) ⟨hx, hb, hml, hown, hts⟩ (b_X0_requireFormula l D ad cI cZ cJ n kd sd ts fs tr on rp lt ru lg lp htr hO x hx9) gX0_join_X0_requireFormula rfl ⟨rfl, rfl⟩ 1 rfl (by decide +kernel) ⟨Nat.le_of_ble_eq_true rfl, Nat.le_of_ble_eq_true rfl⟩ hP hK rfl rfl rfl hX hS htab hlocks hl.1 rfl (Nat.le_of_ble_eq_true rfl) dX0_join_2 ⟨Nat.le_of_ble_eq_true rfl, Nat.le_of_ble_eq_true rfl⟩

set_option maxHeartbeats 4000000 in
set_option maxRecDepth 100000 in
theorem b_X0_join_2 (htr : l.stackTraces = false) (hO : OKC n tr rp lt lg ru) (y : Int32) (a : Nat) (ha : a < n) (x : Int32) (hx9 : x < 0 ∨ nI n ≤ x) : Bd l yX0_join wsX0_join rb_X0_join D vwCl (wC ad cI cZ cJ n kd sd ts fs tr on rp lt ru lg lp) (tyC cI cZ cJ) [.ref (ad 0), .int y, .int (nI a), .int x] eIO := by
  refine Bd.of (cc := cX0_join) (maxL := 10) (ret := (some .int)) (by decide) rfl (Nat.le_of_ble_eq_true rfl) ?_
  intro p e s m args below meth c ls hx hb hml hown hts htab hlocks hP hK hX0 hl
  have hown : s.vm.findClass RX0 = some m.cls := hown
  have hl : lv_has ls 10 [(0, .ref (ad 0)), (1, .int y), (2, .int (nI a)), (3, .int x)] := hl
  have hS : va_S (fun q => s.heap.size ≤ q) s.heap s.heap [] := va_S.rf
  have hX : XEh (fun _ => False) s s.heap := hX0
  refine lv_aload_n hx hb dX0_join_0 rfl (lv_at hl 0 rfl) ?_
  refine lv_iload_n hx hb dX0_join_1 rfl (lv_at hl 2 rfl) ?_
  refine puV_V (own := RX0) (As := [.int (nI a)]) (rest := []) (C := RX0) (ci := 0) (q0 := 0) ⟨hx, hb, hml, hown, hts⟩ (c_X0_requireFormula l D ad cI cZ cJ n kd sd ts fs tr on rp lt ru lg lp hO a (by omega)) gX0_join_X0_requireFormula rfl ⟨rfl, rfl⟩ 1 rfl (by decide +kernel) ⟨Nat.le_of_ble_eq_true rfl, Nat.le_of_ble_eq_true rfl⟩ hP hK rfl rfl rfl hS hl.1 rfl (Nat.le_of_ble_eq_true rfl) dX0_join_2 ⟨Nat.zero_le _, Nat.zero_le _⟩ (fun H locs hk1 hS => ?_)
  replace hP := keptP hP hk1
  replace hX := hX.kept (fun q hq _ => hk1 q hq)
  refine lv_aload_n hx hb dX0_join_5 rfl (lv_at hl 0 rfl) ?_
  refine lv_iload_n hx hb dX0_join_6 rfl (lv_at hl 3 rfl) ?_
  exact bd_V (own := RX0) (As := [.int x]) (rest := []) (C := RX0) (ci := 0) (q0 := 0) ⟨hx, hb, hml, hown, hts⟩ (b_X0_requireFormula l D ad cI cZ cJ n kd sd ts fs tr on rp lt ru lg lp htr hO x hx9) gX0_join_X0_requireFormula rfl ⟨rfl, rfl⟩ 1 rfl (by decide +kernel) ⟨Nat.le_of_ble_eq_true rfl, Nat.le_of_ble_eq_true rfl⟩ hP hK rfl rfl rfl hX hS htab hlocks hl.1 rfl (Nat.le_of_ble_eq_true rfl) dX0_join_7 ⟨Nat.le_of_ble_eq_true rfl, Nat.le_of_ble_eq_true rfl⟩

theorem hgIA_X0_join : ∀ w ∈ aIA.filter goodWord, w ∈ wsX0_join := by first | exact fun _ h => List.mem_cons_of_mem _ (List.mem_append_right _ h) | exact fun _ h => List.mem_cons_of_mem _ (List.mem_append_left _ (List.mem_append_right _ h)) | exact fun _ h => List.mem_cons_of_mem _ (List.mem_append_left _ (List.mem_append_left _ (List.mem_append_right _ h))) | exact fun _ h => List.mem_cons_of_mem _ (List.mem_append_left _ (List.mem_append_left _ (List.mem_append_left _ (List.mem_append_right _ h)))) | decide +kernel
set_option maxHeartbeats 4000000 in
set_option maxRecDepth 100000 in
theorem b_X0_join_3 (htr : l.stackTraces = false) (hO : OKC n tr rp lt lg ru) (y : Int32) (a b : Nat) (ha : a < n) (hb9 : b < n) (hy9 : y < nI 3 ∨ nI 8 ≤ y) : Bd l yX0_join wsX0_join rb_X0_join D vwCl (wC ad cI cZ cJ n kd sd ts fs tr on rp lt ru lg lp) (tyC cI cZ cJ) [.ref (ad 0), .int y, .int (nI a), .int (nI b)] eIA := by
  refine Bd.of (cc := cX0_join) (maxL := 10) (ret := (some .int)) (by decide) rfl (Nat.le_of_ble_eq_true rfl) ?_
  intro p e s m args below meth c ls hx hb hml hown hts htab hlocks hP hK hX0 hl
  have hown : s.vm.findClass RX0 = some m.cls := hown
  have hl : lv_has ls 10 [(0, .ref (ad 0)), (1, .int y), (2, .int (nI a)), (3, .int (nI b))] := hl
  have hS : va_S (fun q => s.heap.size ≤ q) s.heap s.heap [] := va_S.rf
  have hX : XEh (fun _ => False) s s.heap := hX0
  refine lv_aload_n hx hb dX0_join_0 rfl (lv_at hl 0 rfl) ?_
  refine lv_iload_n hx hb dX0_join_1 rfl (lv_at hl 2 rfl) ?_
  refine puV_V (own := RX0) (As := [.int (nI a)]) (rest := []) (C := RX0) (ci := 0) (q0 := 0) ⟨hx, hb, hml, hown, hts⟩ (c_X0_requireFormula l D ad cI cZ cJ n kd sd ts fs tr on rp lt ru lg lp hO a (by omega)) gX0_join_X0_requireFormula rfl ⟨rfl, rfl⟩ 1 rfl (by decide +kernel) ⟨Nat.le_of_ble_eq_true rfl, Nat.le_of_ble_eq_true rfl⟩ hP hK rfl rfl rfl hS hl.1 rfl (Nat.le_of_ble_eq_true rfl) dX0_join_2 ⟨Nat.zero_le _, Nat.zero_le _⟩ (fun H locs hk1 hS => ?_)
  replace hP := keptP hP hk1
  replace hX := hX.kept (fun q hq _ => hk1 q hq)
  refine lv_aload_n hx hb dX0_join_5 rfl (lv_at hl 0 rfl) ?_
  refine lv_iload_n hx hb dX0_join_6 rfl (lv_at hl 3 rfl) ?_
  refine puV_V (own := RX0) (As := [.int (nI b)]) (rest := []) (C := RX0) (ci := 0) (q0 := 0) ⟨hx, hb, hml, hown, hts⟩ (c_X0_requireFormula l D ad cI cZ cJ n kd sd ts fs tr on rp lt ru lg lp hO b (by omega)) gX0_join_X0_requireFormula rfl ⟨rfl, rfl⟩ 1 rfl (by decide +kernel) ⟨Nat.le_of_ble_eq_true rfl, Nat.le_of_ble_eq_true rfl⟩ hP hK rfl rfl rfl hS hl.1 rfl (Nat.le_of_ble_eq_true rfl) dX0_join_7 ⟨Nat.zero_le _, Nat.zero_le _⟩ (fun H locs hk1 hS => ?_)
  replace hP := keptP hP hk1
  replace hX := hX.kept (fun q hq _ => hk1 q hq)
  refine lv_iload_n hx hb dX0_join_10 rfl (lv_at hl 1 rfl) ?_
  refine lv_iconst (v := nI 3) hx hb dX0_join_11 (by decide) ?_
  refine lv_icmp_lt (tgt := 21) hx hb dX0_join_12 (by decide) (fun c_1 => ?_) (fun c_1 => ?_)
  · exact bd_throw (E := eIA) (is := 87) (text := "kind is not 3 to 7") (ik := 80) (ic := 84) ⟨hx, hb, hml.trans hl.1.symm, hown, hts⟩ htr rfl (by decide +kernel) (by decide +kernel) (by decide +kernel) (by decide +kernel) hgIA_X0_join xwIA otIA hX0 htab hlocks hS dX0_join_21 dX0_join_24 dX0_join_25 dX0_join_27 dX0_join_30 ⟨Nat.le_of_ble_eq_true rfl, Nat.le_of_ble_eq_true rfl, Nat.le_of_ble_eq_true rfl, Nat.le_of_ble_eq_true rfl⟩
  · have hy8 : nI 8 ≤ y := hy9.resolve_left c_1
    refine lv_iload_n hx hb dX0_join_15 rfl (lv_at hl 1 rfl) ?_
    refine lv_bipush (v := nI 7) hx hb dX0_join_16 (by decide) ?_
    refine cF_le (tgt := 31) hx hb dX0_join_18 (by decide) (hi_bad hy8 (by omega)) ?_
    exact bd_throw (E := eIA) (is := 87) (text := "kind is not 3 to 7") (ik := 80) (ic := 84) ⟨hx, hb, hml.trans hl.1.symm, hown, hts⟩ htr rfl (by decide +kernel) (by decide +kernel) (by decide +kernel) (by decide +kernel) hgIA_X0_join xwIA otIA hX0 htab hlocks hS dX0_join_21 dX0_join_24 dX0_join_25 dX0_join_27 dX0_join_30 ⟨Nat.le_of_ble_eq_true rfl, Nat.le_of_ble_eq_true rfl, Nat.le_of_ble_eq_true rfl, Nat.le_of_ble_eq_true rfl⟩

set_option maxHeartbeats 4000000 in
set_option maxRecDepth 100000 in
theorem b_X0_join_4 (htr : l.stackTraces = false) (hO : OKC n tr rp lt lg ru) (k a b : Nat) (hk : 3 ≤ k ∧ k ≤ 7) (ha : a < n) (hb9 : b < n) (hn40 : n = 40) : Bd l yX0_join wsX0_join rb_X0_join D vwCl (wC ad cI cZ cJ n kd sd ts fs tr on rp lt ru lg lp) (tyC cI cZ cJ) [.ref (ad 0), .int (nI k), .int (nI a), .int (nI b)] eIS := by
  refine Bd.of (cc := cX0_join) (maxL := 10) (ret := (some .int)) (by decide) rfl (Nat.le_of_ble_eq_true rfl) ?_
  intro p e s m args below meth c ls hx hb hml hown hts htab hlocks hP hK hX0 hl
  have hown : s.vm.findClass RX0 = some m.cls := hown
  have hl : lv_has ls 10 [(0, .ref (ad 0)), (1, .int (nI k)), (2, .int (nI a)), (3, .int (nI b))] := hl
  have hS : va_S (fun q => s.heap.size ≤ q) s.heap s.heap [] := va_S.rf
  have hX : XEh (fun _ => False) s s.heap := hX0
  refine lv_aload_n hx hb dX0_join_0 rfl (lv_at hl 0 rfl) ?_
  refine lv_iload_n hx hb dX0_join_1 rfl (lv_at hl 2 rfl) ?_
  refine puV_V (own := RX0) (As := [.int (nI a)]) (rest := []) (C := RX0) (ci := 0) (q0 := 0) ⟨hx, hb, hml, hown, hts⟩ (c_X0_requireFormula l D ad cI cZ cJ n kd sd ts fs tr on rp lt ru lg lp hO a (by omega)) gX0_join_X0_requireFormula rfl ⟨rfl, rfl⟩ 1 rfl (by decide +kernel) ⟨Nat.le_of_ble_eq_true rfl, Nat.le_of_ble_eq_true rfl⟩ hP hK rfl rfl rfl hS hl.1 rfl (Nat.le_of_ble_eq_true rfl) dX0_join_2 ⟨Nat.zero_le _, Nat.zero_le _⟩ (fun H locs hk1 hS => ?_)
  replace hP := keptP hP hk1
  replace hX := hX.kept (fun q hq _ => hk1 q hq)
  refine lv_aload_n hx hb dX0_join_5 rfl (lv_at hl 0 rfl) ?_
  refine lv_iload_n hx hb dX0_join_6 rfl (lv_at hl 3 rfl) ?_
  refine puV_V (own := RX0) (As := [.int (nI b)]) (rest := []) (C := RX0) (ci := 0) (q0 := 0) ⟨hx, hb, hml, hown, hts⟩ (c_X0_requireFormula l D ad cI cZ cJ n kd sd ts fs tr on rp lt ru lg lp hO b (by omega)) gX0_join_X0_requireFormula rfl ⟨rfl, rfl⟩ 1 rfl (by decide +kernel) ⟨Nat.le_of_ble_eq_true rfl, Nat.le_of_ble_eq_true rfl⟩ hP hK rfl rfl rfl hS hl.1 rfl (Nat.le_of_ble_eq_true rfl) dX0_join_7 ⟨Nat.zero_le _, Nat.zero_le _⟩ (fun H locs hk1 hS => ?_)
  replace hP := keptP hP hk1
  replace hX := hX.kept (fun q hq _ => hk1 q hq)
  refine lv_iload_n hx hb dX0_join_10 rfl (lv_at hl 1 rfl) ?_
  refine lv_iconst (v := nI 3) hx hb dX0_join_11 (by decide) ?_
  refine cF_lt (tgt := 21) hx hb dX0_join_12 (by decide) (nI_nlt (by omega) (by omega)) ?_
  refine lv_iload_n hx hb dX0_join_15 rfl (lv_at hl 1 rfl) ?_
  refine lv_bipush (v := nI 7) hx hb dX0_join_16 (by decide) ?_
  refine cT_le (tgt := 31) hx hb dX0_join_18 (by decide) (nI_le (by omega) (by omega)) ?_
  refine lv_aload_n hx hb dX0_join_31 rfl (lv_at hl 0 rfl) ?_
  exact bd_V (own := RX0) (As := []) (rest := []) (C := RX0) (ci := 0) (q0 := 0) ⟨hx, hb, hml, hown, hts⟩ (b_X0_requireRoom l D ad cI cZ cJ n kd sd ts fs tr on rp lt ru lg lp htr hn40) gX0_join_X0_requireRoom rfl ⟨rfl, rfl⟩ 0 rfl (by decide +kernel) ⟨Nat.le_of_ble_eq_true rfl, Nat.le_of_ble_eq_true rfl⟩ hP hK rfl rfl rfl hX hS htab hlocks hl.1 rfl (Nat.le_of_ble_eq_true rfl) dX0_join_32 ⟨Nat.le_of_ble_eq_true rfl, Nat.le_of_ble_eq_true rfl⟩

def rb_X0_isSteady : Room := { frames := 7, cells := 1, slots := 6, locals := 103 }
set_option maxHeartbeats 4000000 in
set_option maxRecDepth 100000 in
theorem b_X0_isSteady (htr : l.stackTraces = false) (hO : OKC n tr rp lt lg ru) (x : Int32) (hx9 : x < 0 ∨ nI n ≤ x) : Bd l yX0_isSteady wsX0_isSteady rb_X0_isSteady D vwCl (wC ad cI cZ cJ n kd sd ts fs tr on rp lt ru lg lp) (tyC cI cZ cJ) [.ref (ad 0), .int x] eIO := by
  refine Bd.of (cc := cX0_isSteady) (maxL := 2) (ret := (some .boolean)) (by decide) rfl (Nat.le_of_ble_eq_true rfl) ?_
  intro p e s m args below meth c ls hx hb hml hown hts htab hlocks hP hK hX0 hl
  have hown : s.vm.findClass RX0 = some m.cls := hown
  have hl : lv_has ls 2 [(0, .ref (ad 0)), (1, .int x)] := hl
  have hS : va_S (fun q => s.heap.size ≤ q) s.heap s.heap [] := va_S.rf
  have hX : XEh (fun _ => False) s s.heap := hX0
  refine lv_aload_n hx hb dX0_isSteady_0 rfl (lv_at hl 0 rfl) ?_
  refine lv_iload_n hx hb dX0_isSteady_1 rfl (lv_at hl 1 rfl) ?_
  exact bd_V (own := RX0) (As := [.int x]) (rest := []) (C := RX0) (ci := 0) (q0 := 0) ⟨hx, hb, hml, hown, hts⟩ (b_X0_requireFormula l D ad cI cZ cJ n kd sd ts fs tr on rp lt ru lg lp htr hO x hx9) gX0_isSteady_X0_requireFormula rfl ⟨rfl, rfl⟩ 1 rfl (by decide +kernel) ⟨Nat.le_of_ble_eq_true rfl, Nat.le_of_ble_eq_true rfl⟩ hP hK rfl rfl rfl hX hS htab hlocks hl.1 rfl (Nat.le_of_ble_eq_true rfl) dX0_isSteady_2 ⟨Nat.le_of_ble_eq_true rfl, Nat.le_of_ble_eq_true rfl⟩

def rb_X0_value : Room := { frames := 7, cells := 1, slots := 6, locals := 103 }
set_option maxHeartbeats 4000000 in
set_option maxRecDepth 100000 in
theorem b_X0_value (htr : l.stackTraces = false) (hO : OKC n tr rp lt lg ru) (x : Int32) (hx9 : x < 0 ∨ nI n ≤ x) : Bd l yX0_value wsX0_value rb_X0_value D vwCl (wC ad cI cZ cJ n kd sd ts fs tr on rp lt ru lg lp) (tyC cI cZ cJ) [.ref (ad 0), .int x] eIO := by
  refine Bd.of (cc := cX0_value) (maxL := 2) (ret := (some .int)) (by decide) rfl (Nat.le_of_ble_eq_true rfl) ?_
  intro p e s m args below meth c ls hx hb hml hown hts htab hlocks hP hK hX0 hl
  have hown : s.vm.findClass RX0 = some m.cls := hown
  have hl : lv_has ls 2 [(0, .ref (ad 0)), (1, .int x)] := hl
  have hS : va_S (fun q => s.heap.size ≤ q) s.heap s.heap [] := va_S.rf
  have hX : XEh (fun _ => False) s s.heap := hX0
  refine lv_aload_n hx hb dX0_value_0 rfl (lv_at hl 0 rfl) ?_
  refine lv_iload_n hx hb dX0_value_1 rfl (lv_at hl 1 rfl) ?_
  exact bd_V (own := RX0) (As := [.int x]) (rest := []) (C := RX0) (ci := 0) (q0 := 0) ⟨hx, hb, hml, hown, hts⟩ (b_X0_requireFormula l D ad cI cZ cJ n kd sd ts fs tr on rp lt ru lg lp htr hO x hx9) gX0_value_X0_requireFormula rfl ⟨rfl, rfl⟩ 1 rfl (by decide +kernel) ⟨Nat.le_of_ble_eq_true rfl, Nat.le_of_ble_eq_true rfl⟩ hP hK rfl rfl rfl hX hS htab hlocks hl.1 rfl (Nat.le_of_ble_eq_true rfl) dX0_value_2 ⟨Nat.le_of_ble_eq_true rfl, Nat.le_of_ble_eq_true rfl⟩

def rb_X0_models : Room := { frames := 7, cells := 1, slots := 6, locals := 103 }
set_option maxHeartbeats 4000000 in
set_option maxRecDepth 100000 in
theorem b_X0_models (htr : l.stackTraces = false) (hO : OKC n tr rp lt lg ru) (x : Int32) (hx9 : x < 0 ∨ nI n ≤ x) : Bd l yX0_models wsX0_models rb_X0_models D vwCl (wC ad cI cZ cJ n kd sd ts fs tr on rp lt ru lg lp) (tyC cI cZ cJ) [.ref (ad 0), .int x] eIO := by
  refine Bd.of (cc := cX0_models) (maxL := 5) (ret := (some .int)) (by decide) rfl (Nat.le_of_ble_eq_true rfl) ?_
  intro p e s m args below meth c ls hx hb hml hown hts htab hlocks hP hK hX0 hl
  have hown : s.vm.findClass RX0 = some m.cls := hown
  have hl : lv_has ls 5 [(0, .ref (ad 0)), (1, .int x)] := hl
  have hS : va_S (fun q => s.heap.size ≤ q) s.heap s.heap [] := va_S.rf
  have hX : XEh (fun _ => False) s s.heap := hX0
  refine lv_aload_n hx hb dX0_models_0 rfl (lv_at hl 0 rfl) ?_
  refine lv_iload_n hx hb dX0_models_1 rfl (lv_at hl 1 rfl) ?_
  exact bd_V (own := RX0) (As := [.int x]) (rest := []) (C := RX0) (ci := 0) (q0 := 0) ⟨hx, hb, hml, hown, hts⟩ (b_X0_requireFormula l D ad cI cZ cJ n kd sd ts fs tr on rp lt ru lg lp htr hO x hx9) gX0_models_X0_requireFormula rfl ⟨rfl, rfl⟩ 1 rfl (by decide +kernel) ⟨Nat.le_of_ble_eq_true rfl, Nat.le_of_ble_eq_true rfl⟩ hP hK rfl rfl rfl hX hS htab hlocks hl.1 rfl (Nat.le_of_ble_eq_true rfl) dX0_models_2 ⟨Nat.le_of_ble_eq_true rfl, Nat.le_of_ble_eq_true rfl⟩

def rb_X0_range : Room := { frames := 7, cells := 1, slots := 6, locals := 103 }
set_option maxHeartbeats 4000000 in
set_option maxRecDepth 100000 in
theorem b_X0_range (htr : l.stackTraces = false) (hO : OKC n tr rp lt lg ru) (x : Int32) (hx9 : x < 0 ∨ nI n ≤ x) : Bd l yX0_range wsX0_range rb_X0_range D vwCl (wC ad cI cZ cJ n kd sd ts fs tr on rp lt ru lg lp) (tyC cI cZ cJ) [.ref (ad 0), .int x] eIO := by
  refine Bd.of (cc := cX0_range) (maxL := 8) (ret := (some .int)) (by decide) rfl (Nat.le_of_ble_eq_true rfl) ?_
  intro p e s m args below meth c ls hx hb hml hown hts htab hlocks hP hK hX0 hl
  have hown : s.vm.findClass RX0 = some m.cls := hown
  have hl : lv_has ls 8 [(0, .ref (ad 0)), (1, .int x)] := hl
  have hS : va_S (fun q => s.heap.size ≤ q) s.heap s.heap [] := va_S.rf
  have hX : XEh (fun _ => False) s s.heap := hX0
  refine lv_aload_n hx hb dX0_range_0 rfl (lv_at hl 0 rfl) ?_
  refine lv_iload_n hx hb dX0_range_1 rfl (lv_at hl 1 rfl) ?_
  exact bd_V (own := RX0) (As := [.int x]) (rest := []) (C := RX0) (ci := 0) (q0 := 0) ⟨hx, hb, hml, hown, hts⟩ (b_X0_requireFormula l D ad cI cZ cJ n kd sd ts fs tr on rp lt ru lg lp htr hO x hx9) gX0_range_X0_requireFormula rfl ⟨rfl, rfl⟩ 1 rfl (by decide +kernel) ⟨Nat.le_of_ble_eq_true rfl, Nat.le_of_ble_eq_true rfl⟩ hP hK rfl rfl rfl hX hS htab hlocks hl.1 rfl (Nat.le_of_ble_eq_true rfl) dX0_range_2 ⟨Nat.le_of_ble_eq_true rfl, Nat.le_of_ble_eq_true rfl⟩

def rb_X0_given : Room := { frames := 7, cells := 1, slots := 6, locals := 102 }
set_option maxHeartbeats 4000000 in
set_option maxRecDepth 100000 in
theorem b_X0_given (htr : l.stackTraces = false) (x : Int32) (hx9 : x < 0 ∨ nI 6 ≤ x) : Bd l yX0_given wsX0_given rb_X0_given D vwCl (wC ad cI cZ cJ n kd sd ts fs tr on rp lt ru lg lp) (tyC cI cZ cJ) [.ref (ad 0), .int x] eIO := by
  refine Bd.of (cc := cX0_given) (maxL := 2) (ret := (some .int)) (by decide) rfl (Nat.le_of_ble_eq_true rfl) ?_
  intro p e s m args below meth c ls hx hb hml hown hts htab hlocks hP hK hX0 hl
  have hown : s.vm.findClass RX0 = some m.cls := hown
  have hl : lv_has ls 2 [(0, .ref (ad 0)), (1, .int x)] := hl
  have hS : va_S (fun q => s.heap.size ≤ q) s.heap s.heap [] := va_S.rf
  have hX : XEh (fun _ => False) s s.heap := hX0
  refine lv_iload_n hx hb dX0_given_0 rfl (lv_at hl 1 rfl) ?_
  exact bd_S (own := RX0) (As := [.int x]) (rest := []) ⟨hx, hb, hml, hown, hts⟩ (b_X0_requireAtom l D htr x hx9) gX0_given_X0_requireAtom rfl ⟨rfl, rfl⟩ 1 rfl (by decide +kernel) ⟨Nat.le_of_ble_eq_true rfl, Nat.le_of_ble_eq_true rfl⟩ nilP (hK.sub (tys' := []) [] rfl) hX hS htab hlocks hl.1 rfl (Nat.le_of_ble_eq_true rfl) dX0_given_1 ⟨Nat.le_of_ble_eq_true rfl, Nat.le_of_ble_eq_true rfl⟩

def rb_X0_settled : Room := { frames := 7, cells := 1, slots := 6, locals := 102 }
set_option maxHeartbeats 4000000 in
set_option maxRecDepth 100000 in
theorem b_X0_settled (htr : l.stackTraces = false) (x : Int32) (hx9 : x < 0 ∨ nI 6 ≤ x) : Bd l yX0_settled wsX0_settled rb_X0_settled D vwCl (wC ad cI cZ cJ n kd sd ts fs tr on rp lt ru lg lp) (tyC cI cZ cJ) [.ref (ad 0), .int x] eIO := by
  refine Bd.of (cc := cX0_settled) (maxL := 2) (ret := (some .int)) (by decide) rfl (Nat.le_of_ble_eq_true rfl) ?_
  intro p e s m args below meth c ls hx hb hml hown hts htab hlocks hP hK hX0 hl
  have hown : s.vm.findClass RX0 = some m.cls := hown
  have hl : lv_has ls 2 [(0, .ref (ad 0)), (1, .int x)] := hl
  have hS : va_S (fun q => s.heap.size ≤ q) s.heap s.heap [] := va_S.rf
  have hX : XEh (fun _ => False) s s.heap := hX0
  refine lv_iload_n hx hb dX0_settled_0 rfl (lv_at hl 1 rfl) ?_
  exact bd_S (own := RX0) (As := [.int x]) (rest := []) ⟨hx, hb, hml, hown, hts⟩ (b_X0_requireAtom l D htr x hx9) gX0_settled_X0_requireAtom rfl ⟨rfl, rfl⟩ 1 rfl (by decide +kernel) ⟨Nat.le_of_ble_eq_true rfl, Nat.le_of_ble_eq_true rfl⟩ nilP (hK.sub (tys' := []) [] rfl) hX hS htab hlocks hl.1 rfl (Nat.le_of_ble_eq_true rfl) dX0_settled_1 ⟨Nat.le_of_ble_eq_true rfl, Nat.le_of_ble_eq_true rfl⟩

def rb_X0_since : Room := { frames := 7, cells := 1, slots := 6, locals := 102 }
set_option maxHeartbeats 4000000 in
set_option maxRecDepth 100000 in
theorem b_X0_since (htr : l.stackTraces = false) (y : Int32) (x : Int32) (hx9 : x < 0 ∨ nI 6 ≤ x) : Bd l yX0_since wsX0_since rb_X0_since D vwCl (wC ad cI cZ cJ n kd sd ts fs tr on rp lt ru lg lp) (tyC cI cZ cJ) [.ref (ad 0), .int x, .int y] eIO := by
  refine Bd.of (cc := cX0_since) (maxL := 6) (ret := (some .int)) (by decide) rfl (Nat.le_of_ble_eq_true rfl) ?_
  intro p e s m args below meth c ls hx hb hml hown hts htab hlocks hP hK hX0 hl
  have hown : s.vm.findClass RX0 = some m.cls := hown
  have hl : lv_has ls 6 [(0, .ref (ad 0)), (1, .int x), (2, .int y)] := hl
  have hS : va_S (fun q => s.heap.size ≤ q) s.heap s.heap [] := va_S.rf
  have hX : XEh (fun _ => False) s s.heap := hX0
  refine lv_iload_n hx hb dX0_since_0 rfl (lv_at hl 1 rfl) ?_
  exact bd_S (own := RX0) (As := [.int x]) (rest := []) ⟨hx, hb, hml, hown, hts⟩ (b_X0_requireAtom l D htr x hx9) gX0_since_X0_requireAtom rfl ⟨rfl, rfl⟩ 1 rfl (by decide +kernel) ⟨Nat.le_of_ble_eq_true rfl, Nat.le_of_ble_eq_true rfl⟩ nilP (hK.sub (tys' := []) [] rfl) hX hS htab hlocks hl.1 rfl (Nat.le_of_ble_eq_true rfl) dX0_since_1 ⟨Nat.le_of_ble_eq_true rfl, Nat.le_of_ble_eq_true rfl⟩

def rb_X0_sayers : Room := { frames := 7, cells := 1, slots := 6, locals := 102 }
set_option maxHeartbeats 4000000 in
set_option maxRecDepth 100000 in
theorem b_X0_sayers (htr : l.stackTraces = false) (y : Int32) (x : Int32) (hx9 : x < 0 ∨ nI 6 ≤ x) : Bd l yX0_sayers wsX0_sayers rb_X0_sayers D vwCl (wC ad cI cZ cJ n kd sd ts fs tr on rp lt ru lg lp) (tyC cI cZ cJ) [.ref (ad 0), .int x, .int y] eIO := by
  refine Bd.of (cc := cX0_sayers) (maxL := 5) (ret := (some .int)) (by decide) rfl (Nat.le_of_ble_eq_true rfl) ?_
  intro p e s m args below meth c ls hx hb hml hown hts htab hlocks hP hK hX0 hl
  have hown : s.vm.findClass RX0 = some m.cls := hown
  have hl : lv_has ls 5 [(0, .ref (ad 0)), (1, .int x), (2, .int y)] := hl
  have hS : va_S (fun q => s.heap.size ≤ q) s.heap s.heap [] := va_S.rf
  have hX : XEh (fun _ => False) s s.heap := hX0
  refine lv_iload_n hx hb dX0_sayers_0 rfl (lv_at hl 1 rfl) ?_
  exact bd_S (own := RX0) (As := [.int x]) (rest := []) ⟨hx, hb, hml, hown, hts⟩ (b_X0_requireAtom l D htr x hx9) gX0_sayers_X0_requireAtom rfl ⟨rfl, rfl⟩ 1 rfl (by decide +kernel) ⟨Nat.le_of_ble_eq_true rfl, Nat.le_of_ble_eq_true rfl⟩ nilP (hK.sub (tys' := []) [] rfl) hX hS htab hlocks hl.1 rfl (Nat.le_of_ble_eq_true rfl) dX0_sayers_1 ⟨Nat.le_of_ble_eq_true rfl, Nat.le_of_ble_eq_true rfl⟩

def rb_X0_contradicted : Room := { frames := 7, cells := 1, slots := 6, locals := 102 }
set_option maxHeartbeats 4000000 in
set_option maxRecDepth 100000 in
theorem b_X0_contradicted (htr : l.stackTraces = false) (x : Int32) (hx9 : x < 0 ∨ nI 6 ≤ x) : Bd l yX0_contradicted wsX0_contradicted rb_X0_contradicted D vwCl (wC ad cI cZ cJ n kd sd ts fs tr on rp lt ru lg lp) (tyC cI cZ cJ) [.ref (ad 0), .int x] eIO := by
  refine Bd.of (cc := cX0_contradicted) (maxL := 5) (ret := (some .int)) (by decide) rfl (Nat.le_of_ble_eq_true rfl) ?_
  intro p e s m args below meth c ls hx hb hml hown hts htab hlocks hP hK hX0 hl
  have hown : s.vm.findClass RX0 = some m.cls := hown
  have hl : lv_has ls 5 [(0, .ref (ad 0)), (1, .int x)] := hl
  have hS : va_S (fun q => s.heap.size ≤ q) s.heap s.heap [] := va_S.rf
  have hX : XEh (fun _ => False) s s.heap := hX0
  refine lv_iload_n hx hb dX0_contradicted_0 rfl (lv_at hl 1 rfl) ?_
  exact bd_S (own := RX0) (As := [.int x]) (rest := []) ⟨hx, hb, hml, hown, hts⟩ (b_X0_requireSource l D htr x hx9) gX0_contradicted_X0_requireSource rfl ⟨rfl, rfl⟩ 1 rfl (by decide +kernel) ⟨Nat.le_of_ble_eq_true rfl, Nat.le_of_ble_eq_true rfl⟩ nilP (hK.sub (tys' := []) [] rfl) hX hS htab hlocks hl.1 rfl (Nat.le_of_ble_eq_true rfl) dX0_contradicted_1 ⟨Nat.le_of_ble_eq_true rfl, Nat.le_of_ble_eq_true rfl⟩

def rb_X0_let : Room := { frames := 7, cells := 1, slots := 6, locals := 102 }
set_option maxHeartbeats 4000000 in
set_option maxRecDepth 100000 in
theorem b_X0_let (htr : l.stackTraces = false) (y : Int32) (x : Int32) (hx9 : x < 0 ∨ nI 6 ≤ x) : Bd l yX0_let wsX0_let rb_X0_let D vwCl (wC ad cI cZ cJ n kd sd ts fs tr on rp lt ru lg lp) (tyC cI cZ cJ) [.ref (ad 0), .int x, .int y] eIO := by
  refine Bd.of (cc := cX0_let) (maxL := 3) (ret := (some .boolean)) (by decide) rfl (Nat.le_of_ble_eq_true rfl) ?_
  intro p e s m args below meth c ls hx hb hml hown hts htab hlocks hP hK hX0 hl
  have hown : s.vm.findClass RX0 = some m.cls := hown
  have hl : lv_has ls 3 [(0, .ref (ad 0)), (1, .int x), (2, .int y)] := hl
  have hS : va_S (fun q => s.heap.size ≤ q) s.heap s.heap [] := va_S.rf
  have hX : XEh (fun _ => False) s s.heap := hX0
  refine lv_iload_n hx hb dX0_let_0 rfl (lv_at hl 1 rfl) ?_
  exact bd_S (own := RX0) (As := [.int x]) (rest := []) ⟨hx, hb, hml, hown, hts⟩ (b_X0_requireSource l D htr x hx9) gX0_let_X0_requireSource rfl ⟨rfl, rfl⟩ 1 rfl (by decide +kernel) ⟨Nat.le_of_ble_eq_true rfl, Nat.le_of_ble_eq_true rfl⟩ nilP (hK.sub (tys' := []) [] rfl) hX hS htab hlocks hl.1 rfl (Nat.le_of_ble_eq_true rfl) dX0_let_1 ⟨Nat.le_of_ble_eq_true rfl, Nat.le_of_ble_eq_true rfl⟩

def rb_X0_matters : Room := { frames := 7, cells := 1, slots := 6, locals := 102 }
set_option maxHeartbeats 4000000 in
set_option maxRecDepth 100000 in
theorem b_X0_matters_1 (htr : l.stackTraces = false) (y : Int32) (x : Int32) (hx9 : x < 0 ∨ nI 6 ≤ x) : Bd l yX0_matters wsX0_matters rb_X0_matters D vwCl (wC ad cI cZ cJ n kd sd ts fs tr on rp lt ru lg lp) (tyC cI cZ cJ) [.ref (ad 0), .int x, .int y] eIO := by
  refine Bd.of (cc := cX0_matters) (maxL := 5) (ret := (some .boolean)) (by decide) rfl (Nat.le_of_ble_eq_true rfl) ?_
  intro p e s m args below meth c ls hx hb hml hown hts htab hlocks hP hK hX0 hl
  have hown : s.vm.findClass RX0 = some m.cls := hown
  have hl : lv_has ls 5 [(0, .ref (ad 0)), (1, .int x), (2, .int y)] := hl
  have hS : va_S (fun q => s.heap.size ≤ q) s.heap s.heap [] := va_S.rf
  have hX : XEh (fun _ => False) s s.heap := hX0
  refine lv_iload_n hx hb dX0_matters_0 rfl (lv_at hl 1 rfl) ?_
  exact bd_S (own := RX0) (As := [.int x]) (rest := []) ⟨hx, hb, hml, hown, hts⟩ (b_X0_requireSource l D htr x hx9) gX0_matters_X0_requireSource rfl ⟨rfl, rfl⟩ 1 rfl (by decide +kernel) ⟨Nat.le_of_ble_eq_true rfl, Nat.le_of_ble_eq_true rfl⟩ nilP (hK.sub (tys' := []) [] rfl) hX hS htab hlocks hl.1 rfl (Nat.le_of_ble_eq_true rfl) dX0_matters_1 ⟨Nat.le_of_ble_eq_true rfl, Nat.le_of_ble_eq_true rfl⟩

set_option maxHeartbeats 4000000 in
set_option maxRecDepth 100000 in
theorem b_X0_matters_2 (htr : l.stackTraces = false) (a : Nat) (ha : a < 6) (x : Int32) (hx9 : x < 0 ∨ nI 6 ≤ x) : Bd l yX0_matters wsX0_matters rb_X0_matters D vwCl (wC ad cI cZ cJ n kd sd ts fs tr on rp lt ru lg lp) (tyC cI cZ cJ) [.ref (ad 0), .int (nI a), .int x] eIO := by
  refine Bd.of (cc := cX0_matters) (maxL := 5) (ret := (some .boolean)) (by decide) rfl (Nat.le_of_ble_eq_true rfl) ?_
  intro p e s m args below meth c ls hx hb hml hown hts htab hlocks hP hK hX0 hl
  have hown : s.vm.findClass RX0 = some m.cls := hown
  have hl : lv_has ls 5 [(0, .ref (ad 0)), (1, .int (nI a)), (2, .int x)] := hl
  have hS : va_S (fun q => s.heap.size ≤ q) s.heap s.heap [] := va_S.rf
  have hX : XEh (fun _ => False) s s.heap := hX0
  refine lv_iload_n hx hb dX0_matters_0 rfl (lv_at hl 1 rfl) ?_
  refine puV_S (own := RX0) (As := [.int (nI a)]) (rest := []) ⟨hx, hb, hml, hown, hts⟩ (c_X0_requireSource l D a (by omega)) gX0_matters_X0_requireSource rfl ⟨rfl, rfl⟩ 1 rfl (by decide +kernel) ⟨Nat.le_of_ble_eq_true rfl, Nat.le_of_ble_eq_true rfl⟩ nilP (hK.sub (tys' := []) [] rfl) hS hl.1 rfl (Nat.le_of_ble_eq_true rfl) dX0_matters_1 ⟨Nat.zero_le _, Nat.zero_le _⟩ (fun H locs hk1 hS => ?_)
  replace hP := keptP hP hk1
  replace hX := hX.kept (fun q hq _ => hk1 q hq)
  refine lv_iload_n hx hb dX0_matters_4 rfl (lv_at hl 2 rfl) ?_
  exact bd_S (own := RX0) (As := [.int x]) (rest := []) ⟨hx, hb, hml, hown, hts⟩ (b_X0_requireAtom l D htr x hx9) gX0_matters_X0_requireAtom rfl ⟨rfl, rfl⟩ 1 rfl (by decide +kernel) ⟨Nat.le_of_ble_eq_true rfl, Nat.le_of_ble_eq_true rfl⟩ nilP (hK.sub (tys' := []) [] rfl) hX hS htab hlocks hl.1 rfl (Nat.le_of_ble_eq_true rfl) dX0_matters_5 ⟨Nat.le_of_ble_eq_true rfl, Nat.le_of_ble_eq_true rfl⟩

def rb_X0_report : Room := { frames := 7, cells := 1, slots := 6, locals := 102 }
set_option maxHeartbeats 4000000 in
set_option maxRecDepth 100000 in
theorem b_X0_report_1 (htr : l.stackTraces = false) (y z : Int32) (x : Int32) (hx9 : x < 0 ∨ nI 6 ≤ x) : Bd l yX0_report wsX0_report rb_X0_report D vwCl (wC ad cI cZ cJ n kd sd ts fs tr on rp lt ru lg lp) (tyC cI cZ cJ) [.ref (ad 0), .int x, .int y, .int z] eIO := by
  refine Bd.of (cc := cX0_report) (maxL := 6) (ret := (some .int)) (by decide) rfl (Nat.le_of_ble_eq_true rfl) ?_
  intro p e s m args below meth c ls hx hb hml hown hts htab hlocks hP hK hX0 hl
  have hown : s.vm.findClass RX0 = some m.cls := hown
  have hl : lv_has ls 6 [(0, .ref (ad 0)), (1, .int x), (2, .int y), (3, .int z)] := hl
  have hS : va_S (fun q => s.heap.size ≤ q) s.heap s.heap [] := va_S.rf
  have hX : XEh (fun _ => False) s s.heap := hX0
  refine lv_iload_n hx hb dX0_report_0 rfl (lv_at hl 1 rfl) ?_
  exact bd_S (own := RX0) (As := [.int x]) (rest := []) ⟨hx, hb, hml, hown, hts⟩ (b_X0_requireSource l D htr x hx9) gX0_report_X0_requireSource rfl ⟨rfl, rfl⟩ 1 rfl (by decide +kernel) ⟨Nat.le_of_ble_eq_true rfl, Nat.le_of_ble_eq_true rfl⟩ nilP (hK.sub (tys' := []) [] rfl) hX hS htab hlocks hl.1 rfl (Nat.le_of_ble_eq_true rfl) dX0_report_1 ⟨Nat.le_of_ble_eq_true rfl, Nat.le_of_ble_eq_true rfl⟩

set_option maxHeartbeats 4000000 in
set_option maxRecDepth 100000 in
theorem b_X0_report_2 (htr : l.stackTraces = false) (z : Int32) (a : Nat) (ha : a < 6) (x : Int32) (hx9 : x < 0 ∨ nI 6 ≤ x) : Bd l yX0_report wsX0_report rb_X0_report D vwCl (wC ad cI cZ cJ n kd sd ts fs tr on rp lt ru lg lp) (tyC cI cZ cJ) [.ref (ad 0), .int (nI a), .int x, .int z] eIO := by
  refine Bd.of (cc := cX0_report) (maxL := 6) (ret := (some .int)) (by decide) rfl (Nat.le_of_ble_eq_true rfl) ?_
  intro p e s m args below meth c ls hx hb hml hown hts htab hlocks hP hK hX0 hl
  have hown : s.vm.findClass RX0 = some m.cls := hown
  have hl : lv_has ls 6 [(0, .ref (ad 0)), (1, .int (nI a)), (2, .int x), (3, .int z)] := hl
  have hS : va_S (fun q => s.heap.size ≤ q) s.heap s.heap [] := va_S.rf
  have hX : XEh (fun _ => False) s s.heap := hX0
  refine lv_iload_n hx hb dX0_report_0 rfl (lv_at hl 1 rfl) ?_
  refine puV_S (own := RX0) (As := [.int (nI a)]) (rest := []) ⟨hx, hb, hml, hown, hts⟩ (c_X0_requireSource l D a (by omega)) gX0_report_X0_requireSource rfl ⟨rfl, rfl⟩ 1 rfl (by decide +kernel) ⟨Nat.le_of_ble_eq_true rfl, Nat.le_of_ble_eq_true rfl⟩ nilP (hK.sub (tys' := []) [] rfl) hS hl.1 rfl (Nat.le_of_ble_eq_true rfl) dX0_report_1 ⟨Nat.zero_le _, Nat.zero_le _⟩ (fun H locs hk1 hS => ?_)
  replace hP := keptP hP hk1
  replace hX := hX.kept (fun q hq _ => hk1 q hq)
  refine lv_iload_n hx hb dX0_report_4 rfl (lv_at hl 2 rfl) ?_
  exact bd_S (own := RX0) (As := [.int x]) (rest := []) ⟨hx, hb, hml, hown, hts⟩ (b_X0_requireAtom l D htr x hx9) gX0_report_X0_requireAtom rfl ⟨rfl, rfl⟩ 1 rfl (by decide +kernel) ⟨Nat.le_of_ble_eq_true rfl, Nat.le_of_ble_eq_true rfl⟩ nilP (hK.sub (tys' := []) [] rfl) hX hS htab hlocks hl.1 rfl (Nat.le_of_ble_eq_true rfl) dX0_report_5 ⟨Nat.le_of_ble_eq_true rfl, Nat.le_of_ble_eq_true rfl⟩

set_option maxHeartbeats 4000000 in
set_option maxRecDepth 100000 in
theorem b_X0_report_3 (htr : l.stackTraces = false) (a b : Nat) (ha : a < 6) (hb6 : b < 6) (x : Int32) (hx9 : x < 0 ∨ nI 4 ≤ x) : Bd l yX0_report wsX0_report rb_X0_report D vwCl (wC ad cI cZ cJ n kd sd ts fs tr on rp lt ru lg lp) (tyC cI cZ cJ) [.ref (ad 0), .int (nI a), .int (nI b), .int x] eIA := by
  refine Bd.of (cc := cX0_report) (maxL := 6) (ret := (some .int)) (by decide) rfl (Nat.le_of_ble_eq_true rfl) ?_
  intro p e s m args below meth c ls hx hb hml hown hts htab hlocks hP hK hX0 hl
  have hown : s.vm.findClass RX0 = some m.cls := hown
  have hl : lv_has ls 6 [(0, .ref (ad 0)), (1, .int (nI a)), (2, .int (nI b)), (3, .int x)] := hl
  have hS : va_S (fun q => s.heap.size ≤ q) s.heap s.heap [] := va_S.rf
  have hX : XEh (fun _ => False) s s.heap := hX0
  refine lv_iload_n hx hb dX0_report_0 rfl (lv_at hl 1 rfl) ?_
  refine puV_S (own := RX0) (As := [.int (nI a)]) (rest := []) ⟨hx, hb, hml, hown, hts⟩ (c_X0_requireSource l D a (by omega)) gX0_report_X0_requireSource rfl ⟨rfl, rfl⟩ 1 rfl (by decide +kernel) ⟨Nat.le_of_ble_eq_true rfl, Nat.le_of_ble_eq_true rfl⟩ nilP (hK.sub (tys' := []) [] rfl) hS hl.1 rfl (Nat.le_of_ble_eq_true rfl) dX0_report_1 ⟨Nat.zero_le _, Nat.zero_le _⟩ (fun H locs hk1 hS => ?_)
  replace hP := keptP hP hk1
  replace hX := hX.kept (fun q hq _ => hk1 q hq)
  refine lv_iload_n hx hb dX0_report_4 rfl (lv_at hl 2 rfl) ?_
  refine puV_S (own := RX0) (As := [.int (nI b)]) (rest := []) ⟨hx, hb, hml, hown, hts⟩ (c_X0_requireAtom l D b (by omega)) gX0_report_X0_requireAtom rfl ⟨rfl, rfl⟩ 1 rfl (by decide +kernel) ⟨Nat.le_of_ble_eq_true rfl, Nat.le_of_ble_eq_true rfl⟩ nilP (hK.sub (tys' := []) [] rfl) hS hl.1 rfl (Nat.le_of_ble_eq_true rfl) dX0_report_5 ⟨Nat.zero_le _, Nat.zero_le _⟩ (fun H locs hk1 hS => ?_)
  replace hP := keptP hP hk1
  replace hX := hX.kept (fun q hq _ => hk1 q hq)
  refine lv_iload_n hx hb dX0_report_8 rfl (lv_at hl 3 rfl) ?_
  exact bd_S (own := RX0) (As := [.int x]) (rest := []) ⟨hx, hb, hml, hown, hts⟩ (b_X0_requireValue l D htr x hx9) gX0_report_X0_requireValue rfl ⟨rfl, rfl⟩ 1 rfl (by decide +kernel) ⟨Nat.le_of_ble_eq_true rfl, Nat.le_of_ble_eq_true rfl⟩ nilP (hK.sub (tys' := []) [] rfl) hX hS htab hlocks hl.1 rfl (Nat.le_of_ble_eq_true rfl) dX0_report_9 ⟨Nat.le_of_ble_eq_true rfl, Nat.le_of_ble_eq_true rfl⟩

def rb_X0_setTrust : Room := { frames := 7, cells := 1, slots := 6, locals := 102 }
set_option maxHeartbeats 4000000 in
set_option maxRecDepth 100000 in
theorem b_X0_setTrust_1 (htr : l.stackTraces = false) (y : Int32) (x : Int32) (hx9 : x < 0 ∨ nI 6 ≤ x) : Bd l yX0_setTrust wsX0_setTrust rb_X0_setTrust D vwCl (wC ad cI cZ cJ n kd sd ts fs tr on rp lt ru lg lp) (tyC cI cZ cJ) [.ref (ad 0), .int x, .int y] eIO := by
  refine Bd.of (cc := cX0_setTrust) (maxL := 4) (ret := (some .int)) (by decide) rfl (Nat.le_of_ble_eq_true rfl) ?_
  intro p e s m args below meth c ls hx hb hml hown hts htab hlocks hP hK hX0 hl
  have hown : s.vm.findClass RX0 = some m.cls := hown
  have hl : lv_has ls 4 [(0, .ref (ad 0)), (1, .int x), (2, .int y)] := hl
  have hS : va_S (fun q => s.heap.size ≤ q) s.heap s.heap [] := va_S.rf
  have hX : XEh (fun _ => False) s s.heap := hX0
  refine lv_iload_n hx hb dX0_setTrust_0 rfl (lv_at hl 1 rfl) ?_
  exact bd_S (own := RX0) (As := [.int x]) (rest := []) ⟨hx, hb, hml, hown, hts⟩ (b_X0_requireSource l D htr x hx9) gX0_setTrust_X0_requireSource rfl ⟨rfl, rfl⟩ 1 rfl (by decide +kernel) ⟨Nat.le_of_ble_eq_true rfl, Nat.le_of_ble_eq_true rfl⟩ nilP (hK.sub (tys' := []) [] rfl) hX hS htab hlocks hl.1 rfl (Nat.le_of_ble_eq_true rfl) dX0_setTrust_1 ⟨Nat.le_of_ble_eq_true rfl, Nat.le_of_ble_eq_true rfl⟩

set_option maxHeartbeats 4000000 in
set_option maxRecDepth 100000 in
theorem b_X0_setTrust_2 (htr : l.stackTraces = false) (a : Nat) (ha : a < 6) (x : Int32) (hx9 : x < 0 ∨ nI 101 ≤ x ∨ x = nI 0) : Bd l yX0_setTrust wsX0_setTrust rb_X0_setTrust D vwCl (wC ad cI cZ cJ n kd sd ts fs tr on rp lt ru lg lp) (tyC cI cZ cJ) [.ref (ad 0), .int (nI a), .int x] eIA := by
  refine Bd.of (cc := cX0_setTrust) (maxL := 4) (ret := (some .int)) (by decide) rfl (Nat.le_of_ble_eq_true rfl) ?_
  intro p e s m args below meth c ls hx hb hml hown hts htab hlocks hP hK hX0 hl
  have hown : s.vm.findClass RX0 = some m.cls := hown
  have hl : lv_has ls 4 [(0, .ref (ad 0)), (1, .int (nI a)), (2, .int x)] := hl
  have hS : va_S (fun q => s.heap.size ≤ q) s.heap s.heap [] := va_S.rf
  have hX : XEh (fun _ => False) s s.heap := hX0
  refine lv_iload_n hx hb dX0_setTrust_0 rfl (lv_at hl 1 rfl) ?_
  refine puV_S (own := RX0) (As := [.int (nI a)]) (rest := []) ⟨hx, hb, hml, hown, hts⟩ (c_X0_requireSource l D a (by omega)) gX0_setTrust_X0_requireSource rfl ⟨rfl, rfl⟩ 1 rfl (by decide +kernel) ⟨Nat.le_of_ble_eq_true rfl, Nat.le_of_ble_eq_true rfl⟩ nilP (hK.sub (tys' := []) [] rfl) hS hl.1 rfl (Nat.le_of_ble_eq_true rfl) dX0_setTrust_1 ⟨Nat.zero_le _, Nat.zero_le _⟩ (fun H locs hk1 hS => ?_)
  replace hP := keptP hP hk1
  replace hX := hX.kept (fun q hq _ => hk1 q hq)
  refine lv_iload_n hx hb dX0_setTrust_4 rfl (lv_at hl 2 rfl) ?_
  exact bd_S (own := RX0) (As := [.int x]) (rest := []) ⟨hx, hb, hml, hown, hts⟩ (b_X0_requireTrust l D htr x hx9) gX0_setTrust_X0_requireTrust rfl ⟨rfl, rfl⟩ 1 rfl (by decide +kernel) ⟨Nat.le_of_ble_eq_true rfl, Nat.le_of_ble_eq_true rfl⟩ nilP (hK.sub (tys' := []) [] rfl) hX hS htab hlocks hl.1 rfl (Nat.le_of_ble_eq_true rfl) dX0_setTrust_5 ⟨Nat.le_of_ble_eq_true rfl, Nat.le_of_ble_eq_true rfl⟩

def rb_X0_setLeastTrust : Room := { frames := 7, cells := 1, slots := 6, locals := 102 }
set_option maxHeartbeats 4000000 in
set_option maxRecDepth 100000 in
theorem b_X0_setLeastTrust (htr : l.stackTraces = false) (x : Int32) (hx9 : x < 0 ∨ nI 101 ≤ x ∨ x = nI 0) : Bd l yX0_setLeastTrust wsX0_setLeastTrust rb_X0_setLeastTrust D vwCl (wC ad cI cZ cJ n kd sd ts fs tr on rp lt ru lg lp) (tyC cI cZ cJ) [.ref (ad 0), .int x] eIA := by
  refine Bd.of (cc := cX0_setLeastTrust) (maxL := 3) (ret := (some .int)) (by decide) rfl (Nat.le_of_ble_eq_true rfl) ?_
  intro p e s m args below meth c ls hx hb hml hown hts htab hlocks hP hK hX0 hl
  have hown : s.vm.findClass RX0 = some m.cls := hown
  have hl : lv_has ls 3 [(0, .ref (ad 0)), (1, .int x)] := hl
  have hS : va_S (fun q => s.heap.size ≤ q) s.heap s.heap [] := va_S.rf
  have hX : XEh (fun _ => False) s s.heap := hX0
  refine lv_iload_n hx hb dX0_setLeastTrust_0 rfl (lv_at hl 1 rfl) ?_
  exact bd_S (own := RX0) (As := [.int x]) (rest := []) ⟨hx, hb, hml, hown, hts⟩ (b_X0_requireTrust l D htr x hx9) gX0_setLeastTrust_X0_requireTrust rfl ⟨rfl, rfl⟩ 1 rfl (by decide +kernel) ⟨Nat.le_of_ble_eq_true rfl, Nat.le_of_ble_eq_true rfl⟩ nilP (hK.sub (tys' := []) [] rfl) hX hS htab hlocks hl.1 rfl (Nat.le_of_ble_eq_true rfl) dX0_setLeastTrust_1 ⟨Nat.le_of_ble_eq_true rfl, Nat.le_of_ble_eq_true rfl⟩

def rb_X0_setRule : Room := { frames := 7, cells := 1, slots := 6, locals := 103 }
set_option maxHeartbeats 4000000 in
set_option maxRecDepth 100000 in
theorem b_X0_setRule_1 (htr : l.stackTraces = false) (y : Int32) (x : Int32) (hx9 : x < 0 ∨ nI 6 ≤ x) : Bd l yX0_setRule wsX0_setRule rb_X0_setRule D vwCl (wC ad cI cZ cJ n kd sd ts fs tr on rp lt ru lg lp) (tyC cI cZ cJ) [.ref (ad 0), .int x, .int y] eIO := by
  refine Bd.of (cc := cX0_setRule) (maxL := 4) (ret := (some .int)) (by decide) rfl (Nat.le_of_ble_eq_true rfl) ?_
  intro p e s m args below meth c ls hx hb hml hown hts htab hlocks hP hK hX0 hl
  have hown : s.vm.findClass RX0 = some m.cls := hown
  have hl : lv_has ls 4 [(0, .ref (ad 0)), (1, .int x), (2, .int y)] := hl
  have hS : va_S (fun q => s.heap.size ≤ q) s.heap s.heap [] := va_S.rf
  have hX : XEh (fun _ => False) s s.heap := hX0
  refine lv_iload_n hx hb dX0_setRule_0 rfl (lv_at hl 1 rfl) ?_
  exact bd_S (own := RX0) (As := [.int x]) (rest := []) ⟨hx, hb, hml, hown, hts⟩ (b_X0_requireAtom l D htr x hx9) gX0_setRule_X0_requireAtom rfl ⟨rfl, rfl⟩ 1 rfl (by decide +kernel) ⟨Nat.le_of_ble_eq_true rfl, Nat.le_of_ble_eq_true rfl⟩ nilP (hK.sub (tys' := []) [] rfl) hX hS htab hlocks hl.1 rfl (Nat.le_of_ble_eq_true rfl) dX0_setRule_1 ⟨Nat.le_of_ble_eq_true rfl, Nat.le_of_ble_eq_true rfl⟩

set_option maxHeartbeats 4000000 in
set_option maxRecDepth 100000 in
theorem b_X0_setRule_2 (htr : l.stackTraces = false) (hO : OKC n tr rp lt lg ru) (a : Nat) (ha : a < 6) (x : Int32) (hx9 : x < 0 ∨ nI n ≤ x) (hx8 : ¬ x = -1) : Bd l yX0_setRule wsX0_setRule rb_X0_setRule D vwCl (wC ad cI cZ cJ n kd sd ts fs tr on rp lt ru lg lp) (tyC cI cZ cJ) [.ref (ad 0), .int (nI a), .int x] eIO := by
  refine Bd.of (cc := cX0_setRule) (maxL := 4) (ret := (some .int)) (by decide) rfl (Nat.le_of_ble_eq_true rfl) ?_
  intro p e s m args below meth c ls hx hb hml hown hts htab hlocks hP hK hX0 hl
  have hown : s.vm.findClass RX0 = some m.cls := hown
  have hl : lv_has ls 4 [(0, .ref (ad 0)), (1, .int (nI a)), (2, .int x)] := hl
  have hS : va_S (fun q => s.heap.size ≤ q) s.heap s.heap [] := va_S.rf
  have hX : XEh (fun _ => False) s s.heap := hX0
  refine lv_iload_n hx hb dX0_setRule_0 rfl (lv_at hl 1 rfl) ?_
  refine puV_S (own := RX0) (As := [.int (nI a)]) (rest := []) ⟨hx, hb, hml, hown, hts⟩ (c_X0_requireAtom l D a (by omega)) gX0_setRule_X0_requireAtom rfl ⟨rfl, rfl⟩ 1 rfl (by decide +kernel) ⟨Nat.le_of_ble_eq_true rfl, Nat.le_of_ble_eq_true rfl⟩ nilP (hK.sub (tys' := []) [] rfl) hS hl.1 rfl (Nat.le_of_ble_eq_true rfl) dX0_setRule_1 ⟨Nat.zero_le _, Nat.zero_le _⟩ (fun H locs hk1 hS => ?_)
  replace hP := keptP hP hk1
  replace hX := hX.kept (fun q hq _ => hk1 q hq)
  refine lv_iload_n hx hb dX0_setRule_4 rfl (lv_at hl 2 rfl) ?_
  refine lv_iconst (v := (-1)) hx hb dX0_setRule_5 (by decide) ?_
  refine cF_eq (tgt := 19) hx hb dX0_setRule_6 (by decide) (hx8) ?_
  refine lv_aload_n hx hb dX0_setRule_9 rfl (lv_at hl 0 rfl) ?_
  refine lv_iload_n hx hb dX0_setRule_10 rfl (lv_at hl 2 rfl) ?_
  exact bd_V (own := RX0) (As := [.int x]) (rest := []) (C := RX0) (ci := 0) (q0 := 0) ⟨hx, hb, hml, hown, hts⟩ (b_X0_requireFormula l D ad cI cZ cJ n kd sd ts fs tr on rp lt ru lg lp htr hO x hx9) gX0_setRule_X0_requireFormula rfl ⟨rfl, rfl⟩ 1 rfl (by decide +kernel) ⟨Nat.le_of_ble_eq_true rfl, Nat.le_of_ble_eq_true rfl⟩ hP hK rfl rfl rfl hX hS htab hlocks hl.1 rfl (Nat.le_of_ble_eq_true rfl) dX0_setRule_11 ⟨Nat.le_of_ble_eq_true rfl, Nat.le_of_ble_eq_true rfl⟩

set_option maxHeartbeats 4000000 in
set_option maxRecDepth 100000 in
theorem b_X0_setRule_3 (htr : l.stackTraces = false) (hO : OKC n tr rp lt lg ru) (a f : Nat) (ha : a < 6) (hf : f < n) (hs : sd f = false) : Bd l yX0_setRule wsX0_setRule rb_X0_setRule D vwCl (wC ad cI cZ cJ n kd sd ts fs tr on rp lt ru lg lp) (tyC cI cZ cJ) [.ref (ad 0), .int (nI a), .int (nI f)] eIA := by
  refine Bd.of (cc := cX0_setRule) (maxL := 4) (ret := (some .int)) (by decide) rfl (Nat.le_of_ble_eq_true rfl) ?_
  intro p e s m args below meth c ls hx hb hml hown hts htab hlocks hP hK hX0 hl
  have hown : s.vm.findClass RX0 = some m.cls := hown
  have hl : lv_has ls 4 [(0, .ref (ad 0)), (1, .int (nI a)), (2, .int (nI f))] := hl
  have hS : va_S (fun q => s.heap.size ≤ q) s.heap s.heap [] := va_S.rf
  have hX : XEh (fun _ => False) s s.heap := hX0
  have hn41 := hO.1
  refine lv_iload_n hx hb dX0_setRule_0 rfl (lv_at hl 1 rfl) ?_
  refine puV_S (own := RX0) (As := [.int (nI a)]) (rest := []) ⟨hx, hb, hml, hown, hts⟩ (c_X0_requireAtom l D a (by omega)) gX0_setRule_X0_requireAtom rfl ⟨rfl, rfl⟩ 1 rfl (by decide +kernel) ⟨Nat.le_of_ble_eq_true rfl, Nat.le_of_ble_eq_true rfl⟩ nilP (hK.sub (tys' := []) [] rfl) hS hl.1 rfl (Nat.le_of_ble_eq_true rfl) dX0_setRule_1 ⟨Nat.zero_le _, Nat.zero_le _⟩ (fun H locs hk1 hS => ?_)
  replace hP := keptP hP hk1
  replace hX := hX.kept (fun q hq _ => hk1 q hq)
  refine lv_iload_n hx hb dX0_setRule_4 rfl (lv_at hl 2 rfl) ?_
  refine lv_iconst (v := (-1)) hx hb dX0_setRule_5 (by decide) ?_
  refine cF_eq (tgt := 19) hx hb dX0_setRule_6 (by decide) (rI_ne (by omega)) ?_
  refine lv_aload_n hx hb dX0_setRule_9 rfl (lv_at hl 0 rfl) ?_
  refine lv_iload_n hx hb dX0_setRule_10 rfl (lv_at hl 2 rfl) ?_
  refine puV_V (own := RX0) (As := [.int (nI f)]) (rest := []) (C := RX0) (ci := 0) (q0 := 0) ⟨hx, hb, hml, hown, hts⟩ (c_X0_requireFormula l D ad cI cZ cJ n kd sd ts fs tr on rp lt ru lg lp hO f (by omega)) gX0_setRule_X0_requireFormula rfl ⟨rfl, rfl⟩ 1 rfl (by decide +kernel) ⟨Nat.le_of_ble_eq_true rfl, Nat.le_of_ble_eq_true rfl⟩ hP hK rfl rfl rfl hS hl.1 rfl (Nat.le_of_ble_eq_true rfl) dX0_setRule_11 ⟨Nat.zero_le _, Nat.zero_le _⟩ (fun H locs hk1 hS => ?_)
  replace hP := keptP hP hk1
  replace hX := hX.kept (fun q hq _ => hk1 q hq)
  refine lv_aload_n hx hb dX0_setRule_14 rfl (lv_at hl 0 rfl) ?_
  refine lv_iload_n hx hb dX0_setRule_15 rfl (lv_at hl 2 rfl) ?_
  exact bd_V (own := RX0) (As := [.int (nI f)]) (rest := []) (C := RX0) (ci := 0) (q0 := 0) ⟨hx, hb, hml, hown, hts⟩ (b_X0_requireSteady l D ad cI cZ cJ n kd sd ts fs tr on rp lt ru lg lp htr f (by omega) hs) gX0_setRule_X0_requireSteady rfl ⟨rfl, rfl⟩ 1 rfl (by decide +kernel) ⟨Nat.le_of_ble_eq_true rfl, Nat.le_of_ble_eq_true rfl⟩ hP hK rfl rfl rfl hX hS htab hlocks hl.1 rfl (Nat.le_of_ble_eq_true rfl) dX0_setRule_16 ⟨Nat.le_of_ble_eq_true rfl, Nat.le_of_ble_eq_true rfl⟩

def rb_X0_setLogic : Room := { frames := 6, cells := 1, slots := 6, locals := 82 }
theorem hgIA_X0_setLogic : ∀ w ∈ aIA.filter goodWord, w ∈ wsX0_setLogic := by first | exact fun _ h => List.mem_cons_of_mem _ (List.mem_append_right _ h) | exact fun _ h => List.mem_cons_of_mem _ (List.mem_append_left _ (List.mem_append_right _ h)) | exact fun _ h => List.mem_cons_of_mem _ (List.mem_append_left _ (List.mem_append_left _ (List.mem_append_right _ h))) | exact fun _ h => List.mem_cons_of_mem _ (List.mem_append_left _ (List.mem_append_left _ (List.mem_append_left _ (List.mem_append_right _ h)))) | decide +kernel
set_option maxHeartbeats 4000000 in
set_option maxRecDepth 100000 in
theorem b_X0_setLogic (htr : l.stackTraces = false) (x : Int32) (hx9 : x < 0 ∨ nI 16 ≤ x ∨ x = nI 0) : Bd l yX0_setLogic wsX0_setLogic rb_X0_setLogic D vwCl (wC ad cI cZ cJ n kd sd ts fs tr on rp lt ru lg lp) (tyC cI cZ cJ) [.ref (ad 0), .int x] eIA := by
  refine Bd.of (cc := cX0_setLogic) (maxL := 3) (ret := (some .int)) (by decide) rfl (Nat.le_of_ble_eq_true rfl) ?_
  intro p e s m args below meth c ls hx hb hml hown hts htab hlocks hP hK hX0 hl
  have hown : s.vm.findClass RX0 = some m.cls := hown
  have hl : lv_has ls 3 [(0, .ref (ad 0)), (1, .int x)] := hl
  have hS : va_S (fun q => s.heap.size ≤ q) s.heap s.heap [] := va_S.rf
  have hX : XEh (fun _ => False) s s.heap := hX0
  refine lv_iload_n hx hb dX0_setLogic_0 rfl (lv_at hl 1 rfl) ?_
  refine lv_iconst (v := nI 1) hx hb dX0_setLogic_1 (by decide) ?_
  refine lv_icmp_lt (tgt := 11) hx hb dX0_setLogic_2 (by decide) (fun c_1 => ?_) (fun c_1 => ?_)
  · exact bd_throw (E := eIA) (is := 152) (text := "values is not 1 to 15") (ik := 80) (ic := 84) ⟨hx, hb, hml.trans hl.1.symm, hown, hts⟩ htr rfl (by decide +kernel) (by decide +kernel) (by decide +kernel) (by decide +kernel) hgIA_X0_setLogic xwIA otIA hX0 htab hlocks hS dX0_setLogic_11 dX0_setLogic_14 dX0_setLogic_15 dX0_setLogic_17 dX0_setLogic_20 ⟨Nat.le_of_ble_eq_true rfl, Nat.le_of_ble_eq_true rfl, Nat.le_of_ble_eq_true rfl, Nat.le_of_ble_eq_true rfl⟩
  · have hx8 : nI 16 ≤ x := lo_bad hx9 c_1
    refine lv_iload_n hx hb dX0_setLogic_5 rfl (lv_at hl 1 rfl) ?_
    refine lv_bipush (v := nI 15) hx hb dX0_setLogic_6 (by decide) ?_
    refine cF_le (tgt := 21) hx hb dX0_setLogic_8 (by decide) (hi_bad hx8 (by omega)) ?_
    exact bd_throw (E := eIA) (is := 152) (text := "values is not 1 to 15") (ik := 80) (ic := 84) ⟨hx, hb, hml.trans hl.1.symm, hown, hts⟩ htr rfl (by decide +kernel) (by decide +kernel) (by decide +kernel) (by decide +kernel) hgIA_X0_setLogic xwIA otIA hX0 htab hlocks hS dX0_setLogic_11 dX0_setLogic_14 dX0_setLogic_15 dX0_setLogic_17 dX0_setLogic_20 ⟨Nat.le_of_ble_eq_true rfl, Nat.le_of_ble_eq_true rfl, Nat.le_of_ble_eq_true rfl, Nat.le_of_ble_eq_true rfl⟩

def rb_X0_against : Room := { frames := 7, cells := 1, slots := 6, locals := 103 }
set_option maxHeartbeats 4000000 in
set_option maxRecDepth 100000 in
theorem b_X0_against_1 (htr : l.stackTraces = false) (hO : OKC n tr rp lt lg ru) (y : Int32) (x : Int32) (hx9 : x < 0 ∨ nI n ≤ x) : Bd l yX0_against wsX0_against rb_X0_against D vwCl (wC ad cI cZ cJ n kd sd ts fs tr on rp lt ru lg lp) (tyC cI cZ cJ) [.ref (ad 0), .int x, .int y] eIO := by
  refine Bd.of (cc := cX0_against) (maxL := 8) (ret := (some .int)) (by decide) rfl (Nat.le_of_ble_eq_true rfl) ?_
  intro p e s m args below meth c ls hx hb hml hown hts htab hlocks hP hK hX0 hl
  have hown : s.vm.findClass RX0 = some m.cls := hown
  have hl : lv_has ls 8 [(0, .ref (ad 0)), (1, .int x), (2, .int y)] := hl
  have hS : va_S (fun q => s.heap.size ≤ q) s.heap s.heap [] := va_S.rf
  have hX : XEh (fun _ => False) s s.heap := hX0
  refine lv_aload_n hx hb dX0_against_0 rfl (lv_at hl 0 rfl) ?_
  refine lv_iload_n hx hb dX0_against_1 rfl (lv_at hl 1 rfl) ?_
  exact bd_V (own := RX0) (As := [.int x]) (rest := []) (C := RX0) (ci := 0) (q0 := 0) ⟨hx, hb, hml, hown, hts⟩ (b_X0_requireFormula l D ad cI cZ cJ n kd sd ts fs tr on rp lt ru lg lp htr hO x hx9) gX0_against_X0_requireFormula rfl ⟨rfl, rfl⟩ 1 rfl (by decide +kernel) ⟨Nat.le_of_ble_eq_true rfl, Nat.le_of_ble_eq_true rfl⟩ hP hK rfl rfl rfl hX hS htab hlocks hl.1 rfl (Nat.le_of_ble_eq_true rfl) dX0_against_2 ⟨Nat.le_of_ble_eq_true rfl, Nat.le_of_ble_eq_true rfl⟩

set_option maxHeartbeats 4000000 in
set_option maxRecDepth 100000 in
theorem b_X0_against_2 (htr : l.stackTraces = false) (hO : OKC n tr rp lt lg ru) (a : Nat) (ha : a < n) (x : Int32) (hx9 : x < 0 ∨ nI n ≤ x) : Bd l yX0_against wsX0_against rb_X0_against D vwCl (wC ad cI cZ cJ n kd sd ts fs tr on rp lt ru lg lp) (tyC cI cZ cJ) [.ref (ad 0), .int (nI a), .int x] eIO := by
  refine Bd.of (cc := cX0_against) (maxL := 8) (ret := (some .int)) (by decide) rfl (Nat.le_of_ble_eq_true rfl) ?_
  intro p e s m args below meth c ls hx hb hml hown hts htab hlocks hP hK hX0 hl
  have hown : s.vm.findClass RX0 = some m.cls := hown
  have hl : lv_has ls 8 [(0, .ref (ad 0)), (1, .int (nI a)), (2, .int x)] := hl
  have hS : va_S (fun q => s.heap.size ≤ q) s.heap s.heap [] := va_S.rf
  have hX : XEh (fun _ => False) s s.heap := hX0
  refine lv_aload_n hx hb dX0_against_0 rfl (lv_at hl 0 rfl) ?_
  refine lv_iload_n hx hb dX0_against_1 rfl (lv_at hl 1 rfl) ?_
  refine puV_V (own := RX0) (As := [.int (nI a)]) (rest := []) (C := RX0) (ci := 0) (q0 := 0) ⟨hx, hb, hml, hown, hts⟩ (c_X0_requireFormula l D ad cI cZ cJ n kd sd ts fs tr on rp lt ru lg lp hO a (by omega)) gX0_against_X0_requireFormula rfl ⟨rfl, rfl⟩ 1 rfl (by decide +kernel) ⟨Nat.le_of_ble_eq_true rfl, Nat.le_of_ble_eq_true rfl⟩ hP hK rfl rfl rfl hS hl.1 rfl (Nat.le_of_ble_eq_true rfl) dX0_against_2 ⟨Nat.zero_le _, Nat.zero_le _⟩ (fun H locs hk1 hS => ?_)
  replace hP := keptP hP hk1
  replace hX := hX.kept (fun q hq _ => hk1 q hq)
  refine lv_aload_n hx hb dX0_against_5 rfl (lv_at hl 0 rfl) ?_
  refine lv_iload_n hx hb dX0_against_6 rfl (lv_at hl 2 rfl) ?_
  exact bd_V (own := RX0) (As := [.int x]) (rest := []) (C := RX0) (ci := 0) (q0 := 0) ⟨hx, hb, hml, hown, hts⟩ (b_X0_requireFormula l D ad cI cZ cJ n kd sd ts fs tr on rp lt ru lg lp htr hO x hx9) gX0_against_X0_requireFormula rfl ⟨rfl, rfl⟩ 1 rfl (by decide +kernel) ⟨Nat.le_of_ble_eq_true rfl, Nat.le_of_ble_eq_true rfl⟩ hP hK rfl rfl rfl hX hS htab hlocks hl.1 rfl (Nat.le_of_ble_eq_true rfl) dX0_against_7 ⟨Nat.le_of_ble_eq_true rfl, Nat.le_of_ble_eq_true rfl⟩

def rb_X0_areEqual : Room := { frames := 7, cells := 1, slots := 6, locals := 103 }
set_option maxHeartbeats 4000000 in
set_option maxRecDepth 100000 in
theorem b_X0_areEqual_1 (htr : l.stackTraces = false) (hO : OKC n tr rp lt lg ru) (y : Int32) (x : Int32) (hx9 : x < 0 ∨ nI n ≤ x) : Bd l yX0_areEqual wsX0_areEqual rb_X0_areEqual D vwCl (wC ad cI cZ cJ n kd sd ts fs tr on rp lt ru lg lp) (tyC cI cZ cJ) [.ref (ad 0), .int x, .int y] eIO := by
  refine Bd.of (cc := cX0_areEqual) (maxL := 6) (ret := (some .boolean)) (by decide) rfl (Nat.le_of_ble_eq_true rfl) ?_
  intro p e s m args below meth c ls hx hb hml hown hts htab hlocks hP hK hX0 hl
  have hown : s.vm.findClass RX0 = some m.cls := hown
  have hl : lv_has ls 6 [(0, .ref (ad 0)), (1, .int x), (2, .int y)] := hl
  have hS : va_S (fun q => s.heap.size ≤ q) s.heap s.heap [] := va_S.rf
  have hX : XEh (fun _ => False) s s.heap := hX0
  refine lv_aload_n hx hb dX0_areEqual_0 rfl (lv_at hl 0 rfl) ?_
  refine lv_iload_n hx hb dX0_areEqual_1 rfl (lv_at hl 1 rfl) ?_
  exact bd_V (own := RX0) (As := [.int x]) (rest := []) (C := RX0) (ci := 0) (q0 := 0) ⟨hx, hb, hml, hown, hts⟩ (b_X0_requireFormula l D ad cI cZ cJ n kd sd ts fs tr on rp lt ru lg lp htr hO x hx9) gX0_areEqual_X0_requireFormula rfl ⟨rfl, rfl⟩ 1 rfl (by decide +kernel) ⟨Nat.le_of_ble_eq_true rfl, Nat.le_of_ble_eq_true rfl⟩ hP hK rfl rfl rfl hX hS htab hlocks hl.1 rfl (Nat.le_of_ble_eq_true rfl) dX0_areEqual_2 ⟨Nat.le_of_ble_eq_true rfl, Nat.le_of_ble_eq_true rfl⟩

set_option maxHeartbeats 4000000 in
set_option maxRecDepth 100000 in
theorem b_X0_areEqual_2 (htr : l.stackTraces = false) (hO : OKC n tr rp lt lg ru) (a : Nat) (ha : a < n) (x : Int32) (hx9 : x < 0 ∨ nI n ≤ x) : Bd l yX0_areEqual wsX0_areEqual rb_X0_areEqual D vwCl (wC ad cI cZ cJ n kd sd ts fs tr on rp lt ru lg lp) (tyC cI cZ cJ) [.ref (ad 0), .int (nI a), .int x] eIO := by
  refine Bd.of (cc := cX0_areEqual) (maxL := 6) (ret := (some .boolean)) (by decide) rfl (Nat.le_of_ble_eq_true rfl) ?_
  intro p e s m args below meth c ls hx hb hml hown hts htab hlocks hP hK hX0 hl
  have hown : s.vm.findClass RX0 = some m.cls := hown
  have hl : lv_has ls 6 [(0, .ref (ad 0)), (1, .int (nI a)), (2, .int x)] := hl
  have hS : va_S (fun q => s.heap.size ≤ q) s.heap s.heap [] := va_S.rf
  have hX : XEh (fun _ => False) s s.heap := hX0
  refine lv_aload_n hx hb dX0_areEqual_0 rfl (lv_at hl 0 rfl) ?_
  refine lv_iload_n hx hb dX0_areEqual_1 rfl (lv_at hl 1 rfl) ?_
  refine puV_V (own := RX0) (As := [.int (nI a)]) (rest := []) (C := RX0) (ci := 0) (q0 := 0) ⟨hx, hb, hml, hown, hts⟩ (c_X0_requireFormula l D ad cI cZ cJ n kd sd ts fs tr on rp lt ru lg lp hO a (by omega)) gX0_areEqual_X0_requireFormula rfl ⟨rfl, rfl⟩ 1 rfl (by decide +kernel) ⟨Nat.le_of_ble_eq_true rfl, Nat.le_of_ble_eq_true rfl⟩ hP hK rfl rfl rfl hS hl.1 rfl (Nat.le_of_ble_eq_true rfl) dX0_areEqual_2 ⟨Nat.zero_le _, Nat.zero_le _⟩ (fun H locs hk1 hS => ?_)
  replace hP := keptP hP hk1
  replace hX := hX.kept (fun q hq _ => hk1 q hq)
  refine lv_aload_n hx hb dX0_areEqual_5 rfl (lv_at hl 0 rfl) ?_
  refine lv_iload_n hx hb dX0_areEqual_6 rfl (lv_at hl 2 rfl) ?_
  exact bd_V (own := RX0) (As := [.int x]) (rest := []) (C := RX0) (ci := 0) (q0 := 0) ⟨hx, hb, hml, hown, hts⟩ (b_X0_requireFormula l D ad cI cZ cJ n kd sd ts fs tr on rp lt ru lg lp htr hO x hx9) gX0_areEqual_X0_requireFormula rfl ⟨rfl, rfl⟩ 1 rfl (by decide +kernel) ⟨Nat.le_of_ble_eq_true rfl, Nat.le_of_ble_eq_true rfl⟩ hP hK rfl rfl rfl hX hS htab hlocks hl.1 rfl (Nat.le_of_ble_eq_true rfl) dX0_areEqual_7 ⟨Nat.le_of_ble_eq_true rfl, Nat.le_of_ble_eq_true rfl⟩

def rb_X0_entails : Room := { frames := 8, cells := 1, slots := 6, locals := 130 }
set_option maxHeartbeats 4000000 in
set_option maxRecDepth 100000 in
theorem b_X0_entails_1 (htr : l.stackTraces = false) (hO : OKC n tr rp lt lg ru) (y : Int32) (x : Int32) (hx9 : x < 0 ∨ nI n ≤ x) : Bd l yX0_entails wsX0_entails rb_X0_entails D vwCl (wC ad cI cZ cJ n kd sd ts fs tr on rp lt ru lg lp) (tyC cI cZ cJ) [.ref (ad 0), .int x, .int y] eIO := by
  refine Bd.of (cc := cX0_entails) (maxL := 3) (ret := (some .boolean)) (by decide) rfl (Nat.le_of_ble_eq_true rfl) ?_
  intro p e s m args below meth c ls hx hb hml hown hts htab hlocks hP hK hX0 hl
  have hown : s.vm.findClass RX0 = some m.cls := hown
  have hl : lv_has ls 3 [(0, .ref (ad 0)), (1, .int x), (2, .int y)] := hl
  have hS : va_S (fun q => s.heap.size ≤ q) s.heap s.heap [] := va_S.rf
  have hX : XEh (fun _ => False) s s.heap := hX0
  refine lv_aload_n hx hb dX0_entails_0 rfl (lv_at hl 0 rfl) ?_
  refine lv_iload_n hx hb dX0_entails_1 rfl (lv_at hl 1 rfl) ?_
  refine lv_iload_n hx hb dX0_entails_2 rfl (lv_at hl 2 rfl) ?_
  exact bd_V (own := RX0) (As := [.int x, .int y]) (rest := []) (C := RX0) (ci := 0) (q0 := 0) ⟨hx, hb, hml, hown, hts⟩ (b_X0_against_1 l D ad cI cZ cJ n kd sd ts fs tr on rp lt ru lg lp htr hO y x hx9) gX0_entails_X0_against rfl ⟨rfl, rfl⟩ 2 rfl (by decide +kernel) ⟨Nat.le_of_ble_eq_true rfl, Nat.le_of_ble_eq_true rfl⟩ hP hK rfl rfl rfl hX hS htab hlocks hl.1 rfl (Nat.le_of_ble_eq_true rfl) dX0_entails_3 ⟨Nat.le_of_ble_eq_true rfl, Nat.le_of_ble_eq_true rfl⟩

set_option maxHeartbeats 4000000 in
set_option maxRecDepth 100000 in
theorem b_X0_entails_2 (htr : l.stackTraces = false) (hO : OKC n tr rp lt lg ru) (a : Nat) (ha : a < n) (x : Int32) (hx9 : x < 0 ∨ nI n ≤ x) : Bd l yX0_entails wsX0_entails rb_X0_entails D vwCl (wC ad cI cZ cJ n kd sd ts fs tr on rp lt ru lg lp) (tyC cI cZ cJ) [.ref (ad 0), .int (nI a), .int x] eIO := by
  refine Bd.of (cc := cX0_entails) (maxL := 3) (ret := (some .boolean)) (by decide) rfl (Nat.le_of_ble_eq_true rfl) ?_
  intro p e s m args below meth c ls hx hb hml hown hts htab hlocks hP hK hX0 hl
  have hown : s.vm.findClass RX0 = some m.cls := hown
  have hl : lv_has ls 3 [(0, .ref (ad 0)), (1, .int (nI a)), (2, .int x)] := hl
  have hS : va_S (fun q => s.heap.size ≤ q) s.heap s.heap [] := va_S.rf
  have hX : XEh (fun _ => False) s s.heap := hX0
  refine lv_aload_n hx hb dX0_entails_0 rfl (lv_at hl 0 rfl) ?_
  refine lv_iload_n hx hb dX0_entails_1 rfl (lv_at hl 1 rfl) ?_
  refine lv_iload_n hx hb dX0_entails_2 rfl (lv_at hl 2 rfl) ?_
  exact bd_V (own := RX0) (As := [.int (nI a), .int x]) (rest := []) (C := RX0) (ci := 0) (q0 := 0) ⟨hx, hb, hml, hown, hts⟩ (b_X0_against_2 l D ad cI cZ cJ n kd sd ts fs tr on rp lt ru lg lp htr hO a ha x hx9) gX0_entails_X0_against rfl ⟨rfl, rfl⟩ 2 rfl (by decide +kernel) ⟨Nat.le_of_ble_eq_true rfl, Nat.le_of_ble_eq_true rfl⟩ hP hK rfl rfl rfl hX hS htab hlocks hl.1 rfl (Nat.le_of_ble_eq_true rfl) dX0_entails_3 ⟨Nat.le_of_ble_eq_true rfl, Nat.le_of_ble_eq_true rfl⟩

def rb_X0_depends : Room := { frames := 7, cells := 1, slots := 6, locals := 103 }
set_option maxHeartbeats 4000000 in
set_option maxRecDepth 100000 in
theorem b_X0_depends_1 (htr : l.stackTraces = false) (hO : OKC n tr rp lt lg ru) (y : Int32) (x : Int32) (hx9 : x < 0 ∨ nI n ≤ x) : Bd l yX0_depends wsX0_depends rb_X0_depends D vwCl (wC ad cI cZ cJ n kd sd ts fs tr on rp lt ru lg lp) (tyC cI cZ cJ) [.ref (ad 0), .int x, .int y] eIO := by
  refine Bd.of (cc := cX0_depends) (maxL := 5) (ret := (some .boolean)) (by decide) rfl (Nat.le_of_ble_eq_true rfl) ?_
  intro p e s m args below meth c ls hx hb hml hown hts htab hlocks hP hK hX0 hl
  have hown : s.vm.findClass RX0 = some m.cls := hown
  have hl : lv_has ls 5 [(0, .ref (ad 0)), (1, .int x), (2, .int y)] := hl
  have hS : va_S (fun q => s.heap.size ≤ q) s.heap s.heap [] := va_S.rf
  have hX : XEh (fun _ => False) s s.heap := hX0
  refine lv_aload_n hx hb dX0_depends_0 rfl (lv_at hl 0 rfl) ?_
  refine lv_iload_n hx hb dX0_depends_1 rfl (lv_at hl 1 rfl) ?_
  exact bd_V (own := RX0) (As := [.int x]) (rest := []) (C := RX0) (ci := 0) (q0 := 0) ⟨hx, hb, hml, hown, hts⟩ (b_X0_requireFormula l D ad cI cZ cJ n kd sd ts fs tr on rp lt ru lg lp htr hO x hx9) gX0_depends_X0_requireFormula rfl ⟨rfl, rfl⟩ 1 rfl (by decide +kernel) ⟨Nat.le_of_ble_eq_true rfl, Nat.le_of_ble_eq_true rfl⟩ hP hK rfl rfl rfl hX hS htab hlocks hl.1 rfl (Nat.le_of_ble_eq_true rfl) dX0_depends_2 ⟨Nat.le_of_ble_eq_true rfl, Nat.le_of_ble_eq_true rfl⟩

set_option maxHeartbeats 4000000 in
set_option maxRecDepth 100000 in
theorem b_X0_depends_2 (htr : l.stackTraces = false) (hO : OKC n tr rp lt lg ru) (f : Nat) (hf : f < n) (x : Int32) (hx9 : x < 0 ∨ nI 6 ≤ x) : Bd l yX0_depends wsX0_depends rb_X0_depends D vwCl (wC ad cI cZ cJ n kd sd ts fs tr on rp lt ru lg lp) (tyC cI cZ cJ) [.ref (ad 0), .int (nI f), .int x] eIO := by
  refine Bd.of (cc := cX0_depends) (maxL := 5) (ret := (some .boolean)) (by decide) rfl (Nat.le_of_ble_eq_true rfl) ?_
  intro p e s m args below meth c ls hx hb hml hown hts htab hlocks hP hK hX0 hl
  have hown : s.vm.findClass RX0 = some m.cls := hown
  have hl : lv_has ls 5 [(0, .ref (ad 0)), (1, .int (nI f)), (2, .int x)] := hl
  have hS : va_S (fun q => s.heap.size ≤ q) s.heap s.heap [] := va_S.rf
  have hX : XEh (fun _ => False) s s.heap := hX0
  refine lv_aload_n hx hb dX0_depends_0 rfl (lv_at hl 0 rfl) ?_
  refine lv_iload_n hx hb dX0_depends_1 rfl (lv_at hl 1 rfl) ?_
  refine puV_V (own := RX0) (As := [.int (nI f)]) (rest := []) (C := RX0) (ci := 0) (q0 := 0) ⟨hx, hb, hml, hown, hts⟩ (c_X0_requireFormula l D ad cI cZ cJ n kd sd ts fs tr on rp lt ru lg lp hO f (by omega)) gX0_depends_X0_requireFormula rfl ⟨rfl, rfl⟩ 1 rfl (by decide +kernel) ⟨Nat.le_of_ble_eq_true rfl, Nat.le_of_ble_eq_true rfl⟩ hP hK rfl rfl rfl hS hl.1 rfl (Nat.le_of_ble_eq_true rfl) dX0_depends_2 ⟨Nat.zero_le _, Nat.zero_le _⟩ (fun H locs hk1 hS => ?_)
  replace hP := keptP hP hk1
  replace hX := hX.kept (fun q hq _ => hk1 q hq)
  refine lv_iload_n hx hb dX0_depends_5 rfl (lv_at hl 2 rfl) ?_
  exact bd_S (own := RX0) (As := [.int x]) (rest := []) ⟨hx, hb, hml, hown, hts⟩ (b_X0_requireAtom l D htr x hx9) gX0_depends_X0_requireAtom rfl ⟨rfl, rfl⟩ 1 rfl (by decide +kernel) ⟨Nat.le_of_ble_eq_true rfl, Nat.le_of_ble_eq_true rfl⟩ nilP (hK.sub (tys' := []) [] rfl) hX hS htab hlocks hl.1 rfl (Nat.le_of_ble_eq_true rfl) dX0_depends_6 ⟨Nat.le_of_ble_eq_true rfl, Nat.le_of_ble_eq_true rfl⟩

def rb_X0_valueAt : Room := { frames := 7, cells := 1, slots := 6, locals := 103 }
set_option maxHeartbeats 4000000 in
set_option maxRecDepth 100000 in
theorem b_X0_valueAt_1 (htr : l.stackTraces = false) (hO : OKC n tr rp lt lg ru) (y : Int32) (x : Int32) (hx9 : x < 0 ∨ nI n ≤ x) : Bd l yX0_valueAt wsX0_valueAt rb_X0_valueAt D vwCl (wC ad cI cZ cJ n kd sd ts fs tr on rp lt ru lg lp) (tyC cI cZ cJ) [.ref (ad 0), .int x, .int y] eIO := by
  refine Bd.of (cc := cX0_valueAt) (maxL := 3) (ret := (some .int)) (by decide) rfl (Nat.le_of_ble_eq_true rfl) ?_
  intro p e s m args below meth c ls hx hb hml hown hts htab hlocks hP hK hX0 hl
  have hown : s.vm.findClass RX0 = some m.cls := hown
  have hl : lv_has ls 3 [(0, .ref (ad 0)), (1, .int x), (2, .int y)] := hl
  have hS : va_S (fun q => s.heap.size ≤ q) s.heap s.heap [] := va_S.rf
  have hX : XEh (fun _ => False) s s.heap := hX0
  refine lv_aload_n hx hb dX0_valueAt_0 rfl (lv_at hl 0 rfl) ?_
  refine lv_iload_n hx hb dX0_valueAt_1 rfl (lv_at hl 1 rfl) ?_
  exact bd_V (own := RX0) (As := [.int x]) (rest := []) (C := RX0) (ci := 0) (q0 := 0) ⟨hx, hb, hml, hown, hts⟩ (b_X0_requireFormula l D ad cI cZ cJ n kd sd ts fs tr on rp lt ru lg lp htr hO x hx9) gX0_valueAt_X0_requireFormula rfl ⟨rfl, rfl⟩ 1 rfl (by decide +kernel) ⟨Nat.le_of_ble_eq_true rfl, Nat.le_of_ble_eq_true rfl⟩ hP hK rfl rfl rfl hX hS htab hlocks hl.1 rfl (Nat.le_of_ble_eq_true rfl) dX0_valueAt_2 ⟨Nat.le_of_ble_eq_true rfl, Nat.le_of_ble_eq_true rfl⟩

theorem hgIA_X0_valueAt : ∀ w ∈ aIA.filter goodWord, w ∈ wsX0_valueAt := by first | exact fun _ h => List.mem_cons_of_mem _ (List.mem_append_right _ h) | exact fun _ h => List.mem_cons_of_mem _ (List.mem_append_left _ (List.mem_append_right _ h)) | exact fun _ h => List.mem_cons_of_mem _ (List.mem_append_left _ (List.mem_append_left _ (List.mem_append_right _ h))) | exact fun _ h => List.mem_cons_of_mem _ (List.mem_append_left _ (List.mem_append_left _ (List.mem_append_left _ (List.mem_append_right _ h)))) | decide +kernel
set_option maxHeartbeats 4000000 in
set_option maxRecDepth 100000 in
theorem b_X0_valueAt_2 (htr : l.stackTraces = false) (hO : OKC n tr rp lt lg ru) (f : Nat) (hf : f < n) (x : Int32) (hx9 : x < 0 ∨ nI 4096 ≤ x) : Bd l yX0_valueAt wsX0_valueAt rb_X0_valueAt D vwCl (wC ad cI cZ cJ n kd sd ts fs tr on rp lt ru lg lp) (tyC cI cZ cJ) [.ref (ad 0), .int (nI f), .int x] eIA := by
  refine Bd.of (cc := cX0_valueAt) (maxL := 3) (ret := (some .int)) (by decide) rfl (Nat.le_of_ble_eq_true rfl) ?_
  intro p e s m args below meth c ls hx hb hml hown hts htab hlocks hP hK hX0 hl
  have hown : s.vm.findClass RX0 = some m.cls := hown
  have hl : lv_has ls 3 [(0, .ref (ad 0)), (1, .int (nI f)), (2, .int x)] := hl
  have hS : va_S (fun q => s.heap.size ≤ q) s.heap s.heap [] := va_S.rf
  have hX : XEh (fun _ => False) s s.heap := hX0
  refine lv_aload_n hx hb dX0_valueAt_0 rfl (lv_at hl 0 rfl) ?_
  refine lv_iload_n hx hb dX0_valueAt_1 rfl (lv_at hl 1 rfl) ?_
  refine puV_V (own := RX0) (As := [.int (nI f)]) (rest := []) (C := RX0) (ci := 0) (q0 := 0) ⟨hx, hb, hml, hown, hts⟩ (c_X0_requireFormula l D ad cI cZ cJ n kd sd ts fs tr on rp lt ru lg lp hO f (by omega)) gX0_valueAt_X0_requireFormula rfl ⟨rfl, rfl⟩ 1 rfl (by decide +kernel) ⟨Nat.le_of_ble_eq_true rfl, Nat.le_of_ble_eq_true rfl⟩ hP hK rfl rfl rfl hS hl.1 rfl (Nat.le_of_ble_eq_true rfl) dX0_valueAt_2 ⟨Nat.zero_le _, Nat.zero_le _⟩ (fun H locs hk1 hS => ?_)
  replace hP := keptP hP hk1
  replace hX := hX.kept (fun q hq _ => hk1 q hq)
  refine lv_iload_n hx hb dX0_valueAt_5 rfl (lv_at hl 2 rfl) ?_
  refine lv_if_lt (tgt := 16) hx hb dX0_valueAt_6 (by decide) (fun c_1 => ?_) (fun c_1 => ?_)
  · exact bd_throw (E := eIA) (is := 184) (text := "valuation is not 0 to 4095") (ik := 80) (ic := 84) ⟨hx, hb, hml.trans hl.1.symm, hown, hts⟩ htr rfl (by decide +kernel) (by decide +kernel) (by decide +kernel) (by decide +kernel) hgIA_X0_valueAt xwIA otIA hX0 htab hlocks hS dX0_valueAt_16 dX0_valueAt_19 dX0_valueAt_20 dX0_valueAt_22 dX0_valueAt_25 ⟨Nat.le_of_ble_eq_true rfl, Nat.le_of_ble_eq_true rfl, Nat.le_of_ble_eq_true rfl, Nat.le_of_ble_eq_true rfl⟩
  · have hx8 : nI 4096 ≤ x := hx9.resolve_left c_1
    refine lv_iload_n hx hb dX0_valueAt_9 rfl (lv_at hl 2 rfl) ?_
    refine lv_sipush (v := nI 4096) hx hb dX0_valueAt_10 (by decide) ?_
    refine cF_lt (tgt := 26) hx hb dX0_valueAt_13 (by decide) (fun q => by rw [Int32.lt_iff_toInt_lt] at q; rw [Int32.le_iff_toInt_le] at hx8; omega) ?_
    exact bd_throw (E := eIA) (is := 184) (text := "valuation is not 0 to 4095") (ik := 80) (ic := 84) ⟨hx, hb, hml.trans hl.1.symm, hown, hts⟩ htr rfl (by decide +kernel) (by decide +kernel) (by decide +kernel) (by decide +kernel) hgIA_X0_valueAt xwIA otIA hX0 htab hlocks hS dX0_valueAt_16 dX0_valueAt_19 dX0_valueAt_20 dX0_valueAt_22 dX0_valueAt_25 ⟨Nat.le_of_ble_eq_true rfl, Nat.le_of_ble_eq_true rfl, Nat.le_of_ble_eq_true rfl, Nat.le_of_ble_eq_true rfl⟩

end
