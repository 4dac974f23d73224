def rm_X0_requireAtom : Room := { frames := 0, cells := 0, slots := 0, locals := 0 }
set_option maxHeartbeats 4000000 in
set_option maxRecDepth 100000 in
theorem c_X0_requireAtom (l : Launch) (D : va_G) (a : Nat) (ha : a < 6) : PuV l yX0_requireAtom wsX0_requireAtom rm_X0_requireAtom D vwCl [] ([]) [.int (nI a)] := by
  refine PuV.of (cc := cX0_requireAtom) (maxL := 1) (by decide) rfl (Nat.le_of_ble_eq_true rfl) ?_
  intro p e s m args below meth c Q ls hx hb hml hown hts hP hK kret hl
  have hown : s.vm.findClass RX0 = some m.cls := hown
  have hl : lv_has ls 1 [(0, .int (nI a))] := hl
  have hS : va_S (fun _ => False) s.heap s.heap [] := va_S.rf
  refine lv_iload_n hx hb dX0_requireAtom_0 rfl (lv_at hl 0 rfl) ?_
  refine zF_lt (tgt := 10) hx hb dX0_requireAtom_1 (by decide) (nI_pos (by omega)) ?_
  refine lv_iload_n hx hb dX0_requireAtom_4 rfl (lv_at hl 0 rfl) ?_
  refine lv_bipush (v := nI 6) hx hb dX0_requireAtom_5 (by decide) ?_
  refine cT_lt (tgt := 20) hx hb dX0_requireAtom_7 (by decide) (nI_lt (by omega) (by omega)) ?_
  exact kret _ _ _ _ hS dX0_requireAtom_20

def rb_X0_requireAtom : Room := { frames := 6, cells := 1, slots := 6, locals := 82 }
theorem hgIO_X0_requireAtom : ∀ w ∈ aIO.filter goodWord, w ∈ wsX0_requireAtom := by first | exact fun _ h => List.mem_cons_of_mem _ (List.mem_append_right _ h) | exact fun _ h => List.mem_cons_of_mem _ (List.mem_append_left _ (List.mem_append_right _ h)) | exact fun _ h => List.mem_cons_of_mem _ (List.mem_append_left _ (List.mem_append_left _ (List.mem_append_right _ h))) | exact fun _ h => List.mem_cons_of_mem _ (List.mem_append_left _ (List.mem_append_left _ (List.mem_append_left _ (List.mem_append_right _ h)))) | decide +kernel
set_option maxHeartbeats 4000000 in
set_option maxRecDepth 100000 in
theorem b_X0_requireAtom (l : Launch) (D : va_G) (htr : l.stackTraces = false) (x : Int32) (hx9 : x < 0 ∨ nI 6 ≤ x) : Bd l yX0_requireAtom wsX0_requireAtom rb_X0_requireAtom D vwCl [] ([]) [.int x] eIO := by
  refine Bd.of (cc := cX0_requireAtom) (maxL := 1) (ret := none) (by decide) rfl (Nat.le_of_ble_eq_true rfl) ?_
  intro p e s m args below meth c ls hx hb hml hown hts htab hlocks hP hK hX0 hl
  have hown : s.vm.findClass RX0 = some m.cls := hown
  have hl : lv_has ls 1 [(0, .int x)] := hl
  have hS : va_S (fun q => s.heap.size ≤ q) s.heap s.heap [] := va_S.rf
  have hX : XEh (fun _ => False) s s.heap := hX0
  refine lv_iload_n hx hb dX0_requireAtom_0 rfl (lv_at hl 0 rfl) ?_
  refine lv_if_lt (tgt := 10) hx hb dX0_requireAtom_1 (by decide) (fun c_1 => ?_) (fun c_1 => ?_)
  · exact bd_throw (E := eIO) (is := 199) (text := "no such atom") (ik := 197) (ic := 201) ⟨hx, hb, hml.trans hl.1.symm, hown, hts⟩ htr rfl (by decide +kernel) (by decide +kernel) (by decide +kernel) (by decide +kernel) hgIO_X0_requireAtom xwIO otIO hX0 htab hlocks hS dX0_requireAtom_10 dX0_requireAtom_13 dX0_requireAtom_14 dX0_requireAtom_16 dX0_requireAtom_19 ⟨Nat.le_of_ble_eq_true rfl, Nat.le_of_ble_eq_true rfl, Nat.le_of_ble_eq_true rfl, Nat.le_of_ble_eq_true rfl⟩
  · have hx8 : nI 6 ≤ x := hx9.resolve_left c_1
    refine lv_iload_n hx hb dX0_requireAtom_4 rfl (lv_at hl 0 rfl) ?_
    refine lv_bipush (v := nI 6) hx hb dX0_requireAtom_5 (by decide) ?_
    refine cF_lt (tgt := 20) hx hb dX0_requireAtom_7 (by decide) (fun q => by rw [Int32.lt_iff_toInt_lt] at q; rw [Int32.le_iff_toInt_le] at hx8; omega) ?_
    exact bd_throw (E := eIO) (is := 199) (text := "no such atom") (ik := 197) (ic := 201) ⟨hx, hb, hml.trans hl.1.symm, hown, hts⟩ htr rfl (by decide +kernel) (by decide +kernel) (by decide +kernel) (by decide +kernel) hgIO_X0_requireAtom xwIO otIO hX0 htab hlocks hS dX0_requireAtom_10 dX0_requireAtom_13 dX0_requireAtom_14 dX0_requireAtom_16 dX0_requireAtom_19 ⟨Nat.le_of_ble_eq_true rfl, Nat.le_of_ble_eq_true rfl, Nat.le_of_ble_eq_true rfl, Nat.le_of_ble_eq_true rfl⟩

def rm_X0_requireSource : Room := { frames := 0, cells := 0, slots := 0, locals := 0 }
set_option maxHeartbeats 4000000 in
set_option maxRecDepth 100000 in
theorem c_X0_requireSource (l : Launch) (D : va_G) (a : Nat) (ha : a < 6) : PuV l yX0_requireSource wsX0_requireSource rm_X0_requireSource D vwCl [] ([]) [.int (nI a)] := by
  refine PuV.of (cc := cX0_requireSource) (maxL := 1) (by decide) rfl (Nat.le_of_ble_eq_true rfl) ?_
  intro p e s m args below meth c Q ls hx hb hml hown hts hP hK kret hl
  have hown : s.vm.findClass RX0 = some m.cls := hown
  have hl : lv_has ls 1 [(0, .int (nI a))] := hl
  have hS : va_S (fun _ => False) s.heap s.heap [] := va_S.rf
  refine lv_iload_n hx hb dX0_requireSource_0 rfl (lv_at hl 0 rfl) ?_
  refine zF_lt (tgt := 10) hx hb dX0_requireSource_1 (by decide) (nI_pos (by omega)) ?_
  refine lv_iload_n hx hb dX0_requireSource_4 rfl (lv_at hl 0 rfl) ?_
  refine lv_bipush (v := nI 6) hx hb dX0_requireSource_5 (by decide) ?_
  refine cT_lt (tgt := 20) hx hb dX0_requireSource_7 (by decide) (nI_lt (by omega) (by omega)) ?_
  exact kret _ _ _ _ hS dX0_requireSource_20

def rb_X0_requireSource : Room := { frames := 6, cells := 1, slots := 6, locals := 82 }
theorem hgIO_X0_requireSource : ∀ w ∈ aIO.filter goodWord, w ∈ wsX0_requireSource := by first | exact fun _ h => List.mem_cons_of_mem _ (List.mem_append_right _ h) | exact fun _ h => List.mem_cons_of_mem _ (List.mem_append_left _ (List.mem_append_right _ h)) | exact fun _ h => List.mem_cons_of_mem _ (List.mem_append_left _ (List.mem_append_left _ (List.mem_append_right _ h))) | exact fun _ h => List.mem_cons_of_mem _ (List.mem_append_left _ (List.mem_append_left _ (List.mem_append_left _ (List.mem_append_right _ h)))) | decide +kernel
set_option maxHeartbeats 4000000 in
set_option maxRecDepth 100000 in
theorem b_X0_requireSource (l : Launch) (D : va_G) (htr : l.stackTraces = false) (x : Int32) (hx9 : x < 0 ∨ nI 6 ≤ x) : Bd l yX0_requireSource wsX0_requireSource rb_X0_requireSource D vwCl [] ([]) [.int x] eIO := by
  refine Bd.of (cc := cX0_requireSource) (maxL := 1) (ret := none) (by decide) rfl (Nat.le_of_ble_eq_true rfl) ?_
  intro p e s m args below meth c ls hx hb hml hown hts htab hlocks hP hK hX0 hl
  have hown : s.vm.findClass RX0 = some m.cls := hown
  have hl : lv_has ls 1 [(0, .int x)] := hl
  have hS : va_S (fun q => s.heap.size ≤ q) s.heap s.heap [] := va_S.rf
  have hX : XEh (fun _ => False) s s.heap := hX0
  refine lv_iload_n hx hb dX0_requireSource_0 rfl (lv_at hl 0 rfl) ?_
  refine lv_if_lt (tgt := 10) hx hb dX0_requireSource_1 (by decide) (fun c_1 => ?_) (fun c_1 => ?_)
  · exact bd_throw (E := eIO) (is := 202) (text := "no such source") (ik := 197) (ic := 201) ⟨hx, hb, hml.trans hl.1.symm, hown, hts⟩ htr rfl (by decide +kernel) (by decide +kernel) (by decide +kernel) (by decide +kernel) hgIO_X0_requireSource xwIO otIO hX0 htab hlocks hS dX0_requireSource_10 dX0_requireSource_13 dX0_requireSource_14 dX0_requireSource_16 dX0_requireSource_19 ⟨Nat.le_of_ble_eq_true rfl, Nat.le_of_ble_eq_true rfl, Nat.le_of_ble_eq_true rfl, Nat.le_of_ble_eq_true rfl⟩
  · have hx8 : nI 6 ≤ x := hx9.resolve_left c_1
    refine lv_iload_n hx hb dX0_requireSource_4 rfl (lv_at hl 0 rfl) ?_
    refine lv_bipush (v := nI 6) hx hb dX0_requireSource_5 (by decide) ?_
    refine cF_lt (tgt := 20) hx hb dX0_requireSource_7 (by decide) (fun q => by rw [Int32.lt_iff_toInt_lt] at q; rw [Int32.le_iff_toInt_le] at hx8; omega) ?_
    exact bd_throw (E := eIO) (is := 202) (text := "no such source") (ik := 197) (ic := 201) ⟨hx, hb, hml.trans hl.1.symm, hown, hts⟩ htr rfl (by decide +kernel) (by decide +kernel) (by decide +kernel) (by decide +kernel) hgIO_X0_requireSource xwIO otIO hX0 htab hlocks hS dX0_requireSource_10 dX0_requireSource_13 dX0_requireSource_14 dX0_requireSource_16 dX0_requireSource_19 ⟨Nat.le_of_ble_eq_true rfl, Nat.le_of_ble_eq_true rfl, Nat.le_of_ble_eq_true rfl, Nat.le_of_ble_eq_true rfl⟩

def rm_X0_requireValue : Room := { frames := 0, cells := 0, slots := 0, locals := 0 }
set_option maxHeartbeats 4000000 in
set_option maxRecDepth 100000 in
theorem c_X0_requireValue (l : Launch) (D : va_G) (a : Nat) (ha : a < 4) : PuV l yX0_requireValue wsX0_requireValue rm_X0_requireValue D vwCl [] ([]) [.int (nI a)] := by
  refine PuV.of (cc := cX0_requireValue) (maxL := 1) (by decide) rfl (Nat.le_of_ble_eq_true rfl) ?_
  intro p e s m args below meth c Q ls hx hb hml hown hts hP hK kret hl
  have hown : s.vm.findClass RX0 = some m.cls := hown
  have hl : lv_has ls 1 [(0, .int (nI a))] := hl
  have hS : va_S (fun _ => False) s.heap s.heap [] := va_S.rf
  refine lv_iload_n hx hb dX0_requireValue_0 rfl (lv_at hl 0 rfl) ?_
  refine zF_lt (tgt := 9) hx hb dX0_requireValue_1 (by decide) (nI_pos (by omega)) ?_
  refine lv_iload_n hx hb dX0_requireValue_4 rfl (lv_at hl 0 rfl) ?_
  refine lv_iconst (v := nI 3) hx hb dX0_requireValue_5 (by decide) ?_
  refine cT_le (tgt := 19) hx hb dX0_requireValue_6 (by decide) (nI_le (by omega) (by omega)) ?_
  exact kret _ _ _ _ hS dX0_requireValue_19

def rb_X0_requireValue : Room := { frames := 6, cells := 1, slots := 6, locals := 82 }
theorem hgIA_X0_requireValue : ∀ w ∈ aIA.filter goodWord, w ∈ wsX0_requireValue := by first | exact fun _ h => List.mem_cons_of_mem _ (List.mem_append_right _ h) | exact fun _ h => List.mem_cons_of_mem _ (List.mem_append_left _ (List.mem_append_right _ h)) | exact fun _ h => List.mem_cons_of_mem _ (List.mem_append_left _ (List.mem_append_left _ (List.mem_append_right _ h))) | exact fun _ h => List.mem_cons_of_mem _ (List.mem_append_left _ (List.mem_append_left _ (List.mem_append_left _ (List.mem_append_right _ h)))) | decide +kernel
set_option maxHeartbeats 4000000 in
set_option maxRecDepth 100000 in
theorem b_X0_requireValue (l : Launch) (D : va_G) (htr : l.stackTraces = false) (x : Int32) (hx9 : x < 0 ∨ nI 4 ≤ x) : Bd l yX0_requireValue wsX0_requireValue rb_X0_requireValue D vwCl [] ([]) [.int x] eIA := by
  refine Bd.of (cc := cX0_requireValue) (maxL := 1) (ret := none) (by decide) rfl (Nat.le_of_ble_eq_true rfl) ?_
  intro p e s m args below meth c ls hx hb hml hown hts htab hlocks hP hK hX0 hl
  have hown : s.vm.findClass RX0 = some m.cls := hown
  have hl : lv_has ls 1 [(0, .int x)] := hl
  have hS : va_S (fun q => s.heap.size ≤ q) s.heap s.heap [] := va_S.rf
  have hX : XEh (fun _ => False) s s.heap := hX0
  refine lv_iload_n hx hb dX0_requireValue_0 rfl (lv_at hl 0 rfl) ?_
  refine lv_if_lt (tgt := 9) hx hb dX0_requireValue_1 (by decide) (fun c_1 => ?_) (fun c_1 => ?_)
  · exact bd_throw (E := eIA) (is := 204) (text := "value is not 0 to 3") (ik := 80) (ic := 84) ⟨hx, hb, hml.trans hl.1.symm, hown, hts⟩ htr rfl (by decide +kernel) (by decide +kernel) (by decide +kernel) (by decide +kernel) hgIA_X0_requireValue xwIA otIA hX0 htab hlocks hS dX0_requireValue_9 dX0_requireValue_12 dX0_requireValue_13 dX0_requireValue_15 dX0_requireValue_18 ⟨Nat.le_of_ble_eq_true rfl, Nat.le_of_ble_eq_true rfl, Nat.le_of_ble_eq_true rfl, Nat.le_of_ble_eq_true rfl⟩
  · have hx8 : nI 4 ≤ x := hx9.resolve_left c_1
    refine lv_iload_n hx hb dX0_requireValue_4 rfl (lv_at hl 0 rfl) ?_
    refine lv_iconst (v := nI 3) hx hb dX0_requireValue_5 (by decide) ?_
    refine cF_le (tgt := 19) hx hb dX0_requireValue_6 (by decide) (hi_bad hx8 (by omega)) ?_
    exact bd_throw (E := eIA) (is := 204) (text := "value is not 0 to 3") (ik := 80) (ic := 84) ⟨hx, hb, hml.trans hl.1.symm, hown, hts⟩ htr rfl (by decide +kernel) (by decide +kernel) (by decide +kernel) (by decide +kernel) hgIA_X0_requireValue xwIA otIA hX0 htab hlocks hS dX0_requireValue_9 dX0_requireValue_12 dX0_requireValue_13 dX0_requireValue_15 dX0_requireValue_18 ⟨Nat.le_of_ble_eq_true rfl, Nat.le_of_ble_eq_true rfl, Nat.le_of_ble_eq_true rfl, Nat.le_of_ble_eq_true rfl⟩

def rm_X0_requireTrust : Room := { frames := 0, cells := 0, slots := 0, locals := 0 }
set_option maxHeartbeats 4000000 in
set_option maxRecDepth 100000 in
theorem c_X0_requireTrust (l : Launch) (D : va_G) (a : Nat) (ha : 1 ≤ a ∧ a ≤ 100) : PuV l yX0_requireTrust wsX0_requireTrust rm_X0_requireTrust D vwCl [] ([]) [.int (nI a)] := by
  refine PuV.of (cc := cX0_requireTrust) (maxL := 1) (by decide) rfl (Nat.le_of_ble_eq_true rfl) ?_
  intro p e s m args below meth c Q ls hx hb hml hown hts hP hK kret hl
  have hown : s.vm.findClass RX0 = some m.cls := hown
  have hl : lv_has ls 1 [(0, .int (nI a))] := hl
  have hS : va_S (fun _ => False) s.heap s.heap [] := va_S.rf
  refine lv_iload_n hx hb dX0_requireTrust_0 rfl (lv_at hl 0 rfl) ?_
  refine lv_iconst (v := nI 1) hx hb dX0_requireTrust_1 (by decide) ?_
  refine cF_lt (tgt := 11) hx hb dX0_requireTrust_2 (by decide) (nI_nlt (by omega) (by omega)) ?_
  refine lv_iload_n hx hb dX0_requireTrust_5 rfl (lv_at hl 0 rfl) ?_
  refine lv_bipush (v := nI 100) hx hb dX0_requireTrust_6 (by decide) ?_
  refine cT_le (tgt := 21) hx hb dX0_requireTrust_8 (by decide) (nI_le (by omega) (by omega)) ?_
  exact kret _ _ _ _ hS dX0_requireTrust_21

def rb_X0_requireTrust : Room := { frames := 6, cells := 1, slots := 6, locals := 82 }
theorem hgIA_X0_requireTrust : ∀ w ∈ aIA.filter goodWord, w ∈ wsX0_requireTrust := by first | exact fun _ h => List.mem_cons_of_mem _ (List.mem_append_right _ h) | exact fun _ h => List.mem_cons_of_mem _ (List.mem_append_left _ (List.mem_append_right _ h)) | exact fun _ h => List.mem_cons_of_mem _ (List.mem_append_left _ (List.mem_append_left _ (List.mem_append_right _ h))) | exact fun _ h => List.mem_cons_of_mem _ (List.mem_append_left _ (List.mem_append_left _ (List.mem_append_left _ (List.mem_append_right _ h)))) | decide +kernel
set_option maxHeartbeats 4000000 in
set_option maxRecDepth 100000 in
theorem b_X0_requireTrust (l : Launch) (D : va_G) (htr : l.stackTraces = false) (x : Int32) (hx9 : x < 0 ∨ nI 101 ≤ x ∨ x = nI 0) : Bd l yX0_requireTrust wsX0_requireTrust rb_X0_requireTrust D vwCl [] ([]) [.int x] eIA := by
  refine Bd.of (cc := cX0_requireTrust) (maxL := 1) (ret := none) (by decide) rfl (Nat.le_of_ble_eq_true rfl) ?_
  intro p e s m args below meth c ls hx hb hml hown hts htab hlocks hP hK hX0 hl
  have hown : s.vm.findClass RX0 = some m.cls := hown
  have hl : lv_has ls 1 [(0, .int x)] := hl
  have hS : va_S (fun q => s.heap.size ≤ q) s.heap s.heap [] := va_S.rf
  have hX : XEh (fun _ => False) s s.heap := hX0
  refine lv_iload_n hx hb dX0_requireTrust_0 rfl (lv_at hl 0 rfl) ?_
  refine lv_iconst (v := nI 1) hx hb dX0_requireTrust_1 (by decide) ?_
  refine lv_icmp_lt (tgt := 11) hx hb dX0_requireTrust_2 (by decide) (fun c_1 => ?_) (fun c_1 => ?_)
  · exact bd_throw (E := eIA) (is := 206) (text := "trust is not 1 to 100") (ik := 80) (ic := 84) ⟨hx, hb, hml.trans hl.1.symm, hown, hts⟩ htr rfl (by decide +kernel) (by decide +kernel) (by decide +kernel) (by decide +kernel) hgIA_X0_requireTrust xwIA otIA hX0 htab hlocks hS dX0_requireTrust_11 dX0_requireTrust_14 dX0_requireTrust_15 dX0_requireTrust_17 dX0_requireTrust_20 ⟨Nat.le_of_ble_eq_true rfl, Nat.le_of_ble_eq_true rfl, Nat.le_of_ble_eq_true rfl, Nat.le_of_ble_eq_true rfl⟩
  · have hx8 : nI 101 ≤ x := lo_bad hx9 c_1
    refine lv_iload_n hx hb dX0_requireTrust_5 rfl (lv_at hl 0 rfl) ?_
    refine lv_bipush (v := nI 100) hx hb dX0_requireTrust_6 (by decide) ?_
    refine cF_le (tgt := 21) hx hb dX0_requireTrust_8 (by decide) (hi_bad hx8 (by omega)) ?_
    exact bd_throw (E := eIA) (is := 206) (text := "trust is not 1 to 100") (ik := 80) (ic := 84) ⟨hx, hb, hml.trans hl.1.symm, hown, hts⟩ htr rfl (by decide +kernel) (by decide +kernel) (by decide +kernel) (by decide +kernel) hgIA_X0_requireTrust xwIA otIA hX0 htab hlocks hS dX0_requireTrust_11 dX0_requireTrust_14 dX0_requireTrust_15 dX0_requireTrust_17 dX0_requireTrust_20 ⟨Nat.le_of_ble_eq_true rfl, Nat.le_of_ble_eq_true rfl, Nat.le_of_ble_eq_true rfl, Nat.le_of_ble_eq_true rfl⟩

