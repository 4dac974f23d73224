theorem lwz (b : Bool) : lg_cmp (lN (b2n b)) 0 = 0 ↔ b = false := by cases b <;> decide
theorem sh1L {t : Nat} (h : t < 64) : (1 : Int64) <<< ((nI t).toInt64 &&& 63) = lN (2 ^ t) := by
  have := wb_shl 1 h
  rw [Nat.one_mul] at this
  exact this
theorem tri (g a b c : Nat) : nI ((g / 2 ^ a &&& g / 2 ^ b &&& g / 2 ^ c) % 2) = nI (b2n (g.testBit a && g.testBit b && g.testBit c)) := by
  have h : ∀ x : Nat, x % 2 = b2n (x.testBit 0) := fun x => by
    have := nat_bit x 0
    rw [Nat.pow_zero, Nat.div_one] at this
    exact this
  rw [h, Nat.testBit_and, Nat.testBit_and, Nat.testBit_div_two_pow, Nat.testBit_div_two_pow, Nat.testBit_div_two_pow]
  simp only [Nat.add_zero, Nat.zero_add]
theorem b2z (b : Bool) : nI (b2n b) = 0 ↔ b = false := by cases b <;> decide
def rm_X0_valuationsWithBit : Room := { frames := 0, cells := 0, slots := 0, locals := 0 }
set_option maxHeartbeats 4000000 in
set_option maxRecDepth 100000 in
theorem c_X0_valuationsWithBit (l : Launch) (D : va_G) (b w : Nat) (hb12 : b < 12) (hw64 : w < 64) : PuLe l yX0_valuationsWithBit wsX0_valuationsWithBit rm_X0_valuationsWithBit D vwCl [] ([]) [.int (nI b), .int (nI w)] (vbL b w) := by
  refine PuLe.of (cc := cX0_valuationsWithBit) (maxL := 2) (by decide) rfl (Nat.le_of_ble_eq_true rfl) ?_
  intro p e s m args below meth c Q ls hx hb hml hown hts hP hK hTB kret hl
  have hown : s.vm.findClass RX0 = some m.cls := hown
  have hl : lv_has ls 2 [(0, .int (nI b)), (1, .int (nI w))] := hl
  have hS : va_S (fun _ => False) s.heap s.heap [] := va_S.rf
  obtain ⟨t9, hZ9, hT9⟩ := hTB
  refine lv_iload_n hx hb dX0_valuationsWithBit_0 rfl (lv_at hl 0 rfl) ?_
  refine va_gets (v := .ref t9) hx hb hZ9 hS hown (hts (.fieldLink RX0 217 "RumourReasoner" "NUMBERS_WITH_BIT" "[J") (by decide +kernel)) (fun _ h9 => h9) dX0_valuationsWithBit_1 ?_
  refine va_tlen (N := 6) (v := nI 6) hx hb hT9 hS rfl dX0_valuationsWithBit_4 ?_
  refine lv_icmp_ge (tgt := 14) hx hb dX0_valuationsWithBit_5 (by decide) (fun c_1 => ?_) (fun c_1 => ?_)
  · have e_5 : ¬ b < 6 := fun q => nI_ge q (by decide) c_1
    refine lv_iload_n hx hb dX0_valuationsWithBit_14 rfl (lv_at hl 1 rfl) ?_
    refine lv_iload_n hx hb dX0_valuationsWithBit_15 rfl (lv_at hl 0 rfl) ?_
    refine va_gets (v := .ref t9) hx hb hZ9 hS hown (hts (.fieldLink RX0 217 "RumourReasoner" "NUMBERS_WITH_BIT" "[J") (by decide +kernel)) (fun _ h9 => h9) dX0_valuationsWithBit_16 ?_
    refine va_tlen (N := 6) (v := nI 6) hx hb hT9 hS rfl dX0_valuationsWithBit_19 ?_
    refine lv_isub hx hb dX0_valuationsWithBit_20 ?_
    refine tc_int (y := nI (b - 6)) (pk_sub (by omega)) ?_
    refine lv_iushr (v := ((nI w).toUInt32 >>> ((nI (b - 6)).toUInt32 &&& Int32.toUInt32 31)).toInt32) hx hb dX0_valuationsWithBit_21 rfl ?_
    refine tc_int (y := nI (w / 2 ^ (b - 6))) (ushN (by omega) (by omega)) ?_
    refine lv_iconst (v := nI 1) hx hb dX0_valuationsWithBit_22 (by decide) ?_
    refine lv_iand hx hb dX0_valuationsWithBit_23 ?_
    refine tc_int (y := nI (w / 2 ^ (b - 6) % 2)) (and1 (Nat.lt_of_le_of_lt (Nat.div_le_self _ _) (by omega))) ?_
    refine lv_if_eq (tgt := 33) hx hb dX0_valuationsWithBit_24 (by decide) (fun c_2 => ?_) (fun c_2 => ?_)
    · have e_24 : Nat.testBit w (b - 6) = false := bit0.mp c_2
      refine lv_lconst (v := 0) hx hb dX0_valuationsWithBit_33 (by decide) ?_
      exact kret _ _ _ _ _ (by unfold vbL; rw [if_neg e_5, if_neg (by rw [e_24]; decide)]) hS dX0_valuationsWithBit_34
    · have e_24 : Nat.testBit w (b - 6) = true := ts_nf (fun q => c_2 (bit0.mpr q))
      refine lv_ldc2 (v := (-1)) hx hb hown (hts (.constantLong RX0 46 (-1)) (by decide +kernel)) dX0_valuationsWithBit_27 ?_
      refine lv_goto (tgt := 34) hx hb dX0_valuationsWithBit_30 (by decide) ?_
      exact kret _ _ _ _ _ (by unfold vbL; rw [if_neg e_5, if_pos e_24]) hS dX0_valuationsWithBit_34
  · have e_5 : b < 6 := Nat.not_le.mp (fun q => c_1 (nI_le q (by omega)))
    refine va_gets (v := .ref t9) hx hb hZ9 hS hown (hts (.fieldLink RX0 217 "RumourReasoner" "NUMBERS_WITH_BIT" "[J") (by decide +kernel)) (fun _ h9 => h9) dX0_valuationsWithBit_8 ?_
    refine lv_iload_n hx hb dX0_valuationsWithBit_11 rfl (lv_at hl 0 rfl) ?_
    refine va_tl (v := .long (NB b)) hx hb hT9 hS (vp_in_nI (by omega) (by decide)) (by rw [nI_clamp (by omega)]) dX0_valuationsWithBit_12 ?_
    exact kret _ _ _ _ _ (by unfold vbL; rw [if_pos e_5]) hS dX0_valuationsWithBit_13

def rm_X0_joinTrue : Room := { frames := 0, cells := 0, slots := 0, locals := 0 }
set_option maxHeartbeats 4000000 in
set_option maxRecDepth 100000 in
theorem c_X0_joinTrue (l : Launch) (D : va_G) (k : Nat) (x y : Int64) (hk : 3 ≤ k ∧ k ≤ 7) : PuL l yX0_joinTrue wsX0_joinTrue rm_X0_joinTrue D vwCl [] ([]) [.int (nI k), .long x, .long y] (jTL k x y) := by
  refine PuL.of (cc := cX0_joinTrue) (maxL := 5) (by decide) rfl (Nat.le_of_ble_eq_true rfl) ?_
  intro p e s m args below meth c Q ls hx hb hml hown hts hP hK kret hl
  have hown : s.vm.findClass RX0 = some m.cls := hown
  have hl : lv_has ls 5 [(0, .int (nI k)), (1, .long x), (3, .long y)] := hl
  have hS : va_S (fun _ => False) s.heap s.heap [] := va_S.rf
  refine lv_iload_n hx hb dX0_joinTrue_0 rfl (lv_at hl 0 rfl) ?_
  rcases (show k = 3 ∨ k = 4 ∨ k = 5 ∨ k = 6 ∨ k = 7 by omega) with e_k | e_k | e_k | e_k | e_k
  · refine tc_int (y := nI 3) (by rw [e_k]) ?_
    refine lv_tableIn (off := 31) (tgt := 32) hx hb dX0_joinTrue_1 (by decide) (by decide) rfl (by decide) ?_
    refine lv_lload_n hx hb dX0_joinTrue_32 rfl (lv_at hl 1 rfl) ?_
    refine lv_lload_n hx hb dX0_joinTrue_33 rfl (lv_at hl 2 rfl) ?_
    refine lv_land hx hb dX0_joinTrue_34 ?_
    exact kret _ _ _ _ _ (by rw [e_k]; rfl) hS dX0_joinTrue_35
  · refine tc_int (y := nI 4) (by rw [e_k]) ?_
    refine lv_tableIn (off := 35) (tgt := 36) hx hb dX0_joinTrue_1 (by decide) (by decide) rfl (by decide) ?_
    refine lv_lload_n hx hb dX0_joinTrue_36 rfl (lv_at hl 1 rfl) ?_
    refine lv_lload_n hx hb dX0_joinTrue_37 rfl (lv_at hl 2 rfl) ?_
    refine lv_lor hx hb dX0_joinTrue_38 ?_
    exact kret _ _ _ _ _ (by rw [e_k]; rfl) hS dX0_joinTrue_39
  · refine tc_int (y := nI 5) (by rw [e_k]) ?_
    refine lv_tableIn (off := 31) (tgt := 32) hx hb dX0_joinTrue_1 (by decide) (by decide) rfl (by decide) ?_
    refine lv_lload_n hx hb dX0_joinTrue_32 rfl (lv_at hl 1 rfl) ?_
    refine lv_lload_n hx hb dX0_joinTrue_33 rfl (lv_at hl 2 rfl) ?_
    refine lv_land hx hb dX0_joinTrue_34 ?_
    exact kret _ _ _ _ _ (by rw [e_k]; rfl) hS dX0_joinTrue_35
  · refine tc_int (y := nI 6) (by rw [e_k]) ?_
    refine lv_tableIn (off := 35) (tgt := 36) hx hb dX0_joinTrue_1 (by decide) (by decide) rfl (by decide) ?_
    refine lv_lload_n hx hb dX0_joinTrue_36 rfl (lv_at hl 1 rfl) ?_
    refine lv_lload_n hx hb dX0_joinTrue_37 rfl (lv_at hl 2 rfl) ?_
    refine lv_lor hx hb dX0_joinTrue_38 ?_
    exact kret _ _ _ _ _ (by rw [e_k]; rfl) hS dX0_joinTrue_39
  · refine tc_int (y := nI 7) (by rw [e_k]) ?_
    refine lv_tableOut (tgt := 40) hx hb dX0_joinTrue_1 (Or.inr (by decide)) (by decide) ?_
    refine lv_lload_n hx hb dX0_joinTrue_40 rfl (lv_at hl 1 rfl) ?_
    refine lv_ldc2 (v := (-1)) hx hb hown (hts (.constantLong RX0 46 (-1)) (by decide +kernel)) dX0_joinTrue_41 ?_
    refine lv_lxor hx hb dX0_joinTrue_44 ?_
    refine lv_lload_n hx hb dX0_joinTrue_45 rfl (lv_at hl 2 rfl) ?_
    refine lv_lor hx hb dX0_joinTrue_46 ?_
    exact kret _ _ _ _ _ (by rw [e_k]; rfl) hS dX0_joinTrue_47

def rm_X0_joinFalse : Room := { frames := 0, cells := 0, slots := 0, locals := 0 }
set_option maxHeartbeats 4000000 in
set_option maxRecDepth 100000 in
theorem c_X0_joinFalse (l : Launch) (D : va_G) (k : Nat) (x z w : Int64) (hk : 3 ≤ k ∧ k ≤ 7) : PuL l yX0_joinFalse wsX0_joinFalse rm_X0_joinFalse D vwCl [] ([]) [.int (nI k), .long x, .long z, .long w] (jFL k x z w) := by
  refine PuL.of (cc := cX0_joinFalse) (maxL := 7) (by decide) rfl (Nat.le_of_ble_eq_true rfl) ?_
  intro p e s m args below meth c Q ls hx hb hml hown hts hP hK kret hl
  have hown : s.vm.findClass RX0 = some m.cls := hown
  have hl : lv_has ls 7 [(0, .int (nI k)), (1, .long x), (3, .long z), (5, .long w)] := hl
  have hS : va_S (fun _ => False) s.heap s.heap [] := va_S.rf
  refine lv_iload_n hx hb dX0_joinFalse_0 rfl (lv_at hl 0 rfl) ?_
  rcases (show k = 3 ∨ k = 4 ∨ k = 5 ∨ k = 6 ∨ k = 7 by omega) with e_k | e_k | e_k | e_k | e_k
  · refine tc_int (y := nI 3) (by rw [e_k]) ?_
    refine lv_tableIn (off := 36) (tgt := 37) hx hb dX0_joinFalse_1 (by decide) (by decide) rfl (by decide) ?_
    refine lv_lload_n hx hb dX0_joinFalse_37 rfl (lv_at hl 2 rfl) ?_
    refine lv_lload hx hb dX0_joinFalse_38 (lv_at hl 3 rfl) ?_
    refine lv_lor hx hb dX0_joinFalse_40 ?_
    exact kret _ _ _ _ _ (by rw [e_k]; rfl) hS dX0_joinFalse_41
  · refine tc_int (y := nI 4) (by rw [e_k]) ?_
    refine lv_tableIn (off := 31) (tgt := 32) hx hb dX0_joinFalse_1 (by decide) (by decide) rfl (by decide) ?_
    refine lv_lload_n hx hb dX0_joinFalse_32 rfl (lv_at hl 2 rfl) ?_
    refine lv_lload hx hb dX0_joinFalse_33 (lv_at hl 3 rfl) ?_
    refine lv_land hx hb dX0_joinFalse_35 ?_
    exact kret _ _ _ _ _ (by rw [e_k]; rfl) hS dX0_joinFalse_36
  · refine tc_int (y := nI 5) (by rw [e_k]) ?_
    refine lv_tableIn (off := 31) (tgt := 32) hx hb dX0_joinFalse_1 (by decide) (by decide) rfl (by decide) ?_
    refine lv_lload_n hx hb dX0_joinFalse_32 rfl (lv_at hl 2 rfl) ?_
    refine lv_lload hx hb dX0_joinFalse_33 (lv_at hl 3 rfl) ?_
    refine lv_land hx hb dX0_joinFalse_35 ?_
    exact kret _ _ _ _ _ (by rw [e_k]; rfl) hS dX0_joinFalse_36
  · refine tc_int (y := nI 6) (by rw [e_k]) ?_
    refine lv_tableIn (off := 36) (tgt := 37) hx hb dX0_joinFalse_1 (by decide) (by decide) rfl (by decide) ?_
    refine lv_lload_n hx hb dX0_joinFalse_37 rfl (lv_at hl 2 rfl) ?_
    refine lv_lload hx hb dX0_joinFalse_38 (lv_at hl 3 rfl) ?_
    refine lv_lor hx hb dX0_joinFalse_40 ?_
    exact kret _ _ _ _ _ (by rw [e_k]; rfl) hS dX0_joinFalse_41
  · refine tc_int (y := nI 7) (by rw [e_k]) ?_
    refine lv_tableOut (tgt := 42) hx hb dX0_joinFalse_1 (Or.inr (by decide)) (by decide) ?_
    refine lv_lload_n hx hb dX0_joinFalse_42 rfl (lv_at hl 1 rfl) ?_
    refine lv_lload hx hb dX0_joinFalse_43 (lv_at hl 3 rfl) ?_
    refine lv_land hx hb dX0_joinFalse_45 ?_
    exact kret _ _ _ _ _ (by rw [e_k]; rfl) hS dX0_joinFalse_46

def rm_X0_pick : Room := { frames := 1, cells := 0, slots := 0, locals := 21 }
set_option maxHeartbeats 4000000 in
set_option maxRecDepth 100000 in
theorem c_X0_pick (l : Launch) (D : va_G) (x y : Int64) (v : Nat) (hv : v < 4) : PuL l yX0_pick wsX0_pick rm_X0_pick D vwCl [] ([]) [.long x, .long y, .int (nI v)] (pkL x y v) := by
  refine PuL.of (cc := cX0_pick) (maxL := 5) (by decide) rfl (Nat.le_of_ble_eq_true rfl) ?_
  intro p e s m args below meth c Q ls hx hb hml hown hts hP hK kret hl
  have hown : s.vm.findClass RX0 = some m.cls := hown
  have hl : lv_has ls 5 [(0, .long x), (2, .long y), (4, .int (nI v))] := hl
  have hS : va_S (fun _ => False) s.heap s.heap [] := va_S.rf
  refine lv_iload hx hb dX0_pick_0 (lv_at hl 2 rfl) ?_
  refine lv_iconst (v := nI 1) hx hb dX0_pick_2 (by decide) ?_
  refine tc_int (y := bI true) (rfl) ?_
  refine puI_S (own := RX0) (As := [.int (nI v), .int (bI true)]) (rest := []) ⟨hx, hb, hml, hown, hts⟩ (c_X0_isTold l D v true hv) gX0_pick_X0_isTold rfl ⟨rfl, rfl⟩ 2 rfl (by decide +kernel) ⟨Nat.le_of_ble_eq_true rfl, Nat.le_of_ble_eq_true rfl⟩ nilP (hK.sub (tys' := []) [] rfl) hS hl.1 rfl (Nat.le_of_ble_eq_true rfl) dX0_pick_3 ⟨Nat.zero_le _, Nat.zero_le _⟩ (fun H locs hk1 hS => ?_)
  refine lv_if_eq (tgt := 13) hx hb dX0_pick_6 (by decide) (fun c_1 => ?_) (fun c_1 => ?_)
  · have e_6 := bI_0 c_1
    refine lv_lload_n hx hb dX0_pick_13 rfl (lv_at hl 0 rfl) ?_
    refine lv_ldc2 (v := (-1)) hx hb hown (hts (.constantLong RX0 46 (-1)) (by decide +kernel)) dX0_pick_14 ?_
    refine lv_lxor hx hb dX0_pick_17 ?_
    refine lv_iload hx hb dX0_pick_18 (lv_at hl 2 rfl) ?_
    refine lv_iconst (v := nI 0) hx hb dX0_pick_20 (by decide) ?_
    refine tc_int (y := bI false) (rfl) ?_
    refine puI_S (own := RX0) (As := [.int (nI v), .int (bI false)]) (rest := [.long (x ^^^ (-1))]) ⟨hx, hb, hml, hown, hts⟩ (c_X0_isTold l D v false hv) gX0_pick_X0_isTold rfl ⟨rfl, rfl⟩ 2 rfl (by decide +kernel) ⟨Nat.le_of_ble_eq_true rfl, Nat.le_of_ble_eq_true rfl⟩ nilP (hK.sub (tys' := []) [] rfl) hS hl.1 rfl (Nat.le_of_ble_eq_true rfl) dX0_pick_21 ⟨Nat.zero_le _, Nat.zero_le _⟩ (fun H locs hk1 hS => ?_)
    refine lv_if_eq (tgt := 31) hx hb dX0_pick_24 (by decide) (fun c_2 => ?_) (fun c_2 => ?_)
    · have e_24 := bI_0 c_2
      refine lv_lload_n hx hb dX0_pick_31 rfl (lv_at hl 1 rfl) ?_
      refine lv_ldc2 (v := (-1)) hx hb hown (hts (.constantLong RX0 46 (-1)) (by decide +kernel)) dX0_pick_32 ?_
      refine lv_lxor hx hb dX0_pick_35 ?_
      refine lv_land hx hb dX0_pick_36 ?_
      exact kret _ _ _ _ _ (by unfold pkL; rw [if_neg (by rw [e_6]; decide), if_neg (by rw [e_24]; decide)]) hS dX0_pick_37
    · have e_24 := bI_1 c_2
      refine lv_lload_n hx hb dX0_pick_27 rfl (lv_at hl 1 rfl) ?_
      refine lv_goto (tgt := 36) hx hb dX0_pick_28 (by decide) ?_
      refine lv_land hx hb dX0_pick_36 ?_
      exact kret _ _ _ _ _ (by unfold pkL; rw [if_neg (by rw [e_6]; decide), if_pos e_24]) hS dX0_pick_37
  · have e_6 := bI_1 c_1
    refine lv_lload_n hx hb dX0_pick_9 rfl (lv_at hl 0 rfl) ?_
    refine lv_goto (tgt := 18) hx hb dX0_pick_10 (by decide) ?_
    refine lv_iload hx hb dX0_pick_18 (lv_at hl 2 rfl) ?_
    refine lv_iconst (v := nI 0) hx hb dX0_pick_20 (by decide) ?_
    refine tc_int (y := bI false) (rfl) ?_
    refine puI_S (own := RX0) (As := [.int (nI v), .int (bI false)]) (rest := [.long x]) ⟨hx, hb, hml, hown, hts⟩ (c_X0_isTold l D v false hv) gX0_pick_X0_isTold rfl ⟨rfl, rfl⟩ 2 rfl (by decide +kernel) ⟨Nat.le_of_ble_eq_true rfl, Nat.le_of_ble_eq_true rfl⟩ nilP (hK.sub (tys' := []) [] rfl) hS hl.1 rfl (Nat.le_of_ble_eq_true rfl) dX0_pick_21 ⟨Nat.zero_le _, Nat.zero_le _⟩ (fun H locs hk1 hS => ?_)
    refine lv_if_eq (tgt := 31) hx hb dX0_pick_24 (by decide) (fun c_3 => ?_) (fun c_3 => ?_)
    · have e_24 := bI_0 c_3
      refine lv_lload_n hx hb dX0_pick_31 rfl (lv_at hl 1 rfl) ?_
      refine lv_ldc2 (v := (-1)) hx hb hown (hts (.constantLong RX0 46 (-1)) (by decide +kernel)) dX0_pick_32 ?_
      refine lv_lxor hx hb dX0_pick_35 ?_
      refine lv_land hx hb dX0_pick_36 ?_
      exact kret _ _ _ _ _ (by unfold pkL; rw [if_pos e_6, if_neg (by rw [e_24]; decide)]) hS dX0_pick_37
    · have e_24 := bI_1 c_3
      refine lv_lload_n hx hb dX0_pick_27 rfl (lv_at hl 1 rfl) ?_
      refine lv_goto (tgt := 36) hx hb dX0_pick_28 (by decide) ?_
      refine lv_land hx hb dX0_pick_36 ?_
      exact kret _ _ _ _ _ (by unfold pkL; rw [if_pos e_6, if_pos e_24]) hS dX0_pick_37

def rm_X0_triplesOf : Room := { frames := 0, cells := 0, slots := 0, locals := 0 }
set_option maxHeartbeats 4000000 in
set_option maxRecDepth 100000 in
theorem c_X0_triplesOf (l : Launch) (D : va_G) (g : Nat) (hg : g < 16) : PuL l yX0_triplesOf wsX0_triplesOf rm_X0_triplesOf D vwCl [] ([]) [.int (nI g)] (tpL g 64) := by
  refine PuL.of (cc := cX0_triplesOf) (maxL := 7) (by decide) rfl (Nat.le_of_ble_eq_true rfl) ?_
  intro p e s m args below meth c Q ls hx hb hml hown hts hP hK kret hl
  have hown : s.vm.findClass RX0 = some m.cls := hown
  have hl : lv_has ls 7 [(0, .int (nI g))] := hl
  have hS : va_S (fun _ => False) s.heap s.heap [] := va_S.rf
  refine lv_lconst (v := 0) hx hb dX0_triplesOf_0 (by decide) ?_
  refine lv_lstore_n (lv' := [(1, .long 0), (0, .int (nI g))]) hx hb dX0_triplesOf_1 rfl hl (by decide) rfl (fun ls hl => ?_)
  refine lv_iconst (v := nI 0) hx hb dX0_triplesOf_2 (by decide) ?_
  refine lv_istore_n (lv' := [(3, .int (nI 0)), (1, .long 0), (0, .int (nI g))]) hx hb dX0_triplesOf_3 rfl hl (by decide) rfl (fun ls hl => ?_)
  have key1 : ∀ (d3 i2 : Nat), i2 + d3 = 64 → ∀ (H : Heap) (locs : List Loc) (ls : Array Slot), va_S (fun _ => False) s.heap H locs → lv_has ls 7 [(3, .int (nI i2)), (1, .long (tpL g i2)), (0, .int (nI g))] → W p l e rm_X0_triplesOf s m args below meth c H locs 0 0 Q (F0 m 4 ls []) := by
    intro d3
    induction d3 with
    | zero =>
      intro i2 hi_i2 H locs ls hS hl
      obtain rfl : i2 = 64 := by omega
      refine lv_iload_n hx hb dX0_triplesOf_4 rfl (lv_at hl 0 rfl) ?_
      refine lv_bipush (v := nI 64) hx hb dX0_triplesOf_5 (by decide) ?_
      refine cT_ge (tgt := 58) hx hb dX0_triplesOf_7 (by decide) (nI_le (by omega) (by omega)) ?_
      refine lv_lload_n hx hb dX0_triplesOf_58 rfl (lv_at hl 1 rfl) ?_
      exact kret _ _ _ _ _ (rfl) hS dX0_triplesOf_59
    | succ d3 ih_i2 =>
      intro i2 hi_i2 H locs ls hS hl
      refine lv_iload_n hx hb dX0_triplesOf_4 rfl (lv_at hl 0 rfl) ?_
      refine lv_bipush (v := nI 64) hx hb dX0_triplesOf_5 (by decide) ?_
      refine cF_ge (tgt := 58) hx hb dX0_triplesOf_7 (by decide) (nI_ge (by omega) (by omega)) ?_
      refine lv_iload_n hx hb dX0_triplesOf_10 rfl (lv_at hl 2 rfl) ?_
      refine lv_iload_n hx hb dX0_triplesOf_11 rfl (lv_at hl 0 rfl) ?_
      refine lv_iconst (v := nI 4) hx hb dX0_triplesOf_12 (by decide) ?_
      refine lv_iushr (v := ((nI i2).toUInt32 >>> ((nI 4).toUInt32 &&& Int32.toUInt32 31)).toInt32) hx hb dX0_triplesOf_13 rfl ?_
      refine tc_int (y := nI (i2 / 16)) (ushN (by omega) (by omega)) ?_
      refine lv_iushr (v := ((nI g).toUInt32 >>> ((nI (i2 / 16)).toUInt32 &&& Int32.toUInt32 31)).toInt32) hx hb dX0_triplesOf_14 rfl ?_
      refine tc_int (y := nI (g / 2 ^ (i2 / 16))) (ushN (by omega) (by omega)) ?_
      refine lv_istore (lv' := [(4, .int (nI (g / 2 ^ (i2 / 16)))), (3, .int (nI i2)), (1, .long (tpL g i2)), (0, .int (nI g))]) hx hb dX0_triplesOf_15 hl (by decide) rfl (fun ls hl => ?_)
      refine lv_iload_n hx hb dX0_triplesOf_17 rfl (lv_at hl 3 rfl) ?_
      refine lv_iload_n hx hb dX0_triplesOf_18 rfl (lv_at hl 1 rfl) ?_
      refine lv_iconst (v := nI 2) hx hb dX0_triplesOf_19 (by decide) ?_
      refine lv_iushr (v := ((nI i2).toUInt32 >>> ((nI 2).toUInt32 &&& Int32.toUInt32 31)).toInt32) hx hb dX0_triplesOf_20 rfl ?_
      refine tc_int (y := nI (i2 / 4)) (ushN (by omega) (by omega)) ?_
      refine lv_iconst (v := nI 3) hx hb dX0_triplesOf_21 (by decide) ?_
      refine lv_iand hx hb dX0_triplesOf_22 ?_
      refine tc_int (y := nI (i2 / 4 % 4)) (and3 (by omega)) ?_
      refine lv_iushr (v := ((nI g).toUInt32 >>> ((nI (i2 / 4 % 4)).toUInt32 &&& Int32.toUInt32 31)).toInt32) hx hb dX0_triplesOf_23 rfl ?_
      refine tc_int (y := nI (g / 2 ^ (i2 / 4 % 4))) (ushN (by omega) (by omega)) ?_
      refine lv_istore (lv' := [(5, .int (nI (g / 2 ^ (i2 / 4 % 4)))), (4, .int (nI (g / 2 ^ (i2 / 16)))), (3, .int (nI i2)), (1, .long (tpL g i2)), (0, .int (nI g))]) hx hb dX0_triplesOf_24 hl (by decide) rfl (fun ls hl => ?_)
      refine lv_iload_n hx hb dX0_triplesOf_26 rfl (lv_at hl 4 rfl) ?_
      refine lv_iload_n hx hb dX0_triplesOf_27 rfl (lv_at hl 2 rfl) ?_
      refine lv_iconst (v := nI 3) hx hb dX0_triplesOf_28 (by decide) ?_
      refine lv_iand hx hb dX0_triplesOf_29 ?_
      refine tc_int (y := nI (i2 % 4)) (and3 (by omega)) ?_
      refine lv_iushr (v := ((nI g).toUInt32 >>> ((nI (i2 % 4)).toUInt32 &&& Int32.toUInt32 31)).toInt32) hx hb dX0_triplesOf_30 rfl ?_
      refine tc_int (y := nI (g / 2 ^ (i2 % 4))) (ushN (by omega) (by omega)) ?_
      refine lv_istore (lv' := [(6, .int (nI (g / 2 ^ (i2 % 4)))), (5, .int (nI (g / 2 ^ (i2 / 4 % 4)))), (4, .int (nI (g / 2 ^ (i2 / 16)))), (3, .int (nI i2)), (1, .long (tpL g i2)), (0, .int (nI g))]) hx hb dX0_triplesOf_31 hl (by decide) rfl (fun ls hl => ?_)
      refine lv_iload hx hb dX0_triplesOf_33 (lv_at hl 2 rfl) ?_
      refine lv_iload hx hb dX0_triplesOf_35 (lv_at hl 1 rfl) ?_
      refine lv_iand hx hb dX0_triplesOf_37 ?_
      refine tc_int (y := nI (g / 2 ^ (i2 / 16) &&& g / 2 ^ (i2 / 4 % 4))) (fa_and _ _) ?_
      refine lv_iload hx hb dX0_triplesOf_38 (lv_at hl 0 rfl) ?_
      refine lv_iand hx hb dX0_triplesOf_40 ?_
      refine tc_int (y := nI (g / 2 ^ (i2 / 16) &&& g / 2 ^ (i2 / 4 % 4) &&& g / 2 ^ (i2 % 4))) (fa_and _ _) ?_
      refine lv_iconst (v := nI 1) hx hb dX0_triplesOf_41 (by decide) ?_
      refine lv_iand hx hb dX0_triplesOf_42 ?_
      refine tc_int (y := nI (b2n (tcB g i2))) (by rw [and1 (Nat.lt_of_le_of_lt Nat.and_le_right (Nat.lt_of_le_of_lt (Nat.div_le_self _ _) (by omega)))]; exact tri _ _ _ _) ?_
      refine lv_if_eq (tgt := 52) hx hb dX0_triplesOf_43 (by decide) (fun c_4 => ?_) (fun c_4 => ?_)
      · have e_43 := (b2z _).mp c_4
        refine lv_iinc (v := nI (i2 + 1)) (lv' := [(3, .int (nI (i2 + 1))), (6, .int (nI (g / 2 ^ (i2 % 4)))), (5, .int (nI (g / 2 ^ (i2 / 4 % 4)))), (4, .int (nI (g / 2 ^ (i2 / 16)))), (1, .long (tpL g i2)), (0, .int (nI g))]) hx hb dX0_triplesOf_52 hl (k := 3) rfl (iinc1 _) (by decide) rfl (fun ls hl => ?_)
        refine lv_goto (tgt := 4) hx hb dX0_triplesOf_55 (by decide) ?_
        exact ih_i2 (i2 + 1) (by omega) H locs ls hS (by have h9 := lv_sub hl [0, 4, 5] rfl; rw [show tpL g (i2 + 1) = tpL g i2 from if_neg (fun q => Bool.noConfusion (e_43.symm.trans q))]; exact h9)
      · have e_43 : tcB g i2 = true := ts_nf (fun q => c_4 ((b2z _).mpr q))
        refine lv_lload_n hx hb dX0_triplesOf_46 rfl (lv_at hl 4 rfl) ?_
        refine lv_lconst (v := 1) hx hb dX0_triplesOf_47 (by decide) ?_
        refine lv_iload_n hx hb dX0_triplesOf_48 rfl (lv_at hl 3 rfl) ?_
        refine lv_lshl (v := 1 <<< ((nI i2).toInt64 &&& 63)) hx hb dX0_triplesOf_49 rfl ?_
        refine tc_long (y := lN (2 ^ i2)) (sh1L (by omega)) ?_
        refine lv_lor hx hb dX0_triplesOf_50 ?_
        refine lv_lstore_n (lv' := [(1, .long ((tpL g i2) ||| (lN (2 ^ i2)))), (6, .int (nI (g / 2 ^ (i2 % 4)))), (5, .int (nI (g / 2 ^ (i2 / 4 % 4)))), (4, .int (nI (g / 2 ^ (i2 / 16)))), (3, .int (nI i2)), (0, .int (nI g))]) hx hb dX0_triplesOf_51 rfl hl (by decide) rfl (fun ls hl => ?_)
        refine lv_iinc (v := nI (i2 + 1)) (lv' := [(3, .int (nI (i2 + 1))), (1, .long ((tpL g i2) ||| (lN (2 ^ i2)))), (6, .int (nI (g / 2 ^ (i2 % 4)))), (5, .int (nI (g / 2 ^ (i2 / 4 % 4)))), (4, .int (nI (g / 2 ^ (i2 / 16)))), (0, .int (nI g))]) hx hb dX0_triplesOf_52 hl (k := 4) rfl (iinc1 _) (by decide) rfl (fun ls hl => ?_)
        refine lv_goto (tgt := 4) hx hb dX0_triplesOf_55 (by decide) ?_
        exact ih_i2 (i2 + 1) (by omega) H locs ls hS (by have h9 := lv_sub hl [0, 1, 5] rfl; rw [show tpL g (i2 + 1) = tpL g i2 ||| lN (2 ^ i2) from if_pos e_43]; exact h9)
  exact key1 (64) 0 (by omega) _ _ ls hS (lv_sub hl [0, 1, 2] rfl)

