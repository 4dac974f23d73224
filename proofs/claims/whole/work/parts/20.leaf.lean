def rm_X0_placeOf : Room := { frames := 0, cells := 0, slots := 0, locals := 0 }
set_option maxHeartbeats 4000000 in
set_option maxRecDepth 100000 in
theorem c_X0_placeOf (l : Launch) (D : va_G) (a : Nat) (ha : a < 6) : PuI l yX0_placeOf wsX0_placeOf rm_X0_placeOf D vwCl [] ([]) [.int (nI a)] (nI (2 * (5 - a))) := by
  refine PuI.of (cc := cX0_placeOf) (maxL := 1) (by decide) rfl (Nat.le_of_ble_eq_true rfl) (vp_nar_int _) ?_
  intro p e s m args below meth c Q ls hx hb hml hown hts hP hK kret hl
  have hown : s.vm.findClass RX0 = some m.cls := hown
  have hl : lv_has ls 1 [(0, .int (nI a))] := hl
  have hS : va_S (fun _ => False) s.heap s.heap [] := va_S.rf
  refine lv_iconst (v := nI 2) hx hb dX0_placeOf_0 (by decide) ?_
  refine lv_iconst (v := nI 5) hx hb dX0_placeOf_1 (by decide) ?_
  refine lv_iload_n hx hb dX0_placeOf_2 rfl (lv_at hl 0 rfl) ?_
  refine lv_isub hx hb dX0_placeOf_3 ?_
  refine tc_int (y := nI (5 - a)) (pk_sub (by omega)) ?_
  refine lv_imul hx hb dX0_placeOf_4 ?_
  refine tc_int (y := nI (2 * (5 - a))) (pk_mul _ _) ?_
  exact kret _ _ _ _ _ (rfl) hS dX0_placeOf_5

def rm_X0_valueIn : Room := { frames := 1, cells := 0, slots := 0, locals := 20 }
set_option maxHeartbeats 4000000 in
set_option maxRecDepth 100000 in
theorem c_X0_valueIn (l : Launch) (D : va_G) (st a : Nat) (hst : st < 4096) (ha : a < 6) : PuI l yX0_valueIn wsX0_valueIn rm_X0_valueIn D vwCl [] ([]) [.int (nI st), .int (nI a)] (nI (dg st a)) := by
  refine PuI.of (cc := cX0_valueIn) (maxL := 2) (by decide) rfl (Nat.le_of_ble_eq_true rfl) (vp_nar_int _) ?_
  intro p e s m args below meth c Q ls hx hb hml hown hts hP hK kret hl
  have hown : s.vm.findClass RX0 = some m.cls := hown
  have hl : lv_has ls 2 [(0, .int (nI st)), (1, .int (nI a))] := hl
  have hS : va_S (fun _ => False) s.heap s.heap [] := va_S.rf
  refine lv_iload_n hx hb dX0_valueIn_0 rfl (lv_at hl 0 rfl) ?_
  refine lv_iload_n hx hb dX0_valueIn_1 rfl (lv_at hl 1 rfl) ?_
  refine puI_S (own := RX0) (As := [.int (nI a)]) (rest := [.int (nI st)]) ⟨hx, hb, hml, hown, hts⟩ (c_X0_placeOf l D a (by omega)) gX0_valueIn_X0_placeOf rfl ⟨rfl, rfl⟩ 1 rfl (by decide +kernel) ⟨Nat.le_of_ble_eq_true rfl, Nat.le_of_ble_eq_true rfl⟩ nilP (hK.sub (tys' := []) [] rfl) hS hl.1 rfl (Nat.le_of_ble_eq_true rfl) dX0_valueIn_2 ⟨Nat.zero_le _, Nat.zero_le _⟩ (fun H locs hk1 hS => ?_)
  refine lv_iushr (v := ((nI st).toUInt32 >>> ((nI (2 * (5 - a))).toUInt32 &&& Int32.toUInt32 31)).toInt32) hx hb dX0_valueIn_5 rfl ?_
  refine tc_int (y := nI (st / 2 ^ (2 * (5 - a)))) (ushN (by omega) (by omega)) ?_
  refine lv_iconst (v := nI 3) hx hb dX0_valueIn_6 (by decide) ?_
  refine lv_iand hx hb dX0_valueIn_7 ?_
  refine tc_int (y := nI (dg st a)) (and3 (Nat.lt_of_le_of_lt (Nat.div_le_self _ _) (by omega))) ?_
  exact kret _ _ _ _ _ (rfl) hS dX0_valueIn_8

theorem told_1 {v : Nat} (h : v < 4) : nI v &&& nI 1 = nI (v % 2) := and1 (by omega)
theorem told_2 {v : Nat} (h : v < 4) : nI v &&& nI 2 = nI (2 * (v / 2 % 2)) := by
  rcases (show v = 0 ∨ v = 1 ∨ v = 2 ∨ v = 3 by omega) with rfl | rfl | rfl | rfl <;> decide
theorem told_t {v : Nat} (h : v < 4) : (nI (v % 2) = 0) ↔ told v true = false := by
  rcases (show v = 0 ∨ v = 1 ∨ v = 2 ∨ v = 3 by omega) with rfl | rfl | rfl | rfl <;> decide
theorem told_f {v : Nat} (h : v < 4) : (nI (2 * (v / 2 % 2)) = 0) ↔ told v false = false := by
  rcases (show v = 0 ∨ v = 1 ∨ v = 2 ∨ v = 3 by omega) with rfl | rfl | rfl | rfl <;> decide

def rm_X0_isTold : Room := { frames := 0, cells := 0, slots := 0, locals := 0 }
set_option maxHeartbeats 4000000 in
set_option maxRecDepth 100000 in
theorem c_X0_isTold (l : Launch) (D : va_G) (v : Nat) (b : Bool) (hv : v < 4) : PuI l yX0_isTold wsX0_isTold rm_X0_isTold D vwCl [] ([]) [.int (nI v), .int (bI b)] (bI (told v b)) := by
  refine PuI.of (cc := cX0_isTold) (maxL := 2) (by decide) rfl (Nat.le_of_ble_eq_true rfl) (bI_n _) ?_
  intro p e s m args below meth c Q ls hx hb hml hown hts hP hK kret hl
  have hown : s.vm.findClass RX0 = some m.cls := hown
  have hl : lv_has ls 2 [(0, .int (nI v)), (1, .int (bI b))] := hl
  have hS : va_S (fun _ => False) s.heap s.heap [] := va_S.rf
  refine lv_iload_n hx hb dX0_isTold_0 rfl (lv_at hl 0 rfl) ?_
  refine lv_iload_n hx hb dX0_isTold_1 rfl (lv_at hl 1 rfl) ?_
  refine lv_if_eq (tgt := 9) hx hb dX0_isTold_2 (by decide) (fun c_1 => ?_) (fun c_1 => ?_)
  · obtain rfl := bI_0 c_1
    refine lv_iconst (v := nI 2) hx hb dX0_isTold_9 (by decide) ?_
    refine lv_iand hx hb dX0_isTold_10 ?_
    refine tc_int (y := nI (2 * (v / 2 % 2))) (told_2 hv) ?_
    refine lv_if_eq (tgt := 18) hx hb dX0_isTold_11 (by decide) (fun c_2 => ?_) (fun c_2 => ?_)
    · refine lv_iconst (v := nI 0) hx hb dX0_isTold_18 (by decide) ?_
      exact kret _ _ _ _ _ (by rw [(told_f hv).mp c_2]; rfl) hS dX0_isTold_19
    · refine lv_iconst (v := nI 1) hx hb dX0_isTold_14 (by decide) ?_
      refine lv_goto (tgt := 19) hx hb dX0_isTold_15 (by decide) ?_
      exact kret _ _ _ _ _ (by rw [show told v false = true from ts_nf (fun q => c_2 ((told_f hv).mpr q))]; rfl) hS dX0_isTold_19
  · obtain rfl := bI_1 c_1
    refine lv_iconst (v := nI 1) hx hb dX0_isTold_5 (by decide) ?_
    refine lv_goto (tgt := 10) hx hb dX0_isTold_6 (by decide) ?_
    refine lv_iand hx hb dX0_isTold_10 ?_
    refine tc_int (y := nI (v % 2)) (told_1 hv) ?_
    refine lv_if_eq (tgt := 18) hx hb dX0_isTold_11 (by decide) (fun c_3 => ?_) (fun c_3 => ?_)
    · refine lv_iconst (v := nI 0) hx hb dX0_isTold_18 (by decide) ?_
      exact kret _ _ _ _ _ (by rw [(told_t hv).mp c_3]; rfl) hS dX0_isTold_19
    · refine lv_iconst (v := nI 1) hx hb dX0_isTold_14 (by decide) ?_
      refine lv_goto (tgt := 19) hx hb dX0_isTold_15 (by decide) ?_
      exact kret _ _ _ _ _ (by rw [show told v true = true from ts_nf (fun q => c_3 ((told_t hv).mpr q))]; rfl) hS dX0_isTold_19

def rm_X0_isAgainst : Room := { frames := 1, cells := 0, slots := 0, locals := 21 }
set_option maxHeartbeats 4000000 in
set_option maxRecDepth 100000 in
theorem c_X0_isAgainst (l : Launch) (D : va_G) (x y : Nat) (hx4 : x < 4) (hy4 : y < 4) : PuI l yX0_isAgainst wsX0_isAgainst rm_X0_isAgainst D vwCl [] ([]) [.int (nI x), .int (nI y)] (bI (agB x y)) := by
  refine PuI.of (cc := cX0_isAgainst) (maxL := 2) (by decide) rfl (Nat.le_of_ble_eq_true rfl) (bI_n _) ?_
  intro p e s m args below meth c Q ls hx hb hml hown hts hP hK kret hl
  have hown : s.vm.findClass RX0 = some m.cls := hown
  have hl : lv_has ls 2 [(0, .int (nI x)), (1, .int (nI y))] := hl
  have hS : va_S (fun _ => False) s.heap s.heap [] := va_S.rf
  refine lv_iload_n hx hb dX0_isAgainst_0 rfl (lv_at hl 0 rfl) ?_
  refine lv_iconst (v := nI 1) hx hb dX0_isAgainst_1 (by decide) ?_
  refine tc_int (y := bI true) (rfl) ?_
  refine puI_S (own := RX0) (As := [.int (nI x), .int (bI true)]) (rest := []) ⟨hx, hb, hml, hown, hts⟩ (c_X0_isTold l D x true hx4) gX0_isAgainst_X0_isTold rfl ⟨rfl, rfl⟩ 2 rfl (by decide +kernel) ⟨Nat.le_of_ble_eq_true rfl, Nat.le_of_ble_eq_true rfl⟩ nilP (hK.sub (tys' := []) [] rfl) hS hl.1 rfl (Nat.le_of_ble_eq_true rfl) dX0_isAgainst_2 ⟨Nat.zero_le _, Nat.zero_le _⟩ (fun H locs hk1 hS => ?_)
  refine lv_if_eq (tgt := 16) hx hb dX0_isAgainst_5 (by decide) (fun c_1 => ?_) (fun c_1 => ?_)
  · have e_5 := bI_0 c_1
    refine lv_iload_n hx hb dX0_isAgainst_16 rfl (lv_at hl 0 rfl) ?_
    refine lv_iconst (v := nI 0) hx hb dX0_isAgainst_17 (by decide) ?_
    refine tc_int (y := bI false) (rfl) ?_
    refine puI_S (own := RX0) (As := [.int (nI x), .int (bI false)]) (rest := []) ⟨hx, hb, hml, hown, hts⟩ (c_X0_isTold l D x false hx4) gX0_isAgainst_X0_isTold rfl ⟨rfl, rfl⟩ 2 rfl (by decide +kernel) ⟨Nat.le_of_ble_eq_true rfl, Nat.le_of_ble_eq_true rfl⟩ nilP (hK.sub (tys' := []) [] rfl) hS hl.1 rfl (Nat.le_of_ble_eq_true rfl) dX0_isAgainst_18 ⟨Nat.zero_le _, Nat.zero_le _⟩ (fun H locs hk1 hS => ?_)
    refine lv_if_eq (tgt := 36) hx hb dX0_isAgainst_21 (by decide) (fun c_2 => ?_) (fun c_2 => ?_)
    · have e_21 := bI_0 c_2
      refine lv_iconst (v := nI 0) hx hb dX0_isAgainst_36 (by decide) ?_
      exact kret _ _ _ _ _ (by unfold agB; first | (simp only [e_5, e_21]; rfl) | (simp [e_5, e_21, bI]; done) | (simp [e_5, e_21, bI, nI]; done)) hS dX0_isAgainst_37
    · have e_21 := bI_1 c_2
      refine lv_iload_n hx hb dX0_isAgainst_24 rfl (lv_at hl 1 rfl) ?_
      refine lv_iconst (v := nI 1) hx hb dX0_isAgainst_25 (by decide) ?_
      refine tc_int (y := bI true) (rfl) ?_
      refine puI_S (own := RX0) (As := [.int (nI y), .int (bI true)]) (rest := []) ⟨hx, hb, hml, hown, hts⟩ (c_X0_isTold l D y true hy4) gX0_isAgainst_X0_isTold rfl ⟨rfl, rfl⟩ 2 rfl (by decide +kernel) ⟨Nat.le_of_ble_eq_true rfl, Nat.le_of_ble_eq_true rfl⟩ nilP (hK.sub (tys' := []) [] rfl) hS hl.1 rfl (Nat.le_of_ble_eq_true rfl) dX0_isAgainst_26 ⟨Nat.zero_le _, Nat.zero_le _⟩ (fun H locs hk1 hS => ?_)
      refine lv_if_eq (tgt := 36) hx hb dX0_isAgainst_29 (by decide) (fun c_3 => ?_) (fun c_3 => ?_)
      · have e_29 := bI_0 c_3
        refine lv_iconst (v := nI 0) hx hb dX0_isAgainst_36 (by decide) ?_
        exact kret _ _ _ _ _ (by unfold agB; first | (simp only [e_5, e_21, e_29]; rfl) | (simp [e_5, e_21, e_29, bI]; done) | (simp [e_5, e_21, e_29, bI, nI]; done)) hS dX0_isAgainst_37
      · have e_29 := bI_1 c_3
        refine lv_iconst (v := nI 1) hx hb dX0_isAgainst_32 (by decide) ?_
        refine lv_goto (tgt := 37) hx hb dX0_isAgainst_33 (by decide) ?_
        exact kret _ _ _ _ _ (by unfold agB; first | (simp only [e_5, e_21, e_29]; rfl) | (simp [e_5, e_21, e_29, bI]; done) | (simp [e_5, e_21, e_29, bI, nI]; done)) hS dX0_isAgainst_37
  · have e_5 := bI_1 c_1
    refine lv_iload_n hx hb dX0_isAgainst_8 rfl (lv_at hl 1 rfl) ?_
    refine lv_iconst (v := nI 0) hx hb dX0_isAgainst_9 (by decide) ?_
    refine tc_int (y := bI false) (rfl) ?_
    refine puI_S (own := RX0) (As := [.int (nI y), .int (bI false)]) (rest := []) ⟨hx, hb, hml, hown, hts⟩ (c_X0_isTold l D y false hy4) gX0_isAgainst_X0_isTold rfl ⟨rfl, rfl⟩ 2 rfl (by decide +kernel) ⟨Nat.le_of_ble_eq_true rfl, Nat.le_of_ble_eq_true rfl⟩ nilP (hK.sub (tys' := []) [] rfl) hS hl.1 rfl (Nat.le_of_ble_eq_true rfl) dX0_isAgainst_10 ⟨Nat.zero_le _, Nat.zero_le _⟩ (fun H locs hk1 hS => ?_)
    refine lv_if_ne (tgt := 32) hx hb dX0_isAgainst_13 (by decide) (fun c_4 => ?_) (fun c_4 => ?_)
    · have e_13 := bI_1 c_4
      refine lv_iconst (v := nI 1) hx hb dX0_isAgainst_32 (by decide) ?_
      refine lv_goto (tgt := 37) hx hb dX0_isAgainst_33 (by decide) ?_
      exact kret _ _ _ _ _ (by unfold agB; first | (simp only [e_5, e_13]; rfl) | (simp [e_5, e_13, bI]; done) | (simp [e_5, e_13, bI, nI]; done)) hS dX0_isAgainst_37
    · have e_13 := bI_0 c_4
      refine lv_iload_n hx hb dX0_isAgainst_16 rfl (lv_at hl 0 rfl) ?_
      refine lv_iconst (v := nI 0) hx hb dX0_isAgainst_17 (by decide) ?_
      refine tc_int (y := bI false) (rfl) ?_
      refine puI_S (own := RX0) (As := [.int (nI x), .int (bI false)]) (rest := []) ⟨hx, hb, hml, hown, hts⟩ (c_X0_isTold l D x false hx4) gX0_isAgainst_X0_isTold rfl ⟨rfl, rfl⟩ 2 rfl (by decide +kernel) ⟨Nat.le_of_ble_eq_true rfl, Nat.le_of_ble_eq_true rfl⟩ nilP (hK.sub (tys' := []) [] rfl) hS hl.1 rfl (Nat.le_of_ble_eq_true rfl) dX0_isAgainst_18 ⟨Nat.zero_le _, Nat.zero_le _⟩ (fun H locs hk1 hS => ?_)
      refine lv_if_eq (tgt := 36) hx hb dX0_isAgainst_21 (by decide) (fun c_5 => ?_) (fun c_5 => ?_)
      · have e_21 := bI_0 c_5
        refine lv_iconst (v := nI 0) hx hb dX0_isAgainst_36 (by decide) ?_
        exact kret _ _ _ _ _ (by unfold agB; first | (simp only [e_5, e_13, e_21]; rfl) | (simp [e_5, e_13, e_21, bI]; done) | (simp [e_5, e_13, e_21, bI, nI]; done)) hS dX0_isAgainst_37
      · have e_21 := bI_1 c_5
        refine lv_iload_n hx hb dX0_isAgainst_24 rfl (lv_at hl 1 rfl) ?_
        refine lv_iconst (v := nI 1) hx hb dX0_isAgainst_25 (by decide) ?_
        refine tc_int (y := bI true) (rfl) ?_
        refine puI_S (own := RX0) (As := [.int (nI y), .int (bI true)]) (rest := []) ⟨hx, hb, hml, hown, hts⟩ (c_X0_isTold l D y true hy4) gX0_isAgainst_X0_isTold rfl ⟨rfl, rfl⟩ 2 rfl (by decide +kernel) ⟨Nat.le_of_ble_eq_true rfl, Nat.le_of_ble_eq_true rfl⟩ nilP (hK.sub (tys' := []) [] rfl) hS hl.1 rfl (Nat.le_of_ble_eq_true rfl) dX0_isAgainst_26 ⟨Nat.zero_le _, Nat.zero_le _⟩ (fun H locs hk1 hS => ?_)
        refine lv_if_eq (tgt := 36) hx hb dX0_isAgainst_29 (by decide) (fun c_6 => ?_) (fun c_6 => ?_)
        · have e_29 := bI_0 c_6
          refine lv_iconst (v := nI 0) hx hb dX0_isAgainst_36 (by decide) ?_
          exact kret _ _ _ _ _ (by unfold agB; first | (simp only [e_5, e_13, e_21, e_29]; rfl) | (simp [e_5, e_13, e_21, e_29, bI]; done) | (simp [e_5, e_13, e_21, e_29, bI, nI]; done)) hS dX0_isAgainst_37
        · have e_29 := bI_1 c_6
          refine lv_iconst (v := nI 1) hx hb dX0_isAgainst_32 (by decide) ?_
          refine lv_goto (tgt := 37) hx hb dX0_isAgainst_33 (by decide) ?_
          exact kret _ _ _ _ _ (by unfold agB; first | (simp only [e_5, e_13, e_21, e_29]; rfl) | (simp [e_5, e_13, e_21, e_29, bI]; done) | (simp [e_5, e_13, e_21, e_29, bI, nI]; done)) hS dX0_isAgainst_37

def rm_X0_rowOf : Room := { frames := 0, cells := 0, slots := 0, locals := 0 }
set_option maxHeartbeats 4000000 in
set_option maxRecDepth 100000 in
theorem c_X0_rowOf (l : Launch) (D : va_G) (f : Nat) : PuI l yX0_rowOf wsX0_rowOf rm_X0_rowOf D vwCl [] ([]) [.int (nI f)] (nI (f * 64)) := by
  refine PuI.of (cc := cX0_rowOf) (maxL := 1) (by decide) rfl (Nat.le_of_ble_eq_true rfl) (vp_nar_int _) ?_
  intro p e s m args below meth c Q ls hx hb hml hown hts hP hK kret hl
  have hown : s.vm.findClass RX0 = some m.cls := hown
  have hl : lv_has ls 1 [(0, .int (nI f))] := hl
  have hS : va_S (fun _ => False) s.heap s.heap [] := va_S.rf
  refine lv_iload_n hx hb dX0_rowOf_0 rfl (lv_at hl 0 rfl) ?_
  refine lv_bipush (v := nI 64) hx hb dX0_rowOf_1 (by decide) ?_
  refine lv_imul hx hb dX0_rowOf_3 ?_
  refine tc_int (y := nI (f * 64)) (pk_mul _ _) ?_
  exact kret _ _ _ _ _ (rfl) hS dX0_rowOf_4

def rm_X0_mix : Room := { frames := 0, cells := 0, slots := 0, locals := 0 }
set_option maxHeartbeats 4000000 in
set_option maxRecDepth 100000 in
theorem c_X0_mix (l : Launch) (D : va_G) (d : Int64) (x : Int32) : PuL l yX0_mix wsX0_mix rm_X0_mix D vwCl [] ([]) [.long d, .int x] (mixI d x) := by
  refine PuL.of (cc := cX0_mix) (maxL := 3) (by decide) rfl (Nat.le_of_ble_eq_true rfl) ?_
  intro p e s m args below meth c Q ls hx hb hml hown hts hP hK kret hl
  have hown : s.vm.findClass RX0 = some m.cls := hown
  have hl : lv_has ls 3 [(0, .long d), (2, .int x)] := hl
  have hS : va_S (fun _ => False) s.heap s.heap [] := va_S.rf
  refine lv_lload_n hx hb dX0_mix_0 rfl (lv_at hl 0 rfl) ?_
  refine lv_ldc2 (v := 31) hx hb hown (hts (.constantLong RX0 195 (31)) (by decide +kernel)) dX0_mix_1 ?_
  refine lv_lmul hx hb dX0_mix_4 ?_
  refine lv_iload_n hx hb dX0_mix_5 rfl (lv_at hl 1 rfl) ?_
  refine lv_i2l (v := x.toInt64) hx hb dX0_mix_6 rfl ?_
  refine lv_ladd hx hb dX0_mix_7 ?_
  exact kret _ _ _ _ _ (rfl) hS dX0_mix_8

def rm_X0_atomsWith : Room := { frames := 2, cells := 0, slots := 0, locals := 41 }
set_option maxHeartbeats 4000000 in
set_option maxRecDepth 100000 in
theorem c_X0_atomsWith (l : Launch) (D : va_G) (st v : Nat) (hst : st < 4096) (hv : v < 4) : PuI l yX0_atomsWith wsX0_atomsWith rm_X0_atomsWith D vwCl [] ([]) [.int (nI st), .int (nI v)] (nI (awS st v 6)) := by
  refine PuI.of (cc := cX0_atomsWith) (maxL := 4) (by decide) rfl (Nat.le_of_ble_eq_true rfl) (vp_nar_int _) ?_
  intro p e s m args below meth c Q ls hx hb hml hown hts hP hK kret hl
  have hown : s.vm.findClass RX0 = some m.cls := hown
  have hl : lv_has ls 4 [(0, .int (nI st)), (1, .int (nI v))] := hl
  have hS : va_S (fun _ => False) s.heap s.heap [] := va_S.rf
  refine lv_iconst (v := nI 0) hx hb dX0_atomsWith_0 (by decide) ?_
  refine lv_istore_n (lv' := [(2, .int (nI 0)), (0, .int (nI st)), (1, .int (nI v))]) hx hb dX0_atomsWith_1 rfl hl (by decide) rfl (fun ls hl => ?_)
  refine lv_iconst (v := nI 0) hx hb dX0_atomsWith_2 (by decide) ?_
  refine lv_istore_n (lv' := [(3, .int (nI 0)), (2, .int (nI 0)), (0, .int (nI st)), (1, .int (nI v))]) hx hb dX0_atomsWith_3 rfl hl (by decide) rfl (fun ls hl => ?_)
  have key1 : ∀ (d3 i2 : Nat), i2 + d3 = 6 → ∀ (H : Heap) (locs : List Loc) (ls : Array Slot), va_S (fun _ => False) s.heap H locs → lv_has ls 4 [(3, .int (nI i2)), (2, .int (nI (awS st v i2))), (0, .int (nI st)), (1, .int (nI v))] → W p l e rm_X0_atomsWith s m args below meth c H locs 0 0 Q (F0 m 4 ls []) := by
    intro d3
    induction d3 with
    | zero =>
      intro i2 hi_i2 H locs ls hS hl
      obtain rfl : i2 = 6 := by omega
      refine lv_iload_n hx hb dX0_atomsWith_4 rfl (lv_at hl 0 rfl) ?_
      refine lv_bipush (v := nI 6) hx hb dX0_atomsWith_5 (by decide) ?_
      refine cT_ge (tgt := 31) hx hb dX0_atomsWith_7 (by decide) (nI_le (by omega) (by omega)) ?_
      refine lv_iload_n hx hb dX0_atomsWith_31 rfl (lv_at hl 1 rfl) ?_
      exact kret _ _ _ _ _ (rfl) hS dX0_atomsWith_32
    | succ d3 ih_i2 =>
      intro i2 hi_i2 H locs ls hS hl
      refine lv_iload_n hx hb dX0_atomsWith_4 rfl (lv_at hl 0 rfl) ?_
      refine lv_bipush (v := nI 6) hx hb dX0_atomsWith_5 (by decide) ?_
      refine cF_ge (tgt := 31) hx hb dX0_atomsWith_7 (by decide) (nI_ge (by omega) (by omega)) ?_
      refine lv_iload_n hx hb dX0_atomsWith_10 rfl (lv_at hl 2 rfl) ?_
      refine lv_iload_n hx hb dX0_atomsWith_11 rfl (lv_at hl 0 rfl) ?_
      refine puI_S (own := RX0) (As := [.int (nI st), .int (nI i2)]) (rest := []) ⟨hx, hb, hml, hown, hts⟩ (c_X0_valueIn l D st i2 (by omega) (by omega)) gX0_atomsWith_X0_valueIn rfl ⟨rfl, rfl⟩ 2 rfl (by decide +kernel) ⟨Nat.le_of_ble_eq_true rfl, Nat.le_of_ble_eq_true rfl⟩ nilP (hK.sub (tys' := []) [] rfl) hS hl.1 rfl (Nat.le_of_ble_eq_true rfl) dX0_atomsWith_12 ⟨Nat.zero_le _, Nat.zero_le _⟩ (fun H locs hk1 hS => ?_)
      refine lv_iload_n hx hb dX0_atomsWith_15 rfl (lv_at hl 3 rfl) ?_
      refine lv_icmp_ne (tgt := 25) hx hb dX0_atomsWith_16 (by decide) (fun c_4 => ?_) (fun c_4 => ?_)
      · refine lv_iinc (v := nI (i2 + 1)) (lv' := [(3, .int (nI (i2 + 1))), (2, .int (nI (awS st v i2))), (0, .int (nI st)), (1, .int (nI v))]) hx hb dX0_atomsWith_25 hl (k := 0) rfl (iinc1 _) (by decide) rfl (fun ls hl => ?_)
        refine lv_goto (tgt := 4) hx hb dX0_atomsWith_28 (by decide) ?_
        exact ih_i2 (i2 + 1) (by omega) H locs ls hS (by have h9 := lv_sub hl [0, 1, 2, 3] rfl; rw [show awS st v (i2 + 1) = awS st v i2 from if_neg (fun q => c_4 (by rw [q]))]; exact h9)
      · refine lv_iload_n hx hb dX0_atomsWith_19 rfl (lv_at hl 1 rfl) ?_
        refine lv_iconst (v := nI 1) hx hb dX0_atomsWith_20 (by decide) ?_
        refine lv_iload_n hx hb dX0_atomsWith_21 rfl (lv_at hl 0 rfl) ?_
        refine lv_ishl hx hb dX0_atomsWith_22 ?_
        refine tc_int (y := nI (2 ^ i2)) (shl1 (by omega)) ?_
        refine lv_ior hx hb dX0_atomsWith_23 ?_
        refine tc_int (y := nI (awS st v i2 ||| 2 ^ i2)) (fa_or _ _) ?_
        refine lv_istore_n (lv' := [(2, .int (nI (awS st v i2 ||| 2 ^ i2))), (3, .int (nI i2)), (0, .int (nI st)), (1, .int (nI v))]) hx hb dX0_atomsWith_24 rfl hl (by decide) rfl (fun ls hl => ?_)
        refine lv_iinc (v := nI (i2 + 1)) (lv' := [(3, .int (nI (i2 + 1))), (2, .int (nI (awS st v i2 ||| 2 ^ i2))), (0, .int (nI st)), (1, .int (nI v))]) hx hb dX0_atomsWith_25 hl (k := 1) rfl (iinc1 _) (by decide) rfl (fun ls hl => ?_)
        refine lv_goto (tgt := 4) hx hb dX0_atomsWith_28 (by decide) ?_
        exact ih_i2 (i2 + 1) (by omega) H locs ls hS (by have h9 := lv_sub hl [0, 1, 2, 3] rfl; rw [show awS st v (i2 + 1) = awS st v i2 ||| 2 ^ i2 from if_pos ((nI_eq (Nat.lt_trans (dg_lt _ _) (by decide)) (by omega)).mp c_4)]; exact h9)
  exact key1 (6) 0 (by omega) _ _ ls hS (lv_sub hl [0, 1, 2, 3] rfl)
