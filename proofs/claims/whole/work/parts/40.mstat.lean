theorem hs1 {x k : Nat} : nI (x / 2 ^ k % 2) = nI 1 ↔ x.testBit k = true := by
  rw [nat_bit]
  cases x.testBit k <;> decide
def isF (n : Nat) (x : Int32) : Bool := inB x (nI 0) (nI n - nI 1)
theorem isF_t {f n : Nat} (h : f < n) (hn : n ≤ 40) : isF n (nI f) = true := by
  unfold isF
  rw [pk_sub (by omega)]
  exact inB_t (by omega) (by omega) (by omega)
theorem isF_f {n : Nat} {x : Int32} (h : x < 0 ∨ nI n ≤ x) (hn : n ≤ 40) : isF n x = false := by
  unfold isF
  cases n with
  | zero =>
    unfold inB
    by_cases q : nI 0 ≤ x
    · have : ¬ x ≤ nI 0 - nI 1 := fun q2 => by
        have e : (nI 0 - nI 1) = -1 := by decide
        rw [e, Int32.le_iff_toInt_le] at q2
        rw [Int32.le_iff_toInt_le] at q
        have e1 : (-1 : Int32).toInt = -1 := by decide
        have e2 : (nI 0).toInt = 0 := by decide
        omega
      rw [decide_eq_false this]
      simp
    · rw [decide_eq_false q]
      rfl
  | succ m =>
    rw [pk_sub (by omega)]
    exact inB_bad h (by omega)
def rm_X1_isIn : Room := { frames := 0, cells := 0, slots := 0, locals := 0 }
set_option maxHeartbeats 4000000 in
set_option maxRecDepth 100000 in
theorem c_X1_isIn (l : Launch) (D : va_G) (x lo hi : Int32) : PuI l yX1_isIn wsX1_isIn rm_X1_isIn D vwCl [] ([]) [.int x, .int lo, .int hi] (bI (inB x lo hi)) := by
  refine PuI.of (cc := cX1_isIn) (maxL := 3) (by decide) rfl (Nat.le_of_ble_eq_true rfl) (bI_n _) ?_
  intro p e s m args below meth c Q ls hx hb hml hown hts hP hK kret hl
  have hown : s.vm.findClass RX1 = some m.cls := hown
  have hl : lv_has ls 3 [(0, .int x), (1, .int lo), (2, .int hi)] := hl
  have hS : va_S (fun _ => False) s.heap s.heap [] := va_S.rf
  refine lv_iload_n hx hb dX1_isIn_0 rfl (lv_at hl 0 rfl) ?_
  refine lv_iload_n hx hb dX1_isIn_1 rfl (lv_at hl 1 rfl) ?_
  refine lv_icmp_lt (tgt := 14) hx hb dX1_isIn_2 (by decide) (fun c_1 => ?_) (fun c_1 => ?_)
  · have e_2 : decide (lo ≤ x) = false := decide_eq_false (fun q => by rw [Int32.lt_iff_toInt_lt] at c_1; rw [Int32.le_iff_toInt_le] at q; omega)
    refine lv_iconst (v := nI 0) hx hb dX1_isIn_14 (by decide) ?_
    exact kret _ _ _ _ _ (by unfold inB; rw [e_2]; rfl) hS dX1_isIn_15
  · have e_2 : decide (lo ≤ x) = true := decide_eq_true (fa_of_nlt c_1)
    refine lv_iload_n hx hb dX1_isIn_5 rfl (lv_at hl 0 rfl) ?_
    refine lv_iload_n hx hb dX1_isIn_6 rfl (lv_at hl 2 rfl) ?_
    refine lv_icmp_gt (tgt := 14) hx hb dX1_isIn_7 (by decide) (fun c_2 => ?_) (fun c_2 => ?_)
    · have e_7 : decide (x ≤ hi) = false := decide_eq_false (fun q => by rw [Int32.lt_iff_toInt_lt] at c_2; rw [Int32.le_iff_toInt_le] at q; omega)
      refine lv_iconst (v := nI 0) hx hb dX1_isIn_14 (by decide) ?_
      exact kret _ _ _ _ _ (by unfold inB; rw [e_2, e_7]; rfl) hS dX1_isIn_15
    · have e_7 : decide (x ≤ hi) = true := decide_eq_true (fa_of_nlt c_2)
      refine lv_iconst (v := nI 1) hx hb dX1_isIn_10 (by decide) ?_
      refine lv_goto (tgt := 15) hx hb dX1_isIn_11 (by decide) ?_
      exact kret _ _ _ _ _ (by unfold inB; rw [e_2, e_7]; rfl) hS dX1_isIn_15

def rm_X1_has : Room := { frames := 0, cells := 0, slots := 0, locals := 0 }
set_option maxHeartbeats 4000000 in
set_option maxRecDepth 100000 in
theorem c_X1_has (l : Launch) (D : va_G) (s9 k : Nat) (hs9 : s9 < 2 ^ 31) (hk : k < 32) : PuI l yX1_has wsX1_has rm_X1_has D vwCl [] ([]) [.int (nI s9), .int (nI k)] (bI (Nat.testBit s9 k)) := by
  refine PuI.of (cc := cX1_has) (maxL := 2) (by decide) rfl (Nat.le_of_ble_eq_true rfl) (bI_n _) ?_
  intro p e s m args below meth c Q ls hx hb hml hown hts hP hK kret hl
  have hown : s.vm.findClass RX1 = some m.cls := hown
  have hl : lv_has ls 2 [(0, .int (nI s9)), (1, .int (nI k))] := hl
  have hS : va_S (fun _ => False) s.heap s.heap [] := va_S.rf
  refine lv_iload_n hx hb dX1_has_0 rfl (lv_at hl 0 rfl) ?_
  refine lv_iload_n hx hb dX1_has_1 rfl (lv_at hl 1 rfl) ?_
  refine lv_ishr hx hb dX1_has_2 ?_
  refine tc_int (y := nI (s9 / 2 ^ k)) (shrN hs9 hk) ?_
  refine lv_iconst (v := nI 1) hx hb dX1_has_3 (by decide) ?_
  refine lv_iand hx hb dX1_has_4 ?_
  refine tc_int (y := nI (s9 / 2 ^ k % 2)) (and1 (Nat.lt_of_le_of_lt (Nat.div_le_self _ _) (by omega))) ?_
  refine lv_iconst (v := nI 1) hx hb dX1_has_5 (by decide) ?_
  refine lv_icmp_ne (tgt := 13) hx hb dX1_has_6 (by decide) (fun c_1 => ?_) (fun c_1 => ?_)
  · have e_6 : Nat.testBit s9 k = false := ts_nt (fun q => c_1 (hs1.mpr q))
    refine lv_iconst (v := nI 0) hx hb dX1_has_13 (by decide) ?_
    exact kret _ _ _ _ _ (by rw [e_6]; rfl) hS dX1_has_14
  · have e_6 : Nat.testBit s9 k = true := hs1.mp c_1
    refine lv_iconst (v := nI 1) hx hb dX1_has_9 (by decide) ?_
    refine lv_goto (tgt := 14) hx hb dX1_has_10 (by decide) ?_
    exact kret _ _ _ _ _ (by rw [e_6]; rfl) hS dX1_has_14

def rm_X1_isAtom : Room := { frames := 1, cells := 0, slots := 0, locals := 22 }
set_option maxHeartbeats 4000000 in
set_option maxRecDepth 100000 in
theorem c_X1_isAtom (l : Launch) (D : va_G) (x : Int32) : PuI l yX1_isAtom wsX1_isAtom rm_X1_isAtom D vwCl [] ([]) [.int x] (bI (inB x (nI 0) (nI 5))) := by
  refine PuI.of (cc := cX1_isAtom) (maxL := 1) (by decide) rfl (Nat.le_of_ble_eq_true rfl) (bI_n _) ?_
  intro p e s m args below meth c Q ls hx hb hml hown hts hP hK kret hl
  have hown : s.vm.findClass RX1 = some m.cls := hown
  have hl : lv_has ls 1 [(0, .int x)] := hl
  have hS : va_S (fun _ => False) s.heap s.heap [] := va_S.rf
  refine lv_iload_n hx hb dX1_isAtom_0 rfl (lv_at hl 0 rfl) ?_
  refine lv_iconst (v := nI 0) hx hb dX1_isAtom_1 (by decide) ?_
  refine lv_iconst (v := nI 5) hx hb dX1_isAtom_2 (by decide) ?_
  refine puI_S (own := RX1) (As := [.int x, .int (nI 0), .int (nI 5)]) (rest := []) ⟨hx, hb, hml, hown, hts⟩ (c_X1_isIn l D x (nI 0) (nI 5)) gX1_isAtom_X1_isIn rfl ⟨rfl, rfl⟩ 3 rfl (by decide +kernel) ⟨Nat.le_of_ble_eq_true rfl, Nat.le_of_ble_eq_true rfl⟩ nilP (hK.sub (tys' := []) [] rfl) hS hl.1 rfl (Nat.le_of_ble_eq_true rfl) dX1_isAtom_3 ⟨Nat.zero_le _, Nat.zero_le _⟩ (fun H locs hk1 hS => ?_)
  exact kret _ _ _ _ _ (rfl) hS dX1_isAtom_6

def rm_X1_isSource : Room := { frames := 1, cells := 0, slots := 0, locals := 22 }
set_option maxHeartbeats 4000000 in
set_option maxRecDepth 100000 in
theorem c_X1_isSource (l : Launch) (D : va_G) (x : Int32) : PuI l yX1_isSource wsX1_isSource rm_X1_isSource D vwCl [] ([]) [.int x] (bI (inB x (nI 0) (nI 5))) := by
  refine PuI.of (cc := cX1_isSource) (maxL := 1) (by decide) rfl (Nat.le_of_ble_eq_true rfl) (bI_n _) ?_
  intro p e s m args below meth c Q ls hx hb hml hown hts hP hK kret hl
  have hown : s.vm.findClass RX1 = some m.cls := hown
  have hl : lv_has ls 1 [(0, .int x)] := hl
  have hS : va_S (fun _ => False) s.heap s.heap [] := va_S.rf
  refine lv_iload_n hx hb dX1_isSource_0 rfl (lv_at hl 0 rfl) ?_
  refine lv_iconst (v := nI 0) hx hb dX1_isSource_1 (by decide) ?_
  refine lv_iconst (v := nI 5) hx hb dX1_isSource_2 (by decide) ?_
  refine puI_S (own := RX1) (As := [.int x, .int (nI 0), .int (nI 5)]) (rest := []) ⟨hx, hb, hml, hown, hts⟩ (c_X1_isIn l D x (nI 0) (nI 5)) gX1_isSource_X1_isIn rfl ⟨rfl, rfl⟩ 3 rfl (by decide +kernel) ⟨Nat.le_of_ble_eq_true rfl, Nat.le_of_ble_eq_true rfl⟩ nilP (hK.sub (tys' := []) [] rfl) hS hl.1 rfl (Nat.le_of_ble_eq_true rfl) dX1_isSource_3 ⟨Nat.zero_le _, Nat.zero_le _⟩ (fun H locs hk1 hS => ?_)
  exact kret _ _ _ _ _ (rfl) hS dX1_isSource_6

def rm_X1_valueIn : Room := { frames := 0, cells := 0, slots := 0, locals := 0 }
set_option maxHeartbeats 4000000 in
set_option maxRecDepth 100000 in
theorem c_X1_valueIn (l : Launch) (D : va_G) (st a : Nat) (hst : st < 4096) (ha : a < 6) : PuI l yX1_valueIn wsX1_valueIn rm_X1_valueIn D vwCl [] ([]) [.int (nI st), .int (nI a)] (nI (dg st a)) := by
  refine PuI.of (cc := cX1_valueIn) (maxL := 2) (by decide) rfl (Nat.le_of_ble_eq_true rfl) (vp_nar_int _) ?_
  intro p e s m args below meth c Q ls hx hb hml hown hts hP hK kret hl
  have hown : s.vm.findClass RX1 = some m.cls := hown
  have hl : lv_has ls 2 [(0, .int (nI st)), (1, .int (nI a))] := hl
  have hS : va_S (fun _ => False) s.heap s.heap [] := va_S.rf
  refine lv_iload_n hx hb dX1_valueIn_0 rfl (lv_at hl 0 rfl) ?_
  refine lv_iconst (v := nI 2) hx hb dX1_valueIn_1 (by decide) ?_
  refine lv_iconst (v := nI 5) hx hb dX1_valueIn_2 (by decide) ?_
  refine lv_iload_n hx hb dX1_valueIn_3 rfl (lv_at hl 1 rfl) ?_
  refine lv_isub hx hb dX1_valueIn_4 ?_
  refine tc_int (y := nI (5 - a)) (pk_sub (by omega)) ?_
  refine lv_imul hx hb dX1_valueIn_5 ?_
  refine tc_int (y := nI (2 * (5 - a))) (pk_mul _ _) ?_
  refine lv_ishr hx hb dX1_valueIn_6 ?_
  refine tc_int (y := nI (st / 2 ^ (2 * (5 - a)))) (shrN (by omega) (by omega)) ?_
  refine lv_iconst (v := nI 3) hx hb dX1_valueIn_7 (by decide) ?_
  refine lv_iand hx hb dX1_valueIn_8 ?_
  refine tc_int (y := nI (dg st a)) (and3 (Nat.lt_of_le_of_lt (Nat.div_le_self _ _) (by omega))) ?_
  exact kret _ _ _ _ _ (rfl) hS dX1_valueIn_9

def rm_X1_having : Room := { frames := 1, cells := 0, slots := 0, locals := 21 }
set_option maxHeartbeats 4000000 in
set_option maxRecDepth 100000 in
theorem c_X1_having (l : Launch) (D : va_G) (st v : Nat) (hst : st < 4096) (hv : v < 4) : PuI l yX1_having wsX1_having rm_X1_having D vwCl [] ([]) [.int (nI st), .int (nI v)] (nI (awS st v 6)) := by
  refine PuI.of (cc := cX1_having) (maxL := 4) (by decide) rfl (Nat.le_of_ble_eq_true rfl) (vp_nar_int _) ?_
  intro p e s m args below meth c Q ls hx hb hml hown hts hP hK kret hl
  have hown : s.vm.findClass RX1 = some m.cls := hown
  have hl : lv_has ls 4 [(0, .int (nI st)), (1, .int (nI v))] := hl
  have hS : va_S (fun _ => False) s.heap s.heap [] := va_S.rf
  refine lv_iconst (v := nI 0) hx hb dX1_having_0 (by decide) ?_
  refine lv_istore_n (lv' := [(2, .int (nI 0)), (0, .int (nI st)), (1, .int (nI v))]) hx hb dX1_having_1 rfl hl (by decide) rfl (fun ls hl => ?_)
  refine lv_iconst (v := nI 0) hx hb dX1_having_2 (by decide) ?_
  refine lv_istore_n (lv' := [(3, .int (nI 0)), (2, .int (nI 0)), (0, .int (nI st)), (1, .int (nI v))]) hx hb dX1_having_3 rfl hl (by decide) rfl (fun ls hl => ?_)
  have key1 : ∀ (d3 i2 : Nat), i2 + d3 = 6 → ∀ (H : Heap) (locs : List Loc) (ls : Array Slot), va_S (fun _ => False) s.heap H locs → lv_has ls 4 [(3, .int (nI i2)), (2, .int (nI (awS st v i2))), (0, .int (nI st)), (1, .int (nI v))] → W p l e rm_X1_having s m args below meth c H locs 0 0 Q (F0 m 4 ls []) := by
    intro d3
    induction d3 with
    | zero =>
      intro i2 hi_i2 H locs ls hS hl
      obtain rfl : i2 = 6 := by omega
      refine lv_iload_n hx hb dX1_having_4 rfl (lv_at hl 0 rfl) ?_
      refine lv_bipush (v := nI 6) hx hb dX1_having_5 (by decide) ?_
      refine cT_ge (tgt := 31) hx hb dX1_having_7 (by decide) (nI_le (by omega) (by omega)) ?_
      refine lv_iload_n hx hb dX1_having_31 rfl (lv_at hl 1 rfl) ?_
      exact kret _ _ _ _ _ (rfl) hS dX1_having_32
    | succ d3 ih_i2 =>
      intro i2 hi_i2 H locs ls hS hl
      refine lv_iload_n hx hb dX1_having_4 rfl (lv_at hl 0 rfl) ?_
      refine lv_bipush (v := nI 6) hx hb dX1_having_5 (by decide) ?_
      refine cF_ge (tgt := 31) hx hb dX1_having_7 (by decide) (nI_ge (by omega) (by omega)) ?_
      refine lv_iload_n hx hb dX1_having_10 rfl (lv_at hl 2 rfl) ?_
      refine lv_iload_n hx hb dX1_having_11 rfl (lv_at hl 0 rfl) ?_
      refine puI_S (own := RX1) (As := [.int (nI st), .int (nI i2)]) (rest := []) ⟨hx, hb, hml, hown, hts⟩ (c_X1_valueIn l D st i2 (by omega) (by omega)) gX1_having_X1_valueIn rfl ⟨rfl, rfl⟩ 2 rfl (by decide +kernel) ⟨Nat.le_of_ble_eq_true rfl, Nat.le_of_ble_eq_true rfl⟩ nilP (hK.sub (tys' := []) [] rfl) hS hl.1 rfl (Nat.le_of_ble_eq_true rfl) dX1_having_12 ⟨Nat.zero_le _, Nat.zero_le _⟩ (fun H locs hk1 hS => ?_)
      refine lv_iload_n hx hb dX1_having_15 rfl (lv_at hl 3 rfl) ?_
      refine lv_icmp_ne (tgt := 25) hx hb dX1_having_16 (by decide) (fun c_4 => ?_) (fun c_4 => ?_)
      · refine lv_iinc (v := nI (i2 + 1)) (lv' := [(3, .int (nI (i2 + 1))), (2, .int (nI (awS st v i2))), (0, .int (nI st)), (1, .int (nI v))]) hx hb dX1_having_25 hl (k := 0) rfl (iinc1 _) (by decide) rfl (fun ls hl => ?_)
        refine lv_goto (tgt := 4) hx hb dX1_having_28 (by decide) ?_
        exact ih_i2 (i2 + 1) (by omega) H locs ls hS (by have h9 := lv_sub hl [0, 1, 2, 3] rfl; rw [show awS st v (i2 + 1) = awS st v i2 from if_neg (fun q => c_4 (by rw [q]))]; exact h9)
      · refine lv_iload_n hx hb dX1_having_19 rfl (lv_at hl 1 rfl) ?_
        refine lv_iconst (v := nI 1) hx hb dX1_having_20 (by decide) ?_
        refine lv_iload_n hx hb dX1_having_21 rfl (lv_at hl 0 rfl) ?_
        refine lv_ishl hx hb dX1_having_22 ?_
        refine tc_int (y := nI (2 ^ i2)) (shl1 (by omega)) ?_
        refine lv_ior hx hb dX1_having_23 ?_
        refine tc_int (y := nI (awS st v i2 ||| 2 ^ i2)) (fa_or _ _) ?_
        refine lv_istore_n (lv' := [(2, .int (nI (awS st v i2 ||| 2 ^ i2))), (3, .int (nI i2)), (0, .int (nI st)), (1, .int (nI v))]) hx hb dX1_having_24 rfl hl (by decide) rfl (fun ls hl => ?_)
        refine lv_iinc (v := nI (i2 + 1)) (lv' := [(3, .int (nI (i2 + 1))), (2, .int (nI (awS st v i2 ||| 2 ^ i2))), (0, .int (nI st)), (1, .int (nI v))]) hx hb dX1_having_25 hl (k := 1) rfl (iinc1 _) (by decide) rfl (fun ls hl => ?_)
        refine lv_goto (tgt := 4) hx hb dX1_having_28 (by decide) ?_
        exact ih_i2 (i2 + 1) (by omega) H locs ls hS (by have h9 := lv_sub hl [0, 1, 2, 3] rfl; rw [show awS st v (i2 + 1) = awS st v i2 ||| 2 ^ i2 from if_pos ((nI_eq (Nat.lt_trans (dg_lt _ _) (by decide)) (by omega)).mp c_4)]; exact h9)
  exact key1 (6) 0 (by omega) _ _ ls hS (lv_sub hl [0, 1, 2, 3] rfl)

