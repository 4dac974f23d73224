/-! what holds at the law's start -/
abbrev AF (s : State) : Nat → Prop := fun q => s.heap.size ≤ q
theorem XW_tbl : ∀ w ∈ XW, w ∈ lw_tbl := by decide +kernel
theorem sref {b k : Nat} {tx : String} {s : State} (h1 : (Cond.stringRef RX0 k tx).before #[Value.ref b] s = true) (h2 : (Cond.exactly (Term.string RX0 k) "java/lang/String").before #[Value.ref b] s = true) : ∃ sa, vk_R RX0 k tx sa s := by
  obtain ⟨a, c, cell, kk, h3, -⟩ := Cond.exactly_spec h2
  exact ⟨a, vk_R.of (A := #[Value.ref b]) h1 h3⟩
set_option maxRecDepth 100000 in
theorem st_XE {b : Nat} {s : State} (hts : ∀ w ∈ lw_tbl, w.before #[Value.ref b] s = true) (hgv : (Jvm.Cond.and given_1 narrow_1).before #[Value.ref b] s = true) : XE s := by
  have hs := flat_of_before _ hgv
  refine ⟨?_, ?_, ?_, ?_, ?_⟩
  · exact vx_Zqof (hts (.laysStatic Bundle.tN "UNASSIGNED_STACK" Bundle.steD) (by decide +kernel)) (hts (.initialized Bundle.tN) (by decide +kernel)) (hs (.isRef (.static Bundle.tN "UNASSIGNED_STACK" Bundle.steD)) (by decide +kernel)) (fun _ _ z => z)
  · exact vx_Zqof (hts (.laysStatic Bundle.tN "SUPPRESSED_SENTINEL" Bundle.listD) (by decide +kernel)) (hts (.initialized Bundle.tN) (by decide +kernel)) (hs (.isRef (.static Bundle.tN "SUPPRESSED_SENTINEL" Bundle.listD)) (by decide +kernel)) (fun _ _ z => z)
  · exact XW_at (A := #[Value.ref b]) (State.WarmedH.refl s) (fun w h => hts w (XW_tbl w h))
  · exact List.forall_mem_cons.mpr ⟨sref (hts (.stringRef RX0 152 "values is not 1 to 15") (by decide +kernel)) (hs (.exactly (.string RX0 152) "java/lang/String") (by decide +kernel)), List.forall_mem_cons.mpr ⟨sref (hts (.stringRef RX0 184 "valuation is not 0 to 4095") (by decide +kernel)) (hs (.exactly (.string RX0 184) "java/lang/String") (by decide +kernel)), List.forall_mem_cons.mpr ⟨sref (hts (.stringRef RX0 199 "no such atom") (by decide +kernel)) (hs (.exactly (.string RX0 199) "java/lang/String") (by decide +kernel)), List.forall_mem_cons.mpr ⟨sref (hts (.stringRef RX0 202 "no such source") (by decide +kernel)) (hs (.exactly (.string RX0 202) "java/lang/String") (by decide +kernel)), List.forall_mem_cons.mpr ⟨sref (hts (.stringRef RX0 204 "value is not 0 to 3") (by decide +kernel)) (hs (.exactly (.string RX0 204) "java/lang/String") (by decide +kernel)), List.forall_mem_cons.mpr ⟨sref (hts (.stringRef RX0 206 "trust is not 1 to 100") (by decide +kernel)) (hs (.exactly (.string RX0 206) "java/lang/String") (by decide +kernel)), List.forall_mem_cons.mpr ⟨sref (hts (.stringRef RX0 208 "no such formula") (by decide +kernel)) (hs (.exactly (.string RX0 208) "java/lang/String") (by decide +kernel)), List.forall_mem_cons.mpr ⟨sref (hts (.stringRef RX0 210 "the formula is not steady") (by decide +kernel)) (hs (.exactly (.string RX0 210) "java/lang/String") (by decide +kernel)), List.forall_mem_cons.mpr ⟨sref (hts (.stringRef RX0 214 "there are 40 formulas") (by decide +kernel)) (hs (.exactly (.string RX0 214) "java/lang/String") (by decide +kernel)), List.forall_mem_cons.mpr ⟨sref (hts (.stringRef RX0 82 "kind is not 2 or 8") (by decide +kernel)) (hs (.exactly (.string RX0 82) "java/lang/String") (by decide +kernel)), List.forall_mem_cons.mpr ⟨sref (hts (.stringRef RX0 87 "kind is not 3 to 7") (by decide +kernel)) (hs (.exactly (.string RX0 87) "java/lang/String") (by decide +kernel)), fun _ h => absurd h List.not_mem_nil⟩⟩⟩⟩⟩⟩⟩⟩⟩⟩⟩
  · exact ⟨va_Nc.of (hs (.not (.castable eIO eIA)) (by decide +kernel)), va_Nc.of (hs (.not (.castable eIO eIS)) (by decide +kernel)), va_Nc.of (hs (.not (.castable eIA eIO)) (by decide +kernel)), va_Nc.of (hs (.not (.castable eIA eIS)) (by decide +kernel)), va_Nc.of (hs (.not (.castable eIS eIO)) (by decide +kernel)), va_Nc.of (hs (.not (.castable eIS eIA)) (by decide +kernel))⟩
set_option maxRecDepth 100000 in
theorem st_TB {b : Nat} {s : State} (hts : ∀ w ∈ lw_tbl, w.before #[Value.ref b] s = true) (hgv : (Jvm.Cond.and given_1 narrow_1).before #[Value.ref b] s = true) : TBh (AF s) s s.heap := by
  have hs := flat_of_before _ hgv
  have hA : ∀ a : Nat, a < s.heap.size → ¬ AF s a := fun a h => Nat.not_le.mpr h
  obtain ⟨t, h1, h2⟩ := va_Tof (args := #[Value.ref b]) (s := s) (tm := .static "RumourReasoner" "NUMBERS_WITH_BIT" "[J") (ty := .long) (N := 6) (f := fun j => .long (NB j)) (A := AF s) (by decide) (hs (.arrayOf (.static "RumourReasoner" "NUMBERS_WITH_BIT" "[J") .long) (by decide +kernel)) (va_eqt (hs (.eq (.length (.static "RumourReasoner" "NUMBERS_WITH_BIT" "[J")) (.int 6)) (by decide +kernel))) (fun j hj => by
    rcases (show j = 0 ∨ j = 1 ∨ j = 2 ∨ j = 3 ∨ j = 4 ∨ j = 5 by omega) with rfl | rfl | rfl | rfl | rfl | rfl
    · exact va_eqtl (hs (.eq (.elem (.static "RumourReasoner" "NUMBERS_WITH_BIT" "[J") (.int 0)) (.long (-6148914691236517206))) (by decide +kernel))
    · exact va_eqtl (hs (.eq (.elem (.static "RumourReasoner" "NUMBERS_WITH_BIT" "[J") (.int 1)) (.long (-3689348814741910324))) (by decide +kernel))
    · exact va_eqtl (hs (.eq (.elem (.static "RumourReasoner" "NUMBERS_WITH_BIT" "[J") (.int 2)) (.long (-1085102592571150096))) (by decide +kernel))
    · exact va_eqtl (hs (.eq (.elem (.static "RumourReasoner" "NUMBERS_WITH_BIT" "[J") (.int 3)) (.long (-71777214294589696))) (by decide +kernel))
    · exact va_eqtl (hs (.eq (.elem (.static "RumourReasoner" "NUMBERS_WITH_BIT" "[J") (.int 4)) (.long (-281470681808896))) (by decide +kernel))
    · exact va_eqtl (hs (.eq (.elem (.static "RumourReasoner" "NUMBERS_WITH_BIT" "[J") (.int 5)) (.long (-4294967296))) (by decide +kernel))) hA
  exact ⟨t, va_Zref (hts (.laysStatic "RumourReasoner" "NUMBERS_WITH_BIT" "[J") (by decide +kernel)) (hts (.initialized "RumourReasoner") (by decide +kernel)) h1 hA, h2⟩
theorem st_arr {b : Nat} {s : State} {ty : FieldType} (hp : ty = .int ∨ ty = .boolean ∨ ty = .long) (h : (Cond.arrayClass ty).before #[Value.ref b] s = true) : ∃ cA : ClassId, ArrOfT s cA ty ∧ va_RA s cA ty := by
  obtain ⟨cA, k, comp, h1, h2, h3⟩ := Cond.arrayClass_spec h
  refine ⟨cA, fun n z => ⟨fun k9 h9 => (by cases h9), k, h2, comp, h3⟩, ?_⟩
  rcases hp with e | e | e <;> subst e <;> exact h1
theorem st_K {b : Nat} {s : State} (hts : ∀ w ∈ lw_tbl, w.before #[Value.ref b] s = true) : ∃ (D : va_G) (cI cZ cJ : ClassId), va_K D vwCl (tyC cI cZ cJ) s := by
  obtain ⟨c0, iS0, hKn0⟩ := u_known (C := RX0) (T := TX0) (N := 12) (n := 12) hts inX0 (hts (.instantiable RX0 12) (by decide +kernel))
  obtain ⟨c1, iS1, hKn1⟩ := u_known (C := RX1) (T := TX1) (N := 13) (n := 13) hts inX1 (hts (.instantiable RX1 13) (by decide +kernel))
  obtain ⟨cI, hI⟩ := st_arr (Or.inl rfl) (hts (.arrayClass .int) (by decide +kernel))
  obtain ⟨cZ, hZ⟩ := st_arr (Or.inr (Or.inl rfl)) (hts (.arrayClass .boolean) (by decide +kernel))
  obtain ⟨cJ, hJ⟩ := st_arr (Or.inr (Or.inr rfl)) (hts (.arrayClass .long) (by decide +kernel))
  refine ⟨(fun k => if k = 0 then c0 else c1, fun k => if k = 0 then iS0 else iS1), cI, cZ, cJ, fun k q hq => ?_, fun k q hq => ?_⟩
  · match k, hq with
    | 0, hq => cases hq; exact hKn0
    | 1, hq => cases hq; exact hKn1
    | k + 2, hq => simp [vwCl] at hq
  · match k, hq with
    | 0, hq => cases hq; exact hI
    | 1, hq => cases hq; exact hZ
    | 2, hq => cases hq; exact hJ
    | k + 3, hq => simp [tyC] at hq
theorem va_D.r {A : Nat → Prop} {w1 w2 : va_W} (h : va_D A (w1 ++ w2)) : va_D A w2 := by
  have key : ∀ (k : Nat) (q : Nat × va_E), w2[k]? = some q → (w1 ++ w2)[w1.length + k]? = some q := fun k q hk => by rw [List.getElem?_append_right (Nat.le_add_right _ _), Nat.add_sub_cancel_left]; exact hk
  refine ⟨fun i j x y hx hy e => ?_, fun k x hx => h.2 _ x (key k x hx)⟩
  have := h.1 _ _ x y (key i x hx) (key j y hy) e
  omega
theorem lcEq {x y : Int64} (h : x = y) : lg_cmp x y = 0 := by
  subst h
  unfold lg_cmp
  rw [if_neg (show ¬ x > x from fun z => by rw [gt_iff_lt, Int64.lt_iff_toInt_lt] at z; omega), if_pos rfl]
theorem dcm0 : ∀ a, a ≤ 6 → ∀ b, b ≤ 6 → ¬ b = 0 → Op.cmpValue (FP.dcmp (FP.ddiv (FP.i2d (nI a)) (FP.i2d (nI b))) (FP.ddiv (FP.i2d (nI a)) (FP.i2d (nI b)))) .l = 0 := by decide +kernel
theorem dcm1 : Op.cmpValue (FP.dcmp FP.dconst0 FP.dconst0) .l = 0 := by decide +kernel
theorem dcm (x y : Nat) : Op.cmpValue (FP.dcmp (dcV x y) (dcV x y)) .l = 0 := by
  unfold dcV
  by_cases h : 6 - fb_ct (fun i => Nat.testBit y i) 6 = 0
  · rw [if_pos h]; exact dcm1
  · rw [if_neg h]; exact dcm0 _ (fb_ct_le _ 6) _ (Nat.sub_le _ _) h
/-- what stays all through the law -/
def CX (p : Program) (l : Launch) (s : State) (m : MethodId) (meth : Method) (c : Code) (D : va_G) (ad bd : Nat → Nat) (cI cZ cJ : ClassId) (o b L : Nat) (xs : Nat → Int32) : Prop :=
  lw_At p s m meth c b L xs ∧ l.stackTraces = false ∧ va_K D vwCl (tyC cI cZ cJ) s ∧ XE s ∧ TBh (AF s) s s.heap ∧ va_D (AF s) ((wC0 ad cI cZ cJ ++ [(o, .inl (cJ, 1, .inr (.inl (fun _ => 0))))]) ++ wM0 bd cI cZ cJ)
/-- behind a call: the next turn -/
def KN (p : Program) (l : Launch) (e : Env) (s : State) (m : MethodId) (below : List Frame) (meth : Method) (c : Code) (D : va_G) (ad bd : Nat → Nat) (cI cZ cJ : ClassId) (o b j C Sl : Nat) (Q : State → Prop) : Prop :=
  ∀ (n : Nat) (kd : Nat → Nat) (fi : Nat → Nat) (se : Nat → Nat) (sd : Nat → Bool) (ts : Nat → Int64) (fs : Nat → Int64) (tr : Nat → Nat) (on : Nat → Bool) (sy : Nat → Nat) (rp : Nat → Nat) (lt : Nat) (ru : Nat → Option Nat) (lg : Nat) (lp : Int64) (th : Int32) (rs : Nat → Int32) (g : Nat → Int64) (H : Heap) (locs : List Loc) (ls : Array Slot), REL n kd fi se sd ts fs tr sy rp lt ru lg lp → va_P D vwCl (wC ad cI cZ cJ n kd sd ts fs tr on rp lt ru lg lp) H → va_P D vwCl (wM bd cI cZ cJ th n kd fi se sd tr on sy lt ru lg rs) H → va_P D vwCl [(o, .inl (cJ, 1, .inr (.inl g)))] H → va_S (AF s) s.heap H locs → lv_has ls 9 [(0, .ref b), (1, .ref (ad 0)), (2, .ref (bd 0)), (3, .ref o), (4, .int (nI (4 * j)))] → W p l e room_1 s m #[Value.ref b] below meth c H locs C Sl Q (F0 m 1999 ls [])
