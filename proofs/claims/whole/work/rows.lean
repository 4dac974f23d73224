section
-- ===== PART A: goes FIRST, ahead of the names: the tables' words, and 'selects' of the private methods out of them =====
/-- a private method of a class that the tables say can be made, by its rows of tables_1 -/
def lw_okq (q : MethodName × Nat) : Prop := (q.1.cls ≠ "java/lang/invoke/MethodHandle" ∧ q.1.cls ≠ "java/lang/invoke/VarHandle") ∧ Cond.instantiable q.1.cls q.2 ∈ tables_1 ∧ Cond.privateMethod q.1 ∈ tables_1 ∧ Cond.instanceMethod q.1 ∈ tables_1
theorem lw_p0 : lw_okq (⟨"RumourReasoner", "isHeard", "(I)Z"⟩, 12) := ⟨⟨by decide +kernel, by decide +kernel⟩, List.mem_of_getElem? (i := 12) (by decide +kernel), List.mem_of_getElem? (i := 73) (by decide +kernel), List.mem_of_getElem? (i := 74) (by decide +kernel)⟩
theorem lw_p1 : lw_okq (⟨"RumourReasoner", "givenState", "(I)I"⟩, 12) := ⟨⟨by decide +kernel, by decide +kernel⟩, List.mem_of_getElem? (i := 12) (by decide +kernel), List.mem_of_getElem? (i := 77) (by decide +kernel), List.mem_of_getElem? (i := 78) (by decide +kernel)⟩
theorem lw_p2 : lw_okq (⟨"RumourReasoner", "nextState", "(II)I"⟩, 12) := ⟨⟨by decide +kernel, by decide +kernel⟩, List.mem_of_getElem? (i := 12) (by decide +kernel), List.mem_of_getElem? (i := 81) (by decide +kernel), List.mem_of_getElem? (i := 82) (by decide +kernel)⟩
theorem lw_p3 : lw_okq (⟨"RumourReasoner", "lookUp", "(II)I"⟩, 12) := ⟨⟨by decide +kernel, by decide +kernel⟩, List.mem_of_getElem? (i := 12) (by decide +kernel), List.mem_of_getElem? (i := 85) (by decide +kernel), List.mem_of_getElem? (i := 86) (by decide +kernel)⟩
theorem lw_p4 : lw_okq (⟨"RumourReasoner", "settledNow", "()I"⟩, 12) := ⟨⟨by decide +kernel, by decide +kernel⟩, List.mem_of_getElem? (i := 12) (by decide +kernel), List.mem_of_getElem? (i := 99) (by decide +kernel), List.mem_of_getElem? (i := 100) (by decide +kernel)⟩
theorem lw_p5 : lw_okq (⟨"RumourReasoner", "settledState", "(I)I"⟩, 12) := ⟨⟨by decide +kernel, by decide +kernel⟩, List.mem_of_getElem? (i := 12) (by decide +kernel), List.mem_of_getElem? (i := 103) (by decide +kernel), List.mem_of_getElem? (i := 104) (by decide +kernel)⟩
theorem lw_p6 : lw_okq (⟨"RumourReasoner", "trustOf", "(I)I"⟩, 12) := ⟨⟨by decide +kernel, by decide +kernel⟩, List.mem_of_getElem? (i := 12) (by decide +kernel), List.mem_of_getElem? (i := 132) (by decide +kernel), List.mem_of_getElem? (i := 133) (by decide +kernel)⟩
theorem lw_p7 : lw_okq (⟨"java/lang/Throwable", "fillInStackTrace", "(I)Ljava/lang/Throwable;"⟩, 6) := ⟨⟨by decide +kernel, by decide +kernel⟩, List.mem_of_getElem? (i := 196) (by decide +kernel), List.mem_of_getElem? (i := 194) (by decide +kernel), List.mem_of_getElem? (i := 195) (by decide +kernel)⟩
theorem lw_p8 : lw_okq (⟨"RumourReasoner", "requireRoom", "()V"⟩, 12) := ⟨⟨by decide +kernel, by decide +kernel⟩, List.mem_of_getElem? (i := 12) (by decide +kernel), List.mem_of_getElem? (i := 226) (by decide +kernel), List.mem_of_getElem? (i := 227) (by decide +kernel)⟩
theorem lw_p9 : lw_okq (⟨"RumourReasoner", "addFormula", "(IZ)I"⟩, 12) := ⟨⟨by decide +kernel, by decide +kernel⟩, List.mem_of_getElem? (i := 12) (by decide +kernel), List.mem_of_getElem? (i := 251) (by decide +kernel), List.mem_of_getElem? (i := 252) (by decide +kernel)⟩
theorem lw_p10 : lw_okq (⟨"RumourReasoner", "requireFormula", "(I)V"⟩, 12) := ⟨⟨by decide +kernel, by decide +kernel⟩, List.mem_of_getElem? (i := 12) (by decide +kernel), List.mem_of_getElem? (i := 289) (by decide +kernel), List.mem_of_getElem? (i := 290) (by decide +kernel)⟩
theorem lw_p11 : lw_okq (⟨"RumourReasoner", "requireSteady", "(I)V"⟩, 12) := ⟨⟨by decide +kernel, by decide +kernel⟩, List.mem_of_getElem? (i := 12) (by decide +kernel), List.mem_of_getElem? (i := 359) (by decide +kernel), List.mem_of_getElem? (i := 360) (by decide +kernel)⟩
theorem lw_p12 : lw_okq (⟨"RumourReasoner", "logicWord", "(I)J"⟩, 12) := ⟨⟨by decide +kernel, by decide +kernel⟩, List.mem_of_getElem? (i := 12) (by decide +kernel), List.mem_of_getElem? (i := 437) (by decide +kernel), List.mem_of_getElem? (i := 438) (by decide +kernel)⟩
theorem lw_p13 : lw_okq (⟨"RumourReasoner", "differing", "(III)J"⟩, 12) := ⟨⟨by decide +kernel, by decide +kernel⟩, List.mem_of_getElem? (i := 12) (by decide +kernel), List.mem_of_getElem? (i := 482) (by decide +kernel), List.mem_of_getElem? (i := 483) (by decide +kernel)⟩
theorem lw_p14 : lw_okq (⟨"RumourReasoner", "isChanged", "(IIII)Z"⟩, 12) := ⟨⟨by decide +kernel, by decide +kernel⟩, List.mem_of_getElem? (i := 12) (by decide +kernel), List.mem_of_getElem? (i := 493) (by decide +kernel), List.mem_of_getElem? (i := 494) (by decide +kernel)⟩
theorem lw_p15 : lw_okq (⟨"RumourReasonerModel", "create", "(IIIZ)I"⟩, 13) := ⟨⟨by decide +kernel, by decide +kernel⟩, List.mem_of_getElem? (i := 505) (by decide +kernel), List.mem_of_getElem? (i := 565) (by decide +kernel), List.mem_of_getElem? (i := 566) (by decide +kernel)⟩
def lw_privs_1 : List (MethodName × Nat) := [(⟨"RumourReasoner", "isHeard", "(I)Z"⟩, 12), (⟨"RumourReasoner", "givenState", "(I)I"⟩, 12), (⟨"RumourReasoner", "nextState", "(II)I"⟩, 12), (⟨"RumourReasoner", "lookUp", "(II)I"⟩, 12), (⟨"RumourReasoner", "settledNow", "()I"⟩, 12), (⟨"RumourReasoner", "settledState", "(I)I"⟩, 12), (⟨"RumourReasoner", "trustOf", "(I)I"⟩, 12), (⟨"java/lang/Throwable", "fillInStackTrace", "(I)Ljava/lang/Throwable;"⟩, 6), (⟨"RumourReasoner", "requireRoom", "()V"⟩, 12), (⟨"RumourReasoner", "addFormula", "(IZ)I"⟩, 12), (⟨"RumourReasoner", "requireFormula", "(I)V"⟩, 12), (⟨"RumourReasoner", "requireSteady", "(I)V"⟩, 12), (⟨"RumourReasoner", "logicWord", "(I)J"⟩, 12), (⟨"RumourReasoner", "differing", "(III)J"⟩, 12), (⟨"RumourReasoner", "isChanged", "(IIII)Z"⟩, 12), (⟨"RumourReasonerModel", "create", "(IIIZ)I"⟩, 13)]
theorem lw_r1 : ∀ q ∈ lw_privs_1, lw_okq q := List.forall_mem_cons.mpr ⟨lw_p0, List.forall_mem_cons.mpr ⟨lw_p1, List.forall_mem_cons.mpr ⟨lw_p2, List.forall_mem_cons.mpr ⟨lw_p3, List.forall_mem_cons.mpr ⟨lw_p4, List.forall_mem_cons.mpr ⟨lw_p5, List.forall_mem_cons.mpr ⟨lw_p6, List.forall_mem_cons.mpr ⟨lw_p7, List.forall_mem_cons.mpr ⟨lw_p8, List.forall_mem_cons.mpr ⟨lw_p9, List.forall_mem_cons.mpr ⟨lw_p10, List.forall_mem_cons.mpr ⟨lw_p11, List.forall_mem_cons.mpr ⟨lw_p12, List.forall_mem_cons.mpr ⟨lw_p13, List.forall_mem_cons.mpr ⟨lw_p14, List.forall_mem_cons.mpr ⟨lw_p15, fun _ h => absurd h List.not_mem_nil⟩⟩⟩⟩⟩⟩⟩⟩⟩⟩⟩⟩⟩⟩⟩⟩
theorem lw_p16 : lw_okq (⟨"RumourReasonerModel", "no", "(I)I"⟩, 13) := ⟨⟨by decide +kernel, by decide +kernel⟩, List.mem_of_getElem? (i := 505) (by decide +kernel), List.mem_of_getElem? (i := 569) (by decide +kernel), List.mem_of_getElem? (i := 570) (by decide +kernel)⟩
theorem lw_p17 : lw_okq (⟨"RumourReasonerModel", "isFormula", "(I)Z"⟩, 13) := ⟨⟨by decide +kernel, by decide +kernel⟩, List.mem_of_getElem? (i := 505) (by decide +kernel), List.mem_of_getElem? (i := 581) (by decide +kernel), List.mem_of_getElem? (i := 582) (by decide +kernel)⟩
theorem lw_p18 : lw_okq (⟨"RumourReasonerModel", "isHeard", "(I)Z"⟩, 13) := ⟨⟨by decide +kernel, by decide +kernel⟩, List.mem_of_getElem? (i := 505) (by decide +kernel), List.mem_of_getElem? (i := 616) (by decide +kernel), List.mem_of_getElem? (i := 617) (by decide +kernel)⟩
theorem lw_p19 : lw_okq (⟨"RumourReasonerModel", "heardSet", "()I"⟩, 13) := ⟨⟨by decide +kernel, by decide +kernel⟩, List.mem_of_getElem? (i := 505) (by decide +kernel), List.mem_of_getElem? (i := 628) (by decide +kernel), List.mem_of_getElem? (i := 629) (by decide +kernel)⟩
theorem lw_p20 : lw_okq (⟨"RumourReasonerModel", "givenBy", "(II)I"⟩, 13) := ⟨⟨by decide +kernel, by decide +kernel⟩, List.mem_of_getElem? (i := 505) (by decide +kernel), List.mem_of_getElem? (i := 632) (by decide +kernel), List.mem_of_getElem? (i := 633) (by decide +kernel)⟩
theorem lw_p21 : lw_okq (⟨"RumourReasonerModel", "present", "()I"⟩, 13) := ⟨⟨by decide +kernel, by decide +kernel⟩, List.mem_of_getElem? (i := 505) (by decide +kernel), List.mem_of_getElem? (i := 643) (by decide +kernel), List.mem_of_getElem? (i := 644) (by decide +kernel)⟩
theorem lw_p22 : lw_okq (⟨"RumourReasonerModel", "settle", "(I)I"⟩, 13) := ⟨⟨by decide +kernel, by decide +kernel⟩, List.mem_of_getElem? (i := 505) (by decide +kernel), List.mem_of_getElem? (i := 647) (by decide +kernel), List.mem_of_getElem? (i := 648) (by decide +kernel)⟩
theorem lw_p23 : lw_okq (⟨"RumourReasonerModel", "begin", "(I)I"⟩, 13) := ⟨⟨by decide +kernel, by decide +kernel⟩, List.mem_of_getElem? (i := 505) (by decide +kernel), List.mem_of_getElem? (i := 651) (by decide +kernel), List.mem_of_getElem? (i := 652) (by decide +kernel)⟩
theorem lw_p24 : lw_okq (⟨"RumourReasonerModel", "goOn", "(II)I"⟩, 13) := ⟨⟨by decide +kernel, by decide +kernel⟩, List.mem_of_getElem? (i := 505) (by decide +kernel), List.mem_of_getElem? (i := 655) (by decide +kernel), List.mem_of_getElem? (i := 656) (by decide +kernel)⟩
theorem lw_p25 : lw_okq (⟨"RumourReasonerModel", "worth", "(II)I"⟩, 13) := ⟨⟨by decide +kernel, by decide +kernel⟩, List.mem_of_getElem? (i := 505) (by decide +kernel), List.mem_of_getElem? (i := 659) (by decide +kernel), List.mem_of_getElem? (i := 660) (by decide +kernel)⟩
theorem lw_p26 : lw_okq (⟨"RumourReasonerModel", "roundCount", "()I"⟩, 13) := ⟨⟨by decide +kernel, by decide +kernel⟩, List.mem_of_getElem? (i := 505) (by decide +kernel), List.mem_of_getElem? (i := 670) (by decide +kernel), List.mem_of_getElem? (i := 671) (by decide +kernel)⟩
theorem lw_p27 : lw_okq (⟨"RumourReasonerModel", "counts", "(I)Z"⟩, 13) := ⟨⟨by decide +kernel, by decide +kernel⟩, List.mem_of_getElem? (i := 505) (by decide +kernel), List.mem_of_getElem? (i := 726) (by decide +kernel), List.mem_of_getElem? (i := 727) (by decide +kernel)⟩
theorem lw_p28 : lw_okq (⟨"RumourReasonerModel", "isYes", "(II)Z"⟩, 13) := ⟨⟨by decide +kernel, by decide +kernel⟩, List.mem_of_getElem? (i := 505) (by decide +kernel), List.mem_of_getElem? (i := 730) (by decide +kernel), List.mem_of_getElem? (i := 731) (by decide +kernel)⟩
theorem lw_p29 : lw_okq (⟨"RumourReasonerModel", "firstAgainst", "(II)I"⟩, 13) := ⟨⟨by decide +kernel, by decide +kernel⟩, List.mem_of_getElem? (i := 505) (by decide +kernel), List.mem_of_getElem? (i := 742) (by decide +kernel), List.mem_of_getElem? (i := 743) (by decide +kernel)⟩
def lw_privs_2 : List (MethodName × Nat) := [(⟨"RumourReasonerModel", "no", "(I)I"⟩, 13), (⟨"RumourReasonerModel", "isFormula", "(I)Z"⟩, 13), (⟨"RumourReasonerModel", "isHeard", "(I)Z"⟩, 13), (⟨"RumourReasonerModel", "heardSet", "()I"⟩, 13), (⟨"RumourReasonerModel", "givenBy", "(II)I"⟩, 13), (⟨"RumourReasonerModel", "present", "()I"⟩, 13), (⟨"RumourReasonerModel", "settle", "(I)I"⟩, 13), (⟨"RumourReasonerModel", "begin", "(I)I"⟩, 13), (⟨"RumourReasonerModel", "goOn", "(II)I"⟩, 13), (⟨"RumourReasonerModel", "worth", "(II)I"⟩, 13), (⟨"RumourReasonerModel", "roundCount", "()I"⟩, 13), (⟨"RumourReasonerModel", "counts", "(I)Z"⟩, 13), (⟨"RumourReasonerModel", "isYes", "(II)Z"⟩, 13), (⟨"RumourReasonerModel", "firstAgainst", "(II)I"⟩, 13)]
theorem lw_r2 : ∀ q ∈ lw_privs_2, lw_okq q := List.forall_mem_cons.mpr ⟨lw_p16, List.forall_mem_cons.mpr ⟨lw_p17, List.forall_mem_cons.mpr ⟨lw_p18, List.forall_mem_cons.mpr ⟨lw_p19, List.forall_mem_cons.mpr ⟨lw_p20, List.forall_mem_cons.mpr ⟨lw_p21, List.forall_mem_cons.mpr ⟨lw_p22, List.forall_mem_cons.mpr ⟨lw_p23, List.forall_mem_cons.mpr ⟨lw_p24, List.forall_mem_cons.mpr ⟨lw_p25, List.forall_mem_cons.mpr ⟨lw_p26, List.forall_mem_cons.mpr ⟨lw_p27, List.forall_mem_cons.mpr ⟨lw_p28, List.forall_mem_cons.mpr ⟨lw_p29, fun _ h => absurd h List.not_mem_nil⟩⟩⟩⟩⟩⟩⟩⟩⟩⟩⟩⟩⟩⟩
def lw_privs : List (MethodName × Nat) := lw_privs_1 ++ (lw_privs_2)
def lw_tbl : List Cond := k2_sels lw_privs ++ tables_1
theorem lw_privs_ok : ∀ q ∈ lw_privs, lw_okq q := by
  show ∀ q ∈ lw_privs_1 ++ (lw_privs_2), lw_okq q
  exact List.forall_mem_append.mpr ⟨lw_r1, lw_r2⟩
/-- the streams that the claim lets the run draw from -/
abbrev lw_cs : List Choice := [Jvm.Choice.named "NaN.bits"]
theorem lw_bits : nanBits ∈ lw_cs := by first | decide | exact List.mem_cons_self | simp [lw_cs, nanBits]
end
section
/-! ===== BEGIN words of one list among another's, by their places ===== -/
theorem goodIn_r {big : List Cond} (ws : List Cond) (ps : List Nat) (hp : ws = ps.filterMap (fun i => big[i]?)) (h : ws.all goodWord = true) : GoodIn big ws := by
  intro w hw
  have h1 := List.all_eq_true.mp h w hw
  rw [hp] at hw
  obtain ⟨i, -, hi⟩ := List.mem_filterMap.mp hw
  have hm : w ∈ big := by first | exact List.mem_of_getElem? hi | exact List.getElem?_mem hi
  exact ⟨hm, good_of_word h1⟩
theorem goodIn_app {big a b : List Cond} (ha : GoodIn big a) (hb : GoodIn big b) : GoodIn big (a ++ b) := fun w h => (List.mem_append.mp h).elim (ha w) (hb w)
theorem goodIn_ca {big a b : List Cond} {c : Cond} (ha : GoodIn big (c :: a)) (hb : GoodIn big b) : GoodIn big (c :: (a ++ b)) := fun w h => (List.mem_cons.mp h).elim (fun e => ha w (List.mem_cons.mpr (Or.inl e))) (fun h => (List.mem_append.mp h).elim (fun h => ha w (List.mem_cons.mpr (Or.inr h))) (hb w))
theorem goodIn_sub {big ws : List Cond} (hm : ∀ w ∈ ws, w ∈ big) (h : ws.all goodWord = true) : GoodIn big ws := fun w hw => ⟨hm w hw, good_of_word (List.all_eq_true.mp h w hw)⟩
/-! ===== END ===== -/

/-! ===== BEGIN exceptions that leave a method, and their catching by the caller (launches without stack traces) ===== -/
section VXA
/-! The laws vx_back, vx_callV, vx_callS, vx_callSW, vx_throw0, vx_throwS follow proofs of the library, with one case more: JvmDerived/Free/Laws.lean (Back.of_free), Shelf42/LK1.lean (callV, callS), Shelf/KitTraced.lean (throwNew0V, throwNewS). -/
/-- where a method has thrown q: the class by its name, the cell, what was written, the world -/
def vx_T (XC : String → State → State → Prop) (st : State) (q : Addr) (t : State) (mc ms : Nat) (free : Addr → Prop) : Prop :=
  ∃ (E : String) (ce : Cell) (L : List Loc), XC E st t ∧ t.heap[q]? = some ce ∧ ce.vm = .none ∧ st.vm.findClass E = some ce.cls ∧ st.WarmedH t.vm ∧ st.sameButNew ({ t with vm := st.vm } : State) L mc ms ∧ ∀ z ∈ L, free z.base
def vx_Q (Qc : Array Value → State → Outcome → State → Prop) (XC : String → State → State → Prop) (mc ms : Nat) (free : Addr → Prop) : Array Value → State → Outcome → State → Prop := fun a st o t =>
  (Qc a st o t ∧ ∃ L, FrameEnd st o t L mc ms ∧ ∀ q ∈ L, free q.base) ∨ ∃ q, o = .threw q ∧ vx_T XC st q t mc ms free
/-- a callee that returns or throws -/
def vx_Met (l : Launch) (y : MethodName) (ws : List Cond) (rm : Room) (Pc : Array Value → State → Prop) (Qc : Array Value → State → Outcome → State → Prop) (XC : String → State → State → Prop) (mc ms : Nat) (free : Addr → Prop) : Prop :=
  MetFree l y (headSpec ws rm) Pc (fun _ _ _ _ _ => True) (vx_Q Qc XC mc ms free)
def vx_Post (XC : String → State → State → Prop) (mc ms : Nat) (free : Addr → Prop) : Pt → Array Value → Addr → Pt → Prop := fun A a q B =>
  ∃ (g : JFrame) (mk : MethodId) (t : State) (L : List Loc) (E : String) (ce : Cell), B.U.heap = t.heap ∧ B.U.vm = t.vm ∧ XC E (A.U.calling g mk a) t ∧ t.heap[q]? = some ce ∧ ce.vm = .none ∧ A.U.vm.findClass E = some ce.cls ∧ B.locs = A.locs ++ L ∧ (∀ z ∈ L, free z.base) ∧ B.cells = A.cells + mc ∧ B.slots = A.slots + ms
def vx_Back (l : Launch) (R : Room) (p : Program) (e : Env) (below : List Frame) (s : State) (sargs : Array Value) (y : MethodName) (len W9 : Nat)
    (Pre : Pt → Array Value → Prop) (Post : Pt → Array Value → Option Value → Pt → Prop) (PostX : Pt → Array Value → Addr → Pt → Prop) : Prop :=
  ∀ (m : MethodId) (meth : Method) (c : Code) (A : Pt) (g : JFrame) (ig : Instr) (mk : MethodId) (a : Array Value),
    Stand p l e R s m sargs below meth c A.U A.locs A.cells A.slots → g.method = m → g.locals.size = c.maxLocals → decode c.code g.pc = .ok (ig, len) →
    2 * g.monitorRoom + (g.stack.map fun v => v.category).sum ≤ W9 → A.U.methodNamed? y = some mk → Pre A a →
    (∃ (v : Option Value) (B : Pt), Stand p l e R s m sargs below meth c B.U B.locs B.cells B.slots ∧ Post A a v B ∧
      Steps p.tables e below (doInvoke e (A.U.setTop g) [] mk a).1 (B.U.setTop { g with pc := g.pc + len, stack := v.toList ++ g.stack })) ∨
    (∃ (q : Addr) (B : Pt), Stand p l e R s m sargs below meth c B.U B.locs B.cells B.slots ∧ PostX A a q B ∧
      Steps p.tables e below (doInvoke e (A.U.setTop g) [] mk a).1 ((B.U.setTop g).pushFrame (.throwing q)))
section Payer
variable {l : Launch} {R : Room} {p : Program} {e : Env} {below : List Frame} {s : State} {sargs : Array Value} {y : MethodName} {len W9 : Nat}
theorem vx_back {ws : List Cond} {rm : Room} {Pc : Array Value → State → Prop} {Qc : Array Value → State → Outcome → State → Prop} {XC : String → State → State → Prop} {mc ms : Nat} {free : Addr → Prop} {bytes : ByteArray} {maxL : Nat} {ret : Option FieldType}
    (hM : vx_Met l y ws rm Pc Qc XC mc ms free) (hblind : FrameBlind Pc) (hrc : rm.cells = mc) (hrs : rm.slots = ms)
    (hframes : rm.frames + 1 ≤ R.frames) (hlocals : W9 + (maxL + 11) + rm.locals ≤ R.locals)
    (hws : ∀ w ∈ ws, ∀ a' U, s.WarmedH U.vm → w.before a' U = true) (hcode : Cond.code y bytes maxL ret ∈ ws) (hinit : ∀ a' U, s.WarmedH U.vm → (Cond.initialized y.cls).before a' U = true) :
    vx_Back l R p e below s sargs y len W9 (PreOf R mc ms Pc) (PostOf Qc mc ms free) (vx_Post XC mc ms free) := by
  intro m meth c A g ig mk a X hg hsize hdg hW hn hp
  have h1 : (headSpec ws rm).pre.before a A.U = true := atoms_intro fun w hw => hws w hw _ _ X.warmed
  have h2 : (Cond.code y bytes maxL ret).before a A.U = true := hws _ hcode _ _ X.warmed
  have h3 : (Cond.initialized y.cls).before a A.U = true := hinit _ _ X.warmed
  have h4 : A.cells + (headSpec ws rm).room.cells ≤ R.cells := by rw [show (headSpec ws rm).room.cells = mc from hrc]; exact hp.1
  have h5 : A.slots + (headSpec ws rm).room.slots ≤ R.slots := by rw [show (headSpec ws rm).room.slots = ms from hrs]; exact hp.2.1
  have hPc : Pc a (A.U.calling g mk a) := hblind _ _ _ _ hp.2.2
  obtain ⟨U, Ls, c0, s0⟩ := A
  dsimp only [Pt.U, Pt.locs, Pt.cells, Pt.slots] at h1 h2 h3 h4 h5 X hn hPc ⊢
  obtain ⟨methY, cY, hmY, hcY, -, hlY, -, -, -, -⟩ := Cond.code_spec hn h2
  obtain ⟨kY, hkY, -⟩ := className_of_methodNamed hn
  have hinitY : kY.init = .initialized := Cond.initialized_spec (findClass_of_methodNamed hn) hkY h3
  have h : At U g.method c below := by rw [hg]; exact X.here
  have hlocals9 : W9 + (maxL + 11) + (headSpec ws rm).room.locals ≤ R.locals := hlocals
  have happ : (headSpec ws rm).appliesLoose y e.platform (U.calling g mk a) = true :=
    Spec.appliesLoose_calling (g := g) h hdg hn hkY hinitY
      (X.room_calling (g := g) (R' := (headSpec ws rm).room) hsize hmY hcY hframes (by rw [hlY]; omega) h4 h5) h1
  obtain ⟨mid, hmid⟩ := h.above
  have hfr : (U.setTop g).frames = (.java g :: mid) ++ below := by rw [State.frames_setTop' g h.top, hmid]; rfl
  obtain ⟨o, s₂, hsteps, -, hend, hq⟩ := Steps.callFree hM p X.admits X.cas X.clock (acts := []) hfr happ hPc trivial
  have hq' : vx_Q Qc XC mc ms free a (U.calling g mk a) o s₂ := hq
  rw [State.frames_setTop' g h.top] at hend
  obtain ⟨g₀, hg0⟩ := Option.isSome_iff_exists.mp h.top
  obtain ⟨r, hr⟩ := State.topJava?_eq_some.mp hg0
  have hr' : (({ U with heap := s₂.heap, slotsUsed := s₂.slotsUsed } : State).setVm s₂.vm).frames = .java g₀ :: r := hr
  rcases hq' with ⟨hqc, L, hfe, hL⟩ | ⟨q, rfl, E, ce, L, hx, hce, hcv, hcl, hW₂, hsm, hL⟩
  · obtain ⟨⟨v, rfl⟩, hW₂, e2, q2, q3, q4, q5, q6⟩ := id hfe
    have e3 : s₂ = ({ (U.calling g mk a).setFrames s₂.frames with heap := s₂.heap, slotsUsed := s₂.slotsUsed } : State).setVm s₂.vm := by
      have : s₂ = ({ s₂ with vm := (U.calling g mk a).vm } : State).setVm s₂.vm := rfl
      rw [e2] at this
      exact this
    obtain ⟨c₂, i₂, len₂, hc₂, hd₂, hf₂⟩ := hend
    have hW' : U.WarmedH s₂.vm := hW₂
    have hcc : c₂ = c := by
      have h1 : s₂.code? g.method = U.code? g.method := by
        rw [State.code?_eq, State.code?_eq, hW'.alike.method?]
      exact Option.some.inj (hc₂.symm.trans (h1.trans h.code))
    subst hcc
    have hlen : len₂ = len := by rw [hdg] at hd₂; cases hd₂; rfl
    subst hlen
    have hs₂ : s₂ = (({ U with heap := s₂.heap, slotsUsed := s₂.slotsUsed } : State).setVm s₂.vm).setTop { g with pc := g.pc + len₂, stack := v.toList ++ g.stack } := by
      refine e3.trans ?_
      rw [hf₂, State.calling_eq h.top, State.setFrames_setFrames, State.setTop_of_frames _ hr', hr]
      rfl
    have hsame : U.sameButNew ({ U with heap := s₂.heap, slotsUsed := s₂.slotsUsed } : State) L mc ms := by
      refine ⟨?_, q2, q3, q4, q5, q6⟩
      obtain ⟨t, ht, -⟩ := State.frames_cons hr
      show ({ U with heap := s₂.heap, slotsUsed := s₂.slotsUsed } : State) = { U.setFrames U.frames with heap := s₂.heap, slotsUsed := s₂.slotsUsed }
      rw [State.setFrames_self ht]
    subst hg
    refine Or.inl ⟨v, ⟨(({ U with heap := s₂.heap, slotsUsed := s₂.slotsUsed } : State).setVm s₂.vm), Ls ++ L, c0 + mc, s0 + ms⟩,
      ⟨X.admits, X.cas, X.clock, X.frames, X.room, X.hears, X.method, X.code, (X.here.setHeapUsed s₂.heap s₂.slotsUsed).setVm hW'.alike, X.tail, State.WarmedH.trans X.warmed hW', X.limits, X.bytes, X.same.trans (hsame.setVm s.vm)⟩,
      ⟨g, mk, s₂, L, rfl, rfl, hqc, rfl, hL, rfl, rfl⟩, ?_⟩
    show Steps p.tables e below _ ((({ U with heap := s₂.heap, slotsUsed := s₂.slotsUsed } : State).setVm s₂.vm).setTop { g with pc := g.pc + len₂, stack := v.toList ++ g.stack })
    rw [← hs₂]
    exact hsteps
  · obtain ⟨e2, q2, q3, q4, q5, q6⟩ := id hsm
    have e3 : s₂ = ({ (U.calling g mk a).setFrames s₂.frames with heap := s₂.heap, slotsUsed := s₂.slotsUsed } : State).setVm s₂.vm := by
      have : s₂ = ({ s₂ with vm := (U.calling g mk a).vm } : State).setVm s₂.vm := rfl
      rw [e2] at this
      exact this
    have hf₂ : s₂.frames = .throwing q :: .java g :: U.frames.tail := hend
    have hW' : U.WarmedH s₂.vm := hW₂
    have hs₂ : s₂ = ((({ U with heap := s₂.heap, slotsUsed := s₂.slotsUsed } : State).setVm s₂.vm).setTop g).pushFrame (.throwing q) := by
      refine e3.trans ?_
      rw [hf₂, State.calling_eq h.top, State.setFrames_setFrames, State.pushFrame, State.frames_setTop _ hr', State.setTop_of_frames _ hr', State.setFrames_setFrames, hr]
      rfl
    have hsame : U.sameButNew ({ U with heap := s₂.heap, slotsUsed := s₂.slotsUsed } : State) L mc ms := by
      refine ⟨?_, q2, q3, q4, q5, q6⟩
      obtain ⟨t, ht, -⟩ := State.frames_cons hr
      show ({ U with heap := s₂.heap, slotsUsed := s₂.slotsUsed } : State) = { U.setFrames U.frames with heap := s₂.heap, slotsUsed := s₂.slotsUsed }
      rw [State.setFrames_self ht]
    subst hg
    refine Or.inr ⟨q, ⟨(({ U with heap := s₂.heap, slotsUsed := s₂.slotsUsed } : State).setVm s₂.vm), Ls ++ L, c0 + mc, s0 + ms⟩,
      ⟨X.admits, X.cas, X.clock, X.frames, X.room, X.hears, X.method, X.code, (X.here.setHeapUsed s₂.heap s₂.slotsUsed).setVm hW'.alike, X.tail, State.WarmedH.trans X.warmed hW', X.limits, X.bytes, X.same.trans (hsame.setVm s.vm)⟩,
      ⟨g, mk, s₂, L, E, ce, rfl, rfl, hx, hce, hcv, hcl, rfl, hL, rfl, rfl⟩, ?_⟩
    show Steps p.tables e below _ (((({ U with heap := s₂.heap, slotsUsed := s₂.slotsUsed } : State).setVm s₂.vm).setTop g).pushFrame (.throwing q))
    rw [← hs₂]
    exact hsteps
end Payer
section Calls
variable {p : Program} {l : Launch} {e : Env} {R : Room} {s : State} {m : MethodId} {args : Array Value} {below : List Frame} {meth : Method} {c : Code} {T : State} {locs : List Loc} {cells slots : Nat}
theorem vx_callV (X : Stand p l e R s m args below meth c T locs cells slots) (hexec : p.tables.exec = Jvm.exec) {own C : String} {index : Nat} {y : MethodName} {bytes : ByteArray} {maxL : Nat} {ret : Option FieldType}
    (hown : s.vm.findClass own = some m.cls) (hlink : (Cond.methodLink own index y).before args s = true) (hinst : (Cond.instanceMethod y).before args s = true) (hsel : (Cond.selects C y y).before args s = true)
    (hcode : (Cond.code y bytes maxL ret).before args s = true) (hy : y.cls ≠ "java/lang/invoke/MethodHandle" ∧ y.cls ≠ "java/lang/invoke/VarHandle")
    {W9 : Nat} {Pre : Pt → Array Value → Prop} {Post : Pt → Array Value → Option Value → Pt → Prop} {PostX : Pt → Array Value → Addr → Pt → Prop} (hK : vx_Back l R p e below s args y 3 W9 Pre Post PostX)
    {b : Addr} {cellB : Cell} (hcell : T.heap[b]? = some cellB) (hobj : cellB.vm.isStatics = false) (hcls : s.vm.findClass C = some cellB.cls)
    {g : JFrame} (hg : g.method = m) (hsize : g.locals.size = c.maxLocals) {argsL rest : List Value} (hlen : ∀ sig, parseMethodDescriptor y.desc = some sig → argsL.length = sig.parameters.length)
    (hstack : g.stack = argsL.reverse ++ .ref b :: rest) (hW : 2 * g.monitorRoom + (rest.map fun v => v.category).sum ≤ W9) (hdg : decode c.code g.pc = .ok (.invokevirtual index, 3))
    (hpre : ∀ vm₁, s.WarmedH vm₁ → Pre ⟨T.setVm vm₁, locs, cells, slots⟩ (Value.ref b :: argsL).toArray) :
    (∃ (v : Option Value) (vm₁ : Vm) (B : Pt), s.WarmedH vm₁ ∧ Stand p l e R s m args below meth c B.U B.locs B.cells B.slots ∧ Post ⟨T.setVm vm₁, locs, cells, slots⟩ (Value.ref b :: argsL).toArray v B ∧
      ∀ target, Steps p.tables e below (B.U.setTop { g with pc := g.pc + 3, stack := v.toList ++ rest }) target → Steps p.tables e below (T.setTop g) target) ∨
    (∃ (q : Addr) (vm₁ : Vm) (B : Pt), s.WarmedH vm₁ ∧ Stand p l e R s m args below meth c B.U B.locs B.cells B.slots ∧ PostX ⟨T.setVm vm₁, locs, cells, slots⟩ (Value.ref b :: argsL).toArray q B ∧
      Steps p.tables e below (T.setTop g) ((B.U.setTop { g with stack := rest }).pushFrame (.throwing q))) := by
  obtain ⟨mk, methM, hnamed, hmethM, hstM, habM⟩ := Cond.instanceMethod_spec hinst
  obtain ⟨methM', cM, hmethM', -, -, -, -, -, -, hsigM⟩ := Cond.code_spec hnamed hcode
  cases hmethM.symm.trans hmethM'
  obtain ⟨c2, r2, m2, q1, q2, q3, q4, kP, hkP, hkPi⟩ := Cond.selects_spec hsel
  cases hcls.symm.trans q1
  cases (State.methodFound?_of_named hnamed hy).symm.trans q2
  cases hnamed.symm.trans q3
  have hselP : selectMethod e.platform s.vm cellB.cls mk = .method mk := by rw [Launch.admits_selectMethod X.admits]; exact q4
  obtain ⟨vm₁, X₁, hstep₁⟩ := X.invokevirtual hexec hown hlink hnamed hmethM hstM hkP hkPi hy (a := b) (cell := cellB) hcell
    (fun z h => by rw [h] at hobj; cases hobj) hselP hmethM habM hkP hkPi (g := g) hg (argsL := argsL) (rest := rest) (hlen _ hsigM) hstack hdg
  rcases hK m meth c ⟨T.setVm vm₁, locs, cells, slots⟩ { g with stack := rest } (.invokevirtual index) mk (Value.ref b :: argsL).toArray X₁ hg hsize hdg hW (X₁.named hnamed) (hpre vm₁ X₁.warmed) with ⟨v, B, X', hpost, hsteps⟩ | ⟨q, B, X', hpost, hsteps⟩
  · exact Or.inl ⟨v, vm₁, B, X₁.warmed, X', hpost, fun target h => hstep₁ _ fun acts => by rw [doInvoke_state]; exact hsteps.trans h⟩
  · exact Or.inr ⟨q, vm₁, B, X₁.warmed, X', hpost, hstep₁ _ fun acts => by rw [doInvoke_state]; exact hsteps⟩
theorem vx_callS (X : Stand p l e R s m args below meth c T locs cells slots) (hexec : p.tables.exec = Jvm.exec) {own : String} {index : Nat} {y : MethodName} {bytes : ByteArray} {maxL : Nat} {ret : Option FieldType}
    (hown : s.vm.findClass own = some m.cls) (hlink : (Cond.methodLink own index y).before args s = true) (hstat : (Cond.static y).before args s = true) (hinit : (Cond.initialized y.cls).before args s = true)
    (hcode : (Cond.code y bytes maxL ret).before args s = true) (hy : y.cls ≠ "java/lang/invoke/MethodHandle" ∧ y.cls ≠ "java/lang/invoke/VarHandle")
    {W9 : Nat} {Pre : Pt → Array Value → Prop} {Post : Pt → Array Value → Option Value → Pt → Prop} {PostX : Pt → Array Value → Addr → Pt → Prop} (hK : vx_Back l R p e below s args y 3 W9 Pre Post PostX)
    {g : JFrame} (hg : g.method = m) (hsize : g.locals.size = c.maxLocals) {argsL rest : List Value} (hlen : ∀ sig, parseMethodDescriptor y.desc = some sig → argsL.length = sig.parameters.length)
    (hstack : g.stack = argsL.reverse ++ rest) (hW : 2 * g.monitorRoom + (rest.map fun v => v.category).sum ≤ W9) (hdg : decode c.code g.pc = .ok (.invokestatic index, 3))
    (hpre : ∀ vm₁, s.WarmedH vm₁ → Pre ⟨T.setVm vm₁, locs, cells, slots⟩ argsL.toArray) :
    (∃ (v : Option Value) (vm₁ : Vm) (B : Pt), s.WarmedH vm₁ ∧ Stand p l e R s m args below meth c B.U B.locs B.cells B.slots ∧ Post ⟨T.setVm vm₁, locs, cells, slots⟩ argsL.toArray v B ∧
      ∀ target, Steps p.tables e below (B.U.setTop { g with pc := g.pc + 3, stack := v.toList ++ rest }) target → Steps p.tables e below (T.setTop g) target) ∨
    (∃ (q : Addr) (vm₁ : Vm) (B : Pt), s.WarmedH vm₁ ∧ Stand p l e R s m args below meth c B.U B.locs B.cells B.slots ∧ PostX ⟨T.setVm vm₁, locs, cells, slots⟩ argsL.toArray q B ∧
      Steps p.tables e below (T.setTop g) ((B.U.setTop { g with stack := rest }).pushFrame (.throwing q))) := by
  obtain ⟨mk, hnamed⟩ := Cond.code_named hcode
  obtain ⟨methM, cM, hmethM, -, -, -, -, -, -, hsigM⟩ := Cond.code_spec hnamed hcode
  have hstatic : methM.isStatic = true := Cond.static_spec hnamed hmethM hstat
  obtain ⟨kP, hkP, -⟩ := className_of_methodNamed hnamed
  have hinitP : kP.init = .initialized := Cond.initialized_spec (findClass_of_methodNamed hnamed) hkP hinit
  obtain ⟨vm₁, X₁, hstep₁⟩ := X.invokestatic hexec hown hlink hnamed hmethM hstatic hkP hinitP hy (g := g) hg (argsL := argsL) (rest := rest) (hlen _ hsigM) hstack hdg
  rcases hK m meth c ⟨T.setVm vm₁, locs, cells, slots⟩ { g with stack := rest } (.invokestatic index) mk argsL.toArray X₁ hg hsize hdg hW (X₁.named hnamed) (hpre vm₁ X₁.warmed) with ⟨v, B, X', hpost, hsteps⟩ | ⟨q, B, X', hpost, hsteps⟩
  · exact Or.inl ⟨v, vm₁, B, X₁.warmed, X', hpost, fun target h => hstep₁ _ fun acts => by rw [doInvoke_state]; exact hsteps.trans h⟩
  · exact Or.inr ⟨q, vm₁, B, X₁.warmed, X', hpost, hstep₁ _ fun acts => by rw [doInvoke_state]; exact hsteps⟩
end Calls
theorem vx_cls {s : State} {T : State} {vm₁ : Vm} {E : String} {k : ClassId} (hW : s.WarmedH vm₁) (h : (T.setVm vm₁).vm.findClass E = some k) : s.vm.findClass E = some k := by
  have h1 : vm₁.findClass E = some k := h
  rw [hW.alike.findClass] at h1
  exact h1
/-- the method's frame g, with q thrown over it -/
def vx_W (p : Program) (l : Launch) (e : Env) (R : Room) (s : State) (m : MethodId) (args : Array Value) (below : List Frame) (meth : Method) (c : Code) (H : Heap) (locs : List Loc) (cells slots : Nat) (Q : State → Prop) (g : JFrame) (q : Addr) : Prop :=
  ∀ T : State, T.heap = H → Stand p l e R s m args below meth c T locs cells slots → ∃ t, Steps p.tables e below ((T.setTop g).pushFrame (.throwing q)) t ∧ Q t
def vx_Run (p : Program) (l : Launch) (e : Env) (R : Room) (s : State) (m : MethodId) (args : Array Value) (below : List Frame) (meth : Method) (c : Code) (H : Heap) (locs : List Loc) (cells slots mc ms : Nat) (g : JFrame) (rest : List Value) (Qa : State → Outcome → State → Prop) (XC : String → State → State → Prop) (free : Addr → Prop) : Prop :=
  ∀ T : State, T.heap = H → Stand p l e R s m args below meth c T locs cells slots →
    (∃ (v : Option Value) (st₀ t T' : State) (L : List Loc), st₀.heap = H ∧ Stand p l e R s m args below meth c T' (locs ++ L) (cells + mc) (slots + ms) ∧ (∀ q ∈ L, free q.base) ∧ T'.heap = t.heap ∧ T'.vm = t.vm ∧ Qa st₀ (.returned v) t ∧
      Goes p e below T g T' { g with pc := g.pc + 3, stack := v.toList ++ rest }) ∨
    (∃ (q : Addr) (st₀ t T' : State) (L : List Loc) (E : String) (ce : Cell), st₀.heap = H ∧ Stand p l e R s m args below meth c T' (locs ++ L) (cells + mc) (slots + ms) ∧ (∀ z ∈ L, free z.base) ∧ T'.heap = t.heap ∧ T'.vm = t.vm ∧ XC E st₀ t ∧ t.heap[q]? = some ce ∧ ce.vm = .none ∧ s.vm.findClass E = some ce.cls ∧
      Steps p.tables e below (T.setTop g) ((T'.setTop { g with stack := rest }).pushFrame (.throwing q)))
def vx_X {S : Type} (px : S → Prop) (B : String → S → State → Prop) (A : Nat → Prop) : String → State → State → Prop := fun E st t => ∃ u : S, px u ∧ B E u t ∧ va_F A st t
section Runs
variable {p : Program} {l : Launch} {e : Env} {R : Room} {s : State} {m : MethodId} {args : Array Value} {below : List Frame} {meth : Method} {c : Code} {H : Heap} {locs : List Loc} {cells slots : Nat}
variable {y : MethodName} {bytes cc : ByteArray} {maxL nL mc ms n index : Nat} {ret : Option FieldType} {ws : List Cond} {rm : Room} {Pc : Array Value → State → Prop} {Qc : Array Value → State → Outcome → State → Prop} {XC : String → State → State → Prop} {free : Addr → Prop} {Ts : List Cond} {own C : String} {b : Addr} {As rest : List Value} {g : JFrame}
theorem vx_callBack (cb : CallB R s args own index y bytes maxL ret ws rm mc ms n) (hM : vx_Met l y ws rm Pc Qc XC mc ms free) (hbl : FrameBlind Pc) : vx_Back l R p e below s args y 3 8 (PreOf R mc ms Pc) (PostOf Qc mc ms free) (vx_Post XC mc ms free) := by
  obtain ⟨hrc, hrs, hfr, hlo, hws, hcw, -, hini, -⟩ := cb
  exact vx_back (bytes := bytes) (maxL := maxL) (ret := ret) hM hbl hrc hrs hfr hlo hws hcw (fun a' U hW => word_at hW (Or.inl (by first | rfl | simp [Cond.onTables, Cond.keeps, Cond.steady])) hini)
theorem vx_runV (S : CallFix p m c cc nL s args Ts own) (hM : vx_Met l y ws rm Pc Qc XC mc ms free) (cw : CallW R s args own C index y bytes maxL ret ws rm mc ms n) (hp : PreV s H C b Pc As)
    (hg : g.method = m) (hn : As.length = n) (hsize : g.locals.size = nL) (hstack : g.stack = As.reverse ++ .ref b :: rest) (hW : 2 * g.monitorRoom + (rest.map fun v => v.category).sum ≤ 8) (hdg : decode cc g.pc = .ok (.invokevirtual index, 3)) (hf : cells + mc ≤ R.cells ∧ slots + ms ≤ R.slots) :
    vx_Run p l e R s m args below meth c H locs cells slots mc ms g rest (Qc (Value.ref b :: As).toArray) XC free := by
  have hK : vx_Back l R p e below s args y 3 8 (PreOf R mc ms Pc) (PostOf Qc mc ms free) (vx_Post XC mc ms free) := vx_callBack cw.1 hM hp.1
  obtain ⟨⟨-, -, -, -, -, -, hcode, -, hy, hlen, hl⟩, hin, hse⟩ := cw
  obtain ⟨hx, hb, hml, ho, -⟩ := S
  obtain ⟨-, ⟨cellB, hcB, hoB, hclB⟩, hPc⟩ := hp
  intro T hT X
  rcases vx_callV X hx (C := C) (bytes := bytes) (maxL := maxL) (ret := ret) ho hl hin hse hcode hy hK (by rw [hT]; exact hcB) hoB hclB hg (hsize.trans hml.symm) (argsL := As) (rest := rest) (fun sig h => hn.trans (hlen sig h)) hstack hW (by rw [hb]; exact hdg)
    (fun vm₁ hW₁ => ⟨hf.1, hf.2, hPc (T.setVm vm₁) hT hW₁⟩) with ⟨v, vm₁, ⟨U', l2, c2, s2⟩, hW₁, X', ⟨g', mk, t, L, e1, e2, hq, h1, hL, h2, h3⟩, st⟩ | ⟨q, vm₁, ⟨U', l2, c2, s2⟩, hW₁, X', ⟨g', mk, t, L, E, ce, e1, e2, hq, hce, hcv, hcl, h1, hL, h2, h3⟩, st⟩
  · dsimp only [Pt.U, Pt.locs, Pt.cells, Pt.slots] at X' e1 e2 h1 h2 h3 st
    subst h1; subst h2; subst h3
    exact Or.inl ⟨v, (T.setVm vm₁).calling g' mk (Value.ref b :: As).toArray, t, U', L, hT, X', hL, e1, e2, hq, st⟩
  · dsimp only [Pt.U, Pt.locs, Pt.cells, Pt.slots] at X' e1 e2 h1 h2 h3 st hcl
    subst h1; subst h2; subst h3
    exact Or.inr ⟨q, (T.setVm vm₁).calling g' mk (Value.ref b :: As).toArray, t, U', L, E, ce, hT, X', hL, e1, e2, hq, hce, hcv, vx_cls hW₁ hcl, st⟩
theorem vx_runS (S : CallFix p m c cc nL s args Ts own) (hM : vx_Met l y ws rm Pc Qc XC mc ms free) (cw : CallB R s args own index y bytes maxL ret ws rm mc ms n ∧ (Cond.static y).before args s = true) (hp : PreS s H Pc As)
    (hg : g.method = m) (hn : As.length = n) (hsize : g.locals.size = nL) (hstack : g.stack = As.reverse ++ rest) (hW : 2 * g.monitorRoom + (rest.map fun v => v.category).sum ≤ 8) (hdg : decode cc g.pc = .ok (.invokestatic index, 3)) (hf : cells + mc ≤ R.cells ∧ slots + ms ≤ R.slots) :
    vx_Run p l e R s m args below meth c H locs cells slots mc ms g rest (Qc As.toArray) XC free := by
  have hK : vx_Back l R p e below s args y 3 8 (PreOf R mc ms Pc) (PostOf Qc mc ms free) (vx_Post XC mc ms free) := vx_callBack cw.1 hM hp.1
  obtain ⟨⟨-, -, -, -, -, -, hcode, hini, hy, hlen, hl⟩, hstt⟩ := cw
  obtain ⟨hx, hb, hml, ho, -⟩ := S
  intro T hT X
  rcases vx_callS X hx (bytes := bytes) (maxL := maxL) (ret := ret) ho hl hstt hini hcode hy hK hg (hsize.trans hml.symm) (argsL := As) (rest := rest) (fun sig h => hn.trans (hlen sig h)) hstack hW (by rw [hb]; exact hdg)
    (fun vm₁ hW₁ => ⟨hf.1, hf.2, hp.2 (T.setVm vm₁) hT hW₁⟩) with ⟨v, vm₁, ⟨U', l2, c2, s2⟩, hW₁, X', ⟨g', mk, t, L, e1, e2, hq, h1, hL, h2, h3⟩, st⟩ | ⟨q, vm₁, ⟨U', l2, c2, s2⟩, hW₁, X', ⟨g', mk, t, L, E, ce, e1, e2, hq, hce, hcv, hcl, h1, hL, h2, h3⟩, st⟩
  · dsimp only [Pt.U, Pt.locs, Pt.cells, Pt.slots] at X' e1 e2 h1 h2 h3 st
    subst h1; subst h2; subst h3
    exact Or.inl ⟨v, (T.setVm vm₁).calling g' mk As.toArray, t, U', L, hT, X', hL, e1, e2, hq, st⟩
  · dsimp only [Pt.U, Pt.locs, Pt.cells, Pt.slots] at X' e1 e2 h1 h2 h3 st hcl
    subst h1; subst h2; subst h3
    exact Or.inr ⟨q, (T.setVm vm₁).calling g' mk As.toArray, t, U', L, E, ce, hT, X', hL, e1, e2, hq, hce, hcv, vx_cls hW₁ hcl, st⟩
end Runs
section Rows
variable {p : Program} {l : Launch} {e : Env} {R : Room} {s : State} {m : MethodId} {args : Array Value} {below : List Frame} {meth : Method} {c : Code} {H : Heap} {locs : List Loc} {cells slots : Nat} {Q : State → Prop}
variable {mc ms : Nat} {free : Addr → Prop} {A0 A1 : Nat → Prop} {H0 : Heap} {a : Array Value} {pc : Nat} {ls : Array Slot} {st0 rest : List Value}
theorem vx_keep {st₀ t T' : State} {L : List Loc} (h0 : st₀.heap = H) (e1 : T'.heap = t.heap) (hS : va_S A0 H0 H locs) (hA : ∀ q, q < H.size → A1 q → A0 q) (hf : ∀ q, free q → A0 q) (hL : ∀ q ∈ L, free q.base) (hF : va_F A1 st₀ t) :
    H.size ≤ T'.heap.size ∧ (∀ q : Nat, q < H.size → ¬ A1 q → T'.heap[q]? = H[q]?) ∧ va_S A0 H0 T'.heap (locs ++ L) := by
  obtain ⟨hz, hk⟩ := hF
  rw [h0] at hz hk
  exact ⟨by rw [e1]; exact hz, fun q h1 h2 => by rw [e1]; exact hk q h1 h2,
    ⟨Nat.le_trans hS.1 (by rw [e1]; exact hz), fun q h1 h2 => by rw [e1, hk q (Nat.lt_of_lt_of_le h1 hS.1) (fun z => h2 (hA q (Nat.lt_of_lt_of_le h1 hS.1) z))]; exact hS.2.1 q h1 h2, fun q hq => by
      rcases List.mem_append.mp hq with h | h
      · exact hS.2.2 q h
      · exact hf _ (hL q h)⟩⟩
theorem vx_calli {S SX : Type} {post : Int32 → S → Prop} {px : SX → Prop} {B : S → State → Prop} {BX : String → SX → State → Prop} {AX : Nat → Prop} (hr : vx_Run p l e R s m args below meth c H locs cells slots mc ms (F0 m pc ls st0) rest (va_Qi post B A1 a) (vx_X px BX AX) free) (hS : va_S A0 H0 H locs) (hA : ∀ q, q < H.size → A1 q → A0 q) (hf : ∀ q, free q → A0 q) (hAX : ∀ q, q < H.size → AX q → A0 q)
    (kx : ∀ (E : String) (ce : Cell) (q9 : Addr) (u : SX) (t : State) (H1 : Heap) (locs1 : List Loc), t.heap = H1 → s.vm.Alike t.vm → px u → BX E u t → H.size ≤ H1.size → (∀ q : Nat, q < H.size → ¬ AX q → H1[q]? = H[q]?) → va_S A0 H0 H1 locs1 → H1[q9]? = some ce → ce.vm = .none → s.vm.findClass E = some ce.cls → vx_W p l e R s m args below meth c H1 locs1 (cells + mc) (slots + ms) Q (F0 m pc ls rest) q9)
    (kk : ∀ (r : Int32) (u : S) (t : State) (H1 : Heap) (locs1 : List Loc), t.heap = H1 → s.vm.Alike t.vm → post r u → B u t → H.size ≤ H1.size → (∀ q : Nat, q < H.size → ¬ A1 q → H1[q]? = H[q]?) → va_S A0 H0 H1 locs1 → W p l e R s m args below meth c H1 locs1 (cells + mc) (slots + ms) Q (F0 m (pc + 3) ls (.int r :: rest))) : W p l e R s m args below meth c H locs cells slots Q (F0 m pc ls st0) := by
  intro T hT X
  rcases hr T hT X with ⟨v, st₀, t, T', L, h0, X', hL, e1, e2, ⟨⟨r, u, hv, hp, hb⟩, hF⟩, st⟩ | ⟨q, st₀, t, T', L, E, ce, h0, X', hL, e1, e2, ⟨u, hp, hb, hF⟩, hce, hcv, hcl, st⟩
  · cases hv
    obtain ⟨k1, k2, k3⟩ := vx_keep h0 e1 hS hA hf hL hF
    obtain ⟨t2, a1, b1⟩ := kk r u t T'.heap (locs ++ L) e1.symm (by rw [← e2]; exact X'.warmed.alike) hp hb k1 k2 k3 T' rfl X'
    exact ⟨t2, st t2 a1, b1⟩
  · obtain ⟨k1, k2, k3⟩ := vx_keep h0 e1 hS hAX hf hL hF
    obtain ⟨t2, a1, b1⟩ := kx E ce q u t T'.heap (locs ++ L) e1.symm (by rw [← e2]; exact X'.warmed.alike) hp hb k1 k2 k3 (by rw [e1]; exact hce) hcv hcl T' rfl X'
    exact ⟨t2, st.trans a1, b1⟩
theorem vx_calll {S SX : Type} {post : Int64 → S → Prop} {px : SX → Prop} {B : S → State → Prop} {BX : String → SX → State → Prop} {AX : Nat → Prop} (hr : vx_Run p l e R s m args below meth c H locs cells slots mc ms (F0 m pc ls st0) rest (va_Ql post B A1 a) (vx_X px BX AX) free) (hS : va_S A0 H0 H locs) (hA : ∀ q, q < H.size → A1 q → A0 q) (hf : ∀ q, free q → A0 q) (hAX : ∀ q, q < H.size → AX q → A0 q)
    (kx : ∀ (E : String) (ce : Cell) (q9 : Addr) (u : SX) (t : State) (H1 : Heap) (locs1 : List Loc), t.heap = H1 → s.vm.Alike t.vm → px u → BX E u t → H.size ≤ H1.size → (∀ q : Nat, q < H.size → ¬ AX q → H1[q]? = H[q]?) → va_S A0 H0 H1 locs1 → H1[q9]? = some ce → ce.vm = .none → s.vm.findClass E = some ce.cls → vx_W p l e R s m args below meth c H1 locs1 (cells + mc) (slots + ms) Q (F0 m pc ls rest) q9)
    (kk : ∀ (r : Int64) (u : S) (t : State) (H1 : Heap) (locs1 : List Loc), t.heap = H1 → s.vm.Alike t.vm → post r u → B u t → H.size ≤ H1.size → (∀ q : Nat, q < H.size → ¬ A1 q → H1[q]? = H[q]?) → va_S A0 H0 H1 locs1 → W p l e R s m args below meth c H1 locs1 (cells + mc) (slots + ms) Q (F0 m (pc + 3) ls (.long r :: rest))) : W p l e R s m args below meth c H locs cells slots Q (F0 m pc ls st0) := by
  intro T hT X
  rcases hr T hT X with ⟨v, st₀, t, T', L, h0, X', hL, e1, e2, ⟨⟨r, u, hv, hp, hb⟩, hF⟩, st⟩ | ⟨q, st₀, t, T', L, E, ce, h0, X', hL, e1, e2, ⟨u, hp, hb, hF⟩, hce, hcv, hcl, st⟩
  · cases hv
    obtain ⟨k1, k2, k3⟩ := vx_keep h0 e1 hS hA hf hL hF
    obtain ⟨t2, a1, b1⟩ := kk r u t T'.heap (locs ++ L) e1.symm (by rw [← e2]; exact X'.warmed.alike) hp hb k1 k2 k3 T' rfl X'
    exact ⟨t2, st t2 a1, b1⟩
  · obtain ⟨k1, k2, k3⟩ := vx_keep h0 e1 hS hAX hf hL hF
    obtain ⟨t2, a1, b1⟩ := kx E ce q u t T'.heap (locs ++ L) e1.symm (by rw [← e2]; exact X'.warmed.alike) hp hb k1 k2 k3 (by rw [e1]; exact hce) hcv hcl T' rfl X'
    exact ⟨t2, st.trans a1, b1⟩
theorem vx_callf {S SX : Type} {post : UInt32 → S → Prop} {px : SX → Prop} {B : S → State → Prop} {BX : String → SX → State → Prop} {AX : Nat → Prop} (hr : vx_Run p l e R s m args below meth c H locs cells slots mc ms (F0 m pc ls st0) rest (va_Qf post B A1 a) (vx_X px BX AX) free) (hS : va_S A0 H0 H locs) (hA : ∀ q, q < H.size → A1 q → A0 q) (hf : ∀ q, free q → A0 q) (hAX : ∀ q, q < H.size → AX q → A0 q)
    (kx : ∀ (E : String) (ce : Cell) (q9 : Addr) (u : SX) (t : State) (H1 : Heap) (locs1 : List Loc), t.heap = H1 → s.vm.Alike t.vm → px u → BX E u t → H.size ≤ H1.size → (∀ q : Nat, q < H.size → ¬ AX q → H1[q]? = H[q]?) → va_S A0 H0 H1 locs1 → H1[q9]? = some ce → ce.vm = .none → s.vm.findClass E = some ce.cls → vx_W p l e R s m args below meth c H1 locs1 (cells + mc) (slots + ms) Q (F0 m pc ls rest) q9)
    (kk : ∀ (r : UInt32) (u : S) (t : State) (H1 : Heap) (locs1 : List Loc), t.heap = H1 → s.vm.Alike t.vm → post r u → B u t → H.size ≤ H1.size → (∀ q : Nat, q < H.size → ¬ A1 q → H1[q]? = H[q]?) → va_S A0 H0 H1 locs1 → W p l e R s m args below meth c H1 locs1 (cells + mc) (slots + ms) Q (F0 m (pc + 3) ls (.float r :: rest))) : W p l e R s m args below meth c H locs cells slots Q (F0 m pc ls st0) := by
  intro T hT X
  rcases hr T hT X with ⟨v, st₀, t, T', L, h0, X', hL, e1, e2, ⟨⟨r, u, hv, hp, hb⟩, hF⟩, st⟩ | ⟨q, st₀, t, T', L, E, ce, h0, X', hL, e1, e2, ⟨u, hp, hb, hF⟩, hce, hcv, hcl, st⟩
  · cases hv
    obtain ⟨k1, k2, k3⟩ := vx_keep h0 e1 hS hA hf hL hF
    obtain ⟨t2, a1, b1⟩ := kk r u t T'.heap (locs ++ L) e1.symm (by rw [← e2]; exact X'.warmed.alike) hp hb k1 k2 k3 T' rfl X'
    exact ⟨t2, st t2 a1, b1⟩
  · obtain ⟨k1, k2, k3⟩ := vx_keep h0 e1 hS hAX hf hL hF
    obtain ⟨t2, a1, b1⟩ := kx E ce q u t T'.heap (locs ++ L) e1.symm (by rw [← e2]; exact X'.warmed.alike) hp hb k1 k2 k3 (by rw [e1]; exact hce) hcv hcl T' rfl X'
    exact ⟨t2, st.trans a1, b1⟩
theorem vx_calld {S SX : Type} {post : UInt64 → S → Prop} {px : SX → Prop} {B : S → State → Prop} {BX : String → SX → State → Prop} {AX : Nat → Prop} (hr : vx_Run p l e R s m args below meth c H locs cells slots mc ms (F0 m pc ls st0) rest (va_Qd post B A1 a) (vx_X px BX AX) free) (hS : va_S A0 H0 H locs) (hA : ∀ q, q < H.size → A1 q → A0 q) (hf : ∀ q, free q → A0 q) (hAX : ∀ q, q < H.size → AX q → A0 q)
    (kx : ∀ (E : String) (ce : Cell) (q9 : Addr) (u : SX) (t : State) (H1 : Heap) (locs1 : List Loc), t.heap = H1 → s.vm.Alike t.vm → px u → BX E u t → H.size ≤ H1.size → (∀ q : Nat, q < H.size → ¬ AX q → H1[q]? = H[q]?) → va_S A0 H0 H1 locs1 → H1[q9]? = some ce → ce.vm = .none → s.vm.findClass E = some ce.cls → vx_W p l e R s m args below meth c H1 locs1 (cells + mc) (slots + ms) Q (F0 m pc ls rest) q9)
    (kk : ∀ (r : UInt64) (u : S) (t : State) (H1 : Heap) (locs1 : List Loc), t.heap = H1 → s.vm.Alike t.vm → post r u → B u t → H.size ≤ H1.size → (∀ q : Nat, q < H.size → ¬ A1 q → H1[q]? = H[q]?) → va_S A0 H0 H1 locs1 → W p l e R s m args below meth c H1 locs1 (cells + mc) (slots + ms) Q (F0 m (pc + 3) ls (.double r :: rest))) : W p l e R s m args below meth c H locs cells slots Q (F0 m pc ls st0) := by
  intro T hT X
  rcases hr T hT X with ⟨v, st₀, t, T', L, h0, X', hL, e1, e2, ⟨⟨r, u, hv, hp, hb⟩, hF⟩, st⟩ | ⟨q, st₀, t, T', L, E, ce, h0, X', hL, e1, e2, ⟨u, hp, hb, hF⟩, hce, hcv, hcl, st⟩
  · cases hv
    obtain ⟨k1, k2, k3⟩ := vx_keep h0 e1 hS hA hf hL hF
    obtain ⟨t2, a1, b1⟩ := kk r u t T'.heap (locs ++ L) e1.symm (by rw [← e2]; exact X'.warmed.alike) hp hb k1 k2 k3 T' rfl X'
    exact ⟨t2, st t2 a1, b1⟩
  · obtain ⟨k1, k2, k3⟩ := vx_keep h0 e1 hS hAX hf hL hF
    obtain ⟨t2, a1, b1⟩ := kx E ce q u t T'.heap (locs ++ L) e1.symm (by rw [← e2]; exact X'.warmed.alike) hp hb k1 k2 k3 (by rw [e1]; exact hce) hcv hcl T' rfl X'
    exact ⟨t2, st.trans a1, b1⟩
theorem vx_callv {S SX : Type} {post : S → Prop} {px : SX → Prop} {B : S → State → Prop} {BX : String → SX → State → Prop} {AX : Nat → Prop} (hr : vx_Run p l e R s m args below meth c H locs cells slots mc ms (F0 m pc ls st0) rest (va_Qv post B A1 a) (vx_X px BX AX) free) (hS : va_S A0 H0 H locs) (hA : ∀ q, q < H.size → A1 q → A0 q) (hf : ∀ q, free q → A0 q) (hAX : ∀ q, q < H.size → AX q → A0 q)
    (kx : ∀ (E : String) (ce : Cell) (q9 : Addr) (u : SX) (t : State) (H1 : Heap) (locs1 : List Loc), t.heap = H1 → s.vm.Alike t.vm → px u → BX E u t → H.size ≤ H1.size → (∀ q : Nat, q < H.size → ¬ AX q → H1[q]? = H[q]?) → va_S A0 H0 H1 locs1 → H1[q9]? = some ce → ce.vm = .none → s.vm.findClass E = some ce.cls → vx_W p l e R s m args below meth c H1 locs1 (cells + mc) (slots + ms) Q (F0 m pc ls rest) q9)
    (kk : ∀ (u : S) (t : State) (H1 : Heap) (locs1 : List Loc), t.heap = H1 → s.vm.Alike t.vm → post u → B u t → H.size ≤ H1.size → (∀ q : Nat, q < H.size → ¬ A1 q → H1[q]? = H[q]?) → va_S A0 H0 H1 locs1 → W p l e R s m args below meth c H1 locs1 (cells + mc) (slots + ms) Q (F0 m (pc + 3) ls (rest))) : W p l e R s m args below meth c H locs cells slots Q (F0 m pc ls st0) := by
  intro T hT X
  rcases hr T hT X with ⟨v, st₀, t, T', L, h0, X', hL, e1, e2, ⟨⟨u, hv, hp, hb⟩, hF⟩, st⟩ | ⟨q, st₀, t, T', L, E, ce, h0, X', hL, e1, e2, ⟨u, hp, hb, hF⟩, hce, hcv, hcl, st⟩
  · cases hv
    obtain ⟨k1, k2, k3⟩ := vx_keep h0 e1 hS hA hf hL hF
    obtain ⟨t2, a1, b1⟩ := kk u t T'.heap (locs ++ L) e1.symm (by rw [← e2]; exact X'.warmed.alike) hp hb k1 k2 k3 T' rfl X'
    exact ⟨t2, st t2 a1, b1⟩
  · obtain ⟨k1, k2, k3⟩ := vx_keep h0 e1 hS hAX hf hL hF
    obtain ⟨t2, a1, b1⟩ := kx E ce q u t T'.heap (locs ++ L) e1.symm (by rw [← e2]; exact X'.warmed.alike) hp hb k1 k2 k3 (by rw [e1]; exact hce) hcv hcl T' rfl X'
    exact ⟨t2, st.trans a1, b1⟩
/-- caught by the row x of this method's table; the rows ahead don't take it -/
theorem vx_catch {own name : String} {E : String} {ce : Cell} {q : Addr} (hown : s.vm.findClass own = some m.cls) (pre : List ExceptionTableEntry) (x : ExceptionTableEntry) (suf : List ExceptionTableEntry) (hsplit : c.exceptionTable.toList = pre ++ x :: suf)
    (hpass : ∀ z ∈ pre, covers z pc = false ∨ (z.catchType ≠ 0 ∧ ∃ nm : String, (Cond.classLink own z.catchType nm).before args s = true ∧ va_Nc E nm s)) (hx : covers x pc = true) (h0 : x.catchType ≠ 0)
    (hlink : (Cond.classLink own x.catchType name).before args s = true) (hcast : (Cond.castable E name).before args s = true) (hcell : H[q]? = some ce) (hv : ce.vm = .none) (hcl : s.vm.findClass E = some ce.cls)
    (kk : W p l e R s m args below meth c H locs cells slots Q (F0 m x.handlerPc ls [.ref q])) : vx_W p l e R s m args below meth c H locs cells slots Q (F0 m pc ls rest) q := by
  intro T hT X
  have hpl : e.platform.magicAccessors = ({} : Platform).magicAccessors := by rw [X.admits.platform]
  obtain ⟨c3, c4, hc3, hc4, hasg⟩ := Cond.castable_spec hcast
  cases Option.some.inj (hc3.symm.trans hcl)
  obtain ⟨c5, hc5, hcl5⟩ := Cond.classLink_spec hown hlink e.platform hpl
  cases Option.some.inj (hc4.symm.trans hc5)
  obtain ⟨vm', X', st⟩ := X.thenCaughtThrough q (g := F0 m pc ls rest) rfl (Steps.refl _) (by rw [hT]; exact hcell) (by rw [hv]; rfl) (by obtain ⟨k9, h9, -⟩ := Vm.findClass_spec hcl; exact ⟨k9, h9⟩) pre x suf hsplit
    (fun z hz => by
      rcases hpass z hz with h | ⟨hz0, nm, hl1, hn1⟩
      · exact Or.inl h
      · obtain ⟨c6, hc6, hcl6⟩ := Cond.classLink_spec hown hl1 e.platform hpl
        obtain ⟨a8, b8, h1, h2, h3⟩ := hn1
        cases Option.some.inj (h1.symm.trans hcl)
        cases Option.some.inj (h2.symm.trans hc6)
        exact Or.inr ⟨hz0, _, hcl6, h3⟩) hx (Or.inr ⟨h0, c4, hcl5, hasg⟩)
  obtain ⟨t, a1, b1⟩ := kk (T.setVm vm') hT X'
  exact ⟨t, st.trans a1, b1⟩
end Rows
section Ends
variable {p : Program} {l : Launch} {e : Env} {R : Room} {s : State} {m : MethodId} {args : Array Value} {below : List Frame} {meth : Method} {c : Code} {H : Heap} {locs : List Loc} {cells slots : Nat} {Q : State → Prop}
variable {mc ms : Nat} {free : Addr → Prop} {A0 A1 : Nat → Prop} {H0 : Heap} {a : Array Value} {ls : Array Slot} {st0 rest : List Value}
variable {Qc : Array Value → State → Outcome → State → Prop} {XC : String → State → State → Prop}
/-- what a body that may throw owes at its end -/
def vx_MQ (below : List Frame) (Qc : Array Value → State → Outcome → State → Prop) (XC : String → State → State → Prop) (a : Array Value) (s : State) (mc ms : Nat) (free : Addr → Prop) : State → Prop := fun t =>
  ∃ o, t.status = .running ∧ Ended t below o ∧ vx_Q Qc XC mc ms free a s o t
theorem vx_ret {g : JFrame} {mc ms : Nat} (k : W p l e R s m args below meth c H locs cells slots (MQ below Qc args s mc ms free) g) : W p l e R s m args below meth c H locs cells slots (vx_MQ below Qc XC args s mc ms free) g := by
  intro T hT X
  obtain ⟨t, a1, o, b1, b2, b3, b4⟩ := k T hT X
  exact ⟨t, a1, o, b1, b2, Or.inl ⟨b3, b4⟩⟩
/-- not caught here: it goes on to the caller -/
theorem vx_widen {g : JFrame} {q : Addr} {k n : Nat} (h1 : cells ≤ k) (h2 : slots ≤ n) (kk : vx_W p l e R s m args below meth c H locs k n Q g q) : vx_W p l e R s m args below meth c H locs cells slots Q g q := fun T hT X => kk T hT (stand_widen X h1 h2)
theorem vx_out {pc : Nat} {E : String} {ce : Cell} {q : Addr} {mc ms : Nat} (hout : ∀ x ∈ c.exceptionTable.toList, covers x pc = false) (hlocks : meth.locks = false) (hcell : H[q]? = some ce) (hv : ce.vm = .none) (hcl : s.vm.findClass E = some ce.cls)
    (hx : ∀ t : State, t.heap = H → s.vm.Alike t.vm → XC E s t) (hf : ∀ z ∈ locs, free z.base) (hc : cells ≤ mc) (hs : slots ≤ ms) :
    vx_W p l e R s m args below meth c H locs cells slots (vx_MQ below Qc XC args s mc ms free) (F0 m pc ls rest) q := by
  intro T hT X
  obtain ⟨st1, hrun, hend, hW, hsm⟩ := X.leaveThrown q (g := F0 m pc ls rest) rfl rfl rfl hout hlocks
  have hcell9 : (T.setFrames (.throwing q :: below)).heap[q]? = some ce := by
    show T.heap[q]? = some ce
    rw [hT]; exact hcell
  exact ⟨_, st1, .threw q, hrun, hend, Or.inr ⟨q, rfl, E, ce, locs, hx _ hT hW.alike, hcell9, hv, hcl, hW, hsm.mono hc hs, hf⟩⟩
theorem vx_frame {U : State} {k n : Nat} (h : s.sameButNew ({ U with vm := s.vm } : State) locs k n) : s.heap.size ≤ U.heap.size ∧ ∀ q : Nat, q < s.heap.size → (∀ z ∈ locs, z.base ≠ q) → U.heap[q]? = s.heap[q]? := by
  obtain ⟨-, h2, -, -, -, h6⟩ := h
  refine ⟨h2, fun q hq hz => ?_⟩
  obtain ⟨c9, e1, e2, e3, e4⟩ := h6 q _ (Array.getElem?_eq_getElem hq)
  have hs : c9.slots = (s.heap[q]).slots := Array.ext_getElem? fun i => e4 i fun hm => hz _ hm rfl
  have h9 : c9 = s.heap[q] := by
    rw [hs] at e2
    exact e2
  have e5 : U.heap[q]? = some c9 := e1
  rw [e5, h9, Array.getElem?_eq_getElem hq]
/-- the words of a throw but the four that speak of the heap -/
def vx_no (w : Cond) : Bool := decide (w ≠ .isRef (.static Bundle.tN "UNASSIGNED_STACK" Bundle.steD)) && decide (w ≠ .isRef (.static Bundle.tN "SUPPRESSED_SENTINEL" Bundle.listD)) && decide (w ≠ .laysStatic Bundle.tN "UNASSIGNED_STACK" Bundle.steD) && decide (w ≠ .laysStatic Bundle.tN "SUPPRESSED_SENTINEL" Bundle.listD)
def vx_at0 (own : String) (ic : Nat) (X : String) (names : List String) : List Cond := (Bundle.ownAtoms0 own ic X names).filter vx_no
def vx_atS (own : String) (ic : Nat) (X : String) (names : List String) : List Cond := (Bundle.ownAtoms own ic X names).filter vx_no
/-- a word that the tables alone decide, or a good one -/
def vx_ot (w : Cond) : Bool := w.onTables || goodWord w
theorem vx_ot_at {args a' : Array Value} {s U : State} {w : Cond} (hW : s.WarmedH U.vm) (hvm : s.vm = U.vm) (hg : vx_ot w = true) (h : w.before args s = true) : w.before a' U = true := by
  simp only [vx_ot, Bool.or_eq_true] at hg
  rcases hg with hg | hg
  · exact va_tabs hg hvm h
  · exact word_at hW (good_of_word hg) h
/-- a list's words: the good ones out of the method's own list, the others by premises of their own -/
theorem vx_hat {args : Array Value} {s : State} {L B : List Cond} (h1 : ∀ w ∈ L.filter goodWord, w.before args s = true) (h2 : ∀ w ∈ L.filter (fun w => !goodWord w), w ∈ B) (h3 : ∀ w ∈ B, w.before args s = true) : ∀ w ∈ L, w.before args s = true := by
  intro w hw
  by_cases g : goodWord w = true
  · exact h1 w (List.mem_filter.mpr ⟨hw, g⟩)
  · refine h3 w (h2 w (List.mem_filter.mpr ⟨hw, ?_⟩))
    show (!goodWord w) = true
    cases hgw : goodWord w
    · rfl
    · exact absurd hgw g
theorem vx_c {args : Array Value} {s : State} {w : Cond} {B : List Cond} (h : w.before args s = true) (t : ∀ w ∈ B, w.before args s = true) : ∀ w' ∈ w :: B, w'.before args s = true := fun w' h' => (List.mem_cons.mp h').elim (fun e => by rw [e]; exact h) (t w')
theorem vx_n {args : Array Value} {s : State} : ∀ w ∈ ([] : List Cond), w.before args s = true := fun _ h => nomatch h
theorem vx_own {args : Array Value} {s : State} {L : List Cond} (h1 : ∀ w ∈ L.filter vx_no, w.before args s = true)
    (hU : (Cond.isRef (.static Bundle.tN "UNASSIGNED_STACK" Bundle.steD)).before args s = true) (hN : (Cond.isRef (.static Bundle.tN "SUPPRESSED_SENTINEL" Bundle.listD)).before args s = true)
    (lU : (Cond.laysStatic Bundle.tN "UNASSIGNED_STACK" Bundle.steD).before args s = true) (lN : (Cond.laysStatic Bundle.tN "SUPPRESSED_SENTINEL" Bundle.listD).before args s = true) : ∀ w ∈ L, w.before args s = true := by
  intro w hw
  by_cases e1 : w = .isRef (.static Bundle.tN "UNASSIGNED_STACK" Bundle.steD)
  · rw [e1]; exact hU
  · by_cases e2 : w = .isRef (.static Bundle.tN "SUPPRESSED_SENTINEL" Bundle.listD)
    · rw [e2]; exact hN
    · by_cases e3 : w = .laysStatic Bundle.tN "UNASSIGNED_STACK" Bundle.steD
      · rw [e3]; exact lU
      · by_cases e4 : w = .laysStatic Bundle.tN "SUPPRESSED_SENTINEL" Bundle.listD
        · rw [e4]; exact lN
        · exact h1 w (List.mem_filter.mpr ⟨hw, by unfold vx_no; rw [decide_eq_true e1, decide_eq_true e2, decide_eq_true e3, decide_eq_true e4]; rfl⟩)
/-- where a static field lies, its class's statics cell in H -/
def vx_L (C n d : String) (A : Nat → Prop) (U : State) (H : Heap) : Prop := ∃ (c : ClassId) (k : Class) (i : Nat) (f : Field) (a : Nat) (cell : Cell), U.vm.findClass C = some c ∧ U.fieldFound? C n d = some (c, k, i, f) ∧ f.isStatic = true ∧ k.statics = some a ∧ H[a]? = some cell ∧ cell.vm.isStatics = true ∧ cell.cls = c ∧ f.slot < cell.slots.size ∧ k.staticTypes[f.slot]? = some f.type ∧ ¬ A a
theorem vx_L.moved {C n d : String} {A : Nat → Prop} {u U : State} {H : Heap} (hvm : u.vm.Alike U.vm) (h : vx_L C n d A u H) : vx_L C n d A U H := by
  obtain ⟨c, k, i, f, a, cell, h1, h2, h3, h4, h5, h6, h7, h8, h9, h10⟩ := h
  obtain ⟨k', hi', he⟩ := State.fieldFound?_setVm hvm h2
  exact ⟨c, k', i, f, a, cell, by rw [hvm.findClass]; exact h1, hi', h3, by rw [he]; exact h4, h5, h6, h7, h8, by rw [he]; exact h9, h10⟩
theorem vx_L.kept {C n d : String} {A : Nat → Prop} {U : State} {H H1 : Heap} (h : vx_L C n d A U H) (hq : ∀ a : Nat, a < H.size → ¬ A a → H1[a]? = H[a]?) : vx_L C n d A U H1 := by
  obtain ⟨c, k, i, f, a, cell, h1, h2, h3, h4, h5, h6, h7, h8, h9, h10⟩ := h
  exact ⟨c, k, i, f, a, cell, h1, h2, h3, h4, by rw [hq a (Array.getElem?_eq_some_iff.mp h5).1 h10]; exact h5, h6, h7, h8, h9, h10⟩
theorem vx_L.narrow {C n d : String} {A B : Nat → Prop} {U : State} {H : Heap} (h : vx_L C n d A U H) (hAB : ∀ q, B q → A q) : vx_L C n d B U H := by
  obtain ⟨c, k, i, f, a, cell, h1, h2, h3, h4, h5, h6, h7, h8, h9, h10⟩ := h
  exact ⟨c, k, i, f, a, cell, h1, h2, h3, h4, h5, h6, h7, h8, h9, fun z => h10 (hAB _ z)⟩
theorem vx_L.word {C n d : String} {A : Nat → Prop} {s : State} {args : Array Value} (h : vx_L C n d A s s.heap) : (Cond.laysStatic C n d).before args s = true := by
  obtain ⟨c, k, i, f, a, cell, h1, h2, h3, h4, h5, h6, h7, h8, h9, -⟩ := h
  show (Cond.laysStatic C n d).holds args s none s [] = true
  exact Cond.laysStatic_of h1 h2 h3 h4 h5 h6 h7 h8 h9
/-- .. and what it holds: null or some reference -/
def vx_Zq (C n d : String) (A : Nat → Prop) (U : State) (H : Heap) : Prop := va_Zq C n d A U H ∧ vx_L C n d A U H
theorem vx_Zq.moved {C n d : String} {A : Nat → Prop} {u U : State} {H : Heap} (hvm : u.vm.Alike U.vm) (h : vx_Zq C n d A u H) : vx_Zq C n d A U H := ⟨va_Zq.moved hvm h.1, vx_L.moved hvm h.2⟩
theorem vx_Zq.kept {C n d : String} {A : Nat → Prop} {U : State} {H H1 : Heap} (h : vx_Zq C n d A U H) (hq : ∀ a : Nat, a < H.size → ¬ A a → H1[a]? = H[a]?) : vx_Zq C n d A U H1 := ⟨va_Zq.kept h.1 hq, vx_L.kept h.2 hq⟩
theorem vx_Zq.narrow {C n d : String} {A B : Nat → Prop} {U : State} {H : Heap} (h : vx_Zq C n d A U H) (hAB : ∀ q, B q → A q) : vx_Zq C n d B U H := ⟨va_Zq.narrow h.1 hAB, vx_L.narrow h.2 hAB⟩
theorem vx_Zqof {args : Array Value} {s : State} {C n d : String} {A : Nat → Prop} (hl : (Cond.laysStatic C n d).before args s = true) (hini : (Cond.initialized C).before args s = true) (h : (Cond.isRef (.static C n d)).before args s = true) (hA : ∀ a : Nat, a < s.heap.size → ¬ A a) : vx_Zq C n d A s s.heap := by
  refine ⟨va_Zqof hl hini h hA, ?_⟩
  obtain ⟨c, k, i, f, a, cell, h1, h2, h3, h4, h5, h6, h7, h8, h9⟩ := Cond.laysStatic_spec hl
  exact ⟨c, k, i, f, a, cell, h1, h2, h3, h4, h5, h6, h7, h8, h9, hA a (Array.getElem?_eq_some_iff.mp h5).1⟩
theorem vx_isRef {C n d : String} {v : Value} {A : Nat → Prop} {s : State} {args : Array Value} (h : va_Z C n d v A s s.heap) (hv : v.isRef = true) : (Cond.isRef (.static C n d)).before args s = true := by
  obtain ⟨cf, kf, fi, f, a, cell, h1, h2, h3, h4, h5, h6, h7, -⟩ := h
  have he : (Term.static C n d).eval args s none [] s = some v := by
    simp [Term.eval, State.fieldNamed?, h1, h2, h4, h5, h6, h7]
  simp only [Cond.before, Cond.holds, Cond.value, he]
  cases v <;> simp_all [Value.isRef]
theorem vx_isRefq {C n d : String} {A : Nat → Prop} {s : State} {args : Array Value} (h : va_Zq C n d A s s.heap) : (Cond.isRef (.static C n d)).before args s = true := by
  rcases h with h | ⟨t, h⟩
  · exact vx_isRef h rfl
  · exact vx_isRef h rfl
/-- the same frame, seen from here: as if the method were called anew in this heap -/
theorem vx_rebase {T : State} (X : Stand p l e R s m args below meth c T locs cells slots) {R' : Room} (hf : R'.frames ≤ R.frames) (hl : R'.locals ≤ R.locals) (hc : cells + R'.cells ≤ R.cells) (hs : slots + R'.slots ≤ R.slots) :
    Stand p l e R' ((T.setVm s.vm).setFrames (.invoking m args :: below)) m args below meth c T [] 0 0 := by
  have htop : (T.setVm s.vm).topJava?.isSome := X.here.top
  have hF : ((T.setVm s.vm).setFrames (.invoking m args :: below)).frames = .invoking m args :: below := State.frames_setFrames _ (State.cur_lt_of_top htop)
  obtain ⟨g₀, hg0⟩ := Option.isSome_iff_exists.mp htop
  obtain ⟨r, hr⟩ := State.topJava?_eq_some.mp hg0
  have hl9 : e.platform.stackLimits (T.setVm s.vm).me = e.platform.stackLimits s.me := X.limits
  have hb9 : (T.setVm s.vm).me.stackBytes = s.me.stackBytes := X.bytes
  refine ⟨X.admits, X.cas, X.clock, hF, ?_, X.hears, X.method, X.code, X.here, X.tail, X.warmed, ?_, ?_, ?_⟩
  · have h := X.room
    have hU : ((T.setVm s.vm).setFrames (.invoking m args :: below)).localsInUse = s.localsInUse := by
      rw [State.localsInUse_invoking hF (meth := meth) (c := c) X.method X.code, State.localsInUse_invoking X.frames X.method X.code]
    simp only [State.hasRoom, Bool.and_eq_true, decide_eq_true_eq] at h ⊢
    obtain ⟨⟨⟨⟨h1, h2, h3, h4, h5, h6⟩, h7⟩, h8⟩, h9⟩ := h
    rw [X.frames, List.length_cons] at h2 h3
    have q1 := X.heapSize
    have q2 := X.used
    simp only [hF, hU, List.length_cons, State.stackLimits_setFrames, State.stackBytes_setFrames, hl9, hb9]
    refine ⟨⟨⟨⟨by omega, by omega, by omega, by omega, by omega, h6⟩, ?_⟩, ?_⟩, X.book⟩
    · show T.heap.size + R'.cells ≤ e.platform.maxCells
      omega
    · show T.slotsUsed + R'.slots ≤ e.platform.maxSlots
      omega
  · rw [State.stackLimits_setFrames]; rfl
  · rw [State.stackBytes_setFrames]; rfl
  · refine ⟨?_, Nat.le_refl _, Nat.le_refl _, ?_, ?_, fun a c9 h9 => ⟨c9, h9, rfl, rfl, fun _ _ => rfl⟩⟩
    · obtain ⟨t, ht, -⟩ := State.frames_cons hr
      show T.setVm s.vm = { ((T.setVm s.vm).setFrames (.invoking m args :: below)).setFrames (T.setVm s.vm).frames with heap := T.heap, slotsUsed := T.slotsUsed }
      rw [State.setFrames_setFrames, State.setFrames_self ht]
      rfl
    · show T.slotsUsed = T.slotsUsed + ((T.heap.toList.drop T.heap.size).map (·.slots.size)).sum
      rw [List.drop_eq_nil_of_le (Nat.le_of_eq Array.length_toList)]
      rfl
    · show ((T.heap.toList.drop T.heap.size).map (·.slots.size)).sum ≤ 0
      rw [List.drop_eq_nil_of_le (Nat.le_of_eq Array.length_toList)]
      exact Nat.le_refl _
/-- 'throw new E()': new; dup; invokespecial; athrow -/
theorem vx_throw0 {cc : ByteArray} {pc : Nat} (hexec : p.tables.exec = Jvm.exec) (hb : c.code = cc) (hl : l.stackTraces = false) {own cls : String} {names : List String} {ik ic mc ms : Nat} {A : Nat → Prop}
    (hown : s.vm.findClass own = some m.cls) (hcls : Bundle.fit cls = true) (hnames : ∀ n ∈ names, Bundle.fit n = true)
    (hk : (Cond.classLink own ik cls).before args s = true) (hini : (Cond.initialized cls).before args s = true) (hat : ∀ w ∈ vx_at0 own ic cls names, w.before args s = true)
    (hgood : ∀ w ∈ Cond.classLink own ik cls :: Cond.initialized cls :: vx_at0 own ic cls names, vx_ot w = true)
    (hU : vx_Zq Bundle.tN "UNASSIGNED_STACK" Bundle.steD A s s.heap) (hN : vx_Zq Bundle.tN "SUPPRESSED_SENTINEL" Bundle.listD A s s.heap) (hS : va_S A s.heap H locs) (hsize : ls.size = c.maxLocals)
    (d0 : decode cc pc = .ok (.new ik, 3)) (d3 : decode cc (pc + 3) = .ok (.dup, 1)) (d4 : decode cc (pc + 4) = .ok (.invokespecial ic, 3)) (d7 : decode cc (pc + 7) = .ok (.athrow, 1))
    (hout : ∀ x ∈ c.exceptionTable.toList, covers x (pc + 7) = false)
    (hRframes : names.length + 3 < R.frames) (hRlocals : (rest.map fun v => v.category).sum + (13 * (names.length + 1) + 42) ≤ R.locals) (hRcells : cells + 1 ≤ R.cells) (hRslots : slots + 6 ≤ R.slots) (hlocks : meth.locks = false)
    (hx : ∀ t : State, s.vm.Alike t.vm → H.size ≤ t.heap.size → (∀ q : Nat, q < H.size → t.heap[q]? = H[q]?) → XC cls s t)
    (hf : ∀ z ∈ locs, free z.base) (hc : cells + 1 ≤ mc) (hs : slots + 6 ≤ ms) :
    W p l e R s m args below meth c H locs cells slots (vx_MQ below Qc XC args s mc ms free) (F0 m pc ls rest) := by
  intro T hT X
  have htr : e.platform.stackTraces = false := (show e.platform.stackTraces = l.stackTraces by rw [X.admits.platform]).trans hl
  have Y := vx_rebase X (R' := { frames := R.frames, locals := R.locals, cells := 1, slots := 6 }) (Nat.le_refl _) (Nat.le_refl _) hRcells hRslots
  obtain ⟨s', hA⟩ : ∃ z, z = (T.setVm s.vm).setFrames (.invoking m args :: below) := ⟨_, rfl⟩
  rw [← hA] at Y
  have hvm : s'.vm = s.vm := by rw [hA]; rfl
  have hhp : s'.heap = H := by rw [hA]; exact hT
  have hW0 : s.WarmedH s'.vm := by rw [hvm]; exact State.WarmedH.refl s
  have hat' : ∀ w ∈ vx_at0 own ic cls names, w.before args s' = true := fun w hw => vx_ot_at hW0 hvm.symm (hgood w (List.mem_cons_of_mem _ (List.mem_cons_of_mem _ hw))) (hat w hw)
  have hk' : (Cond.classLink own ik cls).before args s' = true := vx_ot_at hW0 hvm.symm (hgood _ List.mem_cons_self) hk
  have hini' : (Cond.initialized cls).before args s' = true := vx_ot_at hW0 hvm.symm (hgood _ (List.mem_cons_of_mem _ List.mem_cons_self)) hini
  have hU' : vx_Zq Bundle.tN "UNASSIGNED_STACK" Bundle.steD A s' s'.heap := by rw [hhp]; exact vx_Zq.moved hW0.alike (hU.kept hS.2.1)
  have hN' : vx_Zq Bundle.tN "SUPPRESSED_SENTINEL" Bundle.listD A s' s'.heap := by rw [hhp]; exact vx_Zq.moved hW0.alike (hN.kept hS.2.1)
  have h : ∀ w ∈ Bundle.ownAtoms0 own ic cls names, w.before args s' = true := vx_own hat' (vx_isRefq hU'.1) (vx_isRefq hN'.1) hU'.2.word hN'.2.word
  have hown' : s'.vm.findClass own = some m.cls := by rw [hvm]; exact hown
  have hins : (Cond.instantiable cls 6).before args s' = true := h _ (by simp [Bundle.ownAtoms0])
  obtain ⟨vm₁, cX, kX, hfX, hkX, -, -, X₁, st1⟩ := Y.newCold hexec (own := own) (C := cls) (index := ik) (n := 6) hown' hk' hins hini'
    (g := F0 m pc ls rest) rfl (by rw [hb]; exact d0) (Nat.le_refl _) (Nat.le_refl _)
  generalize hT1 : (T.setVm vm₁).pushCell { cls := cX, slots := kX.instanceTypes.map defaultValue, vm := .none } = T1 at X₁ st1
  have hcat : (Value.ref T.heap.size).category = 1 := rfl
  have hcellA : T1.heap[T.heap.size]? = some (freshCell cX kX) := by rw [← hT1]; exact State.heap_pushCell_size _ _
  have d3' : decode c.code (pc + 3) = .ok (.dup, 1) := by rw [hb]; exact d3
  obtain ⟨U, hsteps, hrun, hend, hW, hsame, ce, hce, hO⟩ := X₁.ctorThrow0 hexec htr (own := own) (cls := cls) (names := names) (ic := ic) hown' hcls hnames h (fun x hx => nomatch hx) hfX hkX hcellA (by rw [hhp, hT]; exact Nat.le_refl _)
    (g := { method := m, pc := pc + 4, locals := ls, stack := .ref T.heap.size :: .ref T.heap.size :: rest, locked := none }) rfl hsize rfl rfl (rest := rest) rfl
    (by rw [hb]; exact d4) (by rw [hb]; exact d7) hout hRframes (by simp only [List.map_cons, List.sum_cons, hcat]; omega) hlocks
  obtain ⟨f1, f2⟩ := vx_frame hsame
  rw [hhp] at f1 f2
  have hWs : s.WarmedH U.vm := State.WarmedH.trans hW0 hW
  have hcl : s.vm.findClass cls = some ce.cls := by
    have h9 := hO.cls
    rw [hvm] at h9
    exact h9
  have hall : s.sameButNew ({ U with vm := s.vm } : State) locs mc ms := by
    subst hA
    obtain ⟨e1, e2⟩ := hsame
    rw [State.setFrames_setFrames] at e1
    have h2 : (T.setVm s.vm).sameButNew ({ U with vm := s.vm } : State) [] (0 + 1) (0 + 6) := ⟨e1, e2⟩
    have h3 := X.same.trans h2
    rw [List.append_nil] at h3
    exact h3.mono hc hs
  refine ⟨U, ?_, .threw T.heap.size, hrun, hend, Or.inr ⟨T.heap.size, rfl, cls, ce, locs, hx U hWs.alike f1 (fun q hq => f2 q hq (fun z hz => nomatch hz)), hce, hO.vm, hcl, hWs, hall, hf⟩⟩
  refine st1 _ ?_
  show Steps p.tables e below (T1.setTop { method := m, pc := pc + 3, locals := ls, stack := .ref T.heap.size :: rest, locked := none }) _
  jvm_step X₁.here [X₁.here.top, hexec, d3', Value.category]
  exact hsteps
/-- 'throw new E("text")': new; dup; ldc; invokespecial; athrow -/
theorem vx_throwS {cc : ByteArray} {pc : Nat} (hexec : p.tables.exec = Jvm.exec) (hb : c.code = cc) (hl : l.stackTraces = false) {own cls text : String} {names : List String} {ik is ic mc ms sa : Nat} {A : Nat → Prop}
    (hown : s.vm.findClass own = some m.cls) (hcls : Bundle.fit cls = true) (hnames : ∀ n ∈ names, Bundle.fit n = true)
    (hk : (Cond.classLink own ik cls).before args s = true) (hini : (Cond.initialized cls).before args s = true) (hstr : vk_R own is text sa s) (hat : ∀ w ∈ vx_atS own ic cls names, w.before args s = true)
    (hgood : ∀ w ∈ Cond.classLink own ik cls :: Cond.initialized cls :: vx_atS own ic cls names, vx_ot w = true)
    (hU : vx_Zq Bundle.tN "UNASSIGNED_STACK" Bundle.steD A s s.heap) (hN : vx_Zq Bundle.tN "SUPPRESSED_SENTINEL" Bundle.listD A s s.heap) (hS : va_S A s.heap H locs) (hsize : ls.size = c.maxLocals)
    (d0 : decode cc pc = .ok (.new ik, 3)) (d3 : decode cc (pc + 3) = .ok (.dup, 1)) (d4 : decode cc (pc + 4) = .ok (.ldc is, 2)) (d6 : decode cc (pc + 6) = .ok (.invokespecial ic, 3)) (d9 : decode cc (pc + 9) = .ok (.athrow, 1))
    (hout : ∀ x ∈ c.exceptionTable.toList, covers x (pc + 9) = false)
    (hRframes : names.length + 3 < R.frames) (hRlocals : (rest.map fun v => v.category).sum + (13 * (names.length + 1) + 43) ≤ R.locals) (hRcells : cells + 1 ≤ R.cells) (hRslots : slots + 6 ≤ R.slots) (hlocks : meth.locks = false)
    (hx : ∀ t : State, s.vm.Alike t.vm → H.size ≤ t.heap.size → (∀ q : Nat, q < H.size → t.heap[q]? = H[q]?) → XC cls s t)
    (hf : ∀ z ∈ locs, free z.base) (hc : cells + 1 ≤ mc) (hs : slots + 6 ≤ ms) :
    W p l e R s m args below meth c H locs cells slots (vx_MQ below Qc XC args s mc ms free) (F0 m pc ls rest) := by
  intro T hT X
  have htr : e.platform.stackTraces = false := (show e.platform.stackTraces = l.stackTraces by rw [X.admits.platform]).trans hl
  have Y := vx_rebase X (R' := { frames := R.frames, locals := R.locals, cells := 1, slots := 6 }) (Nat.le_refl _) (Nat.le_refl _) hRcells hRslots
  obtain ⟨s', hA⟩ : ∃ z, z = (T.setVm s.vm).setFrames (.invoking m args :: below) := ⟨_, rfl⟩
  rw [← hA] at Y
  have hvm : s'.vm = s.vm := by rw [hA]; rfl
  have hhp : s'.heap = H := by rw [hA]; exact hT
  have hW0 : s.WarmedH s'.vm := by rw [hvm]; exact State.WarmedH.refl s
  have hat' : ∀ w ∈ vx_atS own ic cls names, w.before args s' = true := fun w hw => vx_ot_at hW0 hvm.symm (hgood w (List.mem_cons_of_mem _ (List.mem_cons_of_mem _ hw))) (hat w hw)
  have hk' : (Cond.classLink own ik cls).before args s' = true := vx_ot_at hW0 hvm.symm (hgood _ List.mem_cons_self) hk
  have hini' : (Cond.initialized cls).before args s' = true := vx_ot_at hW0 hvm.symm (hgood _ (List.mem_cons_of_mem _ List.mem_cons_self)) hini
  have hU' : vx_Zq Bundle.tN "UNASSIGNED_STACK" Bundle.steD A s' s'.heap := by rw [hhp]; exact vx_Zq.moved hW0.alike (hU.kept hS.2.1)
  have hN' : vx_Zq Bundle.tN "SUPPRESSED_SENTINEL" Bundle.listD A s' s'.heap := by rw [hhp]; exact vx_Zq.moved hW0.alike (hN.kept hS.2.1)
  have h : ∀ w ∈ Bundle.ownAtoms own ic cls names, w.before args s' = true := vx_own hat' (vx_isRefq hU'.1) (vx_isRefq hN'.1) hU'.2.word hN'.2.word
  have hown' : s'.vm.findClass own = some m.cls := by rw [hvm]; exact hown
  have hins : (Cond.instantiable cls 6).before args s' = true := h _ (by simp [Bundle.ownAtoms])
  obtain ⟨vm₁, cX, kX, hfX, hkX, -, -, X₁, st1⟩ := Y.newCold hexec (own := own) (C := cls) (index := ik) (n := 6) hown' hk' hins hini'
    (g := F0 m pc ls rest) rfl (by rw [hb]; exact d0) (Nat.le_refl _) (Nat.le_refl _)
  generalize hT1 : (T.setVm vm₁).pushCell { cls := cX, slots := kX.instanceTypes.map defaultValue, vm := .none } = T1 at X₁ st1
  have hcat : (Value.ref T.heap.size).category = 1 := rfl
  have hcellA : T1.heap[T.heap.size]? = some (freshCell cX kX) := by rw [← hT1]; exact State.heap_pushCell_size _ _
  have d3' : decode c.code (pc + 3) = .ok (.dup, 1) := by rw [hb]; exact d3
  have d4' : decode c.code (pc + 4) = .ok (.ldc is, 2) := by rw [hb]; exact d4
  have hstr' : vk_R own is text sa s' := vk_R.warm hW0 hstr
  obtain ⟨U, hsteps, hrun, hend, hW, hsame, ce, hce, hO⟩ := X₁.ctorThrowS hexec htr (own := own) (cls := cls) (names := names) (ic := ic) hown' hcls hnames h (fun x hx => nomatch hx) hfX hkX hcellA (by rw [hhp, hT]; exact Nat.le_refl _) (msg := .ref sa) rfl
    (g := { method := m, pc := pc + 6, locals := ls, stack := .ref sa :: .ref T.heap.size :: .ref T.heap.size :: rest, locked := none }) rfl hsize rfl rfl (rest := rest) rfl
    (by rw [hb]; exact d6) (by rw [hb]; exact d9) hout hRframes (by simp only [List.map_cons, List.sum_cons, hcat]; omega) hlocks
  obtain ⟨f1, f2⟩ := vx_frame hsame
  rw [hhp] at f1 f2
  have hWs : s.WarmedH U.vm := State.WarmedH.trans hW0 hW
  have hcl : s.vm.findClass cls = some ce.cls := by
    have h9 := hO.cls
    rw [hvm] at h9
    exact h9
  have hall : s.sameButNew ({ U with vm := s.vm } : State) locs mc ms := by
    subst hA
    obtain ⟨e1, e2⟩ := hsame
    rw [State.setFrames_setFrames] at e1
    have h2 : (T.setVm s.vm).sameButNew ({ U with vm := s.vm } : State) [] (0 + 1) (0 + 6) := ⟨e1, e2⟩
    have h3 := X.same.trans h2
    rw [List.append_nil] at h3
    exact h3.mono hc hs
  refine ⟨U, ?_, .threw T.heap.size, hrun, hend, Or.inr ⟨T.heap.size, rfl, cls, ce, locs, hx U hWs.alike f1 (fun q hq => f2 q hq (fun z hz => nomatch hz)), hce, hO.vm, hcl, hWs, hall, hf⟩⟩
  refine st1 _ ?_
  show Steps p.tables e below (T1.setTop { method := m, pc := pc + 3, locals := ls, stack := .ref T.heap.size :: rest, locked := none }) _
  jvm_step X₁.here [X₁.here.top, hexec, d3', Value.category]
  exact X₁.ldcString hexec (own := own) (text := text) (index := is) (a := sa) hown' hstr'.1 hstr'.2
    (g := { method := m, pc := pc + 4, locals := ls, stack := .ref T.heap.size :: .ref T.heap.size :: rest, locked := none }) rfl d4' _ hsteps
/-- 'throw new E("text")', the text by a wide index -/
theorem vx_throwSW {cc : ByteArray} {pc : Nat} (hexec : p.tables.exec = Jvm.exec) (hb : c.code = cc) (hl : l.stackTraces = false) {own cls text : String} {names : List String} {ik is ic mc ms sa : Nat} {A : Nat → Prop}
    (hown : s.vm.findClass own = some m.cls) (hcls : Bundle.fit cls = true) (hnames : ∀ n ∈ names, Bundle.fit n = true)
    (hk : (Cond.classLink own ik cls).before args s = true) (hini : (Cond.initialized cls).before args s = true) (hstr : vk_R own is text sa s) (hat : ∀ w ∈ vx_atS own ic cls names, w.before args s = true)
    (hgood : ∀ w ∈ Cond.classLink own ik cls :: Cond.initialized cls :: vx_atS own ic cls names, vx_ot w = true)
    (hU : vx_Zq Bundle.tN "UNASSIGNED_STACK" Bundle.steD A s s.heap) (hN : vx_Zq Bundle.tN "SUPPRESSED_SENTINEL" Bundle.listD A s s.heap) (hS : va_S A s.heap H locs) (hsize : ls.size = c.maxLocals)
    (d0 : decode cc pc = .ok (.new ik, 3)) (d3 : decode cc (pc + 3) = .ok (.dup, 1)) (d4 : decode cc (pc + 4) = .ok (.ldc_w is, 3)) (d7 : decode cc (pc + 7) = .ok (.invokespecial ic, 3)) (d10 : decode cc (pc + 10) = .ok (.athrow, 1))
    (hout : ∀ x ∈ c.exceptionTable.toList, covers x (pc + 10) = false)
    (hRframes : names.length + 3 < R.frames) (hRlocals : (rest.map fun v => v.category).sum + (13 * (names.length + 1) + 43) ≤ R.locals) (hRcells : cells + 1 ≤ R.cells) (hRslots : slots + 6 ≤ R.slots) (hlocks : meth.locks = false)
    (hx : ∀ t : State, s.vm.Alike t.vm → H.size ≤ t.heap.size → (∀ q : Nat, q < H.size → t.heap[q]? = H[q]?) → XC cls s t)
    (hf : ∀ z ∈ locs, free z.base) (hc : cells + 1 ≤ mc) (hs : slots + 6 ≤ ms) :
    W p l e R s m args below meth c H locs cells slots (vx_MQ below Qc XC args s mc ms free) (F0 m pc ls rest) := by
  intro T hT X
  have htr : e.platform.stackTraces = false := (show e.platform.stackTraces = l.stackTraces by rw [X.admits.platform]).trans hl
  have Y := vx_rebase X (R' := { frames := R.frames, locals := R.locals, cells := 1, slots := 6 }) (Nat.le_refl _) (Nat.le_refl _) hRcells hRslots
  obtain ⟨s', hA⟩ : ∃ z, z = (T.setVm s.vm).setFrames (.invoking m args :: below) := ⟨_, rfl⟩
  rw [← hA] at Y
  have hvm : s'.vm = s.vm := by rw [hA]; rfl
  have hhp : s'.heap = H := by rw [hA]; exact hT
  have hW0 : s.WarmedH s'.vm := by rw [hvm]; exact State.WarmedH.refl s
  have hat' : ∀ w ∈ vx_atS own ic cls names, w.before args s' = true := fun w hw => vx_ot_at hW0 hvm.symm (hgood w (List.mem_cons_of_mem _ (List.mem_cons_of_mem _ hw))) (hat w hw)
  have hk' : (Cond.classLink own ik cls).before args s' = true := vx_ot_at hW0 hvm.symm (hgood _ List.mem_cons_self) hk
  have hini' : (Cond.initialized cls).before args s' = true := vx_ot_at hW0 hvm.symm (hgood _ (List.mem_cons_of_mem _ List.mem_cons_self)) hini
  have hU' : vx_Zq Bundle.tN "UNASSIGNED_STACK" Bundle.steD A s' s'.heap := by rw [hhp]; exact vx_Zq.moved hW0.alike (hU.kept hS.2.1)
  have hN' : vx_Zq Bundle.tN "SUPPRESSED_SENTINEL" Bundle.listD A s' s'.heap := by rw [hhp]; exact vx_Zq.moved hW0.alike (hN.kept hS.2.1)
  have h : ∀ w ∈ Bundle.ownAtoms own ic cls names, w.before args s' = true := vx_own hat' (vx_isRefq hU'.1) (vx_isRefq hN'.1) hU'.2.word hN'.2.word
  have hown' : s'.vm.findClass own = some m.cls := by rw [hvm]; exact hown
  have hins : (Cond.instantiable cls 6).before args s' = true := h _ (by simp [Bundle.ownAtoms])
  obtain ⟨vm₁, cX, kX, hfX, hkX, -, -, X₁, st1⟩ := Y.newCold hexec (own := own) (C := cls) (index := ik) (n := 6) hown' hk' hins hini'
    (g := F0 m pc ls rest) rfl (by rw [hb]; exact d0) (Nat.le_refl _) (Nat.le_refl _)
  generalize hT1 : (T.setVm vm₁).pushCell { cls := cX, slots := kX.instanceTypes.map defaultValue, vm := .none } = T1 at X₁ st1
  have hcat : (Value.ref T.heap.size).category = 1 := rfl
  have hcellA : T1.heap[T.heap.size]? = some (freshCell cX kX) := by rw [← hT1]; exact State.heap_pushCell_size _ _
  have d3' : decode c.code (pc + 3) = .ok (.dup, 1) := by rw [hb]; exact d3
  have d4' : decode c.code (pc + 4) = .ok (.ldc_w is, 3) := by rw [hb]; exact d4
  have hstr' : vk_R own is text sa s' := vk_R.warm hW0 hstr
  obtain ⟨U, hsteps, hrun, hend, hW, hsame, ce, hce, hO⟩ := X₁.ctorThrowS hexec htr (own := own) (cls := cls) (names := names) (ic := ic) hown' hcls hnames h (fun x hx => nomatch hx) hfX hkX hcellA (by rw [hhp, hT]; exact Nat.le_refl _) (msg := .ref sa) rfl
    (g := { method := m, pc := pc + 7, locals := ls, stack := .ref sa :: .ref T.heap.size :: .ref T.heap.size :: rest, locked := none }) rfl hsize rfl rfl (rest := rest) rfl
    (by rw [hb]; exact d7) (by rw [hb]; exact d10) hout hRframes (by simp only [List.map_cons, List.sum_cons, hcat]; omega) hlocks
  obtain ⟨f1, f2⟩ := vx_frame hsame
  rw [hhp] at f1 f2
  have hWs : s.WarmedH U.vm := State.WarmedH.trans hW0 hW
  have hcl : s.vm.findClass cls = some ce.cls := by
    have h9 := hO.cls
    rw [hvm] at h9
    exact h9
  have hall : s.sameButNew ({ U with vm := s.vm } : State) locs mc ms := by
    subst hA
    obtain ⟨e1, e2⟩ := hsame
    rw [State.setFrames_setFrames] at e1
    have h2 : (T.setVm s.vm).sameButNew ({ U with vm := s.vm } : State) [] (0 + 1) (0 + 6) := ⟨e1, e2⟩
    have h3 := X.same.trans h2
    rw [List.append_nil] at h3
    exact h3.mono hc hs
  refine ⟨U, ?_, .threw T.heap.size, hrun, hend, Or.inr ⟨T.heap.size, rfl, cls, ce, locs, hx U hWs.alike f1 (fun q hq => f2 q hq (fun z hz => nomatch hz)), hce, hO.vm, hcl, hWs, hall, hf⟩⟩
  refine st1 _ ?_
  show Steps p.tables e below (T1.setTop { method := m, pc := pc + 3, locals := ls, stack := .ref T.heap.size :: rest, locked := none }) _
  jvm_step X₁.here [X₁.here.top, hexec, d3', Value.category]
  exact X₁.ldcStringW hexec (own := own) (text := text) (index := is) (a := sa) hown' hstr'.1 hstr'.2
    (g := { method := m, pc := pc + 4, locals := ls, stack := .ref T.heap.size :: .ref T.heap.size :: rest, locked := none }) rfl d4' _ hsteps
end Ends
section Bodies
variable {l : Launch}
theorem vx_ofW {y : MethodName} {ws ws' : List Cond} {rm : Room} {Pc : Array Value → State → Prop} {Qc : Array Value → State → Outcome → State → Prop} {XC : String → State → State → Prop} {mc ms : Nat} {free : Addr → Prop} {cc : ByteArray} {maxL : Nat} {ret : Option FieldType}
    (hy : plainName y.cls = true) (hw : ws = Cond.code y cc maxL ret :: ws')
    (body : ∀ p e s m args below meth c s₁, BodyLoose p l y (headSpec ws rm) cc maxL ret e s m args below meth c s₁ → c.maxLocals = maxL → (∀ x ∈ c.exceptionTable.toList, False) → Pc args s →
      W p l e (headSpec ws rm).room s m args below meth c s.heap [] 0 0 (vx_MQ below Qc XC args s mc ms free) (entryFrame m args maxL)) : vx_Met l y ws rm Pc Qc XC mc ms free := by
  refine MetFree.of_bodyS (code := cc) (maxLocals := maxL) (ret := ret) hy ?_ ?_
  · intro args s m h hn
    obtain ⟨meth, c, h1, h2, h3, h4, h5, h6, -, -⟩ := Cond.code_spec hn (atoms_spec (ws := ws) h _ (by rw [hw]; exact List.mem_cons_self))
    exact ⟨meth, c, h1, h2, h3, h4, h5, h6⟩
  · intro p e s m args below meth c s₁ B hml hP _
    have hh0 : s₁.heap = s.heap := by rw [B.state]; rfl
    have ht : ∀ x ∈ c.exceptionTable.toList, False := by
      obtain ⟨meth9, c9, h1, h2, -, -, -, -, h7, -⟩ := Cond.code_spec B.named (atoms_spec (ws := ws) B.pre _ (by rw [hw]; exact List.mem_cons_self))
      cases Option.some.inj (h1.symm.trans B.method)
      cases Option.some.inj (h2.symm.trans (Stand.of_body B).code)
      intro x hx
      rw [Array.isEmpty_iff.mp h7] at hx
      cases hx
    obtain ⟨t, a1, o, b1, b2, b3⟩ := body p e s m args below meth c s₁ B hml ht hP s₁ hh0 (Stand.of_body B)
    exact ⟨t, o, a1, b1, b2, b3⟩
/-- the table of a body with handlers -/
theorem vx_table {p : Program} {x y : MethodName} {S : Spec} {cc bytes : ByteArray} {maxL maxL' : Nat} {ret ret' : Option FieldType} {e : Env} {s s₁ : State} {m : MethodId} {args : Array Value} {below : List Frame} {meth : Method} {c : Code} {hh : List (Nat × Nat × Nat × Nat)}
    (B : BodyLoose p l y S cc maxL ret e s m args below meth c s₁) (h : (Cond.codeWith y bytes maxL' ret' hh).before args s = true) : c.exceptionTable.toList = tableOf hh := by
  obtain ⟨m9, meth9, c9, hn9, h1, h2, -, -, h6, -⟩ := Cond.codeWith_spec h
  cases Option.some.inj (hn9.symm.trans B.named)
  cases Option.some.inj (h1.symm.trans B.method)
  cases Option.some.inj (h2.symm.trans (Stand.of_body B).code)
  rw [← h6, table_eq]
end Bodies
end VXA
/-! ===== END ===== -/
/-! ===== BEGIN a static call of a method with an exception table ===== -/
section VXS
variable {p : Program} {l : Launch} {e : Env} {R : Room} {s : State} {m : MethodId} {args : Array Value} {below : List Frame} {meth : Method} {c : Code} {T : State} {H : Heap} {locs : List Loc} {cells slots : Nat}
abbrev vx_CSW (R : Room) (s : State) (args : Array Value) (own : String) (index : Nat) (y : MethodName) (bytes : ByteArray) (maxL : Nat) (ret : Option FieldType) (hh : List (Nat × Nat × Nat × Nat)) (ws : List Cond) (rm : Room) (mc ms n : Nat) : Prop :=
  (rm.cells = mc ∧ rm.slots = ms ∧ rm.frames + 1 ≤ R.frames ∧ 8 + (maxL + 11) + rm.locals ≤ R.locals ∧ (∀ w ∈ ws, ∀ (a' : Array Value) (U : State), s.WarmedH U.vm → w.before a' U = true) ∧ Cond.codeWith y bytes maxL ret hh ∈ ws) ∧
  (Cond.codeWith y bytes maxL ret hh).before args s = true ∧ (Cond.initialized y.cls).before args s = true ∧ (y.cls ≠ "java/lang/invoke/MethodHandle" ∧ y.cls ≠ "java/lang/invoke/VarHandle") ∧
  (∀ sig, parseMethodDescriptor y.desc = some sig → n = sig.parameters.length) ∧ (Cond.methodLink own index y).before args s = true ∧ (Cond.static y).before args s = true
theorem vx_cwSW {own : String} {index maxL mc ms : Nat} {y : MethodName} {bytes : ByteArray} {ret : Option FieldType} {hh : List (Nat × Nat × Nat × Nat)} {Ts ws ws' : List Cond} {rm : Room} (n : Nat) (ht : ∀ w ∈ Ts, w.before args s = true) (hT : GoodIn Ts (va_wsS own index y ws)) (hw : ws = Cond.codeWith y bytes maxL ret hh :: ws') (hrc : rm.cells = mc) (hrs : rm.slots = ms)
    (hd : y.cls ≠ "java/lang/invoke/MethodHandle" ∧ y.cls ≠ "java/lang/invoke/VarHandle" ∧ (parseMethodDescriptor y.desc).map (fun d => d.parameters.length) = some n) (hR : rm.frames + 1 ≤ R.frames ∧ 8 + (maxL + 11) + rm.locals ≤ R.locals) :
    vx_CSW R s args own index y bytes maxL ret hh ws rm mc ms n := by
  have ok : ∀ w ∈ va_wsS own index y ws, w.before args s = true := fun w h => ht w (hT w h).1
  have hG : GoodIn Ts ws := fun w h => hT w (by unfold va_wsS; exact List.mem_append_right _ h)
  have hc : Cond.codeWith y bytes maxL ret hh ∈ ws := by rw [hw]; exact List.mem_cons_self
  refine ⟨⟨hrc, hrs, hR.1, hR.2, pay_in ht hG, hc⟩, ht _ (hG _ hc).1, ok _ (by simp [va_wsS]), ⟨hd.1, hd.2.1⟩, fun sig h => ?_, ok _ (by simp [va_wsS]), ok _ (by simp [va_wsS])⟩
  have h2 := hd.2.2
  rw [h] at h2
  exact (Option.some.inj h2).symm
theorem vx_callSW (X : Stand p l e R s m args below meth c T locs cells slots) (hexec : p.tables.exec = Jvm.exec) {own : String} {index : Nat} {y : MethodName} {bytes : ByteArray} {maxL : Nat} {ret : Option FieldType} {hh : List (Nat × Nat × Nat × Nat)}
    (hown : s.vm.findClass own = some m.cls) (hlink : (Cond.methodLink own index y).before args s = true) (hstat : (Cond.static y).before args s = true) (hinit : (Cond.initialized y.cls).before args s = true)
    (hcode : (Cond.codeWith y bytes maxL ret hh).before args s = true) (hy : y.cls ≠ "java/lang/invoke/MethodHandle" ∧ y.cls ≠ "java/lang/invoke/VarHandle")
    {W9 : Nat} {Pre : Pt → Array Value → Prop} {Post : Pt → Array Value → Option Value → Pt → Prop} (hK : Back l R p e below s args y 3 W9 Pre Post)
    {g : JFrame} (hg : g.method = m) (hsize : g.locals.size = c.maxLocals) {argsL rest : List Value} (hlen : ∀ sig, parseMethodDescriptor y.desc = some sig → argsL.length = sig.parameters.length)
    (hstack : g.stack = argsL.reverse ++ rest) (hW : 2 * g.monitorRoom + (rest.map fun v => v.category).sum ≤ W9) (hdg : decode c.code g.pc = .ok (.invokestatic index, 3))
    (hpre : ∀ vm₁, s.WarmedH vm₁ → Pre ⟨T.setVm vm₁, locs, cells, slots⟩ argsL.toArray) :
    ∃ (v : Option Value) (vm₁ : Vm) (B : Pt), s.WarmedH vm₁ ∧ Stand p l e R s m args below meth c B.U B.locs B.cells B.slots ∧ Post ⟨T.setVm vm₁, locs, cells, slots⟩ argsL.toArray v B ∧
      ∀ target, Steps p.tables e below (B.U.setTop { g with pc := g.pc + 3, stack := v.toList ++ rest }) target → Steps p.tables e below (T.setTop g) target := by
  obtain ⟨mk, methM, cM, hnamed, hmethM, -, -, -, -, -, -, hsigM⟩ := Cond.codeWith_spec hcode
  have hstatic : methM.isStatic = true := Cond.static_spec hnamed hmethM hstat
  obtain ⟨kP, hkP, -⟩ := className_of_methodNamed hnamed
  have hinitP : kP.init = .initialized := Cond.initialized_spec (findClass_of_methodNamed hnamed) hkP hinit
  obtain ⟨vm₁, X₁, hstep₁⟩ := X.invokestatic hexec hown hlink hnamed hmethM hstatic hkP hinitP hy (g := g) hg (argsL := argsL) (rest := rest) (hlen _ hsigM) hstack hdg
  obtain ⟨v, B, X', hpost, hsteps⟩ := hK m meth c ⟨T.setVm vm₁, locs, cells, slots⟩ { g with stack := rest } (.invokestatic index) mk argsL.toArray X₁ hg hsize hdg hW (X₁.named hnamed) (hpre vm₁ X₁.warmed)
  exact ⟨v, vm₁, B, X₁.warmed, X', hpost, fun target h => hstep₁ _ fun acts => by rw [doInvoke_state]; exact hsteps.trans h⟩
theorem vx_runSW {y : MethodName} {bytes cc : ByteArray} {maxL nL mc ms n index : Nat} {ret : Option FieldType} {hh : List (Nat × Nat × Nat × Nat)} {ws : List Cond} {rm : Room} {Pc : Array Value → State → Prop} {Qc : Array Value → State → Outcome → State → Prop} {free : Addr → Prop} {Ts : List Cond} {own : String} {As rest : List Value} {g : JFrame}
    (S : CallFix p m c cc nL s args Ts own) (hM : Met l y ws rm Pc Qc mc ms free) (cw : vx_CSW R s args own index y bytes maxL ret hh ws rm mc ms n) (hp : PreS s H Pc As)
    (hg : g.method = m) (hn : As.length = n) (hsize : g.locals.size = nL) (hstack : g.stack = As.reverse ++ rest) (hW : 2 * g.monitorRoom + (rest.map fun v => v.category).sum ≤ 8) (hdg : decode cc g.pc = .ok (.invokestatic index, 3)) (hf : cells + mc ≤ R.cells ∧ slots + ms ≤ R.slots) :
    va_Run p l e R s m args below meth c H locs cells slots mc ms g rest (Qc As.toArray) (free) := by
  obtain ⟨⟨hrc, hrs, hfr, hlo, hws, hcw⟩, hcode, hini, hy, hlen, hl, hstt⟩ := cw
  have hK : Back l R p e below s args y 3 8 (PreOf R mc ms Pc) (PostOf Qc mc ms free) := va_backW (hh := hh) (bytes := bytes) (maxL := maxL) (ret := ret) hM hp.1 hrc hrs hfr hlo hws hcw (fun a' U hW => word_at hW (Or.inl (by first | rfl | simp [Cond.onTables, Cond.keeps, Cond.steady])) hini)
  obtain ⟨hx, hb, hml, ho, -⟩ := S
  intro T hT X
  obtain ⟨v, vm₁, ⟨U', l2, c2, s2⟩, hW₁, X', ⟨g', mk, t, L, e1, e2, hq, h1, hL, h2, h3⟩, st⟩ := vx_callSW X hx (hh := hh) (bytes := bytes) (maxL := maxL) (ret := ret) ho hl hstt hini hcode hy hK hg (hsize.trans hml.symm) (argsL := As) (rest := rest) (fun sig h => hn.trans (hlen sig h)) hstack hW (by rw [hb]; exact hdg)
    (fun vm₁ hW₁ => ⟨hf.1, hf.2, hp.2 (T.setVm vm₁) hT hW₁⟩)
  dsimp only [Pt.U, Pt.locs, Pt.cells, Pt.slots] at X' e1 e2 h1 h2 h3 st
  subst h1; subst h2; subst h3
  exact ⟨v, (T.setVm vm₁).calling g' mk As.toArray, t, U', L, hT, X', hL, e1, e2, hq, st⟩
/-- not caught here, past rows that name other classes: it goes on to the caller -/
theorem vx_outP {p : Program} {l : Launch} {e : Env} {R : Room} {s : State} {m : MethodId} {args : Array Value} {below : List Frame} {meth : Method} {c : Code} {H : Heap} {locs : List Loc} {cells slots : Nat} {free : Addr → Prop} {ls : Array Slot} {rest : List Value} {Qc : Array Value → State → Outcome → State → Prop} {XC : String → State → State → Prop}
    {pc : Nat} {own E : String} {ce : Cell} {q : Addr} {mc ms : Nat} (hown : s.vm.findClass own = some m.cls) (hlocks : meth.locks = false)
    (hpass : ∀ z ∈ c.exceptionTable.toList, covers z pc = false ∨ (z.catchType ≠ 0 ∧ ∃ nm : String, (Cond.classLink own z.catchType nm).before args s = true ∧ va_Nc E nm s)) (hcell : H[q]? = some ce) (hv : ce.vm = .none) (hcl : s.vm.findClass E = some ce.cls)
    (hx : ∀ t : State, t.heap = H → s.vm.Alike t.vm → XC E s t) (hf : ∀ z ∈ locs, free z.base) (hc : cells ≤ mc) (hs : slots ≤ ms) :
    vx_W p l e R s m args below meth c H locs cells slots (vx_MQ below Qc XC args s mc ms free) (F0 m pc ls rest) q := by
  intro T hT X
  have hpl : e.platform.magicAccessors = ({} : Platform).magicAccessors := by rw [X.admits.platform]
  obtain ⟨vm', hW', X', st⟩ := X.outThrough hlocks q (g := F0 m pc ls rest) rfl rfl rfl (cell := ce) (by rw [hT]; exact hcell) (by rw [hv]; rfl)
    (by obtain ⟨k9, h9, -⟩ := Vm.findClass_spec hcl; exact ⟨k9, h9⟩) (fun z hz => by
      rcases hpass z hz with h | ⟨hz0, nm, hl1, hn1⟩
      · exact Or.inl h
      · obtain ⟨c6, hc6, hcl6⟩ := Cond.classLink_spec hown hl1 e.platform hpl
        obtain ⟨a8, b8, h1, h2, h3⟩ := hn1
        cases Option.some.inj (h1.symm.trans hcl)
        cases Option.some.inj (h2.symm.trans hc6)
        exact Or.inr ⟨hz0, _, hcl6, h3⟩)
  obtain ⟨g₀, hfr⟩ := X'.frames_eq
  have hcell9 : ((T.setVm vm').setFrames (.throwing q :: below)).heap[q]? = some ce := by
    show T.heap[q]? = some ce
    rw [hT]; exact hcell
  have hend : Ended ((T.setVm vm').setFrames (.throwing q :: below)) below (.threw q) := State.frames_setFrames _ (State.cur_lt_of_frames hfr)
  refine ⟨(T.setVm vm').setFrames (.throwing q :: below), ?_, .threw q, X'.here.running, hend, Or.inr ⟨q, rfl, E, ce, locs, hx _ hT (X'.ends _).1.alike, hcell9, hv, hcl, (X'.ends _).1, (X'.ends _).2.mono hc hs, hf⟩⟩
  rw [X.pushThrowing_eq]
  exact st
/-- a thing of a world lies in the heap -/
theorem vx_lt {D : va_G} {cl : List vw_C} {ws : va_W} {H1 : Heap} (h : va_P D cl ws H1) {k : Nat} {q : Nat × va_E} (hk : ws[k]? = some q) : q.1 < H1.size := (h k q hk).lt
end VXS
/-! ===== END ===== -/
/-! ===== BEGIN methods with a table of their own: called by a name, returning or throwing ===== -/
section VXH
/-! vx_backW, vx_callVX, vx_callSX, vx_callVW, vx_runVW, vx_runVX, vx_runSX, vx_ofWH follow the same proofs as their sisters above (Free/Laws.lean, Shelf42/LK1.lean); vx_outP calls Shelf42/NT130.lean (outThrough). -/
section
variable {l : Launch} {R : Room} {p : Program} {e : Env} {below : List Frame} {s : State} {sargs : Array Value} {y : MethodName} {len W9 : Nat}
theorem vx_backW {ws : List Cond} {rm : Room} {Pc : Array Value → State → Prop} {Qc : Array Value → State → Outcome → State → Prop} {XC : String → State → State → Prop} {mc ms : Nat} {free : Addr → Prop} {bytes : ByteArray} {maxL : Nat} {ret : Option FieldType} {hh : List (Nat × Nat × Nat × Nat)}
    (hM : vx_Met l y ws rm Pc Qc XC mc ms free) (hblind : FrameBlind Pc) (hrc : rm.cells = mc) (hrs : rm.slots = ms)
    (hframes : rm.frames + 1 ≤ R.frames) (hlocals : W9 + (maxL + 11) + rm.locals ≤ R.locals)
    (hws : ∀ w ∈ ws, ∀ a' U, s.WarmedH U.vm → w.before a' U = true) (hcode : Cond.codeWith y bytes maxL ret hh ∈ ws) (hinit : ∀ a' U, s.WarmedH U.vm → (Cond.initialized y.cls).before a' U = true) :
    vx_Back l R p e below s sargs y len W9 (PreOf R mc ms Pc) (PostOf Qc mc ms free) (vx_Post XC mc ms free) := by
  intro m meth c A g ig mk a X hg hsize hdg hW hn hp
  have h1 : (headSpec ws rm).pre.before a A.U = true := atoms_intro fun w hw => hws w hw _ _ X.warmed
  have h2 : (Cond.codeWith y bytes maxL ret hh).before a A.U = true := hws _ hcode _ _ X.warmed
  have h3 : (Cond.initialized y.cls).before a A.U = true := hinit _ _ X.warmed
  have h4 : A.cells + (headSpec ws rm).room.cells ≤ R.cells := by rw [show (headSpec ws rm).room.cells = mc from hrc]; exact hp.1
  have h5 : A.slots + (headSpec ws rm).room.slots ≤ R.slots := by rw [show (headSpec ws rm).room.slots = ms from hrs]; exact hp.2.1
  have hPc : Pc a (A.U.calling g mk a) := hblind _ _ _ _ hp.2.2
  obtain ⟨U, Ls, c0, s0⟩ := A
  dsimp only [Pt.U, Pt.locs, Pt.cells, Pt.slots] at h1 h2 h3 h4 h5 X hn hPc ⊢
  obtain ⟨m9, methY, cY, hn9, hmY, hcY, -, hlY, -⟩ := Cond.codeWith_spec h2
  cases Option.some.inj (hn9.symm.trans hn)
  obtain ⟨kY, hkY, -⟩ := className_of_methodNamed hn
  have hinitY : kY.init = .initialized := Cond.initialized_spec (findClass_of_methodNamed hn) hkY h3
  have h : At U g.method c below := by rw [hg]; exact X.here
  have hlocals9 : W9 + (maxL + 11) + (headSpec ws rm).room.locals ≤ R.locals := hlocals
  have happ : (headSpec ws rm).appliesLoose y e.platform (U.calling g mk a) = true :=
    Spec.appliesLoose_calling (g := g) h hdg hn hkY hinitY
      (X.room_calling (g := g) (R' := (headSpec ws rm).room) hsize hmY hcY hframes (by rw [hlY]; omega) h4 h5) h1
  obtain ⟨mid, hmid⟩ := h.above
  have hfr : (U.setTop g).frames = (.java g :: mid) ++ below := by rw [State.frames_setTop' g h.top, hmid]; rfl
  obtain ⟨o, s₂, hsteps, -, hend, hq⟩ := Steps.callFree hM p X.admits X.cas X.clock (acts := []) hfr happ hPc trivial
  have hq' : vx_Q Qc XC mc ms free a (U.calling g mk a) o s₂ := hq
  rw [State.frames_setTop' g h.top] at hend
  obtain ⟨g₀, hg0⟩ := Option.isSome_iff_exists.mp h.top
  obtain ⟨r, hr⟩ := State.topJava?_eq_some.mp hg0
  have hr' : (({ U with heap := s₂.heap, slotsUsed := s₂.slotsUsed } : State).setVm s₂.vm).frames = .java g₀ :: r := hr
  rcases hq' with ⟨hqc, L, hfe, hL⟩ | ⟨q, rfl, E, ce, L, hx, hce, hcv, hcl, hW₂, hsm, hL⟩
  · obtain ⟨⟨v, rfl⟩, hW₂, e2, q2, q3, q4, q5, q6⟩ := id hfe
    have e3 : s₂ = ({ (U.calling g mk a).setFrames s₂.frames with heap := s₂.heap, slotsUsed := s₂.slotsUsed } : State).setVm s₂.vm := by
      have : s₂ = ({ s₂ with vm := (U.calling g mk a).vm } : State).setVm s₂.vm := rfl
      rw [e2] at this
      exact this
    obtain ⟨c₂, i₂, len₂, hc₂, hd₂, hf₂⟩ := hend
    have hW' : U.WarmedH s₂.vm := hW₂
    have hcc : c₂ = c := by
      have h1 : s₂.code? g.method = U.code? g.method := by
        rw [State.code?_eq, State.code?_eq, hW'.alike.method?]
      exact Option.some.inj (hc₂.symm.trans (h1.trans h.code))
    subst hcc
    have hlen : len₂ = len := by rw [hdg] at hd₂; cases hd₂; rfl
    subst hlen
    have hs₂ : s₂ = (({ U with heap := s₂.heap, slotsUsed := s₂.slotsUsed } : State).setVm s₂.vm).setTop { g with pc := g.pc + len₂, stack := v.toList ++ g.stack } := by
      refine e3.trans ?_
      rw [hf₂, State.calling_eq h.top, State.setFrames_setFrames, State.setTop_of_frames _ hr', hr]
      rfl
    have hsame : U.sameButNew ({ U with heap := s₂.heap, slotsUsed := s₂.slotsUsed } : State) L mc ms := by
      refine ⟨?_, q2, q3, q4, q5, q6⟩
      obtain ⟨t, ht, -⟩ := State.frames_cons hr
      show ({ U with heap := s₂.heap, slotsUsed := s₂.slotsUsed } : State) = { U.setFrames U.frames with heap := s₂.heap, slotsUsed := s₂.slotsUsed }
      rw [State.setFrames_self ht]
    subst hg
    refine Or.inl ⟨v, ⟨(({ U with heap := s₂.heap, slotsUsed := s₂.slotsUsed } : State).setVm s₂.vm), Ls ++ L, c0 + mc, s0 + ms⟩,
      ⟨X.admits, X.cas, X.clock, X.frames, X.room, X.hears, X.method, X.code, (X.here.setHeapUsed s₂.heap s₂.slotsUsed).setVm hW'.alike, X.tail, State.WarmedH.trans X.warmed hW', X.limits, X.bytes, X.same.trans (hsame.setVm s.vm)⟩,
      ⟨g, mk, s₂, L, rfl, rfl, hqc, rfl, hL, rfl, rfl⟩, ?_⟩
    show Steps p.tables e below _ ((({ U with heap := s₂.heap, slotsUsed := s₂.slotsUsed } : State).setVm s₂.vm).setTop { g with pc := g.pc + len₂, stack := v.toList ++ g.stack })
    rw [← hs₂]
    exact hsteps
  · obtain ⟨e2, q2, q3, q4, q5, q6⟩ := id hsm
    have e3 : s₂ = ({ (U.calling g mk a).setFrames s₂.frames with heap := s₂.heap, slotsUsed := s₂.slotsUsed } : State).setVm s₂.vm := by
      have : s₂ = ({ s₂ with vm := (U.calling g mk a).vm } : State).setVm s₂.vm := rfl
      rw [e2] at this
      exact this
    have hf₂ : s₂.frames = .throwing q :: .java g :: U.frames.tail := hend
    have hW' : U.WarmedH s₂.vm := hW₂
    have hs₂ : s₂ = ((({ U with heap := s₂.heap, slotsUsed := s₂.slotsUsed } : State).setVm s₂.vm).setTop g).pushFrame (.throwing q) := by
      refine e3.trans ?_
      rw [hf₂, State.calling_eq h.top, State.setFrames_setFrames, State.pushFrame, State.frames_setTop _ hr', State.setTop_of_frames _ hr', State.setFrames_setFrames, hr]
      rfl
    have hsame : U.sameButNew ({ U with heap := s₂.heap, slotsUsed := s₂.slotsUsed } : State) L mc ms := by
      refine ⟨?_, q2, q3, q4, q5, q6⟩
      obtain ⟨t, ht, -⟩ := State.frames_cons hr
      show ({ U with heap := s₂.heap, slotsUsed := s₂.slotsUsed } : State) = { U.setFrames U.frames with heap := s₂.heap, slotsUsed := s₂.slotsUsed }
      rw [State.setFrames_self ht]
    subst hg
    refine Or.inr ⟨q, ⟨(({ U with heap := s₂.heap, slotsUsed := s₂.slotsUsed } : State).setVm s₂.vm), Ls ++ L, c0 + mc, s0 + ms⟩,
      ⟨X.admits, X.cas, X.clock, X.frames, X.room, X.hears, X.method, X.code, (X.here.setHeapUsed s₂.heap s₂.slotsUsed).setVm hW'.alike, X.tail, State.WarmedH.trans X.warmed hW', X.limits, X.bytes, X.same.trans (hsame.setVm s.vm)⟩,
      ⟨g, mk, s₂, L, E, ce, rfl, rfl, hx, hce, hcv, hcl, rfl, hL, rfl, rfl⟩, ?_⟩
    show Steps p.tables e below _ (((({ U with heap := s₂.heap, slotsUsed := s₂.slotsUsed } : State).setVm s₂.vm).setTop g).pushFrame (.throwing q))
    rw [← hs₂]
    exact hsteps
end
variable {p : Program} {l : Launch} {e : Env} {R : Room} {s : State} {m : MethodId} {args : Array Value} {below : List Frame} {meth : Method} {c : Code} {T : State} {H : Heap} {locs : List Loc} {cells slots : Nat}
theorem vx_callVX (X : Stand p l e R s m args below meth c T locs cells slots) (hexec : p.tables.exec = Jvm.exec) {own C : String} {index : Nat} {y : MethodName} {bytes : ByteArray} {maxL : Nat} {ret : Option FieldType} {hh : List (Nat × Nat × Nat × Nat)}
    (hown : s.vm.findClass own = some m.cls) (hlink : (Cond.methodLink own index y).before args s = true) (hinst : (Cond.instanceMethod y).before args s = true) (hsel : (Cond.selects C y y).before args s = true)
    (hcode : (Cond.codeWith y bytes maxL ret hh).before args s = true) (hy : y.cls ≠ "java/lang/invoke/MethodHandle" ∧ y.cls ≠ "java/lang/invoke/VarHandle")
    {W9 : Nat} {Pre : Pt → Array Value → Prop} {Post : Pt → Array Value → Option Value → Pt → Prop} {PostX : Pt → Array Value → Addr → Pt → Prop} (hK : vx_Back l R p e below s args y 3 W9 Pre Post PostX)
    {b : Addr} {cellB : Cell} (hcell : T.heap[b]? = some cellB) (hobj : cellB.vm.isStatics = false) (hcls : s.vm.findClass C = some cellB.cls)
    {g : JFrame} (hg : g.method = m) (hsize : g.locals.size = c.maxLocals) {argsL rest : List Value} (hlen : ∀ sig, parseMethodDescriptor y.desc = some sig → argsL.length = sig.parameters.length)
    (hstack : g.stack = argsL.reverse ++ .ref b :: rest) (hW : 2 * g.monitorRoom + (rest.map fun v => v.category).sum ≤ W9) (hdg : decode c.code g.pc = .ok (.invokevirtual index, 3))
    (hpre : ∀ vm₁, s.WarmedH vm₁ → Pre ⟨T.setVm vm₁, locs, cells, slots⟩ (Value.ref b :: argsL).toArray) :
    (∃ (v : Option Value) (vm₁ : Vm) (B : Pt), s.WarmedH vm₁ ∧ Stand p l e R s m args below meth c B.U B.locs B.cells B.slots ∧ Post ⟨T.setVm vm₁, locs, cells, slots⟩ (Value.ref b :: argsL).toArray v B ∧
      ∀ target, Steps p.tables e below (B.U.setTop { g with pc := g.pc + 3, stack := v.toList ++ rest }) target → Steps p.tables e below (T.setTop g) target) ∨
    (∃ (q : Addr) (vm₁ : Vm) (B : Pt), s.WarmedH vm₁ ∧ Stand p l e R s m args below meth c B.U B.locs B.cells B.slots ∧ PostX ⟨T.setVm vm₁, locs, cells, slots⟩ (Value.ref b :: argsL).toArray q B ∧
      Steps p.tables e below (T.setTop g) ((B.U.setTop { g with stack := rest }).pushFrame (.throwing q))) := by
  obtain ⟨mk, methM, hnamed, hmethM, hstM, habM⟩ := Cond.instanceMethod_spec hinst
  obtain ⟨m8, methM', cM, hn8, hmethM', -, -, -, -, -, -, hsigM⟩ := Cond.codeWith_spec hcode
  cases Option.some.inj (hn8.symm.trans hnamed)
  cases hmethM.symm.trans hmethM'
  obtain ⟨c2, r2, m2, q1, q2, q3, q4, kP, hkP, hkPi⟩ := Cond.selects_spec hsel
  cases hcls.symm.trans q1
  cases (State.methodFound?_of_named hnamed hy).symm.trans q2
  cases hnamed.symm.trans q3
  have hselP : selectMethod e.platform s.vm cellB.cls mk = .method mk := by rw [Launch.admits_selectMethod X.admits]; exact q4
  obtain ⟨vm₁, X₁, hstep₁⟩ := X.invokevirtual hexec hown hlink hnamed hmethM hstM hkP hkPi hy (a := b) (cell := cellB) hcell
    (fun z h => by rw [h] at hobj; cases hobj) hselP hmethM habM hkP hkPi (g := g) hg (argsL := argsL) (rest := rest) (hlen _ hsigM) hstack hdg
  rcases hK m meth c ⟨T.setVm vm₁, locs, cells, slots⟩ { g with stack := rest } (.invokevirtual index) mk (Value.ref b :: argsL).toArray X₁ hg hsize hdg hW (X₁.named hnamed) (hpre vm₁ X₁.warmed) with ⟨v, B, X', hpost, hsteps⟩ | ⟨q, B, X', hpost, hsteps⟩
  · exact Or.inl ⟨v, vm₁, B, X₁.warmed, X', hpost, fun target h => hstep₁ _ fun acts => by rw [doInvoke_state]; exact hsteps.trans h⟩
  · exact Or.inr ⟨q, vm₁, B, X₁.warmed, X', hpost, hstep₁ _ fun acts => by rw [doInvoke_state]; exact hsteps⟩
theorem vx_callSX (X : Stand p l e R s m args below meth c T locs cells slots) (hexec : p.tables.exec = Jvm.exec) {own : String} {index : Nat} {y : MethodName} {bytes : ByteArray} {maxL : Nat} {ret : Option FieldType} {hh : List (Nat × Nat × Nat × Nat)}
    (hown : s.vm.findClass own = some m.cls) (hlink : (Cond.methodLink own index y).before args s = true) (hstat : (Cond.static y).before args s = true) (hinit : (Cond.initialized y.cls).before args s = true)
    (hcode : (Cond.codeWith y bytes maxL ret hh).before args s = true) (hy : y.cls ≠ "java/lang/invoke/MethodHandle" ∧ y.cls ≠ "java/lang/invoke/VarHandle")
    {W9 : Nat} {Pre : Pt → Array Value → Prop} {Post : Pt → Array Value → Option Value → Pt → Prop} {PostX : Pt → Array Value → Addr → Pt → Prop} (hK : vx_Back l R p e below s args y 3 W9 Pre Post PostX)
    {g : JFrame} (hg : g.method = m) (hsize : g.locals.size = c.maxLocals) {argsL rest : List Value} (hlen : ∀ sig, parseMethodDescriptor y.desc = some sig → argsL.length = sig.parameters.length)
    (hstack : g.stack = argsL.reverse ++ rest) (hW : 2 * g.monitorRoom + (rest.map fun v => v.category).sum ≤ W9) (hdg : decode c.code g.pc = .ok (.invokestatic index, 3))
    (hpre : ∀ vm₁, s.WarmedH vm₁ → Pre ⟨T.setVm vm₁, locs, cells, slots⟩ argsL.toArray) :
    (∃ (v : Option Value) (vm₁ : Vm) (B : Pt), s.WarmedH vm₁ ∧ Stand p l e R s m args below meth c B.U B.locs B.cells B.slots ∧ Post ⟨T.setVm vm₁, locs, cells, slots⟩ argsL.toArray v B ∧
      ∀ target, Steps p.tables e below (B.U.setTop { g with pc := g.pc + 3, stack := v.toList ++ rest }) target → Steps p.tables e below (T.setTop g) target) ∨
    (∃ (q : Addr) (vm₁ : Vm) (B : Pt), s.WarmedH vm₁ ∧ Stand p l e R s m args below meth c B.U B.locs B.cells B.slots ∧ PostX ⟨T.setVm vm₁, locs, cells, slots⟩ argsL.toArray q B ∧
      Steps p.tables e below (T.setTop g) ((B.U.setTop { g with stack := rest }).pushFrame (.throwing q))) := by
  obtain ⟨mk, methM, cM, hnamed, hmethM, -, -, -, -, -, -, hsigM⟩ := Cond.codeWith_spec hcode
  have hstatic : methM.isStatic = true := Cond.static_spec hnamed hmethM hstat
  obtain ⟨kP, hkP, -⟩ := className_of_methodNamed hnamed
  have hinitP : kP.init = .initialized := Cond.initialized_spec (findClass_of_methodNamed hnamed) hkP hinit
  obtain ⟨vm₁, X₁, hstep₁⟩ := X.invokestatic hexec hown hlink hnamed hmethM hstatic hkP hinitP hy (g := g) hg (argsL := argsL) (rest := rest) (hlen _ hsigM) hstack hdg
  rcases hK m meth c ⟨T.setVm vm₁, locs, cells, slots⟩ { g with stack := rest } (.invokestatic index) mk argsL.toArray X₁ hg hsize hdg hW (X₁.named hnamed) (hpre vm₁ X₁.warmed) with ⟨v, B, X', hpost, hsteps⟩ | ⟨q, B, X', hpost, hsteps⟩
  · exact Or.inl ⟨v, vm₁, B, X₁.warmed, X', hpost, fun target h => hstep₁ _ fun acts => by rw [doInvoke_state]; exact hsteps.trans h⟩
  · exact Or.inr ⟨q, vm₁, B, X₁.warmed, X', hpost, hstep₁ _ fun acts => by rw [doInvoke_state]; exact hsteps⟩
theorem vx_callVW (X : Stand p l e R s m args below meth c T locs cells slots) (hexec : p.tables.exec = Jvm.exec) {own C : String} {index : Nat} {y : MethodName} {bytes : ByteArray} {maxL : Nat} {ret : Option FieldType} {hh : List (Nat × Nat × Nat × Nat)}
    (hown : s.vm.findClass own = some m.cls) (hlink : (Cond.methodLink own index y).before args s = true) (hinst : (Cond.instanceMethod y).before args s = true) (hsel : (Cond.selects C y y).before args s = true)
    (hcode : (Cond.codeWith y bytes maxL ret hh).before args s = true) (hy : y.cls ≠ "java/lang/invoke/MethodHandle" ∧ y.cls ≠ "java/lang/invoke/VarHandle")
    {W9 : Nat} {Pre : Pt → Array Value → Prop} {Post : Pt → Array Value → Option Value → Pt → Prop} (hK : Back l R p e below s args y 3 W9 Pre Post)
    {b : Addr} {cellB : Cell} (hcell : T.heap[b]? = some cellB) (hobj : cellB.vm.isStatics = false) (hcls : s.vm.findClass C = some cellB.cls)
    {g : JFrame} (hg : g.method = m) (hsize : g.locals.size = c.maxLocals) {argsL rest : List Value} (hlen : ∀ sig, parseMethodDescriptor y.desc = some sig → argsL.length = sig.parameters.length)
    (hstack : g.stack = argsL.reverse ++ .ref b :: rest) (hW : 2 * g.monitorRoom + (rest.map fun v => v.category).sum ≤ W9) (hdg : decode c.code g.pc = .ok (.invokevirtual index, 3))
    (hpre : ∀ vm₁, s.WarmedH vm₁ → Pre ⟨T.setVm vm₁, locs, cells, slots⟩ (Value.ref b :: argsL).toArray) :
    ∃ (v : Option Value) (vm₁ : Vm) (B : Pt), s.WarmedH vm₁ ∧ Stand p l e R s m args below meth c B.U B.locs B.cells B.slots ∧ Post ⟨T.setVm vm₁, locs, cells, slots⟩ (Value.ref b :: argsL).toArray v B ∧
      ∀ target, Steps p.tables e below (B.U.setTop { g with pc := g.pc + 3, stack := v.toList ++ rest }) target → Steps p.tables e below (T.setTop g) target := by
  obtain ⟨mk, methM, hnamed, hmethM, hstM, habM⟩ := Cond.instanceMethod_spec hinst
  obtain ⟨m8, methM', cM, hn8, hmethM', -, -, -, -, -, -, hsigM⟩ := Cond.codeWith_spec hcode
  cases Option.some.inj (hn8.symm.trans hnamed)
  cases hmethM.symm.trans hmethM'
  obtain ⟨c2, r2, m2, q1, q2, q3, q4, kP, hkP, hkPi⟩ := Cond.selects_spec hsel
  cases hcls.symm.trans q1
  cases (State.methodFound?_of_named hnamed hy).symm.trans q2
  cases hnamed.symm.trans q3
  have hselP : selectMethod e.platform s.vm cellB.cls mk = .method mk := by rw [Launch.admits_selectMethod X.admits]; exact q4
  obtain ⟨vm₁, X₁, hstep₁⟩ := X.invokevirtual hexec hown hlink hnamed hmethM hstM hkP hkPi hy (a := b) (cell := cellB) hcell
    (fun z h => by rw [h] at hobj; cases hobj) hselP hmethM habM hkP hkPi (g := g) hg (argsL := argsL) (rest := rest) (hlen _ hsigM) hstack hdg
  obtain ⟨v, B, X', hpost, hsteps⟩ := hK m meth c ⟨T.setVm vm₁, locs, cells, slots⟩ { g with stack := rest } (.invokevirtual index) mk (Value.ref b :: argsL).toArray X₁ hg hsize hdg hW (X₁.named hnamed) (hpre vm₁ X₁.warmed)
  exact ⟨v, vm₁, B, X₁.warmed, X', hpost, fun target h => hstep₁ _ fun acts => by rw [doInvoke_state]; exact hsteps.trans h⟩
abbrev vx_CVW (R : Room) (s : State) (args : Array Value) (own C : String) (index : Nat) (y : MethodName) (bytes : ByteArray) (maxL : Nat) (ret : Option FieldType) (hh : List (Nat × Nat × Nat × Nat)) (ws : List Cond) (rm : Room) (mc ms n : Nat) : Prop :=
  (rm.cells = mc ∧ rm.slots = ms ∧ rm.frames + 1 ≤ R.frames ∧ 8 + (maxL + 11) + rm.locals ≤ R.locals ∧ (∀ w ∈ ws, ∀ (a' : Array Value) (U : State), s.WarmedH U.vm → w.before a' U = true) ∧ Cond.codeWith y bytes maxL ret hh ∈ ws) ∧
  (Cond.codeWith y bytes maxL ret hh).before args s = true ∧ (Cond.initialized y.cls).before args s = true ∧ (y.cls ≠ "java/lang/invoke/MethodHandle" ∧ y.cls ≠ "java/lang/invoke/VarHandle") ∧
  (∀ sig, parseMethodDescriptor y.desc = some sig → n = sig.parameters.length) ∧ (Cond.methodLink own index y).before args s = true ∧ (Cond.instanceMethod y).before args s = true ∧ (Cond.selects C y y).before args s = true
theorem vx_cwVW {own C : String} {index maxL mc ms : Nat} {y : MethodName} {bytes : ByteArray} {ret : Option FieldType} {hh : List (Nat × Nat × Nat × Nat)} {Ts ws ws' : List Cond} {rm : Room} (n : Nat) (ht : ∀ w ∈ Ts, w.before args s = true) (hT : GoodIn Ts (wsV own index C y ws)) (hw : ws = Cond.codeWith y bytes maxL ret hh :: ws') (hrc : rm.cells = mc) (hrs : rm.slots = ms)
    (hd : y.cls = C ∧ y.cls ≠ "java/lang/invoke/MethodHandle" ∧ y.cls ≠ "java/lang/invoke/VarHandle" ∧ (parseMethodDescriptor y.desc).map (fun d => d.parameters.length) = some n) (hR : rm.frames + 1 ≤ R.frames ∧ 8 + (maxL + 11) + rm.locals ≤ R.locals) :
    vx_CVW R s args own C index y bytes maxL ret hh ws rm mc ms n := by
  obtain ⟨hC, hd⟩ := hd
  subst hC
  have ok : ∀ w ∈ wsV own index y.cls y ws, w.before args s = true := fun w h => ht w (hT w h).1
  have hG : GoodIn Ts ws := fun w h => hT w (by unfold wsV; exact List.mem_append_right _ h)
  have hc : Cond.codeWith y bytes maxL ret hh ∈ ws := by rw [hw]; exact List.mem_cons_self
  refine ⟨⟨hrc, hrs, hR.1, hR.2, pay_in ht hG, hc⟩, ht _ (hG _ hc).1, ok _ (by simp [wsV]), ⟨hd.1, hd.2.1⟩, fun sig h => ?_, ok _ (by simp [wsV]), ok _ (by simp [wsV]), ok _ (by simp [wsV])⟩
  have h2 := hd.2.2
  rw [h] at h2
  exact (Option.some.inj h2).symm
theorem vx_runVW {y : MethodName} {bytes cc : ByteArray} {maxL nL mc ms n index : Nat} {ret : Option FieldType} {hh : List (Nat × Nat × Nat × Nat)} {ws : List Cond} {rm : Room} {Pc : Array Value → State → Prop} {Qc : Array Value → State → Outcome → State → Prop} {free : Addr → Prop} {Ts : List Cond} {own C : String} {b : Addr} {As rest : List Value} {g : JFrame}
    (S : CallFix p m c cc nL s args Ts own) (hM : Met l y ws rm Pc Qc mc ms free) (cw : vx_CVW R s args own C index y bytes maxL ret hh ws rm mc ms n) (hp : PreV s H C b Pc As)
    (hg : g.method = m) (hn : As.length = n) (hsize : g.locals.size = nL) (hstack : g.stack = As.reverse ++ .ref b :: rest) (hW : 2 * g.monitorRoom + (rest.map fun v => v.category).sum ≤ 8) (hdg : decode cc g.pc = .ok (.invokevirtual index, 3)) (hf : cells + mc ≤ R.cells ∧ slots + ms ≤ R.slots) :
    va_Run p l e R s m args below meth c H locs cells slots mc ms g rest (Qc (Value.ref b :: As).toArray) free := by
  obtain ⟨⟨hrc, hrs, hfr, hlo, hws, hcw⟩, hcode, hini, hy, hlen, hl, hin, hse⟩ := cw
  have hK : Back l R p e below s args y 3 8 (PreOf R mc ms Pc) (PostOf Qc mc ms free) := va_backW (hh := hh) (bytes := bytes) (maxL := maxL) (ret := ret) hM hp.1 hrc hrs hfr hlo hws hcw (fun a' U hW => word_at hW (Or.inl (by first | rfl | simp [Cond.onTables, Cond.keeps, Cond.steady])) hini)
  obtain ⟨hx, hb, hml, ho, -⟩ := S
  obtain ⟨-, ⟨cellB, hcB, hoB, hclB⟩, hPc⟩ := hp
  intro T hT X
  obtain ⟨v, vm₁, ⟨U', l2, c2, s2⟩, hW₁, X', ⟨g', mk, t, L, e1, e2, hq, h1, hL, h2, h3⟩, st⟩ := vx_callVW X hx (C := C) (hh := hh) (bytes := bytes) (maxL := maxL) (ret := ret) ho hl hin hse hcode hy hK (by rw [hT]; exact hcB) hoB hclB hg (hsize.trans hml.symm) (argsL := As) (rest := rest) (fun sig h => hn.trans (hlen sig h)) hstack hW (by rw [hb]; exact hdg)
    (fun vm₁ hW₁ => ⟨hf.1, hf.2, hPc (T.setVm vm₁) hT hW₁⟩)
  dsimp only [Pt.U, Pt.locs, Pt.cells, Pt.slots] at X' e1 e2 h1 h2 h3 st
  subst h1; subst h2; subst h3
  exact ⟨v, (T.setVm vm₁).calling g' mk (Value.ref b :: As).toArray, t, U', L, hT, X', hL, e1, e2, hq, st⟩
section
variable {y : MethodName} {bytes cc : ByteArray} {maxL nL mc ms n index : Nat} {ret : Option FieldType} {ws : List Cond} {rm : Room} {Pc : Array Value → State → Prop} {Qc : Array Value → State → Outcome → State → Prop} {XC : String → State → State → Prop} {free : Addr → Prop} {Ts : List Cond} {own C : String} {b : Addr} {As rest : List Value} {g : JFrame}
theorem vx_runVX {hh : List (Nat × Nat × Nat × Nat)} (S : CallFix p m c cc nL s args Ts own) (hM : vx_Met l y ws rm Pc Qc XC mc ms free) (cw : vx_CVW R s args own C index y bytes maxL ret hh ws rm mc ms n) (hp : PreV s H C b Pc As)
    (hg : g.method = m) (hn : As.length = n) (hsize : g.locals.size = nL) (hstack : g.stack = As.reverse ++ .ref b :: rest) (hW : 2 * g.monitorRoom + (rest.map fun v => v.category).sum ≤ 8) (hdg : decode cc g.pc = .ok (.invokevirtual index, 3)) (hf : cells + mc ≤ R.cells ∧ slots + ms ≤ R.slots) :
    vx_Run p l e R s m args below meth c H locs cells slots mc ms g rest (Qc (Value.ref b :: As).toArray) XC free := by
  obtain ⟨⟨hrc, hrs, hfr, hlo, hws, hcw⟩, hcode, hini, hy, hlen, hl, hin, hse⟩ := cw
  have hK : vx_Back l R p e below s args y 3 8 (PreOf R mc ms Pc) (PostOf Qc mc ms free) (vx_Post XC mc ms free) := vx_backW (hh := hh) (bytes := bytes) (maxL := maxL) (ret := ret) hM hp.1 hrc hrs hfr hlo hws hcw (fun a' U hW => word_at hW (Or.inl (by first | rfl | simp [Cond.onTables, Cond.keeps, Cond.steady])) hini)
  obtain ⟨hx, hb, hml, ho, -⟩ := S
  obtain ⟨-, ⟨cellB, hcB, hoB, hclB⟩, hPc⟩ := hp
  intro T hT X
  rcases vx_callVX X hx (C := C) (hh := hh) (bytes := bytes) (maxL := maxL) (ret := ret) ho hl hin hse hcode hy hK (by rw [hT]; exact hcB) hoB hclB hg (hsize.trans hml.symm) (argsL := As) (rest := rest) (fun sig h => hn.trans (hlen sig h)) hstack hW (by rw [hb]; exact hdg)
    (fun vm₁ hW₁ => ⟨hf.1, hf.2, hPc (T.setVm vm₁) hT hW₁⟩) with ⟨v, vm₁, ⟨U', l2, c2, s2⟩, hW₁, X', ⟨g', mk, t, L, e1, e2, hq, h1, hL, h2, h3⟩, st⟩ | ⟨q, vm₁, ⟨U', l2, c2, s2⟩, hW₁, X', ⟨g', mk, t, L, E, ce, e1, e2, hq, hce, hcv, hcl, h1, hL, h2, h3⟩, st⟩
  · dsimp only [Pt.U, Pt.locs, Pt.cells, Pt.slots] at X' e1 e2 h1 h2 h3 st
    subst h1; subst h2; subst h3
    exact Or.inl ⟨v, (T.setVm vm₁).calling g' mk (Value.ref b :: As).toArray, t, U', L, hT, X', hL, e1, e2, hq, st⟩
  · dsimp only [Pt.U, Pt.locs, Pt.cells, Pt.slots] at X' e1 e2 h1 h2 h3 st hcl
    subst h1; subst h2; subst h3
    exact Or.inr ⟨q, (T.setVm vm₁).calling g' mk (Value.ref b :: As).toArray, t, U', L, E, ce, hT, X', hL, e1, e2, hq, hce, hcv, vx_cls hW₁ hcl, st⟩
theorem vx_runSX {hh : List (Nat × Nat × Nat × Nat)} (S : CallFix p m c cc nL s args Ts own) (hM : vx_Met l y ws rm Pc Qc XC mc ms free) (cw : vx_CSW R s args own index y bytes maxL ret hh ws rm mc ms n) (hp : PreS s H Pc As)
    (hg : g.method = m) (hn : As.length = n) (hsize : g.locals.size = nL) (hstack : g.stack = As.reverse ++ rest) (hW : 2 * g.monitorRoom + (rest.map fun v => v.category).sum ≤ 8) (hdg : decode cc g.pc = .ok (.invokestatic index, 3)) (hf : cells + mc ≤ R.cells ∧ slots + ms ≤ R.slots) :
    vx_Run p l e R s m args below meth c H locs cells slots mc ms g rest (Qc As.toArray) XC free := by
  obtain ⟨⟨hrc, hrs, hfr, hlo, hws, hcw⟩, hcode, hini, hy, hlen, hl, hstt⟩ := cw
  have hK : vx_Back l R p e below s args y 3 8 (PreOf R mc ms Pc) (PostOf Qc mc ms free) (vx_Post XC mc ms free) := vx_backW (hh := hh) (bytes := bytes) (maxL := maxL) (ret := ret) hM hp.1 hrc hrs hfr hlo hws hcw (fun a' U hW => word_at hW (Or.inl (by first | rfl | simp [Cond.onTables, Cond.keeps, Cond.steady])) hini)
  obtain ⟨hx, hb, hml, ho, -⟩ := S
  intro T hT X
  rcases vx_callSX X hx (hh := hh) (bytes := bytes) (maxL := maxL) (ret := ret) ho hl hstt hini hcode hy hK hg (hsize.trans hml.symm) (argsL := As) (rest := rest) (fun sig h => hn.trans (hlen sig h)) hstack hW (by rw [hb]; exact hdg)
    (fun vm₁ hW₁ => ⟨hf.1, hf.2, hp.2 (T.setVm vm₁) hT hW₁⟩) with ⟨v, vm₁, ⟨U', l2, c2, s2⟩, hW₁, X', ⟨g', mk, t, L, e1, e2, hq, h1, hL, h2, h3⟩, st⟩ | ⟨q, vm₁, ⟨U', l2, c2, s2⟩, hW₁, X', ⟨g', mk, t, L, E, ce, e1, e2, hq, hce, hcv, hcl, h1, hL, h2, h3⟩, st⟩
  · dsimp only [Pt.U, Pt.locs, Pt.cells, Pt.slots] at X' e1 e2 h1 h2 h3 st
    subst h1; subst h2; subst h3
    exact Or.inl ⟨v, (T.setVm vm₁).calling g' mk As.toArray, t, U', L, hT, X', hL, e1, e2, hq, st⟩
  · dsimp only [Pt.U, Pt.locs, Pt.cells, Pt.slots] at X' e1 e2 h1 h2 h3 st hcl
    subst h1; subst h2; subst h3
    exact Or.inr ⟨q, (T.setVm vm₁).calling g' mk As.toArray, t, U', L, E, ce, hT, X', hL, e1, e2, hq, hce, hcv, vx_cls hW₁ hcl, st⟩
end
end VXH
theorem vx_ofWH {l : Launch} {y : MethodName} {ws ws' : List Cond} {rm : Room} {Pc : Array Value → State → Prop} {Qc : Array Value → State → Outcome → State → Prop} {XC : String → State → State → Prop} {mc ms : Nat} {free : Addr → Prop} {cc : ByteArray} {maxL : Nat} {ret : Option FieldType} {hh : List (Nat × Nat × Nat × Nat)}
    (hy : plainName y.cls = true) (hw : ws = Cond.codeWith y cc maxL ret hh :: ws')
    (body : ∀ p e s m args below meth c s₁, BodyLoose p l y (headSpec ws rm) cc maxL ret e s m args below meth c s₁ → c.maxLocals = maxL → Pc args s →
      W p l e (headSpec ws rm).room s m args below meth c s.heap [] 0 0 (vx_MQ below Qc XC args s mc ms free) (entryFrame m args maxL)) : vx_Met l y ws rm Pc Qc XC mc ms free := by
  refine MetFree.of_bodyS (code := cc) (maxLocals := maxL) (ret := ret) hy ?_ ?_
  · intro args s m h hn
    obtain ⟨m9, meth, c, hn9, h1, h2, h3, h4, -, h5, h6, -⟩ := Cond.codeWith_spec (atoms_spec (ws := ws) h _ (by rw [hw]; exact List.mem_cons_self))
    cases hn.symm.trans hn9
    exact ⟨meth, c, h1, h2, h3, h4, h5, h6⟩
  · intro p e s m args below meth c s₁ B hml hP _
    have hh0 : s₁.heap = s.heap := by rw [B.state]; rfl
    obtain ⟨t, a1, o, b1, b2, b3⟩ := body p e s m args below meth c s₁ B hml hP s₁ hh0 (Stand.of_body B)
    exact ⟨t, o, a1, b1, b2, b3⟩
/-! ===== END ===== -/
end
section
/-! ===== BEGIN printed: names, fields, word lists, decode rows ===== -/
def RX0 : String := "RumourReasoner"
def TX0 : u_T := fun k => match k with
  | 0 => ("RumourReasoner", "count", "I", false)
  | 1 => ("RumourReasoner", "kinds", "[I", true)
  | 2 => ("RumourReasoner", "steady", "[Z", true)
  | 3 => ("RumourReasoner", "trueSets", "[J", true)
  | 4 => ("RumourReasoner", "falseSets", "[J", true)
  | 5 => ("RumourReasoner", "trusts", "[I", true)
  | 6 => ("RumourReasoner", "on", "[Z", true)
  | 7 => ("RumourReasoner", "reports", "[I", true)
  | 8 => ("RumourReasoner", "leastTrust", "I", false)
  | 9 => ("RumourReasoner", "rules", "[I", true)
  | 10 => ("RumourReasoner", "logic", "I", false)
  | _ => ("RumourReasoner", "logicTriples", "J", false)
def tyX0 : Nat → FieldType := fun k => match k with
  | 0 => .int
  | 1 => .array .int
  | 2 => .array .boolean
  | 3 => .array .long
  | 4 => .array .long
  | 5 => .array .int
  | 6 => .array .boolean
  | 7 => .array .int
  | 8 => .int
  | 9 => .array .int
  | 10 => .int
  | _ => .long
abbrev wsX00 : List Cond := u_ws RX0 TX0 12
theorem nmX0 : ∀ a, a < 12 → ∀ b, b < 12 → a ≠ b → (TX0 a).2.1 ≠ (TX0 b).2.1 := by decide +kernel
theorem tyX0_ok : ∀ k, k < 12 → parseFieldDescriptor (TX0 k).2.2.1 = some (tyX0 k) := by decide +kernel
abbrev cX0_init : ByteArray := prog_1_method_1_code
def yX0_init : MethodName := ⟨RX0, "<init>", "()V"⟩
abbrev cX0_atom : ByteArray := prog_1_method_2_code
def yX0_atom : MethodName := ⟨RX0, "atom", "(I)I"⟩
abbrev cX0_constant : ByteArray := prog_1_method_3_code
def yX0_constant : MethodName := ⟨RX0, "constant", "(I)I"⟩
abbrev cX0_turn : ByteArray := prog_1_method_4_code
def yX0_turn : MethodName := ⟨RX0, "turn", "(II)I"⟩
abbrev cX0_join : ByteArray := prog_1_method_5_code
def yX0_join : MethodName := ⟨RX0, "join", "(III)I"⟩
abbrev cX0_formulaCount : ByteArray := prog_1_method_6_code
def yX0_formulaCount : MethodName := ⟨RX0, "formulaCount", "()I"⟩
abbrev cX0_isSteady : ByteArray := prog_1_method_7_code
def yX0_isSteady : MethodName := ⟨RX0, "isSteady", "(I)Z"⟩
abbrev cX0_report : ByteArray := prog_1_method_8_code
def yX0_report : MethodName := ⟨RX0, "report", "(III)I"⟩
abbrev cX0_setTrust : ByteArray := prog_1_method_9_code
def yX0_setTrust : MethodName := ⟨RX0, "setTrust", "(II)I"⟩
abbrev cX0_setLeastTrust : ByteArray := prog_1_method_10_code
def yX0_setLeastTrust : MethodName := ⟨RX0, "setLeastTrust", "(I)I"⟩
abbrev cX0_let : ByteArray := prog_1_method_11_code
def yX0_let : MethodName := ⟨RX0, "let", "(IZ)Z"⟩
abbrev cX0_setRule : ByteArray := prog_1_method_12_code
def yX0_setRule : MethodName := ⟨RX0, "setRule", "(II)I"⟩
abbrev cX0_given : ByteArray := prog_1_method_13_code
def yX0_given : MethodName := ⟨RX0, "given", "(I)I"⟩
abbrev cX0_settled : ByteArray := prog_1_method_14_code
def yX0_settled : MethodName := ⟨RX0, "settled", "(I)I"⟩
abbrev cX0_rounds : ByteArray := prog_1_method_15_code
def yX0_rounds : MethodName := ⟨RX0, "rounds", "()I"⟩
abbrev cX0_since : ByteArray := prog_1_method_16_code
def yX0_since : MethodName := ⟨RX0, "since", "(IZ)I"⟩
abbrev cX0_value : ByteArray := prog_1_method_17_code
def yX0_value : MethodName := ⟨RX0, "value", "(I)I"⟩
abbrev cX0_conflicts : ByteArray := prog_1_method_18_code
def yX0_conflicts : MethodName := ⟨RX0, "conflicts", "()I"⟩
abbrev cX0_gaps : ByteArray := prog_1_method_19_code
def yX0_gaps : MethodName := ⟨RX0, "gaps", "()I"⟩
abbrev cX0_discord : ByteArray := prog_1_method_20_code
def yX0_discord : MethodName := ⟨RX0, "discord", "()D"⟩
abbrev cX0_heard : ByteArray := prog_1_method_21_code
def yX0_heard : MethodName := ⟨RX0, "heard", "()I"⟩
abbrev cX0_sayers : ByteArray := prog_1_method_22_code
def yX0_sayers : MethodName := ⟨RX0, "sayers", "(IZ)I"⟩
abbrev cX0_matters : ByteArray := prog_1_method_23_code
def yX0_matters : MethodName := ⟨RX0, "matters", "(II)Z"⟩
abbrev cX0_silence : ByteArray := prog_1_method_24_code
def yX0_silence : MethodName := ⟨RX0, "silence", "()I"⟩
abbrev cX0_contradicted : ByteArray := prog_1_method_25_code
def yX0_contradicted : MethodName := ⟨RX0, "contradicted", "(I)I"⟩
abbrev cX0_setLogic : ByteArray := prog_1_method_26_code
def yX0_setLogic : MethodName := ⟨RX0, "setLogic", "(I)I"⟩
abbrev cX0_models : ByteArray := prog_1_method_27_code
def yX0_models : MethodName := ⟨RX0, "models", "(I)I"⟩
abbrev cX0_range : ByteArray := prog_1_method_28_code
def yX0_range : MethodName := ⟨RX0, "range", "(I)I"⟩
abbrev cX0_entails : ByteArray := prog_1_method_29_code
def yX0_entails : MethodName := ⟨RX0, "entails", "(II)Z"⟩
abbrev cX0_against : ByteArray := prog_1_method_30_code
def yX0_against : MethodName := ⟨RX0, "against", "(II)I"⟩
abbrev cX0_areEqual : ByteArray := prog_1_method_31_code
def yX0_areEqual : MethodName := ⟨RX0, "areEqual", "(II)Z"⟩
abbrev cX0_depends : ByteArray := prog_1_method_32_code
def yX0_depends : MethodName := ⟨RX0, "depends", "(II)Z"⟩
abbrev cX0_valueAt : ByteArray := prog_1_method_33_code
def yX0_valueAt : MethodName := ⟨RX0, "valueAt", "(II)I"⟩
abbrev cX0_digest : ByteArray := prog_1_method_34_code
def yX0_digest : MethodName := ⟨RX0, "digest", "()J"⟩
abbrev cX0_mix : ByteArray := prog_1_method_35_code
def yX0_mix : MethodName := ⟨RX0, "mix", "(JI)J"⟩
abbrev cX0_requireAtom : ByteArray := prog_1_method_36_code
def yX0_requireAtom : MethodName := ⟨RX0, "requireAtom", "(I)V"⟩
abbrev cX0_requireSource : ByteArray := prog_1_method_37_code
def yX0_requireSource : MethodName := ⟨RX0, "requireSource", "(I)V"⟩
abbrev cX0_requireValue : ByteArray := prog_1_method_38_code
def yX0_requireValue : MethodName := ⟨RX0, "requireValue", "(I)V"⟩
abbrev cX0_requireTrust : ByteArray := prog_1_method_39_code
def yX0_requireTrust : MethodName := ⟨RX0, "requireTrust", "(I)V"⟩
abbrev cX0_requireFormula : ByteArray := prog_1_method_40_code
def yX0_requireFormula : MethodName := ⟨RX0, "requireFormula", "(I)V"⟩
abbrev cX0_requireSteady : ByteArray := prog_1_method_41_code
def yX0_requireSteady : MethodName := ⟨RX0, "requireSteady", "(I)V"⟩
abbrev cX0_requireRoom : ByteArray := prog_1_method_42_code
def yX0_requireRoom : MethodName := ⟨RX0, "requireRoom", "()V"⟩
abbrev cX0_placeOf : ByteArray := prog_1_method_43_code
def yX0_placeOf : MethodName := ⟨RX0, "placeOf", "(I)I"⟩
abbrev cX0_valueIn : ByteArray := prog_1_method_44_code
def yX0_valueIn : MethodName := ⟨RX0, "valueIn", "(II)I"⟩
abbrev cX0_isTold : ByteArray := prog_1_method_45_code
def yX0_isTold : MethodName := ⟨RX0, "isTold", "(IZ)Z"⟩
abbrev cX0_isAgainst : ByteArray := prog_1_method_46_code
def yX0_isAgainst : MethodName := ⟨RX0, "isAgainst", "(II)Z"⟩
abbrev cX0_atomsWith : ByteArray := prog_1_method_47_code
def yX0_atomsWith : MethodName := ⟨RX0, "atomsWith", "(II)I"⟩
abbrev cX0_rowOf : ByteArray := prog_1_method_48_code
def yX0_rowOf : MethodName := ⟨RX0, "rowOf", "(I)I"⟩
abbrev cX0_addFormula : ByteArray := prog_1_method_49_code
def yX0_addFormula : MethodName := ⟨RX0, "addFormula", "(IZ)I"⟩
abbrev cX0_valuationsWithBit : ByteArray := prog_1_method_50_code
def yX0_valuationsWithBit : MethodName := ⟨RX0, "valuationsWithBit", "(II)J"⟩
abbrev cX0_joinTrue : ByteArray := prog_1_method_51_code
def yX0_joinTrue : MethodName := ⟨RX0, "joinTrue", "(IJJ)J"⟩
abbrev cX0_joinFalse : ByteArray := prog_1_method_52_code
def yX0_joinFalse : MethodName := ⟨RX0, "joinFalse", "(IJJJ)J"⟩
abbrev cX0_lookUp : ByteArray := prog_1_method_53_code
def yX0_lookUp : MethodName := ⟨RX0, "lookUp", "(II)I"⟩
abbrev cX0_pick : ByteArray := prog_1_method_54_code
def yX0_pick : MethodName := ⟨RX0, "pick", "(JJI)J"⟩
abbrev cX0_isHeard : ByteArray := prog_1_method_55_code
def yX0_isHeard : MethodName := ⟨RX0, "isHeard", "(I)Z"⟩
abbrev cX0_trustOf : ByteArray := prog_1_method_56_code
def yX0_trustOf : MethodName := ⟨RX0, "trustOf", "(I)I"⟩
abbrev cX0_givenState : ByteArray := prog_1_method_57_code
def yX0_givenState : MethodName := ⟨RX0, "givenState", "(I)I"⟩
abbrev cX0_nextState : ByteArray := prog_1_method_58_code
def yX0_nextState : MethodName := ⟨RX0, "nextState", "(II)I"⟩
abbrev cX0_settledNow : ByteArray := prog_1_method_59_code
def yX0_settledNow : MethodName := ⟨RX0, "settledNow", "()I"⟩
abbrev cX0_settledState : ByteArray := prog_1_method_60_code
def yX0_settledState : MethodName := ⟨RX0, "settledState", "(I)I"⟩
abbrev cX0_triplesOf : ByteArray := prog_1_method_61_code
def yX0_triplesOf : MethodName := ⟨RX0, "triplesOf", "(I)J"⟩
abbrev cX0_logicWord : ByteArray := prog_1_method_62_code
def yX0_logicWord : MethodName := ⟨RX0, "logicWord", "(I)J"⟩
abbrev cX0_lowestBit : ByteArray := prog_1_method_63_code
def yX0_lowestBit : MethodName := ⟨RX0, "lowestBit", "(J)I"⟩
abbrev cX0_differing : ByteArray := prog_1_method_64_code
def yX0_differing : MethodName := ⟨RX0, "differing", "(III)J"⟩
abbrev cX0_isChanged : ByteArray := prog_1_method_65_code
def yX0_isChanged : MethodName := ⟨RX0, "isChanged", "(IIII)Z"⟩
def RX1 : String := "RumourReasonerModel"
def TX1 : u_T := fun k => match k with
  | 0 => ("RumourReasonerModel", "thrown", "I", false)
  | 1 => ("RumourReasonerModel", "formulas", "I", false)
  | 2 => ("RumourReasonerModel", "kinds", "[I", true)
  | 3 => ("RumourReasonerModel", "firsts", "[I", true)
  | 4 => ("RumourReasonerModel", "seconds", "[I", true)
  | 5 => ("RumourReasonerModel", "areSteady", "[Z", true)
  | 6 => ("RumourReasonerModel", "trusts", "[I", true)
  | 7 => ("RumourReasonerModel", "areOn", "[Z", true)
  | 8 => ("RumourReasonerModel", "says", "[I", true)
  | 9 => ("RumourReasonerModel", "leastTrust", "I", false)
  | 10 => ("RumourReasonerModel", "rules", "[I", true)
  | 11 => ("RumourReasonerModel", "logic", "I", false)
  | _ => ("RumourReasonerModel", "results", "[I", true)
def tyX1 : Nat → FieldType := fun k => match k with
  | 0 => .int
  | 1 => .int
  | 2 => .array .int
  | 3 => .array .int
  | 4 => .array .int
  | 5 => .array .boolean
  | 6 => .array .int
  | 7 => .array .boolean
  | 8 => .array .int
  | 9 => .int
  | 10 => .array .int
  | 11 => .int
  | _ => .array .int
abbrev wsX10 : List Cond := u_ws RX1 TX1 13
theorem nmX1 : ∀ a, a < 13 → ∀ b, b < 13 → a ≠ b → (TX1 a).2.1 ≠ (TX1 b).2.1 := by decide +kernel
theorem tyX1_ok : ∀ k, k < 13 → parseFieldDescriptor (TX1 k).2.2.1 = some (tyX1 k) := by decide +kernel
abbrev cX1_init : ByteArray := prog_3_method_1_code
def yX1_init : MethodName := ⟨RX1, "<init>", "()V"⟩
abbrev cX1_thrown : ByteArray := prog_3_method_2_code
def yX1_thrown : MethodName := ⟨RX1, "thrown", "()I"⟩
abbrev cX1_no : ByteArray := prog_3_method_3_code
def yX1_no : MethodName := ⟨RX1, "no", "(I)I"⟩
abbrev cX1_isIn : ByteArray := prog_3_method_4_code
def yX1_isIn : MethodName := ⟨RX1, "isIn", "(III)Z"⟩
abbrev cX1_has : ByteArray := prog_3_method_5_code
def yX1_has : MethodName := ⟨RX1, "has", "(II)Z"⟩
abbrev cX1_isFormula : ByteArray := prog_3_method_6_code
def yX1_isFormula : MethodName := ⟨RX1, "isFormula", "(I)Z"⟩
abbrev cX1_isAtom : ByteArray := prog_3_method_7_code
def yX1_isAtom : MethodName := ⟨RX1, "isAtom", "(I)Z"⟩
abbrev cX1_isSource : ByteArray := prog_3_method_8_code
def yX1_isSource : MethodName := ⟨RX1, "isSource", "(I)Z"⟩
abbrev cX1_create : ByteArray := prog_3_method_9_code
def yX1_create : MethodName := ⟨RX1, "create", "(IIIZ)I"⟩
abbrev cX1_atom : ByteArray := prog_3_method_10_code
def yX1_atom : MethodName := ⟨RX1, "atom", "(I)I"⟩
abbrev cX1_constant : ByteArray := prog_3_method_11_code
def yX1_constant : MethodName := ⟨RX1, "constant", "(I)I"⟩
abbrev cX1_turn : ByteArray := prog_3_method_12_code
def yX1_turn : MethodName := ⟨RX1, "turn", "(II)I"⟩
abbrev cX1_join : ByteArray := prog_3_method_13_code
def yX1_join : MethodName := ⟨RX1, "join", "(III)I"⟩
abbrev cX1_formulaCount : ByteArray := prog_3_method_14_code
def yX1_formulaCount : MethodName := ⟨RX1, "formulaCount", "()I"⟩
abbrev cX1_isSteady : ByteArray := prog_3_method_15_code
def yX1_isSteady : MethodName := ⟨RX1, "isSteady", "(I)Z"⟩
abbrev cX1_worth : ByteArray := prog_3_method_16_code
def yX1_worth : MethodName := ⟨RX1, "worth", "(II)I"⟩
abbrev cX1_report : ByteArray := prog_3_method_17_code
def yX1_report : MethodName := ⟨RX1, "report", "(III)I"⟩
abbrev cX1_setTrust : ByteArray := prog_3_method_18_code
def yX1_setTrust : MethodName := ⟨RX1, "setTrust", "(II)I"⟩
abbrev cX1_setLeastTrust : ByteArray := prog_3_method_19_code
def yX1_setLeastTrust : MethodName := ⟨RX1, "setLeastTrust", "(I)I"⟩
abbrev cX1_isHeard : ByteArray := prog_3_method_20_code
def yX1_isHeard : MethodName := ⟨RX1, "isHeard", "(I)Z"⟩
abbrev cX1_heardSet : ByteArray := prog_3_method_21_code
def yX1_heardSet : MethodName := ⟨RX1, "heardSet", "()I"⟩
abbrev cX1_let : ByteArray := prog_3_method_22_code
def yX1_let : MethodName := ⟨RX1, "let", "(IZ)Z"⟩
abbrev cX1_setRule : ByteArray := prog_3_method_23_code
def yX1_setRule : MethodName := ⟨RX1, "setRule", "(II)I"⟩
abbrev cX1_givenBy : ByteArray := prog_3_method_24_code
def yX1_givenBy : MethodName := ⟨RX1, "givenBy", "(II)I"⟩
abbrev cX1_given : ByteArray := prog_3_method_25_code
def yX1_given : MethodName := ⟨RX1, "given", "(I)I"⟩
abbrev cX1_valueIn : ByteArray := prog_3_method_26_code
def yX1_valueIn : MethodName := ⟨RX1, "valueIn", "(II)I"⟩
abbrev cX1_begin : ByteArray := prog_3_method_27_code
def yX1_begin : MethodName := ⟨RX1, "begin", "(I)I"⟩
abbrev cX1_goOn : ByteArray := prog_3_method_28_code
def yX1_goOn : MethodName := ⟨RX1, "goOn", "(II)I"⟩
abbrev cX1_settle : ByteArray := prog_3_method_29_code
def yX1_settle : MethodName := ⟨RX1, "settle", "(I)I"⟩
abbrev cX1_present : ByteArray := prog_3_method_30_code
def yX1_present : MethodName := ⟨RX1, "present", "()I"⟩
abbrev cX1_settled : ByteArray := prog_3_method_31_code
def yX1_settled : MethodName := ⟨RX1, "settled", "(I)I"⟩
abbrev cX1_roundCount : ByteArray := prog_3_method_32_code
def yX1_roundCount : MethodName := ⟨RX1, "roundCount", "()I"⟩
abbrev cX1_rounds : ByteArray := prog_3_method_33_code
def yX1_rounds : MethodName := ⟨RX1, "rounds", "()I"⟩
abbrev cX1_since : ByteArray := prog_3_method_34_code
def yX1_since : MethodName := ⟨RX1, "since", "(IZ)I"⟩
abbrev cX1_value : ByteArray := prog_3_method_35_code
def yX1_value : MethodName := ⟨RX1, "value", "(I)I"⟩
abbrev cX1_having : ByteArray := prog_3_method_36_code
def yX1_having : MethodName := ⟨RX1, "having", "(II)I"⟩
abbrev cX1_conflicts : ByteArray := prog_3_method_37_code
def yX1_conflicts : MethodName := ⟨RX1, "conflicts", "()I"⟩
abbrev cX1_gaps : ByteArray := prog_3_method_38_code
def yX1_gaps : MethodName := ⟨RX1, "gaps", "()I"⟩
abbrev cX1_discord : ByteArray := prog_3_method_39_code
def yX1_discord : MethodName := ⟨RX1, "discord", "()D"⟩
abbrev cX1_heard : ByteArray := prog_3_method_40_code
def yX1_heard : MethodName := ⟨RX1, "heard", "()I"⟩
abbrev cX1_sayers : ByteArray := prog_3_method_41_code
def yX1_sayers : MethodName := ⟨RX1, "sayers", "(IZ)I"⟩
abbrev cX1_matters : ByteArray := prog_3_method_42_code
def yX1_matters : MethodName := ⟨RX1, "matters", "(II)Z"⟩
abbrev cX1_silence : ByteArray := prog_3_method_43_code
def yX1_silence : MethodName := ⟨RX1, "silence", "()I"⟩
abbrev cX1_contradicted : ByteArray := prog_3_method_44_code
def yX1_contradicted : MethodName := ⟨RX1, "contradicted", "(I)I"⟩
abbrev cX1_setLogic : ByteArray := prog_3_method_45_code
def yX1_setLogic : MethodName := ⟨RX1, "setLogic", "(I)I"⟩
abbrev cX1_counts : ByteArray := prog_3_method_46_code
def yX1_counts : MethodName := ⟨RX1, "counts", "(I)Z"⟩
abbrev cX1_isYes : ByteArray := prog_3_method_47_code
def yX1_isYes : MethodName := ⟨RX1, "isYes", "(II)Z"⟩
abbrev cX1_models : ByteArray := prog_3_method_48_code
def yX1_models : MethodName := ⟨RX1, "models", "(I)I"⟩
abbrev cX1_range : ByteArray := prog_3_method_49_code
def yX1_range : MethodName := ⟨RX1, "range", "(I)I"⟩
abbrev cX1_firstAgainst : ByteArray := prog_3_method_50_code
def yX1_firstAgainst : MethodName := ⟨RX1, "firstAgainst", "(II)I"⟩
abbrev cX1_entails : ByteArray := prog_3_method_51_code
def yX1_entails : MethodName := ⟨RX1, "entails", "(II)Z"⟩
abbrev cX1_against : ByteArray := prog_3_method_52_code
def yX1_against : MethodName := ⟨RX1, "against", "(II)I"⟩
abbrev cX1_areEqual : ByteArray := prog_3_method_53_code
def yX1_areEqual : MethodName := ⟨RX1, "areEqual", "(II)Z"⟩
abbrev cX1_depends : ByteArray := prog_3_method_54_code
def yX1_depends : MethodName := ⟨RX1, "depends", "(II)Z"⟩
abbrev cX1_valueAt : ByteArray := prog_3_method_55_code
def yX1_valueAt : MethodName := ⟨RX1, "valueAt", "(II)I"⟩
abbrev cX1_digest : ByteArray := prog_3_method_56_code
def yX1_digest : MethodName := ⟨RX1, "digest", "()J"⟩
def RJ6 : String := "java/lang/Integer"
def TJ6 : u_T := fun k => match k with
  | _ => ("", "", "", false)
def tyJ6 : Nat → FieldType := fun k => match k with
  | _ => .int
abbrev wsJ60 : List Cond := u_ws RJ6 TJ6 0
theorem nmJ6 : ∀ a, a < 0 → ∀ b, b < 0 → a ≠ b → (TJ6 a).2.1 ≠ (TJ6 b).2.1 := by decide +kernel
theorem tyJ6_ok : ∀ k, k < 0 → parseFieldDescriptor (TJ6 k).2.2.1 = some (tyJ6 k) := by decide +kernel
abbrev cJ6_bitCount_0f7a4 : ByteArray := prog_8_method_49_code
def yJ6_bitCount_0f7a4 : MethodName := ⟨RJ6, "bitCount", "(I)I"⟩
def RJ13 : String := "java/lang/Long"
def TJ13 : u_T := fun k => match k with
  | _ => ("", "", "", false)
def tyJ13 : Nat → FieldType := fun k => match k with
  | _ => .int
abbrev wsJ130 : List Cond := u_ws RJ13 TJ13 0
theorem nmJ13 : ∀ a, a < 0 → ∀ b, b < 0 → a ≠ b → (TJ13 a).2.1 ≠ (TJ13 b).2.1 := by decide +kernel
theorem tyJ13_ok : ∀ k, k < 0 → parseFieldDescriptor (TJ13 k).2.2.1 = some (tyJ13 k) := by decide +kernel
abbrev cJ13_bitCount_95d88 : ByteArray := prog_9_method_50_code
def yJ13_bitCount_95d88 : MethodName := ⟨RJ13, "bitCount", "(J)I"⟩
def RJ0 : String := "java/lang/String"
def TJ0 : u_T := fun k => match k with
  | _ => ("", "", "", false)
def tyJ0 : Nat → FieldType := fun k => match k with
  | _ => .int
abbrev wsJ00 : List Cond := u_ws RJ0 TJ0 0
theorem nmJ0 : ∀ a, a < 0 → ∀ b, b < 0 → a ≠ b → (TJ0 a).2.1 ≠ (TJ0 b).2.1 := by decide +kernel
theorem tyJ0_ok : ∀ k, k < 0 → parseFieldDescriptor (TJ0 k).2.2.1 = some (tyJ0 k) := by decide +kernel
def RL : String := "RumourReasonerLaw"
abbrev cL_atom : ByteArray := method_3_code
def yL_atom : MethodName := ⟨RL, "atom", "(LRumourReasoner;I[J)I"⟩
abbrev cL_constant : ByteArray := method_4_code
def yL_constant : MethodName := ⟨RL, "constant", "(LRumourReasoner;I[J)I"⟩
abbrev cL_turn : ByteArray := method_5_code
def yL_turn : MethodName := ⟨RL, "turn", "(LRumourReasoner;II[J)I"⟩
abbrev cL_join : ByteArray := method_6_code
def yL_join : MethodName := ⟨RL, "join", "(LRumourReasoner;III[J)I"⟩
abbrev cL_isSteady : ByteArray := method_7_code
def yL_isSteady : MethodName := ⟨RL, "isSteady", "(LRumourReasoner;I[J)I"⟩
abbrev cL_report : ByteArray := method_8_code
def yL_report : MethodName := ⟨RL, "report", "(LRumourReasoner;III[J)I"⟩
abbrev cL_setTrust : ByteArray := method_9_code
def yL_setTrust : MethodName := ⟨RL, "setTrust", "(LRumourReasoner;II[J)I"⟩
abbrev cL_setLeastTrust : ByteArray := method_10_code
def yL_setLeastTrust : MethodName := ⟨RL, "setLeastTrust", "(LRumourReasoner;I[J)I"⟩
abbrev cL_let : ByteArray := method_11_code
def yL_let : MethodName := ⟨RL, "let", "(LRumourReasoner;IZ[J)I"⟩
abbrev cL_setRule : ByteArray := method_12_code
def yL_setRule : MethodName := ⟨RL, "setRule", "(LRumourReasoner;II[J)I"⟩
abbrev cL_given : ByteArray := method_13_code
def yL_given : MethodName := ⟨RL, "given", "(LRumourReasoner;I[J)I"⟩
abbrev cL_settled : ByteArray := method_14_code
def yL_settled : MethodName := ⟨RL, "settled", "(LRumourReasoner;I[J)I"⟩
abbrev cL_since : ByteArray := method_15_code
def yL_since : MethodName := ⟨RL, "since", "(LRumourReasoner;IZ[J)I"⟩
abbrev cL_value : ByteArray := method_16_code
def yL_value : MethodName := ⟨RL, "value", "(LRumourReasoner;I[J)I"⟩
abbrev cL_sayers : ByteArray := method_17_code
def yL_sayers : MethodName := ⟨RL, "sayers", "(LRumourReasoner;IZ[J)I"⟩
abbrev cL_matters : ByteArray := method_18_code
def yL_matters : MethodName := ⟨RL, "matters", "(LRumourReasoner;II[J)I"⟩
abbrev cL_contradicted : ByteArray := method_19_code
def yL_contradicted : MethodName := ⟨RL, "contradicted", "(LRumourReasoner;I[J)I"⟩
abbrev cL_setLogic : ByteArray := method_20_code
def yL_setLogic : MethodName := ⟨RL, "setLogic", "(LRumourReasoner;I[J)I"⟩
abbrev cL_models : ByteArray := method_21_code
def yL_models : MethodName := ⟨RL, "models", "(LRumourReasoner;I[J)I"⟩
abbrev cL_range : ByteArray := method_22_code
def yL_range : MethodName := ⟨RL, "range", "(LRumourReasoner;I[J)I"⟩
abbrev cL_entails : ByteArray := method_23_code
def yL_entails : MethodName := ⟨RL, "entails", "(LRumourReasoner;II[J)I"⟩
abbrev cL_against : ByteArray := method_24_code
def yL_against : MethodName := ⟨RL, "against", "(LRumourReasoner;II[J)I"⟩
abbrev cL_areEqual : ByteArray := method_25_code
def yL_areEqual : MethodName := ⟨RL, "areEqual", "(LRumourReasoner;II[J)I"⟩
abbrev cL_depends : ByteArray := method_26_code
def yL_depends : MethodName := ⟨RL, "depends", "(LRumourReasoner;II[J)I"⟩
abbrev cL_valueAt : ByteArray := method_27_code
def yL_valueAt : MethodName := ⟨RL, "valueAt", "(LRumourReasoner;II[J)I"⟩
abbrev cL_law : ByteArray := code
def yL_law : MethodName := ⟨RL, "law", "([I)Z"⟩
def wsX0_init : List Cond := .code yX0_init cX0_init 2 none :: ([.methodLink RX0 3 objectInit, .instanceMethod objectInit, .code objectInit ⟨#[0xb1]⟩ 1 none, .fieldLink RX0 9 "RumourReasoner" "count" "I", .arrayClass .int, .fieldLink RX0 13 "RumourReasoner" "kinds" "[I", .arrayClass .boolean, .fieldLink RX0 17 "RumourReasoner" "steady" "[Z", .arrayClass .long, .fieldLink RX0 21 "RumourReasoner" "trueSets" "[J", .fieldLink RX0 25 "RumourReasoner" "falseSets" "[J", .fieldLink RX0 28 "RumourReasoner" "trusts" "[I", .fieldLink RX0 31 "RumourReasoner" "on" "[Z", .fieldLink RX0 34 "RumourReasoner" "reports" "[I", .fieldLink RX0 37 "RumourReasoner" "leastTrust" "I", .fieldLink RX0 40 "RumourReasoner" "rules" "[I", .fieldLink RX0 43 "RumourReasoner" "logic" "I", .constantLong RX0 46 (-1), .fieldLink RX0 48 "RumourReasoner" "logicTriples" "J"] ++ wsX00)
def wsX0_requireAtom : List Cond := .code yX0_requireAtom cX0_requireAtom 1 none :: ([.classLink RX0 197 "java/lang/IndexOutOfBoundsException", .initialized "java/lang/IndexOutOfBoundsException"] ++ (vx_atS RX0 201 "java/lang/IndexOutOfBoundsException" ["java/lang/RuntimeException", "java/lang/Exception"]).filter goodWord)
def wsX0_requireRoom : List Cond := .code yX0_requireRoom cX0_requireRoom 1 none :: ([.classLink RX0 212 "java/lang/IllegalStateException", .initialized "java/lang/IllegalStateException", .fieldLink RX0 9 "RumourReasoner" "count" "I"] ++ wsX00 ++ (vx_atS RX0 216 "java/lang/IllegalStateException" ["java/lang/RuntimeException", "java/lang/Exception"]).filter goodWord)
def wsX0_placeOf : List Cond := .code yX0_placeOf cX0_placeOf 1 (some .int) :: ([])
def wsX0_rowOf : List Cond := .code yX0_rowOf cX0_rowOf 1 (some .int) :: ([])
def wsX0_valuationsWithBit : List Cond := .code yX0_valuationsWithBit cX0_valuationsWithBit 2 (some .long) :: ([.fieldLink RX0 217 "RumourReasoner" "NUMBERS_WITH_BIT" "[J", .constantLong RX0 46 (-1)])
def wsX0_addFormula : List Cond := .code yX0_addFormula cX0_addFormula 4 (some .int) :: ([.fieldLink RX0 9 "RumourReasoner" "count" "I", .fieldLink RX0 13 "RumourReasoner" "kinds" "[I", .fieldLink RX0 17 "RumourReasoner" "steady" "[Z"] ++ wsX00)
def wsX0_atom_r1 : List Cond := [Cond.fieldLink RX0 9 "RumourReasoner" "count" "I", Cond.fieldLink RX0 21 "RumourReasoner" "trueSets" "[J", Cond.fieldLink RX0 25 "RumourReasoner" "falseSets" "[J", Cond.methodLink RX0 52 yX0_requireAtom, Cond.static yX0_requireAtom, Cond.initialized RX0, Cond.code yX0_requireAtom cX0_requireAtom 1 none, Cond.classLink RX0 197 "java/lang/IndexOutOfBoundsException", Cond.initialized "java/lang/IndexOutOfBoundsException", Cond.methodLink RX0 56 yX0_requireRoom, Cond.instanceMethod yX0_requireRoom, Cond.selects RX0 yX0_requireRoom yX0_requireRoom, Cond.code yX0_requireRoom cX0_requireRoom 1 none, Cond.classLink RX0 212 "java/lang/IllegalStateException", Cond.initialized "java/lang/IllegalStateException", Cond.methodLink RX0 59 yX0_placeOf, Cond.static yX0_placeOf, Cond.code yX0_placeOf cX0_placeOf 1 (some .int), Cond.methodLink RX0 63 yX0_rowOf, Cond.static yX0_rowOf, Cond.code yX0_rowOf cX0_rowOf 1 (some .int), Cond.methodLink RX0 66 yX0_valuationsWithBit, Cond.static yX0_valuationsWithBit, Cond.code yX0_valuationsWithBit cX0_valuationsWithBit 2 (some .long)]
def wsX0_atom_r2 : List Cond := [Cond.fieldLink RX0 217 "RumourReasoner" "NUMBERS_WITH_BIT" "[J", Cond.constantLong RX0 46 (-1), Cond.methodLink RX0 70 yX0_addFormula, Cond.instanceMethod yX0_addFormula, Cond.selects RX0 yX0_addFormula yX0_addFormula, Cond.code yX0_addFormula cX0_addFormula 4 (some .int), Cond.fieldLink RX0 13 "RumourReasoner" "kinds" "[I", Cond.fieldLink RX0 17 "RumourReasoner" "steady" "[Z"]
def wsX0_atom : List Cond := .code yX0_atom cX0_atom 5 (some .int) :: ((wsX0_atom_r1 ++ wsX0_atom_r2) ++ wsX00 ++ (vx_atS RX0 201 "java/lang/IndexOutOfBoundsException" ["java/lang/RuntimeException", "java/lang/Exception"]).filter goodWord ++ (vx_atS RX0 216 "java/lang/IllegalStateException" ["java/lang/RuntimeException", "java/lang/Exception"]).filter goodWord)
def wsX0_requireValue : List Cond := .code yX0_requireValue cX0_requireValue 1 none :: ([.classLink RX0 80 "java/lang/IllegalArgumentException", .initialized "java/lang/IllegalArgumentException"] ++ (vx_atS RX0 84 "java/lang/IllegalArgumentException" ["java/lang/RuntimeException", "java/lang/Exception"]).filter goodWord)
def wsX0_constant_r1 : List Cond := [Cond.fieldLink RX0 9 "RumourReasoner" "count" "I", Cond.fieldLink RX0 21 "RumourReasoner" "trueSets" "[J", Cond.constantLong RX0 46 (-1), Cond.fieldLink RX0 25 "RumourReasoner" "falseSets" "[J", Cond.methodLink RX0 74 yX0_requireValue, Cond.static yX0_requireValue, Cond.initialized RX0, Cond.code yX0_requireValue cX0_requireValue 1 none, Cond.classLink RX0 80 "java/lang/IllegalArgumentException", Cond.initialized "java/lang/IllegalArgumentException", Cond.methodLink RX0 56 yX0_requireRoom, Cond.instanceMethod yX0_requireRoom, Cond.selects RX0 yX0_requireRoom yX0_requireRoom, Cond.code yX0_requireRoom cX0_requireRoom 1 none, Cond.classLink RX0 212 "java/lang/IllegalStateException", Cond.initialized "java/lang/IllegalStateException", Cond.methodLink RX0 63 yX0_rowOf, Cond.static yX0_rowOf, Cond.code yX0_rowOf cX0_rowOf 1 (some .int), Cond.methodLink RX0 70 yX0_addFormula, Cond.instanceMethod yX0_addFormula, Cond.selects RX0 yX0_addFormula yX0_addFormula, Cond.code yX0_addFormula cX0_addFormula 4 (some .int), Cond.fieldLink RX0 13 "RumourReasoner" "kinds" "[I"]
def wsX0_constant_r2 : List Cond := [Cond.fieldLink RX0 17 "RumourReasoner" "steady" "[Z"]
def wsX0_constant : List Cond := .code yX0_constant cX0_constant 4 (some .int) :: ((wsX0_constant_r1 ++ wsX0_constant_r2) ++ wsX00 ++ (vx_atS RX0 84 "java/lang/IllegalArgumentException" ["java/lang/RuntimeException", "java/lang/Exception"]).filter goodWord ++ (vx_atS RX0 216 "java/lang/IllegalStateException" ["java/lang/RuntimeException", "java/lang/Exception"]).filter goodWord)
def wsX0_requireFormula : List Cond := .code yX0_requireFormula cX0_requireFormula 2 none :: ([.classLink RX0 197 "java/lang/IndexOutOfBoundsException", .initialized "java/lang/IndexOutOfBoundsException", .fieldLink RX0 9 "RumourReasoner" "count" "I"] ++ wsX00 ++ (vx_atS RX0 201 "java/lang/IndexOutOfBoundsException" ["java/lang/RuntimeException", "java/lang/Exception"]).filter goodWord)
def wsX0_turn_r1 : List Cond := [Cond.classLink RX0 80 "java/lang/IllegalArgumentException", Cond.initialized "java/lang/IllegalArgumentException", Cond.fieldLink RX0 9 "RumourReasoner" "count" "I", Cond.fieldLink RX0 21 "RumourReasoner" "trueSets" "[J", Cond.fieldLink RX0 25 "RumourReasoner" "falseSets" "[J", Cond.constantLong RX0 46 (-1), Cond.fieldLink RX0 17 "RumourReasoner" "steady" "[Z", Cond.methodLink RX0 77 yX0_requireFormula, Cond.instanceMethod yX0_requireFormula, Cond.selects RX0 yX0_requireFormula yX0_requireFormula, Cond.initialized RX0, Cond.code yX0_requireFormula cX0_requireFormula 2 none, Cond.classLink RX0 197 "java/lang/IndexOutOfBoundsException", Cond.initialized "java/lang/IndexOutOfBoundsException", Cond.methodLink RX0 56 yX0_requireRoom, Cond.instanceMethod yX0_requireRoom, Cond.selects RX0 yX0_requireRoom yX0_requireRoom, Cond.code yX0_requireRoom cX0_requireRoom 1 none, Cond.classLink RX0 212 "java/lang/IllegalStateException", Cond.initialized "java/lang/IllegalStateException", Cond.methodLink RX0 63 yX0_rowOf, Cond.static yX0_rowOf, Cond.code yX0_rowOf cX0_rowOf 1 (some .int), Cond.methodLink RX0 70 yX0_addFormula]
def wsX0_turn_r2 : List Cond := [Cond.instanceMethod yX0_addFormula, Cond.selects RX0 yX0_addFormula yX0_addFormula, Cond.code yX0_addFormula cX0_addFormula 4 (some .int), Cond.fieldLink RX0 13 "RumourReasoner" "kinds" "[I"]
def wsX0_turn : List Cond := .code yX0_turn cX0_turn 10 (some .int) :: ((wsX0_turn_r1 ++ wsX0_turn_r2) ++ wsX00 ++ (vx_atS RX0 84 "java/lang/IllegalArgumentException" ["java/lang/RuntimeException", "java/lang/Exception"]).filter goodWord ++ (vx_atS RX0 201 "java/lang/IndexOutOfBoundsException" ["java/lang/RuntimeException", "java/lang/Exception"]).filter goodWord ++ (vx_atS RX0 216 "java/lang/IllegalStateException" ["java/lang/RuntimeException", "java/lang/Exception"]).filter goodWord)
def wsX0_joinTrue : List Cond := .code yX0_joinTrue cX0_joinTrue 5 (some .long) :: ([.constantLong RX0 46 (-1)])
def wsX0_joinFalse : List Cond := .code yX0_joinFalse cX0_joinFalse 7 (some .long) :: ([])
def wsX0_join_r1 : List Cond := [Cond.classLink RX0 80 "java/lang/IllegalArgumentException", Cond.initialized "java/lang/IllegalArgumentException", Cond.fieldLink RX0 9 "RumourReasoner" "count" "I", Cond.fieldLink RX0 21 "RumourReasoner" "trueSets" "[J", Cond.fieldLink RX0 25 "RumourReasoner" "falseSets" "[J", Cond.fieldLink RX0 17 "RumourReasoner" "steady" "[Z", Cond.methodLink RX0 77 yX0_requireFormula, Cond.instanceMethod yX0_requireFormula, Cond.selects RX0 yX0_requireFormula yX0_requireFormula, Cond.initialized RX0, Cond.code yX0_requireFormula cX0_requireFormula 2 none, Cond.classLink RX0 197 "java/lang/IndexOutOfBoundsException", Cond.initialized "java/lang/IndexOutOfBoundsException", Cond.methodLink RX0 56 yX0_requireRoom, Cond.instanceMethod yX0_requireRoom, Cond.selects RX0 yX0_requireRoom yX0_requireRoom, Cond.code yX0_requireRoom cX0_requireRoom 1 none, Cond.classLink RX0 212 "java/lang/IllegalStateException", Cond.initialized "java/lang/IllegalStateException", Cond.methodLink RX0 63 yX0_rowOf, Cond.static yX0_rowOf, Cond.code yX0_rowOf cX0_rowOf 1 (some .int), Cond.methodLink RX0 89 yX0_joinTrue, Cond.static yX0_joinTrue]
def wsX0_join_r2 : List Cond := [Cond.code yX0_joinTrue cX0_joinTrue 5 (some .long), Cond.constantLong RX0 46 (-1), Cond.methodLink RX0 93 yX0_joinFalse, Cond.static yX0_joinFalse, Cond.code yX0_joinFalse cX0_joinFalse 7 (some .long), Cond.methodLink RX0 70 yX0_addFormula, Cond.instanceMethod yX0_addFormula, Cond.selects RX0 yX0_addFormula yX0_addFormula, Cond.code yX0_addFormula cX0_addFormula 4 (some .int), Cond.fieldLink RX0 13 "RumourReasoner" "kinds" "[I"]
def wsX0_join : List Cond := .code yX0_join cX0_join 10 (some .int) :: ((wsX0_join_r1 ++ wsX0_join_r2) ++ wsX00 ++ (vx_atS RX0 84 "java/lang/IllegalArgumentException" ["java/lang/RuntimeException", "java/lang/Exception"]).filter goodWord ++ (vx_atS RX0 201 "java/lang/IndexOutOfBoundsException" ["java/lang/RuntimeException", "java/lang/Exception"]).filter goodWord ++ (vx_atS RX0 216 "java/lang/IllegalStateException" ["java/lang/RuntimeException", "java/lang/Exception"]).filter goodWord)
def wsX0_formulaCount : List Cond := .code yX0_formulaCount cX0_formulaCount 1 (some .int) :: ([.fieldLink RX0 9 "RumourReasoner" "count" "I"] ++ wsX00)
def wsX0_isSteady : List Cond := .code yX0_isSteady cX0_isSteady 2 (some .boolean) :: ([.fieldLink RX0 17 "RumourReasoner" "steady" "[Z", .methodLink RX0 77 yX0_requireFormula, .instanceMethod yX0_requireFormula, .selects RX0 yX0_requireFormula yX0_requireFormula, .initialized RX0, .code yX0_requireFormula cX0_requireFormula 2 none, .classLink RX0 197 "java/lang/IndexOutOfBoundsException", .initialized "java/lang/IndexOutOfBoundsException", .fieldLink RX0 9 "RumourReasoner" "count" "I"] ++ wsX00 ++ (vx_atS RX0 201 "java/lang/IndexOutOfBoundsException" ["java/lang/RuntimeException", "java/lang/Exception"]).filter goodWord)
def wsX0_requireSource : List Cond := .code yX0_requireSource cX0_requireSource 1 none :: ([.classLink RX0 197 "java/lang/IndexOutOfBoundsException", .initialized "java/lang/IndexOutOfBoundsException"] ++ (vx_atS RX0 201 "java/lang/IndexOutOfBoundsException" ["java/lang/RuntimeException", "java/lang/Exception"]).filter goodWord)
def wsX0_valueIn : List Cond := .code yX0_valueIn cX0_valueIn 2 (some .int) :: ([.methodLink RX0 59 yX0_placeOf, .static yX0_placeOf, .initialized RX0, .code yX0_placeOf cX0_placeOf 1 (some .int)])
def wsX0_report : List Cond := .code yX0_report cX0_report 6 (some .int) :: ([.fieldLink RX0 34 "RumourReasoner" "reports" "[I", .methodLink RX0 97 yX0_requireSource, .static yX0_requireSource, .initialized RX0, .code yX0_requireSource cX0_requireSource 1 none, .classLink RX0 197 "java/lang/IndexOutOfBoundsException", .initialized "java/lang/IndexOutOfBoundsException", .methodLink RX0 52 yX0_requireAtom, .static yX0_requireAtom, .code yX0_requireAtom cX0_requireAtom 1 none, .methodLink RX0 74 yX0_requireValue, .static yX0_requireValue, .code yX0_requireValue cX0_requireValue 1 none, .classLink RX0 80 "java/lang/IllegalArgumentException", .initialized "java/lang/IllegalArgumentException", .methodLink RX0 100 yX0_valueIn, .static yX0_valueIn, .code yX0_valueIn cX0_valueIn 2 (some .int), .methodLink RX0 59 yX0_placeOf, .static yX0_placeOf, .code yX0_placeOf cX0_placeOf 1 (some .int)] ++ wsX00 ++ (vx_atS RX0 201 "java/lang/IndexOutOfBoundsException" ["java/lang/RuntimeException", "java/lang/Exception"]).filter goodWord ++ (vx_atS RX0 84 "java/lang/IllegalArgumentException" ["java/lang/RuntimeException", "java/lang/Exception"]).filter goodWord)
def wsX0_requireTrust : List Cond := .code yX0_requireTrust cX0_requireTrust 1 none :: ([.classLink RX0 80 "java/lang/IllegalArgumentException", .initialized "java/lang/IllegalArgumentException"] ++ (vx_atS RX0 84 "java/lang/IllegalArgumentException" ["java/lang/RuntimeException", "java/lang/Exception"]).filter goodWord)
def wsX0_setTrust : List Cond := .code yX0_setTrust cX0_setTrust 4 (some .int) :: ([.fieldLink RX0 28 "RumourReasoner" "trusts" "[I", .methodLink RX0 97 yX0_requireSource, .static yX0_requireSource, .initialized RX0, .code yX0_requireSource cX0_requireSource 1 none, .classLink RX0 197 "java/lang/IndexOutOfBoundsException", .initialized "java/lang/IndexOutOfBoundsException", .methodLink RX0 104 yX0_requireTrust, .static yX0_requireTrust, .code yX0_requireTrust cX0_requireTrust 1 none, .classLink RX0 80 "java/lang/IllegalArgumentException", .initialized "java/lang/IllegalArgumentException"] ++ wsX00 ++ (vx_atS RX0 201 "java/lang/IndexOutOfBoundsException" ["java/lang/RuntimeException", "java/lang/Exception"]).filter goodWord ++ (vx_atS RX0 84 "java/lang/IllegalArgumentException" ["java/lang/RuntimeException", "java/lang/Exception"]).filter goodWord)
def wsX0_setLeastTrust : List Cond := .code yX0_setLeastTrust cX0_setLeastTrust 3 (some .int) :: ([.fieldLink RX0 37 "RumourReasoner" "leastTrust" "I", .methodLink RX0 104 yX0_requireTrust, .static yX0_requireTrust, .initialized RX0, .code yX0_requireTrust cX0_requireTrust 1 none, .classLink RX0 80 "java/lang/IllegalArgumentException", .initialized "java/lang/IllegalArgumentException"] ++ wsX00 ++ (vx_atS RX0 84 "java/lang/IllegalArgumentException" ["java/lang/RuntimeException", "java/lang/Exception"]).filter goodWord)
def wsX0_isHeard : List Cond := .code yX0_isHeard cX0_isHeard 2 (some .boolean) :: ([.fieldLink RX0 31 "RumourReasoner" "on" "[Z", .fieldLink RX0 28 "RumourReasoner" "trusts" "[I", .fieldLink RX0 37 "RumourReasoner" "leastTrust" "I"] ++ wsX00)
def wsX0_let : List Cond := .code yX0_let cX0_let 3 (some .boolean) :: ([.fieldLink RX0 31 "RumourReasoner" "on" "[Z", .methodLink RX0 97 yX0_requireSource, .static yX0_requireSource, .initialized RX0, .code yX0_requireSource cX0_requireSource 1 none, .classLink RX0 197 "java/lang/IndexOutOfBoundsException", .initialized "java/lang/IndexOutOfBoundsException", .methodLink RX0 107 yX0_isHeard, .instanceMethod yX0_isHeard, .selects RX0 yX0_isHeard yX0_isHeard, .code yX0_isHeard cX0_isHeard 2 (some .boolean), .fieldLink RX0 28 "RumourReasoner" "trusts" "[I", .fieldLink RX0 37 "RumourReasoner" "leastTrust" "I"] ++ wsX00 ++ (vx_atS RX0 201 "java/lang/IndexOutOfBoundsException" ["java/lang/RuntimeException", "java/lang/Exception"]).filter goodWord)
def wsX0_requireSteady : List Cond := .code yX0_requireSteady cX0_requireSteady 2 none :: ([.classLink RX0 80 "java/lang/IllegalArgumentException", .initialized "java/lang/IllegalArgumentException", .fieldLink RX0 17 "RumourReasoner" "steady" "[Z"] ++ wsX00 ++ (vx_atS RX0 84 "java/lang/IllegalArgumentException" ["java/lang/RuntimeException", "java/lang/Exception"]).filter goodWord)
def wsX0_setRule : List Cond := .code yX0_setRule cX0_setRule 4 (some .int) :: ([.fieldLink RX0 40 "RumourReasoner" "rules" "[I", .methodLink RX0 52 yX0_requireAtom, .static yX0_requireAtom, .initialized RX0, .code yX0_requireAtom cX0_requireAtom 1 none, .classLink RX0 197 "java/lang/IndexOutOfBoundsException", .initialized "java/lang/IndexOutOfBoundsException", .methodLink RX0 77 yX0_requireFormula, .instanceMethod yX0_requireFormula, .selects RX0 yX0_requireFormula yX0_requireFormula, .code yX0_requireFormula cX0_requireFormula 2 none, .fieldLink RX0 9 "RumourReasoner" "count" "I", .methodLink RX0 111 yX0_requireSteady, .instanceMethod yX0_requireSteady, .selects RX0 yX0_requireSteady yX0_requireSteady, .code yX0_requireSteady cX0_requireSteady 2 none, .classLink RX0 80 "java/lang/IllegalArgumentException", .initialized "java/lang/IllegalArgumentException", .fieldLink RX0 17 "RumourReasoner" "steady" "[Z"] ++ wsX00 ++ (vx_atS RX0 201 "java/lang/IndexOutOfBoundsException" ["java/lang/RuntimeException", "java/lang/Exception"]).filter goodWord ++ (vx_atS RX0 84 "java/lang/IllegalArgumentException" ["java/lang/RuntimeException", "java/lang/Exception"]).filter goodWord)
def wsX0_heard : List Cond := .code yX0_heard cX0_heard 3 (some .int) :: ([.methodLink RX0 107 yX0_isHeard, .instanceMethod yX0_isHeard, .selects RX0 yX0_isHeard yX0_isHeard, .initialized RX0, .code yX0_isHeard cX0_isHeard 2 (some .boolean), .fieldLink RX0 31 "RumourReasoner" "on" "[Z", .fieldLink RX0 28 "RumourReasoner" "trusts" "[I", .fieldLink RX0 37 "RumourReasoner" "leastTrust" "I"] ++ wsX00)
def wsX0_givenState : List Cond := .code yX0_givenState cX0_givenState 4 (some .int) :: ([.fieldLink RX0 34 "RumourReasoner" "reports" "[I"] ++ wsX00)
def wsX0_given_r1 : List Cond := [Cond.methodLink RX0 52 yX0_requireAtom, Cond.static yX0_requireAtom, Cond.initialized RX0, Cond.code yX0_requireAtom cX0_requireAtom 1 none, Cond.classLink RX0 197 "java/lang/IndexOutOfBoundsException", Cond.initialized "java/lang/IndexOutOfBoundsException", Cond.methodLink RX0 114 yX0_heard, Cond.instanceMethod yX0_heard, Cond.selects RX0 yX0_heard yX0_heard, Cond.code yX0_heard cX0_heard 3 (some .int), Cond.methodLink RX0 107 yX0_isHeard, Cond.instanceMethod yX0_isHeard, Cond.selects RX0 yX0_isHeard yX0_isHeard, Cond.code yX0_isHeard cX0_isHeard 2 (some .boolean), Cond.fieldLink RX0 31 "RumourReasoner" "on" "[Z", Cond.fieldLink RX0 28 "RumourReasoner" "trusts" "[I", Cond.fieldLink RX0 37 "RumourReasoner" "leastTrust" "I", Cond.methodLink RX0 118 yX0_givenState, Cond.instanceMethod yX0_givenState, Cond.selects RX0 yX0_givenState yX0_givenState, Cond.code yX0_givenState cX0_givenState 4 (some .int), Cond.fieldLink RX0 34 "RumourReasoner" "reports" "[I", Cond.methodLink RX0 100 yX0_valueIn, Cond.static yX0_valueIn]
def wsX0_given_r2 : List Cond := [Cond.code yX0_valueIn cX0_valueIn 2 (some .int), Cond.methodLink RX0 59 yX0_placeOf, Cond.static yX0_placeOf, Cond.code yX0_placeOf cX0_placeOf 1 (some .int)]
def wsX0_given : List Cond := .code yX0_given cX0_given 2 (some .int) :: ((wsX0_given_r1 ++ wsX0_given_r2) ++ wsX00 ++ (vx_atS RX0 201 "java/lang/IndexOutOfBoundsException" ["java/lang/RuntimeException", "java/lang/Exception"]).filter goodWord)
def wsX0_lookUp : List Cond := .code yX0_lookUp cX0_lookUp 7 (some .int) :: ([.fieldLink RX0 21 "RumourReasoner" "trueSets" "[J", .fieldLink RX0 25 "RumourReasoner" "falseSets" "[J", .methodLink RX0 63 yX0_rowOf, .static yX0_rowOf, .initialized RX0, .code yX0_rowOf cX0_rowOf 1 (some .int)] ++ wsX00)
def wsX0_nextState : List Cond := .code yX0_nextState cX0_nextState 5 (some .int) :: ([.fieldLink RX0 40 "RumourReasoner" "rules" "[I", .methodLink RX0 131 yX0_lookUp, .instanceMethod yX0_lookUp, .selects RX0 yX0_lookUp yX0_lookUp, .initialized RX0, .code yX0_lookUp cX0_lookUp 7 (some .int), .fieldLink RX0 21 "RumourReasoner" "trueSets" "[J", .fieldLink RX0 25 "RumourReasoner" "falseSets" "[J", .methodLink RX0 63 yX0_rowOf, .static yX0_rowOf, .code yX0_rowOf cX0_rowOf 1 (some .int), .methodLink RX0 59 yX0_placeOf, .static yX0_placeOf, .code yX0_placeOf cX0_placeOf 1 (some .int)] ++ wsX00)
def wsX0_settledState : List Cond := .code yX0_settledState cX0_settledState 6 (some .int) :: ([.methodLink RX0 118 yX0_givenState, .instanceMethod yX0_givenState, .selects RX0 yX0_givenState yX0_givenState, .initialized RX0, .code yX0_givenState cX0_givenState 4 (some .int), .fieldLink RX0 34 "RumourReasoner" "reports" "[I", .methodLink RX0 124 yX0_nextState, .instanceMethod yX0_nextState, .selects RX0 yX0_nextState yX0_nextState, .code yX0_nextState cX0_nextState 5 (some .int), .fieldLink RX0 40 "RumourReasoner" "rules" "[I", .methodLink RX0 131 yX0_lookUp, .instanceMethod yX0_lookUp, .selects RX0 yX0_lookUp yX0_lookUp, .code yX0_lookUp cX0_lookUp 7 (some .int), .fieldLink RX0 21 "RumourReasoner" "trueSets" "[J", .fieldLink RX0 25 "RumourReasoner" "falseSets" "[J", .methodLink RX0 63 yX0_rowOf, .static yX0_rowOf, .code yX0_rowOf cX0_rowOf 1 (some .int), .methodLink RX0 59 yX0_placeOf, .static yX0_placeOf, .code yX0_placeOf cX0_placeOf 1 (some .int)] ++ wsX00)
def wsX0_settledNow_r1 : List Cond := [Cond.methodLink RX0 114 yX0_heard, Cond.instanceMethod yX0_heard, Cond.selects RX0 yX0_heard yX0_heard, Cond.initialized RX0, Cond.code yX0_heard cX0_heard 3 (some .int), Cond.methodLink RX0 107 yX0_isHeard, Cond.instanceMethod yX0_isHeard, Cond.selects RX0 yX0_isHeard yX0_isHeard, Cond.code yX0_isHeard cX0_isHeard 2 (some .boolean), Cond.fieldLink RX0 31 "RumourReasoner" "on" "[Z", Cond.fieldLink RX0 28 "RumourReasoner" "trusts" "[I", Cond.fieldLink RX0 37 "RumourReasoner" "leastTrust" "I", Cond.methodLink RX0 142 yX0_settledState, Cond.instanceMethod yX0_settledState, Cond.selects RX0 yX0_settledState yX0_settledState, Cond.code yX0_settledState cX0_settledState 6 (some .int), Cond.methodLink RX0 118 yX0_givenState, Cond.instanceMethod yX0_givenState, Cond.selects RX0 yX0_givenState yX0_givenState, Cond.code yX0_givenState cX0_givenState 4 (some .int), Cond.fieldLink RX0 34 "RumourReasoner" "reports" "[I", Cond.methodLink RX0 124 yX0_nextState, Cond.instanceMethod yX0_nextState, Cond.selects RX0 yX0_nextState yX0_nextState]
def wsX0_settledNow_r2 : List Cond := [Cond.code yX0_nextState cX0_nextState 5 (some .int), Cond.fieldLink RX0 40 "RumourReasoner" "rules" "[I", Cond.methodLink RX0 131 yX0_lookUp, Cond.instanceMethod yX0_lookUp, Cond.selects RX0 yX0_lookUp yX0_lookUp, Cond.code yX0_lookUp cX0_lookUp 7 (some .int), Cond.fieldLink RX0 21 "RumourReasoner" "trueSets" "[J", Cond.fieldLink RX0 25 "RumourReasoner" "falseSets" "[J", Cond.methodLink RX0 63 yX0_rowOf, Cond.static yX0_rowOf, Cond.code yX0_rowOf cX0_rowOf 1 (some .int), Cond.methodLink RX0 59 yX0_placeOf, Cond.static yX0_placeOf, Cond.code yX0_placeOf cX0_placeOf 1 (some .int)]
def wsX0_settledNow : List Cond := .code yX0_settledNow cX0_settledNow 1 (some .int) :: ((wsX0_settledNow_r1 ++ wsX0_settledNow_r2) ++ wsX00)
def wsX0_settled_r1 : List Cond := [Cond.methodLink RX0 52 yX0_requireAtom, Cond.static yX0_requireAtom, Cond.initialized RX0, Cond.code yX0_requireAtom cX0_requireAtom 1 none, Cond.classLink RX0 197 "java/lang/IndexOutOfBoundsException", Cond.initialized "java/lang/IndexOutOfBoundsException", Cond.methodLink RX0 121 yX0_settledNow, Cond.instanceMethod yX0_settledNow, Cond.selects RX0 yX0_settledNow yX0_settledNow, Cond.code yX0_settledNow cX0_settledNow 1 (some .int), Cond.methodLink RX0 114 yX0_heard, Cond.instanceMethod yX0_heard, Cond.selects RX0 yX0_heard yX0_heard, Cond.code yX0_heard cX0_heard 3 (some .int), Cond.methodLink RX0 107 yX0_isHeard, Cond.instanceMethod yX0_isHeard, Cond.selects RX0 yX0_isHeard yX0_isHeard, Cond.code yX0_isHeard cX0_isHeard 2 (some .boolean), Cond.fieldLink RX0 31 "RumourReasoner" "on" "[Z", Cond.fieldLink RX0 28 "RumourReasoner" "trusts" "[I", Cond.fieldLink RX0 37 "RumourReasoner" "leastTrust" "I", Cond.methodLink RX0 142 yX0_settledState, Cond.instanceMethod yX0_settledState, Cond.selects RX0 yX0_settledState yX0_settledState]
def wsX0_settled_r2 : List Cond := [Cond.code yX0_settledState cX0_settledState 6 (some .int), Cond.methodLink RX0 118 yX0_givenState, Cond.instanceMethod yX0_givenState, Cond.selects RX0 yX0_givenState yX0_givenState, Cond.code yX0_givenState cX0_givenState 4 (some .int), Cond.fieldLink RX0 34 "RumourReasoner" "reports" "[I", Cond.methodLink RX0 124 yX0_nextState, Cond.instanceMethod yX0_nextState, Cond.selects RX0 yX0_nextState yX0_nextState, Cond.code yX0_nextState cX0_nextState 5 (some .int), Cond.fieldLink RX0 40 "RumourReasoner" "rules" "[I", Cond.methodLink RX0 131 yX0_lookUp, Cond.instanceMethod yX0_lookUp, Cond.selects RX0 yX0_lookUp yX0_lookUp, Cond.code yX0_lookUp cX0_lookUp 7 (some .int), Cond.fieldLink RX0 21 "RumourReasoner" "trueSets" "[J", Cond.fieldLink RX0 25 "RumourReasoner" "falseSets" "[J", Cond.methodLink RX0 63 yX0_rowOf, Cond.static yX0_rowOf, Cond.code yX0_rowOf cX0_rowOf 1 (some .int), Cond.methodLink RX0 59 yX0_placeOf, Cond.static yX0_placeOf, Cond.code yX0_placeOf cX0_placeOf 1 (some .int), Cond.methodLink RX0 100 yX0_valueIn]
def wsX0_settled_r3 : List Cond := [Cond.static yX0_valueIn, Cond.code yX0_valueIn cX0_valueIn 2 (some .int)]
def wsX0_settled : List Cond := .code yX0_settled cX0_settled 2 (some .int) :: ((wsX0_settled_r1 ++ (wsX0_settled_r2 ++ wsX0_settled_r3)) ++ wsX00 ++ (vx_atS RX0 201 "java/lang/IndexOutOfBoundsException" ["java/lang/RuntimeException", "java/lang/Exception"]).filter goodWord)
def wsX0_rounds_r1 : List Cond := [Cond.methodLink RX0 114 yX0_heard, Cond.instanceMethod yX0_heard, Cond.selects RX0 yX0_heard yX0_heard, Cond.initialized RX0, Cond.code yX0_heard cX0_heard 3 (some .int), Cond.methodLink RX0 107 yX0_isHeard, Cond.instanceMethod yX0_isHeard, Cond.selects RX0 yX0_isHeard yX0_isHeard, Cond.code yX0_isHeard cX0_isHeard 2 (some .boolean), Cond.fieldLink RX0 31 "RumourReasoner" "on" "[Z", Cond.fieldLink RX0 28 "RumourReasoner" "trusts" "[I", Cond.fieldLink RX0 37 "RumourReasoner" "leastTrust" "I", Cond.methodLink RX0 118 yX0_givenState, Cond.instanceMethod yX0_givenState, Cond.selects RX0 yX0_givenState yX0_givenState, Cond.code yX0_givenState cX0_givenState 4 (some .int), Cond.fieldLink RX0 34 "RumourReasoner" "reports" "[I", Cond.methodLink RX0 124 yX0_nextState, Cond.instanceMethod yX0_nextState, Cond.selects RX0 yX0_nextState yX0_nextState, Cond.code yX0_nextState cX0_nextState 5 (some .int), Cond.fieldLink RX0 40 "RumourReasoner" "rules" "[I", Cond.methodLink RX0 131 yX0_lookUp, Cond.instanceMethod yX0_lookUp]
def wsX0_rounds_r2 : List Cond := [Cond.selects RX0 yX0_lookUp yX0_lookUp, Cond.code yX0_lookUp cX0_lookUp 7 (some .int), Cond.fieldLink RX0 21 "RumourReasoner" "trueSets" "[J", Cond.fieldLink RX0 25 "RumourReasoner" "falseSets" "[J", Cond.methodLink RX0 63 yX0_rowOf, Cond.static yX0_rowOf, Cond.code yX0_rowOf cX0_rowOf 1 (some .int), Cond.methodLink RX0 59 yX0_placeOf, Cond.static yX0_placeOf, Cond.code yX0_placeOf cX0_placeOf 1 (some .int)]
def wsX0_rounds : List Cond := .code yX0_rounds cX0_rounds 5 (some .int) :: ((wsX0_rounds_r1 ++ wsX0_rounds_r2) ++ wsX00)
def wsX0_isTold : List Cond := .code yX0_isTold cX0_isTold 2 (some .boolean) :: ([])
def wsX0_since_r1 : List Cond := [Cond.methodLink RX0 52 yX0_requireAtom, Cond.static yX0_requireAtom, Cond.initialized RX0, Cond.code yX0_requireAtom cX0_requireAtom 1 none, Cond.classLink RX0 197 "java/lang/IndexOutOfBoundsException", Cond.initialized "java/lang/IndexOutOfBoundsException", Cond.methodLink RX0 114 yX0_heard, Cond.instanceMethod yX0_heard, Cond.selects RX0 yX0_heard yX0_heard, Cond.code yX0_heard cX0_heard 3 (some .int), Cond.methodLink RX0 107 yX0_isHeard, Cond.instanceMethod yX0_isHeard, Cond.selects RX0 yX0_isHeard yX0_isHeard, Cond.code yX0_isHeard cX0_isHeard 2 (some .boolean), Cond.fieldLink RX0 31 "RumourReasoner" "on" "[Z", Cond.fieldLink RX0 28 "RumourReasoner" "trusts" "[I", Cond.fieldLink RX0 37 "RumourReasoner" "leastTrust" "I", Cond.methodLink RX0 118 yX0_givenState, Cond.instanceMethod yX0_givenState, Cond.selects RX0 yX0_givenState yX0_givenState, Cond.code yX0_givenState cX0_givenState 4 (some .int), Cond.fieldLink RX0 34 "RumourReasoner" "reports" "[I", Cond.methodLink RX0 100 yX0_valueIn, Cond.static yX0_valueIn]
def wsX0_since_r2 : List Cond := [Cond.code yX0_valueIn cX0_valueIn 2 (some .int), Cond.methodLink RX0 59 yX0_placeOf, Cond.static yX0_placeOf, Cond.code yX0_placeOf cX0_placeOf 1 (some .int), Cond.methodLink RX0 127 yX0_isTold, Cond.static yX0_isTold, Cond.code yX0_isTold cX0_isTold 2 (some .boolean), Cond.methodLink RX0 124 yX0_nextState, Cond.instanceMethod yX0_nextState, Cond.selects RX0 yX0_nextState yX0_nextState, Cond.code yX0_nextState cX0_nextState 5 (some .int), Cond.fieldLink RX0 40 "RumourReasoner" "rules" "[I", Cond.methodLink RX0 131 yX0_lookUp, Cond.instanceMethod yX0_lookUp, Cond.selects RX0 yX0_lookUp yX0_lookUp, Cond.code yX0_lookUp cX0_lookUp 7 (some .int), Cond.fieldLink RX0 21 "RumourReasoner" "trueSets" "[J", Cond.fieldLink RX0 25 "RumourReasoner" "falseSets" "[J", Cond.methodLink RX0 63 yX0_rowOf, Cond.static yX0_rowOf, Cond.code yX0_rowOf cX0_rowOf 1 (some .int)]
def wsX0_since : List Cond := .code yX0_since cX0_since 6 (some .int) :: ((wsX0_since_r1 ++ wsX0_since_r2) ++ wsX00 ++ (vx_atS RX0 201 "java/lang/IndexOutOfBoundsException" ["java/lang/RuntimeException", "java/lang/Exception"]).filter goodWord)
def wsX0_value_r1 : List Cond := [Cond.methodLink RX0 77 yX0_requireFormula, Cond.instanceMethod yX0_requireFormula, Cond.selects RX0 yX0_requireFormula yX0_requireFormula, Cond.initialized RX0, Cond.code yX0_requireFormula cX0_requireFormula 2 none, Cond.classLink RX0 197 "java/lang/IndexOutOfBoundsException", Cond.initialized "java/lang/IndexOutOfBoundsException", Cond.fieldLink RX0 9 "RumourReasoner" "count" "I", Cond.methodLink RX0 121 yX0_settledNow, Cond.instanceMethod yX0_settledNow, Cond.selects RX0 yX0_settledNow yX0_settledNow, Cond.code yX0_settledNow cX0_settledNow 1 (some .int), Cond.methodLink RX0 114 yX0_heard, Cond.instanceMethod yX0_heard, Cond.selects RX0 yX0_heard yX0_heard, Cond.code yX0_heard cX0_heard 3 (some .int), Cond.methodLink RX0 107 yX0_isHeard, Cond.instanceMethod yX0_isHeard, Cond.selects RX0 yX0_isHeard yX0_isHeard, Cond.code yX0_isHeard cX0_isHeard 2 (some .boolean), Cond.fieldLink RX0 31 "RumourReasoner" "on" "[Z", Cond.fieldLink RX0 28 "RumourReasoner" "trusts" "[I", Cond.fieldLink RX0 37 "RumourReasoner" "leastTrust" "I", Cond.methodLink RX0 142 yX0_settledState]
def wsX0_value_r2 : List Cond := [Cond.instanceMethod yX0_settledState, Cond.selects RX0 yX0_settledState yX0_settledState, Cond.code yX0_settledState cX0_settledState 6 (some .int), Cond.methodLink RX0 118 yX0_givenState, Cond.instanceMethod yX0_givenState, Cond.selects RX0 yX0_givenState yX0_givenState, Cond.code yX0_givenState cX0_givenState 4 (some .int), Cond.fieldLink RX0 34 "RumourReasoner" "reports" "[I", Cond.methodLink RX0 124 yX0_nextState, Cond.instanceMethod yX0_nextState, Cond.selects RX0 yX0_nextState yX0_nextState, Cond.code yX0_nextState cX0_nextState 5 (some .int), Cond.fieldLink RX0 40 "RumourReasoner" "rules" "[I", Cond.methodLink RX0 131 yX0_lookUp, Cond.instanceMethod yX0_lookUp, Cond.selects RX0 yX0_lookUp yX0_lookUp, Cond.code yX0_lookUp cX0_lookUp 7 (some .int), Cond.fieldLink RX0 21 "RumourReasoner" "trueSets" "[J", Cond.fieldLink RX0 25 "RumourReasoner" "falseSets" "[J", Cond.methodLink RX0 63 yX0_rowOf, Cond.static yX0_rowOf, Cond.code yX0_rowOf cX0_rowOf 1 (some .int), Cond.methodLink RX0 59 yX0_placeOf, Cond.static yX0_placeOf]
def wsX0_value_r3 : List Cond := [Cond.code yX0_placeOf cX0_placeOf 1 (some .int)]
def wsX0_value : List Cond := .code yX0_value cX0_value 2 (some .int) :: ((wsX0_value_r1 ++ (wsX0_value_r2 ++ wsX0_value_r3)) ++ wsX00 ++ (vx_atS RX0 201 "java/lang/IndexOutOfBoundsException" ["java/lang/RuntimeException", "java/lang/Exception"]).filter goodWord)
def wsX0_atomsWith : List Cond := .code yX0_atomsWith cX0_atomsWith 4 (some .int) :: ([.methodLink RX0 100 yX0_valueIn, .static yX0_valueIn, .initialized RX0, .code yX0_valueIn cX0_valueIn 2 (some .int), .methodLink RX0 59 yX0_placeOf, .static yX0_placeOf, .code yX0_placeOf cX0_placeOf 1 (some .int)])
def wsX0_conflicts_r1 : List Cond := [Cond.methodLink RX0 121 yX0_settledNow, Cond.instanceMethod yX0_settledNow, Cond.selects RX0 yX0_settledNow yX0_settledNow, Cond.initialized RX0, Cond.code yX0_settledNow cX0_settledNow 1 (some .int), Cond.methodLink RX0 114 yX0_heard, Cond.instanceMethod yX0_heard, Cond.selects RX0 yX0_heard yX0_heard, Cond.code yX0_heard cX0_heard 3 (some .int), Cond.methodLink RX0 107 yX0_isHeard, Cond.instanceMethod yX0_isHeard, Cond.selects RX0 yX0_isHeard yX0_isHeard, Cond.code yX0_isHeard cX0_isHeard 2 (some .boolean), Cond.fieldLink RX0 31 "RumourReasoner" "on" "[Z", Cond.fieldLink RX0 28 "RumourReasoner" "trusts" "[I", Cond.fieldLink RX0 37 "RumourReasoner" "leastTrust" "I", Cond.methodLink RX0 142 yX0_settledState, Cond.instanceMethod yX0_settledState, Cond.selects RX0 yX0_settledState yX0_settledState, Cond.code yX0_settledState cX0_settledState 6 (some .int), Cond.methodLink RX0 118 yX0_givenState, Cond.instanceMethod yX0_givenState, Cond.selects RX0 yX0_givenState yX0_givenState, Cond.code yX0_givenState cX0_givenState 4 (some .int)]
def wsX0_conflicts_r2 : List Cond := [Cond.fieldLink RX0 34 "RumourReasoner" "reports" "[I", Cond.methodLink RX0 124 yX0_nextState, Cond.instanceMethod yX0_nextState, Cond.selects RX0 yX0_nextState yX0_nextState, Cond.code yX0_nextState cX0_nextState 5 (some .int), Cond.fieldLink RX0 40 "RumourReasoner" "rules" "[I", Cond.methodLink RX0 131 yX0_lookUp, Cond.instanceMethod yX0_lookUp, Cond.selects RX0 yX0_lookUp yX0_lookUp, Cond.code yX0_lookUp cX0_lookUp 7 (some .int), Cond.fieldLink RX0 21 "RumourReasoner" "trueSets" "[J", Cond.fieldLink RX0 25 "RumourReasoner" "falseSets" "[J", Cond.methodLink RX0 63 yX0_rowOf, Cond.static yX0_rowOf, Cond.code yX0_rowOf cX0_rowOf 1 (some .int), Cond.methodLink RX0 59 yX0_placeOf, Cond.static yX0_placeOf, Cond.code yX0_placeOf cX0_placeOf 1 (some .int), Cond.methodLink RX0 134 yX0_atomsWith, Cond.static yX0_atomsWith, Cond.code yX0_atomsWith cX0_atomsWith 4 (some .int), Cond.methodLink RX0 100 yX0_valueIn, Cond.static yX0_valueIn, Cond.code yX0_valueIn cX0_valueIn 2 (some .int)]
def wsX0_conflicts : List Cond := .code yX0_conflicts cX0_conflicts 1 (some .int) :: ((wsX0_conflicts_r1 ++ wsX0_conflicts_r2) ++ wsX00)
def wsX0_gaps_r1 : List Cond := [Cond.methodLink RX0 121 yX0_settledNow, Cond.instanceMethod yX0_settledNow, Cond.selects RX0 yX0_settledNow yX0_settledNow, Cond.initialized RX0, Cond.code yX0_settledNow cX0_settledNow 1 (some .int), Cond.methodLink RX0 114 yX0_heard, Cond.instanceMethod yX0_heard, Cond.selects RX0 yX0_heard yX0_heard, Cond.code yX0_heard cX0_heard 3 (some .int), Cond.methodLink RX0 107 yX0_isHeard, Cond.instanceMethod yX0_isHeard, Cond.selects RX0 yX0_isHeard yX0_isHeard, Cond.code yX0_isHeard cX0_isHeard 2 (some .boolean), Cond.fieldLink RX0 31 "RumourReasoner" "on" "[Z", Cond.fieldLink RX0 28 "RumourReasoner" "trusts" "[I", Cond.fieldLink RX0 37 "RumourReasoner" "leastTrust" "I", Cond.methodLink RX0 142 yX0_settledState, Cond.instanceMethod yX0_settledState, Cond.selects RX0 yX0_settledState yX0_settledState, Cond.code yX0_settledState cX0_settledState 6 (some .int), Cond.methodLink RX0 118 yX0_givenState, Cond.instanceMethod yX0_givenState, Cond.selects RX0 yX0_givenState yX0_givenState, Cond.code yX0_givenState cX0_givenState 4 (some .int)]
def wsX0_gaps_r2 : List Cond := [Cond.fieldLink RX0 34 "RumourReasoner" "reports" "[I", Cond.methodLink RX0 124 yX0_nextState, Cond.instanceMethod yX0_nextState, Cond.selects RX0 yX0_nextState yX0_nextState, Cond.code yX0_nextState cX0_nextState 5 (some .int), Cond.fieldLink RX0 40 "RumourReasoner" "rules" "[I", Cond.methodLink RX0 131 yX0_lookUp, Cond.instanceMethod yX0_lookUp, Cond.selects RX0 yX0_lookUp yX0_lookUp, Cond.code yX0_lookUp cX0_lookUp 7 (some .int), Cond.fieldLink RX0 21 "RumourReasoner" "trueSets" "[J", Cond.fieldLink RX0 25 "RumourReasoner" "falseSets" "[J", Cond.methodLink RX0 63 yX0_rowOf, Cond.static yX0_rowOf, Cond.code yX0_rowOf cX0_rowOf 1 (some .int), Cond.methodLink RX0 59 yX0_placeOf, Cond.static yX0_placeOf, Cond.code yX0_placeOf cX0_placeOf 1 (some .int), Cond.methodLink RX0 134 yX0_atomsWith, Cond.static yX0_atomsWith, Cond.code yX0_atomsWith cX0_atomsWith 4 (some .int), Cond.methodLink RX0 100 yX0_valueIn, Cond.static yX0_valueIn, Cond.code yX0_valueIn cX0_valueIn 2 (some .int)]
def wsX0_gaps : List Cond := .code yX0_gaps cX0_gaps 1 (some .int) :: ((wsX0_gaps_r1 ++ wsX0_gaps_r2) ++ wsX00)
def wsJ6_bitCount_0f7a4 : List Cond := .code yJ6_bitCount_0f7a4 cJ6_bitCount_0f7a4 1 (some .int) :: ([.constant RJ6 265 (1431655765), .constant RJ6 266 (858993459), .constant RJ6 267 (252645135)])
def wsX0_discord_r1 : List Cond := [Cond.methodLink RX0 121 yX0_settledNow, Cond.instanceMethod yX0_settledNow, Cond.selects RX0 yX0_settledNow yX0_settledNow, Cond.initialized RX0, Cond.code yX0_settledNow cX0_settledNow 1 (some .int), Cond.methodLink RX0 114 yX0_heard, Cond.instanceMethod yX0_heard, Cond.selects RX0 yX0_heard yX0_heard, Cond.code yX0_heard cX0_heard 3 (some .int), Cond.methodLink RX0 107 yX0_isHeard, Cond.instanceMethod yX0_isHeard, Cond.selects RX0 yX0_isHeard yX0_isHeard, Cond.code yX0_isHeard cX0_isHeard 2 (some .boolean), Cond.fieldLink RX0 31 "RumourReasoner" "on" "[Z", Cond.fieldLink RX0 28 "RumourReasoner" "trusts" "[I", Cond.fieldLink RX0 37 "RumourReasoner" "leastTrust" "I", Cond.methodLink RX0 142 yX0_settledState, Cond.instanceMethod yX0_settledState, Cond.selects RX0 yX0_settledState yX0_settledState, Cond.code yX0_settledState cX0_settledState 6 (some .int), Cond.methodLink RX0 118 yX0_givenState, Cond.instanceMethod yX0_givenState, Cond.selects RX0 yX0_givenState yX0_givenState, Cond.code yX0_givenState cX0_givenState 4 (some .int)]
def wsX0_discord_r2 : List Cond := [Cond.fieldLink RX0 34 "RumourReasoner" "reports" "[I", Cond.methodLink RX0 124 yX0_nextState, Cond.instanceMethod yX0_nextState, Cond.selects RX0 yX0_nextState yX0_nextState, Cond.code yX0_nextState cX0_nextState 5 (some .int), Cond.fieldLink RX0 40 "RumourReasoner" "rules" "[I", Cond.methodLink RX0 131 yX0_lookUp, Cond.instanceMethod yX0_lookUp, Cond.selects RX0 yX0_lookUp yX0_lookUp, Cond.code yX0_lookUp cX0_lookUp 7 (some .int), Cond.fieldLink RX0 21 "RumourReasoner" "trueSets" "[J", Cond.fieldLink RX0 25 "RumourReasoner" "falseSets" "[J", Cond.methodLink RX0 63 yX0_rowOf, Cond.static yX0_rowOf, Cond.code yX0_rowOf cX0_rowOf 1 (some .int), Cond.methodLink RX0 59 yX0_placeOf, Cond.static yX0_placeOf, Cond.code yX0_placeOf cX0_placeOf 1 (some .int), Cond.methodLink RX0 134 yX0_atomsWith, Cond.static yX0_atomsWith, Cond.code yX0_atomsWith cX0_atomsWith 4 (some .int), Cond.methodLink RX0 100 yX0_valueIn, Cond.static yX0_valueIn, Cond.code yX0_valueIn cX0_valueIn 2 (some .int)]
def wsX0_discord_r3 : List Cond := [Cond.methodLink RX0 137 yJ6_bitCount_0f7a4, Cond.static yJ6_bitCount_0f7a4, Cond.initialized RJ6, Cond.code yJ6_bitCount_0f7a4 cJ6_bitCount_0f7a4 1 (some .int), Cond.constant RJ6 265 (1431655765), Cond.constant RJ6 266 (858993459), Cond.constant RJ6 267 (252645135)]
def wsX0_discord : List Cond := .code yX0_discord cX0_discord 3 (some .double) :: ((wsX0_discord_r1 ++ (wsX0_discord_r2 ++ wsX0_discord_r3)) ++ wsX00)
def wsX0_sayers : List Cond := .code yX0_sayers cX0_sayers 5 (some .int) :: ([.fieldLink RX0 34 "RumourReasoner" "reports" "[I", .methodLink RX0 52 yX0_requireAtom, .static yX0_requireAtom, .initialized RX0, .code yX0_requireAtom cX0_requireAtom 1 none, .classLink RX0 197 "java/lang/IndexOutOfBoundsException", .initialized "java/lang/IndexOutOfBoundsException", .methodLink RX0 107 yX0_isHeard, .instanceMethod yX0_isHeard, .selects RX0 yX0_isHeard yX0_isHeard, .code yX0_isHeard cX0_isHeard 2 (some .boolean), .fieldLink RX0 31 "RumourReasoner" "on" "[Z", .fieldLink RX0 28 "RumourReasoner" "trusts" "[I", .fieldLink RX0 37 "RumourReasoner" "leastTrust" "I", .methodLink RX0 100 yX0_valueIn, .static yX0_valueIn, .code yX0_valueIn cX0_valueIn 2 (some .int), .methodLink RX0 59 yX0_placeOf, .static yX0_placeOf, .code yX0_placeOf cX0_placeOf 1 (some .int), .methodLink RX0 127 yX0_isTold, .static yX0_isTold, .code yX0_isTold cX0_isTold 2 (some .boolean)] ++ wsX00 ++ (vx_atS RX0 201 "java/lang/IndexOutOfBoundsException" ["java/lang/RuntimeException", "java/lang/Exception"]).filter goodWord)
def wsX0_matters_r1 : List Cond := [Cond.methodLink RX0 97 yX0_requireSource, Cond.static yX0_requireSource, Cond.initialized RX0, Cond.code yX0_requireSource cX0_requireSource 1 none, Cond.classLink RX0 197 "java/lang/IndexOutOfBoundsException", Cond.initialized "java/lang/IndexOutOfBoundsException", Cond.methodLink RX0 52 yX0_requireAtom, Cond.static yX0_requireAtom, Cond.code yX0_requireAtom cX0_requireAtom 1 none, Cond.methodLink RX0 114 yX0_heard, Cond.instanceMethod yX0_heard, Cond.selects RX0 yX0_heard yX0_heard, Cond.code yX0_heard cX0_heard 3 (some .int), Cond.methodLink RX0 107 yX0_isHeard, Cond.instanceMethod yX0_isHeard, Cond.selects RX0 yX0_isHeard yX0_isHeard, Cond.code yX0_isHeard cX0_isHeard 2 (some .boolean), Cond.fieldLink RX0 31 "RumourReasoner" "on" "[Z", Cond.fieldLink RX0 28 "RumourReasoner" "trusts" "[I", Cond.fieldLink RX0 37 "RumourReasoner" "leastTrust" "I", Cond.methodLink RX0 142 yX0_settledState, Cond.instanceMethod yX0_settledState, Cond.selects RX0 yX0_settledState yX0_settledState, Cond.code yX0_settledState cX0_settledState 6 (some .int)]
def wsX0_matters_r2 : List Cond := [Cond.methodLink RX0 118 yX0_givenState, Cond.instanceMethod yX0_givenState, Cond.selects RX0 yX0_givenState yX0_givenState, Cond.code yX0_givenState cX0_givenState 4 (some .int), Cond.fieldLink RX0 34 "RumourReasoner" "reports" "[I", Cond.methodLink RX0 124 yX0_nextState, Cond.instanceMethod yX0_nextState, Cond.selects RX0 yX0_nextState yX0_nextState, Cond.code yX0_nextState cX0_nextState 5 (some .int), Cond.fieldLink RX0 40 "RumourReasoner" "rules" "[I", Cond.methodLink RX0 131 yX0_lookUp, Cond.instanceMethod yX0_lookUp, Cond.selects RX0 yX0_lookUp yX0_lookUp, Cond.code yX0_lookUp cX0_lookUp 7 (some .int), Cond.fieldLink RX0 21 "RumourReasoner" "trueSets" "[J", Cond.fieldLink RX0 25 "RumourReasoner" "falseSets" "[J", Cond.methodLink RX0 63 yX0_rowOf, Cond.static yX0_rowOf, Cond.code yX0_rowOf cX0_rowOf 1 (some .int), Cond.methodLink RX0 59 yX0_placeOf, Cond.static yX0_placeOf, Cond.code yX0_placeOf cX0_placeOf 1 (some .int), Cond.methodLink RX0 100 yX0_valueIn, Cond.static yX0_valueIn]
def wsX0_matters_r3 : List Cond := [Cond.code yX0_valueIn cX0_valueIn 2 (some .int)]
def wsX0_matters : List Cond := .code yX0_matters cX0_matters 5 (some .boolean) :: ((wsX0_matters_r1 ++ (wsX0_matters_r2 ++ wsX0_matters_r3)) ++ wsX00 ++ (vx_atS RX0 201 "java/lang/IndexOutOfBoundsException" ["java/lang/RuntimeException", "java/lang/Exception"]).filter goodWord)
def wsX0_trustOf : List Cond := .code yX0_trustOf cX0_trustOf 4 (some .int) :: ([.fieldLink RX0 28 "RumourReasoner" "trusts" "[I"] ++ wsX00)
def wsX0_silence_r1 : List Cond := [Cond.methodLink RX0 114 yX0_heard, Cond.instanceMethod yX0_heard, Cond.selects RX0 yX0_heard yX0_heard, Cond.initialized RX0, Cond.code yX0_heard cX0_heard 3 (some .int), Cond.methodLink RX0 107 yX0_isHeard, Cond.instanceMethod yX0_isHeard, Cond.selects RX0 yX0_isHeard yX0_isHeard, Cond.code yX0_isHeard cX0_isHeard 2 (some .boolean), Cond.fieldLink RX0 31 "RumourReasoner" "on" "[Z", Cond.fieldLink RX0 28 "RumourReasoner" "trusts" "[I", Cond.fieldLink RX0 37 "RumourReasoner" "leastTrust" "I", Cond.methodLink RX0 145 yX0_trustOf, Cond.instanceMethod yX0_trustOf, Cond.selects RX0 yX0_trustOf yX0_trustOf, Cond.code yX0_trustOf cX0_trustOf 4 (some .int), Cond.methodLink RX0 142 yX0_settledState, Cond.instanceMethod yX0_settledState, Cond.selects RX0 yX0_settledState yX0_settledState, Cond.code yX0_settledState cX0_settledState 6 (some .int), Cond.methodLink RX0 118 yX0_givenState, Cond.instanceMethod yX0_givenState, Cond.selects RX0 yX0_givenState yX0_givenState, Cond.code yX0_givenState cX0_givenState 4 (some .int)]
def wsX0_silence_r2 : List Cond := [Cond.fieldLink RX0 34 "RumourReasoner" "reports" "[I", Cond.methodLink RX0 124 yX0_nextState, Cond.instanceMethod yX0_nextState, Cond.selects RX0 yX0_nextState yX0_nextState, Cond.code yX0_nextState cX0_nextState 5 (some .int), Cond.fieldLink RX0 40 "RumourReasoner" "rules" "[I", Cond.methodLink RX0 131 yX0_lookUp, Cond.instanceMethod yX0_lookUp, Cond.selects RX0 yX0_lookUp yX0_lookUp, Cond.code yX0_lookUp cX0_lookUp 7 (some .int), Cond.fieldLink RX0 21 "RumourReasoner" "trueSets" "[J", Cond.fieldLink RX0 25 "RumourReasoner" "falseSets" "[J", Cond.methodLink RX0 63 yX0_rowOf, Cond.static yX0_rowOf, Cond.code yX0_rowOf cX0_rowOf 1 (some .int), Cond.methodLink RX0 59 yX0_placeOf, Cond.static yX0_placeOf, Cond.code yX0_placeOf cX0_placeOf 1 (some .int), Cond.methodLink RX0 134 yX0_atomsWith, Cond.static yX0_atomsWith, Cond.code yX0_atomsWith cX0_atomsWith 4 (some .int), Cond.methodLink RX0 100 yX0_valueIn, Cond.static yX0_valueIn, Cond.code yX0_valueIn cX0_valueIn 2 (some .int)]
def wsX0_silence : List Cond := .code yX0_silence cX0_silence 6 (some .int) :: ((wsX0_silence_r1 ++ wsX0_silence_r2) ++ wsX00)
def wsX0_isAgainst : List Cond := .code yX0_isAgainst cX0_isAgainst 2 (some .boolean) :: ([.methodLink RX0 127 yX0_isTold, .static yX0_isTold, .initialized RX0, .code yX0_isTold cX0_isTold 2 (some .boolean)])
def wsX0_contradicted_r1 : List Cond := [Cond.fieldLink RX0 34 "RumourReasoner" "reports" "[I", Cond.methodLink RX0 97 yX0_requireSource, Cond.static yX0_requireSource, Cond.initialized RX0, Cond.code yX0_requireSource cX0_requireSource 1 none, Cond.classLink RX0 197 "java/lang/IndexOutOfBoundsException", Cond.initialized "java/lang/IndexOutOfBoundsException", Cond.methodLink RX0 121 yX0_settledNow, Cond.instanceMethod yX0_settledNow, Cond.selects RX0 yX0_settledNow yX0_settledNow, Cond.code yX0_settledNow cX0_settledNow 1 (some .int), Cond.methodLink RX0 114 yX0_heard, Cond.instanceMethod yX0_heard, Cond.selects RX0 yX0_heard yX0_heard, Cond.code yX0_heard cX0_heard 3 (some .int), Cond.methodLink RX0 107 yX0_isHeard, Cond.instanceMethod yX0_isHeard, Cond.selects RX0 yX0_isHeard yX0_isHeard, Cond.code yX0_isHeard cX0_isHeard 2 (some .boolean), Cond.fieldLink RX0 31 "RumourReasoner" "on" "[Z", Cond.fieldLink RX0 28 "RumourReasoner" "trusts" "[I", Cond.fieldLink RX0 37 "RumourReasoner" "leastTrust" "I", Cond.methodLink RX0 142 yX0_settledState, Cond.instanceMethod yX0_settledState]
def wsX0_contradicted_r2 : List Cond := [Cond.selects RX0 yX0_settledState yX0_settledState, Cond.code yX0_settledState cX0_settledState 6 (some .int), Cond.methodLink RX0 118 yX0_givenState, Cond.instanceMethod yX0_givenState, Cond.selects RX0 yX0_givenState yX0_givenState, Cond.code yX0_givenState cX0_givenState 4 (some .int), Cond.methodLink RX0 124 yX0_nextState, Cond.instanceMethod yX0_nextState, Cond.selects RX0 yX0_nextState yX0_nextState, Cond.code yX0_nextState cX0_nextState 5 (some .int), Cond.fieldLink RX0 40 "RumourReasoner" "rules" "[I", Cond.methodLink RX0 131 yX0_lookUp, Cond.instanceMethod yX0_lookUp, Cond.selects RX0 yX0_lookUp yX0_lookUp, Cond.code yX0_lookUp cX0_lookUp 7 (some .int), Cond.fieldLink RX0 21 "RumourReasoner" "trueSets" "[J", Cond.fieldLink RX0 25 "RumourReasoner" "falseSets" "[J", Cond.methodLink RX0 63 yX0_rowOf, Cond.static yX0_rowOf, Cond.code yX0_rowOf cX0_rowOf 1 (some .int), Cond.methodLink RX0 59 yX0_placeOf, Cond.static yX0_placeOf, Cond.code yX0_placeOf cX0_placeOf 1 (some .int), Cond.methodLink RX0 100 yX0_valueIn]
def wsX0_contradicted_r3 : List Cond := [Cond.static yX0_valueIn, Cond.code yX0_valueIn cX0_valueIn 2 (some .int), Cond.methodLink RX0 148 yX0_isAgainst, Cond.static yX0_isAgainst, Cond.code yX0_isAgainst cX0_isAgainst 2 (some .boolean), Cond.methodLink RX0 127 yX0_isTold, Cond.static yX0_isTold, Cond.code yX0_isTold cX0_isTold 2 (some .boolean)]
def wsX0_contradicted : List Cond := .code yX0_contradicted cX0_contradicted 5 (some .int) :: ((wsX0_contradicted_r1 ++ (wsX0_contradicted_r2 ++ wsX0_contradicted_r3)) ++ wsX00 ++ (vx_atS RX0 201 "java/lang/IndexOutOfBoundsException" ["java/lang/RuntimeException", "java/lang/Exception"]).filter goodWord)
def wsX0_triplesOf : List Cond := .code yX0_triplesOf cX0_triplesOf 7 (some .long) :: ([])
def wsX0_setLogic : List Cond := .code yX0_setLogic cX0_setLogic 3 (some .int) :: ([.classLink RX0 80 "java/lang/IllegalArgumentException", .initialized "java/lang/IllegalArgumentException", .fieldLink RX0 43 "RumourReasoner" "logic" "I", .fieldLink RX0 48 "RumourReasoner" "logicTriples" "J", .methodLink RX0 154 yX0_triplesOf, .static yX0_triplesOf, .initialized RX0, .code yX0_triplesOf cX0_triplesOf 7 (some .long)] ++ wsX00 ++ (vx_atS RX0 84 "java/lang/IllegalArgumentException" ["java/lang/RuntimeException", "java/lang/Exception"]).filter goodWord)
def wsX0_logicWord : List Cond := .code yX0_logicWord cX0_logicWord 2 (some .long) :: ([.fieldLink RX0 48 "RumourReasoner" "logicTriples" "J"] ++ wsX00)
def wsJ13_bitCount_95d88 : List Cond := .code yJ13_bitCount_95d88 cJ13_bitCount_95d88 2 (some .int) :: ([.constantLong RJ13 314 (6148914691236517205), .constantLong RJ13 316 (3689348814741910323), .constantLong RJ13 318 (1085102592571150095)])
def wsX0_models : List Cond := .code yX0_models cX0_models 5 (some .int) :: ([.fieldLink RX0 21 "RumourReasoner" "trueSets" "[J", .methodLink RX0 77 yX0_requireFormula, .instanceMethod yX0_requireFormula, .selects RX0 yX0_requireFormula yX0_requireFormula, .initialized RX0, .code yX0_requireFormula cX0_requireFormula 2 none, .classLink RX0 197 "java/lang/IndexOutOfBoundsException", .initialized "java/lang/IndexOutOfBoundsException", .fieldLink RX0 9 "RumourReasoner" "count" "I", .methodLink RX0 63 yX0_rowOf, .static yX0_rowOf, .code yX0_rowOf cX0_rowOf 1 (some .int), .methodLink RX0 158 yX0_logicWord, .instanceMethod yX0_logicWord, .selects RX0 yX0_logicWord yX0_logicWord, .code yX0_logicWord cX0_logicWord 2 (some .long), .fieldLink RX0 48 "RumourReasoner" "logicTriples" "J", .methodLink RX0 161 yJ13_bitCount_95d88, .static yJ13_bitCount_95d88, .initialized RJ13, .code yJ13_bitCount_95d88 cJ13_bitCount_95d88 2 (some .int), .constantLong RJ13 314 (6148914691236517205), .constantLong RJ13 316 (3689348814741910323), .constantLong RJ13 318 (1085102592571150095)] ++ wsX00 ++ (vx_atS RX0 201 "java/lang/IndexOutOfBoundsException" ["java/lang/RuntimeException", "java/lang/Exception"]).filter goodWord)
def wsX0_pick : List Cond := .code yX0_pick cX0_pick 5 (some .long) :: ([.constantLong RX0 46 (-1), .methodLink RX0 127 yX0_isTold, .static yX0_isTold, .initialized RX0, .code yX0_isTold cX0_isTold 2 (some .boolean)])
def wsX0_range_r1 : List Cond := [Cond.fieldLink RX0 21 "RumourReasoner" "trueSets" "[J", Cond.fieldLink RX0 25 "RumourReasoner" "falseSets" "[J", Cond.methodLink RX0 77 yX0_requireFormula, Cond.instanceMethod yX0_requireFormula, Cond.selects RX0 yX0_requireFormula yX0_requireFormula, Cond.initialized RX0, Cond.code yX0_requireFormula cX0_requireFormula 2 none, Cond.classLink RX0 197 "java/lang/IndexOutOfBoundsException", Cond.initialized "java/lang/IndexOutOfBoundsException", Cond.fieldLink RX0 9 "RumourReasoner" "count" "I", Cond.methodLink RX0 63 yX0_rowOf, Cond.static yX0_rowOf, Cond.code yX0_rowOf cX0_rowOf 1 (some .int), Cond.methodLink RX0 166 yX0_pick, Cond.static yX0_pick, Cond.code yX0_pick cX0_pick 5 (some .long), Cond.constantLong RX0 46 (-1), Cond.methodLink RX0 127 yX0_isTold, Cond.static yX0_isTold, Cond.code yX0_isTold cX0_isTold 2 (some .boolean), Cond.methodLink RX0 158 yX0_logicWord, Cond.instanceMethod yX0_logicWord, Cond.selects RX0 yX0_logicWord yX0_logicWord, Cond.code yX0_logicWord cX0_logicWord 2 (some .long)]
def wsX0_range_r2 : List Cond := [Cond.fieldLink RX0 48 "RumourReasoner" "logicTriples" "J"]
def wsX0_range : List Cond := .code yX0_range cX0_range 8 (some .int) :: ((wsX0_range_r1 ++ wsX0_range_r2) ++ wsX00 ++ (vx_atS RX0 201 "java/lang/IndexOutOfBoundsException" ["java/lang/RuntimeException", "java/lang/Exception"]).filter goodWord)
def wsX0_lowestBit : List Cond := .code yX0_lowestBit cX0_lowestBit 2 (some .int) :: ([.methodLink RX0 161 yJ13_bitCount_95d88, .static yJ13_bitCount_95d88, .initialized RJ13, .code yJ13_bitCount_95d88 cJ13_bitCount_95d88 2 (some .int), .constantLong RJ13 314 (6148914691236517205), .constantLong RJ13 316 (3689348814741910323), .constantLong RJ13 318 (1085102592571150095)])
def wsX0_against_r1 : List Cond := [Cond.fieldLink RX0 21 "RumourReasoner" "trueSets" "[J", Cond.constantLong RX0 46 (-1), Cond.methodLink RX0 77 yX0_requireFormula, Cond.instanceMethod yX0_requireFormula, Cond.selects RX0 yX0_requireFormula yX0_requireFormula, Cond.initialized RX0, Cond.code yX0_requireFormula cX0_requireFormula 2 none, Cond.classLink RX0 197 "java/lang/IndexOutOfBoundsException", Cond.initialized "java/lang/IndexOutOfBoundsException", Cond.fieldLink RX0 9 "RumourReasoner" "count" "I", Cond.methodLink RX0 63 yX0_rowOf, Cond.static yX0_rowOf, Cond.code yX0_rowOf cX0_rowOf 1 (some .int), Cond.methodLink RX0 158 yX0_logicWord, Cond.instanceMethod yX0_logicWord, Cond.selects RX0 yX0_logicWord yX0_logicWord, Cond.code yX0_logicWord cX0_logicWord 2 (some .long), Cond.fieldLink RX0 48 "RumourReasoner" "logicTriples" "J", Cond.methodLink RX0 173 yX0_lowestBit, Cond.static yX0_lowestBit, Cond.code yX0_lowestBit cX0_lowestBit 2 (some .int), Cond.methodLink RX0 161 yJ13_bitCount_95d88, Cond.static yJ13_bitCount_95d88, Cond.initialized RJ13]
def wsX0_against_r2 : List Cond := [Cond.code yJ13_bitCount_95d88 cJ13_bitCount_95d88 2 (some .int), Cond.constantLong RJ13 314 (6148914691236517205), Cond.constantLong RJ13 316 (3689348814741910323), Cond.constantLong RJ13 318 (1085102592571150095)]
def wsX0_against : List Cond := .code yX0_against cX0_against 8 (some .int) :: ((wsX0_against_r1 ++ wsX0_against_r2) ++ wsX00 ++ (vx_atS RX0 201 "java/lang/IndexOutOfBoundsException" ["java/lang/RuntimeException", "java/lang/Exception"]).filter goodWord)
def wsX0_entails_r1 : List Cond := [Cond.methodLink RX0 170 yX0_against, Cond.instanceMethod yX0_against, Cond.selects RX0 yX0_against yX0_against, Cond.initialized RX0, Cond.code yX0_against cX0_against 8 (some .int), Cond.fieldLink RX0 21 "RumourReasoner" "trueSets" "[J", Cond.constantLong RX0 46 (-1), Cond.methodLink RX0 77 yX0_requireFormula, Cond.instanceMethod yX0_requireFormula, Cond.selects RX0 yX0_requireFormula yX0_requireFormula, Cond.code yX0_requireFormula cX0_requireFormula 2 none, Cond.classLink RX0 197 "java/lang/IndexOutOfBoundsException", Cond.initialized "java/lang/IndexOutOfBoundsException", Cond.fieldLink RX0 9 "RumourReasoner" "count" "I", Cond.methodLink RX0 63 yX0_rowOf, Cond.static yX0_rowOf, Cond.code yX0_rowOf cX0_rowOf 1 (some .int), Cond.methodLink RX0 158 yX0_logicWord, Cond.instanceMethod yX0_logicWord, Cond.selects RX0 yX0_logicWord yX0_logicWord, Cond.code yX0_logicWord cX0_logicWord 2 (some .long), Cond.fieldLink RX0 48 "RumourReasoner" "logicTriples" "J", Cond.methodLink RX0 173 yX0_lowestBit, Cond.static yX0_lowestBit]
def wsX0_entails_r2 : List Cond := [Cond.code yX0_lowestBit cX0_lowestBit 2 (some .int), Cond.methodLink RX0 161 yJ13_bitCount_95d88, Cond.static yJ13_bitCount_95d88, Cond.initialized RJ13, Cond.code yJ13_bitCount_95d88 cJ13_bitCount_95d88 2 (some .int), Cond.constantLong RJ13 314 (6148914691236517205), Cond.constantLong RJ13 316 (3689348814741910323), Cond.constantLong RJ13 318 (1085102592571150095)]
def wsX0_entails : List Cond := .code yX0_entails cX0_entails 3 (some .boolean) :: ((wsX0_entails_r1 ++ wsX0_entails_r2) ++ wsX00 ++ (vx_atS RX0 201 "java/lang/IndexOutOfBoundsException" ["java/lang/RuntimeException", "java/lang/Exception"]).filter goodWord)
def wsX0_differing : List Cond := .code yX0_differing cX0_differing 8 (some .long) :: ([.fieldLink RX0 21 "RumourReasoner" "trueSets" "[J", .fieldLink RX0 25 "RumourReasoner" "falseSets" "[J"] ++ wsX00)
def wsX0_areEqual : List Cond := .code yX0_areEqual cX0_areEqual 6 (some .boolean) :: ([.methodLink RX0 77 yX0_requireFormula, .instanceMethod yX0_requireFormula, .selects RX0 yX0_requireFormula yX0_requireFormula, .initialized RX0, .code yX0_requireFormula cX0_requireFormula 2 none, .classLink RX0 197 "java/lang/IndexOutOfBoundsException", .initialized "java/lang/IndexOutOfBoundsException", .fieldLink RX0 9 "RumourReasoner" "count" "I", .methodLink RX0 63 yX0_rowOf, .static yX0_rowOf, .code yX0_rowOf cX0_rowOf 1 (some .int), .methodLink RX0 176 yX0_differing, .instanceMethod yX0_differing, .selects RX0 yX0_differing yX0_differing, .code yX0_differing cX0_differing 8 (some .long), .fieldLink RX0 21 "RumourReasoner" "trueSets" "[J", .fieldLink RX0 25 "RumourReasoner" "falseSets" "[J", .methodLink RX0 158 yX0_logicWord, .instanceMethod yX0_logicWord, .selects RX0 yX0_logicWord yX0_logicWord, .code yX0_logicWord cX0_logicWord 2 (some .long), .fieldLink RX0 48 "RumourReasoner" "logicTriples" "J"] ++ wsX00 ++ (vx_atS RX0 201 "java/lang/IndexOutOfBoundsException" ["java/lang/RuntimeException", "java/lang/Exception"]).filter goodWord)
def wsX0_isChanged_r1 : List Cond := [Cond.methodLink RX0 63 yX0_rowOf, Cond.static yX0_rowOf, Cond.initialized RX0, Cond.code yX0_rowOf cX0_rowOf 1 (some .int), Cond.methodLink RX0 59 yX0_placeOf, Cond.static yX0_placeOf, Cond.code yX0_placeOf cX0_placeOf 1 (some .int), Cond.methodLink RX0 158 yX0_logicWord, Cond.instanceMethod yX0_logicWord, Cond.selects RX0 yX0_logicWord yX0_logicWord, Cond.code yX0_logicWord cX0_logicWord 2 (some .long), Cond.fieldLink RX0 48 "RumourReasoner" "logicTriples" "J", Cond.methodLink RX0 66 yX0_valuationsWithBit, Cond.static yX0_valuationsWithBit, Cond.code yX0_valuationsWithBit cX0_valuationsWithBit 2 (some .long), Cond.fieldLink RX0 217 "RumourReasoner" "NUMBERS_WITH_BIT" "[J", Cond.constantLong RX0 46 (-1), Cond.methodLink RX0 166 yX0_pick, Cond.static yX0_pick, Cond.code yX0_pick cX0_pick 5 (some .long), Cond.methodLink RX0 127 yX0_isTold, Cond.static yX0_isTold, Cond.code yX0_isTold cX0_isTold 2 (some .boolean), Cond.methodLink RX0 176 yX0_differing]
def wsX0_isChanged_r2 : List Cond := [Cond.instanceMethod yX0_differing, Cond.selects RX0 yX0_differing yX0_differing, Cond.code yX0_differing cX0_differing 8 (some .long), Cond.fieldLink RX0 21 "RumourReasoner" "trueSets" "[J", Cond.fieldLink RX0 25 "RumourReasoner" "falseSets" "[J"]
def wsX0_isChanged : List Cond := .code yX0_isChanged cX0_isChanged 13 (some .boolean) :: ((wsX0_isChanged_r1 ++ wsX0_isChanged_r2) ++ wsX00)
def wsX0_depends_r1 : List Cond := [Cond.fieldLink RX0 43 "RumourReasoner" "logic" "I", Cond.methodLink RX0 77 yX0_requireFormula, Cond.instanceMethod yX0_requireFormula, Cond.selects RX0 yX0_requireFormula yX0_requireFormula, Cond.initialized RX0, Cond.code yX0_requireFormula cX0_requireFormula 2 none, Cond.classLink RX0 197 "java/lang/IndexOutOfBoundsException", Cond.initialized "java/lang/IndexOutOfBoundsException", Cond.fieldLink RX0 9 "RumourReasoner" "count" "I", Cond.methodLink RX0 52 yX0_requireAtom, Cond.static yX0_requireAtom, Cond.code yX0_requireAtom cX0_requireAtom 1 none, Cond.methodLink RX0 173 yX0_lowestBit, Cond.static yX0_lowestBit, Cond.code yX0_lowestBit cX0_lowestBit 2 (some .int), Cond.methodLink RX0 161 yJ13_bitCount_95d88, Cond.static yJ13_bitCount_95d88, Cond.initialized RJ13, Cond.code yJ13_bitCount_95d88 cJ13_bitCount_95d88 2 (some .int), Cond.constantLong RJ13 314 (6148914691236517205), Cond.constantLong RJ13 316 (3689348814741910323), Cond.constantLong RJ13 318 (1085102592571150095), Cond.methodLink RX0 180 yX0_isChanged, Cond.instanceMethod yX0_isChanged]
def wsX0_depends_r2 : List Cond := [Cond.selects RX0 yX0_isChanged yX0_isChanged, Cond.code yX0_isChanged cX0_isChanged 13 (some .boolean), Cond.methodLink RX0 63 yX0_rowOf, Cond.static yX0_rowOf, Cond.code yX0_rowOf cX0_rowOf 1 (some .int), Cond.methodLink RX0 59 yX0_placeOf, Cond.static yX0_placeOf, Cond.code yX0_placeOf cX0_placeOf 1 (some .int), Cond.methodLink RX0 158 yX0_logicWord, Cond.instanceMethod yX0_logicWord, Cond.selects RX0 yX0_logicWord yX0_logicWord, Cond.code yX0_logicWord cX0_logicWord 2 (some .long), Cond.fieldLink RX0 48 "RumourReasoner" "logicTriples" "J", Cond.methodLink RX0 66 yX0_valuationsWithBit, Cond.static yX0_valuationsWithBit, Cond.code yX0_valuationsWithBit cX0_valuationsWithBit 2 (some .long), Cond.fieldLink RX0 217 "RumourReasoner" "NUMBERS_WITH_BIT" "[J", Cond.constantLong RX0 46 (-1), Cond.methodLink RX0 166 yX0_pick, Cond.static yX0_pick, Cond.code yX0_pick cX0_pick 5 (some .long), Cond.methodLink RX0 127 yX0_isTold, Cond.static yX0_isTold, Cond.code yX0_isTold cX0_isTold 2 (some .boolean)]
def wsX0_depends_r3 : List Cond := [Cond.methodLink RX0 176 yX0_differing, Cond.instanceMethod yX0_differing, Cond.selects RX0 yX0_differing yX0_differing, Cond.code yX0_differing cX0_differing 8 (some .long), Cond.fieldLink RX0 21 "RumourReasoner" "trueSets" "[J", Cond.fieldLink RX0 25 "RumourReasoner" "falseSets" "[J"]
def wsX0_depends : List Cond := .code yX0_depends cX0_depends 5 (some .boolean) :: ((wsX0_depends_r1 ++ (wsX0_depends_r2 ++ wsX0_depends_r3)) ++ wsX00 ++ (vx_atS RX0 201 "java/lang/IndexOutOfBoundsException" ["java/lang/RuntimeException", "java/lang/Exception"]).filter goodWord)
def wsX0_valueAt : List Cond := .code yX0_valueAt cX0_valueAt 3 (some .int) :: ([.classLink RX0 80 "java/lang/IllegalArgumentException", .initialized "java/lang/IllegalArgumentException", .methodLink RX0 77 yX0_requireFormula, .instanceMethod yX0_requireFormula, .selects RX0 yX0_requireFormula yX0_requireFormula, .initialized RX0, .code yX0_requireFormula cX0_requireFormula 2 none, .classLink RX0 197 "java/lang/IndexOutOfBoundsException", .initialized "java/lang/IndexOutOfBoundsException", .fieldLink RX0 9 "RumourReasoner" "count" "I", .methodLink RX0 131 yX0_lookUp, .instanceMethod yX0_lookUp, .selects RX0 yX0_lookUp yX0_lookUp, .code yX0_lookUp cX0_lookUp 7 (some .int), .fieldLink RX0 21 "RumourReasoner" "trueSets" "[J", .fieldLink RX0 25 "RumourReasoner" "falseSets" "[J", .methodLink RX0 63 yX0_rowOf, .static yX0_rowOf, .code yX0_rowOf cX0_rowOf 1 (some .int)] ++ wsX00 ++ (vx_atS RX0 84 "java/lang/IllegalArgumentException" ["java/lang/RuntimeException", "java/lang/Exception"]).filter goodWord ++ (vx_atS RX0 201 "java/lang/IndexOutOfBoundsException" ["java/lang/RuntimeException", "java/lang/Exception"]).filter goodWord)
def wsX0_mix : List Cond := .code yX0_mix cX0_mix 3 (some .long) :: ([.constantLong RX0 195 (31)])
def wsX0_digest_r1 : List Cond := [Cond.constantLong RX0 186 (131), Cond.fieldLink RX0 9 "RumourReasoner" "count" "I", Cond.fieldLink RX0 13 "RumourReasoner" "kinds" "[I", Cond.fieldLink RX0 37 "RumourReasoner" "leastTrust" "I", Cond.fieldLink RX0 28 "RumourReasoner" "trusts" "[I", Cond.fieldLink RX0 31 "RumourReasoner" "on" "[Z", Cond.fieldLink RX0 34 "RumourReasoner" "reports" "[I", Cond.fieldLink RX0 40 "RumourReasoner" "rules" "[I", Cond.fieldLink RX0 43 "RumourReasoner" "logic" "I", Cond.methodLink RX0 114 yX0_heard, Cond.instanceMethod yX0_heard, Cond.selects RX0 yX0_heard yX0_heard, Cond.initialized RX0, Cond.code yX0_heard cX0_heard 3 (some .int), Cond.methodLink RX0 107 yX0_isHeard, Cond.instanceMethod yX0_isHeard, Cond.selects RX0 yX0_isHeard yX0_isHeard, Cond.code yX0_isHeard cX0_isHeard 2 (some .boolean), Cond.methodLink RX0 118 yX0_givenState, Cond.instanceMethod yX0_givenState, Cond.selects RX0 yX0_givenState yX0_givenState, Cond.code yX0_givenState cX0_givenState 4 (some .int), Cond.methodLink RX0 121 yX0_settledNow, Cond.instanceMethod yX0_settledNow]
def wsX0_digest_r2 : List Cond := [Cond.selects RX0 yX0_settledNow yX0_settledNow, Cond.code yX0_settledNow cX0_settledNow 1 (some .int), Cond.methodLink RX0 142 yX0_settledState, Cond.instanceMethod yX0_settledState, Cond.selects RX0 yX0_settledState yX0_settledState, Cond.code yX0_settledState cX0_settledState 6 (some .int), Cond.methodLink RX0 124 yX0_nextState, Cond.instanceMethod yX0_nextState, Cond.selects RX0 yX0_nextState yX0_nextState, Cond.code yX0_nextState cX0_nextState 5 (some .int), Cond.methodLink RX0 131 yX0_lookUp, Cond.instanceMethod yX0_lookUp, Cond.selects RX0 yX0_lookUp yX0_lookUp, Cond.code yX0_lookUp cX0_lookUp 7 (some .int), Cond.fieldLink RX0 21 "RumourReasoner" "trueSets" "[J", Cond.fieldLink RX0 25 "RumourReasoner" "falseSets" "[J", Cond.methodLink RX0 63 yX0_rowOf, Cond.static yX0_rowOf, Cond.code yX0_rowOf cX0_rowOf 1 (some .int), Cond.methodLink RX0 59 yX0_placeOf, Cond.static yX0_placeOf, Cond.code yX0_placeOf cX0_placeOf 1 (some .int), Cond.methodLink RX0 188 yX0_mix, Cond.static yX0_mix]
def wsX0_digest_r3 : List Cond := [Cond.code yX0_mix cX0_mix 3 (some .long), Cond.constantLong RX0 195 (31), Cond.methodLink RX0 100 yX0_valueIn, Cond.static yX0_valueIn, Cond.code yX0_valueIn cX0_valueIn 2 (some .int), Cond.methodLink RX0 192 yX0_rounds, Cond.instanceMethod yX0_rounds, Cond.selects RX0 yX0_rounds yX0_rounds, Cond.code yX0_rounds cX0_rounds 5 (some .int)]
def wsX0_digest : List Cond := .code yX0_digest cX0_digest 7 (some .long) :: ((wsX0_digest_r1 ++ (wsX0_digest_r2 ++ wsX0_digest_r3)) ++ wsX00)
def wsX1_init : List Cond := .code yX1_init cX1_init 1 none :: ([.methodLink RX1 1 objectInit, .instanceMethod objectInit, .code objectInit ⟨#[0xb1]⟩ 1 none, .arrayClass .int, .fieldLink RX1 9 "RumourReasonerModel" "kinds" "[I", .fieldLink RX1 13 "RumourReasonerModel" "firsts" "[I", .fieldLink RX1 16 "RumourReasonerModel" "seconds" "[I", .arrayClass .boolean, .fieldLink RX1 19 "RumourReasonerModel" "areSteady" "[Z", .fieldLink RX1 23 "RumourReasonerModel" "trusts" "[I", .fieldLink RX1 26 "RumourReasonerModel" "areOn" "[Z", .fieldLink RX1 29 "RumourReasonerModel" "says" "[I", .fieldLink RX1 32 "RumourReasonerModel" "leastTrust" "I", .fieldLink RX1 36 "RumourReasonerModel" "rules" "[I", .fieldLink RX1 39 "RumourReasonerModel" "logic" "I", .fieldLink RX1 42 "RumourReasonerModel" "results" "[I"] ++ wsX10)
def wsX1_thrown : List Cond := .code yX1_thrown cX1_thrown 1 (some .int) :: ([.fieldLink RX1 45 "RumourReasonerModel" "thrown" "I"] ++ wsX10)
def wsX1_no : List Cond := .code yX1_no cX1_no 2 (some .int) :: ([.fieldLink RX1 45 "RumourReasonerModel" "thrown" "I"] ++ wsX10)
def wsX1_isIn : List Cond := .code yX1_isIn cX1_isIn 3 (some .boolean) :: ([])
def wsX1_has : List Cond := .code yX1_has cX1_has 2 (some .boolean) :: ([])
def wsX1_isFormula : List Cond := .code yX1_isFormula cX1_isFormula 2 (some .boolean) :: ([.fieldLink RX1 48 "RumourReasonerModel" "formulas" "I", .methodLink RX1 51 yX1_isIn, .static yX1_isIn, .initialized RX1, .code yX1_isIn cX1_isIn 3 (some .boolean)] ++ wsX10)
def wsX1_isAtom : List Cond := .code yX1_isAtom cX1_isAtom 1 (some .boolean) :: ([.methodLink RX1 51 yX1_isIn, .static yX1_isIn, .initialized RX1, .code yX1_isIn cX1_isIn 3 (some .boolean)])
def wsX1_isSource : List Cond := .code yX1_isSource cX1_isSource 1 (some .boolean) :: ([.methodLink RX1 51 yX1_isIn, .static yX1_isIn, .initialized RX1, .code yX1_isIn cX1_isIn 3 (some .boolean)])
def wsX1_create : List Cond := .code yX1_create cX1_create 5 (some .int) :: ([.fieldLink RX1 48 "RumourReasonerModel" "formulas" "I", .fieldLink RX1 9 "RumourReasonerModel" "kinds" "[I", .fieldLink RX1 13 "RumourReasonerModel" "firsts" "[I", .fieldLink RX1 16 "RumourReasonerModel" "seconds" "[I", .fieldLink RX1 19 "RumourReasonerModel" "areSteady" "[Z", .methodLink RX1 55 yX1_no, .instanceMethod yX1_no, .selects RX1 yX1_no yX1_no, .initialized RX1, .code yX1_no cX1_no 2 (some .int), .fieldLink RX1 45 "RumourReasonerModel" "thrown" "I"] ++ wsX10)
def wsX1_atom : List Cond := .code yX1_atom cX1_atom 2 (some .int) :: ([.fieldLink RX1 45 "RumourReasonerModel" "thrown" "I", .methodLink RX1 59 yX1_isAtom, .static yX1_isAtom, .initialized RX1, .code yX1_isAtom cX1_isAtom 1 (some .boolean), .methodLink RX1 51 yX1_isIn, .static yX1_isIn, .code yX1_isIn cX1_isIn 3 (some .boolean), .methodLink RX1 63 yX1_create, .instanceMethod yX1_create, .selects RX1 yX1_create yX1_create, .code yX1_create cX1_create 5 (some .int), .fieldLink RX1 48 "RumourReasonerModel" "formulas" "I", .fieldLink RX1 9 "RumourReasonerModel" "kinds" "[I", .fieldLink RX1 13 "RumourReasonerModel" "firsts" "[I", .fieldLink RX1 16 "RumourReasonerModel" "seconds" "[I", .fieldLink RX1 19 "RumourReasonerModel" "areSteady" "[Z", .methodLink RX1 55 yX1_no, .instanceMethod yX1_no, .selects RX1 yX1_no yX1_no, .code yX1_no cX1_no 2 (some .int)] ++ wsX10)
def wsX1_constant : List Cond := .code yX1_constant cX1_constant 2 (some .int) :: ([.fieldLink RX1 45 "RumourReasonerModel" "thrown" "I", .methodLink RX1 51 yX1_isIn, .static yX1_isIn, .initialized RX1, .code yX1_isIn cX1_isIn 3 (some .boolean), .methodLink RX1 63 yX1_create, .instanceMethod yX1_create, .selects RX1 yX1_create yX1_create, .code yX1_create cX1_create 5 (some .int), .fieldLink RX1 48 "RumourReasonerModel" "formulas" "I", .fieldLink RX1 9 "RumourReasonerModel" "kinds" "[I", .fieldLink RX1 13 "RumourReasonerModel" "firsts" "[I", .fieldLink RX1 16 "RumourReasonerModel" "seconds" "[I", .fieldLink RX1 19 "RumourReasonerModel" "areSteady" "[Z", .methodLink RX1 55 yX1_no, .instanceMethod yX1_no, .selects RX1 yX1_no yX1_no, .code yX1_no cX1_no 2 (some .int)] ++ wsX10)
def wsX1_turn : List Cond := .code yX1_turn cX1_turn 3 (some .int) :: ([.fieldLink RX1 45 "RumourReasonerModel" "thrown" "I", .fieldLink RX1 19 "RumourReasonerModel" "areSteady" "[Z", .methodLink RX1 67 yX1_isFormula, .instanceMethod yX1_isFormula, .selects RX1 yX1_isFormula yX1_isFormula, .initialized RX1, .code yX1_isFormula cX1_isFormula 2 (some .boolean), .fieldLink RX1 48 "RumourReasonerModel" "formulas" "I", .methodLink RX1 51 yX1_isIn, .static yX1_isIn, .code yX1_isIn cX1_isIn 3 (some .boolean), .methodLink RX1 55 yX1_no, .instanceMethod yX1_no, .selects RX1 yX1_no yX1_no, .code yX1_no cX1_no 2 (some .int), .methodLink RX1 63 yX1_create, .instanceMethod yX1_create, .selects RX1 yX1_create yX1_create, .code yX1_create cX1_create 5 (some .int), .fieldLink RX1 9 "RumourReasonerModel" "kinds" "[I", .fieldLink RX1 13 "RumourReasonerModel" "firsts" "[I", .fieldLink RX1 16 "RumourReasonerModel" "seconds" "[I"] ++ wsX10)
def wsX1_join : List Cond := .code yX1_join cX1_join 4 (some .int) :: ([.fieldLink RX1 45 "RumourReasonerModel" "thrown" "I", .fieldLink RX1 19 "RumourReasonerModel" "areSteady" "[Z", .methodLink RX1 67 yX1_isFormula, .instanceMethod yX1_isFormula, .selects RX1 yX1_isFormula yX1_isFormula, .initialized RX1, .code yX1_isFormula cX1_isFormula 2 (some .boolean), .fieldLink RX1 48 "RumourReasonerModel" "formulas" "I", .methodLink RX1 51 yX1_isIn, .static yX1_isIn, .code yX1_isIn cX1_isIn 3 (some .boolean), .methodLink RX1 55 yX1_no, .instanceMethod yX1_no, .selects RX1 yX1_no yX1_no, .code yX1_no cX1_no 2 (some .int), .methodLink RX1 63 yX1_create, .instanceMethod yX1_create, .selects RX1 yX1_create yX1_create, .code yX1_create cX1_create 5 (some .int), .fieldLink RX1 9 "RumourReasonerModel" "kinds" "[I", .fieldLink RX1 13 "RumourReasonerModel" "firsts" "[I", .fieldLink RX1 16 "RumourReasonerModel" "seconds" "[I"] ++ wsX10)
def wsX1_formulaCount : List Cond := .code yX1_formulaCount cX1_formulaCount 1 (some .int) :: ([.fieldLink RX1 45 "RumourReasonerModel" "thrown" "I", .fieldLink RX1 48 "RumourReasonerModel" "formulas" "I"] ++ wsX10)
def wsX1_isSteady : List Cond := .code yX1_isSteady cX1_isSteady 2 (some .boolean) :: ([.fieldLink RX1 45 "RumourReasonerModel" "thrown" "I", .fieldLink RX1 19 "RumourReasonerModel" "areSteady" "[Z", .methodLink RX1 67 yX1_isFormula, .instanceMethod yX1_isFormula, .selects RX1 yX1_isFormula yX1_isFormula, .initialized RX1, .code yX1_isFormula cX1_isFormula 2 (some .boolean), .fieldLink RX1 48 "RumourReasonerModel" "formulas" "I", .methodLink RX1 51 yX1_isIn, .static yX1_isIn, .code yX1_isIn cX1_isIn 3 (some .boolean)] ++ wsX10)
def wsX1_worth : List Cond := .code yX1_worth cX1_worth 6 (some .int) :: ([.fieldLink RX1 9 "RumourReasonerModel" "kinds" "[I", .fieldLink RX1 42 "RumourReasonerModel" "results" "[I", .fieldLink RX1 13 "RumourReasonerModel" "firsts" "[I", .fieldLink RX1 16 "RumourReasonerModel" "seconds" "[I", .methodLink RX1 51 yX1_isIn, .static yX1_isIn, .initialized RX1, .code yX1_isIn cX1_isIn 3 (some .boolean)] ++ wsX10)
def wsX1_report : List Cond := .code yX1_report cX1_report 5 (some .int) :: ([.fieldLink RX1 45 "RumourReasonerModel" "thrown" "I", .fieldLink RX1 29 "RumourReasonerModel" "says" "[I", .methodLink RX1 70 yX1_isSource, .static yX1_isSource, .initialized RX1, .code yX1_isSource cX1_isSource 1 (some .boolean), .methodLink RX1 51 yX1_isIn, .static yX1_isIn, .code yX1_isIn cX1_isIn 3 (some .boolean), .methodLink RX1 59 yX1_isAtom, .static yX1_isAtom, .code yX1_isAtom cX1_isAtom 1 (some .boolean), .methodLink RX1 55 yX1_no, .instanceMethod yX1_no, .selects RX1 yX1_no yX1_no, .code yX1_no cX1_no 2 (some .int)] ++ wsX10)
def wsX1_setTrust : List Cond := .code yX1_setTrust cX1_setTrust 4 (some .int) :: ([.fieldLink RX1 45 "RumourReasonerModel" "thrown" "I", .fieldLink RX1 23 "RumourReasonerModel" "trusts" "[I", .methodLink RX1 70 yX1_isSource, .static yX1_isSource, .initialized RX1, .code yX1_isSource cX1_isSource 1 (some .boolean), .methodLink RX1 51 yX1_isIn, .static yX1_isIn, .code yX1_isIn cX1_isIn 3 (some .boolean), .methodLink RX1 55 yX1_no, .instanceMethod yX1_no, .selects RX1 yX1_no yX1_no, .code yX1_no cX1_no 2 (some .int)] ++ wsX10)
def wsX1_setLeastTrust : List Cond := .code yX1_setLeastTrust cX1_setLeastTrust 3 (some .int) :: ([.fieldLink RX1 45 "RumourReasonerModel" "thrown" "I", .fieldLink RX1 32 "RumourReasonerModel" "leastTrust" "I", .methodLink RX1 51 yX1_isIn, .static yX1_isIn, .initialized RX1, .code yX1_isIn cX1_isIn 3 (some .boolean), .methodLink RX1 55 yX1_no, .instanceMethod yX1_no, .selects RX1 yX1_no yX1_no, .code yX1_no cX1_no 2 (some .int)] ++ wsX10)
def wsX1_isHeard : List Cond := .code yX1_isHeard cX1_isHeard 2 (some .boolean) :: ([.fieldLink RX1 26 "RumourReasonerModel" "areOn" "[Z", .fieldLink RX1 23 "RumourReasonerModel" "trusts" "[I", .fieldLink RX1 32 "RumourReasonerModel" "leastTrust" "I"] ++ wsX10)
def wsX1_heardSet : List Cond := .code yX1_heardSet cX1_heardSet 3 (some .int) :: ([.methodLink RX1 73 yX1_isHeard, .instanceMethod yX1_isHeard, .selects RX1 yX1_isHeard yX1_isHeard, .initialized RX1, .code yX1_isHeard cX1_isHeard 2 (some .boolean), .fieldLink RX1 26 "RumourReasonerModel" "areOn" "[Z", .fieldLink RX1 23 "RumourReasonerModel" "trusts" "[I", .fieldLink RX1 32 "RumourReasonerModel" "leastTrust" "I"] ++ wsX10)
def wsX1_let : List Cond := .code yX1_let cX1_let 3 (some .boolean) :: ([.fieldLink RX1 45 "RumourReasonerModel" "thrown" "I", .fieldLink RX1 26 "RumourReasonerModel" "areOn" "[Z", .methodLink RX1 70 yX1_isSource, .static yX1_isSource, .initialized RX1, .code yX1_isSource cX1_isSource 1 (some .boolean), .methodLink RX1 51 yX1_isIn, .static yX1_isIn, .code yX1_isIn cX1_isIn 3 (some .boolean), .methodLink RX1 73 yX1_isHeard, .instanceMethod yX1_isHeard, .selects RX1 yX1_isHeard yX1_isHeard, .code yX1_isHeard cX1_isHeard 2 (some .boolean), .fieldLink RX1 23 "RumourReasonerModel" "trusts" "[I", .fieldLink RX1 32 "RumourReasonerModel" "leastTrust" "I"] ++ wsX10)
def wsX1_setRule : List Cond := .code yX1_setRule cX1_setRule 4 (some .int) :: ([.fieldLink RX1 45 "RumourReasonerModel" "thrown" "I", .fieldLink RX1 19 "RumourReasonerModel" "areSteady" "[Z", .fieldLink RX1 36 "RumourReasonerModel" "rules" "[I", .methodLink RX1 59 yX1_isAtom, .static yX1_isAtom, .initialized RX1, .code yX1_isAtom cX1_isAtom 1 (some .boolean), .methodLink RX1 51 yX1_isIn, .static yX1_isIn, .code yX1_isIn cX1_isIn 3 (some .boolean), .methodLink RX1 67 yX1_isFormula, .instanceMethod yX1_isFormula, .selects RX1 yX1_isFormula yX1_isFormula, .code yX1_isFormula cX1_isFormula 2 (some .boolean), .fieldLink RX1 48 "RumourReasonerModel" "formulas" "I", .methodLink RX1 55 yX1_no, .instanceMethod yX1_no, .selects RX1 yX1_no yX1_no, .code yX1_no cX1_no 2 (some .int)] ++ wsX10)
def wsX1_givenBy : List Cond := .code yX1_givenBy cX1_givenBy 5 (some .int) :: ([.fieldLink RX1 29 "RumourReasonerModel" "says" "[I", .methodLink RX1 76 yX1_has, .static yX1_has, .initialized RX1, .code yX1_has cX1_has 2 (some .boolean)] ++ wsX10)
def wsX1_given_r1 : List Cond := [Cond.fieldLink RX1 45 "RumourReasonerModel" "thrown" "I", Cond.methodLink RX1 59 yX1_isAtom, Cond.static yX1_isAtom, Cond.initialized RX1, Cond.code yX1_isAtom cX1_isAtom 1 (some .boolean), Cond.methodLink RX1 51 yX1_isIn, Cond.static yX1_isIn, Cond.code yX1_isIn cX1_isIn 3 (some .boolean), Cond.methodLink RX1 80 yX1_heardSet, Cond.instanceMethod yX1_heardSet, Cond.selects RX1 yX1_heardSet yX1_heardSet, Cond.code yX1_heardSet cX1_heardSet 3 (some .int), Cond.methodLink RX1 73 yX1_isHeard, Cond.instanceMethod yX1_isHeard, Cond.selects RX1 yX1_isHeard yX1_isHeard, Cond.code yX1_isHeard cX1_isHeard 2 (some .boolean), Cond.fieldLink RX1 26 "RumourReasonerModel" "areOn" "[Z", Cond.fieldLink RX1 23 "RumourReasonerModel" "trusts" "[I", Cond.fieldLink RX1 32 "RumourReasonerModel" "leastTrust" "I", Cond.methodLink RX1 84 yX1_givenBy, Cond.instanceMethod yX1_givenBy, Cond.selects RX1 yX1_givenBy yX1_givenBy, Cond.code yX1_givenBy cX1_givenBy 5 (some .int), Cond.fieldLink RX1 29 "RumourReasonerModel" "says" "[I"]
def wsX1_given_r2 : List Cond := [Cond.methodLink RX1 76 yX1_has, Cond.static yX1_has, Cond.code yX1_has cX1_has 2 (some .boolean), Cond.methodLink RX1 55 yX1_no, Cond.instanceMethod yX1_no, Cond.selects RX1 yX1_no yX1_no, Cond.code yX1_no cX1_no 2 (some .int)]
def wsX1_given : List Cond := .code yX1_given cX1_given 2 (some .int) :: ((wsX1_given_r1 ++ wsX1_given_r2) ++ wsX10)
def wsX1_valueIn : List Cond := .code yX1_valueIn cX1_valueIn 2 (some .int) :: ([])
def wsX1_begin : List Cond := .code yX1_begin cX1_begin 4 (some .int) :: ([.methodLink RX1 84 yX1_givenBy, .instanceMethod yX1_givenBy, .selects RX1 yX1_givenBy yX1_givenBy, .initialized RX1, .code yX1_givenBy cX1_givenBy 5 (some .int), .fieldLink RX1 29 "RumourReasonerModel" "says" "[I", .methodLink RX1 76 yX1_has, .static yX1_has, .code yX1_has cX1_has 2 (some .boolean)] ++ wsX10)
def wsX1_goOn : List Cond := .code yX1_goOn cX1_goOn 5 (some .int) :: ([.fieldLink RX1 36 "RumourReasonerModel" "rules" "[I", .methodLink RX1 84 yX1_givenBy, .instanceMethod yX1_givenBy, .selects RX1 yX1_givenBy yX1_givenBy, .initialized RX1, .code yX1_givenBy cX1_givenBy 5 (some .int), .fieldLink RX1 29 "RumourReasonerModel" "says" "[I", .methodLink RX1 76 yX1_has, .static yX1_has, .code yX1_has cX1_has 2 (some .boolean), .methodLink RX1 88 yX1_worth, .instanceMethod yX1_worth, .selects RX1 yX1_worth yX1_worth, .code yX1_worth cX1_worth 6 (some .int), .fieldLink RX1 9 "RumourReasonerModel" "kinds" "[I", .fieldLink RX1 42 "RumourReasonerModel" "results" "[I", .fieldLink RX1 13 "RumourReasonerModel" "firsts" "[I", .fieldLink RX1 16 "RumourReasonerModel" "seconds" "[I", .methodLink RX1 51 yX1_isIn, .static yX1_isIn, .code yX1_isIn cX1_isIn 3 (some .boolean)] ++ wsX10)
def wsX1_settle_r1 : List Cond := [Cond.methodLink RX1 91 yX1_begin, Cond.instanceMethod yX1_begin, Cond.selects RX1 yX1_begin yX1_begin, Cond.initialized RX1, Cond.code yX1_begin cX1_begin 4 (some .int), Cond.methodLink RX1 84 yX1_givenBy, Cond.instanceMethod yX1_givenBy, Cond.selects RX1 yX1_givenBy yX1_givenBy, Cond.code yX1_givenBy cX1_givenBy 5 (some .int), Cond.fieldLink RX1 29 "RumourReasonerModel" "says" "[I", Cond.methodLink RX1 76 yX1_has, Cond.static yX1_has, Cond.code yX1_has cX1_has 2 (some .boolean), Cond.methodLink RX1 94 yX1_goOn, Cond.instanceMethod yX1_goOn, Cond.selects RX1 yX1_goOn yX1_goOn, Cond.code yX1_goOn cX1_goOn 5 (some .int), Cond.fieldLink RX1 36 "RumourReasonerModel" "rules" "[I", Cond.methodLink RX1 88 yX1_worth, Cond.instanceMethod yX1_worth, Cond.selects RX1 yX1_worth yX1_worth, Cond.code yX1_worth cX1_worth 6 (some .int), Cond.fieldLink RX1 9 "RumourReasonerModel" "kinds" "[I", Cond.fieldLink RX1 42 "RumourReasonerModel" "results" "[I"]
def wsX1_settle_r2 : List Cond := [Cond.fieldLink RX1 13 "RumourReasonerModel" "firsts" "[I", Cond.fieldLink RX1 16 "RumourReasonerModel" "seconds" "[I", Cond.methodLink RX1 51 yX1_isIn, Cond.static yX1_isIn, Cond.code yX1_isIn cX1_isIn 3 (some .boolean)]
def wsX1_settle : List Cond := .code yX1_settle cX1_settle 4 (some .int) :: ((wsX1_settle_r1 ++ wsX1_settle_r2) ++ wsX10)
def wsX1_present_r1 : List Cond := [Cond.methodLink RX1 80 yX1_heardSet, Cond.instanceMethod yX1_heardSet, Cond.selects RX1 yX1_heardSet yX1_heardSet, Cond.initialized RX1, Cond.code yX1_heardSet cX1_heardSet 3 (some .int), Cond.methodLink RX1 73 yX1_isHeard, Cond.instanceMethod yX1_isHeard, Cond.selects RX1 yX1_isHeard yX1_isHeard, Cond.code yX1_isHeard cX1_isHeard 2 (some .boolean), Cond.fieldLink RX1 26 "RumourReasonerModel" "areOn" "[Z", Cond.fieldLink RX1 23 "RumourReasonerModel" "trusts" "[I", Cond.fieldLink RX1 32 "RumourReasonerModel" "leastTrust" "I", Cond.methodLink RX1 97 yX1_settle, Cond.instanceMethod yX1_settle, Cond.selects RX1 yX1_settle yX1_settle, Cond.code yX1_settle cX1_settle 4 (some .int), Cond.methodLink RX1 91 yX1_begin, Cond.instanceMethod yX1_begin, Cond.selects RX1 yX1_begin yX1_begin, Cond.code yX1_begin cX1_begin 4 (some .int), Cond.methodLink RX1 84 yX1_givenBy, Cond.instanceMethod yX1_givenBy, Cond.selects RX1 yX1_givenBy yX1_givenBy, Cond.code yX1_givenBy cX1_givenBy 5 (some .int)]
def wsX1_present_r2 : List Cond := [Cond.fieldLink RX1 29 "RumourReasonerModel" "says" "[I", Cond.methodLink RX1 76 yX1_has, Cond.static yX1_has, Cond.code yX1_has cX1_has 2 (some .boolean), Cond.methodLink RX1 94 yX1_goOn, Cond.instanceMethod yX1_goOn, Cond.selects RX1 yX1_goOn yX1_goOn, Cond.code yX1_goOn cX1_goOn 5 (some .int), Cond.fieldLink RX1 36 "RumourReasonerModel" "rules" "[I", Cond.methodLink RX1 88 yX1_worth, Cond.instanceMethod yX1_worth, Cond.selects RX1 yX1_worth yX1_worth, Cond.code yX1_worth cX1_worth 6 (some .int), Cond.fieldLink RX1 9 "RumourReasonerModel" "kinds" "[I", Cond.fieldLink RX1 42 "RumourReasonerModel" "results" "[I", Cond.fieldLink RX1 13 "RumourReasonerModel" "firsts" "[I", Cond.fieldLink RX1 16 "RumourReasonerModel" "seconds" "[I", Cond.methodLink RX1 51 yX1_isIn, Cond.static yX1_isIn, Cond.code yX1_isIn cX1_isIn 3 (some .boolean)]
def wsX1_present : List Cond := .code yX1_present cX1_present 1 (some .int) :: ((wsX1_present_r1 ++ wsX1_present_r2) ++ wsX10)
def wsX1_settled_r1 : List Cond := [Cond.fieldLink RX1 45 "RumourReasonerModel" "thrown" "I", Cond.methodLink RX1 59 yX1_isAtom, Cond.static yX1_isAtom, Cond.initialized RX1, Cond.code yX1_isAtom cX1_isAtom 1 (some .boolean), Cond.methodLink RX1 51 yX1_isIn, Cond.static yX1_isIn, Cond.code yX1_isIn cX1_isIn 3 (some .boolean), Cond.methodLink RX1 100 yX1_present, Cond.instanceMethod yX1_present, Cond.selects RX1 yX1_present yX1_present, Cond.code yX1_present cX1_present 1 (some .int), Cond.methodLink RX1 80 yX1_heardSet, Cond.instanceMethod yX1_heardSet, Cond.selects RX1 yX1_heardSet yX1_heardSet, Cond.code yX1_heardSet cX1_heardSet 3 (some .int), Cond.methodLink RX1 73 yX1_isHeard, Cond.instanceMethod yX1_isHeard, Cond.selects RX1 yX1_isHeard yX1_isHeard, Cond.code yX1_isHeard cX1_isHeard 2 (some .boolean), Cond.fieldLink RX1 26 "RumourReasonerModel" "areOn" "[Z", Cond.fieldLink RX1 23 "RumourReasonerModel" "trusts" "[I", Cond.fieldLink RX1 32 "RumourReasonerModel" "leastTrust" "I", Cond.methodLink RX1 97 yX1_settle]
def wsX1_settled_r2 : List Cond := [Cond.instanceMethod yX1_settle, Cond.selects RX1 yX1_settle yX1_settle, Cond.code yX1_settle cX1_settle 4 (some .int), Cond.methodLink RX1 91 yX1_begin, Cond.instanceMethod yX1_begin, Cond.selects RX1 yX1_begin yX1_begin, Cond.code yX1_begin cX1_begin 4 (some .int), Cond.methodLink RX1 84 yX1_givenBy, Cond.instanceMethod yX1_givenBy, Cond.selects RX1 yX1_givenBy yX1_givenBy, Cond.code yX1_givenBy cX1_givenBy 5 (some .int), Cond.fieldLink RX1 29 "RumourReasonerModel" "says" "[I", Cond.methodLink RX1 76 yX1_has, Cond.static yX1_has, Cond.code yX1_has cX1_has 2 (some .boolean), Cond.methodLink RX1 94 yX1_goOn, Cond.instanceMethod yX1_goOn, Cond.selects RX1 yX1_goOn yX1_goOn, Cond.code yX1_goOn cX1_goOn 5 (some .int), Cond.fieldLink RX1 36 "RumourReasonerModel" "rules" "[I", Cond.methodLink RX1 88 yX1_worth, Cond.instanceMethod yX1_worth, Cond.selects RX1 yX1_worth yX1_worth, Cond.code yX1_worth cX1_worth 6 (some .int)]
def wsX1_settled_r3 : List Cond := [Cond.fieldLink RX1 9 "RumourReasonerModel" "kinds" "[I", Cond.fieldLink RX1 42 "RumourReasonerModel" "results" "[I", Cond.fieldLink RX1 13 "RumourReasonerModel" "firsts" "[I", Cond.fieldLink RX1 16 "RumourReasonerModel" "seconds" "[I", Cond.methodLink RX1 103 yX1_valueIn, Cond.static yX1_valueIn, Cond.code yX1_valueIn cX1_valueIn 2 (some .int), Cond.methodLink RX1 55 yX1_no, Cond.instanceMethod yX1_no, Cond.selects RX1 yX1_no yX1_no, Cond.code yX1_no cX1_no 2 (some .int)]
def wsX1_settled : List Cond := .code yX1_settled cX1_settled 2 (some .int) :: ((wsX1_settled_r1 ++ (wsX1_settled_r2 ++ wsX1_settled_r3)) ++ wsX10)
def wsX1_roundCount_r1 : List Cond := [Cond.methodLink RX1 80 yX1_heardSet, Cond.instanceMethod yX1_heardSet, Cond.selects RX1 yX1_heardSet yX1_heardSet, Cond.initialized RX1, Cond.code yX1_heardSet cX1_heardSet 3 (some .int), Cond.methodLink RX1 73 yX1_isHeard, Cond.instanceMethod yX1_isHeard, Cond.selects RX1 yX1_isHeard yX1_isHeard, Cond.code yX1_isHeard cX1_isHeard 2 (some .boolean), Cond.fieldLink RX1 26 "RumourReasonerModel" "areOn" "[Z", Cond.fieldLink RX1 23 "RumourReasonerModel" "trusts" "[I", Cond.fieldLink RX1 32 "RumourReasonerModel" "leastTrust" "I", Cond.methodLink RX1 91 yX1_begin, Cond.instanceMethod yX1_begin, Cond.selects RX1 yX1_begin yX1_begin, Cond.code yX1_begin cX1_begin 4 (some .int), Cond.methodLink RX1 84 yX1_givenBy, Cond.instanceMethod yX1_givenBy, Cond.selects RX1 yX1_givenBy yX1_givenBy, Cond.code yX1_givenBy cX1_givenBy 5 (some .int), Cond.fieldLink RX1 29 "RumourReasonerModel" "says" "[I", Cond.methodLink RX1 76 yX1_has, Cond.static yX1_has, Cond.code yX1_has cX1_has 2 (some .boolean)]
def wsX1_roundCount_r2 : List Cond := [Cond.methodLink RX1 94 yX1_goOn, Cond.instanceMethod yX1_goOn, Cond.selects RX1 yX1_goOn yX1_goOn, Cond.code yX1_goOn cX1_goOn 5 (some .int), Cond.fieldLink RX1 36 "RumourReasonerModel" "rules" "[I", Cond.methodLink RX1 88 yX1_worth, Cond.instanceMethod yX1_worth, Cond.selects RX1 yX1_worth yX1_worth, Cond.code yX1_worth cX1_worth 6 (some .int), Cond.fieldLink RX1 9 "RumourReasonerModel" "kinds" "[I", Cond.fieldLink RX1 42 "RumourReasonerModel" "results" "[I", Cond.fieldLink RX1 13 "RumourReasonerModel" "firsts" "[I", Cond.fieldLink RX1 16 "RumourReasonerModel" "seconds" "[I", Cond.methodLink RX1 51 yX1_isIn, Cond.static yX1_isIn, Cond.code yX1_isIn cX1_isIn 3 (some .boolean)]
def wsX1_roundCount : List Cond := .code yX1_roundCount cX1_roundCount 4 (some .int) :: ((wsX1_roundCount_r1 ++ wsX1_roundCount_r2) ++ wsX10)
def wsX1_rounds_r1 : List Cond := [Cond.fieldLink RX1 45 "RumourReasonerModel" "thrown" "I", Cond.methodLink RX1 106 yX1_roundCount, Cond.instanceMethod yX1_roundCount, Cond.selects RX1 yX1_roundCount yX1_roundCount, Cond.initialized RX1, Cond.code yX1_roundCount cX1_roundCount 4 (some .int), Cond.methodLink RX1 80 yX1_heardSet, Cond.instanceMethod yX1_heardSet, Cond.selects RX1 yX1_heardSet yX1_heardSet, Cond.code yX1_heardSet cX1_heardSet 3 (some .int), Cond.methodLink RX1 73 yX1_isHeard, Cond.instanceMethod yX1_isHeard, Cond.selects RX1 yX1_isHeard yX1_isHeard, Cond.code yX1_isHeard cX1_isHeard 2 (some .boolean), Cond.fieldLink RX1 26 "RumourReasonerModel" "areOn" "[Z", Cond.fieldLink RX1 23 "RumourReasonerModel" "trusts" "[I", Cond.fieldLink RX1 32 "RumourReasonerModel" "leastTrust" "I", Cond.methodLink RX1 91 yX1_begin, Cond.instanceMethod yX1_begin, Cond.selects RX1 yX1_begin yX1_begin, Cond.code yX1_begin cX1_begin 4 (some .int), Cond.methodLink RX1 84 yX1_givenBy, Cond.instanceMethod yX1_givenBy, Cond.selects RX1 yX1_givenBy yX1_givenBy]
def wsX1_rounds_r2 : List Cond := [Cond.code yX1_givenBy cX1_givenBy 5 (some .int), Cond.fieldLink RX1 29 "RumourReasonerModel" "says" "[I", Cond.methodLink RX1 76 yX1_has, Cond.static yX1_has, Cond.code yX1_has cX1_has 2 (some .boolean), Cond.methodLink RX1 94 yX1_goOn, Cond.instanceMethod yX1_goOn, Cond.selects RX1 yX1_goOn yX1_goOn, Cond.code yX1_goOn cX1_goOn 5 (some .int), Cond.fieldLink RX1 36 "RumourReasonerModel" "rules" "[I", Cond.methodLink RX1 88 yX1_worth, Cond.instanceMethod yX1_worth, Cond.selects RX1 yX1_worth yX1_worth, Cond.code yX1_worth cX1_worth 6 (some .int), Cond.fieldLink RX1 9 "RumourReasonerModel" "kinds" "[I", Cond.fieldLink RX1 42 "RumourReasonerModel" "results" "[I", Cond.fieldLink RX1 13 "RumourReasonerModel" "firsts" "[I", Cond.fieldLink RX1 16 "RumourReasonerModel" "seconds" "[I", Cond.methodLink RX1 51 yX1_isIn, Cond.static yX1_isIn, Cond.code yX1_isIn cX1_isIn 3 (some .boolean)]
def wsX1_rounds : List Cond := .code yX1_rounds cX1_rounds 1 (some .int) :: ((wsX1_rounds_r1 ++ wsX1_rounds_r2) ++ wsX10)
def wsX1_since_r1 : List Cond := [Cond.fieldLink RX1 45 "RumourReasonerModel" "thrown" "I", Cond.methodLink RX1 59 yX1_isAtom, Cond.static yX1_isAtom, Cond.initialized RX1, Cond.code yX1_isAtom cX1_isAtom 1 (some .boolean), Cond.methodLink RX1 51 yX1_isIn, Cond.static yX1_isIn, Cond.code yX1_isIn cX1_isIn 3 (some .boolean), Cond.methodLink RX1 55 yX1_no, Cond.instanceMethod yX1_no, Cond.selects RX1 yX1_no yX1_no, Cond.code yX1_no cX1_no 2 (some .int), Cond.methodLink RX1 80 yX1_heardSet, Cond.instanceMethod yX1_heardSet, Cond.selects RX1 yX1_heardSet yX1_heardSet, Cond.code yX1_heardSet cX1_heardSet 3 (some .int), Cond.methodLink RX1 73 yX1_isHeard, Cond.instanceMethod yX1_isHeard, Cond.selects RX1 yX1_isHeard yX1_isHeard, Cond.code yX1_isHeard cX1_isHeard 2 (some .boolean), Cond.fieldLink RX1 26 "RumourReasonerModel" "areOn" "[Z", Cond.fieldLink RX1 23 "RumourReasonerModel" "trusts" "[I", Cond.fieldLink RX1 32 "RumourReasonerModel" "leastTrust" "I", Cond.methodLink RX1 91 yX1_begin]
def wsX1_since_r2 : List Cond := [Cond.instanceMethod yX1_begin, Cond.selects RX1 yX1_begin yX1_begin, Cond.code yX1_begin cX1_begin 4 (some .int), Cond.methodLink RX1 84 yX1_givenBy, Cond.instanceMethod yX1_givenBy, Cond.selects RX1 yX1_givenBy yX1_givenBy, Cond.code yX1_givenBy cX1_givenBy 5 (some .int), Cond.fieldLink RX1 29 "RumourReasonerModel" "says" "[I", Cond.methodLink RX1 76 yX1_has, Cond.static yX1_has, Cond.code yX1_has cX1_has 2 (some .boolean), Cond.methodLink RX1 106 yX1_roundCount, Cond.instanceMethod yX1_roundCount, Cond.selects RX1 yX1_roundCount yX1_roundCount, Cond.code yX1_roundCount cX1_roundCount 4 (some .int), Cond.methodLink RX1 94 yX1_goOn, Cond.instanceMethod yX1_goOn, Cond.selects RX1 yX1_goOn yX1_goOn, Cond.code yX1_goOn cX1_goOn 5 (some .int), Cond.fieldLink RX1 36 "RumourReasonerModel" "rules" "[I", Cond.methodLink RX1 88 yX1_worth, Cond.instanceMethod yX1_worth, Cond.selects RX1 yX1_worth yX1_worth, Cond.code yX1_worth cX1_worth 6 (some .int)]
def wsX1_since_r3 : List Cond := [Cond.fieldLink RX1 9 "RumourReasonerModel" "kinds" "[I", Cond.fieldLink RX1 42 "RumourReasonerModel" "results" "[I", Cond.fieldLink RX1 13 "RumourReasonerModel" "firsts" "[I", Cond.fieldLink RX1 16 "RumourReasonerModel" "seconds" "[I", Cond.methodLink RX1 103 yX1_valueIn, Cond.static yX1_valueIn, Cond.code yX1_valueIn cX1_valueIn 2 (some .int)]
def wsX1_since : List Cond := .code yX1_since cX1_since 7 (some .int) :: ((wsX1_since_r1 ++ (wsX1_since_r2 ++ wsX1_since_r3)) ++ wsX10)
def wsX1_value_r1 : List Cond := [Cond.fieldLink RX1 45 "RumourReasonerModel" "thrown" "I", Cond.methodLink RX1 67 yX1_isFormula, Cond.instanceMethod yX1_isFormula, Cond.selects RX1 yX1_isFormula yX1_isFormula, Cond.initialized RX1, Cond.code yX1_isFormula cX1_isFormula 2 (some .boolean), Cond.fieldLink RX1 48 "RumourReasonerModel" "formulas" "I", Cond.methodLink RX1 51 yX1_isIn, Cond.static yX1_isIn, Cond.code yX1_isIn cX1_isIn 3 (some .boolean), Cond.methodLink RX1 100 yX1_present, Cond.instanceMethod yX1_present, Cond.selects RX1 yX1_present yX1_present, Cond.code yX1_present cX1_present 1 (some .int), Cond.methodLink RX1 80 yX1_heardSet, Cond.instanceMethod yX1_heardSet, Cond.selects RX1 yX1_heardSet yX1_heardSet, Cond.code yX1_heardSet cX1_heardSet 3 (some .int), Cond.methodLink RX1 73 yX1_isHeard, Cond.instanceMethod yX1_isHeard, Cond.selects RX1 yX1_isHeard yX1_isHeard, Cond.code yX1_isHeard cX1_isHeard 2 (some .boolean), Cond.fieldLink RX1 26 "RumourReasonerModel" "areOn" "[Z", Cond.fieldLink RX1 23 "RumourReasonerModel" "trusts" "[I"]
def wsX1_value_r2 : List Cond := [Cond.fieldLink RX1 32 "RumourReasonerModel" "leastTrust" "I", Cond.methodLink RX1 97 yX1_settle, Cond.instanceMethod yX1_settle, Cond.selects RX1 yX1_settle yX1_settle, Cond.code yX1_settle cX1_settle 4 (some .int), Cond.methodLink RX1 91 yX1_begin, Cond.instanceMethod yX1_begin, Cond.selects RX1 yX1_begin yX1_begin, Cond.code yX1_begin cX1_begin 4 (some .int), Cond.methodLink RX1 84 yX1_givenBy, Cond.instanceMethod yX1_givenBy, Cond.selects RX1 yX1_givenBy yX1_givenBy, Cond.code yX1_givenBy cX1_givenBy 5 (some .int), Cond.fieldLink RX1 29 "RumourReasonerModel" "says" "[I", Cond.methodLink RX1 76 yX1_has, Cond.static yX1_has, Cond.code yX1_has cX1_has 2 (some .boolean), Cond.methodLink RX1 94 yX1_goOn, Cond.instanceMethod yX1_goOn, Cond.selects RX1 yX1_goOn yX1_goOn, Cond.code yX1_goOn cX1_goOn 5 (some .int), Cond.fieldLink RX1 36 "RumourReasonerModel" "rules" "[I", Cond.methodLink RX1 88 yX1_worth, Cond.instanceMethod yX1_worth]
def wsX1_value_r3 : List Cond := [Cond.selects RX1 yX1_worth yX1_worth, Cond.code yX1_worth cX1_worth 6 (some .int), Cond.fieldLink RX1 9 "RumourReasonerModel" "kinds" "[I", Cond.fieldLink RX1 42 "RumourReasonerModel" "results" "[I", Cond.fieldLink RX1 13 "RumourReasonerModel" "firsts" "[I", Cond.fieldLink RX1 16 "RumourReasonerModel" "seconds" "[I", Cond.methodLink RX1 55 yX1_no, Cond.instanceMethod yX1_no, Cond.selects RX1 yX1_no yX1_no, Cond.code yX1_no cX1_no 2 (some .int)]
def wsX1_value : List Cond := .code yX1_value cX1_value 2 (some .int) :: ((wsX1_value_r1 ++ (wsX1_value_r2 ++ wsX1_value_r3)) ++ wsX10)
def wsX1_having : List Cond := .code yX1_having cX1_having 4 (some .int) :: ([.methodLink RX1 103 yX1_valueIn, .static yX1_valueIn, .initialized RX1, .code yX1_valueIn cX1_valueIn 2 (some .int)])
def wsX1_conflicts_r1 : List Cond := [Cond.fieldLink RX1 45 "RumourReasonerModel" "thrown" "I", Cond.methodLink RX1 100 yX1_present, Cond.instanceMethod yX1_present, Cond.selects RX1 yX1_present yX1_present, Cond.initialized RX1, Cond.code yX1_present cX1_present 1 (some .int), Cond.methodLink RX1 80 yX1_heardSet, Cond.instanceMethod yX1_heardSet, Cond.selects RX1 yX1_heardSet yX1_heardSet, Cond.code yX1_heardSet cX1_heardSet 3 (some .int), Cond.methodLink RX1 73 yX1_isHeard, Cond.instanceMethod yX1_isHeard, Cond.selects RX1 yX1_isHeard yX1_isHeard, Cond.code yX1_isHeard cX1_isHeard 2 (some .boolean), Cond.fieldLink RX1 26 "RumourReasonerModel" "areOn" "[Z", Cond.fieldLink RX1 23 "RumourReasonerModel" "trusts" "[I", Cond.fieldLink RX1 32 "RumourReasonerModel" "leastTrust" "I", Cond.methodLink RX1 97 yX1_settle, Cond.instanceMethod yX1_settle, Cond.selects RX1 yX1_settle yX1_settle, Cond.code yX1_settle cX1_settle 4 (some .int), Cond.methodLink RX1 91 yX1_begin, Cond.instanceMethod yX1_begin, Cond.selects RX1 yX1_begin yX1_begin]
def wsX1_conflicts_r2 : List Cond := [Cond.code yX1_begin cX1_begin 4 (some .int), Cond.methodLink RX1 84 yX1_givenBy, Cond.instanceMethod yX1_givenBy, Cond.selects RX1 yX1_givenBy yX1_givenBy, Cond.code yX1_givenBy cX1_givenBy 5 (some .int), Cond.fieldLink RX1 29 "RumourReasonerModel" "says" "[I", Cond.methodLink RX1 76 yX1_has, Cond.static yX1_has, Cond.code yX1_has cX1_has 2 (some .boolean), Cond.methodLink RX1 94 yX1_goOn, Cond.instanceMethod yX1_goOn, Cond.selects RX1 yX1_goOn yX1_goOn, Cond.code yX1_goOn cX1_goOn 5 (some .int), Cond.fieldLink RX1 36 "RumourReasonerModel" "rules" "[I", Cond.methodLink RX1 88 yX1_worth, Cond.instanceMethod yX1_worth, Cond.selects RX1 yX1_worth yX1_worth, Cond.code yX1_worth cX1_worth 6 (some .int), Cond.fieldLink RX1 9 "RumourReasonerModel" "kinds" "[I", Cond.fieldLink RX1 42 "RumourReasonerModel" "results" "[I", Cond.fieldLink RX1 13 "RumourReasonerModel" "firsts" "[I", Cond.fieldLink RX1 16 "RumourReasonerModel" "seconds" "[I", Cond.methodLink RX1 51 yX1_isIn, Cond.static yX1_isIn]
def wsX1_conflicts_r3 : List Cond := [Cond.code yX1_isIn cX1_isIn 3 (some .boolean), Cond.methodLink RX1 109 yX1_having, Cond.static yX1_having, Cond.code yX1_having cX1_having 4 (some .int), Cond.methodLink RX1 103 yX1_valueIn, Cond.static yX1_valueIn, Cond.code yX1_valueIn cX1_valueIn 2 (some .int)]
def wsX1_conflicts : List Cond := .code yX1_conflicts cX1_conflicts 1 (some .int) :: ((wsX1_conflicts_r1 ++ (wsX1_conflicts_r2 ++ wsX1_conflicts_r3)) ++ wsX10)
def wsX1_gaps_r1 : List Cond := [Cond.fieldLink RX1 45 "RumourReasonerModel" "thrown" "I", Cond.methodLink RX1 100 yX1_present, Cond.instanceMethod yX1_present, Cond.selects RX1 yX1_present yX1_present, Cond.initialized RX1, Cond.code yX1_present cX1_present 1 (some .int), Cond.methodLink RX1 80 yX1_heardSet, Cond.instanceMethod yX1_heardSet, Cond.selects RX1 yX1_heardSet yX1_heardSet, Cond.code yX1_heardSet cX1_heardSet 3 (some .int), Cond.methodLink RX1 73 yX1_isHeard, Cond.instanceMethod yX1_isHeard, Cond.selects RX1 yX1_isHeard yX1_isHeard, Cond.code yX1_isHeard cX1_isHeard 2 (some .boolean), Cond.fieldLink RX1 26 "RumourReasonerModel" "areOn" "[Z", Cond.fieldLink RX1 23 "RumourReasonerModel" "trusts" "[I", Cond.fieldLink RX1 32 "RumourReasonerModel" "leastTrust" "I", Cond.methodLink RX1 97 yX1_settle, Cond.instanceMethod yX1_settle, Cond.selects RX1 yX1_settle yX1_settle, Cond.code yX1_settle cX1_settle 4 (some .int), Cond.methodLink RX1 91 yX1_begin, Cond.instanceMethod yX1_begin, Cond.selects RX1 yX1_begin yX1_begin]
def wsX1_gaps_r2 : List Cond := [Cond.code yX1_begin cX1_begin 4 (some .int), Cond.methodLink RX1 84 yX1_givenBy, Cond.instanceMethod yX1_givenBy, Cond.selects RX1 yX1_givenBy yX1_givenBy, Cond.code yX1_givenBy cX1_givenBy 5 (some .int), Cond.fieldLink RX1 29 "RumourReasonerModel" "says" "[I", Cond.methodLink RX1 76 yX1_has, Cond.static yX1_has, Cond.code yX1_has cX1_has 2 (some .boolean), Cond.methodLink RX1 94 yX1_goOn, Cond.instanceMethod yX1_goOn, Cond.selects RX1 yX1_goOn yX1_goOn, Cond.code yX1_goOn cX1_goOn 5 (some .int), Cond.fieldLink RX1 36 "RumourReasonerModel" "rules" "[I", Cond.methodLink RX1 88 yX1_worth, Cond.instanceMethod yX1_worth, Cond.selects RX1 yX1_worth yX1_worth, Cond.code yX1_worth cX1_worth 6 (some .int), Cond.fieldLink RX1 9 "RumourReasonerModel" "kinds" "[I", Cond.fieldLink RX1 42 "RumourReasonerModel" "results" "[I", Cond.fieldLink RX1 13 "RumourReasonerModel" "firsts" "[I", Cond.fieldLink RX1 16 "RumourReasonerModel" "seconds" "[I", Cond.methodLink RX1 51 yX1_isIn, Cond.static yX1_isIn]
def wsX1_gaps_r3 : List Cond := [Cond.code yX1_isIn cX1_isIn 3 (some .boolean), Cond.methodLink RX1 109 yX1_having, Cond.static yX1_having, Cond.code yX1_having cX1_having 4 (some .int), Cond.methodLink RX1 103 yX1_valueIn, Cond.static yX1_valueIn, Cond.code yX1_valueIn cX1_valueIn 2 (some .int)]
def wsX1_gaps : List Cond := .code yX1_gaps cX1_gaps 1 (some .int) :: ((wsX1_gaps_r1 ++ (wsX1_gaps_r2 ++ wsX1_gaps_r3)) ++ wsX10)
def wsX1_discord_r1 : List Cond := [Cond.fieldLink RX1 45 "RumourReasonerModel" "thrown" "I", Cond.methodLink RX1 100 yX1_present, Cond.instanceMethod yX1_present, Cond.selects RX1 yX1_present yX1_present, Cond.initialized RX1, Cond.code yX1_present cX1_present 1 (some .int), Cond.methodLink RX1 80 yX1_heardSet, Cond.instanceMethod yX1_heardSet, Cond.selects RX1 yX1_heardSet yX1_heardSet, Cond.code yX1_heardSet cX1_heardSet 3 (some .int), Cond.methodLink RX1 73 yX1_isHeard, Cond.instanceMethod yX1_isHeard, Cond.selects RX1 yX1_isHeard yX1_isHeard, Cond.code yX1_isHeard cX1_isHeard 2 (some .boolean), Cond.fieldLink RX1 26 "RumourReasonerModel" "areOn" "[Z", Cond.fieldLink RX1 23 "RumourReasonerModel" "trusts" "[I", Cond.fieldLink RX1 32 "RumourReasonerModel" "leastTrust" "I", Cond.methodLink RX1 97 yX1_settle, Cond.instanceMethod yX1_settle, Cond.selects RX1 yX1_settle yX1_settle, Cond.code yX1_settle cX1_settle 4 (some .int), Cond.methodLink RX1 91 yX1_begin, Cond.instanceMethod yX1_begin, Cond.selects RX1 yX1_begin yX1_begin]
def wsX1_discord_r2 : List Cond := [Cond.code yX1_begin cX1_begin 4 (some .int), Cond.methodLink RX1 84 yX1_givenBy, Cond.instanceMethod yX1_givenBy, Cond.selects RX1 yX1_givenBy yX1_givenBy, Cond.code yX1_givenBy cX1_givenBy 5 (some .int), Cond.fieldLink RX1 29 "RumourReasonerModel" "says" "[I", Cond.methodLink RX1 76 yX1_has, Cond.static yX1_has, Cond.code yX1_has cX1_has 2 (some .boolean), Cond.methodLink RX1 94 yX1_goOn, Cond.instanceMethod yX1_goOn, Cond.selects RX1 yX1_goOn yX1_goOn, Cond.code yX1_goOn cX1_goOn 5 (some .int), Cond.fieldLink RX1 36 "RumourReasonerModel" "rules" "[I", Cond.methodLink RX1 88 yX1_worth, Cond.instanceMethod yX1_worth, Cond.selects RX1 yX1_worth yX1_worth, Cond.code yX1_worth cX1_worth 6 (some .int), Cond.fieldLink RX1 9 "RumourReasonerModel" "kinds" "[I", Cond.fieldLink RX1 42 "RumourReasonerModel" "results" "[I", Cond.fieldLink RX1 13 "RumourReasonerModel" "firsts" "[I", Cond.fieldLink RX1 16 "RumourReasonerModel" "seconds" "[I", Cond.methodLink RX1 51 yX1_isIn, Cond.static yX1_isIn]
def wsX1_discord_r3 : List Cond := [Cond.code yX1_isIn cX1_isIn 3 (some .boolean), Cond.methodLink RX1 109 yX1_having, Cond.static yX1_having, Cond.code yX1_having cX1_having 4 (some .int), Cond.methodLink RX1 103 yX1_valueIn, Cond.static yX1_valueIn, Cond.code yX1_valueIn cX1_valueIn 2 (some .int), Cond.methodLink RX1 112 yJ6_bitCount_0f7a4, Cond.static yJ6_bitCount_0f7a4, Cond.initialized RJ6, Cond.code yJ6_bitCount_0f7a4 cJ6_bitCount_0f7a4 1 (some .int), Cond.constant RJ6 265 (1431655765), Cond.constant RJ6 266 (858993459), Cond.constant RJ6 267 (252645135)]
def wsX1_discord : List Cond := .code yX1_discord cX1_discord 3 (some .double) :: ((wsX1_discord_r1 ++ (wsX1_discord_r2 ++ wsX1_discord_r3)) ++ wsX10)
def wsX1_heard : List Cond := .code yX1_heard cX1_heard 1 (some .int) :: ([.fieldLink RX1 45 "RumourReasonerModel" "thrown" "I", .methodLink RX1 80 yX1_heardSet, .instanceMethod yX1_heardSet, .selects RX1 yX1_heardSet yX1_heardSet, .initialized RX1, .code yX1_heardSet cX1_heardSet 3 (some .int), .methodLink RX1 73 yX1_isHeard, .instanceMethod yX1_isHeard, .selects RX1 yX1_isHeard yX1_isHeard, .code yX1_isHeard cX1_isHeard 2 (some .boolean), .fieldLink RX1 26 "RumourReasonerModel" "areOn" "[Z", .fieldLink RX1 23 "RumourReasonerModel" "trusts" "[I", .fieldLink RX1 32 "RumourReasonerModel" "leastTrust" "I"] ++ wsX10)
def wsX1_sayers : List Cond := .code yX1_sayers cX1_sayers 5 (some .int) :: ([.fieldLink RX1 45 "RumourReasonerModel" "thrown" "I", .fieldLink RX1 29 "RumourReasonerModel" "says" "[I", .methodLink RX1 59 yX1_isAtom, .static yX1_isAtom, .initialized RX1, .code yX1_isAtom cX1_isAtom 1 (some .boolean), .methodLink RX1 51 yX1_isIn, .static yX1_isIn, .code yX1_isIn cX1_isIn 3 (some .boolean), .methodLink RX1 55 yX1_no, .instanceMethod yX1_no, .selects RX1 yX1_no yX1_no, .code yX1_no cX1_no 2 (some .int), .methodLink RX1 73 yX1_isHeard, .instanceMethod yX1_isHeard, .selects RX1 yX1_isHeard yX1_isHeard, .code yX1_isHeard cX1_isHeard 2 (some .boolean), .fieldLink RX1 26 "RumourReasonerModel" "areOn" "[Z", .fieldLink RX1 23 "RumourReasonerModel" "trusts" "[I", .fieldLink RX1 32 "RumourReasonerModel" "leastTrust" "I"] ++ wsX10)
def wsX1_matters_r1 : List Cond := [Cond.fieldLink RX1 45 "RumourReasonerModel" "thrown" "I", Cond.methodLink RX1 70 yX1_isSource, Cond.static yX1_isSource, Cond.initialized RX1, Cond.code yX1_isSource cX1_isSource 1 (some .boolean), Cond.methodLink RX1 51 yX1_isIn, Cond.static yX1_isIn, Cond.code yX1_isIn cX1_isIn 3 (some .boolean), Cond.methodLink RX1 59 yX1_isAtom, Cond.static yX1_isAtom, Cond.code yX1_isAtom cX1_isAtom 1 (some .boolean), Cond.methodLink RX1 73 yX1_isHeard, Cond.instanceMethod yX1_isHeard, Cond.selects RX1 yX1_isHeard yX1_isHeard, Cond.code yX1_isHeard cX1_isHeard 2 (some .boolean), Cond.fieldLink RX1 26 "RumourReasonerModel" "areOn" "[Z", Cond.fieldLink RX1 23 "RumourReasonerModel" "trusts" "[I", Cond.fieldLink RX1 32 "RumourReasonerModel" "leastTrust" "I", Cond.methodLink RX1 100 yX1_present, Cond.instanceMethod yX1_present, Cond.selects RX1 yX1_present yX1_present, Cond.code yX1_present cX1_present 1 (some .int), Cond.methodLink RX1 80 yX1_heardSet, Cond.instanceMethod yX1_heardSet]
def wsX1_matters_r2 : List Cond := [Cond.selects RX1 yX1_heardSet yX1_heardSet, Cond.code yX1_heardSet cX1_heardSet 3 (some .int), Cond.methodLink RX1 97 yX1_settle, Cond.instanceMethod yX1_settle, Cond.selects RX1 yX1_settle yX1_settle, Cond.code yX1_settle cX1_settle 4 (some .int), Cond.methodLink RX1 91 yX1_begin, Cond.instanceMethod yX1_begin, Cond.selects RX1 yX1_begin yX1_begin, Cond.code yX1_begin cX1_begin 4 (some .int), Cond.methodLink RX1 84 yX1_givenBy, Cond.instanceMethod yX1_givenBy, Cond.selects RX1 yX1_givenBy yX1_givenBy, Cond.code yX1_givenBy cX1_givenBy 5 (some .int), Cond.fieldLink RX1 29 "RumourReasonerModel" "says" "[I", Cond.methodLink RX1 76 yX1_has, Cond.static yX1_has, Cond.code yX1_has cX1_has 2 (some .boolean), Cond.methodLink RX1 94 yX1_goOn, Cond.instanceMethod yX1_goOn, Cond.selects RX1 yX1_goOn yX1_goOn, Cond.code yX1_goOn cX1_goOn 5 (some .int), Cond.fieldLink RX1 36 "RumourReasonerModel" "rules" "[I", Cond.methodLink RX1 88 yX1_worth]
def wsX1_matters_r3 : List Cond := [Cond.instanceMethod yX1_worth, Cond.selects RX1 yX1_worth yX1_worth, Cond.code yX1_worth cX1_worth 6 (some .int), Cond.fieldLink RX1 9 "RumourReasonerModel" "kinds" "[I", Cond.fieldLink RX1 42 "RumourReasonerModel" "results" "[I", Cond.fieldLink RX1 13 "RumourReasonerModel" "firsts" "[I", Cond.fieldLink RX1 16 "RumourReasonerModel" "seconds" "[I", Cond.methodLink RX1 103 yX1_valueIn, Cond.static yX1_valueIn, Cond.code yX1_valueIn cX1_valueIn 2 (some .int)]
def wsX1_matters : List Cond := .code yX1_matters cX1_matters 3 (some .boolean) :: ((wsX1_matters_r1 ++ (wsX1_matters_r2 ++ wsX1_matters_r3)) ++ wsX10)
def wsX1_silence_r1 : List Cond := [Cond.fieldLink RX1 45 "RumourReasonerModel" "thrown" "I", Cond.fieldLink RX1 23 "RumourReasonerModel" "trusts" "[I", Cond.methodLink RX1 80 yX1_heardSet, Cond.instanceMethod yX1_heardSet, Cond.selects RX1 yX1_heardSet yX1_heardSet, Cond.initialized RX1, Cond.code yX1_heardSet cX1_heardSet 3 (some .int), Cond.methodLink RX1 73 yX1_isHeard, Cond.instanceMethod yX1_isHeard, Cond.selects RX1 yX1_isHeard yX1_isHeard, Cond.code yX1_isHeard cX1_isHeard 2 (some .boolean), Cond.fieldLink RX1 26 "RumourReasonerModel" "areOn" "[Z", Cond.fieldLink RX1 32 "RumourReasonerModel" "leastTrust" "I", Cond.methodLink RX1 76 yX1_has, Cond.static yX1_has, Cond.code yX1_has cX1_has 2 (some .boolean), Cond.methodLink RX1 97 yX1_settle, Cond.instanceMethod yX1_settle, Cond.selects RX1 yX1_settle yX1_settle, Cond.code yX1_settle cX1_settle 4 (some .int), Cond.methodLink RX1 91 yX1_begin, Cond.instanceMethod yX1_begin, Cond.selects RX1 yX1_begin yX1_begin, Cond.code yX1_begin cX1_begin 4 (some .int)]
def wsX1_silence_r2 : List Cond := [Cond.methodLink RX1 84 yX1_givenBy, Cond.instanceMethod yX1_givenBy, Cond.selects RX1 yX1_givenBy yX1_givenBy, Cond.code yX1_givenBy cX1_givenBy 5 (some .int), Cond.fieldLink RX1 29 "RumourReasonerModel" "says" "[I", Cond.methodLink RX1 94 yX1_goOn, Cond.instanceMethod yX1_goOn, Cond.selects RX1 yX1_goOn yX1_goOn, Cond.code yX1_goOn cX1_goOn 5 (some .int), Cond.fieldLink RX1 36 "RumourReasonerModel" "rules" "[I", Cond.methodLink RX1 88 yX1_worth, Cond.instanceMethod yX1_worth, Cond.selects RX1 yX1_worth yX1_worth, Cond.code yX1_worth cX1_worth 6 (some .int), Cond.fieldLink RX1 9 "RumourReasonerModel" "kinds" "[I", Cond.fieldLink RX1 42 "RumourReasonerModel" "results" "[I", Cond.fieldLink RX1 13 "RumourReasonerModel" "firsts" "[I", Cond.fieldLink RX1 16 "RumourReasonerModel" "seconds" "[I", Cond.methodLink RX1 51 yX1_isIn, Cond.static yX1_isIn, Cond.code yX1_isIn cX1_isIn 3 (some .boolean), Cond.methodLink RX1 109 yX1_having, Cond.static yX1_having, Cond.code yX1_having cX1_having 4 (some .int)]
def wsX1_silence_r3 : List Cond := [Cond.methodLink RX1 103 yX1_valueIn, Cond.static yX1_valueIn, Cond.code yX1_valueIn cX1_valueIn 2 (some .int)]
def wsX1_silence : List Cond := .code yX1_silence cX1_silence 7 (some .int) :: ((wsX1_silence_r1 ++ (wsX1_silence_r2 ++ wsX1_silence_r3)) ++ wsX10)
def wsX1_contradicted_r1 : List Cond := [Cond.fieldLink RX1 45 "RumourReasonerModel" "thrown" "I", Cond.fieldLink RX1 29 "RumourReasonerModel" "says" "[I", Cond.methodLink RX1 70 yX1_isSource, Cond.static yX1_isSource, Cond.initialized RX1, Cond.code yX1_isSource cX1_isSource 1 (some .boolean), Cond.methodLink RX1 51 yX1_isIn, Cond.static yX1_isIn, Cond.code yX1_isIn cX1_isIn 3 (some .boolean), Cond.methodLink RX1 55 yX1_no, Cond.instanceMethod yX1_no, Cond.selects RX1 yX1_no yX1_no, Cond.code yX1_no cX1_no 2 (some .int), Cond.methodLink RX1 100 yX1_present, Cond.instanceMethod yX1_present, Cond.selects RX1 yX1_present yX1_present, Cond.code yX1_present cX1_present 1 (some .int), Cond.methodLink RX1 80 yX1_heardSet, Cond.instanceMethod yX1_heardSet, Cond.selects RX1 yX1_heardSet yX1_heardSet, Cond.code yX1_heardSet cX1_heardSet 3 (some .int), Cond.methodLink RX1 73 yX1_isHeard, Cond.instanceMethod yX1_isHeard, Cond.selects RX1 yX1_isHeard yX1_isHeard]
def wsX1_contradicted_r2 : List Cond := [Cond.code yX1_isHeard cX1_isHeard 2 (some .boolean), Cond.fieldLink RX1 26 "RumourReasonerModel" "areOn" "[Z", Cond.fieldLink RX1 23 "RumourReasonerModel" "trusts" "[I", Cond.fieldLink RX1 32 "RumourReasonerModel" "leastTrust" "I", Cond.methodLink RX1 97 yX1_settle, Cond.instanceMethod yX1_settle, Cond.selects RX1 yX1_settle yX1_settle, Cond.code yX1_settle cX1_settle 4 (some .int), Cond.methodLink RX1 91 yX1_begin, Cond.instanceMethod yX1_begin, Cond.selects RX1 yX1_begin yX1_begin, Cond.code yX1_begin cX1_begin 4 (some .int), Cond.methodLink RX1 84 yX1_givenBy, Cond.instanceMethod yX1_givenBy, Cond.selects RX1 yX1_givenBy yX1_givenBy, Cond.code yX1_givenBy cX1_givenBy 5 (some .int), Cond.methodLink RX1 76 yX1_has, Cond.static yX1_has, Cond.code yX1_has cX1_has 2 (some .boolean), Cond.methodLink RX1 94 yX1_goOn, Cond.instanceMethod yX1_goOn, Cond.selects RX1 yX1_goOn yX1_goOn, Cond.code yX1_goOn cX1_goOn 5 (some .int), Cond.fieldLink RX1 36 "RumourReasonerModel" "rules" "[I"]
def wsX1_contradicted_r3 : List Cond := [Cond.methodLink RX1 88 yX1_worth, Cond.instanceMethod yX1_worth, Cond.selects RX1 yX1_worth yX1_worth, Cond.code yX1_worth cX1_worth 6 (some .int), Cond.fieldLink RX1 9 "RumourReasonerModel" "kinds" "[I", Cond.fieldLink RX1 42 "RumourReasonerModel" "results" "[I", Cond.fieldLink RX1 13 "RumourReasonerModel" "firsts" "[I", Cond.fieldLink RX1 16 "RumourReasonerModel" "seconds" "[I", Cond.methodLink RX1 103 yX1_valueIn, Cond.static yX1_valueIn, Cond.code yX1_valueIn cX1_valueIn 2 (some .int)]
def wsX1_contradicted : List Cond := .code yX1_contradicted cX1_contradicted 7 (some .int) :: ((wsX1_contradicted_r1 ++ (wsX1_contradicted_r2 ++ wsX1_contradicted_r3)) ++ wsX10)
def wsX1_setLogic : List Cond := .code yX1_setLogic cX1_setLogic 3 (some .int) :: ([.fieldLink RX1 45 "RumourReasonerModel" "thrown" "I", .fieldLink RX1 39 "RumourReasonerModel" "logic" "I", .methodLink RX1 51 yX1_isIn, .static yX1_isIn, .initialized RX1, .code yX1_isIn cX1_isIn 3 (some .boolean), .methodLink RX1 55 yX1_no, .instanceMethod yX1_no, .selects RX1 yX1_no yX1_no, .code yX1_no cX1_no 2 (some .int)] ++ wsX10)
def wsX1_counts : List Cond := .code yX1_counts cX1_counts 4 (some .boolean) :: ([.fieldLink RX1 39 "RumourReasonerModel" "logic" "I", .methodLink RX1 103 yX1_valueIn, .static yX1_valueIn, .initialized RX1, .code yX1_valueIn cX1_valueIn 2 (some .int), .methodLink RX1 76 yX1_has, .static yX1_has, .code yX1_has cX1_has 2 (some .boolean)] ++ wsX10)
def wsX1_isYes : List Cond := .code yX1_isYes cX1_isYes 3 (some .boolean) :: ([.methodLink RX1 88 yX1_worth, .instanceMethod yX1_worth, .selects RX1 yX1_worth yX1_worth, .initialized RX1, .code yX1_worth cX1_worth 6 (some .int), .fieldLink RX1 9 "RumourReasonerModel" "kinds" "[I", .fieldLink RX1 42 "RumourReasonerModel" "results" "[I", .fieldLink RX1 13 "RumourReasonerModel" "firsts" "[I", .fieldLink RX1 16 "RumourReasonerModel" "seconds" "[I", .methodLink RX1 51 yX1_isIn, .static yX1_isIn, .code yX1_isIn cX1_isIn 3 (some .boolean)] ++ wsX10)
def wsX1_models_r1 : List Cond := [Cond.fieldLink RX1 45 "RumourReasonerModel" "thrown" "I", Cond.methodLink RX1 67 yX1_isFormula, Cond.instanceMethod yX1_isFormula, Cond.selects RX1 yX1_isFormula yX1_isFormula, Cond.initialized RX1, Cond.code yX1_isFormula cX1_isFormula 2 (some .boolean), Cond.fieldLink RX1 48 "RumourReasonerModel" "formulas" "I", Cond.methodLink RX1 51 yX1_isIn, Cond.static yX1_isIn, Cond.code yX1_isIn cX1_isIn 3 (some .boolean), Cond.methodLink RX1 55 yX1_no, Cond.instanceMethod yX1_no, Cond.selects RX1 yX1_no yX1_no, Cond.code yX1_no cX1_no 2 (some .int), Cond.methodLink RX1 117 yX1_counts, Cond.instanceMethod yX1_counts, Cond.selects RX1 yX1_counts yX1_counts, Cond.code yX1_counts cX1_counts 4 (some .boolean), Cond.fieldLink RX1 39 "RumourReasonerModel" "logic" "I", Cond.methodLink RX1 103 yX1_valueIn, Cond.static yX1_valueIn, Cond.code yX1_valueIn cX1_valueIn 2 (some .int), Cond.methodLink RX1 76 yX1_has, Cond.static yX1_has]
def wsX1_models_r2 : List Cond := [Cond.code yX1_has cX1_has 2 (some .boolean), Cond.methodLink RX1 120 yX1_isYes, Cond.instanceMethod yX1_isYes, Cond.selects RX1 yX1_isYes yX1_isYes, Cond.code yX1_isYes cX1_isYes 3 (some .boolean), Cond.methodLink RX1 88 yX1_worth, Cond.instanceMethod yX1_worth, Cond.selects RX1 yX1_worth yX1_worth, Cond.code yX1_worth cX1_worth 6 (some .int), Cond.fieldLink RX1 9 "RumourReasonerModel" "kinds" "[I", Cond.fieldLink RX1 42 "RumourReasonerModel" "results" "[I", Cond.fieldLink RX1 13 "RumourReasonerModel" "firsts" "[I", Cond.fieldLink RX1 16 "RumourReasonerModel" "seconds" "[I"]
def wsX1_models : List Cond := .code yX1_models cX1_models 4 (some .int) :: ((wsX1_models_r1 ++ wsX1_models_r2) ++ wsX10)
def wsX1_range_r1 : List Cond := [Cond.fieldLink RX1 45 "RumourReasonerModel" "thrown" "I", Cond.methodLink RX1 67 yX1_isFormula, Cond.instanceMethod yX1_isFormula, Cond.selects RX1 yX1_isFormula yX1_isFormula, Cond.initialized RX1, Cond.code yX1_isFormula cX1_isFormula 2 (some .boolean), Cond.fieldLink RX1 48 "RumourReasonerModel" "formulas" "I", Cond.methodLink RX1 51 yX1_isIn, Cond.static yX1_isIn, Cond.code yX1_isIn cX1_isIn 3 (some .boolean), Cond.methodLink RX1 55 yX1_no, Cond.instanceMethod yX1_no, Cond.selects RX1 yX1_no yX1_no, Cond.code yX1_no cX1_no 2 (some .int), Cond.methodLink RX1 117 yX1_counts, Cond.instanceMethod yX1_counts, Cond.selects RX1 yX1_counts yX1_counts, Cond.code yX1_counts cX1_counts 4 (some .boolean), Cond.fieldLink RX1 39 "RumourReasonerModel" "logic" "I", Cond.methodLink RX1 103 yX1_valueIn, Cond.static yX1_valueIn, Cond.code yX1_valueIn cX1_valueIn 2 (some .int), Cond.methodLink RX1 76 yX1_has, Cond.static yX1_has]
def wsX1_range_r2 : List Cond := [Cond.code yX1_has cX1_has 2 (some .boolean), Cond.methodLink RX1 88 yX1_worth, Cond.instanceMethod yX1_worth, Cond.selects RX1 yX1_worth yX1_worth, Cond.code yX1_worth cX1_worth 6 (some .int), Cond.fieldLink RX1 9 "RumourReasonerModel" "kinds" "[I", Cond.fieldLink RX1 42 "RumourReasonerModel" "results" "[I", Cond.fieldLink RX1 13 "RumourReasonerModel" "firsts" "[I", Cond.fieldLink RX1 16 "RumourReasonerModel" "seconds" "[I"]
def wsX1_range : List Cond := .code yX1_range cX1_range 4 (some .int) :: ((wsX1_range_r1 ++ wsX1_range_r2) ++ wsX10)
def wsX1_firstAgainst_r1 : List Cond := [Cond.methodLink RX1 117 yX1_counts, Cond.instanceMethod yX1_counts, Cond.selects RX1 yX1_counts yX1_counts, Cond.initialized RX1, Cond.code yX1_counts cX1_counts 4 (some .boolean), Cond.fieldLink RX1 39 "RumourReasonerModel" "logic" "I", Cond.methodLink RX1 103 yX1_valueIn, Cond.static yX1_valueIn, Cond.code yX1_valueIn cX1_valueIn 2 (some .int), Cond.methodLink RX1 76 yX1_has, Cond.static yX1_has, Cond.code yX1_has cX1_has 2 (some .boolean), Cond.methodLink RX1 120 yX1_isYes, Cond.instanceMethod yX1_isYes, Cond.selects RX1 yX1_isYes yX1_isYes, Cond.code yX1_isYes cX1_isYes 3 (some .boolean), Cond.methodLink RX1 88 yX1_worth, Cond.instanceMethod yX1_worth, Cond.selects RX1 yX1_worth yX1_worth, Cond.code yX1_worth cX1_worth 6 (some .int), Cond.fieldLink RX1 9 "RumourReasonerModel" "kinds" "[I", Cond.fieldLink RX1 42 "RumourReasonerModel" "results" "[I", Cond.fieldLink RX1 13 "RumourReasonerModel" "firsts" "[I", Cond.fieldLink RX1 16 "RumourReasonerModel" "seconds" "[I"]
def wsX1_firstAgainst_r2 : List Cond := [Cond.methodLink RX1 51 yX1_isIn, Cond.static yX1_isIn, Cond.code yX1_isIn cX1_isIn 3 (some .boolean)]
def wsX1_firstAgainst : List Cond := .code yX1_firstAgainst cX1_firstAgainst 4 (some .int) :: ((wsX1_firstAgainst_r1 ++ wsX1_firstAgainst_r2) ++ wsX10)
def wsX1_entails_r1 : List Cond := [Cond.fieldLink RX1 45 "RumourReasonerModel" "thrown" "I", Cond.methodLink RX1 67 yX1_isFormula, Cond.instanceMethod yX1_isFormula, Cond.selects RX1 yX1_isFormula yX1_isFormula, Cond.initialized RX1, Cond.code yX1_isFormula cX1_isFormula 2 (some .boolean), Cond.fieldLink RX1 48 "RumourReasonerModel" "formulas" "I", Cond.methodLink RX1 51 yX1_isIn, Cond.static yX1_isIn, Cond.code yX1_isIn cX1_isIn 3 (some .boolean), Cond.methodLink RX1 123 yX1_firstAgainst, Cond.instanceMethod yX1_firstAgainst, Cond.selects RX1 yX1_firstAgainst yX1_firstAgainst, Cond.code yX1_firstAgainst cX1_firstAgainst 4 (some .int), Cond.methodLink RX1 117 yX1_counts, Cond.instanceMethod yX1_counts, Cond.selects RX1 yX1_counts yX1_counts, Cond.code yX1_counts cX1_counts 4 (some .boolean), Cond.fieldLink RX1 39 "RumourReasonerModel" "logic" "I", Cond.methodLink RX1 103 yX1_valueIn, Cond.static yX1_valueIn, Cond.code yX1_valueIn cX1_valueIn 2 (some .int), Cond.methodLink RX1 76 yX1_has, Cond.static yX1_has]
def wsX1_entails_r2 : List Cond := [Cond.code yX1_has cX1_has 2 (some .boolean), Cond.methodLink RX1 120 yX1_isYes, Cond.instanceMethod yX1_isYes, Cond.selects RX1 yX1_isYes yX1_isYes, Cond.code yX1_isYes cX1_isYes 3 (some .boolean), Cond.methodLink RX1 88 yX1_worth, Cond.instanceMethod yX1_worth, Cond.selects RX1 yX1_worth yX1_worth, Cond.code yX1_worth cX1_worth 6 (some .int), Cond.fieldLink RX1 9 "RumourReasonerModel" "kinds" "[I", Cond.fieldLink RX1 42 "RumourReasonerModel" "results" "[I", Cond.fieldLink RX1 13 "RumourReasonerModel" "firsts" "[I", Cond.fieldLink RX1 16 "RumourReasonerModel" "seconds" "[I"]
def wsX1_entails : List Cond := .code yX1_entails cX1_entails 3 (some .boolean) :: ((wsX1_entails_r1 ++ wsX1_entails_r2) ++ wsX10)
def wsX1_against_r1 : List Cond := [Cond.fieldLink RX1 45 "RumourReasonerModel" "thrown" "I", Cond.methodLink RX1 67 yX1_isFormula, Cond.instanceMethod yX1_isFormula, Cond.selects RX1 yX1_isFormula yX1_isFormula, Cond.initialized RX1, Cond.code yX1_isFormula cX1_isFormula 2 (some .boolean), Cond.fieldLink RX1 48 "RumourReasonerModel" "formulas" "I", Cond.methodLink RX1 51 yX1_isIn, Cond.static yX1_isIn, Cond.code yX1_isIn cX1_isIn 3 (some .boolean), Cond.methodLink RX1 123 yX1_firstAgainst, Cond.instanceMethod yX1_firstAgainst, Cond.selects RX1 yX1_firstAgainst yX1_firstAgainst, Cond.code yX1_firstAgainst cX1_firstAgainst 4 (some .int), Cond.methodLink RX1 117 yX1_counts, Cond.instanceMethod yX1_counts, Cond.selects RX1 yX1_counts yX1_counts, Cond.code yX1_counts cX1_counts 4 (some .boolean), Cond.fieldLink RX1 39 "RumourReasonerModel" "logic" "I", Cond.methodLink RX1 103 yX1_valueIn, Cond.static yX1_valueIn, Cond.code yX1_valueIn cX1_valueIn 2 (some .int), Cond.methodLink RX1 76 yX1_has, Cond.static yX1_has]
def wsX1_against_r2 : List Cond := [Cond.code yX1_has cX1_has 2 (some .boolean), Cond.methodLink RX1 120 yX1_isYes, Cond.instanceMethod yX1_isYes, Cond.selects RX1 yX1_isYes yX1_isYes, Cond.code yX1_isYes cX1_isYes 3 (some .boolean), Cond.methodLink RX1 88 yX1_worth, Cond.instanceMethod yX1_worth, Cond.selects RX1 yX1_worth yX1_worth, Cond.code yX1_worth cX1_worth 6 (some .int), Cond.fieldLink RX1 9 "RumourReasonerModel" "kinds" "[I", Cond.fieldLink RX1 42 "RumourReasonerModel" "results" "[I", Cond.fieldLink RX1 13 "RumourReasonerModel" "firsts" "[I", Cond.fieldLink RX1 16 "RumourReasonerModel" "seconds" "[I", Cond.methodLink RX1 55 yX1_no, Cond.instanceMethod yX1_no, Cond.selects RX1 yX1_no yX1_no, Cond.code yX1_no cX1_no 2 (some .int)]
def wsX1_against : List Cond := .code yX1_against cX1_against 3 (some .int) :: ((wsX1_against_r1 ++ wsX1_against_r2) ++ wsX10)
def wsX1_areEqual_r1 : List Cond := [Cond.fieldLink RX1 45 "RumourReasonerModel" "thrown" "I", Cond.methodLink RX1 67 yX1_isFormula, Cond.instanceMethod yX1_isFormula, Cond.selects RX1 yX1_isFormula yX1_isFormula, Cond.initialized RX1, Cond.code yX1_isFormula cX1_isFormula 2 (some .boolean), Cond.fieldLink RX1 48 "RumourReasonerModel" "formulas" "I", Cond.methodLink RX1 51 yX1_isIn, Cond.static yX1_isIn, Cond.code yX1_isIn cX1_isIn 3 (some .boolean), Cond.methodLink RX1 117 yX1_counts, Cond.instanceMethod yX1_counts, Cond.selects RX1 yX1_counts yX1_counts, Cond.code yX1_counts cX1_counts 4 (some .boolean), Cond.fieldLink RX1 39 "RumourReasonerModel" "logic" "I", Cond.methodLink RX1 103 yX1_valueIn, Cond.static yX1_valueIn, Cond.code yX1_valueIn cX1_valueIn 2 (some .int), Cond.methodLink RX1 76 yX1_has, Cond.static yX1_has, Cond.code yX1_has cX1_has 2 (some .boolean), Cond.methodLink RX1 88 yX1_worth, Cond.instanceMethod yX1_worth, Cond.selects RX1 yX1_worth yX1_worth]
def wsX1_areEqual_r2 : List Cond := [Cond.code yX1_worth cX1_worth 6 (some .int), Cond.fieldLink RX1 9 "RumourReasonerModel" "kinds" "[I", Cond.fieldLink RX1 42 "RumourReasonerModel" "results" "[I", Cond.fieldLink RX1 13 "RumourReasonerModel" "firsts" "[I", Cond.fieldLink RX1 16 "RumourReasonerModel" "seconds" "[I"]
def wsX1_areEqual : List Cond := .code yX1_areEqual cX1_areEqual 5 (some .boolean) :: ((wsX1_areEqual_r1 ++ wsX1_areEqual_r2) ++ wsX10)
def wsX1_depends_r1 : List Cond := [Cond.fieldLink RX1 45 "RumourReasonerModel" "thrown" "I", Cond.methodLink RX1 67 yX1_isFormula, Cond.instanceMethod yX1_isFormula, Cond.selects RX1 yX1_isFormula yX1_isFormula, Cond.initialized RX1, Cond.code yX1_isFormula cX1_isFormula 2 (some .boolean), Cond.fieldLink RX1 48 "RumourReasonerModel" "formulas" "I", Cond.methodLink RX1 51 yX1_isIn, Cond.static yX1_isIn, Cond.code yX1_isIn cX1_isIn 3 (some .boolean), Cond.methodLink RX1 59 yX1_isAtom, Cond.static yX1_isAtom, Cond.code yX1_isAtom cX1_isAtom 1 (some .boolean), Cond.methodLink RX1 103 yX1_valueIn, Cond.static yX1_valueIn, Cond.code yX1_valueIn cX1_valueIn 2 (some .int), Cond.methodLink RX1 117 yX1_counts, Cond.instanceMethod yX1_counts, Cond.selects RX1 yX1_counts yX1_counts, Cond.code yX1_counts cX1_counts 4 (some .boolean), Cond.fieldLink RX1 39 "RumourReasonerModel" "logic" "I", Cond.methodLink RX1 76 yX1_has, Cond.static yX1_has, Cond.code yX1_has cX1_has 2 (some .boolean)]
def wsX1_depends_r2 : List Cond := [Cond.methodLink RX1 88 yX1_worth, Cond.instanceMethod yX1_worth, Cond.selects RX1 yX1_worth yX1_worth, Cond.code yX1_worth cX1_worth 6 (some .int), Cond.fieldLink RX1 9 "RumourReasonerModel" "kinds" "[I", Cond.fieldLink RX1 42 "RumourReasonerModel" "results" "[I", Cond.fieldLink RX1 13 "RumourReasonerModel" "firsts" "[I", Cond.fieldLink RX1 16 "RumourReasonerModel" "seconds" "[I", Cond.methodLink RX1 112 yJ6_bitCount_0f7a4, Cond.static yJ6_bitCount_0f7a4, Cond.initialized RJ6, Cond.code yJ6_bitCount_0f7a4 cJ6_bitCount_0f7a4 1 (some .int), Cond.constant RJ6 265 (1431655765), Cond.constant RJ6 266 (858993459), Cond.constant RJ6 267 (252645135)]
def wsX1_depends : List Cond := .code yX1_depends cX1_depends 8 (some .boolean) :: ((wsX1_depends_r1 ++ wsX1_depends_r2) ++ wsX10)
def wsX1_valueAt : List Cond := .code yX1_valueAt cX1_valueAt 3 (some .int) :: ([.fieldLink RX1 45 "RumourReasonerModel" "thrown" "I", .methodLink RX1 67 yX1_isFormula, .instanceMethod yX1_isFormula, .selects RX1 yX1_isFormula yX1_isFormula, .initialized RX1, .code yX1_isFormula cX1_isFormula 2 (some .boolean), .fieldLink RX1 48 "RumourReasonerModel" "formulas" "I", .methodLink RX1 51 yX1_isIn, .static yX1_isIn, .code yX1_isIn cX1_isIn 3 (some .boolean), .methodLink RX1 55 yX1_no, .instanceMethod yX1_no, .selects RX1 yX1_no yX1_no, .code yX1_no cX1_no 2 (some .int), .methodLink RX1 88 yX1_worth, .instanceMethod yX1_worth, .selects RX1 yX1_worth yX1_worth, .code yX1_worth cX1_worth 6 (some .int), .fieldLink RX1 9 "RumourReasonerModel" "kinds" "[I", .fieldLink RX1 42 "RumourReasonerModel" "results" "[I", .fieldLink RX1 13 "RumourReasonerModel" "firsts" "[I", .fieldLink RX1 16 "RumourReasonerModel" "seconds" "[I"] ++ wsX10)
def wsX1_digest_r1 : List Cond := [Cond.fieldLink RX1 45 "RumourReasonerModel" "thrown" "I", Cond.constantLong RX1 126 (4061), Cond.fieldLink RX1 48 "RumourReasonerModel" "formulas" "I", Cond.constantLong RX1 128 (31), Cond.fieldLink RX1 9 "RumourReasonerModel" "kinds" "[I", Cond.fieldLink RX1 32 "RumourReasonerModel" "leastTrust" "I", Cond.fieldLink RX1 23 "RumourReasonerModel" "trusts" "[I", Cond.fieldLink RX1 26 "RumourReasonerModel" "areOn" "[Z", Cond.fieldLink RX1 29 "RumourReasonerModel" "says" "[I", Cond.fieldLink RX1 36 "RumourReasonerModel" "rules" "[I", Cond.fieldLink RX1 39 "RumourReasonerModel" "logic" "I", Cond.methodLink RX1 80 yX1_heardSet, Cond.instanceMethod yX1_heardSet, Cond.selects RX1 yX1_heardSet yX1_heardSet, Cond.initialized RX1, Cond.code yX1_heardSet cX1_heardSet 3 (some .int), Cond.methodLink RX1 73 yX1_isHeard, Cond.instanceMethod yX1_isHeard, Cond.selects RX1 yX1_isHeard yX1_isHeard, Cond.code yX1_isHeard cX1_isHeard 2 (some .boolean), Cond.methodLink RX1 97 yX1_settle, Cond.instanceMethod yX1_settle, Cond.selects RX1 yX1_settle yX1_settle, Cond.code yX1_settle cX1_settle 4 (some .int)]
def wsX1_digest_r2 : List Cond := [Cond.methodLink RX1 91 yX1_begin, Cond.instanceMethod yX1_begin, Cond.selects RX1 yX1_begin yX1_begin, Cond.code yX1_begin cX1_begin 4 (some .int), Cond.methodLink RX1 84 yX1_givenBy, Cond.instanceMethod yX1_givenBy, Cond.selects RX1 yX1_givenBy yX1_givenBy, Cond.code yX1_givenBy cX1_givenBy 5 (some .int), Cond.methodLink RX1 76 yX1_has, Cond.static yX1_has, Cond.code yX1_has cX1_has 2 (some .boolean), Cond.methodLink RX1 94 yX1_goOn, Cond.instanceMethod yX1_goOn, Cond.selects RX1 yX1_goOn yX1_goOn, Cond.code yX1_goOn cX1_goOn 5 (some .int), Cond.methodLink RX1 88 yX1_worth, Cond.instanceMethod yX1_worth, Cond.selects RX1 yX1_worth yX1_worth, Cond.code yX1_worth cX1_worth 6 (some .int), Cond.fieldLink RX1 42 "RumourReasonerModel" "results" "[I", Cond.fieldLink RX1 13 "RumourReasonerModel" "firsts" "[I", Cond.fieldLink RX1 16 "RumourReasonerModel" "seconds" "[I", Cond.methodLink RX1 51 yX1_isIn, Cond.static yX1_isIn]
def wsX1_digest_r3 : List Cond := [Cond.code yX1_isIn cX1_isIn 3 (some .boolean), Cond.methodLink RX1 103 yX1_valueIn, Cond.static yX1_valueIn, Cond.code yX1_valueIn cX1_valueIn 2 (some .int), Cond.methodLink RX1 106 yX1_roundCount, Cond.instanceMethod yX1_roundCount, Cond.selects RX1 yX1_roundCount yX1_roundCount, Cond.code yX1_roundCount cX1_roundCount 4 (some .int)]
def wsX1_digest : List Cond := .code yX1_digest cX1_digest 6 (some .long) :: ((wsX1_digest_r1 ++ (wsX1_digest_r2 ++ wsX1_digest_r3)) ++ wsX10)
def wsL_atom_r1 : List Cond := [Cond.classLink RL 13 "java/lang/IndexOutOfBoundsException", Cond.classLink RL 15 "java/lang/IllegalStateException", Cond.methodLink RL 7 yX0_atom, Cond.instanceMethod yX0_atom, Cond.selects RX0 yX0_atom yX0_atom, Cond.initialized RX0, Cond.code yX0_atom cX0_atom 5 (some .int), Cond.fieldLink RX0 9 "RumourReasoner" "count" "I", Cond.fieldLink RX0 21 "RumourReasoner" "trueSets" "[J", Cond.fieldLink RX0 25 "RumourReasoner" "falseSets" "[J", Cond.methodLink RX0 52 yX0_requireAtom, Cond.static yX0_requireAtom, Cond.code yX0_requireAtom cX0_requireAtom 1 none, Cond.classLink RX0 197 "java/lang/IndexOutOfBoundsException", Cond.initialized "java/lang/IndexOutOfBoundsException", Cond.methodLink RX0 56 yX0_requireRoom, Cond.instanceMethod yX0_requireRoom, Cond.selects RX0 yX0_requireRoom yX0_requireRoom, Cond.code yX0_requireRoom cX0_requireRoom 1 none, Cond.classLink RX0 212 "java/lang/IllegalStateException", Cond.initialized "java/lang/IllegalStateException", Cond.methodLink RX0 59 yX0_placeOf, Cond.static yX0_placeOf, Cond.code yX0_placeOf cX0_placeOf 1 (some .int)]
def wsL_atom_r2 : List Cond := [Cond.methodLink RX0 63 yX0_rowOf, Cond.static yX0_rowOf, Cond.code yX0_rowOf cX0_rowOf 1 (some .int), Cond.methodLink RX0 66 yX0_valuationsWithBit, Cond.static yX0_valuationsWithBit, Cond.code yX0_valuationsWithBit cX0_valuationsWithBit 2 (some .long), Cond.fieldLink RX0 217 "RumourReasoner" "NUMBERS_WITH_BIT" "[J", Cond.constantLong RX0 46 (-1), Cond.methodLink RX0 70 yX0_addFormula, Cond.instanceMethod yX0_addFormula, Cond.selects RX0 yX0_addFormula yX0_addFormula, Cond.code yX0_addFormula cX0_addFormula 4 (some .int), Cond.fieldLink RX0 13 "RumourReasoner" "kinds" "[I", Cond.fieldLink RX0 17 "RumourReasoner" "steady" "[Z"]
def wsL_atom : List Cond := .codeWith yL_atom cL_atom 4 (some .int) [(0, 9, 12, 13), (0, 9, 15, 15)] :: ((wsL_atom_r1 ++ wsL_atom_r2) ++ wsX00 ++ (vx_atS RX0 201 "java/lang/IndexOutOfBoundsException" ["java/lang/RuntimeException", "java/lang/Exception"]).filter goodWord ++ (vx_atS RX0 216 "java/lang/IllegalStateException" ["java/lang/RuntimeException", "java/lang/Exception"]).filter goodWord)
def wsL_constant_r1 : List Cond := [Cond.classLink RL 20 "java/lang/IllegalArgumentException", Cond.classLink RL 15 "java/lang/IllegalStateException", Cond.methodLink RL 17 yX0_constant, Cond.instanceMethod yX0_constant, Cond.selects RX0 yX0_constant yX0_constant, Cond.initialized RX0, Cond.code yX0_constant cX0_constant 4 (some .int), Cond.fieldLink RX0 9 "RumourReasoner" "count" "I", Cond.fieldLink RX0 21 "RumourReasoner" "trueSets" "[J", Cond.constantLong RX0 46 (-1), Cond.fieldLink RX0 25 "RumourReasoner" "falseSets" "[J", Cond.methodLink RX0 74 yX0_requireValue, Cond.static yX0_requireValue, Cond.code yX0_requireValue cX0_requireValue 1 none, Cond.classLink RX0 80 "java/lang/IllegalArgumentException", Cond.initialized "java/lang/IllegalArgumentException", Cond.methodLink RX0 56 yX0_requireRoom, Cond.instanceMethod yX0_requireRoom, Cond.selects RX0 yX0_requireRoom yX0_requireRoom, Cond.code yX0_requireRoom cX0_requireRoom 1 none, Cond.classLink RX0 212 "java/lang/IllegalStateException", Cond.initialized "java/lang/IllegalStateException", Cond.methodLink RX0 63 yX0_rowOf, Cond.static yX0_rowOf]
def wsL_constant_r2 : List Cond := [Cond.code yX0_rowOf cX0_rowOf 1 (some .int), Cond.methodLink RX0 70 yX0_addFormula, Cond.instanceMethod yX0_addFormula, Cond.selects RX0 yX0_addFormula yX0_addFormula, Cond.code yX0_addFormula cX0_addFormula 4 (some .int), Cond.fieldLink RX0 13 "RumourReasoner" "kinds" "[I", Cond.fieldLink RX0 17 "RumourReasoner" "steady" "[Z"]
def wsL_constant : List Cond := .codeWith yL_constant cL_constant 4 (some .int) [(0, 9, 12, 20), (0, 9, 15, 15)] :: ((wsL_constant_r1 ++ wsL_constant_r2) ++ wsX00 ++ (vx_atS RX0 84 "java/lang/IllegalArgumentException" ["java/lang/RuntimeException", "java/lang/Exception"]).filter goodWord ++ (vx_atS RX0 216 "java/lang/IllegalStateException" ["java/lang/RuntimeException", "java/lang/Exception"]).filter goodWord)
def wsL_turn_r1 : List Cond := [Cond.classLink RL 13 "java/lang/IndexOutOfBoundsException", Cond.classLink RL 20 "java/lang/IllegalArgumentException", Cond.classLink RL 15 "java/lang/IllegalStateException", Cond.methodLink RL 22 yX0_turn, Cond.instanceMethod yX0_turn, Cond.selects RX0 yX0_turn yX0_turn, Cond.initialized RX0, Cond.code yX0_turn cX0_turn 10 (some .int), Cond.classLink RX0 80 "java/lang/IllegalArgumentException", Cond.initialized "java/lang/IllegalArgumentException", Cond.fieldLink RX0 9 "RumourReasoner" "count" "I", Cond.fieldLink RX0 21 "RumourReasoner" "trueSets" "[J", Cond.fieldLink RX0 25 "RumourReasoner" "falseSets" "[J", Cond.constantLong RX0 46 (-1), Cond.fieldLink RX0 17 "RumourReasoner" "steady" "[Z", Cond.methodLink RX0 77 yX0_requireFormula, Cond.instanceMethod yX0_requireFormula, Cond.selects RX0 yX0_requireFormula yX0_requireFormula, Cond.code yX0_requireFormula cX0_requireFormula 2 none, Cond.classLink RX0 197 "java/lang/IndexOutOfBoundsException", Cond.initialized "java/lang/IndexOutOfBoundsException", Cond.methodLink RX0 56 yX0_requireRoom, Cond.instanceMethod yX0_requireRoom, Cond.selects RX0 yX0_requireRoom yX0_requireRoom]
def wsL_turn_r2 : List Cond := [Cond.code yX0_requireRoom cX0_requireRoom 1 none, Cond.classLink RX0 212 "java/lang/IllegalStateException", Cond.initialized "java/lang/IllegalStateException", Cond.methodLink RX0 63 yX0_rowOf, Cond.static yX0_rowOf, Cond.code yX0_rowOf cX0_rowOf 1 (some .int), Cond.methodLink RX0 70 yX0_addFormula, Cond.instanceMethod yX0_addFormula, Cond.selects RX0 yX0_addFormula yX0_addFormula, Cond.code yX0_addFormula cX0_addFormula 4 (some .int), Cond.fieldLink RX0 13 "RumourReasoner" "kinds" "[I"]
def wsL_turn : List Cond := .codeWith yL_turn cL_turn 5 (some .int) [(0, 10, 13, 13), (0, 10, 17, 20), (0, 10, 21, 15)] :: ((wsL_turn_r1 ++ wsL_turn_r2) ++ wsX00 ++ (vx_atS RX0 84 "java/lang/IllegalArgumentException" ["java/lang/RuntimeException", "java/lang/Exception"]).filter goodWord ++ (vx_atS RX0 201 "java/lang/IndexOutOfBoundsException" ["java/lang/RuntimeException", "java/lang/Exception"]).filter goodWord ++ (vx_atS RX0 216 "java/lang/IllegalStateException" ["java/lang/RuntimeException", "java/lang/Exception"]).filter goodWord)
def wsL_join_r1 : List Cond := [Cond.classLink RL 13 "java/lang/IndexOutOfBoundsException", Cond.classLink RL 20 "java/lang/IllegalArgumentException", Cond.classLink RL 15 "java/lang/IllegalStateException", Cond.methodLink RL 26 yX0_join, Cond.instanceMethod yX0_join, Cond.selects RX0 yX0_join yX0_join, Cond.initialized RX0, Cond.code yX0_join cX0_join 10 (some .int), Cond.classLink RX0 80 "java/lang/IllegalArgumentException", Cond.initialized "java/lang/IllegalArgumentException", Cond.fieldLink RX0 9 "RumourReasoner" "count" "I", Cond.fieldLink RX0 21 "RumourReasoner" "trueSets" "[J", Cond.fieldLink RX0 25 "RumourReasoner" "falseSets" "[J", Cond.fieldLink RX0 17 "RumourReasoner" "steady" "[Z", Cond.methodLink RX0 77 yX0_requireFormula, Cond.instanceMethod yX0_requireFormula, Cond.selects RX0 yX0_requireFormula yX0_requireFormula, Cond.code yX0_requireFormula cX0_requireFormula 2 none, Cond.classLink RX0 197 "java/lang/IndexOutOfBoundsException", Cond.initialized "java/lang/IndexOutOfBoundsException", Cond.methodLink RX0 56 yX0_requireRoom, Cond.instanceMethod yX0_requireRoom, Cond.selects RX0 yX0_requireRoom yX0_requireRoom, Cond.code yX0_requireRoom cX0_requireRoom 1 none]
def wsL_join_r2 : List Cond := [Cond.classLink RX0 212 "java/lang/IllegalStateException", Cond.initialized "java/lang/IllegalStateException", Cond.methodLink RX0 63 yX0_rowOf, Cond.static yX0_rowOf, Cond.code yX0_rowOf cX0_rowOf 1 (some .int), Cond.methodLink RX0 89 yX0_joinTrue, Cond.static yX0_joinTrue, Cond.code yX0_joinTrue cX0_joinTrue 5 (some .long), Cond.constantLong RX0 46 (-1), Cond.methodLink RX0 93 yX0_joinFalse, Cond.static yX0_joinFalse, Cond.code yX0_joinFalse cX0_joinFalse 7 (some .long), Cond.methodLink RX0 70 yX0_addFormula, Cond.instanceMethod yX0_addFormula, Cond.selects RX0 yX0_addFormula yX0_addFormula, Cond.code yX0_addFormula cX0_addFormula 4 (some .int), Cond.fieldLink RX0 13 "RumourReasoner" "kinds" "[I"]
def wsL_join : List Cond := .codeWith yL_join cL_join 6 (some .int) [(0, 12, 15, 13), (0, 12, 19, 20), (0, 12, 23, 15)] :: ((wsL_join_r1 ++ wsL_join_r2) ++ wsX00 ++ (vx_atS RX0 84 "java/lang/IllegalArgumentException" ["java/lang/RuntimeException", "java/lang/Exception"]).filter goodWord ++ (vx_atS RX0 201 "java/lang/IndexOutOfBoundsException" ["java/lang/RuntimeException", "java/lang/Exception"]).filter goodWord ++ (vx_atS RX0 216 "java/lang/IllegalStateException" ["java/lang/RuntimeException", "java/lang/Exception"]).filter goodWord)
def wsL_isSteady : List Cond := .codeWith yL_isSteady cL_isSteady 4 (some .int) [(0, 16, 19, 13)] :: ([.classLink RL 13 "java/lang/IndexOutOfBoundsException", .methodLink RL 30 yX0_isSteady, .instanceMethod yX0_isSteady, .selects RX0 yX0_isSteady yX0_isSteady, .initialized RX0, .code yX0_isSteady cX0_isSteady 2 (some .boolean), .fieldLink RX0 17 "RumourReasoner" "steady" "[Z", .methodLink RX0 77 yX0_requireFormula, .instanceMethod yX0_requireFormula, .selects RX0 yX0_requireFormula yX0_requireFormula, .code yX0_requireFormula cX0_requireFormula 2 none, .classLink RX0 197 "java/lang/IndexOutOfBoundsException", .initialized "java/lang/IndexOutOfBoundsException", .fieldLink RX0 9 "RumourReasoner" "count" "I"] ++ wsX00 ++ (vx_atS RX0 201 "java/lang/IndexOutOfBoundsException" ["java/lang/RuntimeException", "java/lang/Exception"]).filter goodWord)
def wsL_report_r1 : List Cond := [Cond.classLink RL 13 "java/lang/IndexOutOfBoundsException", Cond.classLink RL 20 "java/lang/IllegalArgumentException", Cond.methodLink RL 34 yX0_report, Cond.instanceMethod yX0_report, Cond.selects RX0 yX0_report yX0_report, Cond.initialized RX0, Cond.code yX0_report cX0_report 6 (some .int), Cond.fieldLink RX0 34 "RumourReasoner" "reports" "[I", Cond.methodLink RX0 97 yX0_requireSource, Cond.static yX0_requireSource, Cond.code yX0_requireSource cX0_requireSource 1 none, Cond.classLink RX0 197 "java/lang/IndexOutOfBoundsException", Cond.initialized "java/lang/IndexOutOfBoundsException", Cond.methodLink RX0 52 yX0_requireAtom, Cond.static yX0_requireAtom, Cond.code yX0_requireAtom cX0_requireAtom 1 none, Cond.methodLink RX0 74 yX0_requireValue, Cond.static yX0_requireValue, Cond.code yX0_requireValue cX0_requireValue 1 none, Cond.classLink RX0 80 "java/lang/IllegalArgumentException", Cond.initialized "java/lang/IllegalArgumentException", Cond.methodLink RX0 100 yX0_valueIn, Cond.static yX0_valueIn, Cond.code yX0_valueIn cX0_valueIn 2 (some .int)]
def wsL_report_r2 : List Cond := [Cond.methodLink RX0 59 yX0_placeOf, Cond.static yX0_placeOf, Cond.code yX0_placeOf cX0_placeOf 1 (some .int)]
def wsL_report : List Cond := .codeWith yL_report cL_report 6 (some .int) [(0, 12, 15, 13), (0, 12, 19, 20)] :: ((wsL_report_r1 ++ wsL_report_r2) ++ wsX00 ++ (vx_atS RX0 201 "java/lang/IndexOutOfBoundsException" ["java/lang/RuntimeException", "java/lang/Exception"]).filter goodWord ++ (vx_atS RX0 84 "java/lang/IllegalArgumentException" ["java/lang/RuntimeException", "java/lang/Exception"]).filter goodWord)
def wsL_setTrust : List Cond := .codeWith yL_setTrust cL_setTrust 5 (some .int) [(0, 10, 13, 13), (0, 10, 17, 20)] :: ([.classLink RL 13 "java/lang/IndexOutOfBoundsException", .classLink RL 20 "java/lang/IllegalArgumentException", .methodLink RL 37 yX0_setTrust, .instanceMethod yX0_setTrust, .selects RX0 yX0_setTrust yX0_setTrust, .initialized RX0, .code yX0_setTrust cX0_setTrust 4 (some .int), .fieldLink RX0 28 "RumourReasoner" "trusts" "[I", .methodLink RX0 97 yX0_requireSource, .static yX0_requireSource, .code yX0_requireSource cX0_requireSource 1 none, .classLink RX0 197 "java/lang/IndexOutOfBoundsException", .initialized "java/lang/IndexOutOfBoundsException", .methodLink RX0 104 yX0_requireTrust, .static yX0_requireTrust, .code yX0_requireTrust cX0_requireTrust 1 none, .classLink RX0 80 "java/lang/IllegalArgumentException", .initialized "java/lang/IllegalArgumentException"] ++ wsX00 ++ (vx_atS RX0 201 "java/lang/IndexOutOfBoundsException" ["java/lang/RuntimeException", "java/lang/Exception"]).filter goodWord ++ (vx_atS RX0 84 "java/lang/IllegalArgumentException" ["java/lang/RuntimeException", "java/lang/Exception"]).filter goodWord)
def wsL_setLeastTrust : List Cond := .codeWith yL_setLeastTrust cL_setLeastTrust 4 (some .int) [(0, 9, 12, 20)] :: ([.classLink RL 20 "java/lang/IllegalArgumentException", .methodLink RL 40 yX0_setLeastTrust, .instanceMethod yX0_setLeastTrust, .selects RX0 yX0_setLeastTrust yX0_setLeastTrust, .initialized RX0, .code yX0_setLeastTrust cX0_setLeastTrust 3 (some .int), .fieldLink RX0 37 "RumourReasoner" "leastTrust" "I", .methodLink RX0 104 yX0_requireTrust, .static yX0_requireTrust, .code yX0_requireTrust cX0_requireTrust 1 none, .classLink RX0 80 "java/lang/IllegalArgumentException", .initialized "java/lang/IllegalArgumentException"] ++ wsX00 ++ (vx_atS RX0 84 "java/lang/IllegalArgumentException" ["java/lang/RuntimeException", "java/lang/Exception"]).filter goodWord)
def wsL_let : List Cond := .codeWith yL_let cL_let 5 (some .int) [(0, 17, 20, 13)] :: ([.classLink RL 13 "java/lang/IndexOutOfBoundsException", .methodLink RL 43 yX0_let, .instanceMethod yX0_let, .selects RX0 yX0_let yX0_let, .initialized RX0, .code yX0_let cX0_let 3 (some .boolean), .fieldLink RX0 31 "RumourReasoner" "on" "[Z", .methodLink RX0 97 yX0_requireSource, .static yX0_requireSource, .code yX0_requireSource cX0_requireSource 1 none, .classLink RX0 197 "java/lang/IndexOutOfBoundsException", .initialized "java/lang/IndexOutOfBoundsException", .methodLink RX0 107 yX0_isHeard, .instanceMethod yX0_isHeard, .selects RX0 yX0_isHeard yX0_isHeard, .code yX0_isHeard cX0_isHeard 2 (some .boolean), .fieldLink RX0 28 "RumourReasoner" "trusts" "[I", .fieldLink RX0 37 "RumourReasoner" "leastTrust" "I"] ++ wsX00 ++ (vx_atS RX0 201 "java/lang/IndexOutOfBoundsException" ["java/lang/RuntimeException", "java/lang/Exception"]).filter goodWord)
def wsL_setRule_r1 : List Cond := [Cond.classLink RL 13 "java/lang/IndexOutOfBoundsException", Cond.classLink RL 20 "java/lang/IllegalArgumentException", Cond.methodLink RL 47 yX0_setRule, Cond.instanceMethod yX0_setRule, Cond.selects RX0 yX0_setRule yX0_setRule, Cond.initialized RX0, Cond.code yX0_setRule cX0_setRule 4 (some .int), Cond.fieldLink RX0 40 "RumourReasoner" "rules" "[I", Cond.methodLink RX0 52 yX0_requireAtom, Cond.static yX0_requireAtom, Cond.code yX0_requireAtom cX0_requireAtom 1 none, Cond.classLink RX0 197 "java/lang/IndexOutOfBoundsException", Cond.initialized "java/lang/IndexOutOfBoundsException", Cond.methodLink RX0 77 yX0_requireFormula, Cond.instanceMethod yX0_requireFormula, Cond.selects RX0 yX0_requireFormula yX0_requireFormula, Cond.code yX0_requireFormula cX0_requireFormula 2 none, Cond.fieldLink RX0 9 "RumourReasoner" "count" "I", Cond.methodLink RX0 111 yX0_requireSteady, Cond.instanceMethod yX0_requireSteady, Cond.selects RX0 yX0_requireSteady yX0_requireSteady, Cond.code yX0_requireSteady cX0_requireSteady 2 none, Cond.classLink RX0 80 "java/lang/IllegalArgumentException", Cond.initialized "java/lang/IllegalArgumentException"]
def wsL_setRule_r2 : List Cond := [Cond.fieldLink RX0 17 "RumourReasoner" "steady" "[Z"]
def wsL_setRule : List Cond := .codeWith yL_setRule cL_setRule 5 (some .int) [(0, 10, 13, 13), (0, 10, 17, 20)] :: ((wsL_setRule_r1 ++ wsL_setRule_r2) ++ wsX00 ++ (vx_atS RX0 201 "java/lang/IndexOutOfBoundsException" ["java/lang/RuntimeException", "java/lang/Exception"]).filter goodWord ++ (vx_atS RX0 84 "java/lang/IllegalArgumentException" ["java/lang/RuntimeException", "java/lang/Exception"]).filter goodWord)
def wsL_given_r1 : List Cond := [Cond.classLink RL 13 "java/lang/IndexOutOfBoundsException", Cond.methodLink RL 50 yX0_given, Cond.instanceMethod yX0_given, Cond.selects RX0 yX0_given yX0_given, Cond.initialized RX0, Cond.code yX0_given cX0_given 2 (some .int), Cond.methodLink RX0 52 yX0_requireAtom, Cond.static yX0_requireAtom, Cond.code yX0_requireAtom cX0_requireAtom 1 none, Cond.classLink RX0 197 "java/lang/IndexOutOfBoundsException", Cond.initialized "java/lang/IndexOutOfBoundsException", Cond.methodLink RX0 114 yX0_heard, Cond.instanceMethod yX0_heard, Cond.selects RX0 yX0_heard yX0_heard, Cond.code yX0_heard cX0_heard 3 (some .int), Cond.methodLink RX0 107 yX0_isHeard, Cond.instanceMethod yX0_isHeard, Cond.selects RX0 yX0_isHeard yX0_isHeard, Cond.code yX0_isHeard cX0_isHeard 2 (some .boolean), Cond.fieldLink RX0 31 "RumourReasoner" "on" "[Z", Cond.fieldLink RX0 28 "RumourReasoner" "trusts" "[I", Cond.fieldLink RX0 37 "RumourReasoner" "leastTrust" "I", Cond.methodLink RX0 118 yX0_givenState, Cond.instanceMethod yX0_givenState]
def wsL_given_r2 : List Cond := [Cond.selects RX0 yX0_givenState yX0_givenState, Cond.code yX0_givenState cX0_givenState 4 (some .int), Cond.fieldLink RX0 34 "RumourReasoner" "reports" "[I", Cond.methodLink RX0 100 yX0_valueIn, Cond.static yX0_valueIn, Cond.code yX0_valueIn cX0_valueIn 2 (some .int), Cond.methodLink RX0 59 yX0_placeOf, Cond.static yX0_placeOf, Cond.code yX0_placeOf cX0_placeOf 1 (some .int)]
def wsL_given : List Cond := .codeWith yL_given cL_given 4 (some .int) [(0, 9, 12, 13)] :: ((wsL_given_r1 ++ wsL_given_r2) ++ wsX00 ++ (vx_atS RX0 201 "java/lang/IndexOutOfBoundsException" ["java/lang/RuntimeException", "java/lang/Exception"]).filter goodWord)
def wsL_settled_r1 : List Cond := [Cond.classLink RL 13 "java/lang/IndexOutOfBoundsException", Cond.methodLink RL 53 yX0_settled, Cond.instanceMethod yX0_settled, Cond.selects RX0 yX0_settled yX0_settled, Cond.initialized RX0, Cond.code yX0_settled cX0_settled 2 (some .int), Cond.methodLink RX0 52 yX0_requireAtom, Cond.static yX0_requireAtom, Cond.code yX0_requireAtom cX0_requireAtom 1 none, Cond.classLink RX0 197 "java/lang/IndexOutOfBoundsException", Cond.initialized "java/lang/IndexOutOfBoundsException", Cond.methodLink RX0 121 yX0_settledNow, Cond.instanceMethod yX0_settledNow, Cond.selects RX0 yX0_settledNow yX0_settledNow, Cond.code yX0_settledNow cX0_settledNow 1 (some .int), Cond.methodLink RX0 114 yX0_heard, Cond.instanceMethod yX0_heard, Cond.selects RX0 yX0_heard yX0_heard, Cond.code yX0_heard cX0_heard 3 (some .int), Cond.methodLink RX0 107 yX0_isHeard, Cond.instanceMethod yX0_isHeard, Cond.selects RX0 yX0_isHeard yX0_isHeard, Cond.code yX0_isHeard cX0_isHeard 2 (some .boolean), Cond.fieldLink RX0 31 "RumourReasoner" "on" "[Z"]
def wsL_settled_r2 : List Cond := [Cond.fieldLink RX0 28 "RumourReasoner" "trusts" "[I", Cond.fieldLink RX0 37 "RumourReasoner" "leastTrust" "I", Cond.methodLink RX0 142 yX0_settledState, Cond.instanceMethod yX0_settledState, Cond.selects RX0 yX0_settledState yX0_settledState, Cond.code yX0_settledState cX0_settledState 6 (some .int), Cond.methodLink RX0 118 yX0_givenState, Cond.instanceMethod yX0_givenState, Cond.selects RX0 yX0_givenState yX0_givenState, Cond.code yX0_givenState cX0_givenState 4 (some .int), Cond.fieldLink RX0 34 "RumourReasoner" "reports" "[I", Cond.methodLink RX0 124 yX0_nextState, Cond.instanceMethod yX0_nextState, Cond.selects RX0 yX0_nextState yX0_nextState, Cond.code yX0_nextState cX0_nextState 5 (some .int), Cond.fieldLink RX0 40 "RumourReasoner" "rules" "[I", Cond.methodLink RX0 131 yX0_lookUp, Cond.instanceMethod yX0_lookUp, Cond.selects RX0 yX0_lookUp yX0_lookUp, Cond.code yX0_lookUp cX0_lookUp 7 (some .int), Cond.fieldLink RX0 21 "RumourReasoner" "trueSets" "[J", Cond.fieldLink RX0 25 "RumourReasoner" "falseSets" "[J", Cond.methodLink RX0 63 yX0_rowOf, Cond.static yX0_rowOf]
def wsL_settled_r3 : List Cond := [Cond.code yX0_rowOf cX0_rowOf 1 (some .int), Cond.methodLink RX0 59 yX0_placeOf, Cond.static yX0_placeOf, Cond.code yX0_placeOf cX0_placeOf 1 (some .int), Cond.methodLink RX0 100 yX0_valueIn, Cond.static yX0_valueIn, Cond.code yX0_valueIn cX0_valueIn 2 (some .int)]
def wsL_settled : List Cond := .codeWith yL_settled cL_settled 4 (some .int) [(0, 9, 12, 13)] :: ((wsL_settled_r1 ++ (wsL_settled_r2 ++ wsL_settled_r3)) ++ wsX00 ++ (vx_atS RX0 201 "java/lang/IndexOutOfBoundsException" ["java/lang/RuntimeException", "java/lang/Exception"]).filter goodWord)
def wsL_since_r1 : List Cond := [Cond.classLink RL 13 "java/lang/IndexOutOfBoundsException", Cond.methodLink RL 56 yX0_since, Cond.instanceMethod yX0_since, Cond.selects RX0 yX0_since yX0_since, Cond.initialized RX0, Cond.code yX0_since cX0_since 6 (some .int), Cond.methodLink RX0 52 yX0_requireAtom, Cond.static yX0_requireAtom, Cond.code yX0_requireAtom cX0_requireAtom 1 none, Cond.classLink RX0 197 "java/lang/IndexOutOfBoundsException", Cond.initialized "java/lang/IndexOutOfBoundsException", Cond.methodLink RX0 114 yX0_heard, Cond.instanceMethod yX0_heard, Cond.selects RX0 yX0_heard yX0_heard, Cond.code yX0_heard cX0_heard 3 (some .int), Cond.methodLink RX0 107 yX0_isHeard, Cond.instanceMethod yX0_isHeard, Cond.selects RX0 yX0_isHeard yX0_isHeard, Cond.code yX0_isHeard cX0_isHeard 2 (some .boolean), Cond.fieldLink RX0 31 "RumourReasoner" "on" "[Z", Cond.fieldLink RX0 28 "RumourReasoner" "trusts" "[I", Cond.fieldLink RX0 37 "RumourReasoner" "leastTrust" "I", Cond.methodLink RX0 118 yX0_givenState, Cond.instanceMethod yX0_givenState]
def wsL_since_r2 : List Cond := [Cond.selects RX0 yX0_givenState yX0_givenState, Cond.code yX0_givenState cX0_givenState 4 (some .int), Cond.fieldLink RX0 34 "RumourReasoner" "reports" "[I", Cond.methodLink RX0 100 yX0_valueIn, Cond.static yX0_valueIn, Cond.code yX0_valueIn cX0_valueIn 2 (some .int), Cond.methodLink RX0 59 yX0_placeOf, Cond.static yX0_placeOf, Cond.code yX0_placeOf cX0_placeOf 1 (some .int), Cond.methodLink RX0 127 yX0_isTold, Cond.static yX0_isTold, Cond.code yX0_isTold cX0_isTold 2 (some .boolean), Cond.methodLink RX0 124 yX0_nextState, Cond.instanceMethod yX0_nextState, Cond.selects RX0 yX0_nextState yX0_nextState, Cond.code yX0_nextState cX0_nextState 5 (some .int), Cond.fieldLink RX0 40 "RumourReasoner" "rules" "[I", Cond.methodLink RX0 131 yX0_lookUp, Cond.instanceMethod yX0_lookUp, Cond.selects RX0 yX0_lookUp yX0_lookUp, Cond.code yX0_lookUp cX0_lookUp 7 (some .int), Cond.fieldLink RX0 21 "RumourReasoner" "trueSets" "[J", Cond.fieldLink RX0 25 "RumourReasoner" "falseSets" "[J", Cond.methodLink RX0 63 yX0_rowOf]
def wsL_since_r3 : List Cond := [Cond.static yX0_rowOf, Cond.code yX0_rowOf cX0_rowOf 1 (some .int)]
def wsL_since : List Cond := .codeWith yL_since cL_since 5 (some .int) [(0, 10, 13, 13)] :: ((wsL_since_r1 ++ (wsL_since_r2 ++ wsL_since_r3)) ++ wsX00 ++ (vx_atS RX0 201 "java/lang/IndexOutOfBoundsException" ["java/lang/RuntimeException", "java/lang/Exception"]).filter goodWord)
def wsL_value_r1 : List Cond := [Cond.classLink RL 13 "java/lang/IndexOutOfBoundsException", Cond.methodLink RL 60 yX0_value, Cond.instanceMethod yX0_value, Cond.selects RX0 yX0_value yX0_value, Cond.initialized RX0, Cond.code yX0_value cX0_value 2 (some .int), Cond.methodLink RX0 77 yX0_requireFormula, Cond.instanceMethod yX0_requireFormula, Cond.selects RX0 yX0_requireFormula yX0_requireFormula, Cond.code yX0_requireFormula cX0_requireFormula 2 none, Cond.classLink RX0 197 "java/lang/IndexOutOfBoundsException", Cond.initialized "java/lang/IndexOutOfBoundsException", Cond.fieldLink RX0 9 "RumourReasoner" "count" "I", Cond.methodLink RX0 121 yX0_settledNow, Cond.instanceMethod yX0_settledNow, Cond.selects RX0 yX0_settledNow yX0_settledNow, Cond.code yX0_settledNow cX0_settledNow 1 (some .int), Cond.methodLink RX0 114 yX0_heard, Cond.instanceMethod yX0_heard, Cond.selects RX0 yX0_heard yX0_heard, Cond.code yX0_heard cX0_heard 3 (some .int), Cond.methodLink RX0 107 yX0_isHeard, Cond.instanceMethod yX0_isHeard, Cond.selects RX0 yX0_isHeard yX0_isHeard]
def wsL_value_r2 : List Cond := [Cond.code yX0_isHeard cX0_isHeard 2 (some .boolean), Cond.fieldLink RX0 31 "RumourReasoner" "on" "[Z", Cond.fieldLink RX0 28 "RumourReasoner" "trusts" "[I", Cond.fieldLink RX0 37 "RumourReasoner" "leastTrust" "I", Cond.methodLink RX0 142 yX0_settledState, Cond.instanceMethod yX0_settledState, Cond.selects RX0 yX0_settledState yX0_settledState, Cond.code yX0_settledState cX0_settledState 6 (some .int), Cond.methodLink RX0 118 yX0_givenState, Cond.instanceMethod yX0_givenState, Cond.selects RX0 yX0_givenState yX0_givenState, Cond.code yX0_givenState cX0_givenState 4 (some .int), Cond.fieldLink RX0 34 "RumourReasoner" "reports" "[I", Cond.methodLink RX0 124 yX0_nextState, Cond.instanceMethod yX0_nextState, Cond.selects RX0 yX0_nextState yX0_nextState, Cond.code yX0_nextState cX0_nextState 5 (some .int), Cond.fieldLink RX0 40 "RumourReasoner" "rules" "[I", Cond.methodLink RX0 131 yX0_lookUp, Cond.instanceMethod yX0_lookUp, Cond.selects RX0 yX0_lookUp yX0_lookUp, Cond.code yX0_lookUp cX0_lookUp 7 (some .int), Cond.fieldLink RX0 21 "RumourReasoner" "trueSets" "[J", Cond.fieldLink RX0 25 "RumourReasoner" "falseSets" "[J"]
def wsL_value_r3 : List Cond := [Cond.methodLink RX0 63 yX0_rowOf, Cond.static yX0_rowOf, Cond.code yX0_rowOf cX0_rowOf 1 (some .int), Cond.methodLink RX0 59 yX0_placeOf, Cond.static yX0_placeOf, Cond.code yX0_placeOf cX0_placeOf 1 (some .int)]
def wsL_value : List Cond := .codeWith yL_value cL_value 4 (some .int) [(0, 9, 12, 13)] :: ((wsL_value_r1 ++ (wsL_value_r2 ++ wsL_value_r3)) ++ wsX00 ++ (vx_atS RX0 201 "java/lang/IndexOutOfBoundsException" ["java/lang/RuntimeException", "java/lang/Exception"]).filter goodWord)
def wsL_sayers_r1 : List Cond := [Cond.classLink RL 13 "java/lang/IndexOutOfBoundsException", Cond.methodLink RL 63 yX0_sayers, Cond.instanceMethod yX0_sayers, Cond.selects RX0 yX0_sayers yX0_sayers, Cond.initialized RX0, Cond.code yX0_sayers cX0_sayers 5 (some .int), Cond.fieldLink RX0 34 "RumourReasoner" "reports" "[I", Cond.methodLink RX0 52 yX0_requireAtom, Cond.static yX0_requireAtom, Cond.code yX0_requireAtom cX0_requireAtom 1 none, Cond.classLink RX0 197 "java/lang/IndexOutOfBoundsException", Cond.initialized "java/lang/IndexOutOfBoundsException", Cond.methodLink RX0 107 yX0_isHeard, Cond.instanceMethod yX0_isHeard, Cond.selects RX0 yX0_isHeard yX0_isHeard, Cond.code yX0_isHeard cX0_isHeard 2 (some .boolean), Cond.fieldLink RX0 31 "RumourReasoner" "on" "[Z", Cond.fieldLink RX0 28 "RumourReasoner" "trusts" "[I", Cond.fieldLink RX0 37 "RumourReasoner" "leastTrust" "I", Cond.methodLink RX0 100 yX0_valueIn, Cond.static yX0_valueIn, Cond.code yX0_valueIn cX0_valueIn 2 (some .int), Cond.methodLink RX0 59 yX0_placeOf, Cond.static yX0_placeOf]
def wsL_sayers_r2 : List Cond := [Cond.code yX0_placeOf cX0_placeOf 1 (some .int), Cond.methodLink RX0 127 yX0_isTold, Cond.static yX0_isTold, Cond.code yX0_isTold cX0_isTold 2 (some .boolean)]
def wsL_sayers : List Cond := .codeWith yL_sayers cL_sayers 5 (some .int) [(0, 10, 13, 13)] :: ((wsL_sayers_r1 ++ wsL_sayers_r2) ++ wsX00 ++ (vx_atS RX0 201 "java/lang/IndexOutOfBoundsException" ["java/lang/RuntimeException", "java/lang/Exception"]).filter goodWord)
def wsL_matters_r1 : List Cond := [Cond.classLink RL 13 "java/lang/IndexOutOfBoundsException", Cond.methodLink RL 66 yX0_matters, Cond.instanceMethod yX0_matters, Cond.selects RX0 yX0_matters yX0_matters, Cond.initialized RX0, Cond.code yX0_matters cX0_matters 5 (some .boolean), Cond.methodLink RX0 97 yX0_requireSource, Cond.static yX0_requireSource, Cond.code yX0_requireSource cX0_requireSource 1 none, Cond.classLink RX0 197 "java/lang/IndexOutOfBoundsException", Cond.initialized "java/lang/IndexOutOfBoundsException", Cond.methodLink RX0 52 yX0_requireAtom, Cond.static yX0_requireAtom, Cond.code yX0_requireAtom cX0_requireAtom 1 none, Cond.methodLink RX0 114 yX0_heard, Cond.instanceMethod yX0_heard, Cond.selects RX0 yX0_heard yX0_heard, Cond.code yX0_heard cX0_heard 3 (some .int), Cond.methodLink RX0 107 yX0_isHeard, Cond.instanceMethod yX0_isHeard, Cond.selects RX0 yX0_isHeard yX0_isHeard, Cond.code yX0_isHeard cX0_isHeard 2 (some .boolean), Cond.fieldLink RX0 31 "RumourReasoner" "on" "[Z", Cond.fieldLink RX0 28 "RumourReasoner" "trusts" "[I"]
def wsL_matters_r2 : List Cond := [Cond.fieldLink RX0 37 "RumourReasoner" "leastTrust" "I", Cond.methodLink RX0 142 yX0_settledState, Cond.instanceMethod yX0_settledState, Cond.selects RX0 yX0_settledState yX0_settledState, Cond.code yX0_settledState cX0_settledState 6 (some .int), Cond.methodLink RX0 118 yX0_givenState, Cond.instanceMethod yX0_givenState, Cond.selects RX0 yX0_givenState yX0_givenState, Cond.code yX0_givenState cX0_givenState 4 (some .int), Cond.fieldLink RX0 34 "RumourReasoner" "reports" "[I", Cond.methodLink RX0 124 yX0_nextState, Cond.instanceMethod yX0_nextState, Cond.selects RX0 yX0_nextState yX0_nextState, Cond.code yX0_nextState cX0_nextState 5 (some .int), Cond.fieldLink RX0 40 "RumourReasoner" "rules" "[I", Cond.methodLink RX0 131 yX0_lookUp, Cond.instanceMethod yX0_lookUp, Cond.selects RX0 yX0_lookUp yX0_lookUp, Cond.code yX0_lookUp cX0_lookUp 7 (some .int), Cond.fieldLink RX0 21 "RumourReasoner" "trueSets" "[J", Cond.fieldLink RX0 25 "RumourReasoner" "falseSets" "[J", Cond.methodLink RX0 63 yX0_rowOf, Cond.static yX0_rowOf, Cond.code yX0_rowOf cX0_rowOf 1 (some .int)]
def wsL_matters_r3 : List Cond := [Cond.methodLink RX0 59 yX0_placeOf, Cond.static yX0_placeOf, Cond.code yX0_placeOf cX0_placeOf 1 (some .int), Cond.methodLink RX0 100 yX0_valueIn, Cond.static yX0_valueIn, Cond.code yX0_valueIn cX0_valueIn 2 (some .int)]
def wsL_matters : List Cond := .codeWith yL_matters cL_matters 5 (some .int) [(0, 17, 20, 13)] :: ((wsL_matters_r1 ++ (wsL_matters_r2 ++ wsL_matters_r3)) ++ wsX00 ++ (vx_atS RX0 201 "java/lang/IndexOutOfBoundsException" ["java/lang/RuntimeException", "java/lang/Exception"]).filter goodWord)
def wsL_contradicted_r1 : List Cond := [Cond.classLink RL 13 "java/lang/IndexOutOfBoundsException", Cond.methodLink RL 70 yX0_contradicted, Cond.instanceMethod yX0_contradicted, Cond.selects RX0 yX0_contradicted yX0_contradicted, Cond.initialized RX0, Cond.code yX0_contradicted cX0_contradicted 5 (some .int), Cond.fieldLink RX0 34 "RumourReasoner" "reports" "[I", Cond.methodLink RX0 97 yX0_requireSource, Cond.static yX0_requireSource, Cond.code yX0_requireSource cX0_requireSource 1 none, Cond.classLink RX0 197 "java/lang/IndexOutOfBoundsException", Cond.initialized "java/lang/IndexOutOfBoundsException", Cond.methodLink RX0 121 yX0_settledNow, Cond.instanceMethod yX0_settledNow, Cond.selects RX0 yX0_settledNow yX0_settledNow, Cond.code yX0_settledNow cX0_settledNow 1 (some .int), Cond.methodLink RX0 114 yX0_heard, Cond.instanceMethod yX0_heard, Cond.selects RX0 yX0_heard yX0_heard, Cond.code yX0_heard cX0_heard 3 (some .int), Cond.methodLink RX0 107 yX0_isHeard, Cond.instanceMethod yX0_isHeard, Cond.selects RX0 yX0_isHeard yX0_isHeard, Cond.code yX0_isHeard cX0_isHeard 2 (some .boolean)]
def wsL_contradicted_r2 : List Cond := [Cond.fieldLink RX0 31 "RumourReasoner" "on" "[Z", Cond.fieldLink RX0 28 "RumourReasoner" "trusts" "[I", Cond.fieldLink RX0 37 "RumourReasoner" "leastTrust" "I", Cond.methodLink RX0 142 yX0_settledState, Cond.instanceMethod yX0_settledState, Cond.selects RX0 yX0_settledState yX0_settledState, Cond.code yX0_settledState cX0_settledState 6 (some .int), Cond.methodLink RX0 118 yX0_givenState, Cond.instanceMethod yX0_givenState, Cond.selects RX0 yX0_givenState yX0_givenState, Cond.code yX0_givenState cX0_givenState 4 (some .int), Cond.methodLink RX0 124 yX0_nextState, Cond.instanceMethod yX0_nextState, Cond.selects RX0 yX0_nextState yX0_nextState, Cond.code yX0_nextState cX0_nextState 5 (some .int), Cond.fieldLink RX0 40 "RumourReasoner" "rules" "[I", Cond.methodLink RX0 131 yX0_lookUp, Cond.instanceMethod yX0_lookUp, Cond.selects RX0 yX0_lookUp yX0_lookUp, Cond.code yX0_lookUp cX0_lookUp 7 (some .int), Cond.fieldLink RX0 21 "RumourReasoner" "trueSets" "[J", Cond.fieldLink RX0 25 "RumourReasoner" "falseSets" "[J", Cond.methodLink RX0 63 yX0_rowOf, Cond.static yX0_rowOf]
def wsL_contradicted_r3 : List Cond := [Cond.code yX0_rowOf cX0_rowOf 1 (some .int), Cond.methodLink RX0 59 yX0_placeOf, Cond.static yX0_placeOf, Cond.code yX0_placeOf cX0_placeOf 1 (some .int), Cond.methodLink RX0 100 yX0_valueIn, Cond.static yX0_valueIn, Cond.code yX0_valueIn cX0_valueIn 2 (some .int), Cond.methodLink RX0 148 yX0_isAgainst, Cond.static yX0_isAgainst, Cond.code yX0_isAgainst cX0_isAgainst 2 (some .boolean), Cond.methodLink RX0 127 yX0_isTold, Cond.static yX0_isTold, Cond.code yX0_isTold cX0_isTold 2 (some .boolean)]
def wsL_contradicted : List Cond := .codeWith yL_contradicted cL_contradicted 4 (some .int) [(0, 9, 12, 13)] :: ((wsL_contradicted_r1 ++ (wsL_contradicted_r2 ++ wsL_contradicted_r3)) ++ wsX00 ++ (vx_atS RX0 201 "java/lang/IndexOutOfBoundsException" ["java/lang/RuntimeException", "java/lang/Exception"]).filter goodWord)
def wsL_setLogic : List Cond := .codeWith yL_setLogic cL_setLogic 4 (some .int) [(0, 9, 12, 20)] :: ([.classLink RL 20 "java/lang/IllegalArgumentException", .methodLink RL 73 yX0_setLogic, .instanceMethod yX0_setLogic, .selects RX0 yX0_setLogic yX0_setLogic, .initialized RX0, .code yX0_setLogic cX0_setLogic 3 (some .int), .classLink RX0 80 "java/lang/IllegalArgumentException", .initialized "java/lang/IllegalArgumentException", .fieldLink RX0 43 "RumourReasoner" "logic" "I", .fieldLink RX0 48 "RumourReasoner" "logicTriples" "J", .methodLink RX0 154 yX0_triplesOf, .static yX0_triplesOf, .code yX0_triplesOf cX0_triplesOf 7 (some .long)] ++ wsX00 ++ (vx_atS RX0 84 "java/lang/IllegalArgumentException" ["java/lang/RuntimeException", "java/lang/Exception"]).filter goodWord)
def wsL_models_r1 : List Cond := [Cond.classLink RL 13 "java/lang/IndexOutOfBoundsException", Cond.methodLink RL 76 yX0_models, Cond.instanceMethod yX0_models, Cond.selects RX0 yX0_models yX0_models, Cond.initialized RX0, Cond.code yX0_models cX0_models 5 (some .int), Cond.fieldLink RX0 21 "RumourReasoner" "trueSets" "[J", Cond.methodLink RX0 77 yX0_requireFormula, Cond.instanceMethod yX0_requireFormula, Cond.selects RX0 yX0_requireFormula yX0_requireFormula, Cond.code yX0_requireFormula cX0_requireFormula 2 none, Cond.classLink RX0 197 "java/lang/IndexOutOfBoundsException", Cond.initialized "java/lang/IndexOutOfBoundsException", Cond.fieldLink RX0 9 "RumourReasoner" "count" "I", Cond.methodLink RX0 63 yX0_rowOf, Cond.static yX0_rowOf, Cond.code yX0_rowOf cX0_rowOf 1 (some .int), Cond.methodLink RX0 158 yX0_logicWord, Cond.instanceMethod yX0_logicWord, Cond.selects RX0 yX0_logicWord yX0_logicWord, Cond.code yX0_logicWord cX0_logicWord 2 (some .long), Cond.fieldLink RX0 48 "RumourReasoner" "logicTriples" "J", Cond.methodLink RX0 161 yJ13_bitCount_95d88, Cond.static yJ13_bitCount_95d88]
def wsL_models_r2 : List Cond := [Cond.initialized RJ13, Cond.code yJ13_bitCount_95d88 cJ13_bitCount_95d88 2 (some .int), Cond.constantLong RJ13 314 (6148914691236517205), Cond.constantLong RJ13 316 (3689348814741910323), Cond.constantLong RJ13 318 (1085102592571150095)]
def wsL_models : List Cond := .codeWith yL_models cL_models 4 (some .int) [(0, 9, 12, 13)] :: ((wsL_models_r1 ++ wsL_models_r2) ++ wsX00 ++ (vx_atS RX0 201 "java/lang/IndexOutOfBoundsException" ["java/lang/RuntimeException", "java/lang/Exception"]).filter goodWord)
def wsL_range_r1 : List Cond := [Cond.classLink RL 13 "java/lang/IndexOutOfBoundsException", Cond.methodLink RL 79 yX0_range, Cond.instanceMethod yX0_range, Cond.selects RX0 yX0_range yX0_range, Cond.initialized RX0, Cond.code yX0_range cX0_range 8 (some .int), Cond.fieldLink RX0 21 "RumourReasoner" "trueSets" "[J", Cond.fieldLink RX0 25 "RumourReasoner" "falseSets" "[J", Cond.methodLink RX0 77 yX0_requireFormula, Cond.instanceMethod yX0_requireFormula, Cond.selects RX0 yX0_requireFormula yX0_requireFormula, Cond.code yX0_requireFormula cX0_requireFormula 2 none, Cond.classLink RX0 197 "java/lang/IndexOutOfBoundsException", Cond.initialized "java/lang/IndexOutOfBoundsException", Cond.fieldLink RX0 9 "RumourReasoner" "count" "I", Cond.methodLink RX0 63 yX0_rowOf, Cond.static yX0_rowOf, Cond.code yX0_rowOf cX0_rowOf 1 (some .int), Cond.methodLink RX0 166 yX0_pick, Cond.static yX0_pick, Cond.code yX0_pick cX0_pick 5 (some .long), Cond.constantLong RX0 46 (-1), Cond.methodLink RX0 127 yX0_isTold, Cond.static yX0_isTold]
def wsL_range_r2 : List Cond := [Cond.code yX0_isTold cX0_isTold 2 (some .boolean), Cond.methodLink RX0 158 yX0_logicWord, Cond.instanceMethod yX0_logicWord, Cond.selects RX0 yX0_logicWord yX0_logicWord, Cond.code yX0_logicWord cX0_logicWord 2 (some .long), Cond.fieldLink RX0 48 "RumourReasoner" "logicTriples" "J"]
def wsL_range : List Cond := .codeWith yL_range cL_range 4 (some .int) [(0, 9, 12, 13)] :: ((wsL_range_r1 ++ wsL_range_r2) ++ wsX00 ++ (vx_atS RX0 201 "java/lang/IndexOutOfBoundsException" ["java/lang/RuntimeException", "java/lang/Exception"]).filter goodWord)
def wsL_entails_r1 : List Cond := [Cond.classLink RL 13 "java/lang/IndexOutOfBoundsException", Cond.methodLink RL 82 yX0_entails, Cond.instanceMethod yX0_entails, Cond.selects RX0 yX0_entails yX0_entails, Cond.initialized RX0, Cond.code yX0_entails cX0_entails 3 (some .boolean), Cond.methodLink RX0 170 yX0_against, Cond.instanceMethod yX0_against, Cond.selects RX0 yX0_against yX0_against, Cond.code yX0_against cX0_against 8 (some .int), Cond.fieldLink RX0 21 "RumourReasoner" "trueSets" "[J", Cond.constantLong RX0 46 (-1), Cond.methodLink RX0 77 yX0_requireFormula, Cond.instanceMethod yX0_requireFormula, Cond.selects RX0 yX0_requireFormula yX0_requireFormula, Cond.code yX0_requireFormula cX0_requireFormula 2 none, Cond.classLink RX0 197 "java/lang/IndexOutOfBoundsException", Cond.initialized "java/lang/IndexOutOfBoundsException", Cond.fieldLink RX0 9 "RumourReasoner" "count" "I", Cond.methodLink RX0 63 yX0_rowOf, Cond.static yX0_rowOf, Cond.code yX0_rowOf cX0_rowOf 1 (some .int), Cond.methodLink RX0 158 yX0_logicWord, Cond.instanceMethod yX0_logicWord]
def wsL_entails_r2 : List Cond := [Cond.selects RX0 yX0_logicWord yX0_logicWord, Cond.code yX0_logicWord cX0_logicWord 2 (some .long), Cond.fieldLink RX0 48 "RumourReasoner" "logicTriples" "J", Cond.methodLink RX0 173 yX0_lowestBit, Cond.static yX0_lowestBit, Cond.code yX0_lowestBit cX0_lowestBit 2 (some .int), Cond.methodLink RX0 161 yJ13_bitCount_95d88, Cond.static yJ13_bitCount_95d88, Cond.initialized RJ13, Cond.code yJ13_bitCount_95d88 cJ13_bitCount_95d88 2 (some .int), Cond.constantLong RJ13 314 (6148914691236517205), Cond.constantLong RJ13 316 (3689348814741910323), Cond.constantLong RJ13 318 (1085102592571150095)]
def wsL_entails : List Cond := .codeWith yL_entails cL_entails 5 (some .int) [(0, 17, 20, 13)] :: ((wsL_entails_r1 ++ wsL_entails_r2) ++ wsX00 ++ (vx_atS RX0 201 "java/lang/IndexOutOfBoundsException" ["java/lang/RuntimeException", "java/lang/Exception"]).filter goodWord)
def wsL_against_r1 : List Cond := [Cond.classLink RL 13 "java/lang/IndexOutOfBoundsException", Cond.methodLink RL 85 yX0_against, Cond.instanceMethod yX0_against, Cond.selects RX0 yX0_against yX0_against, Cond.initialized RX0, Cond.code yX0_against cX0_against 8 (some .int), Cond.fieldLink RX0 21 "RumourReasoner" "trueSets" "[J", Cond.constantLong RX0 46 (-1), Cond.methodLink RX0 77 yX0_requireFormula, Cond.instanceMethod yX0_requireFormula, Cond.selects RX0 yX0_requireFormula yX0_requireFormula, Cond.code yX0_requireFormula cX0_requireFormula 2 none, Cond.classLink RX0 197 "java/lang/IndexOutOfBoundsException", Cond.initialized "java/lang/IndexOutOfBoundsException", Cond.fieldLink RX0 9 "RumourReasoner" "count" "I", Cond.methodLink RX0 63 yX0_rowOf, Cond.static yX0_rowOf, Cond.code yX0_rowOf cX0_rowOf 1 (some .int), Cond.methodLink RX0 158 yX0_logicWord, Cond.instanceMethod yX0_logicWord, Cond.selects RX0 yX0_logicWord yX0_logicWord, Cond.code yX0_logicWord cX0_logicWord 2 (some .long), Cond.fieldLink RX0 48 "RumourReasoner" "logicTriples" "J", Cond.methodLink RX0 173 yX0_lowestBit]
def wsL_against_r2 : List Cond := [Cond.static yX0_lowestBit, Cond.code yX0_lowestBit cX0_lowestBit 2 (some .int), Cond.methodLink RX0 161 yJ13_bitCount_95d88, Cond.static yJ13_bitCount_95d88, Cond.initialized RJ13, Cond.code yJ13_bitCount_95d88 cJ13_bitCount_95d88 2 (some .int), Cond.constantLong RJ13 314 (6148914691236517205), Cond.constantLong RJ13 316 (3689348814741910323), Cond.constantLong RJ13 318 (1085102592571150095)]
def wsL_against : List Cond := .codeWith yL_against cL_against 5 (some .int) [(0, 10, 13, 13)] :: ((wsL_against_r1 ++ wsL_against_r2) ++ wsX00 ++ (vx_atS RX0 201 "java/lang/IndexOutOfBoundsException" ["java/lang/RuntimeException", "java/lang/Exception"]).filter goodWord)
def wsL_areEqual_r1 : List Cond := [Cond.classLink RL 13 "java/lang/IndexOutOfBoundsException", Cond.methodLink RL 88 yX0_areEqual, Cond.instanceMethod yX0_areEqual, Cond.selects RX0 yX0_areEqual yX0_areEqual, Cond.initialized RX0, Cond.code yX0_areEqual cX0_areEqual 6 (some .boolean), Cond.methodLink RX0 77 yX0_requireFormula, Cond.instanceMethod yX0_requireFormula, Cond.selects RX0 yX0_requireFormula yX0_requireFormula, Cond.code yX0_requireFormula cX0_requireFormula 2 none, Cond.classLink RX0 197 "java/lang/IndexOutOfBoundsException", Cond.initialized "java/lang/IndexOutOfBoundsException", Cond.fieldLink RX0 9 "RumourReasoner" "count" "I", Cond.methodLink RX0 63 yX0_rowOf, Cond.static yX0_rowOf, Cond.code yX0_rowOf cX0_rowOf 1 (some .int), Cond.methodLink RX0 176 yX0_differing, Cond.instanceMethod yX0_differing, Cond.selects RX0 yX0_differing yX0_differing, Cond.code yX0_differing cX0_differing 8 (some .long), Cond.fieldLink RX0 21 "RumourReasoner" "trueSets" "[J", Cond.fieldLink RX0 25 "RumourReasoner" "falseSets" "[J", Cond.methodLink RX0 158 yX0_logicWord, Cond.instanceMethod yX0_logicWord]
def wsL_areEqual_r2 : List Cond := [Cond.selects RX0 yX0_logicWord yX0_logicWord, Cond.code yX0_logicWord cX0_logicWord 2 (some .long), Cond.fieldLink RX0 48 "RumourReasoner" "logicTriples" "J"]
def wsL_areEqual : List Cond := .codeWith yL_areEqual cL_areEqual 5 (some .int) [(0, 17, 20, 13)] :: ((wsL_areEqual_r1 ++ wsL_areEqual_r2) ++ wsX00 ++ (vx_atS RX0 201 "java/lang/IndexOutOfBoundsException" ["java/lang/RuntimeException", "java/lang/Exception"]).filter goodWord)
def wsL_depends_r1 : List Cond := [Cond.classLink RL 13 "java/lang/IndexOutOfBoundsException", Cond.methodLink RL 91 yX0_depends, Cond.instanceMethod yX0_depends, Cond.selects RX0 yX0_depends yX0_depends, Cond.initialized RX0, Cond.code yX0_depends cX0_depends 5 (some .boolean), Cond.fieldLink RX0 43 "RumourReasoner" "logic" "I", Cond.methodLink RX0 77 yX0_requireFormula, Cond.instanceMethod yX0_requireFormula, Cond.selects RX0 yX0_requireFormula yX0_requireFormula, Cond.code yX0_requireFormula cX0_requireFormula 2 none, Cond.classLink RX0 197 "java/lang/IndexOutOfBoundsException", Cond.initialized "java/lang/IndexOutOfBoundsException", Cond.fieldLink RX0 9 "RumourReasoner" "count" "I", Cond.methodLink RX0 52 yX0_requireAtom, Cond.static yX0_requireAtom, Cond.code yX0_requireAtom cX0_requireAtom 1 none, Cond.methodLink RX0 173 yX0_lowestBit, Cond.static yX0_lowestBit, Cond.code yX0_lowestBit cX0_lowestBit 2 (some .int), Cond.methodLink RX0 161 yJ13_bitCount_95d88, Cond.static yJ13_bitCount_95d88, Cond.initialized RJ13, Cond.code yJ13_bitCount_95d88 cJ13_bitCount_95d88 2 (some .int)]
def wsL_depends_r2 : List Cond := [Cond.constantLong RJ13 314 (6148914691236517205), Cond.constantLong RJ13 316 (3689348814741910323), Cond.constantLong RJ13 318 (1085102592571150095), Cond.methodLink RX0 180 yX0_isChanged, Cond.instanceMethod yX0_isChanged, Cond.selects RX0 yX0_isChanged yX0_isChanged, Cond.code yX0_isChanged cX0_isChanged 13 (some .boolean), Cond.methodLink RX0 63 yX0_rowOf, Cond.static yX0_rowOf, Cond.code yX0_rowOf cX0_rowOf 1 (some .int), Cond.methodLink RX0 59 yX0_placeOf, Cond.static yX0_placeOf, Cond.code yX0_placeOf cX0_placeOf 1 (some .int), Cond.methodLink RX0 158 yX0_logicWord, Cond.instanceMethod yX0_logicWord, Cond.selects RX0 yX0_logicWord yX0_logicWord, Cond.code yX0_logicWord cX0_logicWord 2 (some .long), Cond.fieldLink RX0 48 "RumourReasoner" "logicTriples" "J", Cond.methodLink RX0 66 yX0_valuationsWithBit, Cond.static yX0_valuationsWithBit, Cond.code yX0_valuationsWithBit cX0_valuationsWithBit 2 (some .long), Cond.fieldLink RX0 217 "RumourReasoner" "NUMBERS_WITH_BIT" "[J", Cond.constantLong RX0 46 (-1), Cond.methodLink RX0 166 yX0_pick]
def wsL_depends_r3 : List Cond := [Cond.static yX0_pick, Cond.code yX0_pick cX0_pick 5 (some .long), Cond.methodLink RX0 127 yX0_isTold, Cond.static yX0_isTold, Cond.code yX0_isTold cX0_isTold 2 (some .boolean), Cond.methodLink RX0 176 yX0_differing, Cond.instanceMethod yX0_differing, Cond.selects RX0 yX0_differing yX0_differing, Cond.code yX0_differing cX0_differing 8 (some .long), Cond.fieldLink RX0 21 "RumourReasoner" "trueSets" "[J", Cond.fieldLink RX0 25 "RumourReasoner" "falseSets" "[J"]
def wsL_depends : List Cond := .codeWith yL_depends cL_depends 5 (some .int) [(0, 17, 20, 13)] :: ((wsL_depends_r1 ++ (wsL_depends_r2 ++ wsL_depends_r3)) ++ wsX00 ++ (vx_atS RX0 201 "java/lang/IndexOutOfBoundsException" ["java/lang/RuntimeException", "java/lang/Exception"]).filter goodWord)
def wsL_valueAt_r1 : List Cond := [Cond.classLink RL 13 "java/lang/IndexOutOfBoundsException", Cond.classLink RL 20 "java/lang/IllegalArgumentException", Cond.methodLink RL 94 yX0_valueAt, Cond.instanceMethod yX0_valueAt, Cond.selects RX0 yX0_valueAt yX0_valueAt, Cond.initialized RX0, Cond.code yX0_valueAt cX0_valueAt 3 (some .int), Cond.classLink RX0 80 "java/lang/IllegalArgumentException", Cond.initialized "java/lang/IllegalArgumentException", Cond.methodLink RX0 77 yX0_requireFormula, Cond.instanceMethod yX0_requireFormula, Cond.selects RX0 yX0_requireFormula yX0_requireFormula, Cond.code yX0_requireFormula cX0_requireFormula 2 none, Cond.classLink RX0 197 "java/lang/IndexOutOfBoundsException", Cond.initialized "java/lang/IndexOutOfBoundsException", Cond.fieldLink RX0 9 "RumourReasoner" "count" "I", Cond.methodLink RX0 131 yX0_lookUp, Cond.instanceMethod yX0_lookUp, Cond.selects RX0 yX0_lookUp yX0_lookUp, Cond.code yX0_lookUp cX0_lookUp 7 (some .int), Cond.fieldLink RX0 21 "RumourReasoner" "trueSets" "[J", Cond.fieldLink RX0 25 "RumourReasoner" "falseSets" "[J", Cond.methodLink RX0 63 yX0_rowOf, Cond.static yX0_rowOf]
def wsL_valueAt_r2 : List Cond := [Cond.code yX0_rowOf cX0_rowOf 1 (some .int)]
def wsL_valueAt : List Cond := .codeWith yL_valueAt cL_valueAt 5 (some .int) [(0, 10, 13, 13), (0, 10, 17, 20)] :: ((wsL_valueAt_r1 ++ wsL_valueAt_r2) ++ wsX00 ++ (vx_atS RX0 84 "java/lang/IllegalArgumentException" ["java/lang/RuntimeException", "java/lang/Exception"]).filter goodWord ++ (vx_atS RX0 201 "java/lang/IndexOutOfBoundsException" ["java/lang/RuntimeException", "java/lang/Exception"]).filter goodWord)
def wsL_law0_r1 : List Cond := [Cond.classLink RL 8 RX0, Cond.instantiable RX0 12, Cond.initialized RX0, Cond.classLink RL 98 RX1, Cond.instantiable RX1 13, Cond.initialized RX1, Cond.arrayClass .long, Cond.methodLink RL 97 yX0_init, Cond.instanceMethod yX0_init, Cond.code yX0_init cX0_init 2 none, Cond.methodLink RX0 3 objectInit, Cond.instanceMethod objectInit, Cond.code objectInit ⟨#[0xb1]⟩ 1 none, Cond.fieldLink RX0 9 "RumourReasoner" "count" "I", Cond.arrayClass .int, Cond.fieldLink RX0 13 "RumourReasoner" "kinds" "[I", Cond.arrayClass .boolean, Cond.fieldLink RX0 17 "RumourReasoner" "steady" "[Z", Cond.fieldLink RX0 21 "RumourReasoner" "trueSets" "[J", Cond.fieldLink RX0 25 "RumourReasoner" "falseSets" "[J", Cond.fieldLink RX0 28 "RumourReasoner" "trusts" "[I", Cond.fieldLink RX0 31 "RumourReasoner" "on" "[Z", Cond.fieldLink RX0 34 "RumourReasoner" "reports" "[I", Cond.fieldLink RX0 37 "RumourReasoner" "leastTrust" "I"]
def wsL_law0_r2 : List Cond := [Cond.fieldLink RX0 40 "RumourReasoner" "rules" "[I", Cond.fieldLink RX0 43 "RumourReasoner" "logic" "I", Cond.constantLong RX0 46 (-1), Cond.fieldLink RX0 48 "RumourReasoner" "logicTriples" "J", Cond.methodLink RL 100 yX1_init, Cond.instanceMethod yX1_init, Cond.code yX1_init cX1_init 1 none, Cond.methodLink RX1 1 objectInit, Cond.fieldLink RX1 9 "RumourReasonerModel" "kinds" "[I", Cond.fieldLink RX1 13 "RumourReasonerModel" "firsts" "[I", Cond.fieldLink RX1 16 "RumourReasonerModel" "seconds" "[I", Cond.fieldLink RX1 19 "RumourReasonerModel" "areSteady" "[Z", Cond.fieldLink RX1 23 "RumourReasonerModel" "trusts" "[I", Cond.fieldLink RX1 26 "RumourReasonerModel" "areOn" "[Z", Cond.fieldLink RX1 29 "RumourReasonerModel" "says" "[I", Cond.fieldLink RX1 32 "RumourReasonerModel" "leastTrust" "I", Cond.fieldLink RX1 36 "RumourReasonerModel" "rules" "[I", Cond.fieldLink RX1 39 "RumourReasonerModel" "logic" "I", Cond.fieldLink RX1 42 "RumourReasonerModel" "results" "[I", Cond.methodLink RL 101 yL_atom, Cond.static yL_atom, Cond.initialized RL, Cond.codeWith yL_atom cL_atom 4 (some .int) [(0, 9, 12, 13), (0, 9, 15, 15)], Cond.classLink RL 13 "java/lang/IndexOutOfBoundsException"]
def wsL_law0_r3 : List Cond := [Cond.classLink RL 15 "java/lang/IllegalStateException", Cond.methodLink RL 7 yX0_atom, Cond.instanceMethod yX0_atom, Cond.selects RX0 yX0_atom yX0_atom, Cond.code yX0_atom cX0_atom 5 (some .int), Cond.methodLink RX0 52 yX0_requireAtom, Cond.static yX0_requireAtom, Cond.code yX0_requireAtom cX0_requireAtom 1 none, Cond.classLink RX0 197 "java/lang/IndexOutOfBoundsException", Cond.initialized "java/lang/IndexOutOfBoundsException", Cond.methodLink RX0 56 yX0_requireRoom, Cond.instanceMethod yX0_requireRoom, Cond.selects RX0 yX0_requireRoom yX0_requireRoom, Cond.code yX0_requireRoom cX0_requireRoom 1 none, Cond.classLink RX0 212 "java/lang/IllegalStateException", Cond.initialized "java/lang/IllegalStateException", Cond.methodLink RX0 59 yX0_placeOf, Cond.static yX0_placeOf, Cond.code yX0_placeOf cX0_placeOf 1 (some .int), Cond.methodLink RX0 63 yX0_rowOf, Cond.static yX0_rowOf, Cond.code yX0_rowOf cX0_rowOf 1 (some .int), Cond.methodLink RX0 66 yX0_valuationsWithBit, Cond.static yX0_valuationsWithBit]
def wsL_law0_r4 : List Cond := [Cond.code yX0_valuationsWithBit cX0_valuationsWithBit 2 (some .long), Cond.fieldLink RX0 217 "RumourReasoner" "NUMBERS_WITH_BIT" "[J", Cond.methodLink RX0 70 yX0_addFormula, Cond.instanceMethod yX0_addFormula, Cond.selects RX0 yX0_addFormula yX0_addFormula, Cond.code yX0_addFormula cX0_addFormula 4 (some .int), Cond.methodLink RL 106 yX1_atom, Cond.instanceMethod yX1_atom, Cond.selects RX1 yX1_atom yX1_atom, Cond.code yX1_atom cX1_atom 2 (some .int), Cond.fieldLink RX1 45 "RumourReasonerModel" "thrown" "I", Cond.methodLink RX1 59 yX1_isAtom, Cond.static yX1_isAtom, Cond.code yX1_isAtom cX1_isAtom 1 (some .boolean), Cond.methodLink RX1 51 yX1_isIn, Cond.static yX1_isIn, Cond.code yX1_isIn cX1_isIn 3 (some .boolean), Cond.methodLink RX1 63 yX1_create, Cond.instanceMethod yX1_create, Cond.selects RX1 yX1_create yX1_create, Cond.code yX1_create cX1_create 5 (some .int), Cond.fieldLink RX1 48 "RumourReasonerModel" "formulas" "I", Cond.methodLink RX1 55 yX1_no, Cond.instanceMethod yX1_no]
def wsL_law0_r5 : List Cond := [Cond.selects RX1 yX1_no yX1_no, Cond.code yX1_no cX1_no 2 (some .int), Cond.methodLink RL 107 yX1_thrown, Cond.instanceMethod yX1_thrown, Cond.selects RX1 yX1_thrown yX1_thrown, Cond.code yX1_thrown cX1_thrown 1 (some .int), Cond.methodLink RL 111 yL_constant, Cond.static yL_constant, Cond.codeWith yL_constant cL_constant 4 (some .int) [(0, 9, 12, 20), (0, 9, 15, 15)], Cond.classLink RL 20 "java/lang/IllegalArgumentException", Cond.methodLink RL 17 yX0_constant, Cond.instanceMethod yX0_constant, Cond.selects RX0 yX0_constant yX0_constant, Cond.code yX0_constant cX0_constant 4 (some .int), Cond.methodLink RX0 74 yX0_requireValue, Cond.static yX0_requireValue, Cond.code yX0_requireValue cX0_requireValue 1 none, Cond.classLink RX0 80 "java/lang/IllegalArgumentException", Cond.initialized "java/lang/IllegalArgumentException", Cond.methodLink RL 113 yX1_constant, Cond.instanceMethod yX1_constant, Cond.selects RX1 yX1_constant yX1_constant, Cond.code yX1_constant cX1_constant 2 (some .int), Cond.methodLink RL 114 yL_turn]
def wsL_law0_r6 : List Cond := [Cond.static yL_turn, Cond.codeWith yL_turn cL_turn 5 (some .int) [(0, 10, 13, 13), (0, 10, 17, 20), (0, 10, 21, 15)], Cond.methodLink RL 22 yX0_turn, Cond.instanceMethod yX0_turn, Cond.selects RX0 yX0_turn yX0_turn, Cond.code yX0_turn cX0_turn 10 (some .int), Cond.methodLink RX0 77 yX0_requireFormula, Cond.instanceMethod yX0_requireFormula, Cond.selects RX0 yX0_requireFormula yX0_requireFormula, Cond.code yX0_requireFormula cX0_requireFormula 2 none, Cond.methodLink RL 117 yX1_turn, Cond.instanceMethod yX1_turn, Cond.selects RX1 yX1_turn yX1_turn, Cond.code yX1_turn cX1_turn 3 (some .int), Cond.methodLink RX1 67 yX1_isFormula, Cond.instanceMethod yX1_isFormula, Cond.selects RX1 yX1_isFormula yX1_isFormula, Cond.code yX1_isFormula cX1_isFormula 2 (some .boolean), Cond.methodLink RL 118 yL_join, Cond.static yL_join, Cond.codeWith yL_join cL_join 6 (some .int) [(0, 12, 15, 13), (0, 12, 19, 20), (0, 12, 23, 15)], Cond.methodLink RL 26 yX0_join, Cond.instanceMethod yX0_join, Cond.selects RX0 yX0_join yX0_join]
def wsL_law0_r7 : List Cond := [Cond.code yX0_join cX0_join 10 (some .int), Cond.methodLink RX0 89 yX0_joinTrue, Cond.static yX0_joinTrue, Cond.code yX0_joinTrue cX0_joinTrue 5 (some .long), Cond.methodLink RX0 93 yX0_joinFalse, Cond.static yX0_joinFalse, Cond.code yX0_joinFalse cX0_joinFalse 7 (some .long), Cond.methodLink RL 121 yX1_join, Cond.instanceMethod yX1_join, Cond.selects RX1 yX1_join yX1_join, Cond.code yX1_join cX1_join 4 (some .int), Cond.methodLink RL 122 yX0_formulaCount, Cond.instanceMethod yX0_formulaCount, Cond.selects RX0 yX0_formulaCount yX0_formulaCount, Cond.code yX0_formulaCount cX0_formulaCount 1 (some .int), Cond.methodLink RL 125 yX1_formulaCount, Cond.instanceMethod yX1_formulaCount, Cond.selects RX1 yX1_formulaCount yX1_formulaCount, Cond.code yX1_formulaCount cX1_formulaCount 1 (some .int), Cond.methodLink RL 126 yL_isSteady, Cond.static yL_isSteady, Cond.codeWith yL_isSteady cL_isSteady 4 (some .int) [(0, 16, 19, 13)], Cond.methodLink RL 30 yX0_isSteady, Cond.instanceMethod yX0_isSteady]
def wsL_law0_r8 : List Cond := [Cond.selects RX0 yX0_isSteady yX0_isSteady, Cond.code yX0_isSteady cX0_isSteady 2 (some .boolean), Cond.methodLink RL 128 yX1_isSteady, Cond.instanceMethod yX1_isSteady, Cond.selects RX1 yX1_isSteady yX1_isSteady, Cond.code yX1_isSteady cX1_isSteady 2 (some .boolean), Cond.methodLink RL 129 yL_report, Cond.static yL_report, Cond.codeWith yL_report cL_report 6 (some .int) [(0, 12, 15, 13), (0, 12, 19, 20)], Cond.methodLink RL 34 yX0_report, Cond.instanceMethod yX0_report, Cond.selects RX0 yX0_report yX0_report, Cond.code yX0_report cX0_report 6 (some .int), Cond.methodLink RX0 97 yX0_requireSource, Cond.static yX0_requireSource, Cond.code yX0_requireSource cX0_requireSource 1 none, Cond.methodLink RX0 100 yX0_valueIn, Cond.static yX0_valueIn, Cond.code yX0_valueIn cX0_valueIn 2 (some .int), Cond.methodLink RL 131 yX1_report, Cond.instanceMethod yX1_report, Cond.selects RX1 yX1_report yX1_report, Cond.code yX1_report cX1_report 5 (some .int), Cond.methodLink RX1 70 yX1_isSource]
def wsL_law0_r9 : List Cond := [Cond.static yX1_isSource, Cond.code yX1_isSource cX1_isSource 1 (some .boolean), Cond.methodLink RL 132 yL_setTrust, Cond.static yL_setTrust, Cond.codeWith yL_setTrust cL_setTrust 5 (some .int) [(0, 10, 13, 13), (0, 10, 17, 20)], Cond.methodLink RL 37 yX0_setTrust, Cond.instanceMethod yX0_setTrust, Cond.selects RX0 yX0_setTrust yX0_setTrust, Cond.code yX0_setTrust cX0_setTrust 4 (some .int), Cond.methodLink RX0 104 yX0_requireTrust, Cond.static yX0_requireTrust, Cond.code yX0_requireTrust cX0_requireTrust 1 none, Cond.methodLink RL 134 yX1_setTrust, Cond.instanceMethod yX1_setTrust, Cond.selects RX1 yX1_setTrust yX1_setTrust, Cond.code yX1_setTrust cX1_setTrust 4 (some .int), Cond.methodLink RL 135 yL_setLeastTrust, Cond.static yL_setLeastTrust, Cond.codeWith yL_setLeastTrust cL_setLeastTrust 4 (some .int) [(0, 9, 12, 20)], Cond.methodLink RL 40 yX0_setLeastTrust, Cond.instanceMethod yX0_setLeastTrust, Cond.selects RX0 yX0_setLeastTrust yX0_setLeastTrust, Cond.code yX0_setLeastTrust cX0_setLeastTrust 3 (some .int), Cond.methodLink RL 137 yX1_setLeastTrust]
def wsL_law0_r10 : List Cond := [Cond.instanceMethod yX1_setLeastTrust, Cond.selects RX1 yX1_setLeastTrust yX1_setLeastTrust, Cond.code yX1_setLeastTrust cX1_setLeastTrust 3 (some .int), Cond.methodLink RL 138 yL_let, Cond.static yL_let, Cond.codeWith yL_let cL_let 5 (some .int) [(0, 17, 20, 13)], Cond.methodLink RL 43 yX0_let, Cond.instanceMethod yX0_let, Cond.selects RX0 yX0_let yX0_let, Cond.code yX0_let cX0_let 3 (some .boolean), Cond.methodLink RX0 107 yX0_isHeard, Cond.instanceMethod yX0_isHeard, Cond.selects RX0 yX0_isHeard yX0_isHeard, Cond.code yX0_isHeard cX0_isHeard 2 (some .boolean), Cond.methodLink RL 141 yX1_let, Cond.instanceMethod yX1_let, Cond.selects RX1 yX1_let yX1_let, Cond.code yX1_let cX1_let 3 (some .boolean), Cond.methodLink RX1 73 yX1_isHeard, Cond.instanceMethod yX1_isHeard, Cond.selects RX1 yX1_isHeard yX1_isHeard, Cond.code yX1_isHeard cX1_isHeard 2 (some .boolean), Cond.methodLink RL 142 yL_setRule, Cond.static yL_setRule]
def wsL_law0_r11 : List Cond := [Cond.codeWith yL_setRule cL_setRule 5 (some .int) [(0, 10, 13, 13), (0, 10, 17, 20)], Cond.methodLink RL 47 yX0_setRule, Cond.instanceMethod yX0_setRule, Cond.selects RX0 yX0_setRule yX0_setRule, Cond.code yX0_setRule cX0_setRule 4 (some .int), Cond.methodLink RX0 111 yX0_requireSteady, Cond.instanceMethod yX0_requireSteady, Cond.selects RX0 yX0_requireSteady yX0_requireSteady, Cond.code yX0_requireSteady cX0_requireSteady 2 none, Cond.methodLink RL 144 yX1_setRule, Cond.instanceMethod yX1_setRule, Cond.selects RX1 yX1_setRule yX1_setRule, Cond.code yX1_setRule cX1_setRule 4 (some .int), Cond.methodLink RL 145 yL_given, Cond.static yL_given, Cond.codeWith yL_given cL_given 4 (some .int) [(0, 9, 12, 13)], Cond.methodLink RL 50 yX0_given, Cond.instanceMethod yX0_given, Cond.selects RX0 yX0_given yX0_given, Cond.code yX0_given cX0_given 2 (some .int), Cond.methodLink RX0 114 yX0_heard, Cond.instanceMethod yX0_heard, Cond.selects RX0 yX0_heard yX0_heard, Cond.code yX0_heard cX0_heard 3 (some .int)]
def wsL_law0_r12 : List Cond := [Cond.methodLink RX0 118 yX0_givenState, Cond.instanceMethod yX0_givenState, Cond.selects RX0 yX0_givenState yX0_givenState, Cond.code yX0_givenState cX0_givenState 4 (some .int), Cond.methodLink RL 147 yX1_given, Cond.instanceMethod yX1_given, Cond.selects RX1 yX1_given yX1_given, Cond.code yX1_given cX1_given 2 (some .int), Cond.methodLink RX1 80 yX1_heardSet, Cond.instanceMethod yX1_heardSet, Cond.selects RX1 yX1_heardSet yX1_heardSet, Cond.code yX1_heardSet cX1_heardSet 3 (some .int), Cond.methodLink RX1 84 yX1_givenBy, Cond.instanceMethod yX1_givenBy, Cond.selects RX1 yX1_givenBy yX1_givenBy, Cond.code yX1_givenBy cX1_givenBy 5 (some .int), Cond.methodLink RX1 76 yX1_has, Cond.static yX1_has, Cond.code yX1_has cX1_has 2 (some .boolean), Cond.methodLink RL 148 yL_settled, Cond.static yL_settled, Cond.codeWith yL_settled cL_settled 4 (some .int) [(0, 9, 12, 13)], Cond.methodLink RL 53 yX0_settled, Cond.instanceMethod yX0_settled]
def wsL_law0_r13 : List Cond := [Cond.selects RX0 yX0_settled yX0_settled, Cond.code yX0_settled cX0_settled 2 (some .int), Cond.methodLink RX0 121 yX0_settledNow, Cond.instanceMethod yX0_settledNow, Cond.selects RX0 yX0_settledNow yX0_settledNow, Cond.code yX0_settledNow cX0_settledNow 1 (some .int), Cond.methodLink RX0 142 yX0_settledState, Cond.instanceMethod yX0_settledState, Cond.selects RX0 yX0_settledState yX0_settledState, Cond.code yX0_settledState cX0_settledState 6 (some .int), Cond.methodLink RX0 124 yX0_nextState, Cond.instanceMethod yX0_nextState, Cond.selects RX0 yX0_nextState yX0_nextState, Cond.code yX0_nextState cX0_nextState 5 (some .int), Cond.methodLink RX0 131 yX0_lookUp, Cond.instanceMethod yX0_lookUp, Cond.selects RX0 yX0_lookUp yX0_lookUp, Cond.code yX0_lookUp cX0_lookUp 7 (some .int), Cond.methodLink RL 150 yX1_settled, Cond.instanceMethod yX1_settled, Cond.selects RX1 yX1_settled yX1_settled, Cond.code yX1_settled cX1_settled 2 (some .int), Cond.methodLink RX1 100 yX1_present, Cond.instanceMethod yX1_present]
def wsL_law0_r14 : List Cond := [Cond.selects RX1 yX1_present yX1_present, Cond.code yX1_present cX1_present 1 (some .int), Cond.methodLink RX1 97 yX1_settle, Cond.instanceMethod yX1_settle, Cond.selects RX1 yX1_settle yX1_settle, Cond.code yX1_settle cX1_settle 4 (some .int), Cond.methodLink RX1 91 yX1_begin, Cond.instanceMethod yX1_begin, Cond.selects RX1 yX1_begin yX1_begin, Cond.code yX1_begin cX1_begin 4 (some .int), Cond.methodLink RX1 94 yX1_goOn, Cond.instanceMethod yX1_goOn, Cond.selects RX1 yX1_goOn yX1_goOn, Cond.code yX1_goOn cX1_goOn 5 (some .int), Cond.methodLink RX1 88 yX1_worth, Cond.instanceMethod yX1_worth, Cond.selects RX1 yX1_worth yX1_worth, Cond.code yX1_worth cX1_worth 6 (some .int), Cond.methodLink RX1 103 yX1_valueIn, Cond.static yX1_valueIn, Cond.code yX1_valueIn cX1_valueIn 2 (some .int), Cond.methodLink RL 151 yX0_rounds, Cond.instanceMethod yX0_rounds, Cond.selects RX0 yX0_rounds yX0_rounds]
def wsL_law0_r15 : List Cond := [Cond.code yX0_rounds cX0_rounds 5 (some .int), Cond.methodLink RL 154 yX1_rounds, Cond.instanceMethod yX1_rounds, Cond.selects RX1 yX1_rounds yX1_rounds, Cond.code yX1_rounds cX1_rounds 1 (some .int), Cond.methodLink RX1 106 yX1_roundCount, Cond.instanceMethod yX1_roundCount, Cond.selects RX1 yX1_roundCount yX1_roundCount, Cond.code yX1_roundCount cX1_roundCount 4 (some .int), Cond.methodLink RL 155 yL_since, Cond.static yL_since, Cond.codeWith yL_since cL_since 5 (some .int) [(0, 10, 13, 13)], Cond.methodLink RL 56 yX0_since, Cond.instanceMethod yX0_since, Cond.selects RX0 yX0_since yX0_since, Cond.code yX0_since cX0_since 6 (some .int), Cond.methodLink RX0 127 yX0_isTold, Cond.static yX0_isTold, Cond.code yX0_isTold cX0_isTold 2 (some .boolean), Cond.methodLink RL 157 yX1_since, Cond.instanceMethod yX1_since, Cond.selects RX1 yX1_since yX1_since, Cond.code yX1_since cX1_since 7 (some .int), Cond.methodLink RL 158 yL_value]
def wsL_law0_r16 : List Cond := [Cond.static yL_value, Cond.codeWith yL_value cL_value 4 (some .int) [(0, 9, 12, 13)], Cond.methodLink RL 60 yX0_value, Cond.instanceMethod yX0_value, Cond.selects RX0 yX0_value yX0_value, Cond.code yX0_value cX0_value 2 (some .int), Cond.methodLink RL 160 yX1_value, Cond.instanceMethod yX1_value, Cond.selects RX1 yX1_value yX1_value, Cond.code yX1_value cX1_value 2 (some .int), Cond.methodLink RL 161 yX0_conflicts, Cond.instanceMethod yX0_conflicts, Cond.selects RX0 yX0_conflicts yX0_conflicts, Cond.code yX0_conflicts cX0_conflicts 1 (some .int), Cond.methodLink RX0 134 yX0_atomsWith, Cond.static yX0_atomsWith, Cond.code yX0_atomsWith cX0_atomsWith 4 (some .int), Cond.methodLink RL 164 yX1_conflicts, Cond.instanceMethod yX1_conflicts, Cond.selects RX1 yX1_conflicts yX1_conflicts, Cond.code yX1_conflicts cX1_conflicts 1 (some .int), Cond.methodLink RX1 109 yX1_having, Cond.static yX1_having, Cond.code yX1_having cX1_having 4 (some .int)]
def wsL_law0_r17 : List Cond := [Cond.methodLink RL 165 yX0_gaps, Cond.instanceMethod yX0_gaps, Cond.selects RX0 yX0_gaps yX0_gaps, Cond.code yX0_gaps cX0_gaps 1 (some .int), Cond.methodLink RL 168 yX1_gaps, Cond.instanceMethod yX1_gaps, Cond.selects RX1 yX1_gaps yX1_gaps, Cond.code yX1_gaps cX1_gaps 1 (some .int), Cond.methodLink RL 169 yX0_discord, Cond.instanceMethod yX0_discord, Cond.selects RX0 yX0_discord yX0_discord, Cond.code yX0_discord cX0_discord 3 (some .double), Cond.methodLink RX0 137 yJ6_bitCount_0f7a4, Cond.static yJ6_bitCount_0f7a4, Cond.initialized RJ6, Cond.code yJ6_bitCount_0f7a4 cJ6_bitCount_0f7a4 1 (some .int), Cond.constant RJ6 265 (1431655765), Cond.constant RJ6 266 (858993459), Cond.constant RJ6 267 (252645135), Cond.methodLink RL 173 yX1_discord, Cond.instanceMethod yX1_discord, Cond.selects RX1 yX1_discord yX1_discord, Cond.code yX1_discord cX1_discord 3 (some .double), Cond.methodLink RX1 112 yJ6_bitCount_0f7a4]
def wsL_law0_r18 : List Cond := [Cond.methodLink RL 174 yX0_heard, Cond.methodLink RL 177 yX1_heard, Cond.instanceMethod yX1_heard, Cond.selects RX1 yX1_heard yX1_heard, Cond.code yX1_heard cX1_heard 1 (some .int), Cond.methodLink RL 178 yL_sayers, Cond.static yL_sayers, Cond.codeWith yL_sayers cL_sayers 5 (some .int) [(0, 10, 13, 13)], Cond.methodLink RL 63 yX0_sayers, Cond.instanceMethod yX0_sayers, Cond.selects RX0 yX0_sayers yX0_sayers, Cond.code yX0_sayers cX0_sayers 5 (some .int), Cond.methodLink RL 180 yX1_sayers, Cond.instanceMethod yX1_sayers, Cond.selects RX1 yX1_sayers yX1_sayers, Cond.code yX1_sayers cX1_sayers 5 (some .int), Cond.methodLink RL 181 yL_matters, Cond.static yL_matters, Cond.codeWith yL_matters cL_matters 5 (some .int) [(0, 17, 20, 13)], Cond.methodLink RL 66 yX0_matters, Cond.instanceMethod yX0_matters, Cond.selects RX0 yX0_matters yX0_matters, Cond.code yX0_matters cX0_matters 5 (some .boolean), Cond.methodLink RL 183 yX1_matters]
def wsL_law0_r19 : List Cond := [Cond.instanceMethod yX1_matters, Cond.selects RX1 yX1_matters yX1_matters, Cond.code yX1_matters cX1_matters 3 (some .boolean), Cond.methodLink RL 184 yX0_silence, Cond.instanceMethod yX0_silence, Cond.selects RX0 yX0_silence yX0_silence, Cond.code yX0_silence cX0_silence 6 (some .int), Cond.methodLink RX0 145 yX0_trustOf, Cond.instanceMethod yX0_trustOf, Cond.selects RX0 yX0_trustOf yX0_trustOf, Cond.code yX0_trustOf cX0_trustOf 4 (some .int), Cond.methodLink RL 187 yX1_silence, Cond.instanceMethod yX1_silence, Cond.selects RX1 yX1_silence yX1_silence, Cond.code yX1_silence cX1_silence 7 (some .int), Cond.methodLink RL 188 yL_contradicted, Cond.static yL_contradicted, Cond.codeWith yL_contradicted cL_contradicted 4 (some .int) [(0, 9, 12, 13)], Cond.methodLink RL 70 yX0_contradicted, Cond.instanceMethod yX0_contradicted, Cond.selects RX0 yX0_contradicted yX0_contradicted, Cond.code yX0_contradicted cX0_contradicted 5 (some .int), Cond.methodLink RX0 148 yX0_isAgainst, Cond.static yX0_isAgainst]
def wsL_law0_r20 : List Cond := [Cond.code yX0_isAgainst cX0_isAgainst 2 (some .boolean), Cond.methodLink RL 190 yX1_contradicted, Cond.instanceMethod yX1_contradicted, Cond.selects RX1 yX1_contradicted yX1_contradicted, Cond.code yX1_contradicted cX1_contradicted 7 (some .int), Cond.methodLink RL 191 yL_setLogic, Cond.static yL_setLogic, Cond.codeWith yL_setLogic cL_setLogic 4 (some .int) [(0, 9, 12, 20)], Cond.methodLink RL 73 yX0_setLogic, Cond.instanceMethod yX0_setLogic, Cond.selects RX0 yX0_setLogic yX0_setLogic, Cond.code yX0_setLogic cX0_setLogic 3 (some .int), Cond.methodLink RX0 154 yX0_triplesOf, Cond.static yX0_triplesOf, Cond.code yX0_triplesOf cX0_triplesOf 7 (some .long), Cond.methodLink RL 193 yX1_setLogic, Cond.instanceMethod yX1_setLogic, Cond.selects RX1 yX1_setLogic yX1_setLogic, Cond.code yX1_setLogic cX1_setLogic 3 (some .int), Cond.methodLink RL 194 yL_models, Cond.static yL_models, Cond.codeWith yL_models cL_models 4 (some .int) [(0, 9, 12, 13)], Cond.methodLink RL 76 yX0_models, Cond.instanceMethod yX0_models]
def wsL_law0_r21 : List Cond := [Cond.selects RX0 yX0_models yX0_models, Cond.code yX0_models cX0_models 5 (some .int), Cond.methodLink RX0 158 yX0_logicWord, Cond.instanceMethod yX0_logicWord, Cond.selects RX0 yX0_logicWord yX0_logicWord, Cond.code yX0_logicWord cX0_logicWord 2 (some .long), Cond.methodLink RX0 161 yJ13_bitCount_95d88, Cond.static yJ13_bitCount_95d88, Cond.initialized RJ13, Cond.code yJ13_bitCount_95d88 cJ13_bitCount_95d88 2 (some .int), Cond.constantLong RJ13 314 (6148914691236517205), Cond.constantLong RJ13 316 (3689348814741910323), Cond.constantLong RJ13 318 (1085102592571150095), Cond.methodLink RL 196 yX1_models, Cond.instanceMethod yX1_models, Cond.selects RX1 yX1_models yX1_models, Cond.code yX1_models cX1_models 4 (some .int), Cond.methodLink RX1 117 yX1_counts, Cond.instanceMethod yX1_counts, Cond.selects RX1 yX1_counts yX1_counts, Cond.code yX1_counts cX1_counts 4 (some .boolean), Cond.methodLink RX1 120 yX1_isYes, Cond.instanceMethod yX1_isYes, Cond.selects RX1 yX1_isYes yX1_isYes]
def wsL_law0_r22 : List Cond := [Cond.code yX1_isYes cX1_isYes 3 (some .boolean), Cond.methodLink RL 197 yL_range, Cond.static yL_range, Cond.codeWith yL_range cL_range 4 (some .int) [(0, 9, 12, 13)], Cond.methodLink RL 79 yX0_range, Cond.instanceMethod yX0_range, Cond.selects RX0 yX0_range yX0_range, Cond.code yX0_range cX0_range 8 (some .int), Cond.methodLink RX0 166 yX0_pick, Cond.static yX0_pick, Cond.code yX0_pick cX0_pick 5 (some .long), Cond.methodLink RL 199 yX1_range, Cond.instanceMethod yX1_range, Cond.selects RX1 yX1_range yX1_range, Cond.code yX1_range cX1_range 4 (some .int), Cond.methodLink RL 200 yL_entails, Cond.static yL_entails, Cond.codeWith yL_entails cL_entails 5 (some .int) [(0, 17, 20, 13)], Cond.methodLink RL 82 yX0_entails, Cond.instanceMethod yX0_entails, Cond.selects RX0 yX0_entails yX0_entails, Cond.code yX0_entails cX0_entails 3 (some .boolean), Cond.methodLink RX0 170 yX0_against, Cond.instanceMethod yX0_against]
def wsL_law0_r23 : List Cond := [Cond.selects RX0 yX0_against yX0_against, Cond.code yX0_against cX0_against 8 (some .int), Cond.methodLink RX0 173 yX0_lowestBit, Cond.static yX0_lowestBit, Cond.code yX0_lowestBit cX0_lowestBit 2 (some .int), Cond.methodLink RL 202 yX1_entails, Cond.instanceMethod yX1_entails, Cond.selects RX1 yX1_entails yX1_entails, Cond.code yX1_entails cX1_entails 3 (some .boolean), Cond.methodLink RX1 123 yX1_firstAgainst, Cond.instanceMethod yX1_firstAgainst, Cond.selects RX1 yX1_firstAgainst yX1_firstAgainst, Cond.code yX1_firstAgainst cX1_firstAgainst 4 (some .int), Cond.methodLink RL 203 yL_against, Cond.static yL_against, Cond.codeWith yL_against cL_against 5 (some .int) [(0, 10, 13, 13)], Cond.methodLink RL 85 yX0_against, Cond.methodLink RL 205 yX1_against, Cond.instanceMethod yX1_against, Cond.selects RX1 yX1_against yX1_against, Cond.code yX1_against cX1_against 3 (some .int), Cond.methodLink RL 206 yL_areEqual, Cond.static yL_areEqual, Cond.codeWith yL_areEqual cL_areEqual 5 (some .int) [(0, 17, 20, 13)]]
def wsL_law0_r24 : List Cond := [Cond.methodLink RL 88 yX0_areEqual, Cond.instanceMethod yX0_areEqual, Cond.selects RX0 yX0_areEqual yX0_areEqual, Cond.code yX0_areEqual cX0_areEqual 6 (some .boolean), Cond.methodLink RX0 176 yX0_differing, Cond.instanceMethod yX0_differing, Cond.selects RX0 yX0_differing yX0_differing, Cond.code yX0_differing cX0_differing 8 (some .long), Cond.methodLink RL 208 yX1_areEqual, Cond.instanceMethod yX1_areEqual, Cond.selects RX1 yX1_areEqual yX1_areEqual, Cond.code yX1_areEqual cX1_areEqual 5 (some .boolean), Cond.methodLink RL 209 yL_depends, Cond.static yL_depends, Cond.codeWith yL_depends cL_depends 5 (some .int) [(0, 17, 20, 13)], Cond.methodLink RL 91 yX0_depends, Cond.instanceMethod yX0_depends, Cond.selects RX0 yX0_depends yX0_depends, Cond.code yX0_depends cX0_depends 5 (some .boolean), Cond.methodLink RX0 180 yX0_isChanged, Cond.instanceMethod yX0_isChanged, Cond.selects RX0 yX0_isChanged yX0_isChanged, Cond.code yX0_isChanged cX0_isChanged 13 (some .boolean), Cond.methodLink RL 211 yX1_depends]
def wsL_law0_r25 : List Cond := [Cond.instanceMethod yX1_depends, Cond.selects RX1 yX1_depends yX1_depends, Cond.code yX1_depends cX1_depends 8 (some .boolean), Cond.methodLink RL 212 yL_valueAt, Cond.static yL_valueAt, Cond.codeWith yL_valueAt cL_valueAt 5 (some .int) [(0, 10, 13, 13), (0, 10, 17, 20)], Cond.methodLink RL 94 yX0_valueAt, Cond.instanceMethod yX0_valueAt, Cond.selects RX0 yX0_valueAt yX0_valueAt, Cond.code yX0_valueAt cX0_valueAt 3 (some .int), Cond.methodLink RL 214 yX1_valueAt, Cond.instanceMethod yX1_valueAt, Cond.selects RX1 yX1_valueAt yX1_valueAt, Cond.code yX1_valueAt cX1_valueAt 3 (some .int), Cond.methodLink RL 215 yX0_digest, Cond.instanceMethod yX0_digest, Cond.selects RX0 yX0_digest yX0_digest, Cond.code yX0_digest cX0_digest 7 (some .long), Cond.constantLong RX0 186 (131), Cond.methodLink RX0 188 yX0_mix, Cond.static yX0_mix, Cond.code yX0_mix cX0_mix 3 (some .long), Cond.constantLong RX0 195 (31), Cond.methodLink RX0 192 yX0_rounds]
def wsL_law0_r26 : List Cond := [Cond.methodLink RL 219 yX1_digest, Cond.instanceMethod yX1_digest, Cond.selects RX1 yX1_digest yX1_digest, Cond.code yX1_digest cX1_digest 6 (some .long), Cond.constantLong RX1 126 (4061), Cond.constantLong RX1 128 (31)]
def wsL_law0 : List Cond := (wsL_law0_r1 ++ (wsL_law0_r2 ++ (wsL_law0_r3 ++ (wsL_law0_r4 ++ (wsL_law0_r5 ++ (wsL_law0_r6 ++ (wsL_law0_r7 ++ (wsL_law0_r8 ++ (wsL_law0_r9 ++ (wsL_law0_r10 ++ (wsL_law0_r11 ++ (wsL_law0_r12 ++ (wsL_law0_r13 ++ (wsL_law0_r14 ++ (wsL_law0_r15 ++ (wsL_law0_r16 ++ (wsL_law0_r17 ++ (wsL_law0_r18 ++ (wsL_law0_r19 ++ (wsL_law0_r20 ++ (wsL_law0_r21 ++ (wsL_law0_r22 ++ (wsL_law0_r23 ++ (wsL_law0_r24 ++ (wsL_law0_r25 ++ wsL_law0_r26))))))))))))))))))))))))) ++ wsX00 ++ wsX10 ++ ([] : List Cond)
def wsL_law : List Cond := wsL_law0 ++ (vx_atS RX0 201 "java/lang/IndexOutOfBoundsException" ["java/lang/RuntimeException", "java/lang/Exception"]).filter goodWord ++ (vx_atS RX0 216 "java/lang/IllegalStateException" ["java/lang/RuntimeException", "java/lang/Exception"]).filter goodWord ++ (vx_atS RX0 84 "java/lang/IllegalArgumentException" ["java/lang/RuntimeException", "java/lang/Exception"]).filter goodWord
end
section
theorem dX0_init_0 : decode cX0_init 0 = .ok (.aload_n 0, 1) := by decide +kernel
theorem dX0_init_1 : decode cX0_init 1 = .ok (.invokespecial 3, 3) := by decide +kernel
theorem dX0_init_4 : decode cX0_init 4 = .ok (.aload_n 0, 1) := by decide +kernel
theorem dX0_init_5 : decode cX0_init 5 = .ok (.iconst 0, 1) := by decide +kernel
theorem dX0_init_6 : decode cX0_init 6 = .ok (.putfield 9, 3) := by decide +kernel
theorem dX0_init_9 : decode cX0_init 9 = .ok (.aload_n 0, 1) := by decide +kernel
theorem dX0_init_10 : decode cX0_init 10 = .ok (.bipush 40, 2) := by decide +kernel
theorem dX0_init_12 : decode cX0_init 12 = .ok (.newarray .int, 2) := by decide +kernel
theorem dX0_init_14 : decode cX0_init 14 = .ok (.putfield 13, 3) := by decide +kernel
theorem dX0_init_17 : decode cX0_init 17 = .ok (.aload_n 0, 1) := by decide +kernel
theorem dX0_init_18 : decode cX0_init 18 = .ok (.bipush 40, 2) := by decide +kernel
theorem dX0_init_20 : decode cX0_init 20 = .ok (.newarray .boolean, 2) := by decide +kernel
theorem dX0_init_22 : decode cX0_init 22 = .ok (.putfield 17, 3) := by decide +kernel
theorem dX0_init_25 : decode cX0_init 25 = .ok (.aload_n 0, 1) := by decide +kernel
theorem dX0_init_26 : decode cX0_init 26 = .ok (.sipush 2560, 3) := by decide +kernel
theorem dX0_init_29 : decode cX0_init 29 = .ok (.newarray .long, 2) := by decide +kernel
theorem dX0_init_31 : decode cX0_init 31 = .ok (.putfield 21, 3) := by decide +kernel
theorem dX0_init_34 : decode cX0_init 34 = .ok (.aload_n 0, 1) := by decide +kernel
theorem dX0_init_35 : decode cX0_init 35 = .ok (.sipush 2560, 3) := by decide +kernel
theorem dX0_init_38 : decode cX0_init 38 = .ok (.newarray .long, 2) := by decide +kernel
theorem dX0_init_40 : decode cX0_init 40 = .ok (.putfield 25, 3) := by decide +kernel
theorem dX0_init_43 : decode cX0_init 43 = .ok (.aload_n 0, 1) := by decide +kernel
theorem dX0_init_44 : decode cX0_init 44 = .ok (.bipush 6, 2) := by decide +kernel
theorem dX0_init_46 : decode cX0_init 46 = .ok (.newarray .int, 2) := by decide +kernel
theorem dX0_init_48 : decode cX0_init 48 = .ok (.putfield 28, 3) := by decide +kernel
theorem dX0_init_51 : decode cX0_init 51 = .ok (.aload_n 0, 1) := by decide +kernel
theorem dX0_init_52 : decode cX0_init 52 = .ok (.bipush 6, 2) := by decide +kernel
theorem dX0_init_54 : decode cX0_init 54 = .ok (.newarray .boolean, 2) := by decide +kernel
theorem dX0_init_56 : decode cX0_init 56 = .ok (.putfield 31, 3) := by decide +kernel
theorem dX0_init_59 : decode cX0_init 59 = .ok (.aload_n 0, 1) := by decide +kernel
theorem dX0_init_60 : decode cX0_init 60 = .ok (.bipush 6, 2) := by decide +kernel
theorem dX0_init_62 : decode cX0_init 62 = .ok (.newarray .int, 2) := by decide +kernel
theorem dX0_init_64 : decode cX0_init 64 = .ok (.putfield 34, 3) := by decide +kernel
theorem dX0_init_67 : decode cX0_init 67 = .ok (.iconst 0, 1) := by decide +kernel
theorem dX0_init_68 : decode cX0_init 68 = .ok (.istore_n 1, 1) := by decide +kernel
theorem dX0_init_69 : decode cX0_init 69 = .ok (.iload_n 1, 1) := by decide +kernel
theorem dX0_init_70 : decode cX0_init 70 = .ok (.bipush 6, 2) := by decide +kernel
theorem dX0_init_72 : decode cX0_init 72 = .ok (.if_icmp .ge 24, 3) := by decide +kernel
theorem dX0_init_75 : decode cX0_init 75 = .ok (.aload_n 0, 1) := by decide +kernel
theorem dX0_init_76 : decode cX0_init 76 = .ok (.getfield 28, 3) := by decide +kernel
theorem dX0_init_79 : decode cX0_init 79 = .ok (.iload_n 1, 1) := by decide +kernel
theorem dX0_init_80 : decode cX0_init 80 = .ok (.bipush 50, 2) := by decide +kernel
theorem dX0_init_82 : decode cX0_init 82 = .ok (.iastore, 1) := by decide +kernel
theorem dX0_init_83 : decode cX0_init 83 = .ok (.aload_n 0, 1) := by decide +kernel
theorem dX0_init_84 : decode cX0_init 84 = .ok (.getfield 31, 3) := by decide +kernel
theorem dX0_init_87 : decode cX0_init 87 = .ok (.iload_n 1, 1) := by decide +kernel
theorem dX0_init_88 : decode cX0_init 88 = .ok (.iconst 1, 1) := by decide +kernel
theorem dX0_init_89 : decode cX0_init 89 = .ok (.bastore, 1) := by decide +kernel
theorem dX0_init_90 : decode cX0_init 90 = .ok (.iinc 1 1, 3) := by decide +kernel
theorem dX0_init_93 : decode cX0_init 93 = .ok (.goto (-24), 3) := by decide +kernel
theorem dX0_init_96 : decode cX0_init 96 = .ok (.aload_n 0, 1) := by decide +kernel
theorem dX0_init_97 : decode cX0_init 97 = .ok (.iconst 1, 1) := by decide +kernel
theorem dX0_init_98 : decode cX0_init 98 = .ok (.putfield 37, 3) := by decide +kernel
theorem dX0_init_101 : decode cX0_init 101 = .ok (.aload_n 0, 1) := by decide +kernel
theorem dX0_init_102 : decode cX0_init 102 = .ok (.bipush 6, 2) := by decide +kernel
theorem dX0_init_104 : decode cX0_init 104 = .ok (.newarray .int, 2) := by decide +kernel
theorem dX0_init_106 : decode cX0_init 106 = .ok (.putfield 40, 3) := by decide +kernel
theorem dX0_init_109 : decode cX0_init 109 = .ok (.iconst 0, 1) := by decide +kernel
theorem dX0_init_110 : decode cX0_init 110 = .ok (.istore_n 1, 1) := by decide +kernel
theorem dX0_init_111 : decode cX0_init 111 = .ok (.iload_n 1, 1) := by decide +kernel
theorem dX0_init_112 : decode cX0_init 112 = .ok (.bipush 6, 2) := by decide +kernel
theorem dX0_init_114 : decode cX0_init 114 = .ok (.if_icmp .ge 16, 3) := by decide +kernel
theorem dX0_init_117 : decode cX0_init 117 = .ok (.aload_n 0, 1) := by decide +kernel
theorem dX0_init_118 : decode cX0_init 118 = .ok (.getfield 40, 3) := by decide +kernel
theorem dX0_init_121 : decode cX0_init 121 = .ok (.iload_n 1, 1) := by decide +kernel
theorem dX0_init_122 : decode cX0_init 122 = .ok (.iconst (-1), 1) := by decide +kernel
theorem dX0_init_123 : decode cX0_init 123 = .ok (.iastore, 1) := by decide +kernel
theorem dX0_init_124 : decode cX0_init 124 = .ok (.iinc 1 1, 3) := by decide +kernel
theorem dX0_init_127 : decode cX0_init 127 = .ok (.goto (-16), 3) := by decide +kernel
theorem dX0_init_130 : decode cX0_init 130 = .ok (.aload_n 0, 1) := by decide +kernel
theorem dX0_init_131 : decode cX0_init 131 = .ok (.bipush 15, 2) := by decide +kernel
theorem dX0_init_133 : decode cX0_init 133 = .ok (.putfield 43, 3) := by decide +kernel
theorem dX0_init_136 : decode cX0_init 136 = .ok (.aload_n 0, 1) := by decide +kernel
theorem dX0_init_137 : decode cX0_init 137 = .ok (.ldc2_w 46, 3) := by decide +kernel
theorem dX0_init_140 : decode cX0_init 140 = .ok (.putfield 48, 3) := by decide +kernel
theorem dX0_init_143 : decode cX0_init 143 = .ok (.return_, 1) := by decide +kernel
set_option maxRecDepth 20000 in
theorem ggX0_atom_X0_requireAtom : GoodIn wsX0_atom wsX0_requireAtom := goodIn_ca (goodIn_r _ [7, 8, 9] (by decide +kernel) (by decide +kernel)) (goodIn_sub (fun _ h => List.mem_cons_of_mem _ (List.mem_append_left _ (List.mem_append_right _ h))) (by decide +kernel))
set_option maxRecDepth 20000 in
theorem gX0_atom_X0_requireAtom : GoodIn wsX0_atom (va_wsS RX0 52 yX0_requireAtom wsX0_requireAtom) := goodIn_app (goodIn_of _ (by decide +kernel)) ggX0_atom_X0_requireAtom
set_option maxRecDepth 20000 in
theorem ggX0_atom_X0_requireRoom : GoodIn wsX0_atom wsX0_requireRoom := goodIn_ca (goodIn_r _ [13, 14, 15, 1, 33, 34, 35, 36, 37, 38, 39, 40, 41, 42, 43, 44] (by decide +kernel) (by decide +kernel)) (goodIn_sub (fun _ h => List.mem_cons_of_mem _ (List.mem_append_right _ h)) (by decide +kernel))
set_option maxRecDepth 20000 in
theorem gX0_atom_X0_requireRoom : GoodIn wsX0_atom (wsV RX0 56 RX0 yX0_requireRoom wsX0_requireRoom) := goodIn_app (goodIn_of _ (by decide +kernel)) ggX0_atom_X0_requireRoom
set_option maxRecDepth 20000 in
theorem ggX0_atom_X0_placeOf : GoodIn wsX0_atom wsX0_placeOf := goodIn_r _ [18] (by decide +kernel) (by decide +kernel)
set_option maxRecDepth 20000 in
theorem gX0_atom_X0_placeOf : GoodIn wsX0_atom (va_wsS RX0 59 yX0_placeOf wsX0_placeOf) := goodIn_app (goodIn_of _ (by decide +kernel)) ggX0_atom_X0_placeOf
set_option maxRecDepth 20000 in
theorem ggX0_atom_X0_rowOf : GoodIn wsX0_atom wsX0_rowOf := goodIn_r _ [21] (by decide +kernel) (by decide +kernel)
set_option maxRecDepth 20000 in
theorem gX0_atom_X0_rowOf : GoodIn wsX0_atom (va_wsS RX0 63 yX0_rowOf wsX0_rowOf) := goodIn_app (goodIn_of _ (by decide +kernel)) ggX0_atom_X0_rowOf
set_option maxRecDepth 20000 in
theorem ggX0_atom_X0_valuationsWithBit : GoodIn wsX0_atom wsX0_valuationsWithBit := goodIn_r _ [24, 25, 26] (by decide +kernel) (by decide +kernel)
set_option maxRecDepth 20000 in
theorem gX0_atom_X0_valuationsWithBit : GoodIn wsX0_atom (va_wsS RX0 66 yX0_valuationsWithBit wsX0_valuationsWithBit) := goodIn_app (goodIn_of _ (by decide +kernel)) ggX0_atom_X0_valuationsWithBit
set_option maxRecDepth 20000 in
theorem ggX0_atom_X0_addFormula : GoodIn wsX0_atom wsX0_addFormula := goodIn_r _ [30, 1, 31, 32, 33, 34, 35, 36, 37, 38, 39, 40, 41, 42, 43, 44] (by decide +kernel) (by decide +kernel)
set_option maxRecDepth 20000 in
theorem gX0_atom_X0_addFormula : GoodIn wsX0_atom (wsV RX0 70 RX0 yX0_addFormula wsX0_addFormula) := goodIn_app (goodIn_of _ (by decide +kernel)) ggX0_atom_X0_addFormula
theorem dX0_atom_0 : decode cX0_atom 0 = .ok (.iload_n 1, 1) := by decide +kernel
theorem dX0_atom_1 : decode cX0_atom 1 = .ok (.invokestatic 52, 3) := by decide +kernel
theorem dX0_atom_4 : decode cX0_atom 4 = .ok (.aload_n 0, 1) := by decide +kernel
theorem dX0_atom_5 : decode cX0_atom 5 = .ok (.invokevirtual 56, 3) := by decide +kernel
theorem dX0_atom_8 : decode cX0_atom 8 = .ok (.iload_n 1, 1) := by decide +kernel
theorem dX0_atom_9 : decode cX0_atom 9 = .ok (.invokestatic 59, 3) := by decide +kernel
theorem dX0_atom_12 : decode cX0_atom 12 = .ok (.istore_n 2, 1) := by decide +kernel
theorem dX0_atom_13 : decode cX0_atom 13 = .ok (.aload_n 0, 1) := by decide +kernel
theorem dX0_atom_14 : decode cX0_atom 14 = .ok (.getfield 9, 3) := by decide +kernel
theorem dX0_atom_17 : decode cX0_atom 17 = .ok (.invokestatic 63, 3) := by decide +kernel
theorem dX0_atom_20 : decode cX0_atom 20 = .ok (.istore_n 3, 1) := by decide +kernel
theorem dX0_atom_21 : decode cX0_atom 21 = .ok (.iconst 0, 1) := by decide +kernel
theorem dX0_atom_22 : decode cX0_atom 22 = .ok (.istore 4, 2) := by decide +kernel
theorem dX0_atom_24 : decode cX0_atom 24 = .ok (.iload 4, 2) := by decide +kernel
theorem dX0_atom_26 : decode cX0_atom 26 = .ok (.bipush 64, 2) := by decide +kernel
theorem dX0_atom_28 : decode cX0_atom 28 = .ok (.if_icmp .ge 41, 3) := by decide +kernel
theorem dX0_atom_31 : decode cX0_atom 31 = .ok (.aload_n 0, 1) := by decide +kernel
theorem dX0_atom_32 : decode cX0_atom 32 = .ok (.getfield 21, 3) := by decide +kernel
theorem dX0_atom_35 : decode cX0_atom 35 = .ok (.iload_n 3, 1) := by decide +kernel
theorem dX0_atom_36 : decode cX0_atom 36 = .ok (.iload 4, 2) := by decide +kernel
theorem dX0_atom_38 : decode cX0_atom 38 = .ok (.iadd, 1) := by decide +kernel
theorem dX0_atom_39 : decode cX0_atom 39 = .ok (.iload_n 2, 1) := by decide +kernel
theorem dX0_atom_40 : decode cX0_atom 40 = .ok (.iload 4, 2) := by decide +kernel
theorem dX0_atom_42 : decode cX0_atom 42 = .ok (.invokestatic 66, 3) := by decide +kernel
theorem dX0_atom_45 : decode cX0_atom 45 = .ok (.lastore, 1) := by decide +kernel
theorem dX0_atom_46 : decode cX0_atom 46 = .ok (.aload_n 0, 1) := by decide +kernel
theorem dX0_atom_47 : decode cX0_atom 47 = .ok (.getfield 25, 3) := by decide +kernel
theorem dX0_atom_50 : decode cX0_atom 50 = .ok (.iload_n 3, 1) := by decide +kernel
theorem dX0_atom_51 : decode cX0_atom 51 = .ok (.iload 4, 2) := by decide +kernel
theorem dX0_atom_53 : decode cX0_atom 53 = .ok (.iadd, 1) := by decide +kernel
theorem dX0_atom_54 : decode cX0_atom 54 = .ok (.iload_n 2, 1) := by decide +kernel
theorem dX0_atom_55 : decode cX0_atom 55 = .ok (.iconst 1, 1) := by decide +kernel
theorem dX0_atom_56 : decode cX0_atom 56 = .ok (.iadd, 1) := by decide +kernel
theorem dX0_atom_57 : decode cX0_atom 57 = .ok (.iload 4, 2) := by decide +kernel
theorem dX0_atom_59 : decode cX0_atom 59 = .ok (.invokestatic 66, 3) := by decide +kernel
theorem dX0_atom_62 : decode cX0_atom 62 = .ok (.lastore, 1) := by decide +kernel
theorem dX0_atom_63 : decode cX0_atom 63 = .ok (.iinc 4 1, 3) := by decide +kernel
theorem dX0_atom_66 : decode cX0_atom 66 = .ok (.goto (-42), 3) := by decide +kernel
theorem dX0_atom_69 : decode cX0_atom 69 = .ok (.aload_n 0, 1) := by decide +kernel
theorem dX0_atom_70 : decode cX0_atom 70 = .ok (.iconst 0, 1) := by decide +kernel
theorem dX0_atom_71 : decode cX0_atom 71 = .ok (.iconst 1, 1) := by decide +kernel
theorem dX0_atom_72 : decode cX0_atom 72 = .ok (.invokevirtual 70, 3) := by decide +kernel
theorem dX0_atom_75 : decode cX0_atom 75 = .ok (.ireturn, 1) := by decide +kernel
set_option maxRecDepth 20000 in
theorem ggX0_constant_X0_requireValue : GoodIn wsX0_constant wsX0_requireValue := goodIn_ca (goodIn_r _ [8, 9, 10] (by decide +kernel) (by decide +kernel)) (goodIn_sub (fun _ h => List.mem_cons_of_mem _ (List.mem_append_left _ (List.mem_append_right _ h))) (by decide +kernel))
set_option maxRecDepth 20000 in
theorem gX0_constant_X0_requireValue : GoodIn wsX0_constant (va_wsS RX0 74 yX0_requireValue wsX0_requireValue) := goodIn_app (goodIn_of _ (by decide +kernel)) ggX0_constant_X0_requireValue
set_option maxRecDepth 20000 in
theorem ggX0_constant_X0_requireRoom : GoodIn wsX0_constant wsX0_requireRoom := goodIn_ca (goodIn_r _ [14, 15, 16, 1, 26, 27, 28, 29, 30, 31, 32, 33, 34, 35, 36, 37] (by decide +kernel) (by decide +kernel)) (goodIn_sub (fun _ h => List.mem_cons_of_mem _ (List.mem_append_right _ h)) (by decide +kernel))
set_option maxRecDepth 20000 in
theorem gX0_constant_X0_requireRoom : GoodIn wsX0_constant (wsV RX0 56 RX0 yX0_requireRoom wsX0_requireRoom) := goodIn_app (goodIn_of _ (by decide +kernel)) ggX0_constant_X0_requireRoom
set_option maxRecDepth 20000 in
theorem ggX0_constant_X0_rowOf : GoodIn wsX0_constant wsX0_rowOf := goodIn_r _ [19] (by decide +kernel) (by decide +kernel)
set_option maxRecDepth 20000 in
theorem gX0_constant_X0_rowOf : GoodIn wsX0_constant (va_wsS RX0 63 yX0_rowOf wsX0_rowOf) := goodIn_app (goodIn_of _ (by decide +kernel)) ggX0_constant_X0_rowOf
set_option maxRecDepth 20000 in
theorem ggX0_constant_X0_addFormula : GoodIn wsX0_constant wsX0_addFormula := goodIn_r _ [23, 1, 24, 25, 26, 27, 28, 29, 30, 31, 32, 33, 34, 35, 36, 37] (by decide +kernel) (by decide +kernel)
set_option maxRecDepth 20000 in
theorem gX0_constant_X0_addFormula : GoodIn wsX0_constant (wsV RX0 70 RX0 yX0_addFormula wsX0_addFormula) := goodIn_app (goodIn_of _ (by decide +kernel)) ggX0_constant_X0_addFormula
theorem dX0_constant_0 : decode cX0_constant 0 = .ok (.iload_n 1, 1) := by decide +kernel
theorem dX0_constant_1 : decode cX0_constant 1 = .ok (.invokestatic 74, 3) := by decide +kernel
theorem dX0_constant_4 : decode cX0_constant 4 = .ok (.aload_n 0, 1) := by decide +kernel
theorem dX0_constant_5 : decode cX0_constant 5 = .ok (.invokevirtual 56, 3) := by decide +kernel
theorem dX0_constant_8 : decode cX0_constant 8 = .ok (.aload_n 0, 1) := by decide +kernel
theorem dX0_constant_9 : decode cX0_constant 9 = .ok (.getfield 9, 3) := by decide +kernel
theorem dX0_constant_12 : decode cX0_constant 12 = .ok (.invokestatic 63, 3) := by decide +kernel
theorem dX0_constant_15 : decode cX0_constant 15 = .ok (.istore_n 2, 1) := by decide +kernel
theorem dX0_constant_16 : decode cX0_constant 16 = .ok (.iconst 0, 1) := by decide +kernel
theorem dX0_constant_17 : decode cX0_constant 17 = .ok (.istore_n 3, 1) := by decide +kernel
theorem dX0_constant_18 : decode cX0_constant 18 = .ok (.iload_n 3, 1) := by decide +kernel
theorem dX0_constant_19 : decode cX0_constant 19 = .ok (.bipush 64, 2) := by decide +kernel
theorem dX0_constant_21 : decode cX0_constant 21 = .ok (.if_icmp .ge 51, 3) := by decide +kernel
theorem dX0_constant_24 : decode cX0_constant 24 = .ok (.aload_n 0, 1) := by decide +kernel
theorem dX0_constant_25 : decode cX0_constant 25 = .ok (.getfield 21, 3) := by decide +kernel
theorem dX0_constant_28 : decode cX0_constant 28 = .ok (.iload_n 2, 1) := by decide +kernel
theorem dX0_constant_29 : decode cX0_constant 29 = .ok (.iload_n 3, 1) := by decide +kernel
theorem dX0_constant_30 : decode cX0_constant 30 = .ok (.iadd, 1) := by decide +kernel
theorem dX0_constant_31 : decode cX0_constant 31 = .ok (.iload_n 1, 1) := by decide +kernel
theorem dX0_constant_32 : decode cX0_constant 32 = .ok (.iconst 1, 1) := by decide +kernel
theorem dX0_constant_33 : decode cX0_constant 33 = .ok (.iand, 1) := by decide +kernel
theorem dX0_constant_34 : decode cX0_constant 34 = .ok (.ifCond .eq 9, 3) := by decide +kernel
theorem dX0_constant_37 : decode cX0_constant 37 = .ok (.ldc2_w 46, 3) := by decide +kernel
theorem dX0_constant_40 : decode cX0_constant 40 = .ok (.goto 4, 3) := by decide +kernel
theorem dX0_constant_43 : decode cX0_constant 43 = .ok (.lconst 0, 1) := by decide +kernel
theorem dX0_constant_44 : decode cX0_constant 44 = .ok (.lastore, 1) := by decide +kernel
theorem dX0_constant_45 : decode cX0_constant 45 = .ok (.aload_n 0, 1) := by decide +kernel
theorem dX0_constant_46 : decode cX0_constant 46 = .ok (.getfield 25, 3) := by decide +kernel
theorem dX0_constant_49 : decode cX0_constant 49 = .ok (.iload_n 2, 1) := by decide +kernel
theorem dX0_constant_50 : decode cX0_constant 50 = .ok (.iload_n 3, 1) := by decide +kernel
theorem dX0_constant_51 : decode cX0_constant 51 = .ok (.iadd, 1) := by decide +kernel
theorem dX0_constant_52 : decode cX0_constant 52 = .ok (.iload_n 1, 1) := by decide +kernel
theorem dX0_constant_53 : decode cX0_constant 53 = .ok (.iconst 2, 1) := by decide +kernel
theorem dX0_constant_54 : decode cX0_constant 54 = .ok (.iand, 1) := by decide +kernel
theorem dX0_constant_55 : decode cX0_constant 55 = .ok (.ifCond .eq 9, 3) := by decide +kernel
theorem dX0_constant_58 : decode cX0_constant 58 = .ok (.ldc2_w 46, 3) := by decide +kernel
theorem dX0_constant_61 : decode cX0_constant 61 = .ok (.goto 4, 3) := by decide +kernel
theorem dX0_constant_64 : decode cX0_constant 64 = .ok (.lconst 0, 1) := by decide +kernel
theorem dX0_constant_65 : decode cX0_constant 65 = .ok (.lastore, 1) := by decide +kernel
theorem dX0_constant_66 : decode cX0_constant 66 = .ok (.iinc 3 1, 3) := by decide +kernel
theorem dX0_constant_69 : decode cX0_constant 69 = .ok (.goto (-51), 3) := by decide +kernel
theorem dX0_constant_72 : decode cX0_constant 72 = .ok (.aload_n 0, 1) := by decide +kernel
theorem dX0_constant_73 : decode cX0_constant 73 = .ok (.iconst 1, 1) := by decide +kernel
theorem dX0_constant_74 : decode cX0_constant 74 = .ok (.iconst 1, 1) := by decide +kernel
theorem dX0_constant_75 : decode cX0_constant 75 = .ok (.invokevirtual 70, 3) := by decide +kernel
theorem dX0_constant_78 : decode cX0_constant 78 = .ok (.ireturn, 1) := by decide +kernel
set_option maxRecDepth 20000 in
theorem ggX0_turn_X0_requireFormula : GoodIn wsX0_turn wsX0_requireFormula := goodIn_ca (goodIn_r _ [12, 13, 14, 3, 29, 30, 31, 32, 33, 34, 35, 36, 37, 38, 39, 40] (by decide +kernel) (by decide +kernel)) (goodIn_sub (fun _ h => List.mem_cons_of_mem _ (List.mem_append_left _ (List.mem_append_right _ h))) (by decide +kernel))
set_option maxRecDepth 20000 in
theorem gX0_turn_X0_requireFormula : GoodIn wsX0_turn (wsV RX0 77 RX0 yX0_requireFormula wsX0_requireFormula) := goodIn_app (goodIn_of _ (by decide +kernel)) ggX0_turn_X0_requireFormula
set_option maxRecDepth 20000 in
theorem ggX0_turn_X0_requireRoom : GoodIn wsX0_turn wsX0_requireRoom := goodIn_ca (goodIn_r _ [18, 19, 20, 3, 29, 30, 31, 32, 33, 34, 35, 36, 37, 38, 39, 40] (by decide +kernel) (by decide +kernel)) (goodIn_sub (fun _ h => List.mem_cons_of_mem _ (List.mem_append_right _ h)) (by decide +kernel))
set_option maxRecDepth 20000 in
theorem gX0_turn_X0_requireRoom : GoodIn wsX0_turn (wsV RX0 56 RX0 yX0_requireRoom wsX0_requireRoom) := goodIn_app (goodIn_of _ (by decide +kernel)) ggX0_turn_X0_requireRoom
set_option maxRecDepth 20000 in
theorem ggX0_turn_X0_rowOf : GoodIn wsX0_turn wsX0_rowOf := goodIn_r _ [23] (by decide +kernel) (by decide +kernel)
set_option maxRecDepth 20000 in
theorem gX0_turn_X0_rowOf : GoodIn wsX0_turn (va_wsS RX0 63 yX0_rowOf wsX0_rowOf) := goodIn_app (goodIn_of _ (by decide +kernel)) ggX0_turn_X0_rowOf
set_option maxRecDepth 20000 in
theorem ggX0_turn_X0_addFormula : GoodIn wsX0_turn wsX0_addFormula := goodIn_r _ [27, 3, 28, 7, 29, 30, 31, 32, 33, 34, 35, 36, 37, 38, 39, 40] (by decide +kernel) (by decide +kernel)
set_option maxRecDepth 20000 in
theorem gX0_turn_X0_addFormula : GoodIn wsX0_turn (wsV RX0 70 RX0 yX0_addFormula wsX0_addFormula) := goodIn_app (goodIn_of _ (by decide +kernel)) ggX0_turn_X0_addFormula
theorem dX0_turn_0 : decode cX0_turn 0 = .ok (.aload_n 0, 1) := by decide +kernel
theorem dX0_turn_1 : decode cX0_turn 1 = .ok (.iload_n 2, 1) := by decide +kernel
theorem dX0_turn_2 : decode cX0_turn 2 = .ok (.invokevirtual 77, 3) := by decide +kernel
theorem dX0_turn_5 : decode cX0_turn 5 = .ok (.iload_n 1, 1) := by decide +kernel
theorem dX0_turn_6 : decode cX0_turn 6 = .ok (.iconst 2, 1) := by decide +kernel
theorem dX0_turn_7 : decode cX0_turn 7 = .ok (.if_icmp .eq 19, 3) := by decide +kernel
theorem dX0_turn_10 : decode cX0_turn 10 = .ok (.iload_n 1, 1) := by decide +kernel
theorem dX0_turn_11 : decode cX0_turn 11 = .ok (.bipush 8, 2) := by decide +kernel
theorem dX0_turn_13 : decode cX0_turn 13 = .ok (.if_icmp .eq 13, 3) := by decide +kernel
theorem dX0_turn_16 : decode cX0_turn 16 = .ok (.new 80, 3) := by decide +kernel
theorem dX0_turn_19 : decode cX0_turn 19 = .ok (.dup, 1) := by decide +kernel
theorem dX0_turn_20 : decode cX0_turn 20 = .ok (.ldc 82, 2) := by decide +kernel
theorem dX0_turn_22 : decode cX0_turn 22 = .ok (.invokespecial 84, 3) := by decide +kernel
theorem dX0_turn_25 : decode cX0_turn 25 = .ok (.athrow, 1) := by decide +kernel
theorem dX0_turn_26 : decode cX0_turn 26 = .ok (.aload_n 0, 1) := by decide +kernel
theorem dX0_turn_27 : decode cX0_turn 27 = .ok (.invokevirtual 56, 3) := by decide +kernel
theorem dX0_turn_30 : decode cX0_turn 30 = .ok (.aload_n 0, 1) := by decide +kernel
theorem dX0_turn_31 : decode cX0_turn 31 = .ok (.getfield 9, 3) := by decide +kernel
theorem dX0_turn_34 : decode cX0_turn 34 = .ok (.invokestatic 63, 3) := by decide +kernel
theorem dX0_turn_37 : decode cX0_turn 37 = .ok (.istore_n 3, 1) := by decide +kernel
theorem dX0_turn_38 : decode cX0_turn 38 = .ok (.iload_n 2, 1) := by decide +kernel
theorem dX0_turn_39 : decode cX0_turn 39 = .ok (.invokestatic 63, 3) := by decide +kernel
theorem dX0_turn_42 : decode cX0_turn 42 = .ok (.istore 4, 2) := by decide +kernel
theorem dX0_turn_44 : decode cX0_turn 44 = .ok (.iconst 0, 1) := by decide +kernel
theorem dX0_turn_45 : decode cX0_turn 45 = .ok (.istore 5, 2) := by decide +kernel
theorem dX0_turn_47 : decode cX0_turn 47 = .ok (.iload 5, 2) := by decide +kernel
theorem dX0_turn_49 : decode cX0_turn 49 = .ok (.bipush 64, 2) := by decide +kernel
theorem dX0_turn_51 : decode cX0_turn 51 = .ok (.if_icmp .ge 83, 3) := by decide +kernel
theorem dX0_turn_54 : decode cX0_turn 54 = .ok (.aload_n 0, 1) := by decide +kernel
theorem dX0_turn_55 : decode cX0_turn 55 = .ok (.getfield 21, 3) := by decide +kernel
theorem dX0_turn_58 : decode cX0_turn 58 = .ok (.iload 4, 2) := by decide +kernel
theorem dX0_turn_60 : decode cX0_turn 60 = .ok (.iload 5, 2) := by decide +kernel
theorem dX0_turn_62 : decode cX0_turn 62 = .ok (.iadd, 1) := by decide +kernel
theorem dX0_turn_63 : decode cX0_turn 63 = .ok (.laload, 1) := by decide +kernel
theorem dX0_turn_64 : decode cX0_turn 64 = .ok (.lstore 6, 2) := by decide +kernel
theorem dX0_turn_66 : decode cX0_turn 66 = .ok (.aload_n 0, 1) := by decide +kernel
theorem dX0_turn_67 : decode cX0_turn 67 = .ok (.getfield 25, 3) := by decide +kernel
theorem dX0_turn_70 : decode cX0_turn 70 = .ok (.iload 4, 2) := by decide +kernel
theorem dX0_turn_72 : decode cX0_turn 72 = .ok (.iload 5, 2) := by decide +kernel
theorem dX0_turn_74 : decode cX0_turn 74 = .ok (.iadd, 1) := by decide +kernel
theorem dX0_turn_75 : decode cX0_turn 75 = .ok (.laload, 1) := by decide +kernel
theorem dX0_turn_76 : decode cX0_turn 76 = .ok (.lstore 8, 2) := by decide +kernel
theorem dX0_turn_78 : decode cX0_turn 78 = .ok (.aload_n 0, 1) := by decide +kernel
theorem dX0_turn_79 : decode cX0_turn 79 = .ok (.getfield 21, 3) := by decide +kernel
theorem dX0_turn_82 : decode cX0_turn 82 = .ok (.iload_n 3, 1) := by decide +kernel
theorem dX0_turn_83 : decode cX0_turn 83 = .ok (.iload 5, 2) := by decide +kernel
theorem dX0_turn_85 : decode cX0_turn 85 = .ok (.iadd, 1) := by decide +kernel
theorem dX0_turn_86 : decode cX0_turn 86 = .ok (.iload_n 1, 1) := by decide +kernel
theorem dX0_turn_87 : decode cX0_turn 87 = .ok (.iconst 2, 1) := by decide +kernel
theorem dX0_turn_88 : decode cX0_turn 88 = .ok (.if_icmp .ne 8, 3) := by decide +kernel
theorem dX0_turn_91 : decode cX0_turn 91 = .ok (.lload 8, 2) := by decide +kernel
theorem dX0_turn_93 : decode cX0_turn 93 = .ok (.goto 9, 3) := by decide +kernel
theorem dX0_turn_96 : decode cX0_turn 96 = .ok (.lload 8, 2) := by decide +kernel
theorem dX0_turn_98 : decode cX0_turn 98 = .ok (.ldc2_w 46, 3) := by decide +kernel
theorem dX0_turn_101 : decode cX0_turn 101 = .ok (.lxor, 1) := by decide +kernel
theorem dX0_turn_102 : decode cX0_turn 102 = .ok (.lastore, 1) := by decide +kernel
theorem dX0_turn_103 : decode cX0_turn 103 = .ok (.aload_n 0, 1) := by decide +kernel
theorem dX0_turn_104 : decode cX0_turn 104 = .ok (.getfield 25, 3) := by decide +kernel
theorem dX0_turn_107 : decode cX0_turn 107 = .ok (.iload_n 3, 1) := by decide +kernel
theorem dX0_turn_108 : decode cX0_turn 108 = .ok (.iload 5, 2) := by decide +kernel
theorem dX0_turn_110 : decode cX0_turn 110 = .ok (.iadd, 1) := by decide +kernel
theorem dX0_turn_111 : decode cX0_turn 111 = .ok (.iload_n 1, 1) := by decide +kernel
theorem dX0_turn_112 : decode cX0_turn 112 = .ok (.iconst 2, 1) := by decide +kernel
theorem dX0_turn_113 : decode cX0_turn 113 = .ok (.if_icmp .ne 8, 3) := by decide +kernel
theorem dX0_turn_116 : decode cX0_turn 116 = .ok (.lload 6, 2) := by decide +kernel
theorem dX0_turn_118 : decode cX0_turn 118 = .ok (.goto 9, 3) := by decide +kernel
theorem dX0_turn_121 : decode cX0_turn 121 = .ok (.lload 6, 2) := by decide +kernel
theorem dX0_turn_123 : decode cX0_turn 123 = .ok (.ldc2_w 46, 3) := by decide +kernel
theorem dX0_turn_126 : decode cX0_turn 126 = .ok (.lxor, 1) := by decide +kernel
theorem dX0_turn_127 : decode cX0_turn 127 = .ok (.lastore, 1) := by decide +kernel
theorem dX0_turn_128 : decode cX0_turn 128 = .ok (.iinc 5 1, 3) := by decide +kernel
theorem dX0_turn_131 : decode cX0_turn 131 = .ok (.goto (-84), 3) := by decide +kernel
theorem dX0_turn_134 : decode cX0_turn 134 = .ok (.aload_n 0, 1) := by decide +kernel
theorem dX0_turn_135 : decode cX0_turn 135 = .ok (.iload_n 1, 1) := by decide +kernel
theorem dX0_turn_136 : decode cX0_turn 136 = .ok (.iload_n 1, 1) := by decide +kernel
theorem dX0_turn_137 : decode cX0_turn 137 = .ok (.iconst 2, 1) := by decide +kernel
theorem dX0_turn_138 : decode cX0_turn 138 = .ok (.if_icmp .ne 16, 3) := by decide +kernel
theorem dX0_turn_141 : decode cX0_turn 141 = .ok (.aload_n 0, 1) := by decide +kernel
theorem dX0_turn_142 : decode cX0_turn 142 = .ok (.getfield 17, 3) := by decide +kernel
theorem dX0_turn_145 : decode cX0_turn 145 = .ok (.iload_n 2, 1) := by decide +kernel
theorem dX0_turn_146 : decode cX0_turn 146 = .ok (.baload, 1) := by decide +kernel
theorem dX0_turn_147 : decode cX0_turn 147 = .ok (.ifCond .eq 7, 3) := by decide +kernel
theorem dX0_turn_150 : decode cX0_turn 150 = .ok (.iconst 1, 1) := by decide +kernel
theorem dX0_turn_151 : decode cX0_turn 151 = .ok (.goto 4, 3) := by decide +kernel
theorem dX0_turn_154 : decode cX0_turn 154 = .ok (.iconst 0, 1) := by decide +kernel
theorem dX0_turn_155 : decode cX0_turn 155 = .ok (.invokevirtual 70, 3) := by decide +kernel
theorem dX0_turn_158 : decode cX0_turn 158 = .ok (.ireturn, 1) := by decide +kernel
set_option maxRecDepth 20000 in
theorem ggX0_join_X0_requireFormula : GoodIn wsX0_join wsX0_requireFormula := goodIn_ca (goodIn_r _ [11, 12, 13, 3, 35, 36, 37, 38, 39, 40, 41, 42, 43, 44, 45, 46] (by decide +kernel) (by decide +kernel)) (goodIn_sub (fun _ h => List.mem_cons_of_mem _ (List.mem_append_left _ (List.mem_append_right _ h))) (by decide +kernel))
set_option maxRecDepth 20000 in
theorem gX0_join_X0_requireFormula : GoodIn wsX0_join (wsV RX0 77 RX0 yX0_requireFormula wsX0_requireFormula) := goodIn_app (goodIn_of _ (by decide +kernel)) ggX0_join_X0_requireFormula
set_option maxRecDepth 20000 in
theorem ggX0_join_X0_requireRoom : GoodIn wsX0_join wsX0_requireRoom := goodIn_ca (goodIn_r _ [17, 18, 19, 3, 35, 36, 37, 38, 39, 40, 41, 42, 43, 44, 45, 46] (by decide +kernel) (by decide +kernel)) (goodIn_sub (fun _ h => List.mem_cons_of_mem _ (List.mem_append_right _ h)) (by decide +kernel))
set_option maxRecDepth 20000 in
theorem gX0_join_X0_requireRoom : GoodIn wsX0_join (wsV RX0 56 RX0 yX0_requireRoom wsX0_requireRoom) := goodIn_app (goodIn_of _ (by decide +kernel)) ggX0_join_X0_requireRoom
set_option maxRecDepth 20000 in
theorem ggX0_join_X0_rowOf : GoodIn wsX0_join wsX0_rowOf := goodIn_r _ [22] (by decide +kernel) (by decide +kernel)
set_option maxRecDepth 20000 in
theorem gX0_join_X0_rowOf : GoodIn wsX0_join (va_wsS RX0 63 yX0_rowOf wsX0_rowOf) := goodIn_app (goodIn_of _ (by decide +kernel)) ggX0_join_X0_rowOf
set_option maxRecDepth 20000 in
theorem ggX0_join_X0_joinTrue : GoodIn wsX0_join wsX0_joinTrue := goodIn_r _ [25, 26] (by decide +kernel) (by decide +kernel)
set_option maxRecDepth 20000 in
theorem gX0_join_X0_joinTrue : GoodIn wsX0_join (va_wsS RX0 89 yX0_joinTrue wsX0_joinTrue) := goodIn_app (goodIn_of _ (by decide +kernel)) ggX0_join_X0_joinTrue
set_option maxRecDepth 20000 in
theorem ggX0_join_X0_joinFalse : GoodIn wsX0_join wsX0_joinFalse := goodIn_r _ [29] (by decide +kernel) (by decide +kernel)
set_option maxRecDepth 20000 in
theorem gX0_join_X0_joinFalse : GoodIn wsX0_join (va_wsS RX0 93 yX0_joinFalse wsX0_joinFalse) := goodIn_app (goodIn_of _ (by decide +kernel)) ggX0_join_X0_joinFalse
set_option maxRecDepth 20000 in
theorem ggX0_join_X0_addFormula : GoodIn wsX0_join wsX0_addFormula := goodIn_r _ [33, 3, 34, 6, 35, 36, 37, 38, 39, 40, 41, 42, 43, 44, 45, 46] (by decide +kernel) (by decide +kernel)
set_option maxRecDepth 20000 in
theorem gX0_join_X0_addFormula : GoodIn wsX0_join (wsV RX0 70 RX0 yX0_addFormula wsX0_addFormula) := goodIn_app (goodIn_of _ (by decide +kernel)) ggX0_join_X0_addFormula
theorem dX0_join_0 : decode cX0_join 0 = .ok (.aload_n 0, 1) := by decide +kernel
theorem dX0_join_1 : decode cX0_join 1 = .ok (.iload_n 2, 1) := by decide +kernel
theorem dX0_join_2 : decode cX0_join 2 = .ok (.invokevirtual 77, 3) := by decide +kernel
theorem dX0_join_5 : decode cX0_join 5 = .ok (.aload_n 0, 1) := by decide +kernel
theorem dX0_join_6 : decode cX0_join 6 = .ok (.iload_n 3, 1) := by decide +kernel
theorem dX0_join_7 : decode cX0_join 7 = .ok (.invokevirtual 77, 3) := by decide +kernel
theorem dX0_join_10 : decode cX0_join 10 = .ok (.iload_n 1, 1) := by decide +kernel
theorem dX0_join_11 : decode cX0_join 11 = .ok (.iconst 3, 1) := by decide +kernel
theorem dX0_join_12 : decode cX0_join 12 = .ok (.if_icmp .lt 9, 3) := by decide +kernel
theorem dX0_join_15 : decode cX0_join 15 = .ok (.iload_n 1, 1) := by decide +kernel
theorem dX0_join_16 : decode cX0_join 16 = .ok (.bipush 7, 2) := by decide +kernel
theorem dX0_join_18 : decode cX0_join 18 = .ok (.if_icmp .le 13, 3) := by decide +kernel
theorem dX0_join_21 : decode cX0_join 21 = .ok (.new 80, 3) := by decide +kernel
theorem dX0_join_24 : decode cX0_join 24 = .ok (.dup, 1) := by decide +kernel
theorem dX0_join_25 : decode cX0_join 25 = .ok (.ldc 87, 2) := by decide +kernel
theorem dX0_join_27 : decode cX0_join 27 = .ok (.invokespecial 84, 3) := by decide +kernel
theorem dX0_join_30 : decode cX0_join 30 = .ok (.athrow, 1) := by decide +kernel
theorem dX0_join_31 : decode cX0_join 31 = .ok (.aload_n 0, 1) := by decide +kernel
theorem dX0_join_32 : decode cX0_join 32 = .ok (.invokevirtual 56, 3) := by decide +kernel
theorem dX0_join_35 : decode cX0_join 35 = .ok (.aload_n 0, 1) := by decide +kernel
theorem dX0_join_36 : decode cX0_join 36 = .ok (.getfield 9, 3) := by decide +kernel
theorem dX0_join_39 : decode cX0_join 39 = .ok (.invokestatic 63, 3) := by decide +kernel
theorem dX0_join_42 : decode cX0_join 42 = .ok (.istore 4, 2) := by decide +kernel
theorem dX0_join_44 : decode cX0_join 44 = .ok (.iload_n 2, 1) := by decide +kernel
theorem dX0_join_45 : decode cX0_join 45 = .ok (.invokestatic 63, 3) := by decide +kernel
theorem dX0_join_48 : decode cX0_join 48 = .ok (.istore 5, 2) := by decide +kernel
theorem dX0_join_50 : decode cX0_join 50 = .ok (.iload_n 3, 1) := by decide +kernel
theorem dX0_join_51 : decode cX0_join 51 = .ok (.invokestatic 63, 3) := by decide +kernel
theorem dX0_join_54 : decode cX0_join 54 = .ok (.istore 6, 2) := by decide +kernel
theorem dX0_join_56 : decode cX0_join 56 = .ok (.iconst 0, 1) := by decide +kernel
theorem dX0_join_57 : decode cX0_join 57 = .ok (.istore 7, 2) := by decide +kernel
theorem dX0_join_59 : decode cX0_join 59 = .ok (.iload 7, 2) := by decide +kernel
theorem dX0_join_61 : decode cX0_join 61 = .ok (.bipush 64, 2) := by decide +kernel
theorem dX0_join_63 : decode cX0_join 63 = .ok (.if_icmp .ge 83, 3) := by decide +kernel
theorem dX0_join_66 : decode cX0_join 66 = .ok (.aload_n 0, 1) := by decide +kernel
theorem dX0_join_67 : decode cX0_join 67 = .ok (.getfield 21, 3) := by decide +kernel
theorem dX0_join_70 : decode cX0_join 70 = .ok (.iload 5, 2) := by decide +kernel
theorem dX0_join_72 : decode cX0_join 72 = .ok (.iload 7, 2) := by decide +kernel
theorem dX0_join_74 : decode cX0_join 74 = .ok (.iadd, 1) := by decide +kernel
theorem dX0_join_75 : decode cX0_join 75 = .ok (.laload, 1) := by decide +kernel
theorem dX0_join_76 : decode cX0_join 76 = .ok (.lstore 8, 2) := by decide +kernel
theorem dX0_join_78 : decode cX0_join 78 = .ok (.aload_n 0, 1) := by decide +kernel
theorem dX0_join_79 : decode cX0_join 79 = .ok (.getfield 21, 3) := by decide +kernel
theorem dX0_join_82 : decode cX0_join 82 = .ok (.iload 4, 2) := by decide +kernel
theorem dX0_join_84 : decode cX0_join 84 = .ok (.iload 7, 2) := by decide +kernel
theorem dX0_join_86 : decode cX0_join 86 = .ok (.iadd, 1) := by decide +kernel
theorem dX0_join_87 : decode cX0_join 87 = .ok (.iload_n 1, 1) := by decide +kernel
theorem dX0_join_88 : decode cX0_join 88 = .ok (.lload 8, 2) := by decide +kernel
theorem dX0_join_90 : decode cX0_join 90 = .ok (.aload_n 0, 1) := by decide +kernel
theorem dX0_join_91 : decode cX0_join 91 = .ok (.getfield 21, 3) := by decide +kernel
theorem dX0_join_94 : decode cX0_join 94 = .ok (.iload 6, 2) := by decide +kernel
theorem dX0_join_96 : decode cX0_join 96 = .ok (.iload 7, 2) := by decide +kernel
theorem dX0_join_98 : decode cX0_join 98 = .ok (.iadd, 1) := by decide +kernel
theorem dX0_join_99 : decode cX0_join 99 = .ok (.laload, 1) := by decide +kernel
theorem dX0_join_100 : decode cX0_join 100 = .ok (.invokestatic 89, 3) := by decide +kernel
theorem dX0_join_103 : decode cX0_join 103 = .ok (.lastore, 1) := by decide +kernel
theorem dX0_join_104 : decode cX0_join 104 = .ok (.aload_n 0, 1) := by decide +kernel
theorem dX0_join_105 : decode cX0_join 105 = .ok (.getfield 25, 3) := by decide +kernel
theorem dX0_join_108 : decode cX0_join 108 = .ok (.iload 4, 2) := by decide +kernel
theorem dX0_join_110 : decode cX0_join 110 = .ok (.iload 7, 2) := by decide +kernel
theorem dX0_join_112 : decode cX0_join 112 = .ok (.iadd, 1) := by decide +kernel
theorem dX0_join_113 : decode cX0_join 113 = .ok (.iload_n 1, 1) := by decide +kernel
theorem dX0_join_114 : decode cX0_join 114 = .ok (.lload 8, 2) := by decide +kernel
theorem dX0_join_116 : decode cX0_join 116 = .ok (.aload_n 0, 1) := by decide +kernel
theorem dX0_join_117 : decode cX0_join 117 = .ok (.getfield 25, 3) := by decide +kernel
theorem dX0_join_120 : decode cX0_join 120 = .ok (.iload 5, 2) := by decide +kernel
theorem dX0_join_122 : decode cX0_join 122 = .ok (.iload 7, 2) := by decide +kernel
theorem dX0_join_124 : decode cX0_join 124 = .ok (.iadd, 1) := by decide +kernel
theorem dX0_join_125 : decode cX0_join 125 = .ok (.laload, 1) := by decide +kernel
theorem dX0_join_126 : decode cX0_join 126 = .ok (.aload_n 0, 1) := by decide +kernel
theorem dX0_join_127 : decode cX0_join 127 = .ok (.getfield 25, 3) := by decide +kernel
theorem dX0_join_130 : decode cX0_join 130 = .ok (.iload 6, 2) := by decide +kernel
theorem dX0_join_132 : decode cX0_join 132 = .ok (.iload 7, 2) := by decide +kernel
theorem dX0_join_134 : decode cX0_join 134 = .ok (.iadd, 1) := by decide +kernel
theorem dX0_join_135 : decode cX0_join 135 = .ok (.laload, 1) := by decide +kernel
theorem dX0_join_136 : decode cX0_join 136 = .ok (.invokestatic 93, 3) := by decide +kernel
theorem dX0_join_139 : decode cX0_join 139 = .ok (.lastore, 1) := by decide +kernel
theorem dX0_join_140 : decode cX0_join 140 = .ok (.iinc 7 1, 3) := by decide +kernel
theorem dX0_join_143 : decode cX0_join 143 = .ok (.goto (-84), 3) := by decide +kernel
theorem dX0_join_146 : decode cX0_join 146 = .ok (.aload_n 0, 1) := by decide +kernel
theorem dX0_join_147 : decode cX0_join 147 = .ok (.iload_n 1, 1) := by decide +kernel
theorem dX0_join_148 : decode cX0_join 148 = .ok (.iload_n 1, 1) := by decide +kernel
theorem dX0_join_149 : decode cX0_join 149 = .ok (.bipush 7, 2) := by decide +kernel
theorem dX0_join_151 : decode cX0_join 151 = .ok (.if_icmp .eq 25, 3) := by decide +kernel
theorem dX0_join_154 : decode cX0_join 154 = .ok (.aload_n 0, 1) := by decide +kernel
theorem dX0_join_155 : decode cX0_join 155 = .ok (.getfield 17, 3) := by decide +kernel
theorem dX0_join_158 : decode cX0_join 158 = .ok (.iload_n 2, 1) := by decide +kernel
theorem dX0_join_159 : decode cX0_join 159 = .ok (.baload, 1) := by decide +kernel
theorem dX0_join_160 : decode cX0_join 160 = .ok (.ifCond .eq 16, 3) := by decide +kernel
theorem dX0_join_163 : decode cX0_join 163 = .ok (.aload_n 0, 1) := by decide +kernel
theorem dX0_join_164 : decode cX0_join 164 = .ok (.getfield 17, 3) := by decide +kernel
theorem dX0_join_167 : decode cX0_join 167 = .ok (.iload_n 3, 1) := by decide +kernel
theorem dX0_join_168 : decode cX0_join 168 = .ok (.baload, 1) := by decide +kernel
theorem dX0_join_169 : decode cX0_join 169 = .ok (.ifCond .eq 7, 3) := by decide +kernel
theorem dX0_join_172 : decode cX0_join 172 = .ok (.iconst 1, 1) := by decide +kernel
theorem dX0_join_173 : decode cX0_join 173 = .ok (.goto 4, 3) := by decide +kernel
theorem dX0_join_176 : decode cX0_join 176 = .ok (.iconst 0, 1) := by decide +kernel
theorem dX0_join_177 : decode cX0_join 177 = .ok (.invokevirtual 70, 3) := by decide +kernel
theorem dX0_join_180 : decode cX0_join 180 = .ok (.ireturn, 1) := by decide +kernel
theorem dX0_formulaCount_0 : decode cX0_formulaCount 0 = .ok (.aload_n 0, 1) := by decide +kernel
theorem dX0_formulaCount_1 : decode cX0_formulaCount 1 = .ok (.getfield 9, 3) := by decide +kernel
theorem dX0_formulaCount_4 : decode cX0_formulaCount 4 = .ok (.ireturn, 1) := by decide +kernel
set_option maxRecDepth 20000 in
theorem ggX0_isSteady_X0_requireFormula : GoodIn wsX0_isSteady wsX0_requireFormula := goodIn_ca (goodIn_r _ [6, 7, 8, 9, 10, 11, 12, 13, 14, 15, 16, 17, 18, 19, 20, 21] (by decide +kernel) (by decide +kernel)) (goodIn_sub (fun _ h => List.mem_cons_of_mem _ (List.mem_append_right _ h)) (by decide +kernel))
set_option maxRecDepth 20000 in
theorem gX0_isSteady_X0_requireFormula : GoodIn wsX0_isSteady (wsV RX0 77 RX0 yX0_requireFormula wsX0_requireFormula) := goodIn_app (goodIn_of _ (by decide +kernel)) ggX0_isSteady_X0_requireFormula
theorem dX0_isSteady_0 : decode cX0_isSteady 0 = .ok (.aload_n 0, 1) := by decide +kernel
theorem dX0_isSteady_1 : decode cX0_isSteady 1 = .ok (.iload_n 1, 1) := by decide +kernel
theorem dX0_isSteady_2 : decode cX0_isSteady 2 = .ok (.invokevirtual 77, 3) := by decide +kernel
theorem dX0_isSteady_5 : decode cX0_isSteady 5 = .ok (.aload_n 0, 1) := by decide +kernel
theorem dX0_isSteady_6 : decode cX0_isSteady 6 = .ok (.getfield 17, 3) := by decide +kernel
theorem dX0_isSteady_9 : decode cX0_isSteady 9 = .ok (.iload_n 1, 1) := by decide +kernel
theorem dX0_isSteady_10 : decode cX0_isSteady 10 = .ok (.baload, 1) := by decide +kernel
theorem dX0_isSteady_11 : decode cX0_isSteady 11 = .ok (.ireturn, 1) := by decide +kernel
set_option maxRecDepth 20000 in
theorem ggX0_report_X0_requireSource : GoodIn wsX0_report wsX0_requireSource := goodIn_ca (goodIn_r _ [5, 6, 7] (by decide +kernel) (by decide +kernel)) (goodIn_sub (fun _ h => List.mem_cons_of_mem _ (List.mem_append_left _ (List.mem_append_right _ h))) (by decide +kernel))
set_option maxRecDepth 20000 in
theorem gX0_report_X0_requireSource : GoodIn wsX0_report (va_wsS RX0 97 yX0_requireSource wsX0_requireSource) := goodIn_app (goodIn_of _ (by decide +kernel)) ggX0_report_X0_requireSource
set_option maxRecDepth 20000 in
theorem ggX0_report_X0_requireAtom : GoodIn wsX0_report wsX0_requireAtom := goodIn_ca (goodIn_r _ [10, 6, 7] (by decide +kernel) (by decide +kernel)) (goodIn_sub (fun _ h => List.mem_cons_of_mem _ (List.mem_append_left _ (List.mem_append_right _ h))) (by decide +kernel))
set_option maxRecDepth 20000 in
theorem gX0_report_X0_requireAtom : GoodIn wsX0_report (va_wsS RX0 52 yX0_requireAtom wsX0_requireAtom) := goodIn_app (goodIn_of _ (by decide +kernel)) ggX0_report_X0_requireAtom
set_option maxRecDepth 20000 in
theorem ggX0_report_X0_requireValue : GoodIn wsX0_report wsX0_requireValue := goodIn_ca (goodIn_r _ [13, 14, 15] (by decide +kernel) (by decide +kernel)) (goodIn_sub (fun _ h => List.mem_cons_of_mem _ (List.mem_append_right _ h)) (by decide +kernel))
set_option maxRecDepth 20000 in
theorem gX0_report_X0_requireValue : GoodIn wsX0_report (va_wsS RX0 74 yX0_requireValue wsX0_requireValue) := goodIn_app (goodIn_of _ (by decide +kernel)) ggX0_report_X0_requireValue
set_option maxRecDepth 20000 in
theorem ggX0_report_X0_valueIn : GoodIn wsX0_report wsX0_valueIn := goodIn_r _ [18, 19, 20, 4, 21] (by decide +kernel) (by decide +kernel)
set_option maxRecDepth 20000 in
theorem gX0_report_X0_valueIn : GoodIn wsX0_report (va_wsS RX0 100 yX0_valueIn wsX0_valueIn) := goodIn_app (goodIn_of _ (by decide +kernel)) ggX0_report_X0_valueIn
set_option maxRecDepth 20000 in
theorem ggX0_report_X0_placeOf : GoodIn wsX0_report wsX0_placeOf := goodIn_r _ [21] (by decide +kernel) (by decide +kernel)
set_option maxRecDepth 20000 in
theorem gX0_report_X0_placeOf : GoodIn wsX0_report (va_wsS RX0 59 yX0_placeOf wsX0_placeOf) := goodIn_app (goodIn_of _ (by decide +kernel)) ggX0_report_X0_placeOf
theorem dX0_report_0 : decode cX0_report 0 = .ok (.iload_n 1, 1) := by decide +kernel
theorem dX0_report_1 : decode cX0_report 1 = .ok (.invokestatic 97, 3) := by decide +kernel
theorem dX0_report_4 : decode cX0_report 4 = .ok (.iload_n 2, 1) := by decide +kernel
theorem dX0_report_5 : decode cX0_report 5 = .ok (.invokestatic 52, 3) := by decide +kernel
theorem dX0_report_8 : decode cX0_report 8 = .ok (.iload_n 3, 1) := by decide +kernel
theorem dX0_report_9 : decode cX0_report 9 = .ok (.invokestatic 74, 3) := by decide +kernel
theorem dX0_report_12 : decode cX0_report 12 = .ok (.aload_n 0, 1) := by decide +kernel
theorem dX0_report_13 : decode cX0_report 13 = .ok (.getfield 34, 3) := by decide +kernel
theorem dX0_report_16 : decode cX0_report 16 = .ok (.iload_n 1, 1) := by decide +kernel
theorem dX0_report_17 : decode cX0_report 17 = .ok (.iaload, 1) := by decide +kernel
theorem dX0_report_18 : decode cX0_report 18 = .ok (.iload_n 2, 1) := by decide +kernel
theorem dX0_report_19 : decode cX0_report 19 = .ok (.invokestatic 100, 3) := by decide +kernel
theorem dX0_report_22 : decode cX0_report 22 = .ok (.istore 4, 2) := by decide +kernel
theorem dX0_report_24 : decode cX0_report 24 = .ok (.aload_n 0, 1) := by decide +kernel
theorem dX0_report_25 : decode cX0_report 25 = .ok (.getfield 34, 3) := by decide +kernel
theorem dX0_report_28 : decode cX0_report 28 = .ok (.iload_n 1, 1) := by decide +kernel
theorem dX0_report_29 : decode cX0_report 29 = .ok (.iaload, 1) := by decide +kernel
theorem dX0_report_30 : decode cX0_report 30 = .ok (.iconst 3, 1) := by decide +kernel
theorem dX0_report_31 : decode cX0_report 31 = .ok (.iload_n 2, 1) := by decide +kernel
theorem dX0_report_32 : decode cX0_report 32 = .ok (.invokestatic 59, 3) := by decide +kernel
theorem dX0_report_35 : decode cX0_report 35 = .ok (.ishl, 1) := by decide +kernel
theorem dX0_report_36 : decode cX0_report 36 = .ok (.iconst (-1), 1) := by decide +kernel
theorem dX0_report_37 : decode cX0_report 37 = .ok (.ixor, 1) := by decide +kernel
theorem dX0_report_38 : decode cX0_report 38 = .ok (.iand, 1) := by decide +kernel
theorem dX0_report_39 : decode cX0_report 39 = .ok (.istore 5, 2) := by decide +kernel
theorem dX0_report_41 : decode cX0_report 41 = .ok (.aload_n 0, 1) := by decide +kernel
theorem dX0_report_42 : decode cX0_report 42 = .ok (.getfield 34, 3) := by decide +kernel
theorem dX0_report_45 : decode cX0_report 45 = .ok (.iload_n 1, 1) := by decide +kernel
theorem dX0_report_46 : decode cX0_report 46 = .ok (.iload 5, 2) := by decide +kernel
theorem dX0_report_48 : decode cX0_report 48 = .ok (.iload_n 3, 1) := by decide +kernel
theorem dX0_report_49 : decode cX0_report 49 = .ok (.iload_n 2, 1) := by decide +kernel
theorem dX0_report_50 : decode cX0_report 50 = .ok (.invokestatic 59, 3) := by decide +kernel
theorem dX0_report_53 : decode cX0_report 53 = .ok (.ishl, 1) := by decide +kernel
theorem dX0_report_54 : decode cX0_report 54 = .ok (.ior, 1) := by decide +kernel
theorem dX0_report_55 : decode cX0_report 55 = .ok (.iastore, 1) := by decide +kernel
theorem dX0_report_56 : decode cX0_report 56 = .ok (.iload 4, 2) := by decide +kernel
theorem dX0_report_58 : decode cX0_report 58 = .ok (.ireturn, 1) := by decide +kernel
set_option maxRecDepth 20000 in
theorem ggX0_setTrust_X0_requireSource : GoodIn wsX0_setTrust wsX0_requireSource := goodIn_ca (goodIn_r _ [5, 6, 7] (by decide +kernel) (by decide +kernel)) (goodIn_sub (fun _ h => List.mem_cons_of_mem _ (List.mem_append_left _ (List.mem_append_right _ h))) (by decide +kernel))
set_option maxRecDepth 20000 in
theorem gX0_setTrust_X0_requireSource : GoodIn wsX0_setTrust (va_wsS RX0 97 yX0_requireSource wsX0_requireSource) := goodIn_app (goodIn_of _ (by decide +kernel)) ggX0_setTrust_X0_requireSource
set_option maxRecDepth 20000 in
theorem ggX0_setTrust_X0_requireTrust : GoodIn wsX0_setTrust wsX0_requireTrust := goodIn_ca (goodIn_r _ [10, 11, 12] (by decide +kernel) (by decide +kernel)) (goodIn_sub (fun _ h => List.mem_cons_of_mem _ (List.mem_append_right _ h)) (by decide +kernel))
set_option maxRecDepth 20000 in
theorem gX0_setTrust_X0_requireTrust : GoodIn wsX0_setTrust (va_wsS RX0 104 yX0_requireTrust wsX0_requireTrust) := goodIn_app (goodIn_of _ (by decide +kernel)) ggX0_setTrust_X0_requireTrust
theorem dX0_setTrust_0 : decode cX0_setTrust 0 = .ok (.iload_n 1, 1) := by decide +kernel
theorem dX0_setTrust_1 : decode cX0_setTrust 1 = .ok (.invokestatic 97, 3) := by decide +kernel
theorem dX0_setTrust_4 : decode cX0_setTrust 4 = .ok (.iload_n 2, 1) := by decide +kernel
theorem dX0_setTrust_5 : decode cX0_setTrust 5 = .ok (.invokestatic 104, 3) := by decide +kernel
theorem dX0_setTrust_8 : decode cX0_setTrust 8 = .ok (.aload_n 0, 1) := by decide +kernel
theorem dX0_setTrust_9 : decode cX0_setTrust 9 = .ok (.getfield 28, 3) := by decide +kernel
theorem dX0_setTrust_12 : decode cX0_setTrust 12 = .ok (.iload_n 1, 1) := by decide +kernel
theorem dX0_setTrust_13 : decode cX0_setTrust 13 = .ok (.iaload, 1) := by decide +kernel
theorem dX0_setTrust_14 : decode cX0_setTrust 14 = .ok (.istore_n 3, 1) := by decide +kernel
theorem dX0_setTrust_15 : decode cX0_setTrust 15 = .ok (.aload_n 0, 1) := by decide +kernel
theorem dX0_setTrust_16 : decode cX0_setTrust 16 = .ok (.getfield 28, 3) := by decide +kernel
theorem dX0_setTrust_19 : decode cX0_setTrust 19 = .ok (.iload_n 1, 1) := by decide +kernel
theorem dX0_setTrust_20 : decode cX0_setTrust 20 = .ok (.iload_n 2, 1) := by decide +kernel
theorem dX0_setTrust_21 : decode cX0_setTrust 21 = .ok (.iastore, 1) := by decide +kernel
theorem dX0_setTrust_22 : decode cX0_setTrust 22 = .ok (.iload_n 3, 1) := by decide +kernel
theorem dX0_setTrust_23 : decode cX0_setTrust 23 = .ok (.ireturn, 1) := by decide +kernel
set_option maxRecDepth 20000 in
theorem ggX0_setLeastTrust_X0_requireTrust : GoodIn wsX0_setLeastTrust wsX0_requireTrust := goodIn_ca (goodIn_r _ [5, 6, 7] (by decide +kernel) (by decide +kernel)) (goodIn_sub (fun _ h => List.mem_cons_of_mem _ (List.mem_append_right _ h)) (by decide +kernel))
set_option maxRecDepth 20000 in
theorem gX0_setLeastTrust_X0_requireTrust : GoodIn wsX0_setLeastTrust (va_wsS RX0 104 yX0_requireTrust wsX0_requireTrust) := goodIn_app (goodIn_of _ (by decide +kernel)) ggX0_setLeastTrust_X0_requireTrust
theorem dX0_setLeastTrust_0 : decode cX0_setLeastTrust 0 = .ok (.iload_n 1, 1) := by decide +kernel
theorem dX0_setLeastTrust_1 : decode cX0_setLeastTrust 1 = .ok (.invokestatic 104, 3) := by decide +kernel
theorem dX0_setLeastTrust_4 : decode cX0_setLeastTrust 4 = .ok (.aload_n 0, 1) := by decide +kernel
theorem dX0_setLeastTrust_5 : decode cX0_setLeastTrust 5 = .ok (.getfield 37, 3) := by decide +kernel
theorem dX0_setLeastTrust_8 : decode cX0_setLeastTrust 8 = .ok (.istore_n 2, 1) := by decide +kernel
theorem dX0_setLeastTrust_9 : decode cX0_setLeastTrust 9 = .ok (.aload_n 0, 1) := by decide +kernel
theorem dX0_setLeastTrust_10 : decode cX0_setLeastTrust 10 = .ok (.iload_n 1, 1) := by decide +kernel
theorem dX0_setLeastTrust_11 : decode cX0_setLeastTrust 11 = .ok (.putfield 37, 3) := by decide +kernel
theorem dX0_setLeastTrust_14 : decode cX0_setLeastTrust 14 = .ok (.iload_n 2, 1) := by decide +kernel
theorem dX0_setLeastTrust_15 : decode cX0_setLeastTrust 15 = .ok (.ireturn, 1) := by decide +kernel
set_option maxRecDepth 20000 in
theorem ggX0_let_X0_requireSource : GoodIn wsX0_let wsX0_requireSource := goodIn_ca (goodIn_r _ [5, 6, 7] (by decide +kernel) (by decide +kernel)) (goodIn_sub (fun _ h => List.mem_cons_of_mem _ (List.mem_append_right _ h)) (by decide +kernel))
set_option maxRecDepth 20000 in
theorem gX0_let_X0_requireSource : GoodIn wsX0_let (va_wsS RX0 97 yX0_requireSource wsX0_requireSource) := goodIn_app (goodIn_of _ (by decide +kernel)) ggX0_let_X0_requireSource
set_option maxRecDepth 20000 in
theorem ggX0_let_X0_isHeard : GoodIn wsX0_let wsX0_isHeard := goodIn_r _ [11, 1, 12, 13, 14, 15, 16, 17, 18, 19, 20, 21, 22, 23, 24, 25] (by decide +kernel) (by decide +kernel)
set_option maxRecDepth 20000 in
theorem gX0_let_X0_isHeard : GoodIn wsX0_let (wsV RX0 107 RX0 yX0_isHeard wsX0_isHeard) := goodIn_app (goodIn_of _ (by decide +kernel)) ggX0_let_X0_isHeard
theorem dX0_let_0 : decode cX0_let 0 = .ok (.iload_n 1, 1) := by decide +kernel
theorem dX0_let_1 : decode cX0_let 1 = .ok (.invokestatic 97, 3) := by decide +kernel
theorem dX0_let_4 : decode cX0_let 4 = .ok (.aload_n 0, 1) := by decide +kernel
theorem dX0_let_5 : decode cX0_let 5 = .ok (.getfield 31, 3) := by decide +kernel
theorem dX0_let_8 : decode cX0_let 8 = .ok (.iload_n 1, 1) := by decide +kernel
theorem dX0_let_9 : decode cX0_let 9 = .ok (.iload_n 2, 1) := by decide +kernel
theorem dX0_let_10 : decode cX0_let 10 = .ok (.bastore, 1) := by decide +kernel
theorem dX0_let_11 : decode cX0_let 11 = .ok (.aload_n 0, 1) := by decide +kernel
theorem dX0_let_12 : decode cX0_let 12 = .ok (.iload_n 1, 1) := by decide +kernel
theorem dX0_let_13 : decode cX0_let 13 = .ok (.invokevirtual 107, 3) := by decide +kernel
theorem dX0_let_16 : decode cX0_let 16 = .ok (.ireturn, 1) := by decide +kernel
set_option maxRecDepth 20000 in
theorem ggX0_setRule_X0_requireAtom : GoodIn wsX0_setRule wsX0_requireAtom := goodIn_ca (goodIn_r _ [5, 6, 7] (by decide +kernel) (by decide +kernel)) (goodIn_sub (fun _ h => List.mem_cons_of_mem _ (List.mem_append_left _ (List.mem_append_right _ h))) (by decide +kernel))
set_option maxRecDepth 20000 in
theorem gX0_setRule_X0_requireAtom : GoodIn wsX0_setRule (va_wsS RX0 52 yX0_requireAtom wsX0_requireAtom) := goodIn_app (goodIn_of _ (by decide +kernel)) ggX0_setRule_X0_requireAtom
set_option maxRecDepth 20000 in
theorem ggX0_setRule_X0_requireFormula : GoodIn wsX0_setRule wsX0_requireFormula := goodIn_ca (goodIn_r _ [11, 6, 7, 12, 20, 21, 22, 23, 24, 25, 26, 27, 28, 29, 30, 31] (by decide +kernel) (by decide +kernel)) (goodIn_sub (fun _ h => List.mem_cons_of_mem _ (List.mem_append_left _ (List.mem_append_right _ h))) (by decide +kernel))
set_option maxRecDepth 20000 in
theorem gX0_setRule_X0_requireFormula : GoodIn wsX0_setRule (wsV RX0 77 RX0 yX0_requireFormula wsX0_requireFormula) := goodIn_app (goodIn_of _ (by decide +kernel)) ggX0_setRule_X0_requireFormula
set_option maxRecDepth 20000 in
theorem ggX0_setRule_X0_requireSteady : GoodIn wsX0_setRule wsX0_requireSteady := goodIn_ca (goodIn_r _ [16, 17, 18, 19, 20, 21, 22, 23, 24, 25, 26, 27, 28, 29, 30, 31] (by decide +kernel) (by decide +kernel)) (goodIn_sub (fun _ h => List.mem_cons_of_mem _ (List.mem_append_right _ h)) (by decide +kernel))
set_option maxRecDepth 20000 in
theorem gX0_setRule_X0_requireSteady : GoodIn wsX0_setRule (wsV RX0 111 RX0 yX0_requireSteady wsX0_requireSteady) := goodIn_app (goodIn_of _ (by decide +kernel)) ggX0_setRule_X0_requireSteady
theorem dX0_setRule_0 : decode cX0_setRule 0 = .ok (.iload_n 1, 1) := by decide +kernel
theorem dX0_setRule_1 : decode cX0_setRule 1 = .ok (.invokestatic 52, 3) := by decide +kernel
theorem dX0_setRule_4 : decode cX0_setRule 4 = .ok (.iload_n 2, 1) := by decide +kernel
theorem dX0_setRule_5 : decode cX0_setRule 5 = .ok (.iconst (-1), 1) := by decide +kernel
theorem dX0_setRule_6 : decode cX0_setRule 6 = .ok (.if_icmp .eq 13, 3) := by decide +kernel
theorem dX0_setRule_9 : decode cX0_setRule 9 = .ok (.aload_n 0, 1) := by decide +kernel
theorem dX0_setRule_10 : decode cX0_setRule 10 = .ok (.iload_n 2, 1) := by decide +kernel
theorem dX0_setRule_11 : decode cX0_setRule 11 = .ok (.invokevirtual 77, 3) := by decide +kernel
theorem dX0_setRule_14 : decode cX0_setRule 14 = .ok (.aload_n 0, 1) := by decide +kernel
theorem dX0_setRule_15 : decode cX0_setRule 15 = .ok (.iload_n 2, 1) := by decide +kernel
theorem dX0_setRule_16 : decode cX0_setRule 16 = .ok (.invokevirtual 111, 3) := by decide +kernel
theorem dX0_setRule_19 : decode cX0_setRule 19 = .ok (.aload_n 0, 1) := by decide +kernel
theorem dX0_setRule_20 : decode cX0_setRule 20 = .ok (.getfield 40, 3) := by decide +kernel
theorem dX0_setRule_23 : decode cX0_setRule 23 = .ok (.iload_n 1, 1) := by decide +kernel
theorem dX0_setRule_24 : decode cX0_setRule 24 = .ok (.iaload, 1) := by decide +kernel
theorem dX0_setRule_25 : decode cX0_setRule 25 = .ok (.istore_n 3, 1) := by decide +kernel
theorem dX0_setRule_26 : decode cX0_setRule 26 = .ok (.aload_n 0, 1) := by decide +kernel
theorem dX0_setRule_27 : decode cX0_setRule 27 = .ok (.getfield 40, 3) := by decide +kernel
theorem dX0_setRule_30 : decode cX0_setRule 30 = .ok (.iload_n 1, 1) := by decide +kernel
theorem dX0_setRule_31 : decode cX0_setRule 31 = .ok (.iload_n 2, 1) := by decide +kernel
theorem dX0_setRule_32 : decode cX0_setRule 32 = .ok (.iastore, 1) := by decide +kernel
theorem dX0_setRule_33 : decode cX0_setRule 33 = .ok (.iload_n 3, 1) := by decide +kernel
theorem dX0_setRule_34 : decode cX0_setRule 34 = .ok (.ireturn, 1) := by decide +kernel
set_option maxRecDepth 20000 in
theorem ggX0_given_X0_requireAtom : GoodIn wsX0_given wsX0_requireAtom := goodIn_ca (goodIn_r _ [4, 5, 6] (by decide +kernel) (by decide +kernel)) (goodIn_sub (fun _ h => List.mem_cons_of_mem _ (List.mem_append_right _ h)) (by decide +kernel))
set_option maxRecDepth 20000 in
theorem gX0_given_X0_requireAtom : GoodIn wsX0_given (va_wsS RX0 52 yX0_requireAtom wsX0_requireAtom) := goodIn_app (goodIn_of _ (by decide +kernel)) ggX0_given_X0_requireAtom
set_option maxRecDepth 20000 in
theorem ggX0_given_X0_heard : GoodIn wsX0_given wsX0_heard := goodIn_r _ [10, 11, 12, 13, 3, 14, 15, 16, 17, 29, 30, 31, 32, 33, 34, 35, 36, 37, 38, 39, 40] (by decide +kernel) (by decide +kernel)
set_option maxRecDepth 20000 in
theorem gX0_given_X0_heard : GoodIn wsX0_given (wsV RX0 114 RX0 yX0_heard wsX0_heard) := goodIn_app (goodIn_of _ (by decide +kernel)) ggX0_given_X0_heard
set_option maxRecDepth 20000 in
theorem ggX0_given_X0_givenState : GoodIn wsX0_given wsX0_givenState := goodIn_r _ [21, 22, 29, 30, 31, 32, 33, 34, 35, 36, 37, 38, 39, 40] (by decide +kernel) (by decide +kernel)
set_option maxRecDepth 20000 in
theorem gX0_given_X0_givenState : GoodIn wsX0_given (wsV RX0 118 RX0 yX0_givenState wsX0_givenState) := goodIn_app (goodIn_of _ (by decide +kernel)) ggX0_given_X0_givenState
set_option maxRecDepth 20000 in
theorem ggX0_given_X0_valueIn : GoodIn wsX0_given wsX0_valueIn := goodIn_r _ [25, 26, 27, 3, 28] (by decide +kernel) (by decide +kernel)
set_option maxRecDepth 20000 in
theorem gX0_given_X0_valueIn : GoodIn wsX0_given (va_wsS RX0 100 yX0_valueIn wsX0_valueIn) := goodIn_app (goodIn_of _ (by decide +kernel)) ggX0_given_X0_valueIn
theorem dX0_given_0 : decode cX0_given 0 = .ok (.iload_n 1, 1) := by decide +kernel
theorem dX0_given_1 : decode cX0_given 1 = .ok (.invokestatic 52, 3) := by decide +kernel
theorem dX0_given_4 : decode cX0_given 4 = .ok (.aload_n 0, 1) := by decide +kernel
theorem dX0_given_5 : decode cX0_given 5 = .ok (.aload_n 0, 1) := by decide +kernel
theorem dX0_given_6 : decode cX0_given 6 = .ok (.invokevirtual 114, 3) := by decide +kernel
theorem dX0_given_9 : decode cX0_given 9 = .ok (.invokevirtual 118, 3) := by decide +kernel
theorem dX0_given_12 : decode cX0_given 12 = .ok (.iload_n 1, 1) := by decide +kernel
theorem dX0_given_13 : decode cX0_given 13 = .ok (.invokestatic 100, 3) := by decide +kernel
theorem dX0_given_16 : decode cX0_given 16 = .ok (.ireturn, 1) := by decide +kernel
set_option maxRecDepth 20000 in
theorem ggX0_settled_X0_requireAtom : GoodIn wsX0_settled wsX0_requireAtom := goodIn_ca (goodIn_r _ [4, 5, 6] (by decide +kernel) (by decide +kernel)) (goodIn_sub (fun _ h => List.mem_cons_of_mem _ (List.mem_append_right _ h)) (by decide +kernel))
set_option maxRecDepth 20000 in
theorem gX0_settled_X0_requireAtom : GoodIn wsX0_settled (va_wsS RX0 52 yX0_requireAtom wsX0_requireAtom) := goodIn_app (goodIn_of _ (by decide +kernel)) ggX0_settled_X0_requireAtom
set_option maxRecDepth 20000 in
theorem ggX0_settled_X0_settledNow : GoodIn wsX0_settled wsX0_settledNow := goodIn_r _ [10, 11, 12, 13, 3, 14, 15, 16, 17, 18, 19, 20, 21, 22, 23, 24, 25, 26, 27, 28, 29, 30, 31, 32, 33, 34, 35, 36, 37, 38, 39, 40, 41, 42, 43, 44, 45, 46, 47, 51, 52, 53, 54, 55, 56, 57, 58, 59, 60, 61, 62] (by decide +kernel) (by decide +kernel)
set_option maxRecDepth 20000 in
theorem gX0_settled_X0_settledNow : GoodIn wsX0_settled (wsV RX0 121 RX0 yX0_settledNow wsX0_settledNow) := goodIn_app (goodIn_of _ (by decide +kernel)) ggX0_settled_X0_settledNow
set_option maxRecDepth 20000 in
theorem ggX0_settled_X0_valueIn : GoodIn wsX0_settled wsX0_valueIn := goodIn_r _ [50, 45, 46, 3, 47] (by decide +kernel) (by decide +kernel)
set_option maxRecDepth 20000 in
theorem gX0_settled_X0_valueIn : GoodIn wsX0_settled (va_wsS RX0 100 yX0_valueIn wsX0_valueIn) := goodIn_app (goodIn_of _ (by decide +kernel)) ggX0_settled_X0_valueIn
theorem dX0_settled_0 : decode cX0_settled 0 = .ok (.iload_n 1, 1) := by decide +kernel
theorem dX0_settled_1 : decode cX0_settled 1 = .ok (.invokestatic 52, 3) := by decide +kernel
theorem dX0_settled_4 : decode cX0_settled 4 = .ok (.aload_n 0, 1) := by decide +kernel
theorem dX0_settled_5 : decode cX0_settled 5 = .ok (.invokevirtual 121, 3) := by decide +kernel
theorem dX0_settled_8 : decode cX0_settled 8 = .ok (.iload_n 1, 1) := by decide +kernel
theorem dX0_settled_9 : decode cX0_settled 9 = .ok (.invokestatic 100, 3) := by decide +kernel
theorem dX0_settled_12 : decode cX0_settled 12 = .ok (.ireturn, 1) := by decide +kernel
set_option maxRecDepth 20000 in
theorem ggX0_rounds_X0_heard : GoodIn wsX0_rounds wsX0_heard := goodIn_r _ [5, 6, 7, 8, 4, 9, 10, 11, 12, 35, 36, 37, 38, 39, 40, 41, 42, 43, 44, 45, 46] (by decide +kernel) (by decide +kernel)
set_option maxRecDepth 20000 in
theorem gX0_rounds_X0_heard : GoodIn wsX0_rounds (wsV RX0 114 RX0 yX0_heard wsX0_heard) := goodIn_app (goodIn_of _ (by decide +kernel)) ggX0_rounds_X0_heard
set_option maxRecDepth 20000 in
theorem ggX0_rounds_X0_givenState : GoodIn wsX0_rounds wsX0_givenState := goodIn_r _ [16, 17, 35, 36, 37, 38, 39, 40, 41, 42, 43, 44, 45, 46] (by decide +kernel) (by decide +kernel)
set_option maxRecDepth 20000 in
theorem gX0_rounds_X0_givenState : GoodIn wsX0_rounds (wsV RX0 118 RX0 yX0_givenState wsX0_givenState) := goodIn_app (goodIn_of _ (by decide +kernel)) ggX0_rounds_X0_givenState
set_option maxRecDepth 20000 in
theorem ggX0_rounds_X0_nextState : GoodIn wsX0_rounds wsX0_nextState := goodIn_r _ [21, 22, 23, 24, 25, 4, 26, 27, 28, 29, 30, 31, 32, 33, 34, 35, 36, 37, 38, 39, 40, 41, 42, 43, 44, 45, 46] (by decide +kernel) (by decide +kernel)
set_option maxRecDepth 20000 in
theorem gX0_rounds_X0_nextState : GoodIn wsX0_rounds (wsV RX0 124 RX0 yX0_nextState wsX0_nextState) := goodIn_app (goodIn_of _ (by decide +kernel)) ggX0_rounds_X0_nextState
theorem dX0_rounds_0 : decode cX0_rounds 0 = .ok (.aload_n 0, 1) := by decide +kernel
theorem dX0_rounds_1 : decode cX0_rounds 1 = .ok (.aload_n 0, 1) := by decide +kernel
theorem dX0_rounds_2 : decode cX0_rounds 2 = .ok (.invokevirtual 114, 3) := by decide +kernel
theorem dX0_rounds_5 : decode cX0_rounds 5 = .ok (.invokevirtual 118, 3) := by decide +kernel
theorem dX0_rounds_8 : decode cX0_rounds 8 = .ok (.istore_n 1, 1) := by decide +kernel
theorem dX0_rounds_9 : decode cX0_rounds 9 = .ok (.iload_n 1, 1) := by decide +kernel
theorem dX0_rounds_10 : decode cX0_rounds 10 = .ok (.istore_n 2, 1) := by decide +kernel
theorem dX0_rounds_11 : decode cX0_rounds 11 = .ok (.iconst 0, 1) := by decide +kernel
theorem dX0_rounds_12 : decode cX0_rounds 12 = .ok (.istore_n 3, 1) := by decide +kernel
theorem dX0_rounds_13 : decode cX0_rounds 13 = .ok (.iload_n 3, 1) := by decide +kernel
theorem dX0_rounds_14 : decode cX0_rounds 14 = .ok (.bipush 12, 2) := by decide +kernel
theorem dX0_rounds_16 : decode cX0_rounds 16 = .ok (.if_icmp .ge 28, 3) := by decide +kernel
theorem dX0_rounds_19 : decode cX0_rounds 19 = .ok (.aload_n 0, 1) := by decide +kernel
theorem dX0_rounds_20 : decode cX0_rounds 20 = .ok (.iload_n 1, 1) := by decide +kernel
theorem dX0_rounds_21 : decode cX0_rounds 21 = .ok (.iload_n 2, 1) := by decide +kernel
theorem dX0_rounds_22 : decode cX0_rounds 22 = .ok (.invokevirtual 124, 3) := by decide +kernel
theorem dX0_rounds_25 : decode cX0_rounds 25 = .ok (.istore 4, 2) := by decide +kernel
theorem dX0_rounds_27 : decode cX0_rounds 27 = .ok (.iload 4, 2) := by decide +kernel
theorem dX0_rounds_29 : decode cX0_rounds 29 = .ok (.iload_n 2, 1) := by decide +kernel
theorem dX0_rounds_30 : decode cX0_rounds 30 = .ok (.if_icmp .ne 5, 3) := by decide +kernel
theorem dX0_rounds_33 : decode cX0_rounds 33 = .ok (.iload_n 3, 1) := by decide +kernel
theorem dX0_rounds_34 : decode cX0_rounds 34 = .ok (.ireturn, 1) := by decide +kernel
theorem dX0_rounds_35 : decode cX0_rounds 35 = .ok (.iload 4, 2) := by decide +kernel
theorem dX0_rounds_37 : decode cX0_rounds 37 = .ok (.istore_n 2, 1) := by decide +kernel
theorem dX0_rounds_38 : decode cX0_rounds 38 = .ok (.iinc 3 1, 3) := by decide +kernel
theorem dX0_rounds_41 : decode cX0_rounds 41 = .ok (.goto (-28), 3) := by decide +kernel
theorem dX0_rounds_44 : decode cX0_rounds 44 = .ok (.bipush 12, 2) := by decide +kernel
theorem dX0_rounds_46 : decode cX0_rounds 46 = .ok (.ireturn, 1) := by decide +kernel
set_option maxRecDepth 20000 in
theorem ggX0_since_X0_requireAtom : GoodIn wsX0_since wsX0_requireAtom := goodIn_ca (goodIn_r _ [4, 5, 6] (by decide +kernel) (by decide +kernel)) (goodIn_sub (fun _ h => List.mem_cons_of_mem _ (List.mem_append_right _ h)) (by decide +kernel))
set_option maxRecDepth 20000 in
theorem gX0_since_X0_requireAtom : GoodIn wsX0_since (va_wsS RX0 52 yX0_requireAtom wsX0_requireAtom) := goodIn_app (goodIn_of _ (by decide +kernel)) ggX0_since_X0_requireAtom
set_option maxRecDepth 20000 in
theorem ggX0_since_X0_heard : GoodIn wsX0_since wsX0_heard := goodIn_r _ [10, 11, 12, 13, 3, 14, 15, 16, 17, 46, 47, 48, 49, 50, 51, 52, 53, 54, 55, 56, 57] (by decide +kernel) (by decide +kernel)
set_option maxRecDepth 20000 in
theorem gX0_since_X0_heard : GoodIn wsX0_since (wsV RX0 114 RX0 yX0_heard wsX0_heard) := goodIn_app (goodIn_of _ (by decide +kernel)) ggX0_since_X0_heard
set_option maxRecDepth 20000 in
theorem ggX0_since_X0_givenState : GoodIn wsX0_since wsX0_givenState := goodIn_r _ [21, 22, 46, 47, 48, 49, 50, 51, 52, 53, 54, 55, 56, 57] (by decide +kernel) (by decide +kernel)
set_option maxRecDepth 20000 in
theorem gX0_since_X0_givenState : GoodIn wsX0_since (wsV RX0 118 RX0 yX0_givenState wsX0_givenState) := goodIn_app (goodIn_of _ (by decide +kernel)) ggX0_since_X0_givenState
set_option maxRecDepth 20000 in
theorem ggX0_since_X0_valueIn : GoodIn wsX0_since wsX0_valueIn := goodIn_r _ [25, 26, 27, 3, 28] (by decide +kernel) (by decide +kernel)
set_option maxRecDepth 20000 in
theorem gX0_since_X0_valueIn : GoodIn wsX0_since (va_wsS RX0 100 yX0_valueIn wsX0_valueIn) := goodIn_app (goodIn_of _ (by decide +kernel)) ggX0_since_X0_valueIn
set_option maxRecDepth 20000 in
theorem ggX0_since_X0_isTold : GoodIn wsX0_since wsX0_isTold := goodIn_r _ [31] (by decide +kernel) (by decide +kernel)
set_option maxRecDepth 20000 in
theorem gX0_since_X0_isTold : GoodIn wsX0_since (va_wsS RX0 127 yX0_isTold wsX0_isTold) := goodIn_app (goodIn_of _ (by decide +kernel)) ggX0_since_X0_isTold
set_option maxRecDepth 20000 in
theorem ggX0_since_X0_nextState : GoodIn wsX0_since wsX0_nextState := goodIn_r _ [35, 36, 37, 38, 39, 3, 40, 41, 42, 43, 44, 45, 26, 27, 28, 46, 47, 48, 49, 50, 51, 52, 53, 54, 55, 56, 57] (by decide +kernel) (by decide +kernel)
set_option maxRecDepth 20000 in
theorem gX0_since_X0_nextState : GoodIn wsX0_since (wsV RX0 124 RX0 yX0_nextState wsX0_nextState) := goodIn_app (goodIn_of _ (by decide +kernel)) ggX0_since_X0_nextState
theorem dX0_since_0 : decode cX0_since 0 = .ok (.iload_n 1, 1) := by decide +kernel
theorem dX0_since_1 : decode cX0_since 1 = .ok (.invokestatic 52, 3) := by decide +kernel
theorem dX0_since_4 : decode cX0_since 4 = .ok (.aload_n 0, 1) := by decide +kernel
theorem dX0_since_5 : decode cX0_since 5 = .ok (.aload_n 0, 1) := by decide +kernel
theorem dX0_since_6 : decode cX0_since 6 = .ok (.invokevirtual 114, 3) := by decide +kernel
theorem dX0_since_9 : decode cX0_since 9 = .ok (.invokevirtual 118, 3) := by decide +kernel
theorem dX0_since_12 : decode cX0_since 12 = .ok (.istore_n 3, 1) := by decide +kernel
theorem dX0_since_13 : decode cX0_since 13 = .ok (.iload_n 3, 1) := by decide +kernel
theorem dX0_since_14 : decode cX0_since 14 = .ok (.istore 4, 2) := by decide +kernel
theorem dX0_since_16 : decode cX0_since 16 = .ok (.iconst 0, 1) := by decide +kernel
theorem dX0_since_17 : decode cX0_since 17 = .ok (.istore 5, 2) := by decide +kernel
theorem dX0_since_19 : decode cX0_since 19 = .ok (.iload 5, 2) := by decide +kernel
theorem dX0_since_21 : decode cX0_since 21 = .ok (.bipush 12, 2) := by decide +kernel
theorem dX0_since_23 : decode cX0_since 23 = .ok (.if_icmp .gt 34, 3) := by decide +kernel
theorem dX0_since_26 : decode cX0_since 26 = .ok (.iload 4, 2) := by decide +kernel
theorem dX0_since_28 : decode cX0_since 28 = .ok (.iload_n 1, 1) := by decide +kernel
theorem dX0_since_29 : decode cX0_since 29 = .ok (.invokestatic 100, 3) := by decide +kernel
theorem dX0_since_32 : decode cX0_since 32 = .ok (.iload_n 2, 1) := by decide +kernel
theorem dX0_since_33 : decode cX0_since 33 = .ok (.invokestatic 127, 3) := by decide +kernel
theorem dX0_since_36 : decode cX0_since 36 = .ok (.ifCond .eq 6, 3) := by decide +kernel
theorem dX0_since_39 : decode cX0_since 39 = .ok (.iload 5, 2) := by decide +kernel
theorem dX0_since_41 : decode cX0_since 41 = .ok (.ireturn, 1) := by decide +kernel
theorem dX0_since_42 : decode cX0_since 42 = .ok (.aload_n 0, 1) := by decide +kernel
theorem dX0_since_43 : decode cX0_since 43 = .ok (.iload_n 3, 1) := by decide +kernel
theorem dX0_since_44 : decode cX0_since 44 = .ok (.iload 4, 2) := by decide +kernel
theorem dX0_since_46 : decode cX0_since 46 = .ok (.invokevirtual 124, 3) := by decide +kernel
theorem dX0_since_49 : decode cX0_since 49 = .ok (.istore 4, 2) := by decide +kernel
theorem dX0_since_51 : decode cX0_since 51 = .ok (.iinc 5 1, 3) := by decide +kernel
theorem dX0_since_54 : decode cX0_since 54 = .ok (.goto (-35), 3) := by decide +kernel
theorem dX0_since_57 : decode cX0_since 57 = .ok (.iconst (-1), 1) := by decide +kernel
theorem dX0_since_58 : decode cX0_since 58 = .ok (.ireturn, 1) := by decide +kernel
set_option maxRecDepth 20000 in
theorem ggX0_value_X0_requireFormula : GoodIn wsX0_value wsX0_requireFormula := goodIn_ca (goodIn_r _ [5, 6, 7, 8, 50, 51, 52, 53, 54, 55, 56, 57, 58, 59, 60, 61] (by decide +kernel) (by decide +kernel)) (goodIn_sub (fun _ h => List.mem_cons_of_mem _ (List.mem_append_right _ h)) (by decide +kernel))
set_option maxRecDepth 20000 in
theorem gX0_value_X0_requireFormula : GoodIn wsX0_value (wsV RX0 77 RX0 yX0_requireFormula wsX0_requireFormula) := goodIn_app (goodIn_of _ (by decide +kernel)) ggX0_value_X0_requireFormula
set_option maxRecDepth 20000 in
theorem ggX0_value_X0_settledNow : GoodIn wsX0_value wsX0_settledNow := goodIn_r _ [12, 13, 14, 15, 4, 16, 17, 18, 19, 20, 21, 22, 23, 24, 25, 26, 27, 28, 29, 30, 31, 32, 33, 34, 35, 36, 37, 38, 39, 40, 41, 42, 43, 44, 45, 46, 47, 48, 49, 50, 51, 52, 53, 54, 55, 56, 57, 58, 59, 60, 61] (by decide +kernel) (by decide +kernel)
set_option maxRecDepth 20000 in
theorem gX0_value_X0_settledNow : GoodIn wsX0_value (wsV RX0 121 RX0 yX0_settledNow wsX0_settledNow) := goodIn_app (goodIn_of _ (by decide +kernel)) ggX0_value_X0_settledNow
set_option maxRecDepth 20000 in
theorem ggX0_value_X0_lookUp : GoodIn wsX0_value wsX0_lookUp := goodIn_r _ [41, 42, 43, 44, 45, 4, 46, 50, 51, 52, 53, 54, 55, 56, 57, 58, 59, 60, 61] (by decide +kernel) (by decide +kernel)
set_option maxRecDepth 20000 in
theorem gX0_value_X0_lookUp : GoodIn wsX0_value (wsV RX0 131 RX0 yX0_lookUp wsX0_lookUp) := goodIn_app (goodIn_of _ (by decide +kernel)) ggX0_value_X0_lookUp
theorem dX0_value_0 : decode cX0_value 0 = .ok (.aload_n 0, 1) := by decide +kernel
theorem dX0_value_1 : decode cX0_value 1 = .ok (.iload_n 1, 1) := by decide +kernel
theorem dX0_value_2 : decode cX0_value 2 = .ok (.invokevirtual 77, 3) := by decide +kernel
theorem dX0_value_5 : decode cX0_value 5 = .ok (.aload_n 0, 1) := by decide +kernel
theorem dX0_value_6 : decode cX0_value 6 = .ok (.iload_n 1, 1) := by decide +kernel
theorem dX0_value_7 : decode cX0_value 7 = .ok (.aload_n 0, 1) := by decide +kernel
theorem dX0_value_8 : decode cX0_value 8 = .ok (.invokevirtual 121, 3) := by decide +kernel
theorem dX0_value_11 : decode cX0_value 11 = .ok (.invokevirtual 131, 3) := by decide +kernel
theorem dX0_value_14 : decode cX0_value 14 = .ok (.ireturn, 1) := by decide +kernel
set_option maxRecDepth 20000 in
theorem ggX0_conflicts_X0_settledNow : GoodIn wsX0_conflicts wsX0_settledNow := goodIn_r _ [5, 6, 7, 8, 4, 9, 10, 11, 12, 13, 14, 15, 16, 17, 18, 19, 20, 21, 22, 23, 24, 25, 26, 27, 28, 29, 30, 31, 32, 33, 34, 35, 36, 37, 38, 39, 40, 41, 42, 49, 50, 51, 52, 53, 54, 55, 56, 57, 58, 59, 60] (by decide +kernel) (by decide +kernel)
set_option maxRecDepth 20000 in
theorem gX0_conflicts_X0_settledNow : GoodIn wsX0_conflicts (wsV RX0 121 RX0 yX0_settledNow wsX0_settledNow) := goodIn_app (goodIn_of _ (by decide +kernel)) ggX0_conflicts_X0_settledNow
set_option maxRecDepth 20000 in
theorem ggX0_conflicts_X0_atomsWith : GoodIn wsX0_conflicts wsX0_atomsWith := goodIn_r _ [45, 46, 47, 4, 48, 40, 41, 42] (by decide +kernel) (by decide +kernel)
set_option maxRecDepth 20000 in
theorem gX0_conflicts_X0_atomsWith : GoodIn wsX0_conflicts (va_wsS RX0 134 yX0_atomsWith wsX0_atomsWith) := goodIn_app (goodIn_of _ (by decide +kernel)) ggX0_conflicts_X0_atomsWith
theorem dX0_conflicts_0 : decode cX0_conflicts 0 = .ok (.aload_n 0, 1) := by decide +kernel
theorem dX0_conflicts_1 : decode cX0_conflicts 1 = .ok (.invokevirtual 121, 3) := by decide +kernel
theorem dX0_conflicts_4 : decode cX0_conflicts 4 = .ok (.iconst 3, 1) := by decide +kernel
theorem dX0_conflicts_5 : decode cX0_conflicts 5 = .ok (.invokestatic 134, 3) := by decide +kernel
theorem dX0_conflicts_8 : decode cX0_conflicts 8 = .ok (.ireturn, 1) := by decide +kernel
set_option maxRecDepth 20000 in
theorem ggX0_gaps_X0_settledNow : GoodIn wsX0_gaps wsX0_settledNow := goodIn_r _ [5, 6, 7, 8, 4, 9, 10, 11, 12, 13, 14, 15, 16, 17, 18, 19, 20, 21, 22, 23, 24, 25, 26, 27, 28, 29, 30, 31, 32, 33, 34, 35, 36, 37, 38, 39, 40, 41, 42, 49, 50, 51, 52, 53, 54, 55, 56, 57, 58, 59, 60] (by decide +kernel) (by decide +kernel)
set_option maxRecDepth 20000 in
theorem gX0_gaps_X0_settledNow : GoodIn wsX0_gaps (wsV RX0 121 RX0 yX0_settledNow wsX0_settledNow) := goodIn_app (goodIn_of _ (by decide +kernel)) ggX0_gaps_X0_settledNow
set_option maxRecDepth 20000 in
theorem ggX0_gaps_X0_atomsWith : GoodIn wsX0_gaps wsX0_atomsWith := goodIn_r _ [45, 46, 47, 4, 48, 40, 41, 42] (by decide +kernel) (by decide +kernel)
set_option maxRecDepth 20000 in
theorem gX0_gaps_X0_atomsWith : GoodIn wsX0_gaps (va_wsS RX0 134 yX0_atomsWith wsX0_atomsWith) := goodIn_app (goodIn_of _ (by decide +kernel)) ggX0_gaps_X0_atomsWith
theorem dX0_gaps_0 : decode cX0_gaps 0 = .ok (.aload_n 0, 1) := by decide +kernel
theorem dX0_gaps_1 : decode cX0_gaps 1 = .ok (.invokevirtual 121, 3) := by decide +kernel
theorem dX0_gaps_4 : decode cX0_gaps 4 = .ok (.iconst 0, 1) := by decide +kernel
theorem dX0_gaps_5 : decode cX0_gaps 5 = .ok (.invokestatic 134, 3) := by decide +kernel
theorem dX0_gaps_8 : decode cX0_gaps 8 = .ok (.ireturn, 1) := by decide +kernel
set_option maxRecDepth 20000 in
theorem ggX0_discord_X0_settledNow : GoodIn wsX0_discord wsX0_settledNow := goodIn_r _ [5, 6, 7, 8, 4, 9, 10, 11, 12, 13, 14, 15, 16, 17, 18, 19, 20, 21, 22, 23, 24, 25, 26, 27, 28, 29, 30, 31, 32, 33, 34, 35, 36, 37, 38, 39, 40, 41, 42, 56, 57, 58, 59, 60, 61, 62, 63, 64, 65, 66, 67] (by decide +kernel) (by decide +kernel)
set_option maxRecDepth 20000 in
theorem gX0_discord_X0_settledNow : GoodIn wsX0_discord (wsV RX0 121 RX0 yX0_settledNow wsX0_settledNow) := goodIn_app (goodIn_of _ (by decide +kernel)) ggX0_discord_X0_settledNow
set_option maxRecDepth 20000 in
theorem ggX0_discord_X0_atomsWith : GoodIn wsX0_discord wsX0_atomsWith := goodIn_r _ [45, 46, 47, 4, 48, 40, 41, 42] (by decide +kernel) (by decide +kernel)
set_option maxRecDepth 20000 in
theorem gX0_discord_X0_atomsWith : GoodIn wsX0_discord (va_wsS RX0 134 yX0_atomsWith wsX0_atomsWith) := goodIn_app (goodIn_of _ (by decide +kernel)) ggX0_discord_X0_atomsWith
set_option maxRecDepth 20000 in
theorem ggX0_discord_J6_bitCount_0f7a4 : GoodIn wsX0_discord wsJ6_bitCount_0f7a4 := goodIn_r _ [52, 53, 54, 55] (by decide +kernel) (by decide +kernel)
set_option maxRecDepth 20000 in
theorem gX0_discord_J6_bitCount_0f7a4 : GoodIn wsX0_discord (va_wsS RX0 137 yJ6_bitCount_0f7a4 wsJ6_bitCount_0f7a4) := goodIn_app (goodIn_of _ (by decide +kernel)) ggX0_discord_J6_bitCount_0f7a4
theorem dX0_discord_0 : decode cX0_discord 0 = .ok (.aload_n 0, 1) := by decide +kernel
theorem dX0_discord_1 : decode cX0_discord 1 = .ok (.invokevirtual 121, 3) := by decide +kernel
theorem dX0_discord_4 : decode cX0_discord 4 = .ok (.istore_n 1, 1) := by decide +kernel
theorem dX0_discord_5 : decode cX0_discord 5 = .ok (.bipush 6, 2) := by decide +kernel
theorem dX0_discord_7 : decode cX0_discord 7 = .ok (.iload_n 1, 1) := by decide +kernel
theorem dX0_discord_8 : decode cX0_discord 8 = .ok (.iconst 0, 1) := by decide +kernel
theorem dX0_discord_9 : decode cX0_discord 9 = .ok (.invokestatic 134, 3) := by decide +kernel
theorem dX0_discord_12 : decode cX0_discord 12 = .ok (.invokestatic 137, 3) := by decide +kernel
theorem dX0_discord_15 : decode cX0_discord 15 = .ok (.isub, 1) := by decide +kernel
theorem dX0_discord_16 : decode cX0_discord 16 = .ok (.istore_n 2, 1) := by decide +kernel
theorem dX0_discord_17 : decode cX0_discord 17 = .ok (.iload_n 2, 1) := by decide +kernel
theorem dX0_discord_18 : decode cX0_discord 18 = .ok (.ifCond .ne 5, 3) := by decide +kernel
theorem dX0_discord_21 : decode cX0_discord 21 = .ok (.dconst 0, 1) := by decide +kernel
theorem dX0_discord_22 : decode cX0_discord 22 = .ok (.dreturn, 1) := by decide +kernel
theorem dX0_discord_23 : decode cX0_discord 23 = .ok (.iload_n 1, 1) := by decide +kernel
theorem dX0_discord_24 : decode cX0_discord 24 = .ok (.iconst 3, 1) := by decide +kernel
theorem dX0_discord_25 : decode cX0_discord 25 = .ok (.invokestatic 134, 3) := by decide +kernel
theorem dX0_discord_28 : decode cX0_discord 28 = .ok (.invokestatic 137, 3) := by decide +kernel
theorem dX0_discord_31 : decode cX0_discord 31 = .ok (.i2d, 1) := by decide +kernel
theorem dX0_discord_32 : decode cX0_discord 32 = .ok (.iload_n 2, 1) := by decide +kernel
theorem dX0_discord_33 : decode cX0_discord 33 = .ok (.i2d, 1) := by decide +kernel
theorem dX0_discord_34 : decode cX0_discord 34 = .ok (.ddiv, 1) := by decide +kernel
theorem dX0_discord_35 : decode cX0_discord 35 = .ok (.dreturn, 1) := by decide +kernel
set_option maxRecDepth 20000 in
theorem ggX0_heard_X0_isHeard : GoodIn wsX0_heard wsX0_isHeard := goodIn_r _ [5, 6, 7, 8, 9, 10, 11, 12, 13, 14, 15, 16, 17, 18, 19, 20] (by decide +kernel) (by decide +kernel)
set_option maxRecDepth 20000 in
theorem gX0_heard_X0_isHeard : GoodIn wsX0_heard (wsV RX0 107 RX0 yX0_isHeard wsX0_isHeard) := goodIn_app (goodIn_of _ (by decide +kernel)) ggX0_heard_X0_isHeard
theorem dX0_heard_0 : decode cX0_heard 0 = .ok (.iconst 0, 1) := by decide +kernel
theorem dX0_heard_1 : decode cX0_heard 1 = .ok (.istore_n 1, 1) := by decide +kernel
theorem dX0_heard_2 : decode cX0_heard 2 = .ok (.iconst 0, 1) := by decide +kernel
theorem dX0_heard_3 : decode cX0_heard 3 = .ok (.istore_n 2, 1) := by decide +kernel
theorem dX0_heard_4 : decode cX0_heard 4 = .ok (.iload_n 2, 1) := by decide +kernel
theorem dX0_heard_5 : decode cX0_heard 5 = .ok (.bipush 6, 2) := by decide +kernel
theorem dX0_heard_7 : decode cX0_heard 7 = .ok (.if_icmp .ge 23, 3) := by decide +kernel
theorem dX0_heard_10 : decode cX0_heard 10 = .ok (.aload_n 0, 1) := by decide +kernel
theorem dX0_heard_11 : decode cX0_heard 11 = .ok (.iload_n 2, 1) := by decide +kernel
theorem dX0_heard_12 : decode cX0_heard 12 = .ok (.invokevirtual 107, 3) := by decide +kernel
theorem dX0_heard_15 : decode cX0_heard 15 = .ok (.ifCond .eq 9, 3) := by decide +kernel
theorem dX0_heard_18 : decode cX0_heard 18 = .ok (.iload_n 1, 1) := by decide +kernel
theorem dX0_heard_19 : decode cX0_heard 19 = .ok (.iconst 1, 1) := by decide +kernel
theorem dX0_heard_20 : decode cX0_heard 20 = .ok (.iload_n 2, 1) := by decide +kernel
theorem dX0_heard_21 : decode cX0_heard 21 = .ok (.ishl, 1) := by decide +kernel
theorem dX0_heard_22 : decode cX0_heard 22 = .ok (.ior, 1) := by decide +kernel
theorem dX0_heard_23 : decode cX0_heard 23 = .ok (.istore_n 1, 1) := by decide +kernel
theorem dX0_heard_24 : decode cX0_heard 24 = .ok (.iinc 2 1, 3) := by decide +kernel
theorem dX0_heard_27 : decode cX0_heard 27 = .ok (.goto (-23), 3) := by decide +kernel
theorem dX0_heard_30 : decode cX0_heard 30 = .ok (.iload_n 1, 1) := by decide +kernel
theorem dX0_heard_31 : decode cX0_heard 31 = .ok (.ireturn, 1) := by decide +kernel
set_option maxRecDepth 20000 in
theorem ggX0_sayers_X0_requireAtom : GoodIn wsX0_sayers wsX0_requireAtom := goodIn_ca (goodIn_r _ [5, 6, 7] (by decide +kernel) (by decide +kernel)) (goodIn_sub (fun _ h => List.mem_cons_of_mem _ (List.mem_append_right _ h)) (by decide +kernel))
set_option maxRecDepth 20000 in
theorem gX0_sayers_X0_requireAtom : GoodIn wsX0_sayers (va_wsS RX0 52 yX0_requireAtom wsX0_requireAtom) := goodIn_app (goodIn_of _ (by decide +kernel)) ggX0_sayers_X0_requireAtom
set_option maxRecDepth 20000 in
theorem ggX0_sayers_X0_isHeard : GoodIn wsX0_sayers wsX0_isHeard := goodIn_r _ [11, 12, 13, 14, 24, 25, 26, 27, 28, 29, 30, 31, 32, 33, 34, 35] (by decide +kernel) (by decide +kernel)
set_option maxRecDepth 20000 in
theorem gX0_sayers_X0_isHeard : GoodIn wsX0_sayers (wsV RX0 107 RX0 yX0_isHeard wsX0_isHeard) := goodIn_app (goodIn_of _ (by decide +kernel)) ggX0_sayers_X0_isHeard
set_option maxRecDepth 20000 in
theorem ggX0_sayers_X0_valueIn : GoodIn wsX0_sayers wsX0_valueIn := goodIn_r _ [17, 18, 19, 4, 20] (by decide +kernel) (by decide +kernel)
set_option maxRecDepth 20000 in
theorem gX0_sayers_X0_valueIn : GoodIn wsX0_sayers (va_wsS RX0 100 yX0_valueIn wsX0_valueIn) := goodIn_app (goodIn_of _ (by decide +kernel)) ggX0_sayers_X0_valueIn
set_option maxRecDepth 20000 in
theorem ggX0_sayers_X0_isTold : GoodIn wsX0_sayers wsX0_isTold := goodIn_r _ [23] (by decide +kernel) (by decide +kernel)
set_option maxRecDepth 20000 in
theorem gX0_sayers_X0_isTold : GoodIn wsX0_sayers (va_wsS RX0 127 yX0_isTold wsX0_isTold) := goodIn_app (goodIn_of _ (by decide +kernel)) ggX0_sayers_X0_isTold
theorem dX0_sayers_0 : decode cX0_sayers 0 = .ok (.iload_n 1, 1) := by decide +kernel
theorem dX0_sayers_1 : decode cX0_sayers 1 = .ok (.invokestatic 52, 3) := by decide +kernel
theorem dX0_sayers_4 : decode cX0_sayers 4 = .ok (.iconst 0, 1) := by decide +kernel
theorem dX0_sayers_5 : decode cX0_sayers 5 = .ok (.istore_n 3, 1) := by decide +kernel
theorem dX0_sayers_6 : decode cX0_sayers 6 = .ok (.iconst 0, 1) := by decide +kernel
theorem dX0_sayers_7 : decode cX0_sayers 7 = .ok (.istore 4, 2) := by decide +kernel
theorem dX0_sayers_9 : decode cX0_sayers 9 = .ok (.iload 4, 2) := by decide +kernel
theorem dX0_sayers_11 : decode cX0_sayers 11 = .ok (.bipush 6, 2) := by decide +kernel
theorem dX0_sayers_13 : decode cX0_sayers 13 = .ok (.if_icmp .ge 43, 3) := by decide +kernel
theorem dX0_sayers_16 : decode cX0_sayers 16 = .ok (.aload_n 0, 1) := by decide +kernel
theorem dX0_sayers_17 : decode cX0_sayers 17 = .ok (.iload 4, 2) := by decide +kernel
theorem dX0_sayers_19 : decode cX0_sayers 19 = .ok (.invokevirtual 107, 3) := by decide +kernel
theorem dX0_sayers_22 : decode cX0_sayers 22 = .ok (.ifCond .eq 28, 3) := by decide +kernel
theorem dX0_sayers_25 : decode cX0_sayers 25 = .ok (.aload_n 0, 1) := by decide +kernel
theorem dX0_sayers_26 : decode cX0_sayers 26 = .ok (.getfield 34, 3) := by decide +kernel
theorem dX0_sayers_29 : decode cX0_sayers 29 = .ok (.iload 4, 2) := by decide +kernel
theorem dX0_sayers_31 : decode cX0_sayers 31 = .ok (.iaload, 1) := by decide +kernel
theorem dX0_sayers_32 : decode cX0_sayers 32 = .ok (.iload_n 1, 1) := by decide +kernel
theorem dX0_sayers_33 : decode cX0_sayers 33 = .ok (.invokestatic 100, 3) := by decide +kernel
theorem dX0_sayers_36 : decode cX0_sayers 36 = .ok (.iload_n 2, 1) := by decide +kernel
theorem dX0_sayers_37 : decode cX0_sayers 37 = .ok (.invokestatic 127, 3) := by decide +kernel
theorem dX0_sayers_40 : decode cX0_sayers 40 = .ok (.ifCond .eq 10, 3) := by decide +kernel
theorem dX0_sayers_43 : decode cX0_sayers 43 = .ok (.iload_n 3, 1) := by decide +kernel
theorem dX0_sayers_44 : decode cX0_sayers 44 = .ok (.iconst 1, 1) := by decide +kernel
theorem dX0_sayers_45 : decode cX0_sayers 45 = .ok (.iload 4, 2) := by decide +kernel
theorem dX0_sayers_47 : decode cX0_sayers 47 = .ok (.ishl, 1) := by decide +kernel
theorem dX0_sayers_48 : decode cX0_sayers 48 = .ok (.ior, 1) := by decide +kernel
theorem dX0_sayers_49 : decode cX0_sayers 49 = .ok (.istore_n 3, 1) := by decide +kernel
theorem dX0_sayers_50 : decode cX0_sayers 50 = .ok (.iinc 4 1, 3) := by decide +kernel
theorem dX0_sayers_53 : decode cX0_sayers 53 = .ok (.goto (-44), 3) := by decide +kernel
theorem dX0_sayers_56 : decode cX0_sayers 56 = .ok (.iload_n 3, 1) := by decide +kernel
theorem dX0_sayers_57 : decode cX0_sayers 57 = .ok (.ireturn, 1) := by decide +kernel
set_option maxRecDepth 20000 in
theorem ggX0_matters_X0_requireSource : GoodIn wsX0_matters wsX0_requireSource := goodIn_ca (goodIn_r _ [4, 5, 6] (by decide +kernel) (by decide +kernel)) (goodIn_sub (fun _ h => List.mem_cons_of_mem _ (List.mem_append_right _ h)) (by decide +kernel))
set_option maxRecDepth 20000 in
theorem gX0_matters_X0_requireSource : GoodIn wsX0_matters (va_wsS RX0 97 yX0_requireSource wsX0_requireSource) := goodIn_app (goodIn_of _ (by decide +kernel)) ggX0_matters_X0_requireSource
set_option maxRecDepth 20000 in
theorem ggX0_matters_X0_requireAtom : GoodIn wsX0_matters wsX0_requireAtom := goodIn_ca (goodIn_r _ [9, 5, 6] (by decide +kernel) (by decide +kernel)) (goodIn_sub (fun _ h => List.mem_cons_of_mem _ (List.mem_append_right _ h)) (by decide +kernel))
set_option maxRecDepth 20000 in
theorem gX0_matters_X0_requireAtom : GoodIn wsX0_matters (va_wsS RX0 52 yX0_requireAtom wsX0_requireAtom) := goodIn_app (goodIn_of _ (by decide +kernel)) ggX0_matters_X0_requireAtom
set_option maxRecDepth 20000 in
theorem ggX0_matters_X0_heard : GoodIn wsX0_matters wsX0_heard := goodIn_r _ [13, 14, 15, 16, 3, 17, 18, 19, 20, 50, 51, 52, 53, 54, 55, 56, 57, 58, 59, 60, 61] (by decide +kernel) (by decide +kernel)
set_option maxRecDepth 20000 in
theorem gX0_matters_X0_heard : GoodIn wsX0_matters (wsV RX0 114 RX0 yX0_heard wsX0_heard) := goodIn_app (goodIn_of _ (by decide +kernel)) ggX0_matters_X0_heard
set_option maxRecDepth 20000 in
theorem ggX0_matters_X0_settledState : GoodIn wsX0_matters wsX0_settledState := goodIn_r _ [24, 25, 26, 27, 3, 28, 29, 30, 31, 32, 33, 34, 35, 36, 37, 38, 39, 40, 41, 42, 43, 44, 45, 46, 50, 51, 52, 53, 54, 55, 56, 57, 58, 59, 60, 61] (by decide +kernel) (by decide +kernel)
set_option maxRecDepth 20000 in
theorem gX0_matters_X0_settledState : GoodIn wsX0_matters (wsV RX0 142 RX0 yX0_settledState wsX0_settledState) := goodIn_app (goodIn_of _ (by decide +kernel)) ggX0_matters_X0_settledState
set_option maxRecDepth 20000 in
theorem ggX0_matters_X0_valueIn : GoodIn wsX0_matters wsX0_valueIn := goodIn_r _ [49, 44, 45, 3, 46] (by decide +kernel) (by decide +kernel)
set_option maxRecDepth 20000 in
theorem gX0_matters_X0_valueIn : GoodIn wsX0_matters (va_wsS RX0 100 yX0_valueIn wsX0_valueIn) := goodIn_app (goodIn_of _ (by decide +kernel)) ggX0_matters_X0_valueIn
theorem dX0_matters_0 : decode cX0_matters 0 = .ok (.iload_n 1, 1) := by decide +kernel
theorem dX0_matters_1 : decode cX0_matters 1 = .ok (.invokestatic 97, 3) := by decide +kernel
theorem dX0_matters_4 : decode cX0_matters 4 = .ok (.iload_n 2, 1) := by decide +kernel
theorem dX0_matters_5 : decode cX0_matters 5 = .ok (.invokestatic 52, 3) := by decide +kernel
theorem dX0_matters_8 : decode cX0_matters 8 = .ok (.aload_n 0, 1) := by decide +kernel
theorem dX0_matters_9 : decode cX0_matters 9 = .ok (.invokevirtual 114, 3) := by decide +kernel
theorem dX0_matters_12 : decode cX0_matters 12 = .ok (.istore_n 3, 1) := by decide +kernel
theorem dX0_matters_13 : decode cX0_matters 13 = .ok (.iload_n 3, 1) := by decide +kernel
theorem dX0_matters_14 : decode cX0_matters 14 = .ok (.iconst 1, 1) := by decide +kernel
theorem dX0_matters_15 : decode cX0_matters 15 = .ok (.iload_n 1, 1) := by decide +kernel
theorem dX0_matters_16 : decode cX0_matters 16 = .ok (.ishl, 1) := by decide +kernel
theorem dX0_matters_17 : decode cX0_matters 17 = .ok (.iconst (-1), 1) := by decide +kernel
theorem dX0_matters_18 : decode cX0_matters 18 = .ok (.ixor, 1) := by decide +kernel
theorem dX0_matters_19 : decode cX0_matters 19 = .ok (.iand, 1) := by decide +kernel
theorem dX0_matters_20 : decode cX0_matters 20 = .ok (.istore 4, 2) := by decide +kernel
theorem dX0_matters_22 : decode cX0_matters 22 = .ok (.aload_n 0, 1) := by decide +kernel
theorem dX0_matters_23 : decode cX0_matters 23 = .ok (.iload_n 3, 1) := by decide +kernel
theorem dX0_matters_24 : decode cX0_matters 24 = .ok (.invokevirtual 142, 3) := by decide +kernel
theorem dX0_matters_27 : decode cX0_matters 27 = .ok (.iload_n 2, 1) := by decide +kernel
theorem dX0_matters_28 : decode cX0_matters 28 = .ok (.invokestatic 100, 3) := by decide +kernel
theorem dX0_matters_31 : decode cX0_matters 31 = .ok (.aload_n 0, 1) := by decide +kernel
theorem dX0_matters_32 : decode cX0_matters 32 = .ok (.iload 4, 2) := by decide +kernel
theorem dX0_matters_34 : decode cX0_matters 34 = .ok (.invokevirtual 142, 3) := by decide +kernel
theorem dX0_matters_37 : decode cX0_matters 37 = .ok (.iload_n 2, 1) := by decide +kernel
theorem dX0_matters_38 : decode cX0_matters 38 = .ok (.invokestatic 100, 3) := by decide +kernel
theorem dX0_matters_41 : decode cX0_matters 41 = .ok (.if_icmp .eq 7, 3) := by decide +kernel
theorem dX0_matters_44 : decode cX0_matters 44 = .ok (.iconst 1, 1) := by decide +kernel
theorem dX0_matters_45 : decode cX0_matters 45 = .ok (.goto 4, 3) := by decide +kernel
theorem dX0_matters_48 : decode cX0_matters 48 = .ok (.iconst 0, 1) := by decide +kernel
theorem dX0_matters_49 : decode cX0_matters 49 = .ok (.ireturn, 1) := by decide +kernel
set_option maxRecDepth 20000 in
theorem ggX0_silence_X0_heard : GoodIn wsX0_silence wsX0_heard := goodIn_r _ [5, 6, 7, 8, 4, 9, 10, 11, 12, 49, 50, 51, 52, 53, 54, 55, 56, 57, 58, 59, 60] (by decide +kernel) (by decide +kernel)
set_option maxRecDepth 20000 in
theorem gX0_silence_X0_heard : GoodIn wsX0_silence (wsV RX0 114 RX0 yX0_heard wsX0_heard) := goodIn_app (goodIn_of _ (by decide +kernel)) ggX0_silence_X0_heard
set_option maxRecDepth 20000 in
theorem ggX0_silence_X0_trustOf : GoodIn wsX0_silence wsX0_trustOf := goodIn_r _ [16, 11, 49, 50, 51, 52, 53, 54, 55, 56, 57, 58, 59, 60] (by decide +kernel) (by decide +kernel)
set_option maxRecDepth 20000 in
theorem gX0_silence_X0_trustOf : GoodIn wsX0_silence (wsV RX0 145 RX0 yX0_trustOf wsX0_trustOf) := goodIn_app (goodIn_of _ (by decide +kernel)) ggX0_silence_X0_trustOf
set_option maxRecDepth 20000 in
theorem ggX0_silence_X0_settledState : GoodIn wsX0_silence wsX0_settledState := goodIn_r _ [20, 21, 22, 23, 4, 24, 25, 26, 27, 28, 29, 30, 31, 32, 33, 34, 35, 36, 37, 38, 39, 40, 41, 42, 49, 50, 51, 52, 53, 54, 55, 56, 57, 58, 59, 60] (by decide +kernel) (by decide +kernel)
set_option maxRecDepth 20000 in
theorem gX0_silence_X0_settledState : GoodIn wsX0_silence (wsV RX0 142 RX0 yX0_settledState wsX0_settledState) := goodIn_app (goodIn_of _ (by decide +kernel)) ggX0_silence_X0_settledState
set_option maxRecDepth 20000 in
theorem ggX0_silence_X0_atomsWith : GoodIn wsX0_silence wsX0_atomsWith := goodIn_r _ [45, 46, 47, 4, 48, 40, 41, 42] (by decide +kernel) (by decide +kernel)
set_option maxRecDepth 20000 in
theorem gX0_silence_X0_atomsWith : GoodIn wsX0_silence (va_wsS RX0 134 yX0_atomsWith wsX0_atomsWith) := goodIn_app (goodIn_of _ (by decide +kernel)) ggX0_silence_X0_atomsWith
theorem dX0_silence_0 : decode cX0_silence 0 = .ok (.aload_n 0, 1) := by decide +kernel
theorem dX0_silence_1 : decode cX0_silence 1 = .ok (.invokevirtual 114, 3) := by decide +kernel
theorem dX0_silence_4 : decode cX0_silence 4 = .ok (.istore_n 1, 1) := by decide +kernel
theorem dX0_silence_5 : decode cX0_silence 5 = .ok (.iconst (-1), 1) := by decide +kernel
theorem dX0_silence_6 : decode cX0_silence 6 = .ok (.istore_n 2, 1) := by decide +kernel
theorem dX0_silence_7 : decode cX0_silence 7 = .ok (.sipush 601, 3) := by decide +kernel
theorem dX0_silence_10 : decode cX0_silence 10 = .ok (.istore_n 3, 1) := by decide +kernel
theorem dX0_silence_11 : decode cX0_silence 11 = .ok (.iconst 0, 1) := by decide +kernel
theorem dX0_silence_12 : decode cX0_silence 12 = .ok (.istore 4, 2) := by decide +kernel
theorem dX0_silence_14 : decode cX0_silence 14 = .ok (.iload 4, 2) := by decide +kernel
theorem dX0_silence_16 : decode cX0_silence 16 = .ok (.bipush 64, 2) := by decide +kernel
theorem dX0_silence_18 : decode cX0_silence 18 = .ok (.if_icmp .ge 55, 3) := by decide +kernel
theorem dX0_silence_21 : decode cX0_silence 21 = .ok (.iload 4, 2) := by decide +kernel
theorem dX0_silence_23 : decode cX0_silence 23 = .ok (.iload_n 1, 1) := by decide +kernel
theorem dX0_silence_24 : decode cX0_silence 24 = .ok (.iconst (-1), 1) := by decide +kernel
theorem dX0_silence_25 : decode cX0_silence 25 = .ok (.ixor, 1) := by decide +kernel
theorem dX0_silence_26 : decode cX0_silence 26 = .ok (.iand, 1) := by decide +kernel
theorem dX0_silence_27 : decode cX0_silence 27 = .ok (.ifCond .ne 40, 3) := by decide +kernel
theorem dX0_silence_30 : decode cX0_silence 30 = .ok (.aload_n 0, 1) := by decide +kernel
theorem dX0_silence_31 : decode cX0_silence 31 = .ok (.iload 4, 2) := by decide +kernel
theorem dX0_silence_33 : decode cX0_silence 33 = .ok (.invokevirtual 145, 3) := by decide +kernel
theorem dX0_silence_36 : decode cX0_silence 36 = .ok (.istore 5, 2) := by decide +kernel
theorem dX0_silence_38 : decode cX0_silence 38 = .ok (.iload 5, 2) := by decide +kernel
theorem dX0_silence_40 : decode cX0_silence 40 = .ok (.iload_n 3, 1) := by decide +kernel
theorem dX0_silence_41 : decode cX0_silence 41 = .ok (.if_icmp .ge 26, 3) := by decide +kernel
theorem dX0_silence_44 : decode cX0_silence 44 = .ok (.aload_n 0, 1) := by decide +kernel
theorem dX0_silence_45 : decode cX0_silence 45 = .ok (.iload_n 1, 1) := by decide +kernel
theorem dX0_silence_46 : decode cX0_silence 46 = .ok (.iload 4, 2) := by decide +kernel
theorem dX0_silence_48 : decode cX0_silence 48 = .ok (.iconst (-1), 1) := by decide +kernel
theorem dX0_silence_49 : decode cX0_silence 49 = .ok (.ixor, 1) := by decide +kernel
theorem dX0_silence_50 : decode cX0_silence 50 = .ok (.iand, 1) := by decide +kernel
theorem dX0_silence_51 : decode cX0_silence 51 = .ok (.invokevirtual 142, 3) := by decide +kernel
theorem dX0_silence_54 : decode cX0_silence 54 = .ok (.iconst 3, 1) := by decide +kernel
theorem dX0_silence_55 : decode cX0_silence 55 = .ok (.invokestatic 134, 3) := by decide +kernel
theorem dX0_silence_58 : decode cX0_silence 58 = .ok (.ifCond .ne 9, 3) := by decide +kernel
theorem dX0_silence_61 : decode cX0_silence 61 = .ok (.iload 4, 2) := by decide +kernel
theorem dX0_silence_63 : decode cX0_silence 63 = .ok (.istore_n 2, 1) := by decide +kernel
theorem dX0_silence_64 : decode cX0_silence 64 = .ok (.iload 5, 2) := by decide +kernel
theorem dX0_silence_66 : decode cX0_silence 66 = .ok (.istore_n 3, 1) := by decide +kernel
theorem dX0_silence_67 : decode cX0_silence 67 = .ok (.iinc 4 1, 3) := by decide +kernel
theorem dX0_silence_70 : decode cX0_silence 70 = .ok (.goto (-56), 3) := by decide +kernel
theorem dX0_silence_73 : decode cX0_silence 73 = .ok (.iload_n 2, 1) := by decide +kernel
theorem dX0_silence_74 : decode cX0_silence 74 = .ok (.ireturn, 1) := by decide +kernel
set_option maxRecDepth 20000 in
theorem ggX0_contradicted_X0_requireSource : GoodIn wsX0_contradicted wsX0_requireSource := goodIn_ca (goodIn_r _ [5, 6, 7] (by decide +kernel) (by decide +kernel)) (goodIn_sub (fun _ h => List.mem_cons_of_mem _ (List.mem_append_right _ h)) (by decide +kernel))
set_option maxRecDepth 20000 in
theorem gX0_contradicted_X0_requireSource : GoodIn wsX0_contradicted (va_wsS RX0 97 yX0_requireSource wsX0_requireSource) := goodIn_app (goodIn_of _ (by decide +kernel)) ggX0_contradicted_X0_requireSource
set_option maxRecDepth 20000 in
theorem ggX0_contradicted_X0_settledNow : GoodIn wsX0_contradicted wsX0_settledNow := goodIn_r _ [11, 12, 13, 14, 4, 15, 16, 17, 18, 19, 20, 21, 22, 23, 24, 25, 26, 27, 28, 29, 30, 1, 31, 32, 33, 34, 35, 36, 37, 38, 39, 40, 41, 42, 43, 44, 45, 46, 47, 57, 58, 59, 60, 61, 62, 63, 64, 65, 66, 67, 68] (by decide +kernel) (by decide +kernel)
set_option maxRecDepth 20000 in
theorem gX0_contradicted_X0_settledNow : GoodIn wsX0_contradicted (wsV RX0 121 RX0 yX0_settledNow wsX0_settledNow) := goodIn_app (goodIn_of _ (by decide +kernel)) ggX0_contradicted_X0_settledNow
set_option maxRecDepth 20000 in
theorem ggX0_contradicted_X0_valueIn : GoodIn wsX0_contradicted wsX0_valueIn := goodIn_r _ [50, 45, 46, 4, 47] (by decide +kernel) (by decide +kernel)
set_option maxRecDepth 20000 in
theorem gX0_contradicted_X0_valueIn : GoodIn wsX0_contradicted (va_wsS RX0 100 yX0_valueIn wsX0_valueIn) := goodIn_app (goodIn_of _ (by decide +kernel)) ggX0_contradicted_X0_valueIn
set_option maxRecDepth 20000 in
theorem ggX0_contradicted_X0_isAgainst : GoodIn wsX0_contradicted wsX0_isAgainst := goodIn_r _ [53, 54, 55, 4, 56] (by decide +kernel) (by decide +kernel)
set_option maxRecDepth 20000 in
theorem gX0_contradicted_X0_isAgainst : GoodIn wsX0_contradicted (va_wsS RX0 148 yX0_isAgainst wsX0_isAgainst) := goodIn_app (goodIn_of _ (by decide +kernel)) ggX0_contradicted_X0_isAgainst
theorem dX0_contradicted_0 : decode cX0_contradicted 0 = .ok (.iload_n 1, 1) := by decide +kernel
theorem dX0_contradicted_1 : decode cX0_contradicted 1 = .ok (.invokestatic 97, 3) := by decide +kernel
theorem dX0_contradicted_4 : decode cX0_contradicted 4 = .ok (.aload_n 0, 1) := by decide +kernel
theorem dX0_contradicted_5 : decode cX0_contradicted 5 = .ok (.invokevirtual 121, 3) := by decide +kernel
theorem dX0_contradicted_8 : decode cX0_contradicted 8 = .ok (.istore_n 2, 1) := by decide +kernel
theorem dX0_contradicted_9 : decode cX0_contradicted 9 = .ok (.iconst 0, 1) := by decide +kernel
theorem dX0_contradicted_10 : decode cX0_contradicted 10 = .ok (.istore_n 3, 1) := by decide +kernel
theorem dX0_contradicted_11 : decode cX0_contradicted 11 = .ok (.iconst 0, 1) := by decide +kernel
theorem dX0_contradicted_12 : decode cX0_contradicted 12 = .ok (.istore 4, 2) := by decide +kernel
theorem dX0_contradicted_14 : decode cX0_contradicted 14 = .ok (.iload 4, 2) := by decide +kernel
theorem dX0_contradicted_16 : decode cX0_contradicted 16 = .ok (.bipush 6, 2) := by decide +kernel
theorem dX0_contradicted_18 : decode cX0_contradicted 18 = .ok (.if_icmp .ge 35, 3) := by decide +kernel
theorem dX0_contradicted_21 : decode cX0_contradicted 21 = .ok (.aload_n 0, 1) := by decide +kernel
theorem dX0_contradicted_22 : decode cX0_contradicted 22 = .ok (.getfield 34, 3) := by decide +kernel
theorem dX0_contradicted_25 : decode cX0_contradicted 25 = .ok (.iload_n 1, 1) := by decide +kernel
theorem dX0_contradicted_26 : decode cX0_contradicted 26 = .ok (.iaload, 1) := by decide +kernel
theorem dX0_contradicted_27 : decode cX0_contradicted 27 = .ok (.iload 4, 2) := by decide +kernel
theorem dX0_contradicted_29 : decode cX0_contradicted 29 = .ok (.invokestatic 100, 3) := by decide +kernel
theorem dX0_contradicted_32 : decode cX0_contradicted 32 = .ok (.iload_n 2, 1) := by decide +kernel
theorem dX0_contradicted_33 : decode cX0_contradicted 33 = .ok (.iload 4, 2) := by decide +kernel
theorem dX0_contradicted_35 : decode cX0_contradicted 35 = .ok (.invokestatic 100, 3) := by decide +kernel
theorem dX0_contradicted_38 : decode cX0_contradicted 38 = .ok (.invokestatic 148, 3) := by decide +kernel
theorem dX0_contradicted_41 : decode cX0_contradicted 41 = .ok (.ifCond .eq 6, 3) := by decide +kernel
theorem dX0_contradicted_44 : decode cX0_contradicted 44 = .ok (.iinc 3 1, 3) := by decide +kernel
theorem dX0_contradicted_47 : decode cX0_contradicted 47 = .ok (.iinc 4 1, 3) := by decide +kernel
theorem dX0_contradicted_50 : decode cX0_contradicted 50 = .ok (.goto (-36), 3) := by decide +kernel
theorem dX0_contradicted_53 : decode cX0_contradicted 53 = .ok (.iload_n 3, 1) := by decide +kernel
theorem dX0_contradicted_54 : decode cX0_contradicted 54 = .ok (.ireturn, 1) := by decide +kernel
set_option maxRecDepth 20000 in
theorem ggX0_setLogic_X0_triplesOf : GoodIn wsX0_setLogic wsX0_triplesOf := goodIn_r _ [8] (by decide +kernel) (by decide +kernel)
set_option maxRecDepth 20000 in
theorem gX0_setLogic_X0_triplesOf : GoodIn wsX0_setLogic (va_wsS RX0 154 yX0_triplesOf wsX0_triplesOf) := goodIn_app (goodIn_of _ (by decide +kernel)) ggX0_setLogic_X0_triplesOf
theorem dX0_setLogic_0 : decode cX0_setLogic 0 = .ok (.iload_n 1, 1) := by decide +kernel
theorem dX0_setLogic_1 : decode cX0_setLogic 1 = .ok (.iconst 1, 1) := by decide +kernel
theorem dX0_setLogic_2 : decode cX0_setLogic 2 = .ok (.if_icmp .lt 9, 3) := by decide +kernel
theorem dX0_setLogic_5 : decode cX0_setLogic 5 = .ok (.iload_n 1, 1) := by decide +kernel
theorem dX0_setLogic_6 : decode cX0_setLogic 6 = .ok (.bipush 15, 2) := by decide +kernel
theorem dX0_setLogic_8 : decode cX0_setLogic 8 = .ok (.if_icmp .le 13, 3) := by decide +kernel
theorem dX0_setLogic_11 : decode cX0_setLogic 11 = .ok (.new 80, 3) := by decide +kernel
theorem dX0_setLogic_14 : decode cX0_setLogic 14 = .ok (.dup, 1) := by decide +kernel
theorem dX0_setLogic_15 : decode cX0_setLogic 15 = .ok (.ldc 152, 2) := by decide +kernel
theorem dX0_setLogic_17 : decode cX0_setLogic 17 = .ok (.invokespecial 84, 3) := by decide +kernel
theorem dX0_setLogic_20 : decode cX0_setLogic 20 = .ok (.athrow, 1) := by decide +kernel
theorem dX0_setLogic_21 : decode cX0_setLogic 21 = .ok (.aload_n 0, 1) := by decide +kernel
theorem dX0_setLogic_22 : decode cX0_setLogic 22 = .ok (.getfield 43, 3) := by decide +kernel
theorem dX0_setLogic_25 : decode cX0_setLogic 25 = .ok (.istore_n 2, 1) := by decide +kernel
theorem dX0_setLogic_26 : decode cX0_setLogic 26 = .ok (.aload_n 0, 1) := by decide +kernel
theorem dX0_setLogic_27 : decode cX0_setLogic 27 = .ok (.iload_n 1, 1) := by decide +kernel
theorem dX0_setLogic_28 : decode cX0_setLogic 28 = .ok (.putfield 43, 3) := by decide +kernel
theorem dX0_setLogic_31 : decode cX0_setLogic 31 = .ok (.aload_n 0, 1) := by decide +kernel
theorem dX0_setLogic_32 : decode cX0_setLogic 32 = .ok (.iload_n 1, 1) := by decide +kernel
theorem dX0_setLogic_33 : decode cX0_setLogic 33 = .ok (.invokestatic 154, 3) := by decide +kernel
theorem dX0_setLogic_36 : decode cX0_setLogic 36 = .ok (.putfield 48, 3) := by decide +kernel
theorem dX0_setLogic_39 : decode cX0_setLogic 39 = .ok (.iload_n 2, 1) := by decide +kernel
theorem dX0_setLogic_40 : decode cX0_setLogic 40 = .ok (.ireturn, 1) := by decide +kernel
set_option maxRecDepth 20000 in
theorem ggX0_models_X0_requireFormula : GoodIn wsX0_models wsX0_requireFormula := goodIn_ca (goodIn_r _ [6, 7, 8, 9, 25, 26, 27, 28, 29, 30, 31, 32, 33, 34, 35, 36] (by decide +kernel) (by decide +kernel)) (goodIn_sub (fun _ h => List.mem_cons_of_mem _ (List.mem_append_right _ h)) (by decide +kernel))
set_option maxRecDepth 20000 in
theorem gX0_models_X0_requireFormula : GoodIn wsX0_models (wsV RX0 77 RX0 yX0_requireFormula wsX0_requireFormula) := goodIn_app (goodIn_of _ (by decide +kernel)) ggX0_models_X0_requireFormula
set_option maxRecDepth 20000 in
theorem ggX0_models_X0_rowOf : GoodIn wsX0_models wsX0_rowOf := goodIn_r _ [12] (by decide +kernel) (by decide +kernel)
set_option maxRecDepth 20000 in
theorem gX0_models_X0_rowOf : GoodIn wsX0_models (va_wsS RX0 63 yX0_rowOf wsX0_rowOf) := goodIn_app (goodIn_of _ (by decide +kernel)) ggX0_models_X0_rowOf
set_option maxRecDepth 20000 in
theorem ggX0_models_X0_logicWord : GoodIn wsX0_models wsX0_logicWord := goodIn_r _ [16, 17, 25, 26, 27, 28, 29, 30, 31, 32, 33, 34, 35, 36] (by decide +kernel) (by decide +kernel)
set_option maxRecDepth 20000 in
theorem gX0_models_X0_logicWord : GoodIn wsX0_models (wsV RX0 158 RX0 yX0_logicWord wsX0_logicWord) := goodIn_app (goodIn_of _ (by decide +kernel)) ggX0_models_X0_logicWord
set_option maxRecDepth 20000 in
theorem ggX0_models_J13_bitCount_95d88 : GoodIn wsX0_models wsJ13_bitCount_95d88 := goodIn_r _ [21, 22, 23, 24] (by decide +kernel) (by decide +kernel)
set_option maxRecDepth 20000 in
theorem gX0_models_J13_bitCount_95d88 : GoodIn wsX0_models (va_wsS RX0 161 yJ13_bitCount_95d88 wsJ13_bitCount_95d88) := goodIn_app (goodIn_of _ (by decide +kernel)) ggX0_models_J13_bitCount_95d88
theorem dX0_models_0 : decode cX0_models 0 = .ok (.aload_n 0, 1) := by decide +kernel
theorem dX0_models_1 : decode cX0_models 1 = .ok (.iload_n 1, 1) := by decide +kernel
theorem dX0_models_2 : decode cX0_models 2 = .ok (.invokevirtual 77, 3) := by decide +kernel
theorem dX0_models_5 : decode cX0_models 5 = .ok (.iload_n 1, 1) := by decide +kernel
theorem dX0_models_6 : decode cX0_models 6 = .ok (.invokestatic 63, 3) := by decide +kernel
theorem dX0_models_9 : decode cX0_models 9 = .ok (.istore_n 2, 1) := by decide +kernel
theorem dX0_models_10 : decode cX0_models 10 = .ok (.iconst 0, 1) := by decide +kernel
theorem dX0_models_11 : decode cX0_models 11 = .ok (.istore_n 3, 1) := by decide +kernel
theorem dX0_models_12 : decode cX0_models 12 = .ok (.iconst 0, 1) := by decide +kernel
theorem dX0_models_13 : decode cX0_models 13 = .ok (.istore 4, 2) := by decide +kernel
theorem dX0_models_15 : decode cX0_models 15 = .ok (.iload 4, 2) := by decide +kernel
theorem dX0_models_17 : decode cX0_models 17 = .ok (.bipush 64, 2) := by decide +kernel
theorem dX0_models_19 : decode cX0_models 19 = .ok (.if_icmp .ge 31, 3) := by decide +kernel
theorem dX0_models_22 : decode cX0_models 22 = .ok (.iload_n 3, 1) := by decide +kernel
theorem dX0_models_23 : decode cX0_models 23 = .ok (.aload_n 0, 1) := by decide +kernel
theorem dX0_models_24 : decode cX0_models 24 = .ok (.getfield 21, 3) := by decide +kernel
theorem dX0_models_27 : decode cX0_models 27 = .ok (.iload_n 2, 1) := by decide +kernel
theorem dX0_models_28 : decode cX0_models 28 = .ok (.iload 4, 2) := by decide +kernel
theorem dX0_models_30 : decode cX0_models 30 = .ok (.iadd, 1) := by decide +kernel
theorem dX0_models_31 : decode cX0_models 31 = .ok (.laload, 1) := by decide +kernel
theorem dX0_models_32 : decode cX0_models 32 = .ok (.aload_n 0, 1) := by decide +kernel
theorem dX0_models_33 : decode cX0_models 33 = .ok (.iload 4, 2) := by decide +kernel
theorem dX0_models_35 : decode cX0_models 35 = .ok (.invokevirtual 158, 3) := by decide +kernel
theorem dX0_models_38 : decode cX0_models 38 = .ok (.land, 1) := by decide +kernel
theorem dX0_models_39 : decode cX0_models 39 = .ok (.invokestatic 161, 3) := by decide +kernel
theorem dX0_models_42 : decode cX0_models 42 = .ok (.iadd, 1) := by decide +kernel
theorem dX0_models_43 : decode cX0_models 43 = .ok (.istore_n 3, 1) := by decide +kernel
theorem dX0_models_44 : decode cX0_models 44 = .ok (.iinc 4 1, 3) := by decide +kernel
theorem dX0_models_47 : decode cX0_models 47 = .ok (.goto (-32), 3) := by decide +kernel
theorem dX0_models_50 : decode cX0_models 50 = .ok (.iload_n 3, 1) := by decide +kernel
theorem dX0_models_51 : decode cX0_models 51 = .ok (.ireturn, 1) := by decide +kernel
set_option maxRecDepth 20000 in
theorem ggX0_range_X0_requireFormula : GoodIn wsX0_range wsX0_requireFormula := goodIn_ca (goodIn_r _ [7, 8, 9, 10, 26, 27, 28, 29, 30, 31, 32, 33, 34, 35, 36, 37] (by decide +kernel) (by decide +kernel)) (goodIn_sub (fun _ h => List.mem_cons_of_mem _ (List.mem_append_right _ h)) (by decide +kernel))
set_option maxRecDepth 20000 in
theorem gX0_range_X0_requireFormula : GoodIn wsX0_range (wsV RX0 77 RX0 yX0_requireFormula wsX0_requireFormula) := goodIn_app (goodIn_of _ (by decide +kernel)) ggX0_range_X0_requireFormula
set_option maxRecDepth 20000 in
theorem ggX0_range_X0_rowOf : GoodIn wsX0_range wsX0_rowOf := goodIn_r _ [13] (by decide +kernel) (by decide +kernel)
set_option maxRecDepth 20000 in
theorem gX0_range_X0_rowOf : GoodIn wsX0_range (va_wsS RX0 63 yX0_rowOf wsX0_rowOf) := goodIn_app (goodIn_of _ (by decide +kernel)) ggX0_range_X0_rowOf
set_option maxRecDepth 20000 in
theorem ggX0_range_X0_pick : GoodIn wsX0_range wsX0_pick := goodIn_r _ [16, 17, 18, 19, 6, 20] (by decide +kernel) (by decide +kernel)
set_option maxRecDepth 20000 in
theorem gX0_range_X0_pick : GoodIn wsX0_range (va_wsS RX0 166 yX0_pick wsX0_pick) := goodIn_app (goodIn_of _ (by decide +kernel)) ggX0_range_X0_pick
set_option maxRecDepth 20000 in
theorem ggX0_range_X0_logicWord : GoodIn wsX0_range wsX0_logicWord := goodIn_r _ [24, 25, 26, 27, 28, 29, 30, 31, 32, 33, 34, 35, 36, 37] (by decide +kernel) (by decide +kernel)
set_option maxRecDepth 20000 in
theorem gX0_range_X0_logicWord : GoodIn wsX0_range (wsV RX0 158 RX0 yX0_logicWord wsX0_logicWord) := goodIn_app (goodIn_of _ (by decide +kernel)) ggX0_range_X0_logicWord
theorem dX0_range_0 : decode cX0_range 0 = .ok (.aload_n 0, 1) := by decide +kernel
theorem dX0_range_1 : decode cX0_range 1 = .ok (.iload_n 1, 1) := by decide +kernel
theorem dX0_range_2 : decode cX0_range 2 = .ok (.invokevirtual 77, 3) := by decide +kernel
theorem dX0_range_5 : decode cX0_range 5 = .ok (.iload_n 1, 1) := by decide +kernel
theorem dX0_range_6 : decode cX0_range 6 = .ok (.invokestatic 63, 3) := by decide +kernel
theorem dX0_range_9 : decode cX0_range 9 = .ok (.istore_n 2, 1) := by decide +kernel
theorem dX0_range_10 : decode cX0_range 10 = .ok (.iconst 0, 1) := by decide +kernel
theorem dX0_range_11 : decode cX0_range 11 = .ok (.istore_n 3, 1) := by decide +kernel
theorem dX0_range_12 : decode cX0_range 12 = .ok (.iconst 0, 1) := by decide +kernel
theorem dX0_range_13 : decode cX0_range 13 = .ok (.istore 4, 2) := by decide +kernel
theorem dX0_range_15 : decode cX0_range 15 = .ok (.iload 4, 2) := by decide +kernel
theorem dX0_range_17 : decode cX0_range 17 = .ok (.bipush 64, 2) := by decide +kernel
theorem dX0_range_19 : decode cX0_range 19 = .ok (.if_icmp .ge 70, 3) := by decide +kernel
theorem dX0_range_22 : decode cX0_range 22 = .ok (.iconst 0, 1) := by decide +kernel
theorem dX0_range_23 : decode cX0_range 23 = .ok (.istore 5, 2) := by decide +kernel
theorem dX0_range_25 : decode cX0_range 25 = .ok (.iload 5, 2) := by decide +kernel
theorem dX0_range_27 : decode cX0_range 27 = .ok (.iconst 3, 1) := by decide +kernel
theorem dX0_range_28 : decode cX0_range 28 = .ok (.if_icmp .gt 55, 3) := by decide +kernel
theorem dX0_range_31 : decode cX0_range 31 = .ok (.aload_n 0, 1) := by decide +kernel
theorem dX0_range_32 : decode cX0_range 32 = .ok (.getfield 21, 3) := by decide +kernel
theorem dX0_range_35 : decode cX0_range 35 = .ok (.iload_n 2, 1) := by decide +kernel
theorem dX0_range_36 : decode cX0_range 36 = .ok (.iload 4, 2) := by decide +kernel
theorem dX0_range_38 : decode cX0_range 38 = .ok (.iadd, 1) := by decide +kernel
theorem dX0_range_39 : decode cX0_range 39 = .ok (.laload, 1) := by decide +kernel
theorem dX0_range_40 : decode cX0_range 40 = .ok (.aload_n 0, 1) := by decide +kernel
theorem dX0_range_41 : decode cX0_range 41 = .ok (.getfield 25, 3) := by decide +kernel
theorem dX0_range_44 : decode cX0_range 44 = .ok (.iload_n 2, 1) := by decide +kernel
theorem dX0_range_45 : decode cX0_range 45 = .ok (.iload 4, 2) := by decide +kernel
theorem dX0_range_47 : decode cX0_range 47 = .ok (.iadd, 1) := by decide +kernel
theorem dX0_range_48 : decode cX0_range 48 = .ok (.laload, 1) := by decide +kernel
theorem dX0_range_49 : decode cX0_range 49 = .ok (.iload 5, 2) := by decide +kernel
theorem dX0_range_51 : decode cX0_range 51 = .ok (.invokestatic 166, 3) := by decide +kernel
theorem dX0_range_54 : decode cX0_range 54 = .ok (.lstore 6, 2) := by decide +kernel
theorem dX0_range_56 : decode cX0_range 56 = .ok (.lload 6, 2) := by decide +kernel
theorem dX0_range_58 : decode cX0_range 58 = .ok (.aload_n 0, 1) := by decide +kernel
theorem dX0_range_59 : decode cX0_range 59 = .ok (.iload 4, 2) := by decide +kernel
theorem dX0_range_61 : decode cX0_range 61 = .ok (.invokevirtual 158, 3) := by decide +kernel
theorem dX0_range_64 : decode cX0_range 64 = .ok (.land, 1) := by decide +kernel
theorem dX0_range_65 : decode cX0_range 65 = .ok (.lconst 0, 1) := by decide +kernel
theorem dX0_range_66 : decode cX0_range 66 = .ok (.lcmp, 1) := by decide +kernel
theorem dX0_range_67 : decode cX0_range 67 = .ok (.ifCond .eq 10, 3) := by decide +kernel
theorem dX0_range_70 : decode cX0_range 70 = .ok (.iload_n 3, 1) := by decide +kernel
theorem dX0_range_71 : decode cX0_range 71 = .ok (.iconst 1, 1) := by decide +kernel
theorem dX0_range_72 : decode cX0_range 72 = .ok (.iload 5, 2) := by decide +kernel
theorem dX0_range_74 : decode cX0_range 74 = .ok (.ishl, 1) := by decide +kernel
theorem dX0_range_75 : decode cX0_range 75 = .ok (.ior, 1) := by decide +kernel
theorem dX0_range_76 : decode cX0_range 76 = .ok (.istore_n 3, 1) := by decide +kernel
theorem dX0_range_77 : decode cX0_range 77 = .ok (.iinc 5 1, 3) := by decide +kernel
theorem dX0_range_80 : decode cX0_range 80 = .ok (.goto (-55), 3) := by decide +kernel
theorem dX0_range_83 : decode cX0_range 83 = .ok (.iinc 4 1, 3) := by decide +kernel
theorem dX0_range_86 : decode cX0_range 86 = .ok (.goto (-71), 3) := by decide +kernel
theorem dX0_range_89 : decode cX0_range 89 = .ok (.iload_n 3, 1) := by decide +kernel
theorem dX0_range_90 : decode cX0_range 90 = .ok (.ireturn, 1) := by decide +kernel
set_option maxRecDepth 20000 in
theorem ggX0_entails_X0_against : GoodIn wsX0_entails wsX0_against := goodIn_ca (goodIn_r _ [5, 6, 7, 8, 9, 10, 4, 11, 12, 13, 14, 15, 16, 17, 18, 19, 20, 21, 22, 23, 24, 25, 26, 27, 28, 29, 30, 31, 32, 33, 34, 35, 36, 37, 38, 39, 40, 41, 42, 43, 44] (by decide +kernel) (by decide +kernel)) (goodIn_sub (fun _ h => List.mem_cons_of_mem _ (List.mem_append_right _ h)) (by decide +kernel))
set_option maxRecDepth 20000 in
theorem gX0_entails_X0_against : GoodIn wsX0_entails (wsV RX0 170 RX0 yX0_against wsX0_against) := goodIn_app (goodIn_of _ (by decide +kernel)) ggX0_entails_X0_against
theorem dX0_entails_0 : decode cX0_entails 0 = .ok (.aload_n 0, 1) := by decide +kernel
theorem dX0_entails_1 : decode cX0_entails 1 = .ok (.iload_n 1, 1) := by decide +kernel
theorem dX0_entails_2 : decode cX0_entails 2 = .ok (.iload_n 2, 1) := by decide +kernel
theorem dX0_entails_3 : decode cX0_entails 3 = .ok (.invokevirtual 170, 3) := by decide +kernel
theorem dX0_entails_6 : decode cX0_entails 6 = .ok (.iconst (-1), 1) := by decide +kernel
theorem dX0_entails_7 : decode cX0_entails 7 = .ok (.if_icmp .ne 7, 3) := by decide +kernel
theorem dX0_entails_10 : decode cX0_entails 10 = .ok (.iconst 1, 1) := by decide +kernel
theorem dX0_entails_11 : decode cX0_entails 11 = .ok (.goto 4, 3) := by decide +kernel
theorem dX0_entails_14 : decode cX0_entails 14 = .ok (.iconst 0, 1) := by decide +kernel
theorem dX0_entails_15 : decode cX0_entails 15 = .ok (.ireturn, 1) := by decide +kernel
set_option maxRecDepth 20000 in
theorem ggX0_against_X0_requireFormula : GoodIn wsX0_against wsX0_requireFormula := goodIn_ca (goodIn_r _ [7, 8, 9, 10, 29, 30, 31, 32, 33, 34, 35, 36, 37, 38, 39, 40] (by decide +kernel) (by decide +kernel)) (goodIn_sub (fun _ h => List.mem_cons_of_mem _ (List.mem_append_right _ h)) (by decide +kernel))
set_option maxRecDepth 20000 in
theorem gX0_against_X0_requireFormula : GoodIn wsX0_against (wsV RX0 77 RX0 yX0_requireFormula wsX0_requireFormula) := goodIn_app (goodIn_of _ (by decide +kernel)) ggX0_against_X0_requireFormula
set_option maxRecDepth 20000 in
theorem ggX0_against_X0_rowOf : GoodIn wsX0_against wsX0_rowOf := goodIn_r _ [13] (by decide +kernel) (by decide +kernel)
set_option maxRecDepth 20000 in
theorem gX0_against_X0_rowOf : GoodIn wsX0_against (va_wsS RX0 63 yX0_rowOf wsX0_rowOf) := goodIn_app (goodIn_of _ (by decide +kernel)) ggX0_against_X0_rowOf
set_option maxRecDepth 20000 in
theorem ggX0_against_X0_logicWord : GoodIn wsX0_against wsX0_logicWord := goodIn_r _ [17, 18, 29, 30, 31, 32, 33, 34, 35, 36, 37, 38, 39, 40] (by decide +kernel) (by decide +kernel)
set_option maxRecDepth 20000 in
theorem gX0_against_X0_logicWord : GoodIn wsX0_against (wsV RX0 158 RX0 yX0_logicWord wsX0_logicWord) := goodIn_app (goodIn_of _ (by decide +kernel)) ggX0_against_X0_logicWord
set_option maxRecDepth 20000 in
theorem ggX0_against_X0_lowestBit : GoodIn wsX0_against wsX0_lowestBit := goodIn_r _ [21, 22, 23, 24, 25, 26, 27, 28] (by decide +kernel) (by decide +kernel)
set_option maxRecDepth 20000 in
theorem gX0_against_X0_lowestBit : GoodIn wsX0_against (va_wsS RX0 173 yX0_lowestBit wsX0_lowestBit) := goodIn_app (goodIn_of _ (by decide +kernel)) ggX0_against_X0_lowestBit
theorem dX0_against_0 : decode cX0_against 0 = .ok (.aload_n 0, 1) := by decide +kernel
theorem dX0_against_1 : decode cX0_against 1 = .ok (.iload_n 1, 1) := by decide +kernel
theorem dX0_against_2 : decode cX0_against 2 = .ok (.invokevirtual 77, 3) := by decide +kernel
theorem dX0_against_5 : decode cX0_against 5 = .ok (.aload_n 0, 1) := by decide +kernel
theorem dX0_against_6 : decode cX0_against 6 = .ok (.iload_n 2, 1) := by decide +kernel
theorem dX0_against_7 : decode cX0_against 7 = .ok (.invokevirtual 77, 3) := by decide +kernel
theorem dX0_against_10 : decode cX0_against 10 = .ok (.iload_n 1, 1) := by decide +kernel
theorem dX0_against_11 : decode cX0_against 11 = .ok (.invokestatic 63, 3) := by decide +kernel
theorem dX0_against_14 : decode cX0_against 14 = .ok (.istore_n 3, 1) := by decide +kernel
theorem dX0_against_15 : decode cX0_against 15 = .ok (.iload_n 2, 1) := by decide +kernel
theorem dX0_against_16 : decode cX0_against 16 = .ok (.invokestatic 63, 3) := by decide +kernel
theorem dX0_against_19 : decode cX0_against 19 = .ok (.istore 4, 2) := by decide +kernel
theorem dX0_against_21 : decode cX0_against 21 = .ok (.iconst 0, 1) := by decide +kernel
theorem dX0_against_22 : decode cX0_against 22 = .ok (.istore 5, 2) := by decide +kernel
theorem dX0_against_24 : decode cX0_against 24 = .ok (.iload 5, 2) := by decide +kernel
theorem dX0_against_26 : decode cX0_against 26 = .ok (.bipush 64, 2) := by decide +kernel
theorem dX0_against_28 : decode cX0_against 28 = .ok (.if_icmp .ge 61, 3) := by decide +kernel
theorem dX0_against_31 : decode cX0_against 31 = .ok (.aload_n 0, 1) := by decide +kernel
theorem dX0_against_32 : decode cX0_against 32 = .ok (.getfield 21, 3) := by decide +kernel
theorem dX0_against_35 : decode cX0_against 35 = .ok (.iload_n 3, 1) := by decide +kernel
theorem dX0_against_36 : decode cX0_against 36 = .ok (.iload 5, 2) := by decide +kernel
theorem dX0_against_38 : decode cX0_against 38 = .ok (.iadd, 1) := by decide +kernel
theorem dX0_against_39 : decode cX0_against 39 = .ok (.laload, 1) := by decide +kernel
theorem dX0_against_40 : decode cX0_against 40 = .ok (.aload_n 0, 1) := by decide +kernel
theorem dX0_against_41 : decode cX0_against 41 = .ok (.getfield 21, 3) := by decide +kernel
theorem dX0_against_44 : decode cX0_against 44 = .ok (.iload 4, 2) := by decide +kernel
theorem dX0_against_46 : decode cX0_against 46 = .ok (.iload 5, 2) := by decide +kernel
theorem dX0_against_48 : decode cX0_against 48 = .ok (.iadd, 1) := by decide +kernel
theorem dX0_against_49 : decode cX0_against 49 = .ok (.laload, 1) := by decide +kernel
theorem dX0_against_50 : decode cX0_against 50 = .ok (.ldc2_w 46, 3) := by decide +kernel
theorem dX0_against_53 : decode cX0_against 53 = .ok (.lxor, 1) := by decide +kernel
theorem dX0_against_54 : decode cX0_against 54 = .ok (.land, 1) := by decide +kernel
theorem dX0_against_55 : decode cX0_against 55 = .ok (.aload_n 0, 1) := by decide +kernel
theorem dX0_against_56 : decode cX0_against 56 = .ok (.iload 5, 2) := by decide +kernel
theorem dX0_against_58 : decode cX0_against 58 = .ok (.invokevirtual 158, 3) := by decide +kernel
theorem dX0_against_61 : decode cX0_against 61 = .ok (.land, 1) := by decide +kernel
theorem dX0_against_62 : decode cX0_against 62 = .ok (.lstore 6, 2) := by decide +kernel
theorem dX0_against_64 : decode cX0_against 64 = .ok (.lload 6, 2) := by decide +kernel
theorem dX0_against_66 : decode cX0_against 66 = .ok (.lconst 0, 1) := by decide +kernel
theorem dX0_against_67 : decode cX0_against 67 = .ok (.lcmp, 1) := by decide +kernel
theorem dX0_against_68 : decode cX0_against 68 = .ok (.ifCond .eq 15, 3) := by decide +kernel
theorem dX0_against_71 : decode cX0_against 71 = .ok (.iload 5, 2) := by decide +kernel
theorem dX0_against_73 : decode cX0_against 73 = .ok (.bipush 64, 2) := by decide +kernel
theorem dX0_against_75 : decode cX0_against 75 = .ok (.imul, 1) := by decide +kernel
theorem dX0_against_76 : decode cX0_against 76 = .ok (.lload 6, 2) := by decide +kernel
theorem dX0_against_78 : decode cX0_against 78 = .ok (.invokestatic 173, 3) := by decide +kernel
theorem dX0_against_81 : decode cX0_against 81 = .ok (.iadd, 1) := by decide +kernel
theorem dX0_against_82 : decode cX0_against 82 = .ok (.ireturn, 1) := by decide +kernel
theorem dX0_against_83 : decode cX0_against 83 = .ok (.iinc 5 1, 3) := by decide +kernel
theorem dX0_against_86 : decode cX0_against 86 = .ok (.goto (-62), 3) := by decide +kernel
theorem dX0_against_89 : decode cX0_against 89 = .ok (.iconst (-1), 1) := by decide +kernel
theorem dX0_against_90 : decode cX0_against 90 = .ok (.ireturn, 1) := by decide +kernel
set_option maxRecDepth 20000 in
theorem ggX0_areEqual_X0_requireFormula : GoodIn wsX0_areEqual wsX0_requireFormula := goodIn_ca (goodIn_r _ [5, 6, 7, 8, 23, 24, 25, 26, 27, 28, 29, 30, 31, 32, 33, 34] (by decide +kernel) (by decide +kernel)) (goodIn_sub (fun _ h => List.mem_cons_of_mem _ (List.mem_append_right _ h)) (by decide +kernel))
set_option maxRecDepth 20000 in
theorem gX0_areEqual_X0_requireFormula : GoodIn wsX0_areEqual (wsV RX0 77 RX0 yX0_requireFormula wsX0_requireFormula) := goodIn_app (goodIn_of _ (by decide +kernel)) ggX0_areEqual_X0_requireFormula
set_option maxRecDepth 20000 in
theorem ggX0_areEqual_X0_rowOf : GoodIn wsX0_areEqual wsX0_rowOf := goodIn_r _ [11] (by decide +kernel) (by decide +kernel)
set_option maxRecDepth 20000 in
theorem gX0_areEqual_X0_rowOf : GoodIn wsX0_areEqual (va_wsS RX0 63 yX0_rowOf wsX0_rowOf) := goodIn_app (goodIn_of _ (by decide +kernel)) ggX0_areEqual_X0_rowOf
set_option maxRecDepth 20000 in
theorem ggX0_areEqual_X0_differing : GoodIn wsX0_areEqual wsX0_differing := goodIn_r _ [15, 16, 17, 23, 24, 25, 26, 27, 28, 29, 30, 31, 32, 33, 34] (by decide +kernel) (by decide +kernel)
set_option maxRecDepth 20000 in
theorem gX0_areEqual_X0_differing : GoodIn wsX0_areEqual (wsV RX0 176 RX0 yX0_differing wsX0_differing) := goodIn_app (goodIn_of _ (by decide +kernel)) ggX0_areEqual_X0_differing
set_option maxRecDepth 20000 in
theorem ggX0_areEqual_X0_logicWord : GoodIn wsX0_areEqual wsX0_logicWord := goodIn_r _ [21, 22, 23, 24, 25, 26, 27, 28, 29, 30, 31, 32, 33, 34] (by decide +kernel) (by decide +kernel)
set_option maxRecDepth 20000 in
theorem gX0_areEqual_X0_logicWord : GoodIn wsX0_areEqual (wsV RX0 158 RX0 yX0_logicWord wsX0_logicWord) := goodIn_app (goodIn_of _ (by decide +kernel)) ggX0_areEqual_X0_logicWord
theorem dX0_areEqual_0 : decode cX0_areEqual 0 = .ok (.aload_n 0, 1) := by decide +kernel
theorem dX0_areEqual_1 : decode cX0_areEqual 1 = .ok (.iload_n 1, 1) := by decide +kernel
theorem dX0_areEqual_2 : decode cX0_areEqual 2 = .ok (.invokevirtual 77, 3) := by decide +kernel
theorem dX0_areEqual_5 : decode cX0_areEqual 5 = .ok (.aload_n 0, 1) := by decide +kernel
theorem dX0_areEqual_6 : decode cX0_areEqual 6 = .ok (.iload_n 2, 1) := by decide +kernel
theorem dX0_areEqual_7 : decode cX0_areEqual 7 = .ok (.invokevirtual 77, 3) := by decide +kernel
theorem dX0_areEqual_10 : decode cX0_areEqual 10 = .ok (.iload_n 1, 1) := by decide +kernel
theorem dX0_areEqual_11 : decode cX0_areEqual 11 = .ok (.invokestatic 63, 3) := by decide +kernel
theorem dX0_areEqual_14 : decode cX0_areEqual 14 = .ok (.istore_n 3, 1) := by decide +kernel
theorem dX0_areEqual_15 : decode cX0_areEqual 15 = .ok (.iload_n 2, 1) := by decide +kernel
theorem dX0_areEqual_16 : decode cX0_areEqual 16 = .ok (.invokestatic 63, 3) := by decide +kernel
theorem dX0_areEqual_19 : decode cX0_areEqual 19 = .ok (.istore 4, 2) := by decide +kernel
theorem dX0_areEqual_21 : decode cX0_areEqual 21 = .ok (.iconst 0, 1) := by decide +kernel
theorem dX0_areEqual_22 : decode cX0_areEqual 22 = .ok (.istore 5, 2) := by decide +kernel
theorem dX0_areEqual_24 : decode cX0_areEqual 24 = .ok (.iload 5, 2) := by decide +kernel
theorem dX0_areEqual_26 : decode cX0_areEqual 26 = .ok (.bipush 64, 2) := by decide +kernel
theorem dX0_areEqual_28 : decode cX0_areEqual 28 = .ok (.if_icmp .ge 37, 3) := by decide +kernel
theorem dX0_areEqual_31 : decode cX0_areEqual 31 = .ok (.aload_n 0, 1) := by decide +kernel
theorem dX0_areEqual_32 : decode cX0_areEqual 32 = .ok (.iload_n 3, 1) := by decide +kernel
theorem dX0_areEqual_33 : decode cX0_areEqual 33 = .ok (.iload 5, 2) := by decide +kernel
theorem dX0_areEqual_35 : decode cX0_areEqual 35 = .ok (.iadd, 1) := by decide +kernel
theorem dX0_areEqual_36 : decode cX0_areEqual 36 = .ok (.iload 4, 2) := by decide +kernel
theorem dX0_areEqual_38 : decode cX0_areEqual 38 = .ok (.iload 5, 2) := by decide +kernel
theorem dX0_areEqual_40 : decode cX0_areEqual 40 = .ok (.iadd, 1) := by decide +kernel
theorem dX0_areEqual_41 : decode cX0_areEqual 41 = .ok (.iconst 0, 1) := by decide +kernel
theorem dX0_areEqual_42 : decode cX0_areEqual 42 = .ok (.invokevirtual 176, 3) := by decide +kernel
theorem dX0_areEqual_45 : decode cX0_areEqual 45 = .ok (.aload_n 0, 1) := by decide +kernel
theorem dX0_areEqual_46 : decode cX0_areEqual 46 = .ok (.iload 5, 2) := by decide +kernel
theorem dX0_areEqual_48 : decode cX0_areEqual 48 = .ok (.invokevirtual 158, 3) := by decide +kernel
theorem dX0_areEqual_51 : decode cX0_areEqual 51 = .ok (.land, 1) := by decide +kernel
theorem dX0_areEqual_52 : decode cX0_areEqual 52 = .ok (.lconst 0, 1) := by decide +kernel
theorem dX0_areEqual_53 : decode cX0_areEqual 53 = .ok (.lcmp, 1) := by decide +kernel
theorem dX0_areEqual_54 : decode cX0_areEqual 54 = .ok (.ifCond .eq 5, 3) := by decide +kernel
theorem dX0_areEqual_57 : decode cX0_areEqual 57 = .ok (.iconst 0, 1) := by decide +kernel
theorem dX0_areEqual_58 : decode cX0_areEqual 58 = .ok (.ireturn, 1) := by decide +kernel
theorem dX0_areEqual_59 : decode cX0_areEqual 59 = .ok (.iinc 5 1, 3) := by decide +kernel
theorem dX0_areEqual_62 : decode cX0_areEqual 62 = .ok (.goto (-38), 3) := by decide +kernel
theorem dX0_areEqual_65 : decode cX0_areEqual 65 = .ok (.iconst 1, 1) := by decide +kernel
theorem dX0_areEqual_66 : decode cX0_areEqual 66 = .ok (.ireturn, 1) := by decide +kernel
set_option maxRecDepth 20000 in
theorem ggX0_depends_X0_requireFormula : GoodIn wsX0_depends wsX0_requireFormula := goodIn_ca (goodIn_r _ [6, 7, 8, 9, 55, 56, 57, 58, 59, 60, 61, 62, 63, 64, 65, 66] (by decide +kernel) (by decide +kernel)) (goodIn_sub (fun _ h => List.mem_cons_of_mem _ (List.mem_append_right _ h)) (by decide +kernel))
set_option maxRecDepth 20000 in
theorem gX0_depends_X0_requireFormula : GoodIn wsX0_depends (wsV RX0 77 RX0 yX0_requireFormula wsX0_requireFormula) := goodIn_app (goodIn_of _ (by decide +kernel)) ggX0_depends_X0_requireFormula
set_option maxRecDepth 20000 in
theorem ggX0_depends_X0_requireAtom : GoodIn wsX0_depends wsX0_requireAtom := goodIn_ca (goodIn_r _ [12, 7, 8] (by decide +kernel) (by decide +kernel)) (goodIn_sub (fun _ h => List.mem_cons_of_mem _ (List.mem_append_right _ h)) (by decide +kernel))
set_option maxRecDepth 20000 in
theorem gX0_depends_X0_requireAtom : GoodIn wsX0_depends (va_wsS RX0 52 yX0_requireAtom wsX0_requireAtom) := goodIn_app (goodIn_of _ (by decide +kernel)) ggX0_depends_X0_requireAtom
set_option maxRecDepth 20000 in
theorem ggX0_depends_X0_lowestBit : GoodIn wsX0_depends wsX0_lowestBit := goodIn_r _ [15, 16, 17, 18, 19, 20, 21, 22] (by decide +kernel) (by decide +kernel)
set_option maxRecDepth 20000 in
theorem gX0_depends_X0_lowestBit : GoodIn wsX0_depends (va_wsS RX0 173 yX0_lowestBit wsX0_lowestBit) := goodIn_app (goodIn_of _ (by decide +kernel)) ggX0_depends_X0_lowestBit
set_option maxRecDepth 20000 in
theorem ggX0_depends_X0_isChanged : GoodIn wsX0_depends wsX0_isChanged := goodIn_r _ [26, 27, 28, 5, 29, 30, 31, 32, 33, 34, 35, 36, 37, 38, 39, 40, 41, 42, 43, 44, 45, 46, 47, 48, 49, 50, 51, 52, 53, 54, 55, 56, 57, 58, 59, 60, 61, 62, 63, 64, 65, 66] (by decide +kernel) (by decide +kernel)
set_option maxRecDepth 20000 in
theorem gX0_depends_X0_isChanged : GoodIn wsX0_depends (wsV RX0 180 RX0 yX0_isChanged wsX0_isChanged) := goodIn_app (goodIn_of _ (by decide +kernel)) ggX0_depends_X0_isChanged
theorem dX0_depends_0 : decode cX0_depends 0 = .ok (.aload_n 0, 1) := by decide +kernel
theorem dX0_depends_1 : decode cX0_depends 1 = .ok (.iload_n 1, 1) := by decide +kernel
theorem dX0_depends_2 : decode cX0_depends 2 = .ok (.invokevirtual 77, 3) := by decide +kernel
theorem dX0_depends_5 : decode cX0_depends 5 = .ok (.iload_n 2, 1) := by decide +kernel
theorem dX0_depends_6 : decode cX0_depends 6 = .ok (.invokestatic 52, 3) := by decide +kernel
theorem dX0_depends_9 : decode cX0_depends 9 = .ok (.aload_n 0, 1) := by decide +kernel
theorem dX0_depends_10 : decode cX0_depends 10 = .ok (.getfield 43, 3) := by decide +kernel
theorem dX0_depends_13 : decode cX0_depends 13 = .ok (.i2l, 1) := by decide +kernel
theorem dX0_depends_14 : decode cX0_depends 14 = .ok (.invokestatic 173, 3) := by decide +kernel
theorem dX0_depends_17 : decode cX0_depends 17 = .ok (.istore_n 3, 1) := by decide +kernel
theorem dX0_depends_18 : decode cX0_depends 18 = .ok (.iload_n 3, 1) := by decide +kernel
theorem dX0_depends_19 : decode cX0_depends 19 = .ok (.iconst 1, 1) := by decide +kernel
theorem dX0_depends_20 : decode cX0_depends 20 = .ok (.iadd, 1) := by decide +kernel
theorem dX0_depends_21 : decode cX0_depends 21 = .ok (.istore 4, 2) := by decide +kernel
theorem dX0_depends_23 : decode cX0_depends 23 = .ok (.iload 4, 2) := by decide +kernel
theorem dX0_depends_25 : decode cX0_depends 25 = .ok (.iconst 3, 1) := by decide +kernel
theorem dX0_depends_26 : decode cX0_depends 26 = .ok (.if_icmp .gt 35, 3) := by decide +kernel
theorem dX0_depends_29 : decode cX0_depends 29 = .ok (.aload_n 0, 1) := by decide +kernel
theorem dX0_depends_30 : decode cX0_depends 30 = .ok (.getfield 43, 3) := by decide +kernel
theorem dX0_depends_33 : decode cX0_depends 33 = .ok (.iload 4, 2) := by decide +kernel
theorem dX0_depends_35 : decode cX0_depends 35 = .ok (.iushr, 1) := by decide +kernel
theorem dX0_depends_36 : decode cX0_depends 36 = .ok (.iconst 1, 1) := by decide +kernel
theorem dX0_depends_37 : decode cX0_depends 37 = .ok (.iand, 1) := by decide +kernel
theorem dX0_depends_38 : decode cX0_depends 38 = .ok (.ifCond .eq 17, 3) := by decide +kernel
theorem dX0_depends_41 : decode cX0_depends 41 = .ok (.aload_n 0, 1) := by decide +kernel
theorem dX0_depends_42 : decode cX0_depends 42 = .ok (.iload_n 1, 1) := by decide +kernel
theorem dX0_depends_43 : decode cX0_depends 43 = .ok (.iload_n 2, 1) := by decide +kernel
theorem dX0_depends_44 : decode cX0_depends 44 = .ok (.iload_n 3, 1) := by decide +kernel
theorem dX0_depends_45 : decode cX0_depends 45 = .ok (.iload 4, 2) := by decide +kernel
theorem dX0_depends_47 : decode cX0_depends 47 = .ok (.invokevirtual 180, 3) := by decide +kernel
theorem dX0_depends_50 : decode cX0_depends 50 = .ok (.ifCond .eq 5, 3) := by decide +kernel
theorem dX0_depends_53 : decode cX0_depends 53 = .ok (.iconst 1, 1) := by decide +kernel
theorem dX0_depends_54 : decode cX0_depends 54 = .ok (.ireturn, 1) := by decide +kernel
theorem dX0_depends_55 : decode cX0_depends 55 = .ok (.iinc 4 1, 3) := by decide +kernel
theorem dX0_depends_58 : decode cX0_depends 58 = .ok (.goto (-35), 3) := by decide +kernel
theorem dX0_depends_61 : decode cX0_depends 61 = .ok (.iconst 0, 1) := by decide +kernel
theorem dX0_depends_62 : decode cX0_depends 62 = .ok (.ireturn, 1) := by decide +kernel
set_option maxRecDepth 20000 in
theorem ggX0_valueAt_X0_requireFormula : GoodIn wsX0_valueAt wsX0_requireFormula := goodIn_ca (goodIn_r _ [7, 8, 9, 10, 20, 21, 22, 23, 24, 25, 26, 27, 28, 29, 30, 31] (by decide +kernel) (by decide +kernel)) (goodIn_sub (fun _ h => List.mem_cons_of_mem _ (List.mem_append_right _ h)) (by decide +kernel))
set_option maxRecDepth 20000 in
theorem gX0_valueAt_X0_requireFormula : GoodIn wsX0_valueAt (wsV RX0 77 RX0 yX0_requireFormula wsX0_requireFormula) := goodIn_app (goodIn_of _ (by decide +kernel)) ggX0_valueAt_X0_requireFormula
set_option maxRecDepth 20000 in
theorem ggX0_valueAt_X0_lookUp : GoodIn wsX0_valueAt wsX0_lookUp := goodIn_r _ [14, 15, 16, 17, 18, 6, 19, 20, 21, 22, 23, 24, 25, 26, 27, 28, 29, 30, 31] (by decide +kernel) (by decide +kernel)
set_option maxRecDepth 20000 in
theorem gX0_valueAt_X0_lookUp : GoodIn wsX0_valueAt (wsV RX0 131 RX0 yX0_lookUp wsX0_lookUp) := goodIn_app (goodIn_of _ (by decide +kernel)) ggX0_valueAt_X0_lookUp
theorem dX0_valueAt_0 : decode cX0_valueAt 0 = .ok (.aload_n 0, 1) := by decide +kernel
theorem dX0_valueAt_1 : decode cX0_valueAt 1 = .ok (.iload_n 1, 1) := by decide +kernel
theorem dX0_valueAt_2 : decode cX0_valueAt 2 = .ok (.invokevirtual 77, 3) := by decide +kernel
theorem dX0_valueAt_5 : decode cX0_valueAt 5 = .ok (.iload_n 2, 1) := by decide +kernel
theorem dX0_valueAt_6 : decode cX0_valueAt 6 = .ok (.ifCond .lt 10, 3) := by decide +kernel
theorem dX0_valueAt_9 : decode cX0_valueAt 9 = .ok (.iload_n 2, 1) := by decide +kernel
theorem dX0_valueAt_10 : decode cX0_valueAt 10 = .ok (.sipush 4096, 3) := by decide +kernel
theorem dX0_valueAt_13 : decode cX0_valueAt 13 = .ok (.if_icmp .lt 13, 3) := by decide +kernel
theorem dX0_valueAt_16 : decode cX0_valueAt 16 = .ok (.new 80, 3) := by decide +kernel
theorem dX0_valueAt_19 : decode cX0_valueAt 19 = .ok (.dup, 1) := by decide +kernel
theorem dX0_valueAt_20 : decode cX0_valueAt 20 = .ok (.ldc 184, 2) := by decide +kernel
theorem dX0_valueAt_22 : decode cX0_valueAt 22 = .ok (.invokespecial 84, 3) := by decide +kernel
theorem dX0_valueAt_25 : decode cX0_valueAt 25 = .ok (.athrow, 1) := by decide +kernel
theorem dX0_valueAt_26 : decode cX0_valueAt 26 = .ok (.aload_n 0, 1) := by decide +kernel
theorem dX0_valueAt_27 : decode cX0_valueAt 27 = .ok (.iload_n 1, 1) := by decide +kernel
theorem dX0_valueAt_28 : decode cX0_valueAt 28 = .ok (.iload_n 2, 1) := by decide +kernel
theorem dX0_valueAt_29 : decode cX0_valueAt 29 = .ok (.invokevirtual 131, 3) := by decide +kernel
theorem dX0_valueAt_32 : decode cX0_valueAt 32 = .ok (.ireturn, 1) := by decide +kernel
set_option maxRecDepth 20000 in
theorem ggX0_digest_X0_heard : GoodIn wsX0_digest wsX0_heard := goodIn_r _ [14, 15, 16, 17, 13, 18, 6, 5, 4, 58, 59, 60, 61, 62, 63, 64, 65, 66, 67, 68, 69] (by decide +kernel) (by decide +kernel)
set_option maxRecDepth 20000 in
theorem gX0_digest_X0_heard : GoodIn wsX0_digest (wsV RX0 114 RX0 yX0_heard wsX0_heard) := goodIn_app (goodIn_of _ (by decide +kernel)) ggX0_digest_X0_heard
set_option maxRecDepth 20000 in
theorem ggX0_digest_X0_givenState : GoodIn wsX0_digest wsX0_givenState := goodIn_r _ [22, 7, 58, 59, 60, 61, 62, 63, 64, 65, 66, 67, 68, 69] (by decide +kernel) (by decide +kernel)
set_option maxRecDepth 20000 in
theorem gX0_digest_X0_givenState : GoodIn wsX0_digest (wsV RX0 118 RX0 yX0_givenState wsX0_givenState) := goodIn_app (goodIn_of _ (by decide +kernel)) ggX0_digest_X0_givenState
set_option maxRecDepth 20000 in
theorem ggX0_digest_X0_settledNow : GoodIn wsX0_digest wsX0_settledNow := goodIn_r _ [26, 10, 11, 12, 13, 14, 15, 16, 17, 18, 6, 5, 4, 27, 28, 29, 30, 19, 20, 21, 22, 7, 31, 32, 33, 34, 8, 35, 36, 37, 38, 39, 40, 41, 42, 43, 44, 45, 46, 58, 59, 60, 61, 62, 63, 64, 65, 66, 67, 68, 69] (by decide +kernel) (by decide +kernel)
set_option maxRecDepth 20000 in
theorem gX0_digest_X0_settledNow : GoodIn wsX0_digest (wsV RX0 121 RX0 yX0_settledNow wsX0_settledNow) := goodIn_app (goodIn_of _ (by decide +kernel)) ggX0_digest_X0_settledNow
set_option maxRecDepth 20000 in
theorem ggX0_digest_X0_mix : GoodIn wsX0_digest wsX0_mix := goodIn_r _ [49, 50] (by decide +kernel) (by decide +kernel)
set_option maxRecDepth 20000 in
theorem gX0_digest_X0_mix : GoodIn wsX0_digest (va_wsS RX0 188 yX0_mix wsX0_mix) := goodIn_app (goodIn_of _ (by decide +kernel)) ggX0_digest_X0_mix
set_option maxRecDepth 20000 in
theorem ggX0_digest_X0_valueIn : GoodIn wsX0_digest wsX0_valueIn := goodIn_r _ [53, 44, 45, 13, 46] (by decide +kernel) (by decide +kernel)
set_option maxRecDepth 20000 in
theorem gX0_digest_X0_valueIn : GoodIn wsX0_digest (va_wsS RX0 100 yX0_valueIn wsX0_valueIn) := goodIn_app (goodIn_of _ (by decide +kernel)) ggX0_digest_X0_valueIn
set_option maxRecDepth 20000 in
theorem ggX0_digest_X0_rounds : GoodIn wsX0_digest wsX0_rounds := goodIn_r _ [57, 10, 11, 12, 13, 14, 15, 16, 17, 18, 6, 5, 4, 19, 20, 21, 22, 7, 31, 32, 33, 34, 8, 35, 36, 37, 38, 39, 40, 41, 42, 43, 44, 45, 46, 58, 59, 60, 61, 62, 63, 64, 65, 66, 67, 68, 69] (by decide +kernel) (by decide +kernel)
set_option maxRecDepth 20000 in
theorem gX0_digest_X0_rounds : GoodIn wsX0_digest (wsV RX0 192 RX0 yX0_rounds wsX0_rounds) := goodIn_app (goodIn_of _ (by decide +kernel)) ggX0_digest_X0_rounds
theorem dX0_digest_0 : decode cX0_digest 0 = .ok (.aload_n 0, 1) := by decide +kernel
theorem dX0_digest_1 : decode cX0_digest 1 = .ok (.aload_n 0, 1) := by decide +kernel
theorem dX0_digest_2 : decode cX0_digest 2 = .ok (.invokevirtual 114, 3) := by decide +kernel
theorem dX0_digest_5 : decode cX0_digest 5 = .ok (.invokevirtual 118, 3) := by decide +kernel
theorem dX0_digest_8 : decode cX0_digest 8 = .ok (.istore_n 1, 1) := by decide +kernel
theorem dX0_digest_9 : decode cX0_digest 9 = .ok (.aload_n 0, 1) := by decide +kernel
theorem dX0_digest_10 : decode cX0_digest 10 = .ok (.invokevirtual 121, 3) := by decide +kernel
theorem dX0_digest_13 : decode cX0_digest 13 = .ok (.istore_n 2, 1) := by decide +kernel
theorem dX0_digest_14 : decode cX0_digest 14 = .ok (.ldc2_w 186, 3) := by decide +kernel
theorem dX0_digest_17 : decode cX0_digest 17 = .ok (.aload_n 0, 1) := by decide +kernel
theorem dX0_digest_18 : decode cX0_digest 18 = .ok (.getfield 9, 3) := by decide +kernel
theorem dX0_digest_21 : decode cX0_digest 21 = .ok (.invokestatic 188, 3) := by decide +kernel
theorem dX0_digest_24 : decode cX0_digest 24 = .ok (.lstore_n 3, 1) := by decide +kernel
theorem dX0_digest_25 : decode cX0_digest 25 = .ok (.iconst 0, 1) := by decide +kernel
theorem dX0_digest_26 : decode cX0_digest 26 = .ok (.istore 5, 2) := by decide +kernel
theorem dX0_digest_28 : decode cX0_digest 28 = .ok (.iload 5, 2) := by decide +kernel
theorem dX0_digest_30 : decode cX0_digest 30 = .ok (.aload_n 0, 1) := by decide +kernel
theorem dX0_digest_31 : decode cX0_digest 31 = .ok (.getfield 9, 3) := by decide +kernel
theorem dX0_digest_34 : decode cX0_digest 34 = .ok (.if_icmp .ge 21, 3) := by decide +kernel
theorem dX0_digest_37 : decode cX0_digest 37 = .ok (.lload_n 3, 1) := by decide +kernel
theorem dX0_digest_38 : decode cX0_digest 38 = .ok (.aload_n 0, 1) := by decide +kernel
theorem dX0_digest_39 : decode cX0_digest 39 = .ok (.getfield 13, 3) := by decide +kernel
theorem dX0_digest_42 : decode cX0_digest 42 = .ok (.iload 5, 2) := by decide +kernel
theorem dX0_digest_44 : decode cX0_digest 44 = .ok (.iaload, 1) := by decide +kernel
theorem dX0_digest_45 : decode cX0_digest 45 = .ok (.invokestatic 188, 3) := by decide +kernel
theorem dX0_digest_48 : decode cX0_digest 48 = .ok (.lstore_n 3, 1) := by decide +kernel
theorem dX0_digest_49 : decode cX0_digest 49 = .ok (.iinc 5 1, 3) := by decide +kernel
theorem dX0_digest_52 : decode cX0_digest 52 = .ok (.goto (-24), 3) := by decide +kernel
theorem dX0_digest_55 : decode cX0_digest 55 = .ok (.lload_n 3, 1) := by decide +kernel
theorem dX0_digest_56 : decode cX0_digest 56 = .ok (.aload_n 0, 1) := by decide +kernel
theorem dX0_digest_57 : decode cX0_digest 57 = .ok (.getfield 37, 3) := by decide +kernel
theorem dX0_digest_60 : decode cX0_digest 60 = .ok (.invokestatic 188, 3) := by decide +kernel
theorem dX0_digest_63 : decode cX0_digest 63 = .ok (.lstore_n 3, 1) := by decide +kernel
theorem dX0_digest_64 : decode cX0_digest 64 = .ok (.iconst 0, 1) := by decide +kernel
theorem dX0_digest_65 : decode cX0_digest 65 = .ok (.istore 5, 2) := by decide +kernel
theorem dX0_digest_67 : decode cX0_digest 67 = .ok (.iload 5, 2) := by decide +kernel
theorem dX0_digest_69 : decode cX0_digest 69 = .ok (.bipush 6, 2) := by decide +kernel
theorem dX0_digest_71 : decode cX0_digest 71 = .ok (.if_icmp .ge 74, 3) := by decide +kernel
theorem dX0_digest_74 : decode cX0_digest 74 = .ok (.lload_n 3, 1) := by decide +kernel
theorem dX0_digest_75 : decode cX0_digest 75 = .ok (.aload_n 0, 1) := by decide +kernel
theorem dX0_digest_76 : decode cX0_digest 76 = .ok (.getfield 28, 3) := by decide +kernel
theorem dX0_digest_79 : decode cX0_digest 79 = .ok (.iload 5, 2) := by decide +kernel
theorem dX0_digest_81 : decode cX0_digest 81 = .ok (.iaload, 1) := by decide +kernel
theorem dX0_digest_82 : decode cX0_digest 82 = .ok (.invokestatic 188, 3) := by decide +kernel
theorem dX0_digest_85 : decode cX0_digest 85 = .ok (.lstore_n 3, 1) := by decide +kernel
theorem dX0_digest_86 : decode cX0_digest 86 = .ok (.lload_n 3, 1) := by decide +kernel
theorem dX0_digest_87 : decode cX0_digest 87 = .ok (.aload_n 0, 1) := by decide +kernel
theorem dX0_digest_88 : decode cX0_digest 88 = .ok (.getfield 31, 3) := by decide +kernel
theorem dX0_digest_91 : decode cX0_digest 91 = .ok (.iload 5, 2) := by decide +kernel
theorem dX0_digest_93 : decode cX0_digest 93 = .ok (.baload, 1) := by decide +kernel
theorem dX0_digest_94 : decode cX0_digest 94 = .ok (.ifCond .eq 7, 3) := by decide +kernel
theorem dX0_digest_97 : decode cX0_digest 97 = .ok (.iconst 1, 1) := by decide +kernel
theorem dX0_digest_98 : decode cX0_digest 98 = .ok (.goto 4, 3) := by decide +kernel
theorem dX0_digest_101 : decode cX0_digest 101 = .ok (.iconst 0, 1) := by decide +kernel
theorem dX0_digest_102 : decode cX0_digest 102 = .ok (.invokestatic 188, 3) := by decide +kernel
theorem dX0_digest_105 : decode cX0_digest 105 = .ok (.lstore_n 3, 1) := by decide +kernel
theorem dX0_digest_106 : decode cX0_digest 106 = .ok (.iconst 0, 1) := by decide +kernel
theorem dX0_digest_107 : decode cX0_digest 107 = .ok (.istore 6, 2) := by decide +kernel
theorem dX0_digest_109 : decode cX0_digest 109 = .ok (.iload 6, 2) := by decide +kernel
theorem dX0_digest_111 : decode cX0_digest 111 = .ok (.bipush 6, 2) := by decide +kernel
theorem dX0_digest_113 : decode cX0_digest 113 = .ok (.if_icmp .ge 26, 3) := by decide +kernel
theorem dX0_digest_116 : decode cX0_digest 116 = .ok (.lload_n 3, 1) := by decide +kernel
theorem dX0_digest_117 : decode cX0_digest 117 = .ok (.aload_n 0, 1) := by decide +kernel
theorem dX0_digest_118 : decode cX0_digest 118 = .ok (.getfield 34, 3) := by decide +kernel
theorem dX0_digest_121 : decode cX0_digest 121 = .ok (.iload 5, 2) := by decide +kernel
theorem dX0_digest_123 : decode cX0_digest 123 = .ok (.iaload, 1) := by decide +kernel
theorem dX0_digest_124 : decode cX0_digest 124 = .ok (.iload 6, 2) := by decide +kernel
theorem dX0_digest_126 : decode cX0_digest 126 = .ok (.invokestatic 100, 3) := by decide +kernel
theorem dX0_digest_129 : decode cX0_digest 129 = .ok (.invokestatic 188, 3) := by decide +kernel
theorem dX0_digest_132 : decode cX0_digest 132 = .ok (.lstore_n 3, 1) := by decide +kernel
theorem dX0_digest_133 : decode cX0_digest 133 = .ok (.iinc 6 1, 3) := by decide +kernel
theorem dX0_digest_136 : decode cX0_digest 136 = .ok (.goto (-27), 3) := by decide +kernel
theorem dX0_digest_139 : decode cX0_digest 139 = .ok (.iinc 5 1, 3) := by decide +kernel
theorem dX0_digest_142 : decode cX0_digest 142 = .ok (.goto (-75), 3) := by decide +kernel
theorem dX0_digest_145 : decode cX0_digest 145 = .ok (.iconst 0, 1) := by decide +kernel
theorem dX0_digest_146 : decode cX0_digest 146 = .ok (.istore 5, 2) := by decide +kernel
theorem dX0_digest_148 : decode cX0_digest 148 = .ok (.iload 5, 2) := by decide +kernel
theorem dX0_digest_150 : decode cX0_digest 150 = .ok (.bipush 6, 2) := by decide +kernel
theorem dX0_digest_152 : decode cX0_digest 152 = .ok (.if_icmp .ge 43, 3) := by decide +kernel
theorem dX0_digest_155 : decode cX0_digest 155 = .ok (.lload_n 3, 1) := by decide +kernel
theorem dX0_digest_156 : decode cX0_digest 156 = .ok (.aload_n 0, 1) := by decide +kernel
theorem dX0_digest_157 : decode cX0_digest 157 = .ok (.getfield 40, 3) := by decide +kernel
theorem dX0_digest_160 : decode cX0_digest 160 = .ok (.iload 5, 2) := by decide +kernel
theorem dX0_digest_162 : decode cX0_digest 162 = .ok (.iaload, 1) := by decide +kernel
theorem dX0_digest_163 : decode cX0_digest 163 = .ok (.invokestatic 188, 3) := by decide +kernel
theorem dX0_digest_166 : decode cX0_digest 166 = .ok (.lstore_n 3, 1) := by decide +kernel
theorem dX0_digest_167 : decode cX0_digest 167 = .ok (.lload_n 3, 1) := by decide +kernel
theorem dX0_digest_168 : decode cX0_digest 168 = .ok (.iload_n 1, 1) := by decide +kernel
theorem dX0_digest_169 : decode cX0_digest 169 = .ok (.iload 5, 2) := by decide +kernel
theorem dX0_digest_171 : decode cX0_digest 171 = .ok (.invokestatic 100, 3) := by decide +kernel
theorem dX0_digest_174 : decode cX0_digest 174 = .ok (.invokestatic 188, 3) := by decide +kernel
theorem dX0_digest_177 : decode cX0_digest 177 = .ok (.lstore_n 3, 1) := by decide +kernel
theorem dX0_digest_178 : decode cX0_digest 178 = .ok (.lload_n 3, 1) := by decide +kernel
theorem dX0_digest_179 : decode cX0_digest 179 = .ok (.iload_n 2, 1) := by decide +kernel
theorem dX0_digest_180 : decode cX0_digest 180 = .ok (.iload 5, 2) := by decide +kernel
theorem dX0_digest_182 : decode cX0_digest 182 = .ok (.invokestatic 100, 3) := by decide +kernel
theorem dX0_digest_185 : decode cX0_digest 185 = .ok (.invokestatic 188, 3) := by decide +kernel
theorem dX0_digest_188 : decode cX0_digest 188 = .ok (.lstore_n 3, 1) := by decide +kernel
theorem dX0_digest_189 : decode cX0_digest 189 = .ok (.iinc 5 1, 3) := by decide +kernel
theorem dX0_digest_192 : decode cX0_digest 192 = .ok (.goto (-44), 3) := by decide +kernel
theorem dX0_digest_195 : decode cX0_digest 195 = .ok (.lload_n 3, 1) := by decide +kernel
theorem dX0_digest_196 : decode cX0_digest 196 = .ok (.aload_n 0, 1) := by decide +kernel
theorem dX0_digest_197 : decode cX0_digest 197 = .ok (.invokevirtual 192, 3) := by decide +kernel
theorem dX0_digest_200 : decode cX0_digest 200 = .ok (.invokestatic 188, 3) := by decide +kernel
theorem dX0_digest_203 : decode cX0_digest 203 = .ok (.lstore_n 3, 1) := by decide +kernel
theorem dX0_digest_204 : decode cX0_digest 204 = .ok (.lload_n 3, 1) := by decide +kernel
theorem dX0_digest_205 : decode cX0_digest 205 = .ok (.aload_n 0, 1) := by decide +kernel
theorem dX0_digest_206 : decode cX0_digest 206 = .ok (.getfield 43, 3) := by decide +kernel
theorem dX0_digest_209 : decode cX0_digest 209 = .ok (.invokestatic 188, 3) := by decide +kernel
theorem dX0_digest_212 : decode cX0_digest 212 = .ok (.lreturn, 1) := by decide +kernel
theorem dX0_mix_0 : decode cX0_mix 0 = .ok (.lload_n 0, 1) := by decide +kernel
theorem dX0_mix_1 : decode cX0_mix 1 = .ok (.ldc2_w 195, 3) := by decide +kernel
theorem dX0_mix_4 : decode cX0_mix 4 = .ok (.lmul, 1) := by decide +kernel
theorem dX0_mix_5 : decode cX0_mix 5 = .ok (.iload_n 2, 1) := by decide +kernel
theorem dX0_mix_6 : decode cX0_mix 6 = .ok (.i2l, 1) := by decide +kernel
theorem dX0_mix_7 : decode cX0_mix 7 = .ok (.ladd, 1) := by decide +kernel
theorem dX0_mix_8 : decode cX0_mix 8 = .ok (.lreturn, 1) := by decide +kernel
theorem dX0_requireAtom_0 : decode cX0_requireAtom 0 = .ok (.iload_n 0, 1) := by decide +kernel
theorem dX0_requireAtom_1 : decode cX0_requireAtom 1 = .ok (.ifCond .lt 9, 3) := by decide +kernel
theorem dX0_requireAtom_4 : decode cX0_requireAtom 4 = .ok (.iload_n 0, 1) := by decide +kernel
theorem dX0_requireAtom_5 : decode cX0_requireAtom 5 = .ok (.bipush 6, 2) := by decide +kernel
theorem dX0_requireAtom_7 : decode cX0_requireAtom 7 = .ok (.if_icmp .lt 13, 3) := by decide +kernel
theorem dX0_requireAtom_10 : decode cX0_requireAtom 10 = .ok (.new 197, 3) := by decide +kernel
theorem dX0_requireAtom_13 : decode cX0_requireAtom 13 = .ok (.dup, 1) := by decide +kernel
theorem dX0_requireAtom_14 : decode cX0_requireAtom 14 = .ok (.ldc 199, 2) := by decide +kernel
theorem dX0_requireAtom_16 : decode cX0_requireAtom 16 = .ok (.invokespecial 201, 3) := by decide +kernel
theorem dX0_requireAtom_19 : decode cX0_requireAtom 19 = .ok (.athrow, 1) := by decide +kernel
theorem dX0_requireAtom_20 : decode cX0_requireAtom 20 = .ok (.return_, 1) := by decide +kernel
theorem dX0_requireSource_0 : decode cX0_requireSource 0 = .ok (.iload_n 0, 1) := by decide +kernel
theorem dX0_requireSource_1 : decode cX0_requireSource 1 = .ok (.ifCond .lt 9, 3) := by decide +kernel
theorem dX0_requireSource_4 : decode cX0_requireSource 4 = .ok (.iload_n 0, 1) := by decide +kernel
theorem dX0_requireSource_5 : decode cX0_requireSource 5 = .ok (.bipush 6, 2) := by decide +kernel
theorem dX0_requireSource_7 : decode cX0_requireSource 7 = .ok (.if_icmp .lt 13, 3) := by decide +kernel
theorem dX0_requireSource_10 : decode cX0_requireSource 10 = .ok (.new 197, 3) := by decide +kernel
theorem dX0_requireSource_13 : decode cX0_requireSource 13 = .ok (.dup, 1) := by decide +kernel
theorem dX0_requireSource_14 : decode cX0_requireSource 14 = .ok (.ldc 202, 2) := by decide +kernel
theorem dX0_requireSource_16 : decode cX0_requireSource 16 = .ok (.invokespecial 201, 3) := by decide +kernel
theorem dX0_requireSource_19 : decode cX0_requireSource 19 = .ok (.athrow, 1) := by decide +kernel
theorem dX0_requireSource_20 : decode cX0_requireSource 20 = .ok (.return_, 1) := by decide +kernel
theorem dX0_requireValue_0 : decode cX0_requireValue 0 = .ok (.iload_n 0, 1) := by decide +kernel
theorem dX0_requireValue_1 : decode cX0_requireValue 1 = .ok (.ifCond .lt 8, 3) := by decide +kernel
theorem dX0_requireValue_4 : decode cX0_requireValue 4 = .ok (.iload_n 0, 1) := by decide +kernel
theorem dX0_requireValue_5 : decode cX0_requireValue 5 = .ok (.iconst 3, 1) := by decide +kernel
theorem dX0_requireValue_6 : decode cX0_requireValue 6 = .ok (.if_icmp .le 13, 3) := by decide +kernel
theorem dX0_requireValue_9 : decode cX0_requireValue 9 = .ok (.new 80, 3) := by decide +kernel
theorem dX0_requireValue_12 : decode cX0_requireValue 12 = .ok (.dup, 1) := by decide +kernel
theorem dX0_requireValue_13 : decode cX0_requireValue 13 = .ok (.ldc 204, 2) := by decide +kernel
theorem dX0_requireValue_15 : decode cX0_requireValue 15 = .ok (.invokespecial 84, 3) := by decide +kernel
theorem dX0_requireValue_18 : decode cX0_requireValue 18 = .ok (.athrow, 1) := by decide +kernel
theorem dX0_requireValue_19 : decode cX0_requireValue 19 = .ok (.return_, 1) := by decide +kernel
theorem dX0_requireTrust_0 : decode cX0_requireTrust 0 = .ok (.iload_n 0, 1) := by decide +kernel
theorem dX0_requireTrust_1 : decode cX0_requireTrust 1 = .ok (.iconst 1, 1) := by decide +kernel
theorem dX0_requireTrust_2 : decode cX0_requireTrust 2 = .ok (.if_icmp .lt 9, 3) := by decide +kernel
theorem dX0_requireTrust_5 : decode cX0_requireTrust 5 = .ok (.iload_n 0, 1) := by decide +kernel
theorem dX0_requireTrust_6 : decode cX0_requireTrust 6 = .ok (.bipush 100, 2) := by decide +kernel
theorem dX0_requireTrust_8 : decode cX0_requireTrust 8 = .ok (.if_icmp .le 13, 3) := by decide +kernel
theorem dX0_requireTrust_11 : decode cX0_requireTrust 11 = .ok (.new 80, 3) := by decide +kernel
theorem dX0_requireTrust_14 : decode cX0_requireTrust 14 = .ok (.dup, 1) := by decide +kernel
theorem dX0_requireTrust_15 : decode cX0_requireTrust 15 = .ok (.ldc 206, 2) := by decide +kernel
theorem dX0_requireTrust_17 : decode cX0_requireTrust 17 = .ok (.invokespecial 84, 3) := by decide +kernel
theorem dX0_requireTrust_20 : decode cX0_requireTrust 20 = .ok (.athrow, 1) := by decide +kernel
theorem dX0_requireTrust_21 : decode cX0_requireTrust 21 = .ok (.return_, 1) := by decide +kernel
theorem dX0_requireFormula_0 : decode cX0_requireFormula 0 = .ok (.iload_n 1, 1) := by decide +kernel
theorem dX0_requireFormula_1 : decode cX0_requireFormula 1 = .ok (.ifCond .lt 11, 3) := by decide +kernel
theorem dX0_requireFormula_4 : decode cX0_requireFormula 4 = .ok (.iload_n 1, 1) := by decide +kernel
theorem dX0_requireFormula_5 : decode cX0_requireFormula 5 = .ok (.aload_n 0, 1) := by decide +kernel
theorem dX0_requireFormula_6 : decode cX0_requireFormula 6 = .ok (.getfield 9, 3) := by decide +kernel
theorem dX0_requireFormula_9 : decode cX0_requireFormula 9 = .ok (.if_icmp .lt 13, 3) := by decide +kernel
theorem dX0_requireFormula_12 : decode cX0_requireFormula 12 = .ok (.new 197, 3) := by decide +kernel
theorem dX0_requireFormula_15 : decode cX0_requireFormula 15 = .ok (.dup, 1) := by decide +kernel
theorem dX0_requireFormula_16 : decode cX0_requireFormula 16 = .ok (.ldc 208, 2) := by decide +kernel
theorem dX0_requireFormula_18 : decode cX0_requireFormula 18 = .ok (.invokespecial 201, 3) := by decide +kernel
theorem dX0_requireFormula_21 : decode cX0_requireFormula 21 = .ok (.athrow, 1) := by decide +kernel
theorem dX0_requireFormula_22 : decode cX0_requireFormula 22 = .ok (.return_, 1) := by decide +kernel
theorem dX0_requireSteady_0 : decode cX0_requireSteady 0 = .ok (.aload_n 0, 1) := by decide +kernel
theorem dX0_requireSteady_1 : decode cX0_requireSteady 1 = .ok (.getfield 17, 3) := by decide +kernel
theorem dX0_requireSteady_4 : decode cX0_requireSteady 4 = .ok (.iload_n 1, 1) := by decide +kernel
theorem dX0_requireSteady_5 : decode cX0_requireSteady 5 = .ok (.baload, 1) := by decide +kernel
theorem dX0_requireSteady_6 : decode cX0_requireSteady 6 = .ok (.ifCond .ne 13, 3) := by decide +kernel
theorem dX0_requireSteady_9 : decode cX0_requireSteady 9 = .ok (.new 80, 3) := by decide +kernel
theorem dX0_requireSteady_12 : decode cX0_requireSteady 12 = .ok (.dup, 1) := by decide +kernel
theorem dX0_requireSteady_13 : decode cX0_requireSteady 13 = .ok (.ldc 210, 2) := by decide +kernel
theorem dX0_requireSteady_15 : decode cX0_requireSteady 15 = .ok (.invokespecial 84, 3) := by decide +kernel
theorem dX0_requireSteady_18 : decode cX0_requireSteady 18 = .ok (.athrow, 1) := by decide +kernel
theorem dX0_requireSteady_19 : decode cX0_requireSteady 19 = .ok (.return_, 1) := by decide +kernel
theorem dX0_requireRoom_0 : decode cX0_requireRoom 0 = .ok (.aload_n 0, 1) := by decide +kernel
theorem dX0_requireRoom_1 : decode cX0_requireRoom 1 = .ok (.getfield 9, 3) := by decide +kernel
theorem dX0_requireRoom_4 : decode cX0_requireRoom 4 = .ok (.bipush 40, 2) := by decide +kernel
theorem dX0_requireRoom_6 : decode cX0_requireRoom 6 = .ok (.if_icmp .lt 13, 3) := by decide +kernel
theorem dX0_requireRoom_9 : decode cX0_requireRoom 9 = .ok (.new 212, 3) := by decide +kernel
theorem dX0_requireRoom_12 : decode cX0_requireRoom 12 = .ok (.dup, 1) := by decide +kernel
theorem dX0_requireRoom_13 : decode cX0_requireRoom 13 = .ok (.ldc 214, 2) := by decide +kernel
theorem dX0_requireRoom_15 : decode cX0_requireRoom 15 = .ok (.invokespecial 216, 3) := by decide +kernel
theorem dX0_requireRoom_18 : decode cX0_requireRoom 18 = .ok (.athrow, 1) := by decide +kernel
theorem dX0_requireRoom_19 : decode cX0_requireRoom 19 = .ok (.return_, 1) := by decide +kernel
theorem dX0_placeOf_0 : decode cX0_placeOf 0 = .ok (.iconst 2, 1) := by decide +kernel
theorem dX0_placeOf_1 : decode cX0_placeOf 1 = .ok (.iconst 5, 1) := by decide +kernel
theorem dX0_placeOf_2 : decode cX0_placeOf 2 = .ok (.iload_n 0, 1) := by decide +kernel
theorem dX0_placeOf_3 : decode cX0_placeOf 3 = .ok (.isub, 1) := by decide +kernel
theorem dX0_placeOf_4 : decode cX0_placeOf 4 = .ok (.imul, 1) := by decide +kernel
theorem dX0_placeOf_5 : decode cX0_placeOf 5 = .ok (.ireturn, 1) := by decide +kernel
set_option maxRecDepth 20000 in
theorem ggX0_valueIn_X0_placeOf : GoodIn wsX0_valueIn wsX0_placeOf := goodIn_r _ [4] (by decide +kernel) (by decide +kernel)
set_option maxRecDepth 20000 in
theorem gX0_valueIn_X0_placeOf : GoodIn wsX0_valueIn (va_wsS RX0 59 yX0_placeOf wsX0_placeOf) := goodIn_app (goodIn_of _ (by decide +kernel)) ggX0_valueIn_X0_placeOf
theorem dX0_valueIn_0 : decode cX0_valueIn 0 = .ok (.iload_n 0, 1) := by decide +kernel
theorem dX0_valueIn_1 : decode cX0_valueIn 1 = .ok (.iload_n 1, 1) := by decide +kernel
theorem dX0_valueIn_2 : decode cX0_valueIn 2 = .ok (.invokestatic 59, 3) := by decide +kernel
theorem dX0_valueIn_5 : decode cX0_valueIn 5 = .ok (.iushr, 1) := by decide +kernel
theorem dX0_valueIn_6 : decode cX0_valueIn 6 = .ok (.iconst 3, 1) := by decide +kernel
theorem dX0_valueIn_7 : decode cX0_valueIn 7 = .ok (.iand, 1) := by decide +kernel
theorem dX0_valueIn_8 : decode cX0_valueIn 8 = .ok (.ireturn, 1) := by decide +kernel
theorem dX0_isTold_0 : decode cX0_isTold 0 = .ok (.iload_n 0, 1) := by decide +kernel
theorem dX0_isTold_1 : decode cX0_isTold 1 = .ok (.iload_n 1, 1) := by decide +kernel
theorem dX0_isTold_2 : decode cX0_isTold 2 = .ok (.ifCond .eq 7, 3) := by decide +kernel
theorem dX0_isTold_5 : decode cX0_isTold 5 = .ok (.iconst 1, 1) := by decide +kernel
theorem dX0_isTold_6 : decode cX0_isTold 6 = .ok (.goto 4, 3) := by decide +kernel
theorem dX0_isTold_9 : decode cX0_isTold 9 = .ok (.iconst 2, 1) := by decide +kernel
theorem dX0_isTold_10 : decode cX0_isTold 10 = .ok (.iand, 1) := by decide +kernel
theorem dX0_isTold_11 : decode cX0_isTold 11 = .ok (.ifCond .eq 7, 3) := by decide +kernel
theorem dX0_isTold_14 : decode cX0_isTold 14 = .ok (.iconst 1, 1) := by decide +kernel
theorem dX0_isTold_15 : decode cX0_isTold 15 = .ok (.goto 4, 3) := by decide +kernel
theorem dX0_isTold_18 : decode cX0_isTold 18 = .ok (.iconst 0, 1) := by decide +kernel
theorem dX0_isTold_19 : decode cX0_isTold 19 = .ok (.ireturn, 1) := by decide +kernel
set_option maxRecDepth 20000 in
theorem ggX0_isAgainst_X0_isTold : GoodIn wsX0_isAgainst wsX0_isTold := goodIn_r _ [4] (by decide +kernel) (by decide +kernel)
set_option maxRecDepth 20000 in
theorem gX0_isAgainst_X0_isTold : GoodIn wsX0_isAgainst (va_wsS RX0 127 yX0_isTold wsX0_isTold) := goodIn_app (goodIn_of _ (by decide +kernel)) ggX0_isAgainst_X0_isTold
theorem dX0_isAgainst_0 : decode cX0_isAgainst 0 = .ok (.iload_n 0, 1) := by decide +kernel
theorem dX0_isAgainst_1 : decode cX0_isAgainst 1 = .ok (.iconst 1, 1) := by decide +kernel
theorem dX0_isAgainst_2 : decode cX0_isAgainst 2 = .ok (.invokestatic 127, 3) := by decide +kernel
theorem dX0_isAgainst_5 : decode cX0_isAgainst 5 = .ok (.ifCond .eq 11, 3) := by decide +kernel
theorem dX0_isAgainst_8 : decode cX0_isAgainst 8 = .ok (.iload_n 1, 1) := by decide +kernel
theorem dX0_isAgainst_9 : decode cX0_isAgainst 9 = .ok (.iconst 0, 1) := by decide +kernel
theorem dX0_isAgainst_10 : decode cX0_isAgainst 10 = .ok (.invokestatic 127, 3) := by decide +kernel
theorem dX0_isAgainst_13 : decode cX0_isAgainst 13 = .ok (.ifCond .ne 19, 3) := by decide +kernel
theorem dX0_isAgainst_16 : decode cX0_isAgainst 16 = .ok (.iload_n 0, 1) := by decide +kernel
theorem dX0_isAgainst_17 : decode cX0_isAgainst 17 = .ok (.iconst 0, 1) := by decide +kernel
theorem dX0_isAgainst_18 : decode cX0_isAgainst 18 = .ok (.invokestatic 127, 3) := by decide +kernel
theorem dX0_isAgainst_21 : decode cX0_isAgainst 21 = .ok (.ifCond .eq 15, 3) := by decide +kernel
theorem dX0_isAgainst_24 : decode cX0_isAgainst 24 = .ok (.iload_n 1, 1) := by decide +kernel
theorem dX0_isAgainst_25 : decode cX0_isAgainst 25 = .ok (.iconst 1, 1) := by decide +kernel
theorem dX0_isAgainst_26 : decode cX0_isAgainst 26 = .ok (.invokestatic 127, 3) := by decide +kernel
theorem dX0_isAgainst_29 : decode cX0_isAgainst 29 = .ok (.ifCond .eq 7, 3) := by decide +kernel
theorem dX0_isAgainst_32 : decode cX0_isAgainst 32 = .ok (.iconst 1, 1) := by decide +kernel
theorem dX0_isAgainst_33 : decode cX0_isAgainst 33 = .ok (.goto 4, 3) := by decide +kernel
theorem dX0_isAgainst_36 : decode cX0_isAgainst 36 = .ok (.iconst 0, 1) := by decide +kernel
theorem dX0_isAgainst_37 : decode cX0_isAgainst 37 = .ok (.ireturn, 1) := by decide +kernel
set_option maxRecDepth 20000 in
theorem ggX0_atomsWith_X0_valueIn : GoodIn wsX0_atomsWith wsX0_valueIn := goodIn_r _ [4, 5, 6, 3, 7] (by decide +kernel) (by decide +kernel)
set_option maxRecDepth 20000 in
theorem gX0_atomsWith_X0_valueIn : GoodIn wsX0_atomsWith (va_wsS RX0 100 yX0_valueIn wsX0_valueIn) := goodIn_app (goodIn_of _ (by decide +kernel)) ggX0_atomsWith_X0_valueIn
theorem dX0_atomsWith_0 : decode cX0_atomsWith 0 = .ok (.iconst 0, 1) := by decide +kernel
theorem dX0_atomsWith_1 : decode cX0_atomsWith 1 = .ok (.istore_n 2, 1) := by decide +kernel
theorem dX0_atomsWith_2 : decode cX0_atomsWith 2 = .ok (.iconst 0, 1) := by decide +kernel
theorem dX0_atomsWith_3 : decode cX0_atomsWith 3 = .ok (.istore_n 3, 1) := by decide +kernel
theorem dX0_atomsWith_4 : decode cX0_atomsWith 4 = .ok (.iload_n 3, 1) := by decide +kernel
theorem dX0_atomsWith_5 : decode cX0_atomsWith 5 = .ok (.bipush 6, 2) := by decide +kernel
theorem dX0_atomsWith_7 : decode cX0_atomsWith 7 = .ok (.if_icmp .ge 24, 3) := by decide +kernel
theorem dX0_atomsWith_10 : decode cX0_atomsWith 10 = .ok (.iload_n 0, 1) := by decide +kernel
theorem dX0_atomsWith_11 : decode cX0_atomsWith 11 = .ok (.iload_n 3, 1) := by decide +kernel
theorem dX0_atomsWith_12 : decode cX0_atomsWith 12 = .ok (.invokestatic 100, 3) := by decide +kernel
theorem dX0_atomsWith_15 : decode cX0_atomsWith 15 = .ok (.iload_n 1, 1) := by decide +kernel
theorem dX0_atomsWith_16 : decode cX0_atomsWith 16 = .ok (.if_icmp .ne 9, 3) := by decide +kernel
theorem dX0_atomsWith_19 : decode cX0_atomsWith 19 = .ok (.iload_n 2, 1) := by decide +kernel
theorem dX0_atomsWith_20 : decode cX0_atomsWith 20 = .ok (.iconst 1, 1) := by decide +kernel
theorem dX0_atomsWith_21 : decode cX0_atomsWith 21 = .ok (.iload_n 3, 1) := by decide +kernel
theorem dX0_atomsWith_22 : decode cX0_atomsWith 22 = .ok (.ishl, 1) := by decide +kernel
theorem dX0_atomsWith_23 : decode cX0_atomsWith 23 = .ok (.ior, 1) := by decide +kernel
theorem dX0_atomsWith_24 : decode cX0_atomsWith 24 = .ok (.istore_n 2, 1) := by decide +kernel
theorem dX0_atomsWith_25 : decode cX0_atomsWith 25 = .ok (.iinc 3 1, 3) := by decide +kernel
theorem dX0_atomsWith_28 : decode cX0_atomsWith 28 = .ok (.goto (-24), 3) := by decide +kernel
theorem dX0_atomsWith_31 : decode cX0_atomsWith 31 = .ok (.iload_n 2, 1) := by decide +kernel
theorem dX0_atomsWith_32 : decode cX0_atomsWith 32 = .ok (.ireturn, 1) := by decide +kernel
theorem dX0_rowOf_0 : decode cX0_rowOf 0 = .ok (.iload_n 0, 1) := by decide +kernel
theorem dX0_rowOf_1 : decode cX0_rowOf 1 = .ok (.bipush 64, 2) := by decide +kernel
theorem dX0_rowOf_3 : decode cX0_rowOf 3 = .ok (.imul, 1) := by decide +kernel
theorem dX0_rowOf_4 : decode cX0_rowOf 4 = .ok (.ireturn, 1) := by decide +kernel
theorem dX0_addFormula_0 : decode cX0_addFormula 0 = .ok (.aload_n 0, 1) := by decide +kernel
theorem dX0_addFormula_1 : decode cX0_addFormula 1 = .ok (.getfield 9, 3) := by decide +kernel
theorem dX0_addFormula_4 : decode cX0_addFormula 4 = .ok (.istore_n 3, 1) := by decide +kernel
theorem dX0_addFormula_5 : decode cX0_addFormula 5 = .ok (.aload_n 0, 1) := by decide +kernel
theorem dX0_addFormula_6 : decode cX0_addFormula 6 = .ok (.getfield 13, 3) := by decide +kernel
theorem dX0_addFormula_9 : decode cX0_addFormula 9 = .ok (.iload_n 3, 1) := by decide +kernel
theorem dX0_addFormula_10 : decode cX0_addFormula 10 = .ok (.iload_n 1, 1) := by decide +kernel
theorem dX0_addFormula_11 : decode cX0_addFormula 11 = .ok (.iastore, 1) := by decide +kernel
theorem dX0_addFormula_12 : decode cX0_addFormula 12 = .ok (.aload_n 0, 1) := by decide +kernel
theorem dX0_addFormula_13 : decode cX0_addFormula 13 = .ok (.getfield 17, 3) := by decide +kernel
theorem dX0_addFormula_16 : decode cX0_addFormula 16 = .ok (.iload_n 3, 1) := by decide +kernel
theorem dX0_addFormula_17 : decode cX0_addFormula 17 = .ok (.iload_n 2, 1) := by decide +kernel
theorem dX0_addFormula_18 : decode cX0_addFormula 18 = .ok (.bastore, 1) := by decide +kernel
theorem dX0_addFormula_19 : decode cX0_addFormula 19 = .ok (.aload_n 0, 1) := by decide +kernel
theorem dX0_addFormula_20 : decode cX0_addFormula 20 = .ok (.dup, 1) := by decide +kernel
theorem dX0_addFormula_21 : decode cX0_addFormula 21 = .ok (.getfield 9, 3) := by decide +kernel
theorem dX0_addFormula_24 : decode cX0_addFormula 24 = .ok (.iconst 1, 1) := by decide +kernel
theorem dX0_addFormula_25 : decode cX0_addFormula 25 = .ok (.iadd, 1) := by decide +kernel
theorem dX0_addFormula_26 : decode cX0_addFormula 26 = .ok (.putfield 9, 3) := by decide +kernel
theorem dX0_addFormula_29 : decode cX0_addFormula 29 = .ok (.iload_n 3, 1) := by decide +kernel
theorem dX0_addFormula_30 : decode cX0_addFormula 30 = .ok (.ireturn, 1) := by decide +kernel
theorem dX0_valuationsWithBit_0 : decode cX0_valuationsWithBit 0 = .ok (.iload_n 0, 1) := by decide +kernel
theorem dX0_valuationsWithBit_1 : decode cX0_valuationsWithBit 1 = .ok (.getstatic 217, 3) := by decide +kernel
theorem dX0_valuationsWithBit_4 : decode cX0_valuationsWithBit 4 = .ok (.arraylength, 1) := by decide +kernel
theorem dX0_valuationsWithBit_5 : decode cX0_valuationsWithBit 5 = .ok (.if_icmp .ge 9, 3) := by decide +kernel
theorem dX0_valuationsWithBit_8 : decode cX0_valuationsWithBit 8 = .ok (.getstatic 217, 3) := by decide +kernel
theorem dX0_valuationsWithBit_11 : decode cX0_valuationsWithBit 11 = .ok (.iload_n 0, 1) := by decide +kernel
theorem dX0_valuationsWithBit_12 : decode cX0_valuationsWithBit 12 = .ok (.laload, 1) := by decide +kernel
theorem dX0_valuationsWithBit_13 : decode cX0_valuationsWithBit 13 = .ok (.lreturn, 1) := by decide +kernel
theorem dX0_valuationsWithBit_14 : decode cX0_valuationsWithBit 14 = .ok (.iload_n 1, 1) := by decide +kernel
theorem dX0_valuationsWithBit_15 : decode cX0_valuationsWithBit 15 = .ok (.iload_n 0, 1) := by decide +kernel
theorem dX0_valuationsWithBit_16 : decode cX0_valuationsWithBit 16 = .ok (.getstatic 217, 3) := by decide +kernel
theorem dX0_valuationsWithBit_19 : decode cX0_valuationsWithBit 19 = .ok (.arraylength, 1) := by decide +kernel
theorem dX0_valuationsWithBit_20 : decode cX0_valuationsWithBit 20 = .ok (.isub, 1) := by decide +kernel
theorem dX0_valuationsWithBit_21 : decode cX0_valuationsWithBit 21 = .ok (.iushr, 1) := by decide +kernel
theorem dX0_valuationsWithBit_22 : decode cX0_valuationsWithBit 22 = .ok (.iconst 1, 1) := by decide +kernel
theorem dX0_valuationsWithBit_23 : decode cX0_valuationsWithBit 23 = .ok (.iand, 1) := by decide +kernel
theorem dX0_valuationsWithBit_24 : decode cX0_valuationsWithBit 24 = .ok (.ifCond .eq 9, 3) := by decide +kernel
theorem dX0_valuationsWithBit_27 : decode cX0_valuationsWithBit 27 = .ok (.ldc2_w 46, 3) := by decide +kernel
theorem dX0_valuationsWithBit_30 : decode cX0_valuationsWithBit 30 = .ok (.goto 4, 3) := by decide +kernel
theorem dX0_valuationsWithBit_33 : decode cX0_valuationsWithBit 33 = .ok (.lconst 0, 1) := by decide +kernel
theorem dX0_valuationsWithBit_34 : decode cX0_valuationsWithBit 34 = .ok (.lreturn, 1) := by decide +kernel
theorem dX0_joinTrue_0 : decode cX0_joinTrue 0 = .ok (.iload_n 0, 1) := by decide +kernel
theorem dX0_joinTrue_1 : decode cX0_joinTrue 1 = .ok (.tableswitch 39 3 6 #[31, 35, 31, 35], 31) := by decide +kernel
theorem dX0_joinTrue_32 : decode cX0_joinTrue 32 = .ok (.lload_n 1, 1) := by decide +kernel
theorem dX0_joinTrue_33 : decode cX0_joinTrue 33 = .ok (.lload_n 3, 1) := by decide +kernel
theorem dX0_joinTrue_34 : decode cX0_joinTrue 34 = .ok (.land, 1) := by decide +kernel
theorem dX0_joinTrue_35 : decode cX0_joinTrue 35 = .ok (.lreturn, 1) := by decide +kernel
theorem dX0_joinTrue_36 : decode cX0_joinTrue 36 = .ok (.lload_n 1, 1) := by decide +kernel
theorem dX0_joinTrue_37 : decode cX0_joinTrue 37 = .ok (.lload_n 3, 1) := by decide +kernel
theorem dX0_joinTrue_38 : decode cX0_joinTrue 38 = .ok (.lor, 1) := by decide +kernel
theorem dX0_joinTrue_39 : decode cX0_joinTrue 39 = .ok (.lreturn, 1) := by decide +kernel
theorem dX0_joinTrue_40 : decode cX0_joinTrue 40 = .ok (.lload_n 1, 1) := by decide +kernel
theorem dX0_joinTrue_41 : decode cX0_joinTrue 41 = .ok (.ldc2_w 46, 3) := by decide +kernel
theorem dX0_joinTrue_44 : decode cX0_joinTrue 44 = .ok (.lxor, 1) := by decide +kernel
theorem dX0_joinTrue_45 : decode cX0_joinTrue 45 = .ok (.lload_n 3, 1) := by decide +kernel
theorem dX0_joinTrue_46 : decode cX0_joinTrue 46 = .ok (.lor, 1) := by decide +kernel
theorem dX0_joinTrue_47 : decode cX0_joinTrue 47 = .ok (.lreturn, 1) := by decide +kernel
theorem dX0_joinFalse_0 : decode cX0_joinFalse 0 = .ok (.iload_n 0, 1) := by decide +kernel
theorem dX0_joinFalse_1 : decode cX0_joinFalse 1 = .ok (.tableswitch 41 3 6 #[36, 31, 31, 36], 31) := by decide +kernel
theorem dX0_joinFalse_32 : decode cX0_joinFalse 32 = .ok (.lload_n 3, 1) := by decide +kernel
theorem dX0_joinFalse_33 : decode cX0_joinFalse 33 = .ok (.lload 5, 2) := by decide +kernel
theorem dX0_joinFalse_35 : decode cX0_joinFalse 35 = .ok (.land, 1) := by decide +kernel
theorem dX0_joinFalse_36 : decode cX0_joinFalse 36 = .ok (.lreturn, 1) := by decide +kernel
theorem dX0_joinFalse_37 : decode cX0_joinFalse 37 = .ok (.lload_n 3, 1) := by decide +kernel
theorem dX0_joinFalse_38 : decode cX0_joinFalse 38 = .ok (.lload 5, 2) := by decide +kernel
theorem dX0_joinFalse_40 : decode cX0_joinFalse 40 = .ok (.lor, 1) := by decide +kernel
theorem dX0_joinFalse_41 : decode cX0_joinFalse 41 = .ok (.lreturn, 1) := by decide +kernel
theorem dX0_joinFalse_42 : decode cX0_joinFalse 42 = .ok (.lload_n 1, 1) := by decide +kernel
theorem dX0_joinFalse_43 : decode cX0_joinFalse 43 = .ok (.lload 5, 2) := by decide +kernel
theorem dX0_joinFalse_45 : decode cX0_joinFalse 45 = .ok (.land, 1) := by decide +kernel
theorem dX0_joinFalse_46 : decode cX0_joinFalse 46 = .ok (.lreturn, 1) := by decide +kernel
set_option maxRecDepth 20000 in
theorem ggX0_lookUp_X0_rowOf : GoodIn wsX0_lookUp wsX0_rowOf := goodIn_r _ [6] (by decide +kernel) (by decide +kernel)
set_option maxRecDepth 20000 in
theorem gX0_lookUp_X0_rowOf : GoodIn wsX0_lookUp (va_wsS RX0 63 yX0_rowOf wsX0_rowOf) := goodIn_app (goodIn_of _ (by decide +kernel)) ggX0_lookUp_X0_rowOf
theorem dX0_lookUp_0 : decode cX0_lookUp 0 = .ok (.iload_n 1, 1) := by decide +kernel
theorem dX0_lookUp_1 : decode cX0_lookUp 1 = .ok (.invokestatic 63, 3) := by decide +kernel
theorem dX0_lookUp_4 : decode cX0_lookUp 4 = .ok (.iload_n 2, 1) := by decide +kernel
theorem dX0_lookUp_5 : decode cX0_lookUp 5 = .ok (.bipush 64, 2) := by decide +kernel
theorem dX0_lookUp_7 : decode cX0_lookUp 7 = .ok (.idiv, 1) := by decide +kernel
theorem dX0_lookUp_8 : decode cX0_lookUp 8 = .ok (.iadd, 1) := by decide +kernel
theorem dX0_lookUp_9 : decode cX0_lookUp 9 = .ok (.istore_n 3, 1) := by decide +kernel
theorem dX0_lookUp_10 : decode cX0_lookUp 10 = .ok (.iload_n 2, 1) := by decide +kernel
theorem dX0_lookUp_11 : decode cX0_lookUp 11 = .ok (.bipush 64, 2) := by decide +kernel
theorem dX0_lookUp_13 : decode cX0_lookUp 13 = .ok (.irem, 1) := by decide +kernel
theorem dX0_lookUp_14 : decode cX0_lookUp 14 = .ok (.istore 4, 2) := by decide +kernel
theorem dX0_lookUp_16 : decode cX0_lookUp 16 = .ok (.aload_n 0, 1) := by decide +kernel
theorem dX0_lookUp_17 : decode cX0_lookUp 17 = .ok (.getfield 21, 3) := by decide +kernel
theorem dX0_lookUp_20 : decode cX0_lookUp 20 = .ok (.iload_n 3, 1) := by decide +kernel
theorem dX0_lookUp_21 : decode cX0_lookUp 21 = .ok (.laload, 1) := by decide +kernel
theorem dX0_lookUp_22 : decode cX0_lookUp 22 = .ok (.iload 4, 2) := by decide +kernel
theorem dX0_lookUp_24 : decode cX0_lookUp 24 = .ok (.lushr, 1) := by decide +kernel
theorem dX0_lookUp_25 : decode cX0_lookUp 25 = .ok (.lconst 1, 1) := by decide +kernel
theorem dX0_lookUp_26 : decode cX0_lookUp 26 = .ok (.land, 1) := by decide +kernel
theorem dX0_lookUp_27 : decode cX0_lookUp 27 = .ok (.l2i, 1) := by decide +kernel
theorem dX0_lookUp_28 : decode cX0_lookUp 28 = .ok (.istore 5, 2) := by decide +kernel
theorem dX0_lookUp_30 : decode cX0_lookUp 30 = .ok (.aload_n 0, 1) := by decide +kernel
theorem dX0_lookUp_31 : decode cX0_lookUp 31 = .ok (.getfield 25, 3) := by decide +kernel
theorem dX0_lookUp_34 : decode cX0_lookUp 34 = .ok (.iload_n 3, 1) := by decide +kernel
theorem dX0_lookUp_35 : decode cX0_lookUp 35 = .ok (.laload, 1) := by decide +kernel
theorem dX0_lookUp_36 : decode cX0_lookUp 36 = .ok (.iload 4, 2) := by decide +kernel
theorem dX0_lookUp_38 : decode cX0_lookUp 38 = .ok (.lushr, 1) := by decide +kernel
theorem dX0_lookUp_39 : decode cX0_lookUp 39 = .ok (.lconst 1, 1) := by decide +kernel
theorem dX0_lookUp_40 : decode cX0_lookUp 40 = .ok (.land, 1) := by decide +kernel
theorem dX0_lookUp_41 : decode cX0_lookUp 41 = .ok (.l2i, 1) := by decide +kernel
theorem dX0_lookUp_42 : decode cX0_lookUp 42 = .ok (.istore 6, 2) := by decide +kernel
theorem dX0_lookUp_44 : decode cX0_lookUp 44 = .ok (.iload 5, 2) := by decide +kernel
theorem dX0_lookUp_46 : decode cX0_lookUp 46 = .ok (.iconst 1, 1) := by decide +kernel
theorem dX0_lookUp_47 : decode cX0_lookUp 47 = .ok (.imul, 1) := by decide +kernel
theorem dX0_lookUp_48 : decode cX0_lookUp 48 = .ok (.iload 6, 2) := by decide +kernel
theorem dX0_lookUp_50 : decode cX0_lookUp 50 = .ok (.iconst 2, 1) := by decide +kernel
theorem dX0_lookUp_51 : decode cX0_lookUp 51 = .ok (.imul, 1) := by decide +kernel
theorem dX0_lookUp_52 : decode cX0_lookUp 52 = .ok (.iadd, 1) := by decide +kernel
theorem dX0_lookUp_53 : decode cX0_lookUp 53 = .ok (.ireturn, 1) := by decide +kernel
set_option maxRecDepth 20000 in
theorem ggX0_pick_X0_isTold : GoodIn wsX0_pick wsX0_isTold := goodIn_r _ [5] (by decide +kernel) (by decide +kernel)
set_option maxRecDepth 20000 in
theorem gX0_pick_X0_isTold : GoodIn wsX0_pick (va_wsS RX0 127 yX0_isTold wsX0_isTold) := goodIn_app (goodIn_of _ (by decide +kernel)) ggX0_pick_X0_isTold
theorem dX0_pick_0 : decode cX0_pick 0 = .ok (.iload 4, 2) := by decide +kernel
theorem dX0_pick_2 : decode cX0_pick 2 = .ok (.iconst 1, 1) := by decide +kernel
theorem dX0_pick_3 : decode cX0_pick 3 = .ok (.invokestatic 127, 3) := by decide +kernel
theorem dX0_pick_6 : decode cX0_pick 6 = .ok (.ifCond .eq 7, 3) := by decide +kernel
theorem dX0_pick_9 : decode cX0_pick 9 = .ok (.lload_n 0, 1) := by decide +kernel
theorem dX0_pick_10 : decode cX0_pick 10 = .ok (.goto 8, 3) := by decide +kernel
theorem dX0_pick_13 : decode cX0_pick 13 = .ok (.lload_n 0, 1) := by decide +kernel
theorem dX0_pick_14 : decode cX0_pick 14 = .ok (.ldc2_w 46, 3) := by decide +kernel
theorem dX0_pick_17 : decode cX0_pick 17 = .ok (.lxor, 1) := by decide +kernel
theorem dX0_pick_18 : decode cX0_pick 18 = .ok (.iload 4, 2) := by decide +kernel
theorem dX0_pick_20 : decode cX0_pick 20 = .ok (.iconst 0, 1) := by decide +kernel
theorem dX0_pick_21 : decode cX0_pick 21 = .ok (.invokestatic 127, 3) := by decide +kernel
theorem dX0_pick_24 : decode cX0_pick 24 = .ok (.ifCond .eq 7, 3) := by decide +kernel
theorem dX0_pick_27 : decode cX0_pick 27 = .ok (.lload_n 2, 1) := by decide +kernel
theorem dX0_pick_28 : decode cX0_pick 28 = .ok (.goto 8, 3) := by decide +kernel
theorem dX0_pick_31 : decode cX0_pick 31 = .ok (.lload_n 2, 1) := by decide +kernel
theorem dX0_pick_32 : decode cX0_pick 32 = .ok (.ldc2_w 46, 3) := by decide +kernel
theorem dX0_pick_35 : decode cX0_pick 35 = .ok (.lxor, 1) := by decide +kernel
theorem dX0_pick_36 : decode cX0_pick 36 = .ok (.land, 1) := by decide +kernel
theorem dX0_pick_37 : decode cX0_pick 37 = .ok (.lreturn, 1) := by decide +kernel
theorem dX0_isHeard_0 : decode cX0_isHeard 0 = .ok (.aload_n 0, 1) := by decide +kernel
theorem dX0_isHeard_1 : decode cX0_isHeard 1 = .ok (.getfield 31, 3) := by decide +kernel
theorem dX0_isHeard_4 : decode cX0_isHeard 4 = .ok (.iload_n 1, 1) := by decide +kernel
theorem dX0_isHeard_5 : decode cX0_isHeard 5 = .ok (.baload, 1) := by decide +kernel
theorem dX0_isHeard_6 : decode cX0_isHeard 6 = .ok (.ifCond .eq 20, 3) := by decide +kernel
theorem dX0_isHeard_9 : decode cX0_isHeard 9 = .ok (.aload_n 0, 1) := by decide +kernel
theorem dX0_isHeard_10 : decode cX0_isHeard 10 = .ok (.getfield 28, 3) := by decide +kernel
theorem dX0_isHeard_13 : decode cX0_isHeard 13 = .ok (.iload_n 1, 1) := by decide +kernel
theorem dX0_isHeard_14 : decode cX0_isHeard 14 = .ok (.iaload, 1) := by decide +kernel
theorem dX0_isHeard_15 : decode cX0_isHeard 15 = .ok (.aload_n 0, 1) := by decide +kernel
theorem dX0_isHeard_16 : decode cX0_isHeard 16 = .ok (.getfield 37, 3) := by decide +kernel
theorem dX0_isHeard_19 : decode cX0_isHeard 19 = .ok (.if_icmp .lt 7, 3) := by decide +kernel
theorem dX0_isHeard_22 : decode cX0_isHeard 22 = .ok (.iconst 1, 1) := by decide +kernel
theorem dX0_isHeard_23 : decode cX0_isHeard 23 = .ok (.goto 4, 3) := by decide +kernel
theorem dX0_isHeard_26 : decode cX0_isHeard 26 = .ok (.iconst 0, 1) := by decide +kernel
theorem dX0_isHeard_27 : decode cX0_isHeard 27 = .ok (.ireturn, 1) := by decide +kernel
theorem dX0_trustOf_0 : decode cX0_trustOf 0 = .ok (.iconst 0, 1) := by decide +kernel
theorem dX0_trustOf_1 : decode cX0_trustOf 1 = .ok (.istore_n 2, 1) := by decide +kernel
theorem dX0_trustOf_2 : decode cX0_trustOf 2 = .ok (.iconst 0, 1) := by decide +kernel
theorem dX0_trustOf_3 : decode cX0_trustOf 3 = .ok (.istore_n 3, 1) := by decide +kernel
theorem dX0_trustOf_4 : decode cX0_trustOf 4 = .ok (.iload_n 3, 1) := by decide +kernel
theorem dX0_trustOf_5 : decode cX0_trustOf 5 = .ok (.bipush 6, 2) := by decide +kernel
theorem dX0_trustOf_7 : decode cX0_trustOf 7 = .ok (.if_icmp .ge 26, 3) := by decide +kernel
theorem dX0_trustOf_10 : decode cX0_trustOf 10 = .ok (.iload_n 1, 1) := by decide +kernel
theorem dX0_trustOf_11 : decode cX0_trustOf 11 = .ok (.iload_n 3, 1) := by decide +kernel
theorem dX0_trustOf_12 : decode cX0_trustOf 12 = .ok (.iushr, 1) := by decide +kernel
theorem dX0_trustOf_13 : decode cX0_trustOf 13 = .ok (.iconst 1, 1) := by decide +kernel
theorem dX0_trustOf_14 : decode cX0_trustOf 14 = .ok (.iand, 1) := by decide +kernel
theorem dX0_trustOf_15 : decode cX0_trustOf 15 = .ok (.ifCond .eq 12, 3) := by decide +kernel
theorem dX0_trustOf_18 : decode cX0_trustOf 18 = .ok (.iload_n 2, 1) := by decide +kernel
theorem dX0_trustOf_19 : decode cX0_trustOf 19 = .ok (.aload_n 0, 1) := by decide +kernel
theorem dX0_trustOf_20 : decode cX0_trustOf 20 = .ok (.getfield 28, 3) := by decide +kernel
theorem dX0_trustOf_23 : decode cX0_trustOf 23 = .ok (.iload_n 3, 1) := by decide +kernel
theorem dX0_trustOf_24 : decode cX0_trustOf 24 = .ok (.iaload, 1) := by decide +kernel
theorem dX0_trustOf_25 : decode cX0_trustOf 25 = .ok (.iadd, 1) := by decide +kernel
theorem dX0_trustOf_26 : decode cX0_trustOf 26 = .ok (.istore_n 2, 1) := by decide +kernel
theorem dX0_trustOf_27 : decode cX0_trustOf 27 = .ok (.iinc 3 1, 3) := by decide +kernel
theorem dX0_trustOf_30 : decode cX0_trustOf 30 = .ok (.goto (-26), 3) := by decide +kernel
theorem dX0_trustOf_33 : decode cX0_trustOf 33 = .ok (.iload_n 2, 1) := by decide +kernel
theorem dX0_trustOf_34 : decode cX0_trustOf 34 = .ok (.ireturn, 1) := by decide +kernel
theorem dX0_givenState_0 : decode cX0_givenState 0 = .ok (.iconst 0, 1) := by decide +kernel
theorem dX0_givenState_1 : decode cX0_givenState 1 = .ok (.istore_n 2, 1) := by decide +kernel
theorem dX0_givenState_2 : decode cX0_givenState 2 = .ok (.iconst 0, 1) := by decide +kernel
theorem dX0_givenState_3 : decode cX0_givenState 3 = .ok (.istore_n 3, 1) := by decide +kernel
theorem dX0_givenState_4 : decode cX0_givenState 4 = .ok (.iload_n 3, 1) := by decide +kernel
theorem dX0_givenState_5 : decode cX0_givenState 5 = .ok (.bipush 6, 2) := by decide +kernel
theorem dX0_givenState_7 : decode cX0_givenState 7 = .ok (.if_icmp .ge 26, 3) := by decide +kernel
theorem dX0_givenState_10 : decode cX0_givenState 10 = .ok (.iload_n 1, 1) := by decide +kernel
theorem dX0_givenState_11 : decode cX0_givenState 11 = .ok (.iload_n 3, 1) := by decide +kernel
theorem dX0_givenState_12 : decode cX0_givenState 12 = .ok (.iushr, 1) := by decide +kernel
theorem dX0_givenState_13 : decode cX0_givenState 13 = .ok (.iconst 1, 1) := by decide +kernel
theorem dX0_givenState_14 : decode cX0_givenState 14 = .ok (.iand, 1) := by decide +kernel
theorem dX0_givenState_15 : decode cX0_givenState 15 = .ok (.ifCond .eq 12, 3) := by decide +kernel
theorem dX0_givenState_18 : decode cX0_givenState 18 = .ok (.iload_n 2, 1) := by decide +kernel
theorem dX0_givenState_19 : decode cX0_givenState 19 = .ok (.aload_n 0, 1) := by decide +kernel
theorem dX0_givenState_20 : decode cX0_givenState 20 = .ok (.getfield 34, 3) := by decide +kernel
theorem dX0_givenState_23 : decode cX0_givenState 23 = .ok (.iload_n 3, 1) := by decide +kernel
theorem dX0_givenState_24 : decode cX0_givenState 24 = .ok (.iaload, 1) := by decide +kernel
theorem dX0_givenState_25 : decode cX0_givenState 25 = .ok (.ior, 1) := by decide +kernel
theorem dX0_givenState_26 : decode cX0_givenState 26 = .ok (.istore_n 2, 1) := by decide +kernel
theorem dX0_givenState_27 : decode cX0_givenState 27 = .ok (.iinc 3 1, 3) := by decide +kernel
theorem dX0_givenState_30 : decode cX0_givenState 30 = .ok (.goto (-26), 3) := by decide +kernel
theorem dX0_givenState_33 : decode cX0_givenState 33 = .ok (.iload_n 2, 1) := by decide +kernel
theorem dX0_givenState_34 : decode cX0_givenState 34 = .ok (.ireturn, 1) := by decide +kernel
set_option maxRecDepth 20000 in
theorem ggX0_nextState_X0_lookUp : GoodIn wsX0_nextState wsX0_lookUp := goodIn_r _ [6, 7, 8, 9, 10, 5, 11, 15, 16, 17, 18, 19, 20, 21, 22, 23, 24, 25, 26] (by decide +kernel) (by decide +kernel)
set_option maxRecDepth 20000 in
theorem gX0_nextState_X0_lookUp : GoodIn wsX0_nextState (wsV RX0 131 RX0 yX0_lookUp wsX0_lookUp) := goodIn_app (goodIn_of _ (by decide +kernel)) ggX0_nextState_X0_lookUp
set_option maxRecDepth 20000 in
theorem ggX0_nextState_X0_placeOf : GoodIn wsX0_nextState wsX0_placeOf := goodIn_r _ [14] (by decide +kernel) (by decide +kernel)
set_option maxRecDepth 20000 in
theorem gX0_nextState_X0_placeOf : GoodIn wsX0_nextState (va_wsS RX0 59 yX0_placeOf wsX0_placeOf) := goodIn_app (goodIn_of _ (by decide +kernel)) ggX0_nextState_X0_placeOf
theorem dX0_nextState_0 : decode cX0_nextState 0 = .ok (.iload_n 1, 1) := by decide +kernel
theorem dX0_nextState_1 : decode cX0_nextState 1 = .ok (.istore_n 3, 1) := by decide +kernel
theorem dX0_nextState_2 : decode cX0_nextState 2 = .ok (.iconst 0, 1) := by decide +kernel
theorem dX0_nextState_3 : decode cX0_nextState 3 = .ok (.istore 4, 2) := by decide +kernel
theorem dX0_nextState_5 : decode cX0_nextState 5 = .ok (.iload 4, 2) := by decide +kernel
theorem dX0_nextState_7 : decode cX0_nextState 7 = .ok (.bipush 6, 2) := by decide +kernel
theorem dX0_nextState_9 : decode cX0_nextState 9 = .ok (.if_icmp .ge 41, 3) := by decide +kernel
theorem dX0_nextState_12 : decode cX0_nextState 12 = .ok (.aload_n 0, 1) := by decide +kernel
theorem dX0_nextState_13 : decode cX0_nextState 13 = .ok (.getfield 40, 3) := by decide +kernel
theorem dX0_nextState_16 : decode cX0_nextState 16 = .ok (.iload 4, 2) := by decide +kernel
theorem dX0_nextState_18 : decode cX0_nextState 18 = .ok (.iaload, 1) := by decide +kernel
theorem dX0_nextState_19 : decode cX0_nextState 19 = .ok (.iconst (-1), 1) := by decide +kernel
theorem dX0_nextState_20 : decode cX0_nextState 20 = .ok (.if_icmp .eq 24, 3) := by decide +kernel
theorem dX0_nextState_23 : decode cX0_nextState 23 = .ok (.iload_n 3, 1) := by decide +kernel
theorem dX0_nextState_24 : decode cX0_nextState 24 = .ok (.aload_n 0, 1) := by decide +kernel
theorem dX0_nextState_25 : decode cX0_nextState 25 = .ok (.aload_n 0, 1) := by decide +kernel
theorem dX0_nextState_26 : decode cX0_nextState 26 = .ok (.getfield 40, 3) := by decide +kernel
theorem dX0_nextState_29 : decode cX0_nextState 29 = .ok (.iload 4, 2) := by decide +kernel
theorem dX0_nextState_31 : decode cX0_nextState 31 = .ok (.iaload, 1) := by decide +kernel
theorem dX0_nextState_32 : decode cX0_nextState 32 = .ok (.iload_n 2, 1) := by decide +kernel
theorem dX0_nextState_33 : decode cX0_nextState 33 = .ok (.invokevirtual 131, 3) := by decide +kernel
theorem dX0_nextState_36 : decode cX0_nextState 36 = .ok (.iload 4, 2) := by decide +kernel
theorem dX0_nextState_38 : decode cX0_nextState 38 = .ok (.invokestatic 59, 3) := by decide +kernel
theorem dX0_nextState_41 : decode cX0_nextState 41 = .ok (.ishl, 1) := by decide +kernel
theorem dX0_nextState_42 : decode cX0_nextState 42 = .ok (.ior, 1) := by decide +kernel
theorem dX0_nextState_43 : decode cX0_nextState 43 = .ok (.istore_n 3, 1) := by decide +kernel
theorem dX0_nextState_44 : decode cX0_nextState 44 = .ok (.iinc 4 1, 3) := by decide +kernel
theorem dX0_nextState_47 : decode cX0_nextState 47 = .ok (.goto (-42), 3) := by decide +kernel
theorem dX0_nextState_50 : decode cX0_nextState 50 = .ok (.iload_n 3, 1) := by decide +kernel
theorem dX0_nextState_51 : decode cX0_nextState 51 = .ok (.ireturn, 1) := by decide +kernel
set_option maxRecDepth 20000 in
theorem ggX0_settledNow_X0_heard : GoodIn wsX0_settledNow wsX0_heard := goodIn_r _ [5, 6, 7, 8, 4, 9, 10, 11, 12, 39, 40, 41, 42, 43, 44, 45, 46, 47, 48, 49, 50] (by decide +kernel) (by decide +kernel)
set_option maxRecDepth 20000 in
theorem gX0_settledNow_X0_heard : GoodIn wsX0_settledNow (wsV RX0 114 RX0 yX0_heard wsX0_heard) := goodIn_app (goodIn_of _ (by decide +kernel)) ggX0_settledNow_X0_heard
set_option maxRecDepth 20000 in
theorem ggX0_settledNow_X0_settledState : GoodIn wsX0_settledNow wsX0_settledState := goodIn_r _ [16, 17, 18, 19, 4, 20, 21, 22, 23, 24, 25, 26, 27, 28, 29, 30, 31, 32, 33, 34, 35, 36, 37, 38, 39, 40, 41, 42, 43, 44, 45, 46, 47, 48, 49, 50] (by decide +kernel) (by decide +kernel)
set_option maxRecDepth 20000 in
theorem gX0_settledNow_X0_settledState : GoodIn wsX0_settledNow (wsV RX0 142 RX0 yX0_settledState wsX0_settledState) := goodIn_app (goodIn_of _ (by decide +kernel)) ggX0_settledNow_X0_settledState
theorem dX0_settledNow_0 : decode cX0_settledNow 0 = .ok (.aload_n 0, 1) := by decide +kernel
theorem dX0_settledNow_1 : decode cX0_settledNow 1 = .ok (.aload_n 0, 1) := by decide +kernel
theorem dX0_settledNow_2 : decode cX0_settledNow 2 = .ok (.invokevirtual 114, 3) := by decide +kernel
theorem dX0_settledNow_5 : decode cX0_settledNow 5 = .ok (.invokevirtual 142, 3) := by decide +kernel
theorem dX0_settledNow_8 : decode cX0_settledNow 8 = .ok (.ireturn, 1) := by decide +kernel
set_option maxRecDepth 20000 in
theorem ggX0_settledState_X0_givenState : GoodIn wsX0_settledState wsX0_givenState := goodIn_r _ [5, 6, 24, 25, 26, 27, 28, 29, 30, 31, 32, 33, 34, 35] (by decide +kernel) (by decide +kernel)
set_option maxRecDepth 20000 in
theorem gX0_settledState_X0_givenState : GoodIn wsX0_settledState (wsV RX0 118 RX0 yX0_givenState wsX0_givenState) := goodIn_app (goodIn_of _ (by decide +kernel)) ggX0_settledState_X0_givenState
set_option maxRecDepth 20000 in
theorem ggX0_settledState_X0_nextState : GoodIn wsX0_settledState wsX0_nextState := goodIn_r _ [10, 11, 12, 13, 14, 4, 15, 16, 17, 18, 19, 20, 21, 22, 23, 24, 25, 26, 27, 28, 29, 30, 31, 32, 33, 34, 35] (by decide +kernel) (by decide +kernel)
set_option maxRecDepth 20000 in
theorem gX0_settledState_X0_nextState : GoodIn wsX0_settledState (wsV RX0 124 RX0 yX0_nextState wsX0_nextState) := goodIn_app (goodIn_of _ (by decide +kernel)) ggX0_settledState_X0_nextState
theorem dX0_settledState_0 : decode cX0_settledState 0 = .ok (.aload_n 0, 1) := by decide +kernel
theorem dX0_settledState_1 : decode cX0_settledState 1 = .ok (.iload_n 1, 1) := by decide +kernel
theorem dX0_settledState_2 : decode cX0_settledState 2 = .ok (.invokevirtual 118, 3) := by decide +kernel
theorem dX0_settledState_5 : decode cX0_settledState 5 = .ok (.istore_n 2, 1) := by decide +kernel
theorem dX0_settledState_6 : decode cX0_settledState 6 = .ok (.iload_n 2, 1) := by decide +kernel
theorem dX0_settledState_7 : decode cX0_settledState 7 = .ok (.istore_n 3, 1) := by decide +kernel
theorem dX0_settledState_8 : decode cX0_settledState 8 = .ok (.iconst 0, 1) := by decide +kernel
theorem dX0_settledState_9 : decode cX0_settledState 9 = .ok (.istore 4, 2) := by decide +kernel
theorem dX0_settledState_11 : decode cX0_settledState 11 = .ok (.iload 4, 2) := by decide +kernel
theorem dX0_settledState_13 : decode cX0_settledState 13 = .ok (.bipush 12, 2) := by decide +kernel
theorem dX0_settledState_15 : decode cX0_settledState 15 = .ok (.if_icmp .ge 28, 3) := by decide +kernel
theorem dX0_settledState_18 : decode cX0_settledState 18 = .ok (.aload_n 0, 1) := by decide +kernel
theorem dX0_settledState_19 : decode cX0_settledState 19 = .ok (.iload_n 2, 1) := by decide +kernel
theorem dX0_settledState_20 : decode cX0_settledState 20 = .ok (.iload_n 3, 1) := by decide +kernel
theorem dX0_settledState_21 : decode cX0_settledState 21 = .ok (.invokevirtual 124, 3) := by decide +kernel
theorem dX0_settledState_24 : decode cX0_settledState 24 = .ok (.istore 5, 2) := by decide +kernel
theorem dX0_settledState_26 : decode cX0_settledState 26 = .ok (.iload 5, 2) := by decide +kernel
theorem dX0_settledState_28 : decode cX0_settledState 28 = .ok (.iload_n 3, 1) := by decide +kernel
theorem dX0_settledState_29 : decode cX0_settledState 29 = .ok (.if_icmp .ne 5, 3) := by decide +kernel
theorem dX0_settledState_32 : decode cX0_settledState 32 = .ok (.iload_n 3, 1) := by decide +kernel
theorem dX0_settledState_33 : decode cX0_settledState 33 = .ok (.ireturn, 1) := by decide +kernel
theorem dX0_settledState_34 : decode cX0_settledState 34 = .ok (.iload 5, 2) := by decide +kernel
theorem dX0_settledState_36 : decode cX0_settledState 36 = .ok (.istore_n 3, 1) := by decide +kernel
theorem dX0_settledState_37 : decode cX0_settledState 37 = .ok (.iinc 4 1, 3) := by decide +kernel
theorem dX0_settledState_40 : decode cX0_settledState 40 = .ok (.goto (-29), 3) := by decide +kernel
theorem dX0_settledState_43 : decode cX0_settledState 43 = .ok (.iload_n 3, 1) := by decide +kernel
theorem dX0_settledState_44 : decode cX0_settledState 44 = .ok (.ireturn, 1) := by decide +kernel
theorem dX0_triplesOf_0 : decode cX0_triplesOf 0 = .ok (.lconst 0, 1) := by decide +kernel
theorem dX0_triplesOf_1 : decode cX0_triplesOf 1 = .ok (.lstore_n 1, 1) := by decide +kernel
theorem dX0_triplesOf_2 : decode cX0_triplesOf 2 = .ok (.iconst 0, 1) := by decide +kernel
theorem dX0_triplesOf_3 : decode cX0_triplesOf 3 = .ok (.istore_n 3, 1) := by decide +kernel
theorem dX0_triplesOf_4 : decode cX0_triplesOf 4 = .ok (.iload_n 3, 1) := by decide +kernel
theorem dX0_triplesOf_5 : decode cX0_triplesOf 5 = .ok (.bipush 64, 2) := by decide +kernel
theorem dX0_triplesOf_7 : decode cX0_triplesOf 7 = .ok (.if_icmp .ge 51, 3) := by decide +kernel
theorem dX0_triplesOf_10 : decode cX0_triplesOf 10 = .ok (.iload_n 0, 1) := by decide +kernel
theorem dX0_triplesOf_11 : decode cX0_triplesOf 11 = .ok (.iload_n 3, 1) := by decide +kernel
theorem dX0_triplesOf_12 : decode cX0_triplesOf 12 = .ok (.iconst 4, 1) := by decide +kernel
theorem dX0_triplesOf_13 : decode cX0_triplesOf 13 = .ok (.iushr, 1) := by decide +kernel
theorem dX0_triplesOf_14 : decode cX0_triplesOf 14 = .ok (.iushr, 1) := by decide +kernel
theorem dX0_triplesOf_15 : decode cX0_triplesOf 15 = .ok (.istore 4, 2) := by decide +kernel
theorem dX0_triplesOf_17 : decode cX0_triplesOf 17 = .ok (.iload_n 0, 1) := by decide +kernel
theorem dX0_triplesOf_18 : decode cX0_triplesOf 18 = .ok (.iload_n 3, 1) := by decide +kernel
theorem dX0_triplesOf_19 : decode cX0_triplesOf 19 = .ok (.iconst 2, 1) := by decide +kernel
theorem dX0_triplesOf_20 : decode cX0_triplesOf 20 = .ok (.iushr, 1) := by decide +kernel
theorem dX0_triplesOf_21 : decode cX0_triplesOf 21 = .ok (.iconst 3, 1) := by decide +kernel
theorem dX0_triplesOf_22 : decode cX0_triplesOf 22 = .ok (.iand, 1) := by decide +kernel
theorem dX0_triplesOf_23 : decode cX0_triplesOf 23 = .ok (.iushr, 1) := by decide +kernel
theorem dX0_triplesOf_24 : decode cX0_triplesOf 24 = .ok (.istore 5, 2) := by decide +kernel
theorem dX0_triplesOf_26 : decode cX0_triplesOf 26 = .ok (.iload_n 0, 1) := by decide +kernel
theorem dX0_triplesOf_27 : decode cX0_triplesOf 27 = .ok (.iload_n 3, 1) := by decide +kernel
theorem dX0_triplesOf_28 : decode cX0_triplesOf 28 = .ok (.iconst 3, 1) := by decide +kernel
theorem dX0_triplesOf_29 : decode cX0_triplesOf 29 = .ok (.iand, 1) := by decide +kernel
theorem dX0_triplesOf_30 : decode cX0_triplesOf 30 = .ok (.iushr, 1) := by decide +kernel
theorem dX0_triplesOf_31 : decode cX0_triplesOf 31 = .ok (.istore 6, 2) := by decide +kernel
theorem dX0_triplesOf_33 : decode cX0_triplesOf 33 = .ok (.iload 4, 2) := by decide +kernel
theorem dX0_triplesOf_35 : decode cX0_triplesOf 35 = .ok (.iload 5, 2) := by decide +kernel
theorem dX0_triplesOf_37 : decode cX0_triplesOf 37 = .ok (.iand, 1) := by decide +kernel
theorem dX0_triplesOf_38 : decode cX0_triplesOf 38 = .ok (.iload 6, 2) := by decide +kernel
theorem dX0_triplesOf_40 : decode cX0_triplesOf 40 = .ok (.iand, 1) := by decide +kernel
theorem dX0_triplesOf_41 : decode cX0_triplesOf 41 = .ok (.iconst 1, 1) := by decide +kernel
theorem dX0_triplesOf_42 : decode cX0_triplesOf 42 = .ok (.iand, 1) := by decide +kernel
theorem dX0_triplesOf_43 : decode cX0_triplesOf 43 = .ok (.ifCond .eq 9, 3) := by decide +kernel
theorem dX0_triplesOf_46 : decode cX0_triplesOf 46 = .ok (.lload_n 1, 1) := by decide +kernel
theorem dX0_triplesOf_47 : decode cX0_triplesOf 47 = .ok (.lconst 1, 1) := by decide +kernel
theorem dX0_triplesOf_48 : decode cX0_triplesOf 48 = .ok (.iload_n 3, 1) := by decide +kernel
theorem dX0_triplesOf_49 : decode cX0_triplesOf 49 = .ok (.lshl, 1) := by decide +kernel
theorem dX0_triplesOf_50 : decode cX0_triplesOf 50 = .ok (.lor, 1) := by decide +kernel
theorem dX0_triplesOf_51 : decode cX0_triplesOf 51 = .ok (.lstore_n 1, 1) := by decide +kernel
theorem dX0_triplesOf_52 : decode cX0_triplesOf 52 = .ok (.iinc 3 1, 3) := by decide +kernel
theorem dX0_triplesOf_55 : decode cX0_triplesOf 55 = .ok (.goto (-51), 3) := by decide +kernel
theorem dX0_triplesOf_58 : decode cX0_triplesOf 58 = .ok (.lload_n 1, 1) := by decide +kernel
theorem dX0_triplesOf_59 : decode cX0_triplesOf 59 = .ok (.lreturn, 1) := by decide +kernel
theorem dX0_logicWord_0 : decode cX0_logicWord 0 = .ok (.aload_n 0, 1) := by decide +kernel
theorem dX0_logicWord_1 : decode cX0_logicWord 1 = .ok (.getfield 48, 3) := by decide +kernel
theorem dX0_logicWord_4 : decode cX0_logicWord 4 = .ok (.iload_n 1, 1) := by decide +kernel
theorem dX0_logicWord_5 : decode cX0_logicWord 5 = .ok (.lushr, 1) := by decide +kernel
theorem dX0_logicWord_6 : decode cX0_logicWord 6 = .ok (.lconst 1, 1) := by decide +kernel
theorem dX0_logicWord_7 : decode cX0_logicWord 7 = .ok (.land, 1) := by decide +kernel
theorem dX0_logicWord_8 : decode cX0_logicWord 8 = .ok (.lconst 0, 1) := by decide +kernel
theorem dX0_logicWord_9 : decode cX0_logicWord 9 = .ok (.lcmp, 1) := by decide +kernel
theorem dX0_logicWord_10 : decode cX0_logicWord 10 = .ok (.ifCond .eq 10, 3) := by decide +kernel
theorem dX0_logicWord_13 : decode cX0_logicWord 13 = .ok (.aload_n 0, 1) := by decide +kernel
theorem dX0_logicWord_14 : decode cX0_logicWord 14 = .ok (.getfield 48, 3) := by decide +kernel
theorem dX0_logicWord_17 : decode cX0_logicWord 17 = .ok (.goto 4, 3) := by decide +kernel
theorem dX0_logicWord_20 : decode cX0_logicWord 20 = .ok (.lconst 0, 1) := by decide +kernel
theorem dX0_logicWord_21 : decode cX0_logicWord 21 = .ok (.lreturn, 1) := by decide +kernel
set_option maxRecDepth 20000 in
theorem ggX0_lowestBit_J13_bitCount_95d88 : GoodIn wsX0_lowestBit wsJ13_bitCount_95d88 := goodIn_r _ [4, 5, 6, 7] (by decide +kernel) (by decide +kernel)
set_option maxRecDepth 20000 in
theorem gX0_lowestBit_J13_bitCount_95d88 : GoodIn wsX0_lowestBit (va_wsS RX0 161 yJ13_bitCount_95d88 wsJ13_bitCount_95d88) := goodIn_app (goodIn_of _ (by decide +kernel)) ggX0_lowestBit_J13_bitCount_95d88
theorem dX0_lowestBit_0 : decode cX0_lowestBit 0 = .ok (.lload_n 0, 1) := by decide +kernel
theorem dX0_lowestBit_1 : decode cX0_lowestBit 1 = .ok (.lload_n 0, 1) := by decide +kernel
theorem dX0_lowestBit_2 : decode cX0_lowestBit 2 = .ok (.lneg, 1) := by decide +kernel
theorem dX0_lowestBit_3 : decode cX0_lowestBit 3 = .ok (.land, 1) := by decide +kernel
theorem dX0_lowestBit_4 : decode cX0_lowestBit 4 = .ok (.lconst 1, 1) := by decide +kernel
theorem dX0_lowestBit_5 : decode cX0_lowestBit 5 = .ok (.lsub, 1) := by decide +kernel
theorem dX0_lowestBit_6 : decode cX0_lowestBit 6 = .ok (.invokestatic 161, 3) := by decide +kernel
theorem dX0_lowestBit_9 : decode cX0_lowestBit 9 = .ok (.ireturn, 1) := by decide +kernel
theorem dX0_differing_0 : decode cX0_differing 0 = .ok (.aload_n 0, 1) := by decide +kernel
theorem dX0_differing_1 : decode cX0_differing 1 = .ok (.getfield 21, 3) := by decide +kernel
theorem dX0_differing_4 : decode cX0_differing 4 = .ok (.iload_n 1, 1) := by decide +kernel
theorem dX0_differing_5 : decode cX0_differing 5 = .ok (.laload, 1) := by decide +kernel
theorem dX0_differing_6 : decode cX0_differing 6 = .ok (.aload_n 0, 1) := by decide +kernel
theorem dX0_differing_7 : decode cX0_differing 7 = .ok (.getfield 21, 3) := by decide +kernel
theorem dX0_differing_10 : decode cX0_differing 10 = .ok (.iload_n 2, 1) := by decide +kernel
theorem dX0_differing_11 : decode cX0_differing 11 = .ok (.laload, 1) := by decide +kernel
theorem dX0_differing_12 : decode cX0_differing 12 = .ok (.iload_n 3, 1) := by decide +kernel
theorem dX0_differing_13 : decode cX0_differing 13 = .ok (.lushr, 1) := by decide +kernel
theorem dX0_differing_14 : decode cX0_differing 14 = .ok (.lxor, 1) := by decide +kernel
theorem dX0_differing_15 : decode cX0_differing 15 = .ok (.lstore 4, 2) := by decide +kernel
theorem dX0_differing_17 : decode cX0_differing 17 = .ok (.aload_n 0, 1) := by decide +kernel
theorem dX0_differing_18 : decode cX0_differing 18 = .ok (.getfield 25, 3) := by decide +kernel
theorem dX0_differing_21 : decode cX0_differing 21 = .ok (.iload_n 1, 1) := by decide +kernel
theorem dX0_differing_22 : decode cX0_differing 22 = .ok (.laload, 1) := by decide +kernel
theorem dX0_differing_23 : decode cX0_differing 23 = .ok (.aload_n 0, 1) := by decide +kernel
theorem dX0_differing_24 : decode cX0_differing 24 = .ok (.getfield 25, 3) := by decide +kernel
theorem dX0_differing_27 : decode cX0_differing 27 = .ok (.iload_n 2, 1) := by decide +kernel
theorem dX0_differing_28 : decode cX0_differing 28 = .ok (.laload, 1) := by decide +kernel
theorem dX0_differing_29 : decode cX0_differing 29 = .ok (.iload_n 3, 1) := by decide +kernel
theorem dX0_differing_30 : decode cX0_differing 30 = .ok (.lushr, 1) := by decide +kernel
theorem dX0_differing_31 : decode cX0_differing 31 = .ok (.lxor, 1) := by decide +kernel
theorem dX0_differing_32 : decode cX0_differing 32 = .ok (.lstore 6, 2) := by decide +kernel
theorem dX0_differing_34 : decode cX0_differing 34 = .ok (.lload 4, 2) := by decide +kernel
theorem dX0_differing_36 : decode cX0_differing 36 = .ok (.lload 6, 2) := by decide +kernel
theorem dX0_differing_38 : decode cX0_differing 38 = .ok (.lor, 1) := by decide +kernel
theorem dX0_differing_39 : decode cX0_differing 39 = .ok (.lreturn, 1) := by decide +kernel
set_option maxRecDepth 20000 in
theorem ggX0_isChanged_X0_rowOf : GoodIn wsX0_isChanged wsX0_rowOf := goodIn_r _ [4] (by decide +kernel) (by decide +kernel)
set_option maxRecDepth 20000 in
theorem gX0_isChanged_X0_rowOf : GoodIn wsX0_isChanged (va_wsS RX0 63 yX0_rowOf wsX0_rowOf) := goodIn_app (goodIn_of _ (by decide +kernel)) ggX0_isChanged_X0_rowOf
set_option maxRecDepth 20000 in
theorem ggX0_isChanged_X0_placeOf : GoodIn wsX0_isChanged wsX0_placeOf := goodIn_r _ [7] (by decide +kernel) (by decide +kernel)
set_option maxRecDepth 20000 in
theorem gX0_isChanged_X0_placeOf : GoodIn wsX0_isChanged (va_wsS RX0 59 yX0_placeOf wsX0_placeOf) := goodIn_app (goodIn_of _ (by decide +kernel)) ggX0_isChanged_X0_placeOf
set_option maxRecDepth 20000 in
theorem ggX0_isChanged_X0_logicWord : GoodIn wsX0_isChanged wsX0_logicWord := goodIn_r _ [11, 12, 30, 31, 32, 33, 34, 35, 36, 37, 38, 39, 40, 41] (by decide +kernel) (by decide +kernel)
set_option maxRecDepth 20000 in
theorem gX0_isChanged_X0_logicWord : GoodIn wsX0_isChanged (wsV RX0 158 RX0 yX0_logicWord wsX0_logicWord) := goodIn_app (goodIn_of _ (by decide +kernel)) ggX0_isChanged_X0_logicWord
set_option maxRecDepth 20000 in
theorem ggX0_isChanged_X0_valuationsWithBit : GoodIn wsX0_isChanged wsX0_valuationsWithBit := goodIn_r _ [15, 16, 17] (by decide +kernel) (by decide +kernel)
set_option maxRecDepth 20000 in
theorem gX0_isChanged_X0_valuationsWithBit : GoodIn wsX0_isChanged (va_wsS RX0 66 yX0_valuationsWithBit wsX0_valuationsWithBit) := goodIn_app (goodIn_of _ (by decide +kernel)) ggX0_isChanged_X0_valuationsWithBit
set_option maxRecDepth 20000 in
theorem ggX0_isChanged_X0_pick : GoodIn wsX0_isChanged wsX0_pick := goodIn_r _ [20, 17, 21, 22, 3, 23] (by decide +kernel) (by decide +kernel)
set_option maxRecDepth 20000 in
theorem gX0_isChanged_X0_pick : GoodIn wsX0_isChanged (va_wsS RX0 166 yX0_pick wsX0_pick) := goodIn_app (goodIn_of _ (by decide +kernel)) ggX0_isChanged_X0_pick
set_option maxRecDepth 20000 in
theorem ggX0_isChanged_X0_differing : GoodIn wsX0_isChanged wsX0_differing := goodIn_r _ [27, 28, 29, 30, 31, 32, 33, 34, 35, 36, 37, 38, 39, 40, 41] (by decide +kernel) (by decide +kernel)
set_option maxRecDepth 20000 in
theorem gX0_isChanged_X0_differing : GoodIn wsX0_isChanged (wsV RX0 176 RX0 yX0_differing wsX0_differing) := goodIn_app (goodIn_of _ (by decide +kernel)) ggX0_isChanged_X0_differing
theorem dX0_isChanged_0 : decode cX0_isChanged 0 = .ok (.iload_n 1, 1) := by decide +kernel
theorem dX0_isChanged_1 : decode cX0_isChanged 1 = .ok (.invokestatic 63, 3) := by decide +kernel
theorem dX0_isChanged_4 : decode cX0_isChanged 4 = .ok (.istore 5, 2) := by decide +kernel
theorem dX0_isChanged_6 : decode cX0_isChanged 6 = .ok (.iload_n 2, 1) := by decide +kernel
theorem dX0_isChanged_7 : decode cX0_isChanged 7 = .ok (.invokestatic 59, 3) := by decide +kernel
theorem dX0_isChanged_10 : decode cX0_isChanged 10 = .ok (.istore 6, 2) := by decide +kernel
theorem dX0_isChanged_12 : decode cX0_isChanged 12 = .ok (.iload 4, 2) := by decide +kernel
theorem dX0_isChanged_14 : decode cX0_isChanged 14 = .ok (.iload_n 3, 1) := by decide +kernel
theorem dX0_isChanged_15 : decode cX0_isChanged 15 = .ok (.isub, 1) := by decide +kernel
theorem dX0_isChanged_16 : decode cX0_isChanged 16 = .ok (.iload 6, 2) := by decide +kernel
theorem dX0_isChanged_18 : decode cX0_isChanged 18 = .ok (.ishl, 1) := by decide +kernel
theorem dX0_isChanged_19 : decode cX0_isChanged 19 = .ok (.istore 7, 2) := by decide +kernel
theorem dX0_isChanged_21 : decode cX0_isChanged 21 = .ok (.iconst 0, 1) := by decide +kernel
theorem dX0_isChanged_22 : decode cX0_isChanged 22 = .ok (.istore 8, 2) := by decide +kernel
theorem dX0_isChanged_24 : decode cX0_isChanged 24 = .ok (.iload 8, 2) := by decide +kernel
theorem dX0_isChanged_26 : decode cX0_isChanged 26 = .ok (.bipush 64, 2) := by decide +kernel
theorem dX0_isChanged_28 : decode cX0_isChanged 28 = .ok (.if_icmp .ge 95, 3) := by decide +kernel
theorem dX0_isChanged_31 : decode cX0_isChanged 31 = .ok (.aload_n 0, 1) := by decide +kernel
theorem dX0_isChanged_32 : decode cX0_isChanged 32 = .ok (.iload 8, 2) := by decide +kernel
theorem dX0_isChanged_34 : decode cX0_isChanged 34 = .ok (.invokevirtual 158, 3) := by decide +kernel
theorem dX0_isChanged_37 : decode cX0_isChanged 37 = .ok (.iload 6, 2) := by decide +kernel
theorem dX0_isChanged_39 : decode cX0_isChanged 39 = .ok (.iload 8, 2) := by decide +kernel
theorem dX0_isChanged_41 : decode cX0_isChanged 41 = .ok (.invokestatic 66, 3) := by decide +kernel
theorem dX0_isChanged_44 : decode cX0_isChanged 44 = .ok (.iload 6, 2) := by decide +kernel
theorem dX0_isChanged_46 : decode cX0_isChanged 46 = .ok (.iconst 1, 1) := by decide +kernel
theorem dX0_isChanged_47 : decode cX0_isChanged 47 = .ok (.iadd, 1) := by decide +kernel
theorem dX0_isChanged_48 : decode cX0_isChanged 48 = .ok (.iload 8, 2) := by decide +kernel
theorem dX0_isChanged_50 : decode cX0_isChanged 50 = .ok (.invokestatic 66, 3) := by decide +kernel
theorem dX0_isChanged_53 : decode cX0_isChanged 53 = .ok (.iload_n 3, 1) := by decide +kernel
theorem dX0_isChanged_54 : decode cX0_isChanged 54 = .ok (.invokestatic 166, 3) := by decide +kernel
theorem dX0_isChanged_57 : decode cX0_isChanged 57 = .ok (.land, 1) := by decide +kernel
theorem dX0_isChanged_58 : decode cX0_isChanged 58 = .ok (.lstore 9, 2) := by decide +kernel
theorem dX0_isChanged_60 : decode cX0_isChanged 60 = .ok (.iload 8, 2) := by decide +kernel
theorem dX0_isChanged_62 : decode cX0_isChanged 62 = .ok (.iload 7, 2) := by decide +kernel
theorem dX0_isChanged_64 : decode cX0_isChanged 64 = .ok (.bipush 64, 2) := by decide +kernel
theorem dX0_isChanged_66 : decode cX0_isChanged 66 = .ok (.idiv, 1) := by decide +kernel
theorem dX0_isChanged_67 : decode cX0_isChanged 67 = .ok (.iadd, 1) := by decide +kernel
theorem dX0_isChanged_68 : decode cX0_isChanged 68 = .ok (.istore 11, 2) := by decide +kernel
theorem dX0_isChanged_70 : decode cX0_isChanged 70 = .ok (.iload 7, 2) := by decide +kernel
theorem dX0_isChanged_72 : decode cX0_isChanged 72 = .ok (.bipush 64, 2) := by decide +kernel
theorem dX0_isChanged_74 : decode cX0_isChanged 74 = .ok (.irem, 1) := by decide +kernel
theorem dX0_isChanged_75 : decode cX0_isChanged 75 = .ok (.istore 12, 2) := by decide +kernel
theorem dX0_isChanged_77 : decode cX0_isChanged 77 = .ok (.lload 9, 2) := by decide +kernel
theorem dX0_isChanged_79 : decode cX0_isChanged 79 = .ok (.lconst 0, 1) := by decide +kernel
theorem dX0_isChanged_80 : decode cX0_isChanged 80 = .ok (.lcmp, 1) := by decide +kernel
theorem dX0_isChanged_81 : decode cX0_isChanged 81 = .ok (.ifCond .eq 36, 3) := by decide +kernel
theorem dX0_isChanged_84 : decode cX0_isChanged 84 = .ok (.iload 11, 2) := by decide +kernel
theorem dX0_isChanged_86 : decode cX0_isChanged 86 = .ok (.bipush 64, 2) := by decide +kernel
theorem dX0_isChanged_88 : decode cX0_isChanged 88 = .ok (.if_icmp .ge 29, 3) := by decide +kernel
theorem dX0_isChanged_91 : decode cX0_isChanged 91 = .ok (.aload_n 0, 1) := by decide +kernel
theorem dX0_isChanged_92 : decode cX0_isChanged 92 = .ok (.iload 5, 2) := by decide +kernel
theorem dX0_isChanged_94 : decode cX0_isChanged 94 = .ok (.iload 8, 2) := by decide +kernel
theorem dX0_isChanged_96 : decode cX0_isChanged 96 = .ok (.iadd, 1) := by decide +kernel
theorem dX0_isChanged_97 : decode cX0_isChanged 97 = .ok (.iload 5, 2) := by decide +kernel
theorem dX0_isChanged_99 : decode cX0_isChanged 99 = .ok (.iload 11, 2) := by decide +kernel
theorem dX0_isChanged_101 : decode cX0_isChanged 101 = .ok (.iadd, 1) := by decide +kernel
theorem dX0_isChanged_102 : decode cX0_isChanged 102 = .ok (.iload 12, 2) := by decide +kernel
theorem dX0_isChanged_104 : decode cX0_isChanged 104 = .ok (.invokevirtual 176, 3) := by decide +kernel
theorem dX0_isChanged_107 : decode cX0_isChanged 107 = .ok (.lload 9, 2) := by decide +kernel
theorem dX0_isChanged_109 : decode cX0_isChanged 109 = .ok (.land, 1) := by decide +kernel
theorem dX0_isChanged_110 : decode cX0_isChanged 110 = .ok (.lconst 0, 1) := by decide +kernel
theorem dX0_isChanged_111 : decode cX0_isChanged 111 = .ok (.lcmp, 1) := by decide +kernel
theorem dX0_isChanged_112 : decode cX0_isChanged 112 = .ok (.ifCond .eq 5, 3) := by decide +kernel
theorem dX0_isChanged_115 : decode cX0_isChanged 115 = .ok (.iconst 1, 1) := by decide +kernel
theorem dX0_isChanged_116 : decode cX0_isChanged 116 = .ok (.ireturn, 1) := by decide +kernel
theorem dX0_isChanged_117 : decode cX0_isChanged 117 = .ok (.iinc 8 1, 3) := by decide +kernel
theorem dX0_isChanged_120 : decode cX0_isChanged 120 = .ok (.goto (-96), 3) := by decide +kernel
theorem dX0_isChanged_123 : decode cX0_isChanged 123 = .ok (.iconst 0, 1) := by decide +kernel
theorem dX0_isChanged_124 : decode cX0_isChanged 124 = .ok (.ireturn, 1) := by decide +kernel
end
section
theorem dX1_init_0 : decode cX1_init 0 = .ok (.aload_n 0, 1) := by decide +kernel
theorem dX1_init_1 : decode cX1_init 1 = .ok (.invokespecial 1, 3) := by decide +kernel
theorem dX1_init_4 : decode cX1_init 4 = .ok (.aload_n 0, 1) := by decide +kernel
theorem dX1_init_5 : decode cX1_init 5 = .ok (.bipush 40, 2) := by decide +kernel
theorem dX1_init_7 : decode cX1_init 7 = .ok (.newarray .int, 2) := by decide +kernel
theorem dX1_init_9 : decode cX1_init 9 = .ok (.putfield 9, 3) := by decide +kernel
theorem dX1_init_12 : decode cX1_init 12 = .ok (.aload_n 0, 1) := by decide +kernel
theorem dX1_init_13 : decode cX1_init 13 = .ok (.bipush 40, 2) := by decide +kernel
theorem dX1_init_15 : decode cX1_init 15 = .ok (.newarray .int, 2) := by decide +kernel
theorem dX1_init_17 : decode cX1_init 17 = .ok (.putfield 13, 3) := by decide +kernel
theorem dX1_init_20 : decode cX1_init 20 = .ok (.aload_n 0, 1) := by decide +kernel
theorem dX1_init_21 : decode cX1_init 21 = .ok (.bipush 40, 2) := by decide +kernel
theorem dX1_init_23 : decode cX1_init 23 = .ok (.newarray .int, 2) := by decide +kernel
theorem dX1_init_25 : decode cX1_init 25 = .ok (.putfield 16, 3) := by decide +kernel
theorem dX1_init_28 : decode cX1_init 28 = .ok (.aload_n 0, 1) := by decide +kernel
theorem dX1_init_29 : decode cX1_init 29 = .ok (.bipush 40, 2) := by decide +kernel
theorem dX1_init_31 : decode cX1_init 31 = .ok (.newarray .boolean, 2) := by decide +kernel
theorem dX1_init_33 : decode cX1_init 33 = .ok (.putfield 19, 3) := by decide +kernel
theorem dX1_init_36 : decode cX1_init 36 = .ok (.aload_n 0, 1) := by decide +kernel
theorem dX1_init_37 : decode cX1_init 37 = .ok (.bipush 6, 2) := by decide +kernel
theorem dX1_init_39 : decode cX1_init 39 = .ok (.newarray .int, 2) := by decide +kernel
theorem dX1_init_41 : decode cX1_init 41 = .ok (.dup, 1) := by decide +kernel
theorem dX1_init_42 : decode cX1_init 42 = .ok (.iconst 0, 1) := by decide +kernel
theorem dX1_init_43 : decode cX1_init 43 = .ok (.bipush 50, 2) := by decide +kernel
theorem dX1_init_45 : decode cX1_init 45 = .ok (.iastore, 1) := by decide +kernel
theorem dX1_init_46 : decode cX1_init 46 = .ok (.dup, 1) := by decide +kernel
theorem dX1_init_47 : decode cX1_init 47 = .ok (.iconst 1, 1) := by decide +kernel
theorem dX1_init_48 : decode cX1_init 48 = .ok (.bipush 50, 2) := by decide +kernel
theorem dX1_init_50 : decode cX1_init 50 = .ok (.iastore, 1) := by decide +kernel
theorem dX1_init_51 : decode cX1_init 51 = .ok (.dup, 1) := by decide +kernel
theorem dX1_init_52 : decode cX1_init 52 = .ok (.iconst 2, 1) := by decide +kernel
theorem dX1_init_53 : decode cX1_init 53 = .ok (.bipush 50, 2) := by decide +kernel
theorem dX1_init_55 : decode cX1_init 55 = .ok (.iastore, 1) := by decide +kernel
theorem dX1_init_56 : decode cX1_init 56 = .ok (.dup, 1) := by decide +kernel
theorem dX1_init_57 : decode cX1_init 57 = .ok (.iconst 3, 1) := by decide +kernel
theorem dX1_init_58 : decode cX1_init 58 = .ok (.bipush 50, 2) := by decide +kernel
theorem dX1_init_60 : decode cX1_init 60 = .ok (.iastore, 1) := by decide +kernel
theorem dX1_init_61 : decode cX1_init 61 = .ok (.dup, 1) := by decide +kernel
theorem dX1_init_62 : decode cX1_init 62 = .ok (.iconst 4, 1) := by decide +kernel
theorem dX1_init_63 : decode cX1_init 63 = .ok (.bipush 50, 2) := by decide +kernel
theorem dX1_init_65 : decode cX1_init 65 = .ok (.iastore, 1) := by decide +kernel
theorem dX1_init_66 : decode cX1_init 66 = .ok (.dup, 1) := by decide +kernel
theorem dX1_init_67 : decode cX1_init 67 = .ok (.iconst 5, 1) := by decide +kernel
theorem dX1_init_68 : decode cX1_init 68 = .ok (.bipush 50, 2) := by decide +kernel
theorem dX1_init_70 : decode cX1_init 70 = .ok (.iastore, 1) := by decide +kernel
theorem dX1_init_71 : decode cX1_init 71 = .ok (.putfield 23, 3) := by decide +kernel
theorem dX1_init_74 : decode cX1_init 74 = .ok (.aload_n 0, 1) := by decide +kernel
theorem dX1_init_75 : decode cX1_init 75 = .ok (.bipush 6, 2) := by decide +kernel
theorem dX1_init_77 : decode cX1_init 77 = .ok (.newarray .boolean, 2) := by decide +kernel
theorem dX1_init_79 : decode cX1_init 79 = .ok (.dup, 1) := by decide +kernel
theorem dX1_init_80 : decode cX1_init 80 = .ok (.iconst 0, 1) := by decide +kernel
theorem dX1_init_81 : decode cX1_init 81 = .ok (.iconst 1, 1) := by decide +kernel
theorem dX1_init_82 : decode cX1_init 82 = .ok (.bastore, 1) := by decide +kernel
theorem dX1_init_83 : decode cX1_init 83 = .ok (.dup, 1) := by decide +kernel
theorem dX1_init_84 : decode cX1_init 84 = .ok (.iconst 1, 1) := by decide +kernel
theorem dX1_init_85 : decode cX1_init 85 = .ok (.iconst 1, 1) := by decide +kernel
theorem dX1_init_86 : decode cX1_init 86 = .ok (.bastore, 1) := by decide +kernel
theorem dX1_init_87 : decode cX1_init 87 = .ok (.dup, 1) := by decide +kernel
theorem dX1_init_88 : decode cX1_init 88 = .ok (.iconst 2, 1) := by decide +kernel
theorem dX1_init_89 : decode cX1_init 89 = .ok (.iconst 1, 1) := by decide +kernel
theorem dX1_init_90 : decode cX1_init 90 = .ok (.bastore, 1) := by decide +kernel
theorem dX1_init_91 : decode cX1_init 91 = .ok (.dup, 1) := by decide +kernel
theorem dX1_init_92 : decode cX1_init 92 = .ok (.iconst 3, 1) := by decide +kernel
theorem dX1_init_93 : decode cX1_init 93 = .ok (.iconst 1, 1) := by decide +kernel
theorem dX1_init_94 : decode cX1_init 94 = .ok (.bastore, 1) := by decide +kernel
theorem dX1_init_95 : decode cX1_init 95 = .ok (.dup, 1) := by decide +kernel
theorem dX1_init_96 : decode cX1_init 96 = .ok (.iconst 4, 1) := by decide +kernel
theorem dX1_init_97 : decode cX1_init 97 = .ok (.iconst 1, 1) := by decide +kernel
theorem dX1_init_98 : decode cX1_init 98 = .ok (.bastore, 1) := by decide +kernel
theorem dX1_init_99 : decode cX1_init 99 = .ok (.dup, 1) := by decide +kernel
theorem dX1_init_100 : decode cX1_init 100 = .ok (.iconst 5, 1) := by decide +kernel
theorem dX1_init_101 : decode cX1_init 101 = .ok (.iconst 1, 1) := by decide +kernel
theorem dX1_init_102 : decode cX1_init 102 = .ok (.bastore, 1) := by decide +kernel
theorem dX1_init_103 : decode cX1_init 103 = .ok (.putfield 26, 3) := by decide +kernel
theorem dX1_init_106 : decode cX1_init 106 = .ok (.aload_n 0, 1) := by decide +kernel
theorem dX1_init_107 : decode cX1_init 107 = .ok (.bipush 36, 2) := by decide +kernel
theorem dX1_init_109 : decode cX1_init 109 = .ok (.newarray .int, 2) := by decide +kernel
theorem dX1_init_111 : decode cX1_init 111 = .ok (.putfield 29, 3) := by decide +kernel
theorem dX1_init_114 : decode cX1_init 114 = .ok (.aload_n 0, 1) := by decide +kernel
theorem dX1_init_115 : decode cX1_init 115 = .ok (.iconst 1, 1) := by decide +kernel
theorem dX1_init_116 : decode cX1_init 116 = .ok (.putfield 32, 3) := by decide +kernel
theorem dX1_init_119 : decode cX1_init 119 = .ok (.aload_n 0, 1) := by decide +kernel
theorem dX1_init_120 : decode cX1_init 120 = .ok (.bipush 6, 2) := by decide +kernel
theorem dX1_init_122 : decode cX1_init 122 = .ok (.newarray .int, 2) := by decide +kernel
theorem dX1_init_124 : decode cX1_init 124 = .ok (.dup, 1) := by decide +kernel
theorem dX1_init_125 : decode cX1_init 125 = .ok (.iconst 0, 1) := by decide +kernel
theorem dX1_init_126 : decode cX1_init 126 = .ok (.iconst (-1), 1) := by decide +kernel
theorem dX1_init_127 : decode cX1_init 127 = .ok (.iastore, 1) := by decide +kernel
theorem dX1_init_128 : decode cX1_init 128 = .ok (.dup, 1) := by decide +kernel
theorem dX1_init_129 : decode cX1_init 129 = .ok (.iconst 1, 1) := by decide +kernel
theorem dX1_init_130 : decode cX1_init 130 = .ok (.iconst (-1), 1) := by decide +kernel
theorem dX1_init_131 : decode cX1_init 131 = .ok (.iastore, 1) := by decide +kernel
theorem dX1_init_132 : decode cX1_init 132 = .ok (.dup, 1) := by decide +kernel
theorem dX1_init_133 : decode cX1_init 133 = .ok (.iconst 2, 1) := by decide +kernel
theorem dX1_init_134 : decode cX1_init 134 = .ok (.iconst (-1), 1) := by decide +kernel
theorem dX1_init_135 : decode cX1_init 135 = .ok (.iastore, 1) := by decide +kernel
theorem dX1_init_136 : decode cX1_init 136 = .ok (.dup, 1) := by decide +kernel
theorem dX1_init_137 : decode cX1_init 137 = .ok (.iconst 3, 1) := by decide +kernel
theorem dX1_init_138 : decode cX1_init 138 = .ok (.iconst (-1), 1) := by decide +kernel
theorem dX1_init_139 : decode cX1_init 139 = .ok (.iastore, 1) := by decide +kernel
theorem dX1_init_140 : decode cX1_init 140 = .ok (.dup, 1) := by decide +kernel
theorem dX1_init_141 : decode cX1_init 141 = .ok (.iconst 4, 1) := by decide +kernel
theorem dX1_init_142 : decode cX1_init 142 = .ok (.iconst (-1), 1) := by decide +kernel
theorem dX1_init_143 : decode cX1_init 143 = .ok (.iastore, 1) := by decide +kernel
theorem dX1_init_144 : decode cX1_init 144 = .ok (.dup, 1) := by decide +kernel
theorem dX1_init_145 : decode cX1_init 145 = .ok (.iconst 5, 1) := by decide +kernel
theorem dX1_init_146 : decode cX1_init 146 = .ok (.iconst (-1), 1) := by decide +kernel
theorem dX1_init_147 : decode cX1_init 147 = .ok (.iastore, 1) := by decide +kernel
theorem dX1_init_148 : decode cX1_init 148 = .ok (.putfield 36, 3) := by decide +kernel
theorem dX1_init_151 : decode cX1_init 151 = .ok (.aload_n 0, 1) := by decide +kernel
theorem dX1_init_152 : decode cX1_init 152 = .ok (.bipush 15, 2) := by decide +kernel
theorem dX1_init_154 : decode cX1_init 154 = .ok (.putfield 39, 3) := by decide +kernel
theorem dX1_init_157 : decode cX1_init 157 = .ok (.aload_n 0, 1) := by decide +kernel
theorem dX1_init_158 : decode cX1_init 158 = .ok (.bipush 40, 2) := by decide +kernel
theorem dX1_init_160 : decode cX1_init 160 = .ok (.newarray .int, 2) := by decide +kernel
theorem dX1_init_162 : decode cX1_init 162 = .ok (.putfield 42, 3) := by decide +kernel
theorem dX1_init_165 : decode cX1_init 165 = .ok (.return_, 1) := by decide +kernel
theorem dX1_thrown_0 : decode cX1_thrown 0 = .ok (.aload_n 0, 1) := by decide +kernel
theorem dX1_thrown_1 : decode cX1_thrown 1 = .ok (.getfield 45, 3) := by decide +kernel
theorem dX1_thrown_4 : decode cX1_thrown 4 = .ok (.ireturn, 1) := by decide +kernel
theorem dX1_no_0 : decode cX1_no 0 = .ok (.aload_n 0, 1) := by decide +kernel
theorem dX1_no_1 : decode cX1_no 1 = .ok (.iload_n 1, 1) := by decide +kernel
theorem dX1_no_2 : decode cX1_no 2 = .ok (.putfield 45, 3) := by decide +kernel
theorem dX1_no_5 : decode cX1_no 5 = .ok (.iconst 0, 1) := by decide +kernel
theorem dX1_no_6 : decode cX1_no 6 = .ok (.ireturn, 1) := by decide +kernel
theorem dX1_isIn_0 : decode cX1_isIn 0 = .ok (.iload_n 0, 1) := by decide +kernel
theorem dX1_isIn_1 : decode cX1_isIn 1 = .ok (.iload_n 1, 1) := by decide +kernel
theorem dX1_isIn_2 : decode cX1_isIn 2 = .ok (.if_icmp .lt 12, 3) := by decide +kernel
theorem dX1_isIn_5 : decode cX1_isIn 5 = .ok (.iload_n 0, 1) := by decide +kernel
theorem dX1_isIn_6 : decode cX1_isIn 6 = .ok (.iload_n 2, 1) := by decide +kernel
theorem dX1_isIn_7 : decode cX1_isIn 7 = .ok (.if_icmp .gt 7, 3) := by decide +kernel
theorem dX1_isIn_10 : decode cX1_isIn 10 = .ok (.iconst 1, 1) := by decide +kernel
theorem dX1_isIn_11 : decode cX1_isIn 11 = .ok (.goto 4, 3) := by decide +kernel
theorem dX1_isIn_14 : decode cX1_isIn 14 = .ok (.iconst 0, 1) := by decide +kernel
theorem dX1_isIn_15 : decode cX1_isIn 15 = .ok (.ireturn, 1) := by decide +kernel
theorem dX1_has_0 : decode cX1_has 0 = .ok (.iload_n 0, 1) := by decide +kernel
theorem dX1_has_1 : decode cX1_has 1 = .ok (.iload_n 1, 1) := by decide +kernel
theorem dX1_has_2 : decode cX1_has 2 = .ok (.ishr, 1) := by decide +kernel
theorem dX1_has_3 : decode cX1_has 3 = .ok (.iconst 1, 1) := by decide +kernel
theorem dX1_has_4 : decode cX1_has 4 = .ok (.iand, 1) := by decide +kernel
theorem dX1_has_5 : decode cX1_has 5 = .ok (.iconst 1, 1) := by decide +kernel
theorem dX1_has_6 : decode cX1_has 6 = .ok (.if_icmp .ne 7, 3) := by decide +kernel
theorem dX1_has_9 : decode cX1_has 9 = .ok (.iconst 1, 1) := by decide +kernel
theorem dX1_has_10 : decode cX1_has 10 = .ok (.goto 4, 3) := by decide +kernel
theorem dX1_has_13 : decode cX1_has 13 = .ok (.iconst 0, 1) := by decide +kernel
theorem dX1_has_14 : decode cX1_has 14 = .ok (.ireturn, 1) := by decide +kernel
set_option maxRecDepth 20000 in
theorem ggX1_isFormula_X1_isIn : GoodIn wsX1_isFormula wsX1_isIn := goodIn_r _ [5] (by decide +kernel) (by decide +kernel)
set_option maxRecDepth 20000 in
theorem gX1_isFormula_X1_isIn : GoodIn wsX1_isFormula (va_wsS RX1 51 yX1_isIn wsX1_isIn) := goodIn_app (goodIn_of _ (by decide +kernel)) ggX1_isFormula_X1_isIn
theorem dX1_isFormula_0 : decode cX1_isFormula 0 = .ok (.iload_n 1, 1) := by decide +kernel
theorem dX1_isFormula_1 : decode cX1_isFormula 1 = .ok (.iconst 0, 1) := by decide +kernel
theorem dX1_isFormula_2 : decode cX1_isFormula 2 = .ok (.aload_n 0, 1) := by decide +kernel
theorem dX1_isFormula_3 : decode cX1_isFormula 3 = .ok (.getfield 48, 3) := by decide +kernel
theorem dX1_isFormula_6 : decode cX1_isFormula 6 = .ok (.iconst 1, 1) := by decide +kernel
theorem dX1_isFormula_7 : decode cX1_isFormula 7 = .ok (.isub, 1) := by decide +kernel
theorem dX1_isFormula_8 : decode cX1_isFormula 8 = .ok (.invokestatic 51, 3) := by decide +kernel
theorem dX1_isFormula_11 : decode cX1_isFormula 11 = .ok (.ireturn, 1) := by decide +kernel
set_option maxRecDepth 20000 in
theorem ggX1_isAtom_X1_isIn : GoodIn wsX1_isAtom wsX1_isIn := goodIn_r _ [4] (by decide +kernel) (by decide +kernel)
set_option maxRecDepth 20000 in
theorem gX1_isAtom_X1_isIn : GoodIn wsX1_isAtom (va_wsS RX1 51 yX1_isIn wsX1_isIn) := goodIn_app (goodIn_of _ (by decide +kernel)) ggX1_isAtom_X1_isIn
theorem dX1_isAtom_0 : decode cX1_isAtom 0 = .ok (.iload_n 0, 1) := by decide +kernel
theorem dX1_isAtom_1 : decode cX1_isAtom 1 = .ok (.iconst 0, 1) := by decide +kernel
theorem dX1_isAtom_2 : decode cX1_isAtom 2 = .ok (.iconst 5, 1) := by decide +kernel
theorem dX1_isAtom_3 : decode cX1_isAtom 3 = .ok (.invokestatic 51, 3) := by decide +kernel
theorem dX1_isAtom_6 : decode cX1_isAtom 6 = .ok (.ireturn, 1) := by decide +kernel
set_option maxRecDepth 20000 in
theorem ggX1_isSource_X1_isIn : GoodIn wsX1_isSource wsX1_isIn := goodIn_r _ [4] (by decide +kernel) (by decide +kernel)
set_option maxRecDepth 20000 in
theorem gX1_isSource_X1_isIn : GoodIn wsX1_isSource (va_wsS RX1 51 yX1_isIn wsX1_isIn) := goodIn_app (goodIn_of _ (by decide +kernel)) ggX1_isSource_X1_isIn
theorem dX1_isSource_0 : decode cX1_isSource 0 = .ok (.iload_n 0, 1) := by decide +kernel
theorem dX1_isSource_1 : decode cX1_isSource 1 = .ok (.iconst 0, 1) := by decide +kernel
theorem dX1_isSource_2 : decode cX1_isSource 2 = .ok (.iconst 5, 1) := by decide +kernel
theorem dX1_isSource_3 : decode cX1_isSource 3 = .ok (.invokestatic 51, 3) := by decide +kernel
theorem dX1_isSource_6 : decode cX1_isSource 6 = .ok (.ireturn, 1) := by decide +kernel
set_option maxRecDepth 20000 in
theorem ggX1_create_X1_no : GoodIn wsX1_create wsX1_no := goodIn_r _ [10, 11, 12, 13, 14, 15, 16, 17, 18, 19, 20, 21, 22, 23, 24] (by decide +kernel) (by decide +kernel)
set_option maxRecDepth 20000 in
theorem gX1_create_X1_no : GoodIn wsX1_create (wsV RX1 55 RX1 yX1_no wsX1_no) := goodIn_app (goodIn_of _ (by decide +kernel)) ggX1_create_X1_no
theorem dX1_create_0 : decode cX1_create 0 = .ok (.aload_n 0, 1) := by decide +kernel
theorem dX1_create_1 : decode cX1_create 1 = .ok (.getfield 48, 3) := by decide +kernel
theorem dX1_create_4 : decode cX1_create 4 = .ok (.bipush 40, 2) := by decide +kernel
theorem dX1_create_6 : decode cX1_create 6 = .ok (.if_icmp .ne 22, 3) := by decide +kernel
theorem dX1_create_9 : decode cX1_create 9 = .ok (.aload_n 0, 1) := by decide +kernel
theorem dX1_create_10 : decode cX1_create 10 = .ok (.iload_n 1, 1) := by decide +kernel
theorem dX1_create_11 : decode cX1_create 11 = .ok (.ifCond .eq 8, 3) := by decide +kernel
theorem dX1_create_14 : decode cX1_create 14 = .ok (.iload_n 1, 1) := by decide +kernel
theorem dX1_create_15 : decode cX1_create 15 = .ok (.iconst 1, 1) := by decide +kernel
theorem dX1_create_16 : decode cX1_create 16 = .ok (.if_icmp .ne 7, 3) := by decide +kernel
theorem dX1_create_19 : decode cX1_create 19 = .ok (.iconst 2, 1) := by decide +kernel
theorem dX1_create_20 : decode cX1_create 20 = .ok (.goto 4, 3) := by decide +kernel
theorem dX1_create_23 : decode cX1_create 23 = .ok (.iconst 3, 1) := by decide +kernel
theorem dX1_create_24 : decode cX1_create 24 = .ok (.invokevirtual 55, 3) := by decide +kernel
theorem dX1_create_27 : decode cX1_create 27 = .ok (.ireturn, 1) := by decide +kernel
theorem dX1_create_28 : decode cX1_create 28 = .ok (.aload_n 0, 1) := by decide +kernel
theorem dX1_create_29 : decode cX1_create 29 = .ok (.getfield 9, 3) := by decide +kernel
theorem dX1_create_32 : decode cX1_create 32 = .ok (.aload_n 0, 1) := by decide +kernel
theorem dX1_create_33 : decode cX1_create 33 = .ok (.getfield 48, 3) := by decide +kernel
theorem dX1_create_36 : decode cX1_create 36 = .ok (.iload_n 1, 1) := by decide +kernel
theorem dX1_create_37 : decode cX1_create 37 = .ok (.iastore, 1) := by decide +kernel
theorem dX1_create_38 : decode cX1_create 38 = .ok (.aload_n 0, 1) := by decide +kernel
theorem dX1_create_39 : decode cX1_create 39 = .ok (.getfield 13, 3) := by decide +kernel
theorem dX1_create_42 : decode cX1_create 42 = .ok (.aload_n 0, 1) := by decide +kernel
theorem dX1_create_43 : decode cX1_create 43 = .ok (.getfield 48, 3) := by decide +kernel
theorem dX1_create_46 : decode cX1_create 46 = .ok (.iload_n 2, 1) := by decide +kernel
theorem dX1_create_47 : decode cX1_create 47 = .ok (.iastore, 1) := by decide +kernel
theorem dX1_create_48 : decode cX1_create 48 = .ok (.aload_n 0, 1) := by decide +kernel
theorem dX1_create_49 : decode cX1_create 49 = .ok (.getfield 16, 3) := by decide +kernel
theorem dX1_create_52 : decode cX1_create 52 = .ok (.aload_n 0, 1) := by decide +kernel
theorem dX1_create_53 : decode cX1_create 53 = .ok (.getfield 48, 3) := by decide +kernel
theorem dX1_create_56 : decode cX1_create 56 = .ok (.iload_n 3, 1) := by decide +kernel
theorem dX1_create_57 : decode cX1_create 57 = .ok (.iastore, 1) := by decide +kernel
theorem dX1_create_58 : decode cX1_create 58 = .ok (.aload_n 0, 1) := by decide +kernel
theorem dX1_create_59 : decode cX1_create 59 = .ok (.getfield 19, 3) := by decide +kernel
theorem dX1_create_62 : decode cX1_create 62 = .ok (.aload_n 0, 1) := by decide +kernel
theorem dX1_create_63 : decode cX1_create 63 = .ok (.getfield 48, 3) := by decide +kernel
theorem dX1_create_66 : decode cX1_create 66 = .ok (.iload 4, 2) := by decide +kernel
theorem dX1_create_68 : decode cX1_create 68 = .ok (.bastore, 1) := by decide +kernel
theorem dX1_create_69 : decode cX1_create 69 = .ok (.aload_n 0, 1) := by decide +kernel
theorem dX1_create_70 : decode cX1_create 70 = .ok (.dup, 1) := by decide +kernel
theorem dX1_create_71 : decode cX1_create 71 = .ok (.getfield 48, 3) := by decide +kernel
theorem dX1_create_74 : decode cX1_create 74 = .ok (.iconst 1, 1) := by decide +kernel
theorem dX1_create_75 : decode cX1_create 75 = .ok (.iadd, 1) := by decide +kernel
theorem dX1_create_76 : decode cX1_create 76 = .ok (.putfield 48, 3) := by decide +kernel
theorem dX1_create_79 : decode cX1_create 79 = .ok (.aload_n 0, 1) := by decide +kernel
theorem dX1_create_80 : decode cX1_create 80 = .ok (.getfield 48, 3) := by decide +kernel
theorem dX1_create_83 : decode cX1_create 83 = .ok (.iconst 1, 1) := by decide +kernel
theorem dX1_create_84 : decode cX1_create 84 = .ok (.isub, 1) := by decide +kernel
theorem dX1_create_85 : decode cX1_create 85 = .ok (.ireturn, 1) := by decide +kernel
set_option maxRecDepth 20000 in
theorem ggX1_atom_X1_isAtom : GoodIn wsX1_atom wsX1_isAtom := goodIn_r _ [5, 6, 7, 4, 8] (by decide +kernel) (by decide +kernel)
set_option maxRecDepth 20000 in
theorem gX1_atom_X1_isAtom : GoodIn wsX1_atom (va_wsS RX1 59 yX1_isAtom wsX1_isAtom) := goodIn_app (goodIn_of _ (by decide +kernel)) ggX1_atom_X1_isAtom
set_option maxRecDepth 20000 in
theorem ggX1_atom_X1_create : GoodIn wsX1_atom wsX1_create := goodIn_r _ [12, 13, 14, 15, 16, 17, 18, 19, 20, 4, 21, 1, 22, 23, 24, 25, 26, 27, 28, 29, 30, 31, 32, 33, 34] (by decide +kernel) (by decide +kernel)
set_option maxRecDepth 20000 in
theorem gX1_atom_X1_create : GoodIn wsX1_atom (wsV RX1 63 RX1 yX1_create wsX1_create) := goodIn_app (goodIn_of _ (by decide +kernel)) ggX1_atom_X1_create
set_option maxRecDepth 20000 in
theorem ggX1_atom_X1_no : GoodIn wsX1_atom wsX1_no := goodIn_r _ [21, 1, 22, 23, 24, 25, 26, 27, 28, 29, 30, 31, 32, 33, 34] (by decide +kernel) (by decide +kernel)
set_option maxRecDepth 20000 in
theorem gX1_atom_X1_no : GoodIn wsX1_atom (wsV RX1 55 RX1 yX1_no wsX1_no) := goodIn_app (goodIn_of _ (by decide +kernel)) ggX1_atom_X1_no
theorem dX1_atom_0 : decode cX1_atom 0 = .ok (.aload_n 0, 1) := by decide +kernel
theorem dX1_atom_1 : decode cX1_atom 1 = .ok (.iconst 0, 1) := by decide +kernel
theorem dX1_atom_2 : decode cX1_atom 2 = .ok (.putfield 45, 3) := by decide +kernel
theorem dX1_atom_5 : decode cX1_atom 5 = .ok (.iload_n 1, 1) := by decide +kernel
theorem dX1_atom_6 : decode cX1_atom 6 = .ok (.invokestatic 59, 3) := by decide +kernel
theorem dX1_atom_9 : decode cX1_atom 9 = .ok (.ifCond .eq 14, 3) := by decide +kernel
theorem dX1_atom_12 : decode cX1_atom 12 = .ok (.aload_n 0, 1) := by decide +kernel
theorem dX1_atom_13 : decode cX1_atom 13 = .ok (.iconst 0, 1) := by decide +kernel
theorem dX1_atom_14 : decode cX1_atom 14 = .ok (.iload_n 1, 1) := by decide +kernel
theorem dX1_atom_15 : decode cX1_atom 15 = .ok (.iconst 0, 1) := by decide +kernel
theorem dX1_atom_16 : decode cX1_atom 16 = .ok (.iconst 1, 1) := by decide +kernel
theorem dX1_atom_17 : decode cX1_atom 17 = .ok (.invokevirtual 63, 3) := by decide +kernel
theorem dX1_atom_20 : decode cX1_atom 20 = .ok (.goto 8, 3) := by decide +kernel
theorem dX1_atom_23 : decode cX1_atom 23 = .ok (.aload_n 0, 1) := by decide +kernel
theorem dX1_atom_24 : decode cX1_atom 24 = .ok (.iconst 1, 1) := by decide +kernel
theorem dX1_atom_25 : decode cX1_atom 25 = .ok (.invokevirtual 55, 3) := by decide +kernel
theorem dX1_atom_28 : decode cX1_atom 28 = .ok (.ireturn, 1) := by decide +kernel
set_option maxRecDepth 20000 in
theorem ggX1_constant_X1_isIn : GoodIn wsX1_constant wsX1_isIn := goodIn_r _ [5] (by decide +kernel) (by decide +kernel)
set_option maxRecDepth 20000 in
theorem gX1_constant_X1_isIn : GoodIn wsX1_constant (va_wsS RX1 51 yX1_isIn wsX1_isIn) := goodIn_app (goodIn_of _ (by decide +kernel)) ggX1_constant_X1_isIn
set_option maxRecDepth 20000 in
theorem ggX1_constant_X1_create : GoodIn wsX1_constant wsX1_create := goodIn_r _ [9, 10, 11, 12, 13, 14, 15, 16, 17, 4, 18, 1, 19, 20, 21, 22, 23, 24, 25, 26, 27, 28, 29, 30, 31] (by decide +kernel) (by decide +kernel)
set_option maxRecDepth 20000 in
theorem gX1_constant_X1_create : GoodIn wsX1_constant (wsV RX1 63 RX1 yX1_create wsX1_create) := goodIn_app (goodIn_of _ (by decide +kernel)) ggX1_constant_X1_create
set_option maxRecDepth 20000 in
theorem ggX1_constant_X1_no : GoodIn wsX1_constant wsX1_no := goodIn_r _ [18, 1, 19, 20, 21, 22, 23, 24, 25, 26, 27, 28, 29, 30, 31] (by decide +kernel) (by decide +kernel)
set_option maxRecDepth 20000 in
theorem gX1_constant_X1_no : GoodIn wsX1_constant (wsV RX1 55 RX1 yX1_no wsX1_no) := goodIn_app (goodIn_of _ (by decide +kernel)) ggX1_constant_X1_no
theorem dX1_constant_0 : decode cX1_constant 0 = .ok (.aload_n 0, 1) := by decide +kernel
theorem dX1_constant_1 : decode cX1_constant 1 = .ok (.iconst 0, 1) := by decide +kernel
theorem dX1_constant_2 : decode cX1_constant 2 = .ok (.putfield 45, 3) := by decide +kernel
theorem dX1_constant_5 : decode cX1_constant 5 = .ok (.iload_n 1, 1) := by decide +kernel
theorem dX1_constant_6 : decode cX1_constant 6 = .ok (.iconst 0, 1) := by decide +kernel
theorem dX1_constant_7 : decode cX1_constant 7 = .ok (.iconst 3, 1) := by decide +kernel
theorem dX1_constant_8 : decode cX1_constant 8 = .ok (.invokestatic 51, 3) := by decide +kernel
theorem dX1_constant_11 : decode cX1_constant 11 = .ok (.ifCond .eq 14, 3) := by decide +kernel
theorem dX1_constant_14 : decode cX1_constant 14 = .ok (.aload_n 0, 1) := by decide +kernel
theorem dX1_constant_15 : decode cX1_constant 15 = .ok (.iconst 1, 1) := by decide +kernel
theorem dX1_constant_16 : decode cX1_constant 16 = .ok (.iload_n 1, 1) := by decide +kernel
theorem dX1_constant_17 : decode cX1_constant 17 = .ok (.iconst 0, 1) := by decide +kernel
theorem dX1_constant_18 : decode cX1_constant 18 = .ok (.iconst 1, 1) := by decide +kernel
theorem dX1_constant_19 : decode cX1_constant 19 = .ok (.invokevirtual 63, 3) := by decide +kernel
theorem dX1_constant_22 : decode cX1_constant 22 = .ok (.goto 8, 3) := by decide +kernel
theorem dX1_constant_25 : decode cX1_constant 25 = .ok (.aload_n 0, 1) := by decide +kernel
theorem dX1_constant_26 : decode cX1_constant 26 = .ok (.iconst 1, 1) := by decide +kernel
theorem dX1_constant_27 : decode cX1_constant 27 = .ok (.invokevirtual 55, 3) := by decide +kernel
theorem dX1_constant_30 : decode cX1_constant 30 = .ok (.ireturn, 1) := by decide +kernel
set_option maxRecDepth 20000 in
theorem ggX1_turn_X1_isFormula : GoodIn wsX1_turn wsX1_isFormula := goodIn_r _ [7, 8, 9, 10, 6, 11, 23, 24, 25, 26, 27, 28, 29, 30, 31, 32, 33, 34, 35] (by decide +kernel) (by decide +kernel)
set_option maxRecDepth 20000 in
theorem gX1_turn_X1_isFormula : GoodIn wsX1_turn (wsV RX1 67 RX1 yX1_isFormula wsX1_isFormula) := goodIn_app (goodIn_of _ (by decide +kernel)) ggX1_turn_X1_isFormula
set_option maxRecDepth 20000 in
theorem ggX1_turn_X1_no : GoodIn wsX1_turn wsX1_no := goodIn_r _ [15, 1, 23, 24, 25, 26, 27, 28, 29, 30, 31, 32, 33, 34, 35] (by decide +kernel) (by decide +kernel)
set_option maxRecDepth 20000 in
theorem gX1_turn_X1_no : GoodIn wsX1_turn (wsV RX1 55 RX1 yX1_no wsX1_no) := goodIn_app (goodIn_of _ (by decide +kernel)) ggX1_turn_X1_no
set_option maxRecDepth 20000 in
theorem ggX1_turn_X1_create : GoodIn wsX1_turn wsX1_create := goodIn_r _ [19, 8, 20, 21, 22, 2, 12, 13, 14, 6, 15, 1, 23, 24, 25, 26, 27, 28, 29, 30, 31, 32, 33, 34, 35] (by decide +kernel) (by decide +kernel)
set_option maxRecDepth 20000 in
theorem gX1_turn_X1_create : GoodIn wsX1_turn (wsV RX1 63 RX1 yX1_create wsX1_create) := goodIn_app (goodIn_of _ (by decide +kernel)) ggX1_turn_X1_create
theorem dX1_turn_0 : decode cX1_turn 0 = .ok (.aload_n 0, 1) := by decide +kernel
theorem dX1_turn_1 : decode cX1_turn 1 = .ok (.iconst 0, 1) := by decide +kernel
theorem dX1_turn_2 : decode cX1_turn 2 = .ok (.putfield 45, 3) := by decide +kernel
theorem dX1_turn_5 : decode cX1_turn 5 = .ok (.aload_n 0, 1) := by decide +kernel
theorem dX1_turn_6 : decode cX1_turn 6 = .ok (.iload_n 2, 1) := by decide +kernel
theorem dX1_turn_7 : decode cX1_turn 7 = .ok (.invokevirtual 67, 3) := by decide +kernel
theorem dX1_turn_10 : decode cX1_turn 10 = .ok (.ifCond .ne 9, 3) := by decide +kernel
theorem dX1_turn_13 : decode cX1_turn 13 = .ok (.aload_n 0, 1) := by decide +kernel
theorem dX1_turn_14 : decode cX1_turn 14 = .ok (.iconst 1, 1) := by decide +kernel
theorem dX1_turn_15 : decode cX1_turn 15 = .ok (.invokevirtual 55, 3) := by decide +kernel
theorem dX1_turn_18 : decode cX1_turn 18 = .ok (.ireturn, 1) := by decide +kernel
theorem dX1_turn_19 : decode cX1_turn 19 = .ok (.iload_n 1, 1) := by decide +kernel
theorem dX1_turn_20 : decode cX1_turn 20 = .ok (.iconst 2, 1) := by decide +kernel
theorem dX1_turn_21 : decode cX1_turn 21 = .ok (.if_icmp .eq 9, 3) := by decide +kernel
theorem dX1_turn_24 : decode cX1_turn 24 = .ok (.iload_n 1, 1) := by decide +kernel
theorem dX1_turn_25 : decode cX1_turn 25 = .ok (.bipush 8, 2) := by decide +kernel
theorem dX1_turn_27 : decode cX1_turn 27 = .ok (.if_icmp .ne 32, 3) := by decide +kernel
theorem dX1_turn_30 : decode cX1_turn 30 = .ok (.aload_n 0, 1) := by decide +kernel
theorem dX1_turn_31 : decode cX1_turn 31 = .ok (.iload_n 1, 1) := by decide +kernel
theorem dX1_turn_32 : decode cX1_turn 32 = .ok (.iload_n 2, 1) := by decide +kernel
theorem dX1_turn_33 : decode cX1_turn 33 = .ok (.iconst 0, 1) := by decide +kernel
theorem dX1_turn_34 : decode cX1_turn 34 = .ok (.iload_n 1, 1) := by decide +kernel
theorem dX1_turn_35 : decode cX1_turn 35 = .ok (.iconst 2, 1) := by decide +kernel
theorem dX1_turn_36 : decode cX1_turn 36 = .ok (.if_icmp .ne 16, 3) := by decide +kernel
theorem dX1_turn_39 : decode cX1_turn 39 = .ok (.aload_n 0, 1) := by decide +kernel
theorem dX1_turn_40 : decode cX1_turn 40 = .ok (.getfield 19, 3) := by decide +kernel
theorem dX1_turn_43 : decode cX1_turn 43 = .ok (.iload_n 2, 1) := by decide +kernel
theorem dX1_turn_44 : decode cX1_turn 44 = .ok (.baload, 1) := by decide +kernel
theorem dX1_turn_45 : decode cX1_turn 45 = .ok (.ifCond .eq 7, 3) := by decide +kernel
theorem dX1_turn_48 : decode cX1_turn 48 = .ok (.iconst 1, 1) := by decide +kernel
theorem dX1_turn_49 : decode cX1_turn 49 = .ok (.goto 4, 3) := by decide +kernel
theorem dX1_turn_52 : decode cX1_turn 52 = .ok (.iconst 0, 1) := by decide +kernel
theorem dX1_turn_53 : decode cX1_turn 53 = .ok (.invokevirtual 63, 3) := by decide +kernel
theorem dX1_turn_56 : decode cX1_turn 56 = .ok (.goto 8, 3) := by decide +kernel
theorem dX1_turn_59 : decode cX1_turn 59 = .ok (.aload_n 0, 1) := by decide +kernel
theorem dX1_turn_60 : decode cX1_turn 60 = .ok (.iconst 2, 1) := by decide +kernel
theorem dX1_turn_61 : decode cX1_turn 61 = .ok (.invokevirtual 55, 3) := by decide +kernel
theorem dX1_turn_64 : decode cX1_turn 64 = .ok (.ireturn, 1) := by decide +kernel
set_option maxRecDepth 20000 in
theorem ggX1_join_X1_isFormula : GoodIn wsX1_join wsX1_isFormula := goodIn_r _ [7, 8, 9, 10, 6, 11, 23, 24, 25, 26, 27, 28, 29, 30, 31, 32, 33, 34, 35] (by decide +kernel) (by decide +kernel)
set_option maxRecDepth 20000 in
theorem gX1_join_X1_isFormula : GoodIn wsX1_join (wsV RX1 67 RX1 yX1_isFormula wsX1_isFormula) := goodIn_app (goodIn_of _ (by decide +kernel)) ggX1_join_X1_isFormula
set_option maxRecDepth 20000 in
theorem ggX1_join_X1_no : GoodIn wsX1_join wsX1_no := goodIn_r _ [15, 1, 23, 24, 25, 26, 27, 28, 29, 30, 31, 32, 33, 34, 35] (by decide +kernel) (by decide +kernel)
set_option maxRecDepth 20000 in
theorem gX1_join_X1_no : GoodIn wsX1_join (wsV RX1 55 RX1 yX1_no wsX1_no) := goodIn_app (goodIn_of _ (by decide +kernel)) ggX1_join_X1_no
set_option maxRecDepth 20000 in
theorem ggX1_join_X1_isIn : GoodIn wsX1_join wsX1_isIn := goodIn_r _ [11] (by decide +kernel) (by decide +kernel)
set_option maxRecDepth 20000 in
theorem gX1_join_X1_isIn : GoodIn wsX1_join (va_wsS RX1 51 yX1_isIn wsX1_isIn) := goodIn_app (goodIn_of _ (by decide +kernel)) ggX1_join_X1_isIn
set_option maxRecDepth 20000 in
theorem ggX1_join_X1_create : GoodIn wsX1_join wsX1_create := goodIn_r _ [19, 8, 20, 21, 22, 2, 12, 13, 14, 6, 15, 1, 23, 24, 25, 26, 27, 28, 29, 30, 31, 32, 33, 34, 35] (by decide +kernel) (by decide +kernel)
set_option maxRecDepth 20000 in
theorem gX1_join_X1_create : GoodIn wsX1_join (wsV RX1 63 RX1 yX1_create wsX1_create) := goodIn_app (goodIn_of _ (by decide +kernel)) ggX1_join_X1_create
theorem dX1_join_0 : decode cX1_join 0 = .ok (.aload_n 0, 1) := by decide +kernel
theorem dX1_join_1 : decode cX1_join 1 = .ok (.iconst 0, 1) := by decide +kernel
theorem dX1_join_2 : decode cX1_join 2 = .ok (.putfield 45, 3) := by decide +kernel
theorem dX1_join_5 : decode cX1_join 5 = .ok (.aload_n 0, 1) := by decide +kernel
theorem dX1_join_6 : decode cX1_join 6 = .ok (.iload_n 2, 1) := by decide +kernel
theorem dX1_join_7 : decode cX1_join 7 = .ok (.invokevirtual 67, 3) := by decide +kernel
theorem dX1_join_10 : decode cX1_join 10 = .ok (.ifCond .eq 11, 3) := by decide +kernel
theorem dX1_join_13 : decode cX1_join 13 = .ok (.aload_n 0, 1) := by decide +kernel
theorem dX1_join_14 : decode cX1_join 14 = .ok (.iload_n 3, 1) := by decide +kernel
theorem dX1_join_15 : decode cX1_join 15 = .ok (.invokevirtual 67, 3) := by decide +kernel
theorem dX1_join_18 : decode cX1_join 18 = .ok (.ifCond .ne 9, 3) := by decide +kernel
theorem dX1_join_21 : decode cX1_join 21 = .ok (.aload_n 0, 1) := by decide +kernel
theorem dX1_join_22 : decode cX1_join 22 = .ok (.iconst 1, 1) := by decide +kernel
theorem dX1_join_23 : decode cX1_join 23 = .ok (.invokevirtual 55, 3) := by decide +kernel
theorem dX1_join_26 : decode cX1_join 26 = .ok (.ireturn, 1) := by decide +kernel
theorem dX1_join_27 : decode cX1_join 27 = .ok (.iload_n 1, 1) := by decide +kernel
theorem dX1_join_28 : decode cX1_join 28 = .ok (.iconst 3, 1) := by decide +kernel
theorem dX1_join_29 : decode cX1_join 29 = .ok (.bipush 7, 2) := by decide +kernel
theorem dX1_join_31 : decode cX1_join 31 = .ok (.invokestatic 51, 3) := by decide +kernel
theorem dX1_join_34 : decode cX1_join 34 = .ok (.ifCond .eq 42, 3) := by decide +kernel
theorem dX1_join_37 : decode cX1_join 37 = .ok (.aload_n 0, 1) := by decide +kernel
theorem dX1_join_38 : decode cX1_join 38 = .ok (.iload_n 1, 1) := by decide +kernel
theorem dX1_join_39 : decode cX1_join 39 = .ok (.iload_n 2, 1) := by decide +kernel
theorem dX1_join_40 : decode cX1_join 40 = .ok (.iload_n 3, 1) := by decide +kernel
theorem dX1_join_41 : decode cX1_join 41 = .ok (.iload_n 1, 1) := by decide +kernel
theorem dX1_join_42 : decode cX1_join 42 = .ok (.bipush 7, 2) := by decide +kernel
theorem dX1_join_44 : decode cX1_join 44 = .ok (.if_icmp .eq 25, 3) := by decide +kernel
theorem dX1_join_47 : decode cX1_join 47 = .ok (.aload_n 0, 1) := by decide +kernel
theorem dX1_join_48 : decode cX1_join 48 = .ok (.getfield 19, 3) := by decide +kernel
theorem dX1_join_51 : decode cX1_join 51 = .ok (.iload_n 2, 1) := by decide +kernel
theorem dX1_join_52 : decode cX1_join 52 = .ok (.baload, 1) := by decide +kernel
theorem dX1_join_53 : decode cX1_join 53 = .ok (.ifCond .eq 16, 3) := by decide +kernel
theorem dX1_join_56 : decode cX1_join 56 = .ok (.aload_n 0, 1) := by decide +kernel
theorem dX1_join_57 : decode cX1_join 57 = .ok (.getfield 19, 3) := by decide +kernel
theorem dX1_join_60 : decode cX1_join 60 = .ok (.iload_n 3, 1) := by decide +kernel
theorem dX1_join_61 : decode cX1_join 61 = .ok (.baload, 1) := by decide +kernel
theorem dX1_join_62 : decode cX1_join 62 = .ok (.ifCond .eq 7, 3) := by decide +kernel
theorem dX1_join_65 : decode cX1_join 65 = .ok (.iconst 1, 1) := by decide +kernel
theorem dX1_join_66 : decode cX1_join 66 = .ok (.goto 4, 3) := by decide +kernel
theorem dX1_join_69 : decode cX1_join 69 = .ok (.iconst 0, 1) := by decide +kernel
theorem dX1_join_70 : decode cX1_join 70 = .ok (.invokevirtual 63, 3) := by decide +kernel
theorem dX1_join_73 : decode cX1_join 73 = .ok (.goto 8, 3) := by decide +kernel
theorem dX1_join_76 : decode cX1_join 76 = .ok (.aload_n 0, 1) := by decide +kernel
theorem dX1_join_77 : decode cX1_join 77 = .ok (.iconst 2, 1) := by decide +kernel
theorem dX1_join_78 : decode cX1_join 78 = .ok (.invokevirtual 55, 3) := by decide +kernel
theorem dX1_join_81 : decode cX1_join 81 = .ok (.ireturn, 1) := by decide +kernel
theorem dX1_formulaCount_0 : decode cX1_formulaCount 0 = .ok (.aload_n 0, 1) := by decide +kernel
theorem dX1_formulaCount_1 : decode cX1_formulaCount 1 = .ok (.iconst 0, 1) := by decide +kernel
theorem dX1_formulaCount_2 : decode cX1_formulaCount 2 = .ok (.putfield 45, 3) := by decide +kernel
theorem dX1_formulaCount_5 : decode cX1_formulaCount 5 = .ok (.aload_n 0, 1) := by decide +kernel
theorem dX1_formulaCount_6 : decode cX1_formulaCount 6 = .ok (.getfield 48, 3) := by decide +kernel
theorem dX1_formulaCount_9 : decode cX1_formulaCount 9 = .ok (.ireturn, 1) := by decide +kernel
set_option maxRecDepth 20000 in
theorem ggX1_isSteady_X1_isFormula : GoodIn wsX1_isSteady wsX1_isFormula := goodIn_r _ [7, 8, 9, 10, 6, 11, 12, 13, 14, 15, 16, 17, 18, 19, 20, 21, 22, 23, 24] (by decide +kernel) (by decide +kernel)
set_option maxRecDepth 20000 in
theorem gX1_isSteady_X1_isFormula : GoodIn wsX1_isSteady (wsV RX1 67 RX1 yX1_isFormula wsX1_isFormula) := goodIn_app (goodIn_of _ (by decide +kernel)) ggX1_isSteady_X1_isFormula
theorem dX1_isSteady_0 : decode cX1_isSteady 0 = .ok (.aload_n 0, 1) := by decide +kernel
theorem dX1_isSteady_1 : decode cX1_isSteady 1 = .ok (.aload_n 0, 1) := by decide +kernel
theorem dX1_isSteady_2 : decode cX1_isSteady 2 = .ok (.iload_n 1, 1) := by decide +kernel
theorem dX1_isSteady_3 : decode cX1_isSteady 3 = .ok (.invokevirtual 67, 3) := by decide +kernel
theorem dX1_isSteady_6 : decode cX1_isSteady 6 = .ok (.ifCond .eq 7, 3) := by decide +kernel
theorem dX1_isSteady_9 : decode cX1_isSteady 9 = .ok (.iconst 0, 1) := by decide +kernel
theorem dX1_isSteady_10 : decode cX1_isSteady 10 = .ok (.goto 4, 3) := by decide +kernel
theorem dX1_isSteady_13 : decode cX1_isSteady 13 = .ok (.iconst 1, 1) := by decide +kernel
theorem dX1_isSteady_14 : decode cX1_isSteady 14 = .ok (.putfield 45, 3) := by decide +kernel
theorem dX1_isSteady_17 : decode cX1_isSteady 17 = .ok (.aload_n 0, 1) := by decide +kernel
theorem dX1_isSteady_18 : decode cX1_isSteady 18 = .ok (.getfield 45, 3) := by decide +kernel
theorem dX1_isSteady_21 : decode cX1_isSteady 21 = .ok (.ifCond .ne 16, 3) := by decide +kernel
theorem dX1_isSteady_24 : decode cX1_isSteady 24 = .ok (.aload_n 0, 1) := by decide +kernel
theorem dX1_isSteady_25 : decode cX1_isSteady 25 = .ok (.getfield 19, 3) := by decide +kernel
theorem dX1_isSteady_28 : decode cX1_isSteady 28 = .ok (.iload_n 1, 1) := by decide +kernel
theorem dX1_isSteady_29 : decode cX1_isSteady 29 = .ok (.baload, 1) := by decide +kernel
theorem dX1_isSteady_30 : decode cX1_isSteady 30 = .ok (.ifCond .eq 7, 3) := by decide +kernel
theorem dX1_isSteady_33 : decode cX1_isSteady 33 = .ok (.iconst 1, 1) := by decide +kernel
theorem dX1_isSteady_34 : decode cX1_isSteady 34 = .ok (.goto 4, 3) := by decide +kernel
theorem dX1_isSteady_37 : decode cX1_isSteady 37 = .ok (.iconst 0, 1) := by decide +kernel
theorem dX1_isSteady_38 : decode cX1_isSteady 38 = .ok (.ireturn, 1) := by decide +kernel
set_option maxRecDepth 20000 in
theorem ggX1_worth_X1_isIn : GoodIn wsX1_worth wsX1_isIn := goodIn_r _ [8] (by decide +kernel) (by decide +kernel)
set_option maxRecDepth 20000 in
theorem gX1_worth_X1_isIn : GoodIn wsX1_worth (va_wsS RX1 51 yX1_isIn wsX1_isIn) := goodIn_app (goodIn_of _ (by decide +kernel)) ggX1_worth_X1_isIn
theorem dX1_worth_0 : decode cX1_worth 0 = .ok (.iconst 0, 1) := by decide +kernel
theorem dX1_worth_1 : decode cX1_worth 1 = .ok (.istore_n 3, 1) := by decide +kernel
theorem dX1_worth_2 : decode cX1_worth 2 = .ok (.iload_n 3, 1) := by decide +kernel
theorem dX1_worth_3 : decode cX1_worth 3 = .ok (.iload_n 1, 1) := by decide +kernel
theorem dX1_worth_4 : decode cX1_worth 4 = .ok (.if_icmp .gt 311, 3) := by decide +kernel
theorem dX1_worth_7 : decode cX1_worth 7 = .ok (.aload_n 0, 1) := by decide +kernel
theorem dX1_worth_8 : decode cX1_worth 8 = .ok (.getfield 9, 3) := by decide +kernel
theorem dX1_worth_11 : decode cX1_worth 11 = .ok (.iload_n 3, 1) := by decide +kernel
theorem dX1_worth_12 : decode cX1_worth 12 = .ok (.iaload, 1) := by decide +kernel
theorem dX1_worth_13 : decode cX1_worth 13 = .ok (.iconst 1, 1) := by decide +kernel
theorem dX1_worth_14 : decode cX1_worth 14 = .ok (.if_icmp .le 17, 3) := by decide +kernel
theorem dX1_worth_17 : decode cX1_worth 17 = .ok (.aload_n 0, 1) := by decide +kernel
theorem dX1_worth_18 : decode cX1_worth 18 = .ok (.getfield 42, 3) := by decide +kernel
theorem dX1_worth_21 : decode cX1_worth 21 = .ok (.aload_n 0, 1) := by decide +kernel
theorem dX1_worth_22 : decode cX1_worth 22 = .ok (.getfield 13, 3) := by decide +kernel
theorem dX1_worth_25 : decode cX1_worth 25 = .ok (.iload_n 3, 1) := by decide +kernel
theorem dX1_worth_26 : decode cX1_worth 26 = .ok (.iaload, 1) := by decide +kernel
theorem dX1_worth_27 : decode cX1_worth 27 = .ok (.iaload, 1) := by decide +kernel
theorem dX1_worth_28 : decode cX1_worth 28 = .ok (.goto 4, 3) := by decide +kernel
theorem dX1_worth_31 : decode cX1_worth 31 = .ok (.iconst 0, 1) := by decide +kernel
theorem dX1_worth_32 : decode cX1_worth 32 = .ok (.istore 4, 2) := by decide +kernel
theorem dX1_worth_34 : decode cX1_worth 34 = .ok (.aload_n 0, 1) := by decide +kernel
theorem dX1_worth_35 : decode cX1_worth 35 = .ok (.getfield 9, 3) := by decide +kernel
theorem dX1_worth_38 : decode cX1_worth 38 = .ok (.iload_n 3, 1) := by decide +kernel
theorem dX1_worth_39 : decode cX1_worth 39 = .ok (.iaload, 1) := by decide +kernel
theorem dX1_worth_40 : decode cX1_worth 40 = .ok (.iconst 3, 1) := by decide +kernel
theorem dX1_worth_41 : decode cX1_worth 41 = .ok (.bipush 7, 2) := by decide +kernel
theorem dX1_worth_43 : decode cX1_worth 43 = .ok (.invokestatic 51, 3) := by decide +kernel
theorem dX1_worth_46 : decode cX1_worth 46 = .ok (.ifCond .eq 17, 3) := by decide +kernel
theorem dX1_worth_49 : decode cX1_worth 49 = .ok (.aload_n 0, 1) := by decide +kernel
theorem dX1_worth_50 : decode cX1_worth 50 = .ok (.getfield 42, 3) := by decide +kernel
theorem dX1_worth_53 : decode cX1_worth 53 = .ok (.aload_n 0, 1) := by decide +kernel
theorem dX1_worth_54 : decode cX1_worth 54 = .ok (.getfield 16, 3) := by decide +kernel
theorem dX1_worth_57 : decode cX1_worth 57 = .ok (.iload_n 3, 1) := by decide +kernel
theorem dX1_worth_58 : decode cX1_worth 58 = .ok (.iaload, 1) := by decide +kernel
theorem dX1_worth_59 : decode cX1_worth 59 = .ok (.iaload, 1) := by decide +kernel
theorem dX1_worth_60 : decode cX1_worth 60 = .ok (.goto 4, 3) := by decide +kernel
theorem dX1_worth_63 : decode cX1_worth 63 = .ok (.iconst 0, 1) := by decide +kernel
theorem dX1_worth_64 : decode cX1_worth 64 = .ok (.istore 5, 2) := by decide +kernel
theorem dX1_worth_66 : decode cX1_worth 66 = .ok (.aload_n 0, 1) := by decide +kernel
theorem dX1_worth_67 : decode cX1_worth 67 = .ok (.getfield 9, 3) := by decide +kernel
theorem dX1_worth_70 : decode cX1_worth 70 = .ok (.iload_n 3, 1) := by decide +kernel
theorem dX1_worth_71 : decode cX1_worth 71 = .ok (.iaload, 1) := by decide +kernel
theorem dX1_worth_72 : decode cX1_worth 72 = .ok (.tableswitch 206 0 7 #[48, 71, 86, 108, 132, 156, 170, 184], 48) := by decide +kernel
theorem dX1_worth_120 : decode cX1_worth 120 = .ok (.aload_n 0, 1) := by decide +kernel
theorem dX1_worth_121 : decode cX1_worth 121 = .ok (.getfield 42, 3) := by decide +kernel
theorem dX1_worth_124 : decode cX1_worth 124 = .ok (.iload_n 3, 1) := by decide +kernel
theorem dX1_worth_125 : decode cX1_worth 125 = .ok (.iload_n 2, 1) := by decide +kernel
theorem dX1_worth_126 : decode cX1_worth 126 = .ok (.iconst 2, 1) := by decide +kernel
theorem dX1_worth_127 : decode cX1_worth 127 = .ok (.iconst 5, 1) := by decide +kernel
theorem dX1_worth_128 : decode cX1_worth 128 = .ok (.aload_n 0, 1) := by decide +kernel
theorem dX1_worth_129 : decode cX1_worth 129 = .ok (.getfield 13, 3) := by decide +kernel
theorem dX1_worth_132 : decode cX1_worth 132 = .ok (.iload_n 3, 1) := by decide +kernel
theorem dX1_worth_133 : decode cX1_worth 133 = .ok (.iaload, 1) := by decide +kernel
theorem dX1_worth_134 : decode cX1_worth 134 = .ok (.isub, 1) := by decide +kernel
theorem dX1_worth_135 : decode cX1_worth 135 = .ok (.imul, 1) := by decide +kernel
theorem dX1_worth_136 : decode cX1_worth 136 = .ok (.ishr, 1) := by decide +kernel
theorem dX1_worth_137 : decode cX1_worth 137 = .ok (.iconst 3, 1) := by decide +kernel
theorem dX1_worth_138 : decode cX1_worth 138 = .ok (.iand, 1) := by decide +kernel
theorem dX1_worth_139 : decode cX1_worth 139 = .ok (.iastore, 1) := by decide +kernel
theorem dX1_worth_140 : decode cX1_worth 140 = .ok (.goto 169, 3) := by decide +kernel
theorem dX1_worth_143 : decode cX1_worth 143 = .ok (.aload_n 0, 1) := by decide +kernel
theorem dX1_worth_144 : decode cX1_worth 144 = .ok (.getfield 42, 3) := by decide +kernel
theorem dX1_worth_147 : decode cX1_worth 147 = .ok (.iload_n 3, 1) := by decide +kernel
theorem dX1_worth_148 : decode cX1_worth 148 = .ok (.aload_n 0, 1) := by decide +kernel
theorem dX1_worth_149 : decode cX1_worth 149 = .ok (.getfield 13, 3) := by decide +kernel
theorem dX1_worth_152 : decode cX1_worth 152 = .ok (.iload_n 3, 1) := by decide +kernel
theorem dX1_worth_153 : decode cX1_worth 153 = .ok (.iaload, 1) := by decide +kernel
theorem dX1_worth_154 : decode cX1_worth 154 = .ok (.iastore, 1) := by decide +kernel
theorem dX1_worth_155 : decode cX1_worth 155 = .ok (.goto 154, 3) := by decide +kernel
theorem dX1_worth_158 : decode cX1_worth 158 = .ok (.aload_n 0, 1) := by decide +kernel
theorem dX1_worth_159 : decode cX1_worth 159 = .ok (.getfield 42, 3) := by decide +kernel
theorem dX1_worth_162 : decode cX1_worth 162 = .ok (.iload_n 3, 1) := by decide +kernel
theorem dX1_worth_163 : decode cX1_worth 163 = .ok (.iload 4, 2) := by decide +kernel
theorem dX1_worth_165 : decode cX1_worth 165 = .ok (.iconst 1, 1) := by decide +kernel
theorem dX1_worth_166 : decode cX1_worth 166 = .ok (.iand, 1) := by decide +kernel
theorem dX1_worth_167 : decode cX1_worth 167 = .ok (.iconst 2, 1) := by decide +kernel
theorem dX1_worth_168 : decode cX1_worth 168 = .ok (.imul, 1) := by decide +kernel
theorem dX1_worth_169 : decode cX1_worth 169 = .ok (.iload 4, 2) := by decide +kernel
theorem dX1_worth_171 : decode cX1_worth 171 = .ok (.iconst 2, 1) := by decide +kernel
theorem dX1_worth_172 : decode cX1_worth 172 = .ok (.iand, 1) := by decide +kernel
theorem dX1_worth_173 : decode cX1_worth 173 = .ok (.iconst 2, 1) := by decide +kernel
theorem dX1_worth_174 : decode cX1_worth 174 = .ok (.idiv, 1) := by decide +kernel
theorem dX1_worth_175 : decode cX1_worth 175 = .ok (.iadd, 1) := by decide +kernel
theorem dX1_worth_176 : decode cX1_worth 176 = .ok (.iastore, 1) := by decide +kernel
theorem dX1_worth_177 : decode cX1_worth 177 = .ok (.goto 132, 3) := by decide +kernel
theorem dX1_worth_180 : decode cX1_worth 180 = .ok (.aload_n 0, 1) := by decide +kernel
theorem dX1_worth_181 : decode cX1_worth 181 = .ok (.getfield 42, 3) := by decide +kernel
theorem dX1_worth_184 : decode cX1_worth 184 = .ok (.iload_n 3, 1) := by decide +kernel
theorem dX1_worth_185 : decode cX1_worth 185 = .ok (.iload 4, 2) := by decide +kernel
theorem dX1_worth_187 : decode cX1_worth 187 = .ok (.iload 5, 2) := by decide +kernel
theorem dX1_worth_189 : decode cX1_worth 189 = .ok (.iand, 1) := by decide +kernel
theorem dX1_worth_190 : decode cX1_worth 190 = .ok (.iconst 1, 1) := by decide +kernel
theorem dX1_worth_191 : decode cX1_worth 191 = .ok (.iand, 1) := by decide +kernel
theorem dX1_worth_192 : decode cX1_worth 192 = .ok (.iload 4, 2) := by decide +kernel
theorem dX1_worth_194 : decode cX1_worth 194 = .ok (.iload 5, 2) := by decide +kernel
theorem dX1_worth_196 : decode cX1_worth 196 = .ok (.ior, 1) := by decide +kernel
theorem dX1_worth_197 : decode cX1_worth 197 = .ok (.iconst 2, 1) := by decide +kernel
theorem dX1_worth_198 : decode cX1_worth 198 = .ok (.iand, 1) := by decide +kernel
theorem dX1_worth_199 : decode cX1_worth 199 = .ok (.ior, 1) := by decide +kernel
theorem dX1_worth_200 : decode cX1_worth 200 = .ok (.iastore, 1) := by decide +kernel
theorem dX1_worth_201 : decode cX1_worth 201 = .ok (.goto 108, 3) := by decide +kernel
theorem dX1_worth_204 : decode cX1_worth 204 = .ok (.aload_n 0, 1) := by decide +kernel
theorem dX1_worth_205 : decode cX1_worth 205 = .ok (.getfield 42, 3) := by decide +kernel
theorem dX1_worth_208 : decode cX1_worth 208 = .ok (.iload_n 3, 1) := by decide +kernel
theorem dX1_worth_209 : decode cX1_worth 209 = .ok (.iload 4, 2) := by decide +kernel
theorem dX1_worth_211 : decode cX1_worth 211 = .ok (.iload 5, 2) := by decide +kernel
theorem dX1_worth_213 : decode cX1_worth 213 = .ok (.ior, 1) := by decide +kernel
theorem dX1_worth_214 : decode cX1_worth 214 = .ok (.iconst 1, 1) := by decide +kernel
theorem dX1_worth_215 : decode cX1_worth 215 = .ok (.iand, 1) := by decide +kernel
theorem dX1_worth_216 : decode cX1_worth 216 = .ok (.iload 4, 2) := by decide +kernel
theorem dX1_worth_218 : decode cX1_worth 218 = .ok (.iload 5, 2) := by decide +kernel
theorem dX1_worth_220 : decode cX1_worth 220 = .ok (.iand, 1) := by decide +kernel
theorem dX1_worth_221 : decode cX1_worth 221 = .ok (.iconst 2, 1) := by decide +kernel
theorem dX1_worth_222 : decode cX1_worth 222 = .ok (.iand, 1) := by decide +kernel
theorem dX1_worth_223 : decode cX1_worth 223 = .ok (.ior, 1) := by decide +kernel
theorem dX1_worth_224 : decode cX1_worth 224 = .ok (.iastore, 1) := by decide +kernel
theorem dX1_worth_225 : decode cX1_worth 225 = .ok (.goto 84, 3) := by decide +kernel
theorem dX1_worth_228 : decode cX1_worth 228 = .ok (.aload_n 0, 1) := by decide +kernel
theorem dX1_worth_229 : decode cX1_worth 229 = .ok (.getfield 42, 3) := by decide +kernel
theorem dX1_worth_232 : decode cX1_worth 232 = .ok (.iload_n 3, 1) := by decide +kernel
theorem dX1_worth_233 : decode cX1_worth 233 = .ok (.iload 4, 2) := by decide +kernel
theorem dX1_worth_235 : decode cX1_worth 235 = .ok (.iload 5, 2) := by decide +kernel
theorem dX1_worth_237 : decode cX1_worth 237 = .ok (.iand, 1) := by decide +kernel
theorem dX1_worth_238 : decode cX1_worth 238 = .ok (.iastore, 1) := by decide +kernel
theorem dX1_worth_239 : decode cX1_worth 239 = .ok (.goto 70, 3) := by decide +kernel
theorem dX1_worth_242 : decode cX1_worth 242 = .ok (.aload_n 0, 1) := by decide +kernel
theorem dX1_worth_243 : decode cX1_worth 243 = .ok (.getfield 42, 3) := by decide +kernel
theorem dX1_worth_246 : decode cX1_worth 246 = .ok (.iload_n 3, 1) := by decide +kernel
theorem dX1_worth_247 : decode cX1_worth 247 = .ok (.iload 4, 2) := by decide +kernel
theorem dX1_worth_249 : decode cX1_worth 249 = .ok (.iload 5, 2) := by decide +kernel
theorem dX1_worth_251 : decode cX1_worth 251 = .ok (.ior, 1) := by decide +kernel
theorem dX1_worth_252 : decode cX1_worth 252 = .ok (.iastore, 1) := by decide +kernel
theorem dX1_worth_253 : decode cX1_worth 253 = .ok (.goto 56, 3) := by decide +kernel
theorem dX1_worth_256 : decode cX1_worth 256 = .ok (.aload_n 0, 1) := by decide +kernel
theorem dX1_worth_257 : decode cX1_worth 257 = .ok (.getfield 42, 3) := by decide +kernel
theorem dX1_worth_260 : decode cX1_worth 260 = .ok (.iload_n 3, 1) := by decide +kernel
theorem dX1_worth_261 : decode cX1_worth 261 = .ok (.iload 4, 2) := by decide +kernel
theorem dX1_worth_263 : decode cX1_worth 263 = .ok (.iconst 1, 1) := by decide +kernel
theorem dX1_worth_264 : decode cX1_worth 264 = .ok (.iand, 1) := by decide +kernel
theorem dX1_worth_265 : decode cX1_worth 265 = .ok (.ifCond .ne 7, 3) := by decide +kernel
theorem dX1_worth_268 : decode cX1_worth 268 = .ok (.iconst 1, 1) := by decide +kernel
theorem dX1_worth_269 : decode cX1_worth 269 = .ok (.goto 5, 3) := by decide +kernel
theorem dX1_worth_272 : decode cX1_worth 272 = .ok (.iload 5, 2) := by decide +kernel
theorem dX1_worth_274 : decode cX1_worth 274 = .ok (.iastore, 1) := by decide +kernel
theorem dX1_worth_275 : decode cX1_worth 275 = .ok (.goto 34, 3) := by decide +kernel
theorem dX1_worth_278 : decode cX1_worth 278 = .ok (.aload_n 0, 1) := by decide +kernel
theorem dX1_worth_279 : decode cX1_worth 279 = .ok (.getfield 42, 3) := by decide +kernel
theorem dX1_worth_282 : decode cX1_worth 282 = .ok (.iload_n 3, 1) := by decide +kernel
theorem dX1_worth_283 : decode cX1_worth 283 = .ok (.iload 4, 2) := by decide +kernel
theorem dX1_worth_285 : decode cX1_worth 285 = .ok (.iconst 2, 1) := by decide +kernel
theorem dX1_worth_286 : decode cX1_worth 286 = .ok (.iand, 1) := by decide +kernel
theorem dX1_worth_287 : decode cX1_worth 287 = .ok (.ifCond .ne 7, 3) := by decide +kernel
theorem dX1_worth_290 : decode cX1_worth 290 = .ok (.iconst 1, 1) := by decide +kernel
theorem dX1_worth_291 : decode cX1_worth 291 = .ok (.goto 4, 3) := by decide +kernel
theorem dX1_worth_294 : decode cX1_worth 294 = .ok (.iconst 0, 1) := by decide +kernel
theorem dX1_worth_295 : decode cX1_worth 295 = .ok (.iload 4, 2) := by decide +kernel
theorem dX1_worth_297 : decode cX1_worth 297 = .ok (.iconst 1, 1) := by decide +kernel
theorem dX1_worth_298 : decode cX1_worth 298 = .ok (.iand, 1) := by decide +kernel
theorem dX1_worth_299 : decode cX1_worth 299 = .ok (.ifCond .ne 7, 3) := by decide +kernel
theorem dX1_worth_302 : decode cX1_worth 302 = .ok (.iconst 2, 1) := by decide +kernel
theorem dX1_worth_303 : decode cX1_worth 303 = .ok (.goto 4, 3) := by decide +kernel
theorem dX1_worth_306 : decode cX1_worth 306 = .ok (.iconst 0, 1) := by decide +kernel
theorem dX1_worth_307 : decode cX1_worth 307 = .ok (.iadd, 1) := by decide +kernel
theorem dX1_worth_308 : decode cX1_worth 308 = .ok (.iastore, 1) := by decide +kernel
theorem dX1_worth_309 : decode cX1_worth 309 = .ok (.iinc 3 1, 3) := by decide +kernel
theorem dX1_worth_312 : decode cX1_worth 312 = .ok (.goto (-310), 3) := by decide +kernel
theorem dX1_worth_315 : decode cX1_worth 315 = .ok (.aload_n 0, 1) := by decide +kernel
theorem dX1_worth_316 : decode cX1_worth 316 = .ok (.getfield 42, 3) := by decide +kernel
theorem dX1_worth_319 : decode cX1_worth 319 = .ok (.iload_n 1, 1) := by decide +kernel
theorem dX1_worth_320 : decode cX1_worth 320 = .ok (.iaload, 1) := by decide +kernel
theorem dX1_worth_321 : decode cX1_worth 321 = .ok (.ireturn, 1) := by decide +kernel
set_option maxRecDepth 20000 in
theorem ggX1_report_X1_isSource : GoodIn wsX1_report wsX1_isSource := goodIn_r _ [6, 7, 8, 5, 9] (by decide +kernel) (by decide +kernel)
set_option maxRecDepth 20000 in
theorem gX1_report_X1_isSource : GoodIn wsX1_report (va_wsS RX1 70 yX1_isSource wsX1_isSource) := goodIn_app (goodIn_of _ (by decide +kernel)) ggX1_report_X1_isSource
set_option maxRecDepth 20000 in
theorem ggX1_report_X1_isAtom : GoodIn wsX1_report wsX1_isAtom := goodIn_r _ [12, 7, 8, 5, 9] (by decide +kernel) (by decide +kernel)
set_option maxRecDepth 20000 in
theorem gX1_report_X1_isAtom : GoodIn wsX1_report (va_wsS RX1 59 yX1_isAtom wsX1_isAtom) := goodIn_app (goodIn_of _ (by decide +kernel)) ggX1_report_X1_isAtom
set_option maxRecDepth 20000 in
theorem ggX1_report_X1_no : GoodIn wsX1_report wsX1_no := goodIn_r _ [16, 1, 17, 18, 19, 20, 21, 22, 23, 24, 25, 26, 27, 28, 29] (by decide +kernel) (by decide +kernel)
set_option maxRecDepth 20000 in
theorem gX1_report_X1_no : GoodIn wsX1_report (wsV RX1 55 RX1 yX1_no wsX1_no) := goodIn_app (goodIn_of _ (by decide +kernel)) ggX1_report_X1_no
set_option maxRecDepth 20000 in
theorem ggX1_report_X1_isIn : GoodIn wsX1_report wsX1_isIn := goodIn_r _ [9] (by decide +kernel) (by decide +kernel)
set_option maxRecDepth 20000 in
theorem gX1_report_X1_isIn : GoodIn wsX1_report (va_wsS RX1 51 yX1_isIn wsX1_isIn) := goodIn_app (goodIn_of _ (by decide +kernel)) ggX1_report_X1_isIn
theorem dX1_report_0 : decode cX1_report 0 = .ok (.aload_n 0, 1) := by decide +kernel
theorem dX1_report_1 : decode cX1_report 1 = .ok (.iconst 0, 1) := by decide +kernel
theorem dX1_report_2 : decode cX1_report 2 = .ok (.putfield 45, 3) := by decide +kernel
theorem dX1_report_5 : decode cX1_report 5 = .ok (.iload_n 1, 1) := by decide +kernel
theorem dX1_report_6 : decode cX1_report 6 = .ok (.invokestatic 70, 3) := by decide +kernel
theorem dX1_report_9 : decode cX1_report 9 = .ok (.ifCond .eq 10, 3) := by decide +kernel
theorem dX1_report_12 : decode cX1_report 12 = .ok (.iload_n 2, 1) := by decide +kernel
theorem dX1_report_13 : decode cX1_report 13 = .ok (.invokestatic 59, 3) := by decide +kernel
theorem dX1_report_16 : decode cX1_report 16 = .ok (.ifCond .ne 9, 3) := by decide +kernel
theorem dX1_report_19 : decode cX1_report 19 = .ok (.aload_n 0, 1) := by decide +kernel
theorem dX1_report_20 : decode cX1_report 20 = .ok (.iconst 1, 1) := by decide +kernel
theorem dX1_report_21 : decode cX1_report 21 = .ok (.invokevirtual 55, 3) := by decide +kernel
theorem dX1_report_24 : decode cX1_report 24 = .ok (.ireturn, 1) := by decide +kernel
theorem dX1_report_25 : decode cX1_report 25 = .ok (.iload_n 3, 1) := by decide +kernel
theorem dX1_report_26 : decode cX1_report 26 = .ok (.iconst 0, 1) := by decide +kernel
theorem dX1_report_27 : decode cX1_report 27 = .ok (.iconst 3, 1) := by decide +kernel
theorem dX1_report_28 : decode cX1_report 28 = .ok (.invokestatic 51, 3) := by decide +kernel
theorem dX1_report_31 : decode cX1_report 31 = .ok (.ifCond .ne 9, 3) := by decide +kernel
theorem dX1_report_34 : decode cX1_report 34 = .ok (.aload_n 0, 1) := by decide +kernel
theorem dX1_report_35 : decode cX1_report 35 = .ok (.iconst 2, 1) := by decide +kernel
theorem dX1_report_36 : decode cX1_report 36 = .ok (.invokevirtual 55, 3) := by decide +kernel
theorem dX1_report_39 : decode cX1_report 39 = .ok (.ireturn, 1) := by decide +kernel
theorem dX1_report_40 : decode cX1_report 40 = .ok (.aload_n 0, 1) := by decide +kernel
theorem dX1_report_41 : decode cX1_report 41 = .ok (.getfield 29, 3) := by decide +kernel
theorem dX1_report_44 : decode cX1_report 44 = .ok (.bipush 6, 2) := by decide +kernel
theorem dX1_report_46 : decode cX1_report 46 = .ok (.iload_n 1, 1) := by decide +kernel
theorem dX1_report_47 : decode cX1_report 47 = .ok (.imul, 1) := by decide +kernel
theorem dX1_report_48 : decode cX1_report 48 = .ok (.iload_n 2, 1) := by decide +kernel
theorem dX1_report_49 : decode cX1_report 49 = .ok (.iadd, 1) := by decide +kernel
theorem dX1_report_50 : decode cX1_report 50 = .ok (.iaload, 1) := by decide +kernel
theorem dX1_report_51 : decode cX1_report 51 = .ok (.istore 4, 2) := by decide +kernel
theorem dX1_report_53 : decode cX1_report 53 = .ok (.aload_n 0, 1) := by decide +kernel
theorem dX1_report_54 : decode cX1_report 54 = .ok (.getfield 29, 3) := by decide +kernel
theorem dX1_report_57 : decode cX1_report 57 = .ok (.bipush 6, 2) := by decide +kernel
theorem dX1_report_59 : decode cX1_report 59 = .ok (.iload_n 1, 1) := by decide +kernel
theorem dX1_report_60 : decode cX1_report 60 = .ok (.imul, 1) := by decide +kernel
theorem dX1_report_61 : decode cX1_report 61 = .ok (.iload_n 2, 1) := by decide +kernel
theorem dX1_report_62 : decode cX1_report 62 = .ok (.iadd, 1) := by decide +kernel
theorem dX1_report_63 : decode cX1_report 63 = .ok (.iload_n 3, 1) := by decide +kernel
theorem dX1_report_64 : decode cX1_report 64 = .ok (.iastore, 1) := by decide +kernel
theorem dX1_report_65 : decode cX1_report 65 = .ok (.iload 4, 2) := by decide +kernel
theorem dX1_report_67 : decode cX1_report 67 = .ok (.ireturn, 1) := by decide +kernel
set_option maxRecDepth 20000 in
theorem ggX1_setTrust_X1_isSource : GoodIn wsX1_setTrust wsX1_isSource := goodIn_r _ [6, 7, 8, 5, 9] (by decide +kernel) (by decide +kernel)
set_option maxRecDepth 20000 in
theorem gX1_setTrust_X1_isSource : GoodIn wsX1_setTrust (va_wsS RX1 70 yX1_isSource wsX1_isSource) := goodIn_app (goodIn_of _ (by decide +kernel)) ggX1_setTrust_X1_isSource
set_option maxRecDepth 20000 in
theorem ggX1_setTrust_X1_no : GoodIn wsX1_setTrust wsX1_no := goodIn_r _ [13, 1, 14, 15, 16, 17, 18, 19, 20, 21, 22, 23, 24, 25, 26] (by decide +kernel) (by decide +kernel)
set_option maxRecDepth 20000 in
theorem gX1_setTrust_X1_no : GoodIn wsX1_setTrust (wsV RX1 55 RX1 yX1_no wsX1_no) := goodIn_app (goodIn_of _ (by decide +kernel)) ggX1_setTrust_X1_no
set_option maxRecDepth 20000 in
theorem ggX1_setTrust_X1_isIn : GoodIn wsX1_setTrust wsX1_isIn := goodIn_r _ [9] (by decide +kernel) (by decide +kernel)
set_option maxRecDepth 20000 in
theorem gX1_setTrust_X1_isIn : GoodIn wsX1_setTrust (va_wsS RX1 51 yX1_isIn wsX1_isIn) := goodIn_app (goodIn_of _ (by decide +kernel)) ggX1_setTrust_X1_isIn
theorem dX1_setTrust_0 : decode cX1_setTrust 0 = .ok (.aload_n 0, 1) := by decide +kernel
theorem dX1_setTrust_1 : decode cX1_setTrust 1 = .ok (.iconst 0, 1) := by decide +kernel
theorem dX1_setTrust_2 : decode cX1_setTrust 2 = .ok (.putfield 45, 3) := by decide +kernel
theorem dX1_setTrust_5 : decode cX1_setTrust 5 = .ok (.iload_n 1, 1) := by decide +kernel
theorem dX1_setTrust_6 : decode cX1_setTrust 6 = .ok (.invokestatic 70, 3) := by decide +kernel
theorem dX1_setTrust_9 : decode cX1_setTrust 9 = .ok (.ifCond .ne 9, 3) := by decide +kernel
theorem dX1_setTrust_12 : decode cX1_setTrust 12 = .ok (.aload_n 0, 1) := by decide +kernel
theorem dX1_setTrust_13 : decode cX1_setTrust 13 = .ok (.iconst 1, 1) := by decide +kernel
theorem dX1_setTrust_14 : decode cX1_setTrust 14 = .ok (.invokevirtual 55, 3) := by decide +kernel
theorem dX1_setTrust_17 : decode cX1_setTrust 17 = .ok (.ireturn, 1) := by decide +kernel
theorem dX1_setTrust_18 : decode cX1_setTrust 18 = .ok (.iload_n 2, 1) := by decide +kernel
theorem dX1_setTrust_19 : decode cX1_setTrust 19 = .ok (.iconst 1, 1) := by decide +kernel
theorem dX1_setTrust_20 : decode cX1_setTrust 20 = .ok (.bipush 100, 2) := by decide +kernel
theorem dX1_setTrust_22 : decode cX1_setTrust 22 = .ok (.invokestatic 51, 3) := by decide +kernel
theorem dX1_setTrust_25 : decode cX1_setTrust 25 = .ok (.ifCond .ne 9, 3) := by decide +kernel
theorem dX1_setTrust_28 : decode cX1_setTrust 28 = .ok (.aload_n 0, 1) := by decide +kernel
theorem dX1_setTrust_29 : decode cX1_setTrust 29 = .ok (.iconst 2, 1) := by decide +kernel
theorem dX1_setTrust_30 : decode cX1_setTrust 30 = .ok (.invokevirtual 55, 3) := by decide +kernel
theorem dX1_setTrust_33 : decode cX1_setTrust 33 = .ok (.ireturn, 1) := by decide +kernel
theorem dX1_setTrust_34 : decode cX1_setTrust 34 = .ok (.aload_n 0, 1) := by decide +kernel
theorem dX1_setTrust_35 : decode cX1_setTrust 35 = .ok (.getfield 23, 3) := by decide +kernel
theorem dX1_setTrust_38 : decode cX1_setTrust 38 = .ok (.iload_n 1, 1) := by decide +kernel
theorem dX1_setTrust_39 : decode cX1_setTrust 39 = .ok (.iaload, 1) := by decide +kernel
theorem dX1_setTrust_40 : decode cX1_setTrust 40 = .ok (.istore_n 3, 1) := by decide +kernel
theorem dX1_setTrust_41 : decode cX1_setTrust 41 = .ok (.aload_n 0, 1) := by decide +kernel
theorem dX1_setTrust_42 : decode cX1_setTrust 42 = .ok (.getfield 23, 3) := by decide +kernel
theorem dX1_setTrust_45 : decode cX1_setTrust 45 = .ok (.iload_n 1, 1) := by decide +kernel
theorem dX1_setTrust_46 : decode cX1_setTrust 46 = .ok (.iload_n 2, 1) := by decide +kernel
theorem dX1_setTrust_47 : decode cX1_setTrust 47 = .ok (.iastore, 1) := by decide +kernel
theorem dX1_setTrust_48 : decode cX1_setTrust 48 = .ok (.iload_n 3, 1) := by decide +kernel
theorem dX1_setTrust_49 : decode cX1_setTrust 49 = .ok (.ireturn, 1) := by decide +kernel
set_option maxRecDepth 20000 in
theorem ggX1_setLeastTrust_X1_isIn : GoodIn wsX1_setLeastTrust wsX1_isIn := goodIn_r _ [6] (by decide +kernel) (by decide +kernel)
set_option maxRecDepth 20000 in
theorem gX1_setLeastTrust_X1_isIn : GoodIn wsX1_setLeastTrust (va_wsS RX1 51 yX1_isIn wsX1_isIn) := goodIn_app (goodIn_of _ (by decide +kernel)) ggX1_setLeastTrust_X1_isIn
set_option maxRecDepth 20000 in
theorem ggX1_setLeastTrust_X1_no : GoodIn wsX1_setLeastTrust wsX1_no := goodIn_r _ [10, 1, 11, 12, 13, 14, 15, 16, 17, 18, 19, 20, 21, 22, 23] (by decide +kernel) (by decide +kernel)
set_option maxRecDepth 20000 in
theorem gX1_setLeastTrust_X1_no : GoodIn wsX1_setLeastTrust (wsV RX1 55 RX1 yX1_no wsX1_no) := goodIn_app (goodIn_of _ (by decide +kernel)) ggX1_setLeastTrust_X1_no
theorem dX1_setLeastTrust_0 : decode cX1_setLeastTrust 0 = .ok (.aload_n 0, 1) := by decide +kernel
theorem dX1_setLeastTrust_1 : decode cX1_setLeastTrust 1 = .ok (.iconst 0, 1) := by decide +kernel
theorem dX1_setLeastTrust_2 : decode cX1_setLeastTrust 2 = .ok (.putfield 45, 3) := by decide +kernel
theorem dX1_setLeastTrust_5 : decode cX1_setLeastTrust 5 = .ok (.iload_n 1, 1) := by decide +kernel
theorem dX1_setLeastTrust_6 : decode cX1_setLeastTrust 6 = .ok (.iconst 1, 1) := by decide +kernel
theorem dX1_setLeastTrust_7 : decode cX1_setLeastTrust 7 = .ok (.bipush 100, 2) := by decide +kernel
theorem dX1_setLeastTrust_9 : decode cX1_setLeastTrust 9 = .ok (.invokestatic 51, 3) := by decide +kernel
theorem dX1_setLeastTrust_12 : decode cX1_setLeastTrust 12 = .ok (.ifCond .ne 9, 3) := by decide +kernel
theorem dX1_setLeastTrust_15 : decode cX1_setLeastTrust 15 = .ok (.aload_n 0, 1) := by decide +kernel
theorem dX1_setLeastTrust_16 : decode cX1_setLeastTrust 16 = .ok (.iconst 1, 1) := by decide +kernel
theorem dX1_setLeastTrust_17 : decode cX1_setLeastTrust 17 = .ok (.invokevirtual 55, 3) := by decide +kernel
theorem dX1_setLeastTrust_20 : decode cX1_setLeastTrust 20 = .ok (.ireturn, 1) := by decide +kernel
theorem dX1_setLeastTrust_21 : decode cX1_setLeastTrust 21 = .ok (.aload_n 0, 1) := by decide +kernel
theorem dX1_setLeastTrust_22 : decode cX1_setLeastTrust 22 = .ok (.getfield 32, 3) := by decide +kernel
theorem dX1_setLeastTrust_25 : decode cX1_setLeastTrust 25 = .ok (.istore_n 2, 1) := by decide +kernel
theorem dX1_setLeastTrust_26 : decode cX1_setLeastTrust 26 = .ok (.aload_n 0, 1) := by decide +kernel
theorem dX1_setLeastTrust_27 : decode cX1_setLeastTrust 27 = .ok (.iload_n 1, 1) := by decide +kernel
theorem dX1_setLeastTrust_28 : decode cX1_setLeastTrust 28 = .ok (.putfield 32, 3) := by decide +kernel
theorem dX1_setLeastTrust_31 : decode cX1_setLeastTrust 31 = .ok (.iload_n 2, 1) := by decide +kernel
theorem dX1_setLeastTrust_32 : decode cX1_setLeastTrust 32 = .ok (.ireturn, 1) := by decide +kernel
theorem dX1_isHeard_0 : decode cX1_isHeard 0 = .ok (.aload_n 0, 1) := by decide +kernel
theorem dX1_isHeard_1 : decode cX1_isHeard 1 = .ok (.getfield 26, 3) := by decide +kernel
theorem dX1_isHeard_4 : decode cX1_isHeard 4 = .ok (.iload_n 1, 1) := by decide +kernel
theorem dX1_isHeard_5 : decode cX1_isHeard 5 = .ok (.baload, 1) := by decide +kernel
theorem dX1_isHeard_6 : decode cX1_isHeard 6 = .ok (.ifCond .eq 20, 3) := by decide +kernel
theorem dX1_isHeard_9 : decode cX1_isHeard 9 = .ok (.aload_n 0, 1) := by decide +kernel
theorem dX1_isHeard_10 : decode cX1_isHeard 10 = .ok (.getfield 23, 3) := by decide +kernel
theorem dX1_isHeard_13 : decode cX1_isHeard 13 = .ok (.iload_n 1, 1) := by decide +kernel
theorem dX1_isHeard_14 : decode cX1_isHeard 14 = .ok (.iaload, 1) := by decide +kernel
theorem dX1_isHeard_15 : decode cX1_isHeard 15 = .ok (.aload_n 0, 1) := by decide +kernel
theorem dX1_isHeard_16 : decode cX1_isHeard 16 = .ok (.getfield 32, 3) := by decide +kernel
theorem dX1_isHeard_19 : decode cX1_isHeard 19 = .ok (.if_icmp .lt 7, 3) := by decide +kernel
theorem dX1_isHeard_22 : decode cX1_isHeard 22 = .ok (.iconst 1, 1) := by decide +kernel
theorem dX1_isHeard_23 : decode cX1_isHeard 23 = .ok (.goto 4, 3) := by decide +kernel
theorem dX1_isHeard_26 : decode cX1_isHeard 26 = .ok (.iconst 0, 1) := by decide +kernel
theorem dX1_isHeard_27 : decode cX1_isHeard 27 = .ok (.ireturn, 1) := by decide +kernel
set_option maxRecDepth 20000 in
theorem ggX1_heardSet_X1_isHeard : GoodIn wsX1_heardSet wsX1_isHeard := goodIn_r _ [5, 6, 7, 8, 9, 10, 11, 12, 13, 14, 15, 16, 17, 18, 19, 20, 21] (by decide +kernel) (by decide +kernel)
set_option maxRecDepth 20000 in
theorem gX1_heardSet_X1_isHeard : GoodIn wsX1_heardSet (wsV RX1 73 RX1 yX1_isHeard wsX1_isHeard) := goodIn_app (goodIn_of _ (by decide +kernel)) ggX1_heardSet_X1_isHeard
theorem dX1_heardSet_0 : decode cX1_heardSet 0 = .ok (.iconst 0, 1) := by decide +kernel
theorem dX1_heardSet_1 : decode cX1_heardSet 1 = .ok (.istore_n 1, 1) := by decide +kernel
theorem dX1_heardSet_2 : decode cX1_heardSet 2 = .ok (.iconst 0, 1) := by decide +kernel
theorem dX1_heardSet_3 : decode cX1_heardSet 3 = .ok (.istore_n 2, 1) := by decide +kernel
theorem dX1_heardSet_4 : decode cX1_heardSet 4 = .ok (.iload_n 2, 1) := by decide +kernel
theorem dX1_heardSet_5 : decode cX1_heardSet 5 = .ok (.bipush 6, 2) := by decide +kernel
theorem dX1_heardSet_7 : decode cX1_heardSet 7 = .ok (.if_icmp .ge 23, 3) := by decide +kernel
theorem dX1_heardSet_10 : decode cX1_heardSet 10 = .ok (.aload_n 0, 1) := by decide +kernel
theorem dX1_heardSet_11 : decode cX1_heardSet 11 = .ok (.iload_n 2, 1) := by decide +kernel
theorem dX1_heardSet_12 : decode cX1_heardSet 12 = .ok (.invokevirtual 73, 3) := by decide +kernel
theorem dX1_heardSet_15 : decode cX1_heardSet 15 = .ok (.ifCond .eq 9, 3) := by decide +kernel
theorem dX1_heardSet_18 : decode cX1_heardSet 18 = .ok (.iload_n 1, 1) := by decide +kernel
theorem dX1_heardSet_19 : decode cX1_heardSet 19 = .ok (.iconst 1, 1) := by decide +kernel
theorem dX1_heardSet_20 : decode cX1_heardSet 20 = .ok (.iload_n 2, 1) := by decide +kernel
theorem dX1_heardSet_21 : decode cX1_heardSet 21 = .ok (.ishl, 1) := by decide +kernel
theorem dX1_heardSet_22 : decode cX1_heardSet 22 = .ok (.ior, 1) := by decide +kernel
theorem dX1_heardSet_23 : decode cX1_heardSet 23 = .ok (.istore_n 1, 1) := by decide +kernel
theorem dX1_heardSet_24 : decode cX1_heardSet 24 = .ok (.iinc 2 1, 3) := by decide +kernel
theorem dX1_heardSet_27 : decode cX1_heardSet 27 = .ok (.goto (-23), 3) := by decide +kernel
theorem dX1_heardSet_30 : decode cX1_heardSet 30 = .ok (.iload_n 1, 1) := by decide +kernel
theorem dX1_heardSet_31 : decode cX1_heardSet 31 = .ok (.ireturn, 1) := by decide +kernel
set_option maxRecDepth 20000 in
theorem ggX1_let_X1_isSource : GoodIn wsX1_let wsX1_isSource := goodIn_r _ [6, 7, 8, 5, 9] (by decide +kernel) (by decide +kernel)
set_option maxRecDepth 20000 in
theorem gX1_let_X1_isSource : GoodIn wsX1_let (va_wsS RX1 70 yX1_isSource wsX1_isSource) := goodIn_app (goodIn_of _ (by decide +kernel)) ggX1_let_X1_isSource
set_option maxRecDepth 20000 in
theorem ggX1_let_X1_isHeard : GoodIn wsX1_let wsX1_isHeard := goodIn_r _ [13, 2, 14, 15, 16, 17, 18, 19, 20, 21, 22, 23, 24, 25, 26, 27, 28] (by decide +kernel) (by decide +kernel)
set_option maxRecDepth 20000 in
theorem gX1_let_X1_isHeard : GoodIn wsX1_let (wsV RX1 73 RX1 yX1_isHeard wsX1_isHeard) := goodIn_app (goodIn_of _ (by decide +kernel)) ggX1_let_X1_isHeard
theorem dX1_let_0 : decode cX1_let 0 = .ok (.aload_n 0, 1) := by decide +kernel
theorem dX1_let_1 : decode cX1_let 1 = .ok (.iload_n 1, 1) := by decide +kernel
theorem dX1_let_2 : decode cX1_let 2 = .ok (.invokestatic 70, 3) := by decide +kernel
theorem dX1_let_5 : decode cX1_let 5 = .ok (.ifCond .eq 7, 3) := by decide +kernel
theorem dX1_let_8 : decode cX1_let 8 = .ok (.iconst 0, 1) := by decide +kernel
theorem dX1_let_9 : decode cX1_let 9 = .ok (.goto 4, 3) := by decide +kernel
theorem dX1_let_12 : decode cX1_let 12 = .ok (.iconst 1, 1) := by decide +kernel
theorem dX1_let_13 : decode cX1_let 13 = .ok (.putfield 45, 3) := by decide +kernel
theorem dX1_let_16 : decode cX1_let 16 = .ok (.aload_n 0, 1) := by decide +kernel
theorem dX1_let_17 : decode cX1_let 17 = .ok (.getfield 45, 3) := by decide +kernel
theorem dX1_let_20 : decode cX1_let 20 = .ok (.ifCond .eq 5, 3) := by decide +kernel
theorem dX1_let_23 : decode cX1_let 23 = .ok (.iconst 0, 1) := by decide +kernel
theorem dX1_let_24 : decode cX1_let 24 = .ok (.ireturn, 1) := by decide +kernel
theorem dX1_let_25 : decode cX1_let 25 = .ok (.aload_n 0, 1) := by decide +kernel
theorem dX1_let_26 : decode cX1_let 26 = .ok (.getfield 26, 3) := by decide +kernel
theorem dX1_let_29 : decode cX1_let 29 = .ok (.iload_n 1, 1) := by decide +kernel
theorem dX1_let_30 : decode cX1_let 30 = .ok (.iload_n 2, 1) := by decide +kernel
theorem dX1_let_31 : decode cX1_let 31 = .ok (.bastore, 1) := by decide +kernel
theorem dX1_let_32 : decode cX1_let 32 = .ok (.aload_n 0, 1) := by decide +kernel
theorem dX1_let_33 : decode cX1_let 33 = .ok (.iload_n 1, 1) := by decide +kernel
theorem dX1_let_34 : decode cX1_let 34 = .ok (.invokevirtual 73, 3) := by decide +kernel
theorem dX1_let_37 : decode cX1_let 37 = .ok (.ireturn, 1) := by decide +kernel
set_option maxRecDepth 20000 in
theorem ggX1_setRule_X1_isAtom : GoodIn wsX1_setRule wsX1_isAtom := goodIn_r _ [7, 8, 9, 6, 10] (by decide +kernel) (by decide +kernel)
set_option maxRecDepth 20000 in
theorem gX1_setRule_X1_isAtom : GoodIn wsX1_setRule (va_wsS RX1 59 yX1_isAtom wsX1_isAtom) := goodIn_app (goodIn_of _ (by decide +kernel)) ggX1_setRule_X1_isAtom
set_option maxRecDepth 20000 in
theorem ggX1_setRule_X1_isFormula : GoodIn wsX1_setRule wsX1_isFormula := goodIn_r _ [14, 15, 8, 9, 6, 10, 20, 21, 22, 23, 24, 25, 26, 27, 28, 29, 30, 31, 32] (by decide +kernel) (by decide +kernel)
set_option maxRecDepth 20000 in
theorem gX1_setRule_X1_isFormula : GoodIn wsX1_setRule (wsV RX1 67 RX1 yX1_isFormula wsX1_isFormula) := goodIn_app (goodIn_of _ (by decide +kernel)) ggX1_setRule_X1_isFormula
set_option maxRecDepth 20000 in
theorem ggX1_setRule_X1_no : GoodIn wsX1_setRule wsX1_no := goodIn_r _ [19, 1, 20, 21, 22, 23, 24, 25, 26, 27, 28, 29, 30, 31, 32] (by decide +kernel) (by decide +kernel)
set_option maxRecDepth 20000 in
theorem gX1_setRule_X1_no : GoodIn wsX1_setRule (wsV RX1 55 RX1 yX1_no wsX1_no) := goodIn_app (goodIn_of _ (by decide +kernel)) ggX1_setRule_X1_no
theorem dX1_setRule_0 : decode cX1_setRule 0 = .ok (.aload_n 0, 1) := by decide +kernel
theorem dX1_setRule_1 : decode cX1_setRule 1 = .ok (.iconst 0, 1) := by decide +kernel
theorem dX1_setRule_2 : decode cX1_setRule 2 = .ok (.putfield 45, 3) := by decide +kernel
theorem dX1_setRule_5 : decode cX1_setRule 5 = .ok (.iload_n 1, 1) := by decide +kernel
theorem dX1_setRule_6 : decode cX1_setRule 6 = .ok (.invokestatic 59, 3) := by decide +kernel
theorem dX1_setRule_9 : decode cX1_setRule 9 = .ok (.ifCond .eq 16, 3) := by decide +kernel
theorem dX1_setRule_12 : decode cX1_setRule 12 = .ok (.iload_n 2, 1) := by decide +kernel
theorem dX1_setRule_13 : decode cX1_setRule 13 = .ok (.iconst (-1), 1) := by decide +kernel
theorem dX1_setRule_14 : decode cX1_setRule 14 = .ok (.if_icmp .eq 17, 3) := by decide +kernel
theorem dX1_setRule_17 : decode cX1_setRule 17 = .ok (.aload_n 0, 1) := by decide +kernel
theorem dX1_setRule_18 : decode cX1_setRule 18 = .ok (.iload_n 2, 1) := by decide +kernel
theorem dX1_setRule_19 : decode cX1_setRule 19 = .ok (.invokevirtual 67, 3) := by decide +kernel
theorem dX1_setRule_22 : decode cX1_setRule 22 = .ok (.ifCond .ne 9, 3) := by decide +kernel
theorem dX1_setRule_25 : decode cX1_setRule 25 = .ok (.aload_n 0, 1) := by decide +kernel
theorem dX1_setRule_26 : decode cX1_setRule 26 = .ok (.iconst 1, 1) := by decide +kernel
theorem dX1_setRule_27 : decode cX1_setRule 27 = .ok (.invokevirtual 55, 3) := by decide +kernel
theorem dX1_setRule_30 : decode cX1_setRule 30 = .ok (.ireturn, 1) := by decide +kernel
theorem dX1_setRule_31 : decode cX1_setRule 31 = .ok (.iload_n 2, 1) := by decide +kernel
theorem dX1_setRule_32 : decode cX1_setRule 32 = .ok (.iconst (-1), 1) := by decide +kernel
theorem dX1_setRule_33 : decode cX1_setRule 33 = .ok (.if_icmp .eq 18, 3) := by decide +kernel
theorem dX1_setRule_36 : decode cX1_setRule 36 = .ok (.aload_n 0, 1) := by decide +kernel
theorem dX1_setRule_37 : decode cX1_setRule 37 = .ok (.getfield 19, 3) := by decide +kernel
theorem dX1_setRule_40 : decode cX1_setRule 40 = .ok (.iload_n 2, 1) := by decide +kernel
theorem dX1_setRule_41 : decode cX1_setRule 41 = .ok (.baload, 1) := by decide +kernel
theorem dX1_setRule_42 : decode cX1_setRule 42 = .ok (.ifCond .ne 9, 3) := by decide +kernel
theorem dX1_setRule_45 : decode cX1_setRule 45 = .ok (.aload_n 0, 1) := by decide +kernel
theorem dX1_setRule_46 : decode cX1_setRule 46 = .ok (.iconst 2, 1) := by decide +kernel
theorem dX1_setRule_47 : decode cX1_setRule 47 = .ok (.invokevirtual 55, 3) := by decide +kernel
theorem dX1_setRule_50 : decode cX1_setRule 50 = .ok (.ireturn, 1) := by decide +kernel
theorem dX1_setRule_51 : decode cX1_setRule 51 = .ok (.aload_n 0, 1) := by decide +kernel
theorem dX1_setRule_52 : decode cX1_setRule 52 = .ok (.getfield 36, 3) := by decide +kernel
theorem dX1_setRule_55 : decode cX1_setRule 55 = .ok (.iload_n 1, 1) := by decide +kernel
theorem dX1_setRule_56 : decode cX1_setRule 56 = .ok (.iaload, 1) := by decide +kernel
theorem dX1_setRule_57 : decode cX1_setRule 57 = .ok (.istore_n 3, 1) := by decide +kernel
theorem dX1_setRule_58 : decode cX1_setRule 58 = .ok (.aload_n 0, 1) := by decide +kernel
theorem dX1_setRule_59 : decode cX1_setRule 59 = .ok (.getfield 36, 3) := by decide +kernel
theorem dX1_setRule_62 : decode cX1_setRule 62 = .ok (.iload_n 1, 1) := by decide +kernel
theorem dX1_setRule_63 : decode cX1_setRule 63 = .ok (.iload_n 2, 1) := by decide +kernel
theorem dX1_setRule_64 : decode cX1_setRule 64 = .ok (.iastore, 1) := by decide +kernel
theorem dX1_setRule_65 : decode cX1_setRule 65 = .ok (.iload_n 3, 1) := by decide +kernel
theorem dX1_setRule_66 : decode cX1_setRule 66 = .ok (.ireturn, 1) := by decide +kernel
set_option maxRecDepth 20000 in
theorem ggX1_givenBy_X1_has : GoodIn wsX1_givenBy wsX1_has := goodIn_r _ [5] (by decide +kernel) (by decide +kernel)
set_option maxRecDepth 20000 in
theorem gX1_givenBy_X1_has : GoodIn wsX1_givenBy (va_wsS RX1 76 yX1_has wsX1_has) := goodIn_app (goodIn_of _ (by decide +kernel)) ggX1_givenBy_X1_has
theorem dX1_givenBy_0 : decode cX1_givenBy 0 = .ok (.iconst 0, 1) := by decide +kernel
theorem dX1_givenBy_1 : decode cX1_givenBy 1 = .ok (.istore_n 3, 1) := by decide +kernel
theorem dX1_givenBy_2 : decode cX1_givenBy 2 = .ok (.iconst 0, 1) := by decide +kernel
theorem dX1_givenBy_3 : decode cX1_givenBy 3 = .ok (.istore 4, 2) := by decide +kernel
theorem dX1_givenBy_5 : decode cX1_givenBy 5 = .ok (.iload 4, 2) := by decide +kernel
theorem dX1_givenBy_7 : decode cX1_givenBy 7 = .ok (.bipush 6, 2) := by decide +kernel
theorem dX1_givenBy_9 : decode cX1_givenBy 9 = .ok (.if_icmp .ge 33, 3) := by decide +kernel
theorem dX1_givenBy_12 : decode cX1_givenBy 12 = .ok (.iload_n 1, 1) := by decide +kernel
theorem dX1_givenBy_13 : decode cX1_givenBy 13 = .ok (.iload 4, 2) := by decide +kernel
theorem dX1_givenBy_15 : decode cX1_givenBy 15 = .ok (.invokestatic 76, 3) := by decide +kernel
theorem dX1_givenBy_18 : decode cX1_givenBy 18 = .ok (.ifCond .eq 18, 3) := by decide +kernel
theorem dX1_givenBy_21 : decode cX1_givenBy 21 = .ok (.iload_n 3, 1) := by decide +kernel
theorem dX1_givenBy_22 : decode cX1_givenBy 22 = .ok (.aload_n 0, 1) := by decide +kernel
theorem dX1_givenBy_23 : decode cX1_givenBy 23 = .ok (.getfield 29, 3) := by decide +kernel
theorem dX1_givenBy_26 : decode cX1_givenBy 26 = .ok (.bipush 6, 2) := by decide +kernel
theorem dX1_givenBy_28 : decode cX1_givenBy 28 = .ok (.iload 4, 2) := by decide +kernel
theorem dX1_givenBy_30 : decode cX1_givenBy 30 = .ok (.imul, 1) := by decide +kernel
theorem dX1_givenBy_31 : decode cX1_givenBy 31 = .ok (.iload_n 2, 1) := by decide +kernel
theorem dX1_givenBy_32 : decode cX1_givenBy 32 = .ok (.iadd, 1) := by decide +kernel
theorem dX1_givenBy_33 : decode cX1_givenBy 33 = .ok (.iaload, 1) := by decide +kernel
theorem dX1_givenBy_34 : decode cX1_givenBy 34 = .ok (.ior, 1) := by decide +kernel
theorem dX1_givenBy_35 : decode cX1_givenBy 35 = .ok (.istore_n 3, 1) := by decide +kernel
theorem dX1_givenBy_36 : decode cX1_givenBy 36 = .ok (.iinc 4 1, 3) := by decide +kernel
theorem dX1_givenBy_39 : decode cX1_givenBy 39 = .ok (.goto (-34), 3) := by decide +kernel
theorem dX1_givenBy_42 : decode cX1_givenBy 42 = .ok (.iload_n 3, 1) := by decide +kernel
theorem dX1_givenBy_43 : decode cX1_givenBy 43 = .ok (.ireturn, 1) := by decide +kernel
set_option maxRecDepth 20000 in
theorem ggX1_given_X1_isAtom : GoodIn wsX1_given wsX1_isAtom := goodIn_r _ [5, 6, 7, 4, 8] (by decide +kernel) (by decide +kernel)
set_option maxRecDepth 20000 in
theorem gX1_given_X1_isAtom : GoodIn wsX1_given (va_wsS RX1 59 yX1_isAtom wsX1_isAtom) := goodIn_app (goodIn_of _ (by decide +kernel)) ggX1_given_X1_isAtom
set_option maxRecDepth 20000 in
theorem ggX1_given_X1_heardSet : GoodIn wsX1_given wsX1_heardSet := goodIn_r _ [12, 13, 14, 15, 4, 16, 17, 18, 19, 32, 33, 34, 35, 36, 37, 38, 39, 40, 41, 42, 43, 44] (by decide +kernel) (by decide +kernel)
set_option maxRecDepth 20000 in
theorem gX1_given_X1_heardSet : GoodIn wsX1_given (wsV RX1 80 RX1 yX1_heardSet wsX1_heardSet) := goodIn_app (goodIn_of _ (by decide +kernel)) ggX1_given_X1_heardSet
set_option maxRecDepth 20000 in
theorem ggX1_given_X1_givenBy : GoodIn wsX1_given wsX1_givenBy := goodIn_r _ [23, 24, 25, 26, 4, 27, 32, 33, 34, 35, 36, 37, 38, 39, 40, 41, 42, 43, 44] (by decide +kernel) (by decide +kernel)
set_option maxRecDepth 20000 in
theorem gX1_given_X1_givenBy : GoodIn wsX1_given (wsV RX1 84 RX1 yX1_givenBy wsX1_givenBy) := goodIn_app (goodIn_of _ (by decide +kernel)) ggX1_given_X1_givenBy
set_option maxRecDepth 20000 in
theorem ggX1_given_X1_no : GoodIn wsX1_given wsX1_no := goodIn_r _ [31, 1, 32, 33, 34, 35, 36, 37, 38, 39, 40, 41, 42, 43, 44] (by decide +kernel) (by decide +kernel)
set_option maxRecDepth 20000 in
theorem gX1_given_X1_no : GoodIn wsX1_given (wsV RX1 55 RX1 yX1_no wsX1_no) := goodIn_app (goodIn_of _ (by decide +kernel)) ggX1_given_X1_no
theorem dX1_given_0 : decode cX1_given 0 = .ok (.aload_n 0, 1) := by decide +kernel
theorem dX1_given_1 : decode cX1_given 1 = .ok (.iconst 0, 1) := by decide +kernel
theorem dX1_given_2 : decode cX1_given 2 = .ok (.putfield 45, 3) := by decide +kernel
theorem dX1_given_5 : decode cX1_given 5 = .ok (.iload_n 1, 1) := by decide +kernel
theorem dX1_given_6 : decode cX1_given 6 = .ok (.invokestatic 59, 3) := by decide +kernel
theorem dX1_given_9 : decode cX1_given 9 = .ok (.ifCond .eq 15, 3) := by decide +kernel
theorem dX1_given_12 : decode cX1_given 12 = .ok (.aload_n 0, 1) := by decide +kernel
theorem dX1_given_13 : decode cX1_given 13 = .ok (.aload_n 0, 1) := by decide +kernel
theorem dX1_given_14 : decode cX1_given 14 = .ok (.invokevirtual 80, 3) := by decide +kernel
theorem dX1_given_17 : decode cX1_given 17 = .ok (.iload_n 1, 1) := by decide +kernel
theorem dX1_given_18 : decode cX1_given 18 = .ok (.invokevirtual 84, 3) := by decide +kernel
theorem dX1_given_21 : decode cX1_given 21 = .ok (.goto 8, 3) := by decide +kernel
theorem dX1_given_24 : decode cX1_given 24 = .ok (.aload_n 0, 1) := by decide +kernel
theorem dX1_given_25 : decode cX1_given 25 = .ok (.iconst 1, 1) := by decide +kernel
theorem dX1_given_26 : decode cX1_given 26 = .ok (.invokevirtual 55, 3) := by decide +kernel
theorem dX1_given_29 : decode cX1_given 29 = .ok (.ireturn, 1) := by decide +kernel
theorem dX1_valueIn_0 : decode cX1_valueIn 0 = .ok (.iload_n 0, 1) := by decide +kernel
theorem dX1_valueIn_1 : decode cX1_valueIn 1 = .ok (.iconst 2, 1) := by decide +kernel
theorem dX1_valueIn_2 : decode cX1_valueIn 2 = .ok (.iconst 5, 1) := by decide +kernel
theorem dX1_valueIn_3 : decode cX1_valueIn 3 = .ok (.iload_n 1, 1) := by decide +kernel
theorem dX1_valueIn_4 : decode cX1_valueIn 4 = .ok (.isub, 1) := by decide +kernel
theorem dX1_valueIn_5 : decode cX1_valueIn 5 = .ok (.imul, 1) := by decide +kernel
theorem dX1_valueIn_6 : decode cX1_valueIn 6 = .ok (.ishr, 1) := by decide +kernel
theorem dX1_valueIn_7 : decode cX1_valueIn 7 = .ok (.iconst 3, 1) := by decide +kernel
theorem dX1_valueIn_8 : decode cX1_valueIn 8 = .ok (.iand, 1) := by decide +kernel
theorem dX1_valueIn_9 : decode cX1_valueIn 9 = .ok (.ireturn, 1) := by decide +kernel
set_option maxRecDepth 20000 in
theorem ggX1_begin_X1_givenBy : GoodIn wsX1_begin wsX1_givenBy := goodIn_r _ [5, 6, 7, 8, 4, 9, 10, 11, 12, 13, 14, 15, 16, 17, 18, 19, 20, 21, 22] (by decide +kernel) (by decide +kernel)
set_option maxRecDepth 20000 in
theorem gX1_begin_X1_givenBy : GoodIn wsX1_begin (wsV RX1 84 RX1 yX1_givenBy wsX1_givenBy) := goodIn_app (goodIn_of _ (by decide +kernel)) ggX1_begin_X1_givenBy
theorem dX1_begin_0 : decode cX1_begin 0 = .ok (.iconst 0, 1) := by decide +kernel
theorem dX1_begin_1 : decode cX1_begin 1 = .ok (.istore_n 2, 1) := by decide +kernel
theorem dX1_begin_2 : decode cX1_begin 2 = .ok (.iconst 0, 1) := by decide +kernel
theorem dX1_begin_3 : decode cX1_begin 3 = .ok (.istore_n 3, 1) := by decide +kernel
theorem dX1_begin_4 : decode cX1_begin 4 = .ok (.iload_n 3, 1) := by decide +kernel
theorem dX1_begin_5 : decode cX1_begin 5 = .ok (.bipush 6, 2) := by decide +kernel
theorem dX1_begin_7 : decode cX1_begin 7 = .ok (.if_icmp .ge 20, 3) := by decide +kernel
theorem dX1_begin_10 : decode cX1_begin 10 = .ok (.iconst 4, 1) := by decide +kernel
theorem dX1_begin_11 : decode cX1_begin 11 = .ok (.iload_n 2, 1) := by decide +kernel
theorem dX1_begin_12 : decode cX1_begin 12 = .ok (.imul, 1) := by decide +kernel
theorem dX1_begin_13 : decode cX1_begin 13 = .ok (.aload_n 0, 1) := by decide +kernel
theorem dX1_begin_14 : decode cX1_begin 14 = .ok (.iload_n 1, 1) := by decide +kernel
theorem dX1_begin_15 : decode cX1_begin 15 = .ok (.iload_n 3, 1) := by decide +kernel
theorem dX1_begin_16 : decode cX1_begin 16 = .ok (.invokevirtual 84, 3) := by decide +kernel
theorem dX1_begin_19 : decode cX1_begin 19 = .ok (.iadd, 1) := by decide +kernel
theorem dX1_begin_20 : decode cX1_begin 20 = .ok (.istore_n 2, 1) := by decide +kernel
theorem dX1_begin_21 : decode cX1_begin 21 = .ok (.iinc 3 1, 3) := by decide +kernel
theorem dX1_begin_24 : decode cX1_begin 24 = .ok (.goto (-20), 3) := by decide +kernel
theorem dX1_begin_27 : decode cX1_begin 27 = .ok (.iload_n 2, 1) := by decide +kernel
theorem dX1_begin_28 : decode cX1_begin 28 = .ok (.ireturn, 1) := by decide +kernel
set_option maxRecDepth 20000 in
theorem ggX1_goOn_X1_givenBy : GoodIn wsX1_goOn wsX1_givenBy := goodIn_r _ [6, 7, 8, 9, 5, 10, 22, 23, 24, 25, 26, 27, 28, 29, 30, 31, 32, 33, 34] (by decide +kernel) (by decide +kernel)
set_option maxRecDepth 20000 in
theorem gX1_goOn_X1_givenBy : GoodIn wsX1_goOn (wsV RX1 84 RX1 yX1_givenBy wsX1_givenBy) := goodIn_app (goodIn_of _ (by decide +kernel)) ggX1_goOn_X1_givenBy
set_option maxRecDepth 20000 in
theorem ggX1_goOn_X1_worth : GoodIn wsX1_goOn wsX1_worth := goodIn_r _ [14, 15, 16, 17, 18, 19, 20, 5, 21, 22, 23, 24, 25, 26, 27, 28, 29, 30, 31, 32, 33, 34] (by decide +kernel) (by decide +kernel)
set_option maxRecDepth 20000 in
theorem gX1_goOn_X1_worth : GoodIn wsX1_goOn (wsV RX1 88 RX1 yX1_worth wsX1_worth) := goodIn_app (goodIn_of _ (by decide +kernel)) ggX1_goOn_X1_worth
theorem dX1_goOn_0 : decode cX1_goOn 0 = .ok (.iconst 0, 1) := by decide +kernel
theorem dX1_goOn_1 : decode cX1_goOn 1 = .ok (.istore_n 3, 1) := by decide +kernel
theorem dX1_goOn_2 : decode cX1_goOn 2 = .ok (.iconst 0, 1) := by decide +kernel
theorem dX1_goOn_3 : decode cX1_goOn 3 = .ok (.istore 4, 2) := by decide +kernel
theorem dX1_goOn_5 : decode cX1_goOn 5 = .ok (.iload 4, 2) := by decide +kernel
theorem dX1_goOn_7 : decode cX1_goOn 7 = .ok (.bipush 6, 2) := by decide +kernel
theorem dX1_goOn_9 : decode cX1_goOn 9 = .ok (.if_icmp .ge 49, 3) := by decide +kernel
theorem dX1_goOn_12 : decode cX1_goOn 12 = .ok (.iconst 4, 1) := by decide +kernel
theorem dX1_goOn_13 : decode cX1_goOn 13 = .ok (.iload_n 3, 1) := by decide +kernel
theorem dX1_goOn_14 : decode cX1_goOn 14 = .ok (.imul, 1) := by decide +kernel
theorem dX1_goOn_15 : decode cX1_goOn 15 = .ok (.aload_n 0, 1) := by decide +kernel
theorem dX1_goOn_16 : decode cX1_goOn 16 = .ok (.iload_n 1, 1) := by decide +kernel
theorem dX1_goOn_17 : decode cX1_goOn 17 = .ok (.iload 4, 2) := by decide +kernel
theorem dX1_goOn_19 : decode cX1_goOn 19 = .ok (.invokevirtual 84, 3) := by decide +kernel
theorem dX1_goOn_22 : decode cX1_goOn 22 = .ok (.aload_n 0, 1) := by decide +kernel
theorem dX1_goOn_23 : decode cX1_goOn 23 = .ok (.getfield 36, 3) := by decide +kernel
theorem dX1_goOn_26 : decode cX1_goOn 26 = .ok (.iload 4, 2) := by decide +kernel
theorem dX1_goOn_28 : decode cX1_goOn 28 = .ok (.iaload, 1) := by decide +kernel
theorem dX1_goOn_29 : decode cX1_goOn 29 = .ok (.iconst (-1), 1) := by decide +kernel
theorem dX1_goOn_30 : decode cX1_goOn 30 = .ok (.if_icmp .ne 7, 3) := by decide +kernel
theorem dX1_goOn_33 : decode cX1_goOn 33 = .ok (.iconst 0, 1) := by decide +kernel
theorem dX1_goOn_34 : decode cX1_goOn 34 = .ok (.goto 15, 3) := by decide +kernel
theorem dX1_goOn_37 : decode cX1_goOn 37 = .ok (.aload_n 0, 1) := by decide +kernel
theorem dX1_goOn_38 : decode cX1_goOn 38 = .ok (.aload_n 0, 1) := by decide +kernel
theorem dX1_goOn_39 : decode cX1_goOn 39 = .ok (.getfield 36, 3) := by decide +kernel
theorem dX1_goOn_42 : decode cX1_goOn 42 = .ok (.iload 4, 2) := by decide +kernel
theorem dX1_goOn_44 : decode cX1_goOn 44 = .ok (.iaload, 1) := by decide +kernel
theorem dX1_goOn_45 : decode cX1_goOn 45 = .ok (.iload_n 2, 1) := by decide +kernel
theorem dX1_goOn_46 : decode cX1_goOn 46 = .ok (.invokevirtual 88, 3) := by decide +kernel
theorem dX1_goOn_49 : decode cX1_goOn 49 = .ok (.ior, 1) := by decide +kernel
theorem dX1_goOn_50 : decode cX1_goOn 50 = .ok (.iadd, 1) := by decide +kernel
theorem dX1_goOn_51 : decode cX1_goOn 51 = .ok (.istore_n 3, 1) := by decide +kernel
theorem dX1_goOn_52 : decode cX1_goOn 52 = .ok (.iinc 4 1, 3) := by decide +kernel
theorem dX1_goOn_55 : decode cX1_goOn 55 = .ok (.goto (-50), 3) := by decide +kernel
theorem dX1_goOn_58 : decode cX1_goOn 58 = .ok (.iload_n 3, 1) := by decide +kernel
theorem dX1_goOn_59 : decode cX1_goOn 59 = .ok (.ireturn, 1) := by decide +kernel
set_option maxRecDepth 20000 in
theorem ggX1_settle_X1_begin : GoodIn wsX1_settle wsX1_begin := goodIn_r _ [5, 6, 7, 8, 4, 9, 10, 11, 12, 13, 30, 31, 32, 33, 34, 35, 36, 37, 38, 39, 40, 41, 42] (by decide +kernel) (by decide +kernel)
set_option maxRecDepth 20000 in
theorem gX1_settle_X1_begin : GoodIn wsX1_settle (wsV RX1 91 RX1 yX1_begin wsX1_begin) := goodIn_app (goodIn_of _ (by decide +kernel)) ggX1_settle_X1_begin
set_option maxRecDepth 20000 in
theorem ggX1_settle_X1_goOn : GoodIn wsX1_settle wsX1_goOn := goodIn_r _ [17, 18, 6, 7, 8, 4, 9, 10, 11, 12, 13, 19, 20, 21, 22, 23, 24, 25, 26, 27, 28, 29, 30, 31, 32, 33, 34, 35, 36, 37, 38, 39, 40, 41, 42] (by decide +kernel) (by decide +kernel)
set_option maxRecDepth 20000 in
theorem gX1_settle_X1_goOn : GoodIn wsX1_settle (wsV RX1 94 RX1 yX1_goOn wsX1_goOn) := goodIn_app (goodIn_of _ (by decide +kernel)) ggX1_settle_X1_goOn
theorem dX1_settle_0 : decode cX1_settle 0 = .ok (.aload_n 0, 1) := by decide +kernel
theorem dX1_settle_1 : decode cX1_settle 1 = .ok (.iload_n 1, 1) := by decide +kernel
theorem dX1_settle_2 : decode cX1_settle 2 = .ok (.invokevirtual 91, 3) := by decide +kernel
theorem dX1_settle_5 : decode cX1_settle 5 = .ok (.istore_n 2, 1) := by decide +kernel
theorem dX1_settle_6 : decode cX1_settle 6 = .ok (.aload_n 0, 1) := by decide +kernel
theorem dX1_settle_7 : decode cX1_settle 7 = .ok (.iload_n 1, 1) := by decide +kernel
theorem dX1_settle_8 : decode cX1_settle 8 = .ok (.iload_n 2, 1) := by decide +kernel
theorem dX1_settle_9 : decode cX1_settle 9 = .ok (.invokevirtual 94, 3) := by decide +kernel
theorem dX1_settle_12 : decode cX1_settle 12 = .ok (.istore_n 3, 1) := by decide +kernel
theorem dX1_settle_13 : decode cX1_settle 13 = .ok (.iload_n 3, 1) := by decide +kernel
theorem dX1_settle_14 : decode cX1_settle 14 = .ok (.iload_n 2, 1) := by decide +kernel
theorem dX1_settle_15 : decode cX1_settle 15 = .ok (.if_icmp .eq 15, 3) := by decide +kernel
theorem dX1_settle_18 : decode cX1_settle 18 = .ok (.iload_n 3, 1) := by decide +kernel
theorem dX1_settle_19 : decode cX1_settle 19 = .ok (.istore_n 2, 1) := by decide +kernel
theorem dX1_settle_20 : decode cX1_settle 20 = .ok (.aload_n 0, 1) := by decide +kernel
theorem dX1_settle_21 : decode cX1_settle 21 = .ok (.iload_n 1, 1) := by decide +kernel
theorem dX1_settle_22 : decode cX1_settle 22 = .ok (.iload_n 2, 1) := by decide +kernel
theorem dX1_settle_23 : decode cX1_settle 23 = .ok (.invokevirtual 94, 3) := by decide +kernel
theorem dX1_settle_26 : decode cX1_settle 26 = .ok (.istore_n 3, 1) := by decide +kernel
theorem dX1_settle_27 : decode cX1_settle 27 = .ok (.goto (-14), 3) := by decide +kernel
theorem dX1_settle_30 : decode cX1_settle 30 = .ok (.iload_n 2, 1) := by decide +kernel
theorem dX1_settle_31 : decode cX1_settle 31 = .ok (.ireturn, 1) := by decide +kernel
set_option maxRecDepth 20000 in
theorem ggX1_present_X1_heardSet : GoodIn wsX1_present wsX1_heardSet := goodIn_r _ [5, 6, 7, 8, 4, 9, 10, 11, 12, 45, 46, 47, 48, 49, 50, 51, 52, 53, 54, 55, 56, 57] (by decide +kernel) (by decide +kernel)
set_option maxRecDepth 20000 in
theorem gX1_present_X1_heardSet : GoodIn wsX1_present (wsV RX1 80 RX1 yX1_heardSet wsX1_heardSet) := goodIn_app (goodIn_of _ (by decide +kernel)) ggX1_present_X1_heardSet
set_option maxRecDepth 20000 in
theorem ggX1_present_X1_settle : GoodIn wsX1_present wsX1_settle := goodIn_r _ [16, 17, 18, 19, 4, 20, 21, 22, 23, 24, 25, 26, 27, 28, 29, 30, 31, 32, 33, 34, 35, 36, 37, 38, 39, 40, 41, 42, 43, 44, 45, 46, 47, 48, 49, 50, 51, 52, 53, 54, 55, 56, 57] (by decide +kernel) (by decide +kernel)
set_option maxRecDepth 20000 in
theorem gX1_present_X1_settle : GoodIn wsX1_present (wsV RX1 97 RX1 yX1_settle wsX1_settle) := goodIn_app (goodIn_of _ (by decide +kernel)) ggX1_present_X1_settle
theorem dX1_present_0 : decode cX1_present 0 = .ok (.aload_n 0, 1) := by decide +kernel
theorem dX1_present_1 : decode cX1_present 1 = .ok (.aload_n 0, 1) := by decide +kernel
theorem dX1_present_2 : decode cX1_present 2 = .ok (.invokevirtual 80, 3) := by decide +kernel
theorem dX1_present_5 : decode cX1_present 5 = .ok (.invokevirtual 97, 3) := by decide +kernel
theorem dX1_present_8 : decode cX1_present 8 = .ok (.ireturn, 1) := by decide +kernel
set_option maxRecDepth 20000 in
theorem ggX1_settled_X1_isAtom : GoodIn wsX1_settled wsX1_isAtom := goodIn_r _ [5, 6, 7, 4, 8] (by decide +kernel) (by decide +kernel)
set_option maxRecDepth 20000 in
theorem gX1_settled_X1_isAtom : GoodIn wsX1_settled (va_wsS RX1 59 yX1_isAtom wsX1_isAtom) := goodIn_app (goodIn_of _ (by decide +kernel)) ggX1_settled_X1_isAtom
set_option maxRecDepth 20000 in
theorem ggX1_settled_X1_present : GoodIn wsX1_settled wsX1_present := goodIn_r _ [12, 13, 14, 15, 4, 16, 17, 18, 19, 20, 21, 22, 23, 24, 25, 26, 27, 28, 29, 30, 31, 32, 33, 34, 35, 36, 37, 38, 39, 40, 41, 42, 43, 44, 45, 46, 47, 48, 49, 50, 51, 52, 6, 7, 8, 60, 61, 62, 63, 64, 65, 66, 67, 68, 69, 70, 71, 72] (by decide +kernel) (by decide +kernel)
set_option maxRecDepth 20000 in
theorem gX1_settled_X1_present : GoodIn wsX1_settled (wsV RX1 100 RX1 yX1_present wsX1_present) := goodIn_app (goodIn_of _ (by decide +kernel)) ggX1_settled_X1_present
set_option maxRecDepth 20000 in
theorem ggX1_settled_X1_valueIn : GoodIn wsX1_settled wsX1_valueIn := goodIn_r _ [55] (by decide +kernel) (by decide +kernel)
set_option maxRecDepth 20000 in
theorem gX1_settled_X1_valueIn : GoodIn wsX1_settled (va_wsS RX1 103 yX1_valueIn wsX1_valueIn) := goodIn_app (goodIn_of _ (by decide +kernel)) ggX1_settled_X1_valueIn
set_option maxRecDepth 20000 in
theorem ggX1_settled_X1_no : GoodIn wsX1_settled wsX1_no := goodIn_r _ [59, 1, 60, 61, 62, 63, 64, 65, 66, 67, 68, 69, 70, 71, 72] (by decide +kernel) (by decide +kernel)
set_option maxRecDepth 20000 in
theorem gX1_settled_X1_no : GoodIn wsX1_settled (wsV RX1 55 RX1 yX1_no wsX1_no) := goodIn_app (goodIn_of _ (by decide +kernel)) ggX1_settled_X1_no
theorem dX1_settled_0 : decode cX1_settled 0 = .ok (.aload_n 0, 1) := by decide +kernel
theorem dX1_settled_1 : decode cX1_settled 1 = .ok (.iconst 0, 1) := by decide +kernel
theorem dX1_settled_2 : decode cX1_settled 2 = .ok (.putfield 45, 3) := by decide +kernel
theorem dX1_settled_5 : decode cX1_settled 5 = .ok (.iload_n 1, 1) := by decide +kernel
theorem dX1_settled_6 : decode cX1_settled 6 = .ok (.invokestatic 59, 3) := by decide +kernel
theorem dX1_settled_9 : decode cX1_settled 9 = .ok (.ifCond .eq 14, 3) := by decide +kernel
theorem dX1_settled_12 : decode cX1_settled 12 = .ok (.aload_n 0, 1) := by decide +kernel
theorem dX1_settled_13 : decode cX1_settled 13 = .ok (.invokevirtual 100, 3) := by decide +kernel
theorem dX1_settled_16 : decode cX1_settled 16 = .ok (.iload_n 1, 1) := by decide +kernel
theorem dX1_settled_17 : decode cX1_settled 17 = .ok (.invokestatic 103, 3) := by decide +kernel
theorem dX1_settled_20 : decode cX1_settled 20 = .ok (.goto 8, 3) := by decide +kernel
theorem dX1_settled_23 : decode cX1_settled 23 = .ok (.aload_n 0, 1) := by decide +kernel
theorem dX1_settled_24 : decode cX1_settled 24 = .ok (.iconst 1, 1) := by decide +kernel
theorem dX1_settled_25 : decode cX1_settled 25 = .ok (.invokevirtual 55, 3) := by decide +kernel
theorem dX1_settled_28 : decode cX1_settled 28 = .ok (.ireturn, 1) := by decide +kernel
set_option maxRecDepth 20000 in
theorem ggX1_roundCount_X1_heardSet : GoodIn wsX1_roundCount wsX1_heardSet := goodIn_r _ [5, 6, 7, 8, 4, 9, 10, 11, 12, 41, 42, 43, 44, 45, 46, 47, 48, 49, 50, 51, 52, 53] (by decide +kernel) (by decide +kernel)
set_option maxRecDepth 20000 in
theorem gX1_roundCount_X1_heardSet : GoodIn wsX1_roundCount (wsV RX1 80 RX1 yX1_heardSet wsX1_heardSet) := goodIn_app (goodIn_of _ (by decide +kernel)) ggX1_roundCount_X1_heardSet
set_option maxRecDepth 20000 in
theorem ggX1_roundCount_X1_begin : GoodIn wsX1_roundCount wsX1_begin := goodIn_r _ [16, 17, 18, 19, 4, 20, 21, 22, 23, 24, 41, 42, 43, 44, 45, 46, 47, 48, 49, 50, 51, 52, 53] (by decide +kernel) (by decide +kernel)
set_option maxRecDepth 20000 in
theorem gX1_roundCount_X1_begin : GoodIn wsX1_roundCount (wsV RX1 91 RX1 yX1_begin wsX1_begin) := goodIn_app (goodIn_of _ (by decide +kernel)) ggX1_roundCount_X1_begin
set_option maxRecDepth 20000 in
theorem ggX1_roundCount_X1_goOn : GoodIn wsX1_roundCount wsX1_goOn := goodIn_r _ [28, 29, 17, 18, 19, 4, 20, 21, 22, 23, 24, 30, 31, 32, 33, 34, 35, 36, 37, 38, 39, 40, 41, 42, 43, 44, 45, 46, 47, 48, 49, 50, 51, 52, 53] (by decide +kernel) (by decide +kernel)
set_option maxRecDepth 20000 in
theorem gX1_roundCount_X1_goOn : GoodIn wsX1_roundCount (wsV RX1 94 RX1 yX1_goOn wsX1_goOn) := goodIn_app (goodIn_of _ (by decide +kernel)) ggX1_roundCount_X1_goOn
theorem dX1_roundCount_0 : decode cX1_roundCount 0 = .ok (.iconst 0, 1) := by decide +kernel
theorem dX1_roundCount_1 : decode cX1_roundCount 1 = .ok (.istore_n 1, 1) := by decide +kernel
theorem dX1_roundCount_2 : decode cX1_roundCount 2 = .ok (.aload_n 0, 1) := by decide +kernel
theorem dX1_roundCount_3 : decode cX1_roundCount 3 = .ok (.invokevirtual 80, 3) := by decide +kernel
theorem dX1_roundCount_6 : decode cX1_roundCount 6 = .ok (.istore_n 2, 1) := by decide +kernel
theorem dX1_roundCount_7 : decode cX1_roundCount 7 = .ok (.aload_n 0, 1) := by decide +kernel
theorem dX1_roundCount_8 : decode cX1_roundCount 8 = .ok (.iload_n 2, 1) := by decide +kernel
theorem dX1_roundCount_9 : decode cX1_roundCount 9 = .ok (.invokevirtual 91, 3) := by decide +kernel
theorem dX1_roundCount_12 : decode cX1_roundCount 12 = .ok (.istore_n 3, 1) := by decide +kernel
theorem dX1_roundCount_13 : decode cX1_roundCount 13 = .ok (.aload_n 0, 1) := by decide +kernel
theorem dX1_roundCount_14 : decode cX1_roundCount 14 = .ok (.iload_n 2, 1) := by decide +kernel
theorem dX1_roundCount_15 : decode cX1_roundCount 15 = .ok (.iload_n 3, 1) := by decide +kernel
theorem dX1_roundCount_16 : decode cX1_roundCount 16 = .ok (.invokevirtual 94, 3) := by decide +kernel
theorem dX1_roundCount_19 : decode cX1_roundCount 19 = .ok (.iload_n 3, 1) := by decide +kernel
theorem dX1_roundCount_20 : decode cX1_roundCount 20 = .ok (.if_icmp .eq 16, 3) := by decide +kernel
theorem dX1_roundCount_23 : decode cX1_roundCount 23 = .ok (.aload_n 0, 1) := by decide +kernel
theorem dX1_roundCount_24 : decode cX1_roundCount 24 = .ok (.iload_n 2, 1) := by decide +kernel
theorem dX1_roundCount_25 : decode cX1_roundCount 25 = .ok (.iload_n 3, 1) := by decide +kernel
theorem dX1_roundCount_26 : decode cX1_roundCount 26 = .ok (.invokevirtual 94, 3) := by decide +kernel
theorem dX1_roundCount_29 : decode cX1_roundCount 29 = .ok (.istore_n 3, 1) := by decide +kernel
theorem dX1_roundCount_30 : decode cX1_roundCount 30 = .ok (.iinc 1 1, 3) := by decide +kernel
theorem dX1_roundCount_33 : decode cX1_roundCount 33 = .ok (.goto (-20), 3) := by decide +kernel
theorem dX1_roundCount_36 : decode cX1_roundCount 36 = .ok (.iload_n 1, 1) := by decide +kernel
theorem dX1_roundCount_37 : decode cX1_roundCount 37 = .ok (.ireturn, 1) := by decide +kernel
set_option maxRecDepth 20000 in
theorem ggX1_rounds_X1_roundCount : GoodIn wsX1_rounds wsX1_roundCount := goodIn_r _ [6, 7, 8, 9, 5, 10, 11, 12, 13, 14, 15, 16, 17, 18, 19, 20, 21, 22, 23, 24, 25, 26, 27, 28, 29, 30, 31, 32, 33, 34, 35, 36, 37, 38, 39, 40, 41, 42, 43, 44, 45, 46, 47, 48, 49, 50, 51, 52, 53, 54, 55, 56, 57, 58] (by decide +kernel) (by decide +kernel)
set_option maxRecDepth 20000 in
theorem gX1_rounds_X1_roundCount : GoodIn wsX1_rounds (wsV RX1 106 RX1 yX1_roundCount wsX1_roundCount) := goodIn_app (goodIn_of _ (by decide +kernel)) ggX1_rounds_X1_roundCount
theorem dX1_rounds_0 : decode cX1_rounds 0 = .ok (.aload_n 0, 1) := by decide +kernel
theorem dX1_rounds_1 : decode cX1_rounds 1 = .ok (.iconst 0, 1) := by decide +kernel
theorem dX1_rounds_2 : decode cX1_rounds 2 = .ok (.putfield 45, 3) := by decide +kernel
theorem dX1_rounds_5 : decode cX1_rounds 5 = .ok (.aload_n 0, 1) := by decide +kernel
theorem dX1_rounds_6 : decode cX1_rounds 6 = .ok (.invokevirtual 106, 3) := by decide +kernel
theorem dX1_rounds_9 : decode cX1_rounds 9 = .ok (.ireturn, 1) := by decide +kernel
set_option maxRecDepth 20000 in
theorem ggX1_since_X1_isAtom : GoodIn wsX1_since wsX1_isAtom := goodIn_r _ [5, 6, 7, 4, 8] (by decide +kernel) (by decide +kernel)
set_option maxRecDepth 20000 in
theorem gX1_since_X1_isAtom : GoodIn wsX1_since (va_wsS RX1 59 yX1_isAtom wsX1_isAtom) := goodIn_app (goodIn_of _ (by decide +kernel)) ggX1_since_X1_isAtom
set_option maxRecDepth 20000 in
theorem ggX1_since_X1_no : GoodIn wsX1_since wsX1_no := goodIn_r _ [12, 1, 56, 57, 58, 59, 60, 61, 62, 63, 64, 65, 66, 67, 68] (by decide +kernel) (by decide +kernel)
set_option maxRecDepth 20000 in
theorem gX1_since_X1_no : GoodIn wsX1_since (wsV RX1 55 RX1 yX1_no wsX1_no) := goodIn_app (goodIn_of _ (by decide +kernel)) ggX1_since_X1_no
set_option maxRecDepth 20000 in
theorem ggX1_since_X1_heardSet : GoodIn wsX1_since wsX1_heardSet := goodIn_r _ [16, 17, 18, 19, 4, 20, 21, 22, 23, 56, 57, 58, 59, 60, 61, 62, 63, 64, 65, 66, 67, 68] (by decide +kernel) (by decide +kernel)
set_option maxRecDepth 20000 in
theorem gX1_since_X1_heardSet : GoodIn wsX1_since (wsV RX1 80 RX1 yX1_heardSet wsX1_heardSet) := goodIn_app (goodIn_of _ (by decide +kernel)) ggX1_since_X1_heardSet
set_option maxRecDepth 20000 in
theorem ggX1_since_X1_begin : GoodIn wsX1_since wsX1_begin := goodIn_r _ [27, 28, 29, 30, 4, 31, 32, 33, 34, 35, 56, 57, 58, 59, 60, 61, 62, 63, 64, 65, 66, 67, 68] (by decide +kernel) (by decide +kernel)
set_option maxRecDepth 20000 in
theorem gX1_since_X1_begin : GoodIn wsX1_since (wsV RX1 91 RX1 yX1_begin wsX1_begin) := goodIn_app (goodIn_of _ (by decide +kernel)) ggX1_since_X1_begin
set_option maxRecDepth 20000 in
theorem ggX1_since_X1_roundCount : GoodIn wsX1_since wsX1_roundCount := goodIn_r _ [39, 13, 14, 15, 4, 16, 17, 18, 19, 20, 21, 22, 23, 24, 25, 26, 27, 28, 29, 30, 31, 32, 33, 34, 35, 40, 41, 42, 43, 44, 45, 46, 47, 48, 49, 50, 51, 52, 6, 7, 8, 56, 57, 58, 59, 60, 61, 62, 63, 64, 65, 66, 67, 68] (by decide +kernel) (by decide +kernel)
set_option maxRecDepth 20000 in
theorem gX1_since_X1_roundCount : GoodIn wsX1_since (wsV RX1 106 RX1 yX1_roundCount wsX1_roundCount) := goodIn_app (goodIn_of _ (by decide +kernel)) ggX1_since_X1_roundCount
set_option maxRecDepth 20000 in
theorem ggX1_since_X1_valueIn : GoodIn wsX1_since wsX1_valueIn := goodIn_r _ [55] (by decide +kernel) (by decide +kernel)
set_option maxRecDepth 20000 in
theorem gX1_since_X1_valueIn : GoodIn wsX1_since (va_wsS RX1 103 yX1_valueIn wsX1_valueIn) := goodIn_app (goodIn_of _ (by decide +kernel)) ggX1_since_X1_valueIn
set_option maxRecDepth 20000 in
theorem ggX1_since_X1_goOn : GoodIn wsX1_since wsX1_goOn := goodIn_r _ [43, 44, 28, 29, 30, 4, 31, 32, 33, 34, 35, 45, 46, 47, 48, 49, 50, 51, 52, 6, 7, 8, 56, 57, 58, 59, 60, 61, 62, 63, 64, 65, 66, 67, 68] (by decide +kernel) (by decide +kernel)
set_option maxRecDepth 20000 in
theorem gX1_since_X1_goOn : GoodIn wsX1_since (wsV RX1 94 RX1 yX1_goOn wsX1_goOn) := goodIn_app (goodIn_of _ (by decide +kernel)) ggX1_since_X1_goOn
theorem dX1_since_0 : decode cX1_since 0 = .ok (.aload_n 0, 1) := by decide +kernel
theorem dX1_since_1 : decode cX1_since 1 = .ok (.iconst 0, 1) := by decide +kernel
theorem dX1_since_2 : decode cX1_since 2 = .ok (.putfield 45, 3) := by decide +kernel
theorem dX1_since_5 : decode cX1_since 5 = .ok (.iload_n 1, 1) := by decide +kernel
theorem dX1_since_6 : decode cX1_since 6 = .ok (.invokestatic 59, 3) := by decide +kernel
theorem dX1_since_9 : decode cX1_since 9 = .ok (.ifCond .ne 9, 3) := by decide +kernel
theorem dX1_since_12 : decode cX1_since 12 = .ok (.aload_n 0, 1) := by decide +kernel
theorem dX1_since_13 : decode cX1_since 13 = .ok (.iconst 1, 1) := by decide +kernel
theorem dX1_since_14 : decode cX1_since 14 = .ok (.invokevirtual 55, 3) := by decide +kernel
theorem dX1_since_17 : decode cX1_since 17 = .ok (.ireturn, 1) := by decide +kernel
theorem dX1_since_18 : decode cX1_since 18 = .ok (.aload_n 0, 1) := by decide +kernel
theorem dX1_since_19 : decode cX1_since 19 = .ok (.invokevirtual 80, 3) := by decide +kernel
theorem dX1_since_22 : decode cX1_since 22 = .ok (.istore_n 3, 1) := by decide +kernel
theorem dX1_since_23 : decode cX1_since 23 = .ok (.aload_n 0, 1) := by decide +kernel
theorem dX1_since_24 : decode cX1_since 24 = .ok (.iload_n 3, 1) := by decide +kernel
theorem dX1_since_25 : decode cX1_since 25 = .ok (.invokevirtual 91, 3) := by decide +kernel
theorem dX1_since_28 : decode cX1_since 28 = .ok (.istore 4, 2) := by decide +kernel
theorem dX1_since_30 : decode cX1_since 30 = .ok (.aload_n 0, 1) := by decide +kernel
theorem dX1_since_31 : decode cX1_since 31 = .ok (.invokevirtual 106, 3) := by decide +kernel
theorem dX1_since_34 : decode cX1_since 34 = .ok (.istore 5, 2) := by decide +kernel
theorem dX1_since_36 : decode cX1_since 36 = .ok (.iconst 0, 1) := by decide +kernel
theorem dX1_since_37 : decode cX1_since 37 = .ok (.istore 6, 2) := by decide +kernel
theorem dX1_since_39 : decode cX1_since 39 = .ok (.iload 6, 2) := by decide +kernel
theorem dX1_since_41 : decode cX1_since 41 = .ok (.iload 5, 2) := by decide +kernel
theorem dX1_since_43 : decode cX1_since 43 = .ok (.if_icmp .gt 40, 3) := by decide +kernel
theorem dX1_since_46 : decode cX1_since 46 = .ok (.iload 4, 2) := by decide +kernel
theorem dX1_since_48 : decode cX1_since 48 = .ok (.iload_n 1, 1) := by decide +kernel
theorem dX1_since_49 : decode cX1_since 49 = .ok (.invokestatic 103, 3) := by decide +kernel
theorem dX1_since_52 : decode cX1_since 52 = .ok (.iload_n 2, 1) := by decide +kernel
theorem dX1_since_53 : decode cX1_since 53 = .ok (.ifCond .eq 7, 3) := by decide +kernel
theorem dX1_since_56 : decode cX1_since 56 = .ok (.iconst 1, 1) := by decide +kernel
theorem dX1_since_57 : decode cX1_since 57 = .ok (.goto 4, 3) := by decide +kernel
theorem dX1_since_60 : decode cX1_since 60 = .ok (.iconst 2, 1) := by decide +kernel
theorem dX1_since_61 : decode cX1_since 61 = .ok (.iand, 1) := by decide +kernel
theorem dX1_since_62 : decode cX1_since 62 = .ok (.ifCond .eq 6, 3) := by decide +kernel
theorem dX1_since_65 : decode cX1_since 65 = .ok (.iload 6, 2) := by decide +kernel
theorem dX1_since_67 : decode cX1_since 67 = .ok (.ireturn, 1) := by decide +kernel
theorem dX1_since_68 : decode cX1_since 68 = .ok (.aload_n 0, 1) := by decide +kernel
theorem dX1_since_69 : decode cX1_since 69 = .ok (.iload_n 3, 1) := by decide +kernel
theorem dX1_since_70 : decode cX1_since 70 = .ok (.iload 4, 2) := by decide +kernel
theorem dX1_since_72 : decode cX1_since 72 = .ok (.invokevirtual 94, 3) := by decide +kernel
theorem dX1_since_75 : decode cX1_since 75 = .ok (.istore 4, 2) := by decide +kernel
theorem dX1_since_77 : decode cX1_since 77 = .ok (.iinc 6 1, 3) := by decide +kernel
theorem dX1_since_80 : decode cX1_since 80 = .ok (.goto (-41), 3) := by decide +kernel
theorem dX1_since_83 : decode cX1_since 83 = .ok (.iconst (-1), 1) := by decide +kernel
theorem dX1_since_84 : decode cX1_since 84 = .ok (.ireturn, 1) := by decide +kernel
set_option maxRecDepth 20000 in
theorem ggX1_value_X1_isFormula : GoodIn wsX1_value wsX1_isFormula := goodIn_r _ [6, 7, 8, 9, 5, 10, 59, 60, 61, 62, 63, 64, 65, 66, 67, 68, 69, 70, 71] (by decide +kernel) (by decide +kernel)
set_option maxRecDepth 20000 in
theorem gX1_value_X1_isFormula : GoodIn wsX1_value (wsV RX1 67 RX1 yX1_isFormula wsX1_isFormula) := goodIn_app (goodIn_of _ (by decide +kernel)) ggX1_value_X1_isFormula
set_option maxRecDepth 20000 in
theorem ggX1_value_X1_present : GoodIn wsX1_value wsX1_present := goodIn_r _ [14, 15, 16, 17, 5, 18, 19, 20, 21, 22, 23, 24, 25, 26, 27, 28, 29, 30, 31, 32, 33, 34, 35, 36, 37, 38, 39, 40, 41, 42, 43, 44, 45, 46, 47, 48, 49, 50, 51, 52, 53, 54, 8, 9, 10, 59, 60, 61, 62, 63, 64, 65, 66, 67, 68, 69, 70, 71] (by decide +kernel) (by decide +kernel)
set_option maxRecDepth 20000 in
theorem gX1_value_X1_present : GoodIn wsX1_value (wsV RX1 100 RX1 yX1_present wsX1_present) := goodIn_app (goodIn_of _ (by decide +kernel)) ggX1_value_X1_present
set_option maxRecDepth 20000 in
theorem ggX1_value_X1_worth : GoodIn wsX1_value wsX1_worth := goodIn_r _ [50, 51, 52, 53, 54, 8, 9, 5, 10, 59, 60, 61, 62, 63, 64, 65, 66, 67, 68, 69, 70, 71] (by decide +kernel) (by decide +kernel)
set_option maxRecDepth 20000 in
theorem gX1_value_X1_worth : GoodIn wsX1_value (wsV RX1 88 RX1 yX1_worth wsX1_worth) := goodIn_app (goodIn_of _ (by decide +kernel)) ggX1_value_X1_worth
set_option maxRecDepth 20000 in
theorem ggX1_value_X1_no : GoodIn wsX1_value wsX1_no := goodIn_r _ [58, 1, 59, 60, 61, 62, 63, 64, 65, 66, 67, 68, 69, 70, 71] (by decide +kernel) (by decide +kernel)
set_option maxRecDepth 20000 in
theorem gX1_value_X1_no : GoodIn wsX1_value (wsV RX1 55 RX1 yX1_no wsX1_no) := goodIn_app (goodIn_of _ (by decide +kernel)) ggX1_value_X1_no
theorem dX1_value_0 : decode cX1_value 0 = .ok (.aload_n 0, 1) := by decide +kernel
theorem dX1_value_1 : decode cX1_value 1 = .ok (.iconst 0, 1) := by decide +kernel
theorem dX1_value_2 : decode cX1_value 2 = .ok (.putfield 45, 3) := by decide +kernel
theorem dX1_value_5 : decode cX1_value 5 = .ok (.aload_n 0, 1) := by decide +kernel
theorem dX1_value_6 : decode cX1_value 6 = .ok (.iload_n 1, 1) := by decide +kernel
theorem dX1_value_7 : decode cX1_value 7 = .ok (.invokevirtual 67, 3) := by decide +kernel
theorem dX1_value_10 : decode cX1_value 10 = .ok (.ifCond .eq 15, 3) := by decide +kernel
theorem dX1_value_13 : decode cX1_value 13 = .ok (.aload_n 0, 1) := by decide +kernel
theorem dX1_value_14 : decode cX1_value 14 = .ok (.iload_n 1, 1) := by decide +kernel
theorem dX1_value_15 : decode cX1_value 15 = .ok (.aload_n 0, 1) := by decide +kernel
theorem dX1_value_16 : decode cX1_value 16 = .ok (.invokevirtual 100, 3) := by decide +kernel
theorem dX1_value_19 : decode cX1_value 19 = .ok (.invokevirtual 88, 3) := by decide +kernel
theorem dX1_value_22 : decode cX1_value 22 = .ok (.goto 8, 3) := by decide +kernel
theorem dX1_value_25 : decode cX1_value 25 = .ok (.aload_n 0, 1) := by decide +kernel
theorem dX1_value_26 : decode cX1_value 26 = .ok (.iconst 1, 1) := by decide +kernel
theorem dX1_value_27 : decode cX1_value 27 = .ok (.invokevirtual 55, 3) := by decide +kernel
theorem dX1_value_30 : decode cX1_value 30 = .ok (.ireturn, 1) := by decide +kernel
set_option maxRecDepth 20000 in
theorem ggX1_having_X1_valueIn : GoodIn wsX1_having wsX1_valueIn := goodIn_r _ [4] (by decide +kernel) (by decide +kernel)
set_option maxRecDepth 20000 in
theorem gX1_having_X1_valueIn : GoodIn wsX1_having (va_wsS RX1 103 yX1_valueIn wsX1_valueIn) := goodIn_app (goodIn_of _ (by decide +kernel)) ggX1_having_X1_valueIn
theorem dX1_having_0 : decode cX1_having 0 = .ok (.iconst 0, 1) := by decide +kernel
theorem dX1_having_1 : decode cX1_having 1 = .ok (.istore_n 2, 1) := by decide +kernel
theorem dX1_having_2 : decode cX1_having 2 = .ok (.iconst 0, 1) := by decide +kernel
theorem dX1_having_3 : decode cX1_having 3 = .ok (.istore_n 3, 1) := by decide +kernel
theorem dX1_having_4 : decode cX1_having 4 = .ok (.iload_n 3, 1) := by decide +kernel
theorem dX1_having_5 : decode cX1_having 5 = .ok (.bipush 6, 2) := by decide +kernel
theorem dX1_having_7 : decode cX1_having 7 = .ok (.if_icmp .ge 24, 3) := by decide +kernel
theorem dX1_having_10 : decode cX1_having 10 = .ok (.iload_n 0, 1) := by decide +kernel
theorem dX1_having_11 : decode cX1_having 11 = .ok (.iload_n 3, 1) := by decide +kernel
theorem dX1_having_12 : decode cX1_having 12 = .ok (.invokestatic 103, 3) := by decide +kernel
theorem dX1_having_15 : decode cX1_having 15 = .ok (.iload_n 1, 1) := by decide +kernel
theorem dX1_having_16 : decode cX1_having 16 = .ok (.if_icmp .ne 9, 3) := by decide +kernel
theorem dX1_having_19 : decode cX1_having 19 = .ok (.iload_n 2, 1) := by decide +kernel
theorem dX1_having_20 : decode cX1_having 20 = .ok (.iconst 1, 1) := by decide +kernel
theorem dX1_having_21 : decode cX1_having 21 = .ok (.iload_n 3, 1) := by decide +kernel
theorem dX1_having_22 : decode cX1_having 22 = .ok (.ishl, 1) := by decide +kernel
theorem dX1_having_23 : decode cX1_having 23 = .ok (.ior, 1) := by decide +kernel
theorem dX1_having_24 : decode cX1_having 24 = .ok (.istore_n 2, 1) := by decide +kernel
theorem dX1_having_25 : decode cX1_having 25 = .ok (.iinc 3 1, 3) := by decide +kernel
theorem dX1_having_28 : decode cX1_having 28 = .ok (.goto (-24), 3) := by decide +kernel
theorem dX1_having_31 : decode cX1_having 31 = .ok (.iload_n 2, 1) := by decide +kernel
theorem dX1_having_32 : decode cX1_having 32 = .ok (.ireturn, 1) := by decide +kernel
set_option maxRecDepth 20000 in
theorem ggX1_conflicts_X1_present : GoodIn wsX1_conflicts wsX1_present := goodIn_r _ [6, 7, 8, 9, 5, 10, 11, 12, 13, 14, 15, 16, 17, 18, 19, 20, 21, 22, 23, 24, 25, 26, 27, 28, 29, 30, 31, 32, 33, 34, 35, 36, 37, 38, 39, 40, 41, 42, 43, 44, 45, 46, 47, 48, 49, 56, 57, 58, 59, 60, 61, 62, 63, 64, 65, 66, 67, 68] (by decide +kernel) (by decide +kernel)
set_option maxRecDepth 20000 in
theorem gX1_conflicts_X1_present : GoodIn wsX1_conflicts (wsV RX1 100 RX1 yX1_present wsX1_present) := goodIn_app (goodIn_of _ (by decide +kernel)) ggX1_conflicts_X1_present
set_option maxRecDepth 20000 in
theorem ggX1_conflicts_X1_having : GoodIn wsX1_conflicts wsX1_having := goodIn_r _ [52, 53, 54, 5, 55] (by decide +kernel) (by decide +kernel)
set_option maxRecDepth 20000 in
theorem gX1_conflicts_X1_having : GoodIn wsX1_conflicts (va_wsS RX1 109 yX1_having wsX1_having) := goodIn_app (goodIn_of _ (by decide +kernel)) ggX1_conflicts_X1_having
theorem dX1_conflicts_0 : decode cX1_conflicts 0 = .ok (.aload_n 0, 1) := by decide +kernel
theorem dX1_conflicts_1 : decode cX1_conflicts 1 = .ok (.iconst 0, 1) := by decide +kernel
theorem dX1_conflicts_2 : decode cX1_conflicts 2 = .ok (.putfield 45, 3) := by decide +kernel
theorem dX1_conflicts_5 : decode cX1_conflicts 5 = .ok (.aload_n 0, 1) := by decide +kernel
theorem dX1_conflicts_6 : decode cX1_conflicts 6 = .ok (.invokevirtual 100, 3) := by decide +kernel
theorem dX1_conflicts_9 : decode cX1_conflicts 9 = .ok (.iconst 3, 1) := by decide +kernel
theorem dX1_conflicts_10 : decode cX1_conflicts 10 = .ok (.invokestatic 109, 3) := by decide +kernel
theorem dX1_conflicts_13 : decode cX1_conflicts 13 = .ok (.ireturn, 1) := by decide +kernel
set_option maxRecDepth 20000 in
theorem ggX1_gaps_X1_present : GoodIn wsX1_gaps wsX1_present := goodIn_r _ [6, 7, 8, 9, 5, 10, 11, 12, 13, 14, 15, 16, 17, 18, 19, 20, 21, 22, 23, 24, 25, 26, 27, 28, 29, 30, 31, 32, 33, 34, 35, 36, 37, 38, 39, 40, 41, 42, 43, 44, 45, 46, 47, 48, 49, 56, 57, 58, 59, 60, 61, 62, 63, 64, 65, 66, 67, 68] (by decide +kernel) (by decide +kernel)
set_option maxRecDepth 20000 in
theorem gX1_gaps_X1_present : GoodIn wsX1_gaps (wsV RX1 100 RX1 yX1_present wsX1_present) := goodIn_app (goodIn_of _ (by decide +kernel)) ggX1_gaps_X1_present
set_option maxRecDepth 20000 in
theorem ggX1_gaps_X1_having : GoodIn wsX1_gaps wsX1_having := goodIn_r _ [52, 53, 54, 5, 55] (by decide +kernel) (by decide +kernel)
set_option maxRecDepth 20000 in
theorem gX1_gaps_X1_having : GoodIn wsX1_gaps (va_wsS RX1 109 yX1_having wsX1_having) := goodIn_app (goodIn_of _ (by decide +kernel)) ggX1_gaps_X1_having
theorem dX1_gaps_0 : decode cX1_gaps 0 = .ok (.aload_n 0, 1) := by decide +kernel
theorem dX1_gaps_1 : decode cX1_gaps 1 = .ok (.iconst 0, 1) := by decide +kernel
theorem dX1_gaps_2 : decode cX1_gaps 2 = .ok (.putfield 45, 3) := by decide +kernel
theorem dX1_gaps_5 : decode cX1_gaps 5 = .ok (.aload_n 0, 1) := by decide +kernel
theorem dX1_gaps_6 : decode cX1_gaps 6 = .ok (.invokevirtual 100, 3) := by decide +kernel
theorem dX1_gaps_9 : decode cX1_gaps 9 = .ok (.iconst 0, 1) := by decide +kernel
theorem dX1_gaps_10 : decode cX1_gaps 10 = .ok (.invokestatic 109, 3) := by decide +kernel
theorem dX1_gaps_13 : decode cX1_gaps 13 = .ok (.ireturn, 1) := by decide +kernel
set_option maxRecDepth 20000 in
theorem ggX1_discord_X1_present : GoodIn wsX1_discord wsX1_present := goodIn_r _ [6, 7, 8, 9, 5, 10, 11, 12, 13, 14, 15, 16, 17, 18, 19, 20, 21, 22, 23, 24, 25, 26, 27, 28, 29, 30, 31, 32, 33, 34, 35, 36, 37, 38, 39, 40, 41, 42, 43, 44, 45, 46, 47, 48, 49, 63, 64, 65, 66, 67, 68, 69, 70, 71, 72, 73, 74, 75] (by decide +kernel) (by decide +kernel)
set_option maxRecDepth 20000 in
theorem gX1_discord_X1_present : GoodIn wsX1_discord (wsV RX1 100 RX1 yX1_present wsX1_present) := goodIn_app (goodIn_of _ (by decide +kernel)) ggX1_discord_X1_present
set_option maxRecDepth 20000 in
theorem ggX1_discord_X1_having : GoodIn wsX1_discord wsX1_having := goodIn_r _ [52, 53, 54, 5, 55] (by decide +kernel) (by decide +kernel)
set_option maxRecDepth 20000 in
theorem gX1_discord_X1_having : GoodIn wsX1_discord (va_wsS RX1 109 yX1_having wsX1_having) := goodIn_app (goodIn_of _ (by decide +kernel)) ggX1_discord_X1_having
set_option maxRecDepth 20000 in
theorem ggX1_discord_J6_bitCount_0f7a4 : GoodIn wsX1_discord wsJ6_bitCount_0f7a4 := goodIn_r _ [59, 60, 61, 62] (by decide +kernel) (by decide +kernel)
set_option maxRecDepth 20000 in
theorem gX1_discord_J6_bitCount_0f7a4 : GoodIn wsX1_discord (va_wsS RX1 112 yJ6_bitCount_0f7a4 wsJ6_bitCount_0f7a4) := goodIn_app (goodIn_of _ (by decide +kernel)) ggX1_discord_J6_bitCount_0f7a4
theorem dX1_discord_0 : decode cX1_discord 0 = .ok (.aload_n 0, 1) := by decide +kernel
theorem dX1_discord_1 : decode cX1_discord 1 = .ok (.iconst 0, 1) := by decide +kernel
theorem dX1_discord_2 : decode cX1_discord 2 = .ok (.putfield 45, 3) := by decide +kernel
theorem dX1_discord_5 : decode cX1_discord 5 = .ok (.aload_n 0, 1) := by decide +kernel
theorem dX1_discord_6 : decode cX1_discord 6 = .ok (.invokevirtual 100, 3) := by decide +kernel
theorem dX1_discord_9 : decode cX1_discord 9 = .ok (.istore_n 1, 1) := by decide +kernel
theorem dX1_discord_10 : decode cX1_discord 10 = .ok (.bipush 6, 2) := by decide +kernel
theorem dX1_discord_12 : decode cX1_discord 12 = .ok (.iload_n 1, 1) := by decide +kernel
theorem dX1_discord_13 : decode cX1_discord 13 = .ok (.iconst 0, 1) := by decide +kernel
theorem dX1_discord_14 : decode cX1_discord 14 = .ok (.invokestatic 109, 3) := by decide +kernel
theorem dX1_discord_17 : decode cX1_discord 17 = .ok (.invokestatic 112, 3) := by decide +kernel
theorem dX1_discord_20 : decode cX1_discord 20 = .ok (.isub, 1) := by decide +kernel
theorem dX1_discord_21 : decode cX1_discord 21 = .ok (.istore_n 2, 1) := by decide +kernel
theorem dX1_discord_22 : decode cX1_discord 22 = .ok (.iload_n 2, 1) := by decide +kernel
theorem dX1_discord_23 : decode cX1_discord 23 = .ok (.ifCond .ne 7, 3) := by decide +kernel
theorem dX1_discord_26 : decode cX1_discord 26 = .ok (.dconst 0, 1) := by decide +kernel
theorem dX1_discord_27 : decode cX1_discord 27 = .ok (.goto 15, 3) := by decide +kernel
theorem dX1_discord_30 : decode cX1_discord 30 = .ok (.iload_n 1, 1) := by decide +kernel
theorem dX1_discord_31 : decode cX1_discord 31 = .ok (.iconst 3, 1) := by decide +kernel
theorem dX1_discord_32 : decode cX1_discord 32 = .ok (.invokestatic 109, 3) := by decide +kernel
theorem dX1_discord_35 : decode cX1_discord 35 = .ok (.invokestatic 112, 3) := by decide +kernel
theorem dX1_discord_38 : decode cX1_discord 38 = .ok (.i2d, 1) := by decide +kernel
theorem dX1_discord_39 : decode cX1_discord 39 = .ok (.iload_n 2, 1) := by decide +kernel
theorem dX1_discord_40 : decode cX1_discord 40 = .ok (.i2d, 1) := by decide +kernel
theorem dX1_discord_41 : decode cX1_discord 41 = .ok (.ddiv, 1) := by decide +kernel
theorem dX1_discord_42 : decode cX1_discord 42 = .ok (.dreturn, 1) := by decide +kernel
set_option maxRecDepth 20000 in
theorem ggX1_heard_X1_heardSet : GoodIn wsX1_heard wsX1_heardSet := goodIn_r _ [6, 7, 8, 9, 5, 10, 11, 12, 13, 14, 15, 16, 17, 18, 19, 20, 21, 22, 23, 24, 25, 26] (by decide +kernel) (by decide +kernel)
set_option maxRecDepth 20000 in
theorem gX1_heard_X1_heardSet : GoodIn wsX1_heard (wsV RX1 80 RX1 yX1_heardSet wsX1_heardSet) := goodIn_app (goodIn_of _ (by decide +kernel)) ggX1_heard_X1_heardSet
theorem dX1_heard_0 : decode cX1_heard 0 = .ok (.aload_n 0, 1) := by decide +kernel
theorem dX1_heard_1 : decode cX1_heard 1 = .ok (.iconst 0, 1) := by decide +kernel
theorem dX1_heard_2 : decode cX1_heard 2 = .ok (.putfield 45, 3) := by decide +kernel
theorem dX1_heard_5 : decode cX1_heard 5 = .ok (.aload_n 0, 1) := by decide +kernel
theorem dX1_heard_6 : decode cX1_heard 6 = .ok (.invokevirtual 80, 3) := by decide +kernel
theorem dX1_heard_9 : decode cX1_heard 9 = .ok (.ireturn, 1) := by decide +kernel
set_option maxRecDepth 20000 in
theorem ggX1_sayers_X1_isAtom : GoodIn wsX1_sayers wsX1_isAtom := goodIn_r _ [6, 7, 8, 5, 9] (by decide +kernel) (by decide +kernel)
set_option maxRecDepth 20000 in
theorem gX1_sayers_X1_isAtom : GoodIn wsX1_sayers (va_wsS RX1 59 yX1_isAtom wsX1_isAtom) := goodIn_app (goodIn_of _ (by decide +kernel)) ggX1_sayers_X1_isAtom
set_option maxRecDepth 20000 in
theorem ggX1_sayers_X1_no : GoodIn wsX1_sayers wsX1_no := goodIn_r _ [13, 1, 21, 22, 23, 24, 25, 26, 27, 28, 29, 30, 31, 32, 33] (by decide +kernel) (by decide +kernel)
set_option maxRecDepth 20000 in
theorem gX1_sayers_X1_no : GoodIn wsX1_sayers (wsV RX1 55 RX1 yX1_no wsX1_no) := goodIn_app (goodIn_of _ (by decide +kernel)) ggX1_sayers_X1_no
set_option maxRecDepth 20000 in
theorem ggX1_sayers_X1_isHeard : GoodIn wsX1_sayers wsX1_isHeard := goodIn_r _ [17, 18, 19, 20, 21, 22, 23, 24, 25, 26, 27, 28, 29, 30, 31, 32, 33] (by decide +kernel) (by decide +kernel)
set_option maxRecDepth 20000 in
theorem gX1_sayers_X1_isHeard : GoodIn wsX1_sayers (wsV RX1 73 RX1 yX1_isHeard wsX1_isHeard) := goodIn_app (goodIn_of _ (by decide +kernel)) ggX1_sayers_X1_isHeard
theorem dX1_sayers_0 : decode cX1_sayers 0 = .ok (.aload_n 0, 1) := by decide +kernel
theorem dX1_sayers_1 : decode cX1_sayers 1 = .ok (.iconst 0, 1) := by decide +kernel
theorem dX1_sayers_2 : decode cX1_sayers 2 = .ok (.putfield 45, 3) := by decide +kernel
theorem dX1_sayers_5 : decode cX1_sayers 5 = .ok (.iload_n 1, 1) := by decide +kernel
theorem dX1_sayers_6 : decode cX1_sayers 6 = .ok (.invokestatic 59, 3) := by decide +kernel
theorem dX1_sayers_9 : decode cX1_sayers 9 = .ok (.ifCond .ne 9, 3) := by decide +kernel
theorem dX1_sayers_12 : decode cX1_sayers 12 = .ok (.aload_n 0, 1) := by decide +kernel
theorem dX1_sayers_13 : decode cX1_sayers 13 = .ok (.iconst 1, 1) := by decide +kernel
theorem dX1_sayers_14 : decode cX1_sayers 14 = .ok (.invokevirtual 55, 3) := by decide +kernel
theorem dX1_sayers_17 : decode cX1_sayers 17 = .ok (.ireturn, 1) := by decide +kernel
theorem dX1_sayers_18 : decode cX1_sayers 18 = .ok (.iconst 0, 1) := by decide +kernel
theorem dX1_sayers_19 : decode cX1_sayers 19 = .ok (.istore_n 3, 1) := by decide +kernel
theorem dX1_sayers_20 : decode cX1_sayers 20 = .ok (.iconst 0, 1) := by decide +kernel
theorem dX1_sayers_21 : decode cX1_sayers 21 = .ok (.istore 4, 2) := by decide +kernel
theorem dX1_sayers_23 : decode cX1_sayers 23 = .ok (.iload 4, 2) := by decide +kernel
theorem dX1_sayers_25 : decode cX1_sayers 25 = .ok (.bipush 6, 2) := by decide +kernel
theorem dX1_sayers_27 : decode cX1_sayers 27 = .ok (.if_icmp .ge 50, 3) := by decide +kernel
theorem dX1_sayers_30 : decode cX1_sayers 30 = .ok (.aload_n 0, 1) := by decide +kernel
theorem dX1_sayers_31 : decode cX1_sayers 31 = .ok (.iload 4, 2) := by decide +kernel
theorem dX1_sayers_33 : decode cX1_sayers 33 = .ok (.invokevirtual 73, 3) := by decide +kernel
theorem dX1_sayers_36 : decode cX1_sayers 36 = .ok (.ifCond .eq 35, 3) := by decide +kernel
theorem dX1_sayers_39 : decode cX1_sayers 39 = .ok (.aload_n 0, 1) := by decide +kernel
theorem dX1_sayers_40 : decode cX1_sayers 40 = .ok (.getfield 29, 3) := by decide +kernel
theorem dX1_sayers_43 : decode cX1_sayers 43 = .ok (.bipush 6, 2) := by decide +kernel
theorem dX1_sayers_45 : decode cX1_sayers 45 = .ok (.iload 4, 2) := by decide +kernel
theorem dX1_sayers_47 : decode cX1_sayers 47 = .ok (.imul, 1) := by decide +kernel
theorem dX1_sayers_48 : decode cX1_sayers 48 = .ok (.iload_n 1, 1) := by decide +kernel
theorem dX1_sayers_49 : decode cX1_sayers 49 = .ok (.iadd, 1) := by decide +kernel
theorem dX1_sayers_50 : decode cX1_sayers 50 = .ok (.iaload, 1) := by decide +kernel
theorem dX1_sayers_51 : decode cX1_sayers 51 = .ok (.iload_n 2, 1) := by decide +kernel
theorem dX1_sayers_52 : decode cX1_sayers 52 = .ok (.ifCond .eq 7, 3) := by decide +kernel
theorem dX1_sayers_55 : decode cX1_sayers 55 = .ok (.iconst 1, 1) := by decide +kernel
theorem dX1_sayers_56 : decode cX1_sayers 56 = .ok (.goto 4, 3) := by decide +kernel
theorem dX1_sayers_59 : decode cX1_sayers 59 = .ok (.iconst 2, 1) := by decide +kernel
theorem dX1_sayers_60 : decode cX1_sayers 60 = .ok (.iand, 1) := by decide +kernel
theorem dX1_sayers_61 : decode cX1_sayers 61 = .ok (.ifCond .eq 10, 3) := by decide +kernel
theorem dX1_sayers_64 : decode cX1_sayers 64 = .ok (.iload_n 3, 1) := by decide +kernel
theorem dX1_sayers_65 : decode cX1_sayers 65 = .ok (.iconst 1, 1) := by decide +kernel
theorem dX1_sayers_66 : decode cX1_sayers 66 = .ok (.iload 4, 2) := by decide +kernel
theorem dX1_sayers_68 : decode cX1_sayers 68 = .ok (.ishl, 1) := by decide +kernel
theorem dX1_sayers_69 : decode cX1_sayers 69 = .ok (.ior, 1) := by decide +kernel
theorem dX1_sayers_70 : decode cX1_sayers 70 = .ok (.istore_n 3, 1) := by decide +kernel
theorem dX1_sayers_71 : decode cX1_sayers 71 = .ok (.iinc 4 1, 3) := by decide +kernel
theorem dX1_sayers_74 : decode cX1_sayers 74 = .ok (.goto (-51), 3) := by decide +kernel
theorem dX1_sayers_77 : decode cX1_sayers 77 = .ok (.iload_n 3, 1) := by decide +kernel
theorem dX1_sayers_78 : decode cX1_sayers 78 = .ok (.ireturn, 1) := by decide +kernel
set_option maxRecDepth 20000 in
theorem ggX1_matters_X1_isSource : GoodIn wsX1_matters wsX1_isSource := goodIn_r _ [5, 6, 7, 4, 8] (by decide +kernel) (by decide +kernel)
set_option maxRecDepth 20000 in
theorem gX1_matters_X1_isSource : GoodIn wsX1_matters (va_wsS RX1 70 yX1_isSource wsX1_isSource) := goodIn_app (goodIn_of _ (by decide +kernel)) ggX1_matters_X1_isSource
set_option maxRecDepth 20000 in
theorem ggX1_matters_X1_isAtom : GoodIn wsX1_matters wsX1_isAtom := goodIn_r _ [11, 6, 7, 4, 8] (by decide +kernel) (by decide +kernel)
set_option maxRecDepth 20000 in
theorem gX1_matters_X1_isAtom : GoodIn wsX1_matters (va_wsS RX1 59 yX1_isAtom wsX1_isAtom) := goodIn_app (goodIn_of _ (by decide +kernel)) ggX1_matters_X1_isAtom
set_option maxRecDepth 20000 in
theorem ggX1_matters_X1_isHeard : GoodIn wsX1_matters wsX1_isHeard := goodIn_r _ [15, 16, 17, 18, 59, 60, 61, 62, 63, 64, 65, 66, 67, 68, 69, 70, 71] (by decide +kernel) (by decide +kernel)
set_option maxRecDepth 20000 in
theorem gX1_matters_X1_isHeard : GoodIn wsX1_matters (wsV RX1 73 RX1 yX1_isHeard wsX1_isHeard) := goodIn_app (goodIn_of _ (by decide +kernel)) ggX1_matters_X1_isHeard
set_option maxRecDepth 20000 in
theorem ggX1_matters_X1_present : GoodIn wsX1_matters wsX1_present := goodIn_r _ [22, 23, 24, 25, 4, 26, 12, 13, 14, 15, 16, 17, 18, 27, 28, 29, 30, 31, 32, 33, 34, 35, 36, 37, 38, 39, 40, 41, 42, 43, 44, 45, 46, 47, 48, 49, 50, 51, 52, 53, 54, 55, 6, 7, 8, 59, 60, 61, 62, 63, 64, 65, 66, 67, 68, 69, 70, 71] (by decide +kernel) (by decide +kernel)
set_option maxRecDepth 20000 in
theorem gX1_matters_X1_present : GoodIn wsX1_matters (wsV RX1 100 RX1 yX1_present wsX1_present) := goodIn_app (goodIn_of _ (by decide +kernel)) ggX1_matters_X1_present
set_option maxRecDepth 20000 in
theorem ggX1_matters_X1_valueIn : GoodIn wsX1_matters wsX1_valueIn := goodIn_r _ [58] (by decide +kernel) (by decide +kernel)
set_option maxRecDepth 20000 in
theorem gX1_matters_X1_valueIn : GoodIn wsX1_matters (va_wsS RX1 103 yX1_valueIn wsX1_valueIn) := goodIn_app (goodIn_of _ (by decide +kernel)) ggX1_matters_X1_valueIn
set_option maxRecDepth 20000 in
theorem ggX1_matters_X1_heardSet : GoodIn wsX1_matters wsX1_heardSet := goodIn_r _ [26, 12, 13, 14, 4, 15, 16, 17, 18, 59, 60, 61, 62, 63, 64, 65, 66, 67, 68, 69, 70, 71] (by decide +kernel) (by decide +kernel)
set_option maxRecDepth 20000 in
theorem gX1_matters_X1_heardSet : GoodIn wsX1_matters (wsV RX1 80 RX1 yX1_heardSet wsX1_heardSet) := goodIn_app (goodIn_of _ (by decide +kernel)) ggX1_matters_X1_heardSet
set_option maxRecDepth 20000 in
theorem ggX1_matters_X1_settle : GoodIn wsX1_matters wsX1_settle := goodIn_r _ [30, 31, 32, 33, 4, 34, 35, 36, 37, 38, 39, 40, 41, 42, 43, 44, 45, 46, 47, 48, 49, 50, 51, 52, 53, 54, 55, 6, 7, 8, 59, 60, 61, 62, 63, 64, 65, 66, 67, 68, 69, 70, 71] (by decide +kernel) (by decide +kernel)
set_option maxRecDepth 20000 in
theorem gX1_matters_X1_settle : GoodIn wsX1_matters (wsV RX1 97 RX1 yX1_settle wsX1_settle) := goodIn_app (goodIn_of _ (by decide +kernel)) ggX1_matters_X1_settle
theorem dX1_matters_0 : decode cX1_matters 0 = .ok (.aload_n 0, 1) := by decide +kernel
theorem dX1_matters_1 : decode cX1_matters 1 = .ok (.iload_n 1, 1) := by decide +kernel
theorem dX1_matters_2 : decode cX1_matters 2 = .ok (.invokestatic 70, 3) := by decide +kernel
theorem dX1_matters_5 : decode cX1_matters 5 = .ok (.ifCond .eq 14, 3) := by decide +kernel
theorem dX1_matters_8 : decode cX1_matters 8 = .ok (.iload_n 2, 1) := by decide +kernel
theorem dX1_matters_9 : decode cX1_matters 9 = .ok (.invokestatic 59, 3) := by decide +kernel
theorem dX1_matters_12 : decode cX1_matters 12 = .ok (.ifCond .eq 7, 3) := by decide +kernel
theorem dX1_matters_15 : decode cX1_matters 15 = .ok (.iconst 0, 1) := by decide +kernel
theorem dX1_matters_16 : decode cX1_matters 16 = .ok (.goto 4, 3) := by decide +kernel
theorem dX1_matters_19 : decode cX1_matters 19 = .ok (.iconst 1, 1) := by decide +kernel
theorem dX1_matters_20 : decode cX1_matters 20 = .ok (.putfield 45, 3) := by decide +kernel
theorem dX1_matters_23 : decode cX1_matters 23 = .ok (.aload_n 0, 1) := by decide +kernel
theorem dX1_matters_24 : decode cX1_matters 24 = .ok (.getfield 45, 3) := by decide +kernel
theorem dX1_matters_27 : decode cX1_matters 27 = .ok (.ifCond .ne 11, 3) := by decide +kernel
theorem dX1_matters_30 : decode cX1_matters 30 = .ok (.aload_n 0, 1) := by decide +kernel
theorem dX1_matters_31 : decode cX1_matters 31 = .ok (.iload_n 1, 1) := by decide +kernel
theorem dX1_matters_32 : decode cX1_matters 32 = .ok (.invokevirtual 73, 3) := by decide +kernel
theorem dX1_matters_35 : decode cX1_matters 35 = .ok (.ifCond .ne 5, 3) := by decide +kernel
theorem dX1_matters_38 : decode cX1_matters 38 = .ok (.iconst 0, 1) := by decide +kernel
theorem dX1_matters_39 : decode cX1_matters 39 = .ok (.ireturn, 1) := by decide +kernel
theorem dX1_matters_40 : decode cX1_matters 40 = .ok (.aload_n 0, 1) := by decide +kernel
theorem dX1_matters_41 : decode cX1_matters 41 = .ok (.invokevirtual 100, 3) := by decide +kernel
theorem dX1_matters_44 : decode cX1_matters 44 = .ok (.iload_n 2, 1) := by decide +kernel
theorem dX1_matters_45 : decode cX1_matters 45 = .ok (.invokestatic 103, 3) := by decide +kernel
theorem dX1_matters_48 : decode cX1_matters 48 = .ok (.aload_n 0, 1) := by decide +kernel
theorem dX1_matters_49 : decode cX1_matters 49 = .ok (.aload_n 0, 1) := by decide +kernel
theorem dX1_matters_50 : decode cX1_matters 50 = .ok (.invokevirtual 80, 3) := by decide +kernel
theorem dX1_matters_53 : decode cX1_matters 53 = .ok (.iconst 1, 1) := by decide +kernel
theorem dX1_matters_54 : decode cX1_matters 54 = .ok (.iload_n 1, 1) := by decide +kernel
theorem dX1_matters_55 : decode cX1_matters 55 = .ok (.ishl, 1) := by decide +kernel
theorem dX1_matters_56 : decode cX1_matters 56 = .ok (.iconst (-1), 1) := by decide +kernel
theorem dX1_matters_57 : decode cX1_matters 57 = .ok (.ixor, 1) := by decide +kernel
theorem dX1_matters_58 : decode cX1_matters 58 = .ok (.iand, 1) := by decide +kernel
theorem dX1_matters_59 : decode cX1_matters 59 = .ok (.invokevirtual 97, 3) := by decide +kernel
theorem dX1_matters_62 : decode cX1_matters 62 = .ok (.iload_n 2, 1) := by decide +kernel
theorem dX1_matters_63 : decode cX1_matters 63 = .ok (.invokestatic 103, 3) := by decide +kernel
theorem dX1_matters_66 : decode cX1_matters 66 = .ok (.if_icmp .eq 7, 3) := by decide +kernel
theorem dX1_matters_69 : decode cX1_matters 69 = .ok (.iconst 1, 1) := by decide +kernel
theorem dX1_matters_70 : decode cX1_matters 70 = .ok (.goto 4, 3) := by decide +kernel
theorem dX1_matters_73 : decode cX1_matters 73 = .ok (.iconst 0, 1) := by decide +kernel
theorem dX1_matters_74 : decode cX1_matters 74 = .ok (.ireturn, 1) := by decide +kernel
set_option maxRecDepth 20000 in
theorem ggX1_silence_X1_heardSet : GoodIn wsX1_silence wsX1_heardSet := goodIn_r _ [7, 8, 9, 10, 6, 11, 12, 2, 13, 52, 53, 54, 55, 56, 57, 58, 59, 60, 61, 62, 63, 64] (by decide +kernel) (by decide +kernel)
set_option maxRecDepth 20000 in
theorem gX1_silence_X1_heardSet : GoodIn wsX1_silence (wsV RX1 80 RX1 yX1_heardSet wsX1_heardSet) := goodIn_app (goodIn_of _ (by decide +kernel)) ggX1_silence_X1_heardSet
set_option maxRecDepth 20000 in
theorem ggX1_silence_X1_has : GoodIn wsX1_silence wsX1_has := goodIn_r _ [16] (by decide +kernel) (by decide +kernel)
set_option maxRecDepth 20000 in
theorem gX1_silence_X1_has : GoodIn wsX1_silence (va_wsS RX1 76 yX1_has wsX1_has) := goodIn_app (goodIn_of _ (by decide +kernel)) ggX1_silence_X1_has
set_option maxRecDepth 20000 in
theorem ggX1_silence_X1_settle : GoodIn wsX1_silence wsX1_settle := goodIn_r _ [20, 21, 22, 23, 6, 24, 25, 26, 27, 28, 29, 14, 15, 16, 30, 31, 32, 33, 34, 35, 36, 37, 38, 39, 40, 41, 42, 43, 44, 45, 52, 53, 54, 55, 56, 57, 58, 59, 60, 61, 62, 63, 64] (by decide +kernel) (by decide +kernel)
set_option maxRecDepth 20000 in
theorem gX1_silence_X1_settle : GoodIn wsX1_silence (wsV RX1 97 RX1 yX1_settle wsX1_settle) := goodIn_app (goodIn_of _ (by decide +kernel)) ggX1_silence_X1_settle
set_option maxRecDepth 20000 in
theorem ggX1_silence_X1_having : GoodIn wsX1_silence wsX1_having := goodIn_r _ [48, 49, 50, 6, 51] (by decide +kernel) (by decide +kernel)
set_option maxRecDepth 20000 in
theorem gX1_silence_X1_having : GoodIn wsX1_silence (va_wsS RX1 109 yX1_having wsX1_having) := goodIn_app (goodIn_of _ (by decide +kernel)) ggX1_silence_X1_having
theorem dX1_silence_0 : decode cX1_silence 0 = .ok (.aload_n 0, 1) := by decide +kernel
theorem dX1_silence_1 : decode cX1_silence 1 = .ok (.iconst 0, 1) := by decide +kernel
theorem dX1_silence_2 : decode cX1_silence 2 = .ok (.putfield 45, 3) := by decide +kernel
theorem dX1_silence_5 : decode cX1_silence 5 = .ok (.aload_n 0, 1) := by decide +kernel
theorem dX1_silence_6 : decode cX1_silence 6 = .ok (.invokevirtual 80, 3) := by decide +kernel
theorem dX1_silence_9 : decode cX1_silence 9 = .ok (.istore_n 1, 1) := by decide +kernel
theorem dX1_silence_10 : decode cX1_silence 10 = .ok (.iconst (-1), 1) := by decide +kernel
theorem dX1_silence_11 : decode cX1_silence 11 = .ok (.istore_n 2, 1) := by decide +kernel
theorem dX1_silence_12 : decode cX1_silence 12 = .ok (.iconst 0, 1) := by decide +kernel
theorem dX1_silence_13 : decode cX1_silence 13 = .ok (.istore_n 3, 1) := by decide +kernel
theorem dX1_silence_14 : decode cX1_silence 14 = .ok (.iconst 0, 1) := by decide +kernel
theorem dX1_silence_15 : decode cX1_silence 15 = .ok (.istore 4, 2) := by decide +kernel
theorem dX1_silence_17 : decode cX1_silence 17 = .ok (.iload 4, 2) := by decide +kernel
theorem dX1_silence_19 : decode cX1_silence 19 = .ok (.bipush 64, 2) := by decide +kernel
theorem dX1_silence_21 : decode cX1_silence 21 = .ok (.if_icmp .ge 103, 3) := by decide +kernel
theorem dX1_silence_24 : decode cX1_silence 24 = .ok (.iload 4, 2) := by decide +kernel
theorem dX1_silence_26 : decode cX1_silence 26 = .ok (.iload_n 1, 1) := by decide +kernel
theorem dX1_silence_27 : decode cX1_silence 27 = .ok (.iconst (-1), 1) := by decide +kernel
theorem dX1_silence_28 : decode cX1_silence 28 = .ok (.ixor, 1) := by decide +kernel
theorem dX1_silence_29 : decode cX1_silence 29 = .ok (.iand, 1) := by decide +kernel
theorem dX1_silence_30 : decode cX1_silence 30 = .ok (.ifCond .eq 6, 3) := by decide +kernel
theorem dX1_silence_33 : decode cX1_silence 33 = .ok (.goto 85, 3) := by decide +kernel
theorem dX1_silence_36 : decode cX1_silence 36 = .ok (.iconst 0, 1) := by decide +kernel
theorem dX1_silence_37 : decode cX1_silence 37 = .ok (.istore 5, 2) := by decide +kernel
theorem dX1_silence_39 : decode cX1_silence 39 = .ok (.iconst 0, 1) := by decide +kernel
theorem dX1_silence_40 : decode cX1_silence 40 = .ok (.istore 6, 2) := by decide +kernel
theorem dX1_silence_42 : decode cX1_silence 42 = .ok (.iload 6, 2) := by decide +kernel
theorem dX1_silence_44 : decode cX1_silence 44 = .ok (.bipush 6, 2) := by decide +kernel
theorem dX1_silence_46 : decode cX1_silence 46 = .ok (.if_icmp .ge 35, 3) := by decide +kernel
theorem dX1_silence_49 : decode cX1_silence 49 = .ok (.iload 5, 2) := by decide +kernel
theorem dX1_silence_51 : decode cX1_silence 51 = .ok (.iload 4, 2) := by decide +kernel
theorem dX1_silence_53 : decode cX1_silence 53 = .ok (.iload 6, 2) := by decide +kernel
theorem dX1_silence_55 : decode cX1_silence 55 = .ok (.invokestatic 76, 3) := by decide +kernel
theorem dX1_silence_58 : decode cX1_silence 58 = .ok (.ifCond .eq 13, 3) := by decide +kernel
theorem dX1_silence_61 : decode cX1_silence 61 = .ok (.aload_n 0, 1) := by decide +kernel
theorem dX1_silence_62 : decode cX1_silence 62 = .ok (.getfield 23, 3) := by decide +kernel
theorem dX1_silence_65 : decode cX1_silence 65 = .ok (.iload 6, 2) := by decide +kernel
theorem dX1_silence_67 : decode cX1_silence 67 = .ok (.iaload, 1) := by decide +kernel
theorem dX1_silence_68 : decode cX1_silence 68 = .ok (.goto 4, 3) := by decide +kernel
theorem dX1_silence_71 : decode cX1_silence 71 = .ok (.iconst 0, 1) := by decide +kernel
theorem dX1_silence_72 : decode cX1_silence 72 = .ok (.iadd, 1) := by decide +kernel
theorem dX1_silence_73 : decode cX1_silence 73 = .ok (.istore 5, 2) := by decide +kernel
theorem dX1_silence_75 : decode cX1_silence 75 = .ok (.iinc 6 1, 3) := by decide +kernel
theorem dX1_silence_78 : decode cX1_silence 78 = .ok (.goto (-36), 3) := by decide +kernel
theorem dX1_silence_81 : decode cX1_silence 81 = .ok (.iload_n 2, 1) := by decide +kernel
theorem dX1_silence_82 : decode cX1_silence 82 = .ok (.iconst (-1), 1) := by decide +kernel
theorem dX1_silence_83 : decode cX1_silence 83 = .ok (.if_icmp .eq 9, 3) := by decide +kernel
theorem dX1_silence_86 : decode cX1_silence 86 = .ok (.iload 5, 2) := by decide +kernel
theorem dX1_silence_88 : decode cX1_silence 88 = .ok (.iload_n 3, 1) := by decide +kernel
theorem dX1_silence_89 : decode cX1_silence 89 = .ok (.if_icmp .ge 29, 3) := by decide +kernel
theorem dX1_silence_92 : decode cX1_silence 92 = .ok (.aload_n 0, 1) := by decide +kernel
theorem dX1_silence_93 : decode cX1_silence 93 = .ok (.iload_n 1, 1) := by decide +kernel
theorem dX1_silence_94 : decode cX1_silence 94 = .ok (.iload 4, 2) := by decide +kernel
theorem dX1_silence_96 : decode cX1_silence 96 = .ok (.iconst (-1), 1) := by decide +kernel
theorem dX1_silence_97 : decode cX1_silence 97 = .ok (.ixor, 1) := by decide +kernel
theorem dX1_silence_98 : decode cX1_silence 98 = .ok (.iand, 1) := by decide +kernel
theorem dX1_silence_99 : decode cX1_silence 99 = .ok (.invokevirtual 97, 3) := by decide +kernel
theorem dX1_silence_102 : decode cX1_silence 102 = .ok (.iconst 3, 1) := by decide +kernel
theorem dX1_silence_103 : decode cX1_silence 103 = .ok (.invokestatic 109, 3) := by decide +kernel
theorem dX1_silence_106 : decode cX1_silence 106 = .ok (.ifCond .eq 6, 3) := by decide +kernel
theorem dX1_silence_109 : decode cX1_silence 109 = .ok (.goto 9, 3) := by decide +kernel
theorem dX1_silence_112 : decode cX1_silence 112 = .ok (.iload 4, 2) := by decide +kernel
theorem dX1_silence_114 : decode cX1_silence 114 = .ok (.istore_n 2, 1) := by decide +kernel
theorem dX1_silence_115 : decode cX1_silence 115 = .ok (.iload 5, 2) := by decide +kernel
theorem dX1_silence_117 : decode cX1_silence 117 = .ok (.istore_n 3, 1) := by decide +kernel
theorem dX1_silence_118 : decode cX1_silence 118 = .ok (.iinc 4 1, 3) := by decide +kernel
theorem dX1_silence_121 : decode cX1_silence 121 = .ok (.goto (-104), 3) := by decide +kernel
theorem dX1_silence_124 : decode cX1_silence 124 = .ok (.iload_n 2, 1) := by decide +kernel
theorem dX1_silence_125 : decode cX1_silence 125 = .ok (.ireturn, 1) := by decide +kernel
set_option maxRecDepth 20000 in
theorem ggX1_contradicted_X1_isSource : GoodIn wsX1_contradicted wsX1_isSource := goodIn_r _ [6, 7, 8, 5, 9] (by decide +kernel) (by decide +kernel)
set_option maxRecDepth 20000 in
theorem gX1_contradicted_X1_isSource : GoodIn wsX1_contradicted (va_wsS RX1 70 yX1_isSource wsX1_isSource) := goodIn_app (goodIn_of _ (by decide +kernel)) ggX1_contradicted_X1_isSource
set_option maxRecDepth 20000 in
theorem ggX1_contradicted_X1_no : GoodIn wsX1_contradicted wsX1_no := goodIn_r _ [13, 1, 60, 61, 62, 63, 64, 65, 66, 67, 68, 69, 70, 71, 72] (by decide +kernel) (by decide +kernel)
set_option maxRecDepth 20000 in
theorem gX1_contradicted_X1_no : GoodIn wsX1_contradicted (wsV RX1 55 RX1 yX1_no wsX1_no) := goodIn_app (goodIn_of _ (by decide +kernel)) ggX1_contradicted_X1_no
set_option maxRecDepth 20000 in
theorem ggX1_contradicted_X1_present : GoodIn wsX1_contradicted wsX1_present := goodIn_r _ [17, 18, 19, 20, 5, 21, 22, 23, 24, 25, 26, 27, 28, 29, 30, 31, 32, 33, 34, 35, 36, 37, 38, 39, 40, 2, 41, 42, 43, 44, 45, 46, 47, 48, 49, 50, 51, 52, 53, 54, 55, 56, 7, 8, 9, 60, 61, 62, 63, 64, 65, 66, 67, 68, 69, 70, 71, 72] (by decide +kernel) (by decide +kernel)
set_option maxRecDepth 20000 in
theorem gX1_contradicted_X1_present : GoodIn wsX1_contradicted (wsV RX1 100 RX1 yX1_present wsX1_present) := goodIn_app (goodIn_of _ (by decide +kernel)) ggX1_contradicted_X1_present
set_option maxRecDepth 20000 in
theorem ggX1_contradicted_X1_valueIn : GoodIn wsX1_contradicted wsX1_valueIn := goodIn_r _ [59] (by decide +kernel) (by decide +kernel)
set_option maxRecDepth 20000 in
theorem gX1_contradicted_X1_valueIn : GoodIn wsX1_contradicted (va_wsS RX1 103 yX1_valueIn wsX1_valueIn) := goodIn_app (goodIn_of _ (by decide +kernel)) ggX1_contradicted_X1_valueIn
theorem dX1_contradicted_0 : decode cX1_contradicted 0 = .ok (.aload_n 0, 1) := by decide +kernel
theorem dX1_contradicted_1 : decode cX1_contradicted 1 = .ok (.iconst 0, 1) := by decide +kernel
theorem dX1_contradicted_2 : decode cX1_contradicted 2 = .ok (.putfield 45, 3) := by decide +kernel
theorem dX1_contradicted_5 : decode cX1_contradicted 5 = .ok (.iload_n 1, 1) := by decide +kernel
theorem dX1_contradicted_6 : decode cX1_contradicted 6 = .ok (.invokestatic 70, 3) := by decide +kernel
theorem dX1_contradicted_9 : decode cX1_contradicted 9 = .ok (.ifCond .ne 9, 3) := by decide +kernel
theorem dX1_contradicted_12 : decode cX1_contradicted 12 = .ok (.aload_n 0, 1) := by decide +kernel
theorem dX1_contradicted_13 : decode cX1_contradicted 13 = .ok (.iconst 1, 1) := by decide +kernel
theorem dX1_contradicted_14 : decode cX1_contradicted 14 = .ok (.invokevirtual 55, 3) := by decide +kernel
theorem dX1_contradicted_17 : decode cX1_contradicted 17 = .ok (.ireturn, 1) := by decide +kernel
theorem dX1_contradicted_18 : decode cX1_contradicted 18 = .ok (.aload_n 0, 1) := by decide +kernel
theorem dX1_contradicted_19 : decode cX1_contradicted 19 = .ok (.invokevirtual 100, 3) := by decide +kernel
theorem dX1_contradicted_22 : decode cX1_contradicted 22 = .ok (.istore_n 2, 1) := by decide +kernel
theorem dX1_contradicted_23 : decode cX1_contradicted 23 = .ok (.iconst 0, 1) := by decide +kernel
theorem dX1_contradicted_24 : decode cX1_contradicted 24 = .ok (.istore_n 3, 1) := by decide +kernel
theorem dX1_contradicted_25 : decode cX1_contradicted 25 = .ok (.iconst 0, 1) := by decide +kernel
theorem dX1_contradicted_26 : decode cX1_contradicted 26 = .ok (.istore 4, 2) := by decide +kernel
theorem dX1_contradicted_28 : decode cX1_contradicted 28 = .ok (.iload 4, 2) := by decide +kernel
theorem dX1_contradicted_30 : decode cX1_contradicted 30 = .ok (.bipush 6, 2) := by decide +kernel
theorem dX1_contradicted_32 : decode cX1_contradicted 32 = .ok (.if_icmp .ge 67, 3) := by decide +kernel
theorem dX1_contradicted_35 : decode cX1_contradicted 35 = .ok (.aload_n 0, 1) := by decide +kernel
theorem dX1_contradicted_36 : decode cX1_contradicted 36 = .ok (.getfield 29, 3) := by decide +kernel
theorem dX1_contradicted_39 : decode cX1_contradicted 39 = .ok (.bipush 6, 2) := by decide +kernel
theorem dX1_contradicted_41 : decode cX1_contradicted 41 = .ok (.iload_n 1, 1) := by decide +kernel
theorem dX1_contradicted_42 : decode cX1_contradicted 42 = .ok (.imul, 1) := by decide +kernel
theorem dX1_contradicted_43 : decode cX1_contradicted 43 = .ok (.iload 4, 2) := by decide +kernel
theorem dX1_contradicted_45 : decode cX1_contradicted 45 = .ok (.iadd, 1) := by decide +kernel
theorem dX1_contradicted_46 : decode cX1_contradicted 46 = .ok (.iaload, 1) := by decide +kernel
theorem dX1_contradicted_47 : decode cX1_contradicted 47 = .ok (.istore 5, 2) := by decide +kernel
theorem dX1_contradicted_49 : decode cX1_contradicted 49 = .ok (.iload_n 2, 1) := by decide +kernel
theorem dX1_contradicted_50 : decode cX1_contradicted 50 = .ok (.iload 4, 2) := by decide +kernel
theorem dX1_contradicted_52 : decode cX1_contradicted 52 = .ok (.invokestatic 103, 3) := by decide +kernel
theorem dX1_contradicted_55 : decode cX1_contradicted 55 = .ok (.istore 6, 2) := by decide +kernel
theorem dX1_contradicted_57 : decode cX1_contradicted 57 = .ok (.iload_n 3, 1) := by decide +kernel
theorem dX1_contradicted_58 : decode cX1_contradicted 58 = .ok (.iload 5, 2) := by decide +kernel
theorem dX1_contradicted_60 : decode cX1_contradicted 60 = .ok (.iconst 1, 1) := by decide +kernel
theorem dX1_contradicted_61 : decode cX1_contradicted 61 = .ok (.iand, 1) := by decide +kernel
theorem dX1_contradicted_62 : decode cX1_contradicted 62 = .ok (.ifCond .eq 10, 3) := by decide +kernel
theorem dX1_contradicted_65 : decode cX1_contradicted 65 = .ok (.iload 6, 2) := by decide +kernel
theorem dX1_contradicted_67 : decode cX1_contradicted 67 = .ok (.iconst 2, 1) := by decide +kernel
theorem dX1_contradicted_68 : decode cX1_contradicted 68 = .ok (.iand, 1) := by decide +kernel
theorem dX1_contradicted_69 : decode cX1_contradicted 69 = .ok (.ifCond .ne 17, 3) := by decide +kernel
theorem dX1_contradicted_72 : decode cX1_contradicted 72 = .ok (.iload 5, 2) := by decide +kernel
theorem dX1_contradicted_74 : decode cX1_contradicted 74 = .ok (.iconst 2, 1) := by decide +kernel
theorem dX1_contradicted_75 : decode cX1_contradicted 75 = .ok (.iand, 1) := by decide +kernel
theorem dX1_contradicted_76 : decode cX1_contradicted 76 = .ok (.ifCond .eq 14, 3) := by decide +kernel
theorem dX1_contradicted_79 : decode cX1_contradicted 79 = .ok (.iload 6, 2) := by decide +kernel
theorem dX1_contradicted_81 : decode cX1_contradicted 81 = .ok (.iconst 1, 1) := by decide +kernel
theorem dX1_contradicted_82 : decode cX1_contradicted 82 = .ok (.iand, 1) := by decide +kernel
theorem dX1_contradicted_83 : decode cX1_contradicted 83 = .ok (.ifCond .eq 7, 3) := by decide +kernel
theorem dX1_contradicted_86 : decode cX1_contradicted 86 = .ok (.iconst 1, 1) := by decide +kernel
theorem dX1_contradicted_87 : decode cX1_contradicted 87 = .ok (.goto 4, 3) := by decide +kernel
theorem dX1_contradicted_90 : decode cX1_contradicted 90 = .ok (.iconst 0, 1) := by decide +kernel
theorem dX1_contradicted_91 : decode cX1_contradicted 91 = .ok (.iadd, 1) := by decide +kernel
theorem dX1_contradicted_92 : decode cX1_contradicted 92 = .ok (.istore_n 3, 1) := by decide +kernel
theorem dX1_contradicted_93 : decode cX1_contradicted 93 = .ok (.iinc 4 1, 3) := by decide +kernel
theorem dX1_contradicted_96 : decode cX1_contradicted 96 = .ok (.goto (-68), 3) := by decide +kernel
theorem dX1_contradicted_99 : decode cX1_contradicted 99 = .ok (.iload_n 3, 1) := by decide +kernel
theorem dX1_contradicted_100 : decode cX1_contradicted 100 = .ok (.ireturn, 1) := by decide +kernel
set_option maxRecDepth 20000 in
theorem ggX1_setLogic_X1_isIn : GoodIn wsX1_setLogic wsX1_isIn := goodIn_r _ [6] (by decide +kernel) (by decide +kernel)
set_option maxRecDepth 20000 in
theorem gX1_setLogic_X1_isIn : GoodIn wsX1_setLogic (va_wsS RX1 51 yX1_isIn wsX1_isIn) := goodIn_app (goodIn_of _ (by decide +kernel)) ggX1_setLogic_X1_isIn
set_option maxRecDepth 20000 in
theorem ggX1_setLogic_X1_no : GoodIn wsX1_setLogic wsX1_no := goodIn_r _ [10, 1, 11, 12, 13, 14, 15, 16, 17, 18, 19, 20, 21, 22, 23] (by decide +kernel) (by decide +kernel)
set_option maxRecDepth 20000 in
theorem gX1_setLogic_X1_no : GoodIn wsX1_setLogic (wsV RX1 55 RX1 yX1_no wsX1_no) := goodIn_app (goodIn_of _ (by decide +kernel)) ggX1_setLogic_X1_no
theorem dX1_setLogic_0 : decode cX1_setLogic 0 = .ok (.aload_n 0, 1) := by decide +kernel
theorem dX1_setLogic_1 : decode cX1_setLogic 1 = .ok (.iconst 0, 1) := by decide +kernel
theorem dX1_setLogic_2 : decode cX1_setLogic 2 = .ok (.putfield 45, 3) := by decide +kernel
theorem dX1_setLogic_5 : decode cX1_setLogic 5 = .ok (.iload_n 1, 1) := by decide +kernel
theorem dX1_setLogic_6 : decode cX1_setLogic 6 = .ok (.iconst 1, 1) := by decide +kernel
theorem dX1_setLogic_7 : decode cX1_setLogic 7 = .ok (.bipush 15, 2) := by decide +kernel
theorem dX1_setLogic_9 : decode cX1_setLogic 9 = .ok (.invokestatic 51, 3) := by decide +kernel
theorem dX1_setLogic_12 : decode cX1_setLogic 12 = .ok (.ifCond .ne 9, 3) := by decide +kernel
theorem dX1_setLogic_15 : decode cX1_setLogic 15 = .ok (.aload_n 0, 1) := by decide +kernel
theorem dX1_setLogic_16 : decode cX1_setLogic 16 = .ok (.iconst 1, 1) := by decide +kernel
theorem dX1_setLogic_17 : decode cX1_setLogic 17 = .ok (.invokevirtual 55, 3) := by decide +kernel
theorem dX1_setLogic_20 : decode cX1_setLogic 20 = .ok (.ireturn, 1) := by decide +kernel
theorem dX1_setLogic_21 : decode cX1_setLogic 21 = .ok (.aload_n 0, 1) := by decide +kernel
theorem dX1_setLogic_22 : decode cX1_setLogic 22 = .ok (.getfield 39, 3) := by decide +kernel
theorem dX1_setLogic_25 : decode cX1_setLogic 25 = .ok (.istore_n 2, 1) := by decide +kernel
theorem dX1_setLogic_26 : decode cX1_setLogic 26 = .ok (.aload_n 0, 1) := by decide +kernel
theorem dX1_setLogic_27 : decode cX1_setLogic 27 = .ok (.iload_n 1, 1) := by decide +kernel
theorem dX1_setLogic_28 : decode cX1_setLogic 28 = .ok (.putfield 39, 3) := by decide +kernel
theorem dX1_setLogic_31 : decode cX1_setLogic 31 = .ok (.iload_n 2, 1) := by decide +kernel
theorem dX1_setLogic_32 : decode cX1_setLogic 32 = .ok (.ireturn, 1) := by decide +kernel
set_option maxRecDepth 20000 in
theorem ggX1_counts_X1_valueIn : GoodIn wsX1_counts wsX1_valueIn := goodIn_r _ [5] (by decide +kernel) (by decide +kernel)
set_option maxRecDepth 20000 in
theorem gX1_counts_X1_valueIn : GoodIn wsX1_counts (va_wsS RX1 103 yX1_valueIn wsX1_valueIn) := goodIn_app (goodIn_of _ (by decide +kernel)) ggX1_counts_X1_valueIn
set_option maxRecDepth 20000 in
theorem ggX1_counts_X1_has : GoodIn wsX1_counts wsX1_has := goodIn_r _ [8] (by decide +kernel) (by decide +kernel)
set_option maxRecDepth 20000 in
theorem gX1_counts_X1_has : GoodIn wsX1_counts (va_wsS RX1 76 yX1_has wsX1_has) := goodIn_app (goodIn_of _ (by decide +kernel)) ggX1_counts_X1_has
theorem dX1_counts_0 : decode cX1_counts 0 = .ok (.iconst 1, 1) := by decide +kernel
theorem dX1_counts_1 : decode cX1_counts 1 = .ok (.istore_n 2, 1) := by decide +kernel
theorem dX1_counts_2 : decode cX1_counts 2 = .ok (.iconst 0, 1) := by decide +kernel
theorem dX1_counts_3 : decode cX1_counts 3 = .ok (.istore_n 3, 1) := by decide +kernel
theorem dX1_counts_4 : decode cX1_counts 4 = .ok (.iload_n 3, 1) := by decide +kernel
theorem dX1_counts_5 : decode cX1_counts 5 = .ok (.bipush 6, 2) := by decide +kernel
theorem dX1_counts_7 : decode cX1_counts 7 = .ok (.if_icmp .ge 34, 3) := by decide +kernel
theorem dX1_counts_10 : decode cX1_counts 10 = .ok (.iload_n 2, 1) := by decide +kernel
theorem dX1_counts_11 : decode cX1_counts 11 = .ok (.ifCond .eq 22, 3) := by decide +kernel
theorem dX1_counts_14 : decode cX1_counts 14 = .ok (.aload_n 0, 1) := by decide +kernel
theorem dX1_counts_15 : decode cX1_counts 15 = .ok (.getfield 39, 3) := by decide +kernel
theorem dX1_counts_18 : decode cX1_counts 18 = .ok (.iload_n 1, 1) := by decide +kernel
theorem dX1_counts_19 : decode cX1_counts 19 = .ok (.iload_n 3, 1) := by decide +kernel
theorem dX1_counts_20 : decode cX1_counts 20 = .ok (.invokestatic 103, 3) := by decide +kernel
theorem dX1_counts_23 : decode cX1_counts 23 = .ok (.invokestatic 76, 3) := by decide +kernel
theorem dX1_counts_26 : decode cX1_counts 26 = .ok (.ifCond .eq 7, 3) := by decide +kernel
theorem dX1_counts_29 : decode cX1_counts 29 = .ok (.iconst 1, 1) := by decide +kernel
theorem dX1_counts_30 : decode cX1_counts 30 = .ok (.goto 4, 3) := by decide +kernel
theorem dX1_counts_33 : decode cX1_counts 33 = .ok (.iconst 0, 1) := by decide +kernel
theorem dX1_counts_34 : decode cX1_counts 34 = .ok (.istore_n 2, 1) := by decide +kernel
theorem dX1_counts_35 : decode cX1_counts 35 = .ok (.iinc 3 1, 3) := by decide +kernel
theorem dX1_counts_38 : decode cX1_counts 38 = .ok (.goto (-34), 3) := by decide +kernel
theorem dX1_counts_41 : decode cX1_counts 41 = .ok (.iload_n 2, 1) := by decide +kernel
theorem dX1_counts_42 : decode cX1_counts 42 = .ok (.ireturn, 1) := by decide +kernel
set_option maxRecDepth 20000 in
theorem ggX1_isYes_X1_worth : GoodIn wsX1_isYes wsX1_worth := goodIn_r _ [5, 6, 7, 8, 9, 10, 11, 4, 12, 13, 14, 15, 16, 17, 18, 19, 20, 21, 22, 23, 24, 25] (by decide +kernel) (by decide +kernel)
set_option maxRecDepth 20000 in
theorem gX1_isYes_X1_worth : GoodIn wsX1_isYes (wsV RX1 88 RX1 yX1_worth wsX1_worth) := goodIn_app (goodIn_of _ (by decide +kernel)) ggX1_isYes_X1_worth
theorem dX1_isYes_0 : decode cX1_isYes 0 = .ok (.aload_n 0, 1) := by decide +kernel
theorem dX1_isYes_1 : decode cX1_isYes 1 = .ok (.iload_n 1, 1) := by decide +kernel
theorem dX1_isYes_2 : decode cX1_isYes 2 = .ok (.iload_n 2, 1) := by decide +kernel
theorem dX1_isYes_3 : decode cX1_isYes 3 = .ok (.invokevirtual 88, 3) := by decide +kernel
theorem dX1_isYes_6 : decode cX1_isYes 6 = .ok (.iconst 1, 1) := by decide +kernel
theorem dX1_isYes_7 : decode cX1_isYes 7 = .ok (.iand, 1) := by decide +kernel
theorem dX1_isYes_8 : decode cX1_isYes 8 = .ok (.ifCond .eq 7, 3) := by decide +kernel
theorem dX1_isYes_11 : decode cX1_isYes 11 = .ok (.iconst 1, 1) := by decide +kernel
theorem dX1_isYes_12 : decode cX1_isYes 12 = .ok (.goto 4, 3) := by decide +kernel
theorem dX1_isYes_15 : decode cX1_isYes 15 = .ok (.iconst 0, 1) := by decide +kernel
theorem dX1_isYes_16 : decode cX1_isYes 16 = .ok (.ireturn, 1) := by decide +kernel
set_option maxRecDepth 20000 in
theorem ggX1_models_X1_isFormula : GoodIn wsX1_models wsX1_isFormula := goodIn_r _ [6, 7, 8, 9, 5, 10, 38, 39, 40, 41, 42, 43, 44, 45, 46, 47, 48, 49, 50] (by decide +kernel) (by decide +kernel)
set_option maxRecDepth 20000 in
theorem gX1_models_X1_isFormula : GoodIn wsX1_models (wsV RX1 67 RX1 yX1_isFormula wsX1_isFormula) := goodIn_app (goodIn_of _ (by decide +kernel)) ggX1_models_X1_isFormula
set_option maxRecDepth 20000 in
theorem ggX1_models_X1_no : GoodIn wsX1_models wsX1_no := goodIn_r _ [14, 1, 38, 39, 40, 41, 42, 43, 44, 45, 46, 47, 48, 49, 50] (by decide +kernel) (by decide +kernel)
set_option maxRecDepth 20000 in
theorem gX1_models_X1_no : GoodIn wsX1_models (wsV RX1 55 RX1 yX1_no wsX1_no) := goodIn_app (goodIn_of _ (by decide +kernel)) ggX1_models_X1_no
set_option maxRecDepth 20000 in
theorem ggX1_models_X1_counts : GoodIn wsX1_models wsX1_counts := goodIn_r _ [18, 19, 20, 21, 5, 22, 23, 24, 25, 38, 39, 40, 41, 42, 43, 44, 45, 46, 47, 48, 49, 50] (by decide +kernel) (by decide +kernel)
set_option maxRecDepth 20000 in
theorem gX1_models_X1_counts : GoodIn wsX1_models (wsV RX1 117 RX1 yX1_counts wsX1_counts) := goodIn_app (goodIn_of _ (by decide +kernel)) ggX1_models_X1_counts
set_option maxRecDepth 20000 in
theorem ggX1_models_X1_isYes : GoodIn wsX1_models wsX1_isYes := goodIn_r _ [29, 30, 31, 32, 5, 33, 34, 35, 36, 37, 8, 9, 10, 38, 39, 40, 41, 42, 43, 44, 45, 46, 47, 48, 49, 50] (by decide +kernel) (by decide +kernel)
set_option maxRecDepth 20000 in
theorem gX1_models_X1_isYes : GoodIn wsX1_models (wsV RX1 120 RX1 yX1_isYes wsX1_isYes) := goodIn_app (goodIn_of _ (by decide +kernel)) ggX1_models_X1_isYes
theorem dX1_models_0 : decode cX1_models 0 = .ok (.aload_n 0, 1) := by decide +kernel
theorem dX1_models_1 : decode cX1_models 1 = .ok (.iconst 0, 1) := by decide +kernel
theorem dX1_models_2 : decode cX1_models 2 = .ok (.putfield 45, 3) := by decide +kernel
theorem dX1_models_5 : decode cX1_models 5 = .ok (.aload_n 0, 1) := by decide +kernel
theorem dX1_models_6 : decode cX1_models 6 = .ok (.iload_n 1, 1) := by decide +kernel
theorem dX1_models_7 : decode cX1_models 7 = .ok (.invokevirtual 67, 3) := by decide +kernel
theorem dX1_models_10 : decode cX1_models 10 = .ok (.ifCond .ne 9, 3) := by decide +kernel
theorem dX1_models_13 : decode cX1_models 13 = .ok (.aload_n 0, 1) := by decide +kernel
theorem dX1_models_14 : decode cX1_models 14 = .ok (.iconst 1, 1) := by decide +kernel
theorem dX1_models_15 : decode cX1_models 15 = .ok (.invokevirtual 55, 3) := by decide +kernel
theorem dX1_models_18 : decode cX1_models 18 = .ok (.ireturn, 1) := by decide +kernel
theorem dX1_models_19 : decode cX1_models 19 = .ok (.iconst 0, 1) := by decide +kernel
theorem dX1_models_20 : decode cX1_models 20 = .ok (.istore_n 2, 1) := by decide +kernel
theorem dX1_models_21 : decode cX1_models 21 = .ok (.iconst 0, 1) := by decide +kernel
theorem dX1_models_22 : decode cX1_models 22 = .ok (.istore_n 3, 1) := by decide +kernel
theorem dX1_models_23 : decode cX1_models 23 = .ok (.iload_n 3, 1) := by decide +kernel
theorem dX1_models_24 : decode cX1_models 24 = .ok (.sipush 4096, 3) := by decide +kernel
theorem dX1_models_27 : decode cX1_models 27 = .ok (.if_icmp .ge 34, 3) := by decide +kernel
theorem dX1_models_30 : decode cX1_models 30 = .ok (.iload_n 2, 1) := by decide +kernel
theorem dX1_models_31 : decode cX1_models 31 = .ok (.aload_n 0, 1) := by decide +kernel
theorem dX1_models_32 : decode cX1_models 32 = .ok (.iload_n 3, 1) := by decide +kernel
theorem dX1_models_33 : decode cX1_models 33 = .ok (.invokevirtual 117, 3) := by decide +kernel
theorem dX1_models_36 : decode cX1_models 36 = .ok (.ifCond .eq 16, 3) := by decide +kernel
theorem dX1_models_39 : decode cX1_models 39 = .ok (.aload_n 0, 1) := by decide +kernel
theorem dX1_models_40 : decode cX1_models 40 = .ok (.iload_n 1, 1) := by decide +kernel
theorem dX1_models_41 : decode cX1_models 41 = .ok (.iload_n 3, 1) := by decide +kernel
theorem dX1_models_42 : decode cX1_models 42 = .ok (.invokevirtual 120, 3) := by decide +kernel
theorem dX1_models_45 : decode cX1_models 45 = .ok (.ifCond .eq 7, 3) := by decide +kernel
theorem dX1_models_48 : decode cX1_models 48 = .ok (.iconst 1, 1) := by decide +kernel
theorem dX1_models_49 : decode cX1_models 49 = .ok (.goto 4, 3) := by decide +kernel
theorem dX1_models_52 : decode cX1_models 52 = .ok (.iconst 0, 1) := by decide +kernel
theorem dX1_models_53 : decode cX1_models 53 = .ok (.iadd, 1) := by decide +kernel
theorem dX1_models_54 : decode cX1_models 54 = .ok (.istore_n 2, 1) := by decide +kernel
theorem dX1_models_55 : decode cX1_models 55 = .ok (.iinc 3 1, 3) := by decide +kernel
theorem dX1_models_58 : decode cX1_models 58 = .ok (.goto (-35), 3) := by decide +kernel
theorem dX1_models_61 : decode cX1_models 61 = .ok (.iload_n 2, 1) := by decide +kernel
theorem dX1_models_62 : decode cX1_models 62 = .ok (.ireturn, 1) := by decide +kernel
set_option maxRecDepth 20000 in
theorem ggX1_range_X1_isFormula : GoodIn wsX1_range wsX1_isFormula := goodIn_r _ [6, 7, 8, 9, 5, 10, 34, 35, 36, 37, 38, 39, 40, 41, 42, 43, 44, 45, 46] (by decide +kernel) (by decide +kernel)
set_option maxRecDepth 20000 in
theorem gX1_range_X1_isFormula : GoodIn wsX1_range (wsV RX1 67 RX1 yX1_isFormula wsX1_isFormula) := goodIn_app (goodIn_of _ (by decide +kernel)) ggX1_range_X1_isFormula
set_option maxRecDepth 20000 in
theorem ggX1_range_X1_no : GoodIn wsX1_range wsX1_no := goodIn_r _ [14, 1, 34, 35, 36, 37, 38, 39, 40, 41, 42, 43, 44, 45, 46] (by decide +kernel) (by decide +kernel)
set_option maxRecDepth 20000 in
theorem gX1_range_X1_no : GoodIn wsX1_range (wsV RX1 55 RX1 yX1_no wsX1_no) := goodIn_app (goodIn_of _ (by decide +kernel)) ggX1_range_X1_no
set_option maxRecDepth 20000 in
theorem ggX1_range_X1_counts : GoodIn wsX1_range wsX1_counts := goodIn_r _ [18, 19, 20, 21, 5, 22, 23, 24, 25, 34, 35, 36, 37, 38, 39, 40, 41, 42, 43, 44, 45, 46] (by decide +kernel) (by decide +kernel)
set_option maxRecDepth 20000 in
theorem gX1_range_X1_counts : GoodIn wsX1_range (wsV RX1 117 RX1 yX1_counts wsX1_counts) := goodIn_app (goodIn_of _ (by decide +kernel)) ggX1_range_X1_counts
set_option maxRecDepth 20000 in
theorem ggX1_range_X1_worth : GoodIn wsX1_range wsX1_worth := goodIn_r _ [29, 30, 31, 32, 33, 8, 9, 5, 10, 34, 35, 36, 37, 38, 39, 40, 41, 42, 43, 44, 45, 46] (by decide +kernel) (by decide +kernel)
set_option maxRecDepth 20000 in
theorem gX1_range_X1_worth : GoodIn wsX1_range (wsV RX1 88 RX1 yX1_worth wsX1_worth) := goodIn_app (goodIn_of _ (by decide +kernel)) ggX1_range_X1_worth
theorem dX1_range_0 : decode cX1_range 0 = .ok (.aload_n 0, 1) := by decide +kernel
theorem dX1_range_1 : decode cX1_range 1 = .ok (.iconst 0, 1) := by decide +kernel
theorem dX1_range_2 : decode cX1_range 2 = .ok (.putfield 45, 3) := by decide +kernel
theorem dX1_range_5 : decode cX1_range 5 = .ok (.aload_n 0, 1) := by decide +kernel
theorem dX1_range_6 : decode cX1_range 6 = .ok (.iload_n 1, 1) := by decide +kernel
theorem dX1_range_7 : decode cX1_range 7 = .ok (.invokevirtual 67, 3) := by decide +kernel
theorem dX1_range_10 : decode cX1_range 10 = .ok (.ifCond .ne 9, 3) := by decide +kernel
theorem dX1_range_13 : decode cX1_range 13 = .ok (.aload_n 0, 1) := by decide +kernel
theorem dX1_range_14 : decode cX1_range 14 = .ok (.iconst 1, 1) := by decide +kernel
theorem dX1_range_15 : decode cX1_range 15 = .ok (.invokevirtual 55, 3) := by decide +kernel
theorem dX1_range_18 : decode cX1_range 18 = .ok (.ireturn, 1) := by decide +kernel
theorem dX1_range_19 : decode cX1_range 19 = .ok (.iconst 0, 1) := by decide +kernel
theorem dX1_range_20 : decode cX1_range 20 = .ok (.istore_n 2, 1) := by decide +kernel
theorem dX1_range_21 : decode cX1_range 21 = .ok (.iconst 0, 1) := by decide +kernel
theorem dX1_range_22 : decode cX1_range 22 = .ok (.istore_n 3, 1) := by decide +kernel
theorem dX1_range_23 : decode cX1_range 23 = .ok (.iload_n 3, 1) := by decide +kernel
theorem dX1_range_24 : decode cX1_range 24 = .ok (.sipush 4096, 3) := by decide +kernel
theorem dX1_range_27 : decode cX1_range 27 = .ok (.if_icmp .ge 28, 3) := by decide +kernel
theorem dX1_range_30 : decode cX1_range 30 = .ok (.aload_n 0, 1) := by decide +kernel
theorem dX1_range_31 : decode cX1_range 31 = .ok (.iload_n 3, 1) := by decide +kernel
theorem dX1_range_32 : decode cX1_range 32 = .ok (.invokevirtual 117, 3) := by decide +kernel
theorem dX1_range_35 : decode cX1_range 35 = .ok (.ifCond .eq 14, 3) := by decide +kernel
theorem dX1_range_38 : decode cX1_range 38 = .ok (.iload_n 2, 1) := by decide +kernel
theorem dX1_range_39 : decode cX1_range 39 = .ok (.iconst 1, 1) := by decide +kernel
theorem dX1_range_40 : decode cX1_range 40 = .ok (.aload_n 0, 1) := by decide +kernel
theorem dX1_range_41 : decode cX1_range 41 = .ok (.iload_n 1, 1) := by decide +kernel
theorem dX1_range_42 : decode cX1_range 42 = .ok (.iload_n 3, 1) := by decide +kernel
theorem dX1_range_43 : decode cX1_range 43 = .ok (.invokevirtual 88, 3) := by decide +kernel
theorem dX1_range_46 : decode cX1_range 46 = .ok (.ishl, 1) := by decide +kernel
theorem dX1_range_47 : decode cX1_range 47 = .ok (.ior, 1) := by decide +kernel
theorem dX1_range_48 : decode cX1_range 48 = .ok (.istore_n 2, 1) := by decide +kernel
theorem dX1_range_49 : decode cX1_range 49 = .ok (.iinc 3 1, 3) := by decide +kernel
theorem dX1_range_52 : decode cX1_range 52 = .ok (.goto (-29), 3) := by decide +kernel
theorem dX1_range_55 : decode cX1_range 55 = .ok (.iload_n 2, 1) := by decide +kernel
theorem dX1_range_56 : decode cX1_range 56 = .ok (.ireturn, 1) := by decide +kernel
set_option maxRecDepth 20000 in
theorem ggX1_firstAgainst_X1_counts : GoodIn wsX1_firstAgainst wsX1_counts := goodIn_r _ [5, 6, 7, 8, 4, 9, 10, 11, 12, 28, 29, 30, 31, 32, 33, 34, 35, 36, 37, 38, 39, 40] (by decide +kernel) (by decide +kernel)
set_option maxRecDepth 20000 in
theorem gX1_firstAgainst_X1_counts : GoodIn wsX1_firstAgainst (wsV RX1 117 RX1 yX1_counts wsX1_counts) := goodIn_app (goodIn_of _ (by decide +kernel)) ggX1_firstAgainst_X1_counts
set_option maxRecDepth 20000 in
theorem ggX1_firstAgainst_X1_isYes : GoodIn wsX1_firstAgainst wsX1_isYes := goodIn_r _ [16, 17, 18, 19, 4, 20, 21, 22, 23, 24, 25, 26, 27, 28, 29, 30, 31, 32, 33, 34, 35, 36, 37, 38, 39, 40] (by decide +kernel) (by decide +kernel)
set_option maxRecDepth 20000 in
theorem gX1_firstAgainst_X1_isYes : GoodIn wsX1_firstAgainst (wsV RX1 120 RX1 yX1_isYes wsX1_isYes) := goodIn_app (goodIn_of _ (by decide +kernel)) ggX1_firstAgainst_X1_isYes
theorem dX1_firstAgainst_0 : decode cX1_firstAgainst 0 = .ok (.iconst 0, 1) := by decide +kernel
theorem dX1_firstAgainst_1 : decode cX1_firstAgainst 1 = .ok (.istore_n 3, 1) := by decide +kernel
theorem dX1_firstAgainst_2 : decode cX1_firstAgainst 2 = .ok (.iload_n 3, 1) := by decide +kernel
theorem dX1_firstAgainst_3 : decode cX1_firstAgainst 3 = .ok (.sipush 4096, 3) := by decide +kernel
theorem dX1_firstAgainst_6 : decode cX1_firstAgainst 6 = .ok (.if_icmp .ge 37, 3) := by decide +kernel
theorem dX1_firstAgainst_9 : decode cX1_firstAgainst 9 = .ok (.aload_n 0, 1) := by decide +kernel
theorem dX1_firstAgainst_10 : decode cX1_firstAgainst 10 = .ok (.iload_n 3, 1) := by decide +kernel
theorem dX1_firstAgainst_11 : decode cX1_firstAgainst 11 = .ok (.invokevirtual 117, 3) := by decide +kernel
theorem dX1_firstAgainst_14 : decode cX1_firstAgainst 14 = .ok (.ifCond .eq 23, 3) := by decide +kernel
theorem dX1_firstAgainst_17 : decode cX1_firstAgainst 17 = .ok (.aload_n 0, 1) := by decide +kernel
theorem dX1_firstAgainst_18 : decode cX1_firstAgainst 18 = .ok (.iload_n 1, 1) := by decide +kernel
theorem dX1_firstAgainst_19 : decode cX1_firstAgainst 19 = .ok (.iload_n 3, 1) := by decide +kernel
theorem dX1_firstAgainst_20 : decode cX1_firstAgainst 20 = .ok (.invokevirtual 120, 3) := by decide +kernel
theorem dX1_firstAgainst_23 : decode cX1_firstAgainst 23 = .ok (.ifCond .eq 14, 3) := by decide +kernel
theorem dX1_firstAgainst_26 : decode cX1_firstAgainst 26 = .ok (.aload_n 0, 1) := by decide +kernel
theorem dX1_firstAgainst_27 : decode cX1_firstAgainst 27 = .ok (.iload_n 2, 1) := by decide +kernel
theorem dX1_firstAgainst_28 : decode cX1_firstAgainst 28 = .ok (.iload_n 3, 1) := by decide +kernel
theorem dX1_firstAgainst_29 : decode cX1_firstAgainst 29 = .ok (.invokevirtual 120, 3) := by decide +kernel
theorem dX1_firstAgainst_32 : decode cX1_firstAgainst 32 = .ok (.ifCond .ne 5, 3) := by decide +kernel
theorem dX1_firstAgainst_35 : decode cX1_firstAgainst 35 = .ok (.iload_n 3, 1) := by decide +kernel
theorem dX1_firstAgainst_36 : decode cX1_firstAgainst 36 = .ok (.ireturn, 1) := by decide +kernel
theorem dX1_firstAgainst_37 : decode cX1_firstAgainst 37 = .ok (.iinc 3 1, 3) := by decide +kernel
theorem dX1_firstAgainst_40 : decode cX1_firstAgainst 40 = .ok (.goto (-38), 3) := by decide +kernel
theorem dX1_firstAgainst_43 : decode cX1_firstAgainst 43 = .ok (.iconst (-1), 1) := by decide +kernel
theorem dX1_firstAgainst_44 : decode cX1_firstAgainst 44 = .ok (.ireturn, 1) := by decide +kernel
set_option maxRecDepth 20000 in
theorem ggX1_entails_X1_isFormula : GoodIn wsX1_entails wsX1_isFormula := goodIn_r _ [6, 7, 8, 9, 5, 10, 38, 39, 40, 41, 42, 43, 44, 45, 46, 47, 48, 49, 50] (by decide +kernel) (by decide +kernel)
set_option maxRecDepth 20000 in
theorem gX1_entails_X1_isFormula : GoodIn wsX1_entails (wsV RX1 67 RX1 yX1_isFormula wsX1_isFormula) := goodIn_app (goodIn_of _ (by decide +kernel)) ggX1_entails_X1_isFormula
set_option maxRecDepth 20000 in
theorem ggX1_entails_X1_firstAgainst : GoodIn wsX1_entails wsX1_firstAgainst := goodIn_r _ [14, 15, 16, 17, 5, 18, 19, 20, 21, 22, 23, 24, 25, 26, 27, 28, 29, 30, 31, 32, 33, 34, 35, 36, 37, 8, 9, 10, 38, 39, 40, 41, 42, 43, 44, 45, 46, 47, 48, 49, 50] (by decide +kernel) (by decide +kernel)
set_option maxRecDepth 20000 in
theorem gX1_entails_X1_firstAgainst : GoodIn wsX1_entails (wsV RX1 123 RX1 yX1_firstAgainst wsX1_firstAgainst) := goodIn_app (goodIn_of _ (by decide +kernel)) ggX1_entails_X1_firstAgainst
theorem dX1_entails_0 : decode cX1_entails 0 = .ok (.aload_n 0, 1) := by decide +kernel
theorem dX1_entails_1 : decode cX1_entails 1 = .ok (.aload_n 0, 1) := by decide +kernel
theorem dX1_entails_2 : decode cX1_entails 2 = .ok (.iload_n 1, 1) := by decide +kernel
theorem dX1_entails_3 : decode cX1_entails 3 = .ok (.invokevirtual 67, 3) := by decide +kernel
theorem dX1_entails_6 : decode cX1_entails 6 = .ok (.ifCond .eq 15, 3) := by decide +kernel
theorem dX1_entails_9 : decode cX1_entails 9 = .ok (.aload_n 0, 1) := by decide +kernel
theorem dX1_entails_10 : decode cX1_entails 10 = .ok (.iload_n 2, 1) := by decide +kernel
theorem dX1_entails_11 : decode cX1_entails 11 = .ok (.invokevirtual 67, 3) := by decide +kernel
theorem dX1_entails_14 : decode cX1_entails 14 = .ok (.ifCond .eq 7, 3) := by decide +kernel
theorem dX1_entails_17 : decode cX1_entails 17 = .ok (.iconst 0, 1) := by decide +kernel
theorem dX1_entails_18 : decode cX1_entails 18 = .ok (.goto 4, 3) := by decide +kernel
theorem dX1_entails_21 : decode cX1_entails 21 = .ok (.iconst 1, 1) := by decide +kernel
theorem dX1_entails_22 : decode cX1_entails 22 = .ok (.putfield 45, 3) := by decide +kernel
theorem dX1_entails_25 : decode cX1_entails 25 = .ok (.aload_n 0, 1) := by decide +kernel
theorem dX1_entails_26 : decode cX1_entails 26 = .ok (.getfield 45, 3) := by decide +kernel
theorem dX1_entails_29 : decode cX1_entails 29 = .ok (.ifCond .ne 17, 3) := by decide +kernel
theorem dX1_entails_32 : decode cX1_entails 32 = .ok (.aload_n 0, 1) := by decide +kernel
theorem dX1_entails_33 : decode cX1_entails 33 = .ok (.iload_n 1, 1) := by decide +kernel
theorem dX1_entails_34 : decode cX1_entails 34 = .ok (.iload_n 2, 1) := by decide +kernel
theorem dX1_entails_35 : decode cX1_entails 35 = .ok (.invokevirtual 123, 3) := by decide +kernel
theorem dX1_entails_38 : decode cX1_entails 38 = .ok (.iconst (-1), 1) := by decide +kernel
theorem dX1_entails_39 : decode cX1_entails 39 = .ok (.if_icmp .ne 7, 3) := by decide +kernel
theorem dX1_entails_42 : decode cX1_entails 42 = .ok (.iconst 1, 1) := by decide +kernel
theorem dX1_entails_43 : decode cX1_entails 43 = .ok (.goto 4, 3) := by decide +kernel
theorem dX1_entails_46 : decode cX1_entails 46 = .ok (.iconst 0, 1) := by decide +kernel
theorem dX1_entails_47 : decode cX1_entails 47 = .ok (.ireturn, 1) := by decide +kernel
set_option maxRecDepth 20000 in
theorem ggX1_against_X1_isFormula : GoodIn wsX1_against wsX1_isFormula := goodIn_r _ [6, 7, 8, 9, 5, 10, 42, 43, 44, 45, 46, 47, 48, 49, 50, 51, 52, 53, 54] (by decide +kernel) (by decide +kernel)
set_option maxRecDepth 20000 in
theorem gX1_against_X1_isFormula : GoodIn wsX1_against (wsV RX1 67 RX1 yX1_isFormula wsX1_isFormula) := goodIn_app (goodIn_of _ (by decide +kernel)) ggX1_against_X1_isFormula
set_option maxRecDepth 20000 in
theorem ggX1_against_X1_firstAgainst : GoodIn wsX1_against wsX1_firstAgainst := goodIn_r _ [14, 15, 16, 17, 5, 18, 19, 20, 21, 22, 23, 24, 25, 26, 27, 28, 29, 30, 31, 32, 33, 34, 35, 36, 37, 8, 9, 10, 42, 43, 44, 45, 46, 47, 48, 49, 50, 51, 52, 53, 54] (by decide +kernel) (by decide +kernel)
set_option maxRecDepth 20000 in
theorem gX1_against_X1_firstAgainst : GoodIn wsX1_against (wsV RX1 123 RX1 yX1_firstAgainst wsX1_firstAgainst) := goodIn_app (goodIn_of _ (by decide +kernel)) ggX1_against_X1_firstAgainst
set_option maxRecDepth 20000 in
theorem ggX1_against_X1_no : GoodIn wsX1_against wsX1_no := goodIn_r _ [41, 1, 42, 43, 44, 45, 46, 47, 48, 49, 50, 51, 52, 53, 54] (by decide +kernel) (by decide +kernel)
set_option maxRecDepth 20000 in
theorem gX1_against_X1_no : GoodIn wsX1_against (wsV RX1 55 RX1 yX1_no wsX1_no) := goodIn_app (goodIn_of _ (by decide +kernel)) ggX1_against_X1_no
theorem dX1_against_0 : decode cX1_against 0 = .ok (.aload_n 0, 1) := by decide +kernel
theorem dX1_against_1 : decode cX1_against 1 = .ok (.iconst 0, 1) := by decide +kernel
theorem dX1_against_2 : decode cX1_against 2 = .ok (.putfield 45, 3) := by decide +kernel
theorem dX1_against_5 : decode cX1_against 5 = .ok (.aload_n 0, 1) := by decide +kernel
theorem dX1_against_6 : decode cX1_against 6 = .ok (.iload_n 1, 1) := by decide +kernel
theorem dX1_against_7 : decode cX1_against 7 = .ok (.invokevirtual 67, 3) := by decide +kernel
theorem dX1_against_10 : decode cX1_against 10 = .ok (.ifCond .eq 20, 3) := by decide +kernel
theorem dX1_against_13 : decode cX1_against 13 = .ok (.aload_n 0, 1) := by decide +kernel
theorem dX1_against_14 : decode cX1_against 14 = .ok (.iload_n 2, 1) := by decide +kernel
theorem dX1_against_15 : decode cX1_against 15 = .ok (.invokevirtual 67, 3) := by decide +kernel
theorem dX1_against_18 : decode cX1_against 18 = .ok (.ifCond .eq 12, 3) := by decide +kernel
theorem dX1_against_21 : decode cX1_against 21 = .ok (.aload_n 0, 1) := by decide +kernel
theorem dX1_against_22 : decode cX1_against 22 = .ok (.iload_n 1, 1) := by decide +kernel
theorem dX1_against_23 : decode cX1_against 23 = .ok (.iload_n 2, 1) := by decide +kernel
theorem dX1_against_24 : decode cX1_against 24 = .ok (.invokevirtual 123, 3) := by decide +kernel
theorem dX1_against_27 : decode cX1_against 27 = .ok (.goto 8, 3) := by decide +kernel
theorem dX1_against_30 : decode cX1_against 30 = .ok (.aload_n 0, 1) := by decide +kernel
theorem dX1_against_31 : decode cX1_against 31 = .ok (.iconst 1, 1) := by decide +kernel
theorem dX1_against_32 : decode cX1_against 32 = .ok (.invokevirtual 55, 3) := by decide +kernel
theorem dX1_against_35 : decode cX1_against 35 = .ok (.ireturn, 1) := by decide +kernel
set_option maxRecDepth 20000 in
theorem ggX1_areEqual_X1_isFormula : GoodIn wsX1_areEqual wsX1_isFormula := goodIn_r _ [6, 7, 8, 9, 5, 10, 30, 31, 32, 33, 34, 35, 36, 37, 38, 39, 40, 41, 42] (by decide +kernel) (by decide +kernel)
set_option maxRecDepth 20000 in
theorem gX1_areEqual_X1_isFormula : GoodIn wsX1_areEqual (wsV RX1 67 RX1 yX1_isFormula wsX1_isFormula) := goodIn_app (goodIn_of _ (by decide +kernel)) ggX1_areEqual_X1_isFormula
set_option maxRecDepth 20000 in
theorem ggX1_areEqual_X1_counts : GoodIn wsX1_areEqual wsX1_counts := goodIn_r _ [14, 15, 16, 17, 5, 18, 19, 20, 21, 30, 31, 32, 33, 34, 35, 36, 37, 38, 39, 40, 41, 42] (by decide +kernel) (by decide +kernel)
set_option maxRecDepth 20000 in
theorem gX1_areEqual_X1_counts : GoodIn wsX1_areEqual (wsV RX1 117 RX1 yX1_counts wsX1_counts) := goodIn_app (goodIn_of _ (by decide +kernel)) ggX1_areEqual_X1_counts
set_option maxRecDepth 20000 in
theorem ggX1_areEqual_X1_worth : GoodIn wsX1_areEqual wsX1_worth := goodIn_r _ [25, 26, 27, 28, 29, 8, 9, 5, 10, 30, 31, 32, 33, 34, 35, 36, 37, 38, 39, 40, 41, 42] (by decide +kernel) (by decide +kernel)
set_option maxRecDepth 20000 in
theorem gX1_areEqual_X1_worth : GoodIn wsX1_areEqual (wsV RX1 88 RX1 yX1_worth wsX1_worth) := goodIn_app (goodIn_of _ (by decide +kernel)) ggX1_areEqual_X1_worth
theorem dX1_areEqual_0 : decode cX1_areEqual 0 = .ok (.aload_n 0, 1) := by decide +kernel
theorem dX1_areEqual_1 : decode cX1_areEqual 1 = .ok (.aload_n 0, 1) := by decide +kernel
theorem dX1_areEqual_2 : decode cX1_areEqual 2 = .ok (.iload_n 1, 1) := by decide +kernel
theorem dX1_areEqual_3 : decode cX1_areEqual 3 = .ok (.invokevirtual 67, 3) := by decide +kernel
theorem dX1_areEqual_6 : decode cX1_areEqual 6 = .ok (.ifCond .eq 15, 3) := by decide +kernel
theorem dX1_areEqual_9 : decode cX1_areEqual 9 = .ok (.aload_n 0, 1) := by decide +kernel
theorem dX1_areEqual_10 : decode cX1_areEqual 10 = .ok (.iload_n 2, 1) := by decide +kernel
theorem dX1_areEqual_11 : decode cX1_areEqual 11 = .ok (.invokevirtual 67, 3) := by decide +kernel
theorem dX1_areEqual_14 : decode cX1_areEqual 14 = .ok (.ifCond .eq 7, 3) := by decide +kernel
theorem dX1_areEqual_17 : decode cX1_areEqual 17 = .ok (.iconst 0, 1) := by decide +kernel
theorem dX1_areEqual_18 : decode cX1_areEqual 18 = .ok (.goto 4, 3) := by decide +kernel
theorem dX1_areEqual_21 : decode cX1_areEqual 21 = .ok (.iconst 1, 1) := by decide +kernel
theorem dX1_areEqual_22 : decode cX1_areEqual 22 = .ok (.putfield 45, 3) := by decide +kernel
theorem dX1_areEqual_25 : decode cX1_areEqual 25 = .ok (.aload_n 0, 1) := by decide +kernel
theorem dX1_areEqual_26 : decode cX1_areEqual 26 = .ok (.getfield 45, 3) := by decide +kernel
theorem dX1_areEqual_29 : decode cX1_areEqual 29 = .ok (.ifCond .ne 7, 3) := by decide +kernel
theorem dX1_areEqual_32 : decode cX1_areEqual 32 = .ok (.iconst 1, 1) := by decide +kernel
theorem dX1_areEqual_33 : decode cX1_areEqual 33 = .ok (.goto 4, 3) := by decide +kernel
theorem dX1_areEqual_36 : decode cX1_areEqual 36 = .ok (.iconst 0, 1) := by decide +kernel
theorem dX1_areEqual_37 : decode cX1_areEqual 37 = .ok (.istore_n 3, 1) := by decide +kernel
theorem dX1_areEqual_38 : decode cX1_areEqual 38 = .ok (.iconst 0, 1) := by decide +kernel
theorem dX1_areEqual_39 : decode cX1_areEqual 39 = .ok (.istore 4, 2) := by decide +kernel
theorem dX1_areEqual_41 : decode cX1_areEqual 41 = .ok (.iload 4, 2) := by decide +kernel
theorem dX1_areEqual_43 : decode cX1_areEqual 43 = .ok (.sipush 4096, 3) := by decide +kernel
theorem dX1_areEqual_46 : decode cX1_areEqual 46 = .ok (.if_icmp .ge 45, 3) := by decide +kernel
theorem dX1_areEqual_49 : decode cX1_areEqual 49 = .ok (.iload_n 3, 1) := by decide +kernel
theorem dX1_areEqual_50 : decode cX1_areEqual 50 = .ok (.ifCond .eq 41, 3) := by decide +kernel
theorem dX1_areEqual_53 : decode cX1_areEqual 53 = .ok (.aload_n 0, 1) := by decide +kernel
theorem dX1_areEqual_54 : decode cX1_areEqual 54 = .ok (.iload 4, 2) := by decide +kernel
theorem dX1_areEqual_56 : decode cX1_areEqual 56 = .ok (.invokevirtual 117, 3) := by decide +kernel
theorem dX1_areEqual_59 : decode cX1_areEqual 59 = .ok (.ifCond .eq 20, 3) := by decide +kernel
theorem dX1_areEqual_62 : decode cX1_areEqual 62 = .ok (.aload_n 0, 1) := by decide +kernel
theorem dX1_areEqual_63 : decode cX1_areEqual 63 = .ok (.iload_n 1, 1) := by decide +kernel
theorem dX1_areEqual_64 : decode cX1_areEqual 64 = .ok (.iload 4, 2) := by decide +kernel
theorem dX1_areEqual_66 : decode cX1_areEqual 66 = .ok (.invokevirtual 88, 3) := by decide +kernel
theorem dX1_areEqual_69 : decode cX1_areEqual 69 = .ok (.aload_n 0, 1) := by decide +kernel
theorem dX1_areEqual_70 : decode cX1_areEqual 70 = .ok (.iload_n 2, 1) := by decide +kernel
theorem dX1_areEqual_71 : decode cX1_areEqual 71 = .ok (.iload 4, 2) := by decide +kernel
theorem dX1_areEqual_73 : decode cX1_areEqual 73 = .ok (.invokevirtual 88, 3) := by decide +kernel
theorem dX1_areEqual_76 : decode cX1_areEqual 76 = .ok (.if_icmp .ne 7, 3) := by decide +kernel
theorem dX1_areEqual_79 : decode cX1_areEqual 79 = .ok (.iconst 1, 1) := by decide +kernel
theorem dX1_areEqual_80 : decode cX1_areEqual 80 = .ok (.goto 4, 3) := by decide +kernel
theorem dX1_areEqual_83 : decode cX1_areEqual 83 = .ok (.iconst 0, 1) := by decide +kernel
theorem dX1_areEqual_84 : decode cX1_areEqual 84 = .ok (.istore_n 3, 1) := by decide +kernel
theorem dX1_areEqual_85 : decode cX1_areEqual 85 = .ok (.iinc 4 1, 3) := by decide +kernel
theorem dX1_areEqual_88 : decode cX1_areEqual 88 = .ok (.goto (-47), 3) := by decide +kernel
theorem dX1_areEqual_91 : decode cX1_areEqual 91 = .ok (.iload_n 3, 1) := by decide +kernel
theorem dX1_areEqual_92 : decode cX1_areEqual 92 = .ok (.ireturn, 1) := by decide +kernel
set_option maxRecDepth 20000 in
theorem ggX1_depends_X1_isFormula : GoodIn wsX1_depends wsX1_isFormula := goodIn_r _ [6, 7, 8, 9, 5, 10, 40, 41, 42, 43, 44, 45, 46, 47, 48, 49, 50, 51, 52] (by decide +kernel) (by decide +kernel)
set_option maxRecDepth 20000 in
theorem gX1_depends_X1_isFormula : GoodIn wsX1_depends (wsV RX1 67 RX1 yX1_isFormula wsX1_isFormula) := goodIn_app (goodIn_of _ (by decide +kernel)) ggX1_depends_X1_isFormula
set_option maxRecDepth 20000 in
theorem ggX1_depends_X1_isAtom : GoodIn wsX1_depends wsX1_isAtom := goodIn_r _ [13, 8, 9, 5, 10] (by decide +kernel) (by decide +kernel)
set_option maxRecDepth 20000 in
theorem gX1_depends_X1_isAtom : GoodIn wsX1_depends (va_wsS RX1 59 yX1_isAtom wsX1_isAtom) := goodIn_app (goodIn_of _ (by decide +kernel)) ggX1_depends_X1_isAtom
set_option maxRecDepth 20000 in
theorem ggX1_depends_X1_valueIn : GoodIn wsX1_depends wsX1_valueIn := goodIn_r _ [16] (by decide +kernel) (by decide +kernel)
set_option maxRecDepth 20000 in
theorem gX1_depends_X1_valueIn : GoodIn wsX1_depends (va_wsS RX1 103 yX1_valueIn wsX1_valueIn) := goodIn_app (goodIn_of _ (by decide +kernel)) ggX1_depends_X1_valueIn
set_option maxRecDepth 20000 in
theorem ggX1_depends_X1_counts : GoodIn wsX1_depends wsX1_counts := goodIn_r _ [20, 21, 14, 15, 5, 16, 22, 23, 24, 40, 41, 42, 43, 44, 45, 46, 47, 48, 49, 50, 51, 52] (by decide +kernel) (by decide +kernel)
set_option maxRecDepth 20000 in
theorem gX1_depends_X1_counts : GoodIn wsX1_depends (wsV RX1 117 RX1 yX1_counts wsX1_counts) := goodIn_app (goodIn_of _ (by decide +kernel)) ggX1_depends_X1_counts
set_option maxRecDepth 20000 in
theorem ggX1_depends_X1_worth : GoodIn wsX1_depends wsX1_worth := goodIn_r _ [28, 29, 30, 31, 32, 8, 9, 5, 10, 40, 41, 42, 43, 44, 45, 46, 47, 48, 49, 50, 51, 52] (by decide +kernel) (by decide +kernel)
set_option maxRecDepth 20000 in
theorem gX1_depends_X1_worth : GoodIn wsX1_depends (wsV RX1 88 RX1 yX1_worth wsX1_worth) := goodIn_app (goodIn_of _ (by decide +kernel)) ggX1_depends_X1_worth
set_option maxRecDepth 20000 in
theorem ggX1_depends_J6_bitCount_0f7a4 : GoodIn wsX1_depends wsJ6_bitCount_0f7a4 := goodIn_r _ [36, 37, 38, 39] (by decide +kernel) (by decide +kernel)
set_option maxRecDepth 20000 in
theorem gX1_depends_J6_bitCount_0f7a4 : GoodIn wsX1_depends (va_wsS RX1 112 yJ6_bitCount_0f7a4 wsJ6_bitCount_0f7a4) := goodIn_app (goodIn_of _ (by decide +kernel)) ggX1_depends_J6_bitCount_0f7a4
theorem dX1_depends_0 : decode cX1_depends 0 = .ok (.aload_n 0, 1) := by decide +kernel
theorem dX1_depends_1 : decode cX1_depends 1 = .ok (.aload_n 0, 1) := by decide +kernel
theorem dX1_depends_2 : decode cX1_depends 2 = .ok (.iload_n 1, 1) := by decide +kernel
theorem dX1_depends_3 : decode cX1_depends 3 = .ok (.invokevirtual 67, 3) := by decide +kernel
theorem dX1_depends_6 : decode cX1_depends 6 = .ok (.ifCond .eq 14, 3) := by decide +kernel
theorem dX1_depends_9 : decode cX1_depends 9 = .ok (.iload_n 2, 1) := by decide +kernel
theorem dX1_depends_10 : decode cX1_depends 10 = .ok (.invokestatic 59, 3) := by decide +kernel
theorem dX1_depends_13 : decode cX1_depends 13 = .ok (.ifCond .eq 7, 3) := by decide +kernel
theorem dX1_depends_16 : decode cX1_depends 16 = .ok (.iconst 0, 1) := by decide +kernel
theorem dX1_depends_17 : decode cX1_depends 17 = .ok (.goto 4, 3) := by decide +kernel
theorem dX1_depends_20 : decode cX1_depends 20 = .ok (.iconst 1, 1) := by decide +kernel
theorem dX1_depends_21 : decode cX1_depends 21 = .ok (.putfield 45, 3) := by decide +kernel
theorem dX1_depends_24 : decode cX1_depends 24 = .ok (.iconst 0, 1) := by decide +kernel
theorem dX1_depends_25 : decode cX1_depends 25 = .ok (.istore_n 3, 1) := by decide +kernel
theorem dX1_depends_26 : decode cX1_depends 26 = .ok (.iconst 1, 1) := by decide +kernel
theorem dX1_depends_27 : decode cX1_depends 27 = .ok (.iconst 2, 1) := by decide +kernel
theorem dX1_depends_28 : decode cX1_depends 28 = .ok (.iconst 5, 1) := by decide +kernel
theorem dX1_depends_29 : decode cX1_depends 29 = .ok (.iload_n 2, 1) := by decide +kernel
theorem dX1_depends_30 : decode cX1_depends 30 = .ok (.isub, 1) := by decide +kernel
theorem dX1_depends_31 : decode cX1_depends 31 = .ok (.imul, 1) := by decide +kernel
theorem dX1_depends_32 : decode cX1_depends 32 = .ok (.ishl, 1) := by decide +kernel
theorem dX1_depends_33 : decode cX1_depends 33 = .ok (.istore 4, 2) := by decide +kernel
theorem dX1_depends_35 : decode cX1_depends 35 = .ok (.iconst 0, 1) := by decide +kernel
theorem dX1_depends_36 : decode cX1_depends 36 = .ok (.istore 5, 2) := by decide +kernel
theorem dX1_depends_38 : decode cX1_depends 38 = .ok (.iload 5, 2) := by decide +kernel
theorem dX1_depends_40 : decode cX1_depends 40 = .ok (.sipush 4096, 3) := by decide +kernel
theorem dX1_depends_43 : decode cX1_depends 43 = .ok (.if_icmp .ge 100, 3) := by decide +kernel
theorem dX1_depends_46 : decode cX1_depends 46 = .ok (.aload_n 0, 1) := by decide +kernel
theorem dX1_depends_47 : decode cX1_depends 47 = .ok (.getfield 45, 3) := by decide +kernel
theorem dX1_depends_50 : decode cX1_depends 50 = .ok (.ifCond .ne 93, 3) := by decide +kernel
theorem dX1_depends_53 : decode cX1_depends 53 = .ok (.iload_n 3, 1) := by decide +kernel
theorem dX1_depends_54 : decode cX1_depends 54 = .ok (.ifCond .ne 89, 3) := by decide +kernel
theorem dX1_depends_57 : decode cX1_depends 57 = .ok (.iload 5, 2) := by decide +kernel
theorem dX1_depends_59 : decode cX1_depends 59 = .ok (.iload_n 2, 1) := by decide +kernel
theorem dX1_depends_60 : decode cX1_depends 60 = .ok (.invokestatic 103, 3) := by decide +kernel
theorem dX1_depends_63 : decode cX1_depends 63 = .ok (.ifCond .eq 6, 3) := by decide +kernel
theorem dX1_depends_66 : decode cX1_depends 66 = .ok (.goto 71, 3) := by decide +kernel
theorem dX1_depends_69 : decode cX1_depends 69 = .ok (.iconst 0, 1) := by decide +kernel
theorem dX1_depends_70 : decode cX1_depends 70 = .ok (.istore 6, 2) := by decide +kernel
theorem dX1_depends_72 : decode cX1_depends 72 = .ok (.iconst 0, 1) := by decide +kernel
theorem dX1_depends_73 : decode cX1_depends 73 = .ok (.istore 7, 2) := by decide +kernel
theorem dX1_depends_75 : decode cX1_depends 75 = .ok (.iload 7, 2) := by decide +kernel
theorem dX1_depends_77 : decode cX1_depends 77 = .ok (.iconst 4, 1) := by decide +kernel
theorem dX1_depends_78 : decode cX1_depends 78 = .ok (.if_icmp .ge 44, 3) := by decide +kernel
theorem dX1_depends_81 : decode cX1_depends 81 = .ok (.aload_n 0, 1) := by decide +kernel
theorem dX1_depends_82 : decode cX1_depends 82 = .ok (.iload 5, 2) := by decide +kernel
theorem dX1_depends_84 : decode cX1_depends 84 = .ok (.iload 7, 2) := by decide +kernel
theorem dX1_depends_86 : decode cX1_depends 86 = .ok (.iload 4, 2) := by decide +kernel
theorem dX1_depends_88 : decode cX1_depends 88 = .ok (.imul, 1) := by decide +kernel
theorem dX1_depends_89 : decode cX1_depends 89 = .ok (.iadd, 1) := by decide +kernel
theorem dX1_depends_90 : decode cX1_depends 90 = .ok (.invokevirtual 117, 3) := by decide +kernel
theorem dX1_depends_93 : decode cX1_depends 93 = .ok (.ifCond .eq 23, 3) := by decide +kernel
theorem dX1_depends_96 : decode cX1_depends 96 = .ok (.iload 6, 2) := by decide +kernel
theorem dX1_depends_98 : decode cX1_depends 98 = .ok (.iconst 1, 1) := by decide +kernel
theorem dX1_depends_99 : decode cX1_depends 99 = .ok (.aload_n 0, 1) := by decide +kernel
theorem dX1_depends_100 : decode cX1_depends 100 = .ok (.iload_n 1, 1) := by decide +kernel
theorem dX1_depends_101 : decode cX1_depends 101 = .ok (.iload 5, 2) := by decide +kernel
theorem dX1_depends_103 : decode cX1_depends 103 = .ok (.iload 7, 2) := by decide +kernel
theorem dX1_depends_105 : decode cX1_depends 105 = .ok (.iload 4, 2) := by decide +kernel
theorem dX1_depends_107 : decode cX1_depends 107 = .ok (.imul, 1) := by decide +kernel
theorem dX1_depends_108 : decode cX1_depends 108 = .ok (.iadd, 1) := by decide +kernel
theorem dX1_depends_109 : decode cX1_depends 109 = .ok (.invokevirtual 88, 3) := by decide +kernel
theorem dX1_depends_112 : decode cX1_depends 112 = .ok (.ishl, 1) := by decide +kernel
theorem dX1_depends_113 : decode cX1_depends 113 = .ok (.ior, 1) := by decide +kernel
theorem dX1_depends_114 : decode cX1_depends 114 = .ok (.istore 6, 2) := by decide +kernel
theorem dX1_depends_116 : decode cX1_depends 116 = .ok (.iinc 7 1, 3) := by decide +kernel
theorem dX1_depends_119 : decode cX1_depends 119 = .ok (.goto (-44), 3) := by decide +kernel
theorem dX1_depends_122 : decode cX1_depends 122 = .ok (.iload 6, 2) := by decide +kernel
theorem dX1_depends_124 : decode cX1_depends 124 = .ok (.invokestatic 112, 3) := by decide +kernel
theorem dX1_depends_127 : decode cX1_depends 127 = .ok (.iconst 1, 1) := by decide +kernel
theorem dX1_depends_128 : decode cX1_depends 128 = .ok (.if_icmp .le 7, 3) := by decide +kernel
theorem dX1_depends_131 : decode cX1_depends 131 = .ok (.iconst 1, 1) := by decide +kernel
theorem dX1_depends_132 : decode cX1_depends 132 = .ok (.goto 4, 3) := by decide +kernel
theorem dX1_depends_135 : decode cX1_depends 135 = .ok (.iconst 0, 1) := by decide +kernel
theorem dX1_depends_136 : decode cX1_depends 136 = .ok (.istore_n 3, 1) := by decide +kernel
theorem dX1_depends_137 : decode cX1_depends 137 = .ok (.iinc 5 1, 3) := by decide +kernel
theorem dX1_depends_140 : decode cX1_depends 140 = .ok (.goto (-102), 3) := by decide +kernel
theorem dX1_depends_143 : decode cX1_depends 143 = .ok (.iload_n 3, 1) := by decide +kernel
theorem dX1_depends_144 : decode cX1_depends 144 = .ok (.ireturn, 1) := by decide +kernel
set_option maxRecDepth 20000 in
theorem ggX1_valueAt_X1_isFormula : GoodIn wsX1_valueAt wsX1_isFormula := goodIn_r _ [6, 7, 8, 9, 5, 10, 23, 24, 25, 26, 27, 28, 29, 30, 31, 32, 33, 34, 35] (by decide +kernel) (by decide +kernel)
set_option maxRecDepth 20000 in
theorem gX1_valueAt_X1_isFormula : GoodIn wsX1_valueAt (wsV RX1 67 RX1 yX1_isFormula wsX1_isFormula) := goodIn_app (goodIn_of _ (by decide +kernel)) ggX1_valueAt_X1_isFormula
set_option maxRecDepth 20000 in
theorem ggX1_valueAt_X1_no : GoodIn wsX1_valueAt wsX1_no := goodIn_r _ [14, 1, 23, 24, 25, 26, 27, 28, 29, 30, 31, 32, 33, 34, 35] (by decide +kernel) (by decide +kernel)
set_option maxRecDepth 20000 in
theorem gX1_valueAt_X1_no : GoodIn wsX1_valueAt (wsV RX1 55 RX1 yX1_no wsX1_no) := goodIn_app (goodIn_of _ (by decide +kernel)) ggX1_valueAt_X1_no
set_option maxRecDepth 20000 in
theorem ggX1_valueAt_X1_isIn : GoodIn wsX1_valueAt wsX1_isIn := goodIn_r _ [10] (by decide +kernel) (by decide +kernel)
set_option maxRecDepth 20000 in
theorem gX1_valueAt_X1_isIn : GoodIn wsX1_valueAt (va_wsS RX1 51 yX1_isIn wsX1_isIn) := goodIn_app (goodIn_of _ (by decide +kernel)) ggX1_valueAt_X1_isIn
set_option maxRecDepth 20000 in
theorem ggX1_valueAt_X1_worth : GoodIn wsX1_valueAt wsX1_worth := goodIn_r _ [18, 19, 20, 21, 22, 8, 9, 5, 10, 23, 24, 25, 26, 27, 28, 29, 30, 31, 32, 33, 34, 35] (by decide +kernel) (by decide +kernel)
set_option maxRecDepth 20000 in
theorem gX1_valueAt_X1_worth : GoodIn wsX1_valueAt (wsV RX1 88 RX1 yX1_worth wsX1_worth) := goodIn_app (goodIn_of _ (by decide +kernel)) ggX1_valueAt_X1_worth
theorem dX1_valueAt_0 : decode cX1_valueAt 0 = .ok (.aload_n 0, 1) := by decide +kernel
theorem dX1_valueAt_1 : decode cX1_valueAt 1 = .ok (.iconst 0, 1) := by decide +kernel
theorem dX1_valueAt_2 : decode cX1_valueAt 2 = .ok (.putfield 45, 3) := by decide +kernel
theorem dX1_valueAt_5 : decode cX1_valueAt 5 = .ok (.aload_n 0, 1) := by decide +kernel
theorem dX1_valueAt_6 : decode cX1_valueAt 6 = .ok (.iload_n 1, 1) := by decide +kernel
theorem dX1_valueAt_7 : decode cX1_valueAt 7 = .ok (.invokevirtual 67, 3) := by decide +kernel
theorem dX1_valueAt_10 : decode cX1_valueAt 10 = .ok (.ifCond .ne 9, 3) := by decide +kernel
theorem dX1_valueAt_13 : decode cX1_valueAt 13 = .ok (.aload_n 0, 1) := by decide +kernel
theorem dX1_valueAt_14 : decode cX1_valueAt 14 = .ok (.iconst 1, 1) := by decide +kernel
theorem dX1_valueAt_15 : decode cX1_valueAt 15 = .ok (.invokevirtual 55, 3) := by decide +kernel
theorem dX1_valueAt_18 : decode cX1_valueAt 18 = .ok (.ireturn, 1) := by decide +kernel
theorem dX1_valueAt_19 : decode cX1_valueAt 19 = .ok (.iload_n 2, 1) := by decide +kernel
theorem dX1_valueAt_20 : decode cX1_valueAt 20 = .ok (.iconst 0, 1) := by decide +kernel
theorem dX1_valueAt_21 : decode cX1_valueAt 21 = .ok (.sipush 4095, 3) := by decide +kernel
theorem dX1_valueAt_24 : decode cX1_valueAt 24 = .ok (.invokestatic 51, 3) := by decide +kernel
theorem dX1_valueAt_27 : decode cX1_valueAt 27 = .ok (.ifCond .eq 12, 3) := by decide +kernel
theorem dX1_valueAt_30 : decode cX1_valueAt 30 = .ok (.aload_n 0, 1) := by decide +kernel
theorem dX1_valueAt_31 : decode cX1_valueAt 31 = .ok (.iload_n 1, 1) := by decide +kernel
theorem dX1_valueAt_32 : decode cX1_valueAt 32 = .ok (.iload_n 2, 1) := by decide +kernel
theorem dX1_valueAt_33 : decode cX1_valueAt 33 = .ok (.invokevirtual 88, 3) := by decide +kernel
theorem dX1_valueAt_36 : decode cX1_valueAt 36 = .ok (.goto 8, 3) := by decide +kernel
theorem dX1_valueAt_39 : decode cX1_valueAt 39 = .ok (.aload_n 0, 1) := by decide +kernel
theorem dX1_valueAt_40 : decode cX1_valueAt 40 = .ok (.iconst 2, 1) := by decide +kernel
theorem dX1_valueAt_41 : decode cX1_valueAt 41 = .ok (.invokevirtual 55, 3) := by decide +kernel
theorem dX1_valueAt_44 : decode cX1_valueAt 44 = .ok (.ireturn, 1) := by decide +kernel
set_option maxRecDepth 20000 in
theorem ggX1_digest_X1_heardSet : GoodIn wsX1_digest wsX1_heardSet := goodIn_r _ [16, 17, 18, 19, 15, 20, 8, 7, 6, 57, 58, 59, 60, 61, 62, 63, 64, 65, 66, 67, 68, 69] (by decide +kernel) (by decide +kernel)
set_option maxRecDepth 20000 in
theorem gX1_digest_X1_heardSet : GoodIn wsX1_digest (wsV RX1 80 RX1 yX1_heardSet wsX1_heardSet) := goodIn_app (goodIn_of _ (by decide +kernel)) ggX1_digest_X1_heardSet
set_option maxRecDepth 20000 in
theorem ggX1_digest_X1_settle : GoodIn wsX1_digest wsX1_settle := goodIn_r _ [24, 25, 26, 27, 15, 28, 29, 30, 31, 32, 9, 33, 34, 35, 36, 37, 38, 39, 10, 40, 41, 42, 43, 5, 44, 45, 46, 47, 48, 49, 57, 58, 59, 60, 61, 62, 63, 64, 65, 66, 67, 68, 69] (by decide +kernel) (by decide +kernel)
set_option maxRecDepth 20000 in
theorem gX1_digest_X1_settle : GoodIn wsX1_digest (wsV RX1 97 RX1 yX1_settle wsX1_settle) := goodIn_app (goodIn_of _ (by decide +kernel)) ggX1_digest_X1_settle
set_option maxRecDepth 20000 in
theorem ggX1_digest_X1_givenBy : GoodIn wsX1_digest wsX1_givenBy := goodIn_r _ [32, 9, 33, 34, 15, 35, 57, 58, 59, 60, 61, 62, 63, 64, 65, 66, 67, 68, 69] (by decide +kernel) (by decide +kernel)
set_option maxRecDepth 20000 in
theorem gX1_digest_X1_givenBy : GoodIn wsX1_digest (wsV RX1 84 RX1 yX1_givenBy wsX1_givenBy) := goodIn_app (goodIn_of _ (by decide +kernel)) ggX1_digest_X1_givenBy
set_option maxRecDepth 20000 in
theorem ggX1_digest_X1_valueIn : GoodIn wsX1_digest wsX1_valueIn := goodIn_r _ [52] (by decide +kernel) (by decide +kernel)
set_option maxRecDepth 20000 in
theorem gX1_digest_X1_valueIn : GoodIn wsX1_digest (va_wsS RX1 103 yX1_valueIn wsX1_valueIn) := goodIn_app (goodIn_of _ (by decide +kernel)) ggX1_digest_X1_valueIn
set_option maxRecDepth 20000 in
theorem ggX1_digest_X1_roundCount : GoodIn wsX1_digest wsX1_roundCount := goodIn_r _ [56, 12, 13, 14, 15, 16, 17, 18, 19, 20, 8, 7, 6, 25, 26, 27, 28, 29, 30, 31, 32, 9, 33, 34, 35, 36, 37, 38, 39, 10, 40, 41, 42, 43, 5, 44, 45, 46, 47, 48, 49, 57, 58, 59, 60, 61, 62, 63, 64, 65, 66, 67, 68, 69] (by decide +kernel) (by decide +kernel)
set_option maxRecDepth 20000 in
theorem gX1_digest_X1_roundCount : GoodIn wsX1_digest (wsV RX1 106 RX1 yX1_roundCount wsX1_roundCount) := goodIn_app (goodIn_of _ (by decide +kernel)) ggX1_digest_X1_roundCount
theorem dX1_digest_0 : decode cX1_digest 0 = .ok (.aload_n 0, 1) := by decide +kernel
theorem dX1_digest_1 : decode cX1_digest 1 = .ok (.iconst 0, 1) := by decide +kernel
theorem dX1_digest_2 : decode cX1_digest 2 = .ok (.putfield 45, 3) := by decide +kernel
theorem dX1_digest_5 : decode cX1_digest 5 = .ok (.ldc2_w 126, 3) := by decide +kernel
theorem dX1_digest_8 : decode cX1_digest 8 = .ok (.aload_n 0, 1) := by decide +kernel
theorem dX1_digest_9 : decode cX1_digest 9 = .ok (.getfield 48, 3) := by decide +kernel
theorem dX1_digest_12 : decode cX1_digest 12 = .ok (.i2l, 1) := by decide +kernel
theorem dX1_digest_13 : decode cX1_digest 13 = .ok (.ladd, 1) := by decide +kernel
theorem dX1_digest_14 : decode cX1_digest 14 = .ok (.lstore_n 1, 1) := by decide +kernel
theorem dX1_digest_15 : decode cX1_digest 15 = .ok (.iconst 0, 1) := by decide +kernel
theorem dX1_digest_16 : decode cX1_digest 16 = .ok (.istore_n 3, 1) := by decide +kernel
theorem dX1_digest_17 : decode cX1_digest 17 = .ok (.iload_n 3, 1) := by decide +kernel
theorem dX1_digest_18 : decode cX1_digest 18 = .ok (.aload_n 0, 1) := by decide +kernel
theorem dX1_digest_19 : decode cX1_digest 19 = .ok (.getfield 48, 3) := by decide +kernel
theorem dX1_digest_22 : decode cX1_digest 22 = .ok (.if_icmp .ge 23, 3) := by decide +kernel
theorem dX1_digest_25 : decode cX1_digest 25 = .ok (.lload_n 1, 1) := by decide +kernel
theorem dX1_digest_26 : decode cX1_digest 26 = .ok (.ldc2_w 128, 3) := by decide +kernel
theorem dX1_digest_29 : decode cX1_digest 29 = .ok (.lmul, 1) := by decide +kernel
theorem dX1_digest_30 : decode cX1_digest 30 = .ok (.aload_n 0, 1) := by decide +kernel
theorem dX1_digest_31 : decode cX1_digest 31 = .ok (.getfield 9, 3) := by decide +kernel
theorem dX1_digest_34 : decode cX1_digest 34 = .ok (.iload_n 3, 1) := by decide +kernel
theorem dX1_digest_35 : decode cX1_digest 35 = .ok (.iaload, 1) := by decide +kernel
theorem dX1_digest_36 : decode cX1_digest 36 = .ok (.i2l, 1) := by decide +kernel
theorem dX1_digest_37 : decode cX1_digest 37 = .ok (.ladd, 1) := by decide +kernel
theorem dX1_digest_38 : decode cX1_digest 38 = .ok (.lstore_n 1, 1) := by decide +kernel
theorem dX1_digest_39 : decode cX1_digest 39 = .ok (.iinc 3 1, 3) := by decide +kernel
theorem dX1_digest_42 : decode cX1_digest 42 = .ok (.goto (-25), 3) := by decide +kernel
theorem dX1_digest_45 : decode cX1_digest 45 = .ok (.lload_n 1, 1) := by decide +kernel
theorem dX1_digest_46 : decode cX1_digest 46 = .ok (.ldc2_w 128, 3) := by decide +kernel
theorem dX1_digest_49 : decode cX1_digest 49 = .ok (.lmul, 1) := by decide +kernel
theorem dX1_digest_50 : decode cX1_digest 50 = .ok (.aload_n 0, 1) := by decide +kernel
theorem dX1_digest_51 : decode cX1_digest 51 = .ok (.getfield 32, 3) := by decide +kernel
theorem dX1_digest_54 : decode cX1_digest 54 = .ok (.i2l, 1) := by decide +kernel
theorem dX1_digest_55 : decode cX1_digest 55 = .ok (.ladd, 1) := by decide +kernel
theorem dX1_digest_56 : decode cX1_digest 56 = .ok (.lstore_n 1, 1) := by decide +kernel
theorem dX1_digest_57 : decode cX1_digest 57 = .ok (.iconst 0, 1) := by decide +kernel
theorem dX1_digest_58 : decode cX1_digest 58 = .ok (.istore_n 3, 1) := by decide +kernel
theorem dX1_digest_59 : decode cX1_digest 59 = .ok (.iload_n 3, 1) := by decide +kernel
theorem dX1_digest_60 : decode cX1_digest 60 = .ok (.bipush 6, 2) := by decide +kernel
theorem dX1_digest_62 : decode cX1_digest 62 = .ok (.if_icmp .ge 78, 3) := by decide +kernel
theorem dX1_digest_65 : decode cX1_digest 65 = .ok (.lload_n 1, 1) := by decide +kernel
theorem dX1_digest_66 : decode cX1_digest 66 = .ok (.ldc2_w 128, 3) := by decide +kernel
theorem dX1_digest_69 : decode cX1_digest 69 = .ok (.lmul, 1) := by decide +kernel
theorem dX1_digest_70 : decode cX1_digest 70 = .ok (.aload_n 0, 1) := by decide +kernel
theorem dX1_digest_71 : decode cX1_digest 71 = .ok (.getfield 23, 3) := by decide +kernel
theorem dX1_digest_74 : decode cX1_digest 74 = .ok (.iload_n 3, 1) := by decide +kernel
theorem dX1_digest_75 : decode cX1_digest 75 = .ok (.iaload, 1) := by decide +kernel
theorem dX1_digest_76 : decode cX1_digest 76 = .ok (.i2l, 1) := by decide +kernel
theorem dX1_digest_77 : decode cX1_digest 77 = .ok (.ladd, 1) := by decide +kernel
theorem dX1_digest_78 : decode cX1_digest 78 = .ok (.ldc2_w 128, 3) := by decide +kernel
theorem dX1_digest_81 : decode cX1_digest 81 = .ok (.lmul, 1) := by decide +kernel
theorem dX1_digest_82 : decode cX1_digest 82 = .ok (.aload_n 0, 1) := by decide +kernel
theorem dX1_digest_83 : decode cX1_digest 83 = .ok (.getfield 26, 3) := by decide +kernel
theorem dX1_digest_86 : decode cX1_digest 86 = .ok (.iload_n 3, 1) := by decide +kernel
theorem dX1_digest_87 : decode cX1_digest 87 = .ok (.baload, 1) := by decide +kernel
theorem dX1_digest_88 : decode cX1_digest 88 = .ok (.ifCond .eq 7, 3) := by decide +kernel
theorem dX1_digest_91 : decode cX1_digest 91 = .ok (.lconst 1, 1) := by decide +kernel
theorem dX1_digest_92 : decode cX1_digest 92 = .ok (.goto 4, 3) := by decide +kernel
theorem dX1_digest_95 : decode cX1_digest 95 = .ok (.lconst 0, 1) := by decide +kernel
theorem dX1_digest_96 : decode cX1_digest 96 = .ok (.ladd, 1) := by decide +kernel
theorem dX1_digest_97 : decode cX1_digest 97 = .ok (.lstore_n 1, 1) := by decide +kernel
theorem dX1_digest_98 : decode cX1_digest 98 = .ok (.iconst 0, 1) := by decide +kernel
theorem dX1_digest_99 : decode cX1_digest 99 = .ok (.istore 4, 2) := by decide +kernel
theorem dX1_digest_101 : decode cX1_digest 101 = .ok (.iload 4, 2) := by decide +kernel
theorem dX1_digest_103 : decode cX1_digest 103 = .ok (.bipush 6, 2) := by decide +kernel
theorem dX1_digest_105 : decode cX1_digest 105 = .ok (.if_icmp .ge 29, 3) := by decide +kernel
theorem dX1_digest_108 : decode cX1_digest 108 = .ok (.lload_n 1, 1) := by decide +kernel
theorem dX1_digest_109 : decode cX1_digest 109 = .ok (.ldc2_w 128, 3) := by decide +kernel
theorem dX1_digest_112 : decode cX1_digest 112 = .ok (.lmul, 1) := by decide +kernel
theorem dX1_digest_113 : decode cX1_digest 113 = .ok (.aload_n 0, 1) := by decide +kernel
theorem dX1_digest_114 : decode cX1_digest 114 = .ok (.getfield 29, 3) := by decide +kernel
theorem dX1_digest_117 : decode cX1_digest 117 = .ok (.bipush 6, 2) := by decide +kernel
theorem dX1_digest_119 : decode cX1_digest 119 = .ok (.iload_n 3, 1) := by decide +kernel
theorem dX1_digest_120 : decode cX1_digest 120 = .ok (.imul, 1) := by decide +kernel
theorem dX1_digest_121 : decode cX1_digest 121 = .ok (.iload 4, 2) := by decide +kernel
theorem dX1_digest_123 : decode cX1_digest 123 = .ok (.iadd, 1) := by decide +kernel
theorem dX1_digest_124 : decode cX1_digest 124 = .ok (.iaload, 1) := by decide +kernel
theorem dX1_digest_125 : decode cX1_digest 125 = .ok (.i2l, 1) := by decide +kernel
theorem dX1_digest_126 : decode cX1_digest 126 = .ok (.ladd, 1) := by decide +kernel
theorem dX1_digest_127 : decode cX1_digest 127 = .ok (.lstore_n 1, 1) := by decide +kernel
theorem dX1_digest_128 : decode cX1_digest 128 = .ok (.iinc 4 1, 3) := by decide +kernel
theorem dX1_digest_131 : decode cX1_digest 131 = .ok (.goto (-30), 3) := by decide +kernel
theorem dX1_digest_134 : decode cX1_digest 134 = .ok (.iinc 3 1, 3) := by decide +kernel
theorem dX1_digest_137 : decode cX1_digest 137 = .ok (.goto (-78), 3) := by decide +kernel
theorem dX1_digest_140 : decode cX1_digest 140 = .ok (.aload_n 0, 1) := by decide +kernel
theorem dX1_digest_141 : decode cX1_digest 141 = .ok (.invokevirtual 80, 3) := by decide +kernel
theorem dX1_digest_144 : decode cX1_digest 144 = .ok (.istore_n 3, 1) := by decide +kernel
theorem dX1_digest_145 : decode cX1_digest 145 = .ok (.aload_n 0, 1) := by decide +kernel
theorem dX1_digest_146 : decode cX1_digest 146 = .ok (.iload_n 3, 1) := by decide +kernel
theorem dX1_digest_147 : decode cX1_digest 147 = .ok (.invokevirtual 97, 3) := by decide +kernel
theorem dX1_digest_150 : decode cX1_digest 150 = .ok (.istore 4, 2) := by decide +kernel
theorem dX1_digest_152 : decode cX1_digest 152 = .ok (.iconst 0, 1) := by decide +kernel
theorem dX1_digest_153 : decode cX1_digest 153 = .ok (.istore 5, 2) := by decide +kernel
theorem dX1_digest_155 : decode cX1_digest 155 = .ok (.iload 5, 2) := by decide +kernel
theorem dX1_digest_157 : decode cX1_digest 157 = .ok (.bipush 6, 2) := by decide +kernel
theorem dX1_digest_159 : decode cX1_digest 159 = .ok (.if_icmp .ge 50, 3) := by decide +kernel
theorem dX1_digest_162 : decode cX1_digest 162 = .ok (.lload_n 1, 1) := by decide +kernel
theorem dX1_digest_163 : decode cX1_digest 163 = .ok (.ldc2_w 128, 3) := by decide +kernel
theorem dX1_digest_166 : decode cX1_digest 166 = .ok (.lmul, 1) := by decide +kernel
theorem dX1_digest_167 : decode cX1_digest 167 = .ok (.aload_n 0, 1) := by decide +kernel
theorem dX1_digest_168 : decode cX1_digest 168 = .ok (.getfield 36, 3) := by decide +kernel
theorem dX1_digest_171 : decode cX1_digest 171 = .ok (.iload 5, 2) := by decide +kernel
theorem dX1_digest_173 : decode cX1_digest 173 = .ok (.iaload, 1) := by decide +kernel
theorem dX1_digest_174 : decode cX1_digest 174 = .ok (.i2l, 1) := by decide +kernel
theorem dX1_digest_175 : decode cX1_digest 175 = .ok (.ladd, 1) := by decide +kernel
theorem dX1_digest_176 : decode cX1_digest 176 = .ok (.ldc2_w 128, 3) := by decide +kernel
theorem dX1_digest_179 : decode cX1_digest 179 = .ok (.lmul, 1) := by decide +kernel
theorem dX1_digest_180 : decode cX1_digest 180 = .ok (.aload_n 0, 1) := by decide +kernel
theorem dX1_digest_181 : decode cX1_digest 181 = .ok (.iload_n 3, 1) := by decide +kernel
theorem dX1_digest_182 : decode cX1_digest 182 = .ok (.iload 5, 2) := by decide +kernel
theorem dX1_digest_184 : decode cX1_digest 184 = .ok (.invokevirtual 84, 3) := by decide +kernel
theorem dX1_digest_187 : decode cX1_digest 187 = .ok (.i2l, 1) := by decide +kernel
theorem dX1_digest_188 : decode cX1_digest 188 = .ok (.ladd, 1) := by decide +kernel
theorem dX1_digest_189 : decode cX1_digest 189 = .ok (.ldc2_w 128, 3) := by decide +kernel
theorem dX1_digest_192 : decode cX1_digest 192 = .ok (.lmul, 1) := by decide +kernel
theorem dX1_digest_193 : decode cX1_digest 193 = .ok (.iload 4, 2) := by decide +kernel
theorem dX1_digest_195 : decode cX1_digest 195 = .ok (.iload 5, 2) := by decide +kernel
theorem dX1_digest_197 : decode cX1_digest 197 = .ok (.invokestatic 103, 3) := by decide +kernel
theorem dX1_digest_200 : decode cX1_digest 200 = .ok (.i2l, 1) := by decide +kernel
theorem dX1_digest_201 : decode cX1_digest 201 = .ok (.ladd, 1) := by decide +kernel
theorem dX1_digest_202 : decode cX1_digest 202 = .ok (.lstore_n 1, 1) := by decide +kernel
theorem dX1_digest_203 : decode cX1_digest 203 = .ok (.iinc 5 1, 3) := by decide +kernel
theorem dX1_digest_206 : decode cX1_digest 206 = .ok (.goto (-51), 3) := by decide +kernel
theorem dX1_digest_209 : decode cX1_digest 209 = .ok (.lload_n 1, 1) := by decide +kernel
theorem dX1_digest_210 : decode cX1_digest 210 = .ok (.ldc2_w 128, 3) := by decide +kernel
theorem dX1_digest_213 : decode cX1_digest 213 = .ok (.lmul, 1) := by decide +kernel
theorem dX1_digest_214 : decode cX1_digest 214 = .ok (.aload_n 0, 1) := by decide +kernel
theorem dX1_digest_215 : decode cX1_digest 215 = .ok (.invokevirtual 106, 3) := by decide +kernel
theorem dX1_digest_218 : decode cX1_digest 218 = .ok (.i2l, 1) := by decide +kernel
theorem dX1_digest_219 : decode cX1_digest 219 = .ok (.ladd, 1) := by decide +kernel
theorem dX1_digest_220 : decode cX1_digest 220 = .ok (.ldc2_w 128, 3) := by decide +kernel
theorem dX1_digest_223 : decode cX1_digest 223 = .ok (.lmul, 1) := by decide +kernel
theorem dX1_digest_224 : decode cX1_digest 224 = .ok (.aload_n 0, 1) := by decide +kernel
theorem dX1_digest_225 : decode cX1_digest 225 = .ok (.getfield 39, 3) := by decide +kernel
theorem dX1_digest_228 : decode cX1_digest 228 = .ok (.i2l, 1) := by decide +kernel
theorem dX1_digest_229 : decode cX1_digest 229 = .ok (.ladd, 1) := by decide +kernel
theorem dX1_digest_230 : decode cX1_digest 230 = .ok (.lreturn, 1) := by decide +kernel
theorem dJ6_bitCount_0f7a4_0 : decode cJ6_bitCount_0f7a4 0 = .ok (.iload_n 0, 1) := by decide +kernel
theorem dJ6_bitCount_0f7a4_1 : decode cJ6_bitCount_0f7a4 1 = .ok (.iload_n 0, 1) := by decide +kernel
theorem dJ6_bitCount_0f7a4_2 : decode cJ6_bitCount_0f7a4 2 = .ok (.iconst 1, 1) := by decide +kernel
theorem dJ6_bitCount_0f7a4_3 : decode cJ6_bitCount_0f7a4 3 = .ok (.iushr, 1) := by decide +kernel
theorem dJ6_bitCount_0f7a4_4 : decode cJ6_bitCount_0f7a4 4 = .ok (.ldc_w 265, 3) := by decide +kernel
theorem dJ6_bitCount_0f7a4_7 : decode cJ6_bitCount_0f7a4 7 = .ok (.iand, 1) := by decide +kernel
theorem dJ6_bitCount_0f7a4_8 : decode cJ6_bitCount_0f7a4 8 = .ok (.isub, 1) := by decide +kernel
theorem dJ6_bitCount_0f7a4_9 : decode cJ6_bitCount_0f7a4 9 = .ok (.istore_n 0, 1) := by decide +kernel
theorem dJ6_bitCount_0f7a4_10 : decode cJ6_bitCount_0f7a4 10 = .ok (.iload_n 0, 1) := by decide +kernel
theorem dJ6_bitCount_0f7a4_11 : decode cJ6_bitCount_0f7a4 11 = .ok (.ldc_w 266, 3) := by decide +kernel
theorem dJ6_bitCount_0f7a4_14 : decode cJ6_bitCount_0f7a4 14 = .ok (.iand, 1) := by decide +kernel
theorem dJ6_bitCount_0f7a4_15 : decode cJ6_bitCount_0f7a4 15 = .ok (.iload_n 0, 1) := by decide +kernel
theorem dJ6_bitCount_0f7a4_16 : decode cJ6_bitCount_0f7a4 16 = .ok (.iconst 2, 1) := by decide +kernel
theorem dJ6_bitCount_0f7a4_17 : decode cJ6_bitCount_0f7a4 17 = .ok (.iushr, 1) := by decide +kernel
theorem dJ6_bitCount_0f7a4_18 : decode cJ6_bitCount_0f7a4 18 = .ok (.ldc_w 266, 3) := by decide +kernel
theorem dJ6_bitCount_0f7a4_21 : decode cJ6_bitCount_0f7a4 21 = .ok (.iand, 1) := by decide +kernel
theorem dJ6_bitCount_0f7a4_22 : decode cJ6_bitCount_0f7a4 22 = .ok (.iadd, 1) := by decide +kernel
theorem dJ6_bitCount_0f7a4_23 : decode cJ6_bitCount_0f7a4 23 = .ok (.istore_n 0, 1) := by decide +kernel
theorem dJ6_bitCount_0f7a4_24 : decode cJ6_bitCount_0f7a4 24 = .ok (.iload_n 0, 1) := by decide +kernel
theorem dJ6_bitCount_0f7a4_25 : decode cJ6_bitCount_0f7a4 25 = .ok (.iload_n 0, 1) := by decide +kernel
theorem dJ6_bitCount_0f7a4_26 : decode cJ6_bitCount_0f7a4 26 = .ok (.iconst 4, 1) := by decide +kernel
theorem dJ6_bitCount_0f7a4_27 : decode cJ6_bitCount_0f7a4 27 = .ok (.iushr, 1) := by decide +kernel
theorem dJ6_bitCount_0f7a4_28 : decode cJ6_bitCount_0f7a4 28 = .ok (.iadd, 1) := by decide +kernel
theorem dJ6_bitCount_0f7a4_29 : decode cJ6_bitCount_0f7a4 29 = .ok (.ldc_w 267, 3) := by decide +kernel
theorem dJ6_bitCount_0f7a4_32 : decode cJ6_bitCount_0f7a4 32 = .ok (.iand, 1) := by decide +kernel
theorem dJ6_bitCount_0f7a4_33 : decode cJ6_bitCount_0f7a4 33 = .ok (.istore_n 0, 1) := by decide +kernel
theorem dJ6_bitCount_0f7a4_34 : decode cJ6_bitCount_0f7a4 34 = .ok (.iload_n 0, 1) := by decide +kernel
theorem dJ6_bitCount_0f7a4_35 : decode cJ6_bitCount_0f7a4 35 = .ok (.iload_n 0, 1) := by decide +kernel
theorem dJ6_bitCount_0f7a4_36 : decode cJ6_bitCount_0f7a4 36 = .ok (.bipush 8, 2) := by decide +kernel
theorem dJ6_bitCount_0f7a4_38 : decode cJ6_bitCount_0f7a4 38 = .ok (.iushr, 1) := by decide +kernel
theorem dJ6_bitCount_0f7a4_39 : decode cJ6_bitCount_0f7a4 39 = .ok (.iadd, 1) := by decide +kernel
theorem dJ6_bitCount_0f7a4_40 : decode cJ6_bitCount_0f7a4 40 = .ok (.istore_n 0, 1) := by decide +kernel
theorem dJ6_bitCount_0f7a4_41 : decode cJ6_bitCount_0f7a4 41 = .ok (.iload_n 0, 1) := by decide +kernel
theorem dJ6_bitCount_0f7a4_42 : decode cJ6_bitCount_0f7a4 42 = .ok (.iload_n 0, 1) := by decide +kernel
theorem dJ6_bitCount_0f7a4_43 : decode cJ6_bitCount_0f7a4 43 = .ok (.bipush 16, 2) := by decide +kernel
theorem dJ6_bitCount_0f7a4_45 : decode cJ6_bitCount_0f7a4 45 = .ok (.iushr, 1) := by decide +kernel
theorem dJ6_bitCount_0f7a4_46 : decode cJ6_bitCount_0f7a4 46 = .ok (.iadd, 1) := by decide +kernel
theorem dJ6_bitCount_0f7a4_47 : decode cJ6_bitCount_0f7a4 47 = .ok (.istore_n 0, 1) := by decide +kernel
theorem dJ6_bitCount_0f7a4_48 : decode cJ6_bitCount_0f7a4 48 = .ok (.iload_n 0, 1) := by decide +kernel
theorem dJ6_bitCount_0f7a4_49 : decode cJ6_bitCount_0f7a4 49 = .ok (.bipush 63, 2) := by decide +kernel
theorem dJ6_bitCount_0f7a4_51 : decode cJ6_bitCount_0f7a4 51 = .ok (.iand, 1) := by decide +kernel
theorem dJ6_bitCount_0f7a4_52 : decode cJ6_bitCount_0f7a4 52 = .ok (.ireturn, 1) := by decide +kernel
theorem dJ13_bitCount_95d88_0 : decode cJ13_bitCount_95d88 0 = .ok (.lload_n 0, 1) := by decide +kernel
theorem dJ13_bitCount_95d88_1 : decode cJ13_bitCount_95d88 1 = .ok (.lload_n 0, 1) := by decide +kernel
theorem dJ13_bitCount_95d88_2 : decode cJ13_bitCount_95d88 2 = .ok (.iconst 1, 1) := by decide +kernel
theorem dJ13_bitCount_95d88_3 : decode cJ13_bitCount_95d88 3 = .ok (.lushr, 1) := by decide +kernel
theorem dJ13_bitCount_95d88_4 : decode cJ13_bitCount_95d88 4 = .ok (.ldc2_w 314, 3) := by decide +kernel
theorem dJ13_bitCount_95d88_7 : decode cJ13_bitCount_95d88 7 = .ok (.land, 1) := by decide +kernel
theorem dJ13_bitCount_95d88_8 : decode cJ13_bitCount_95d88 8 = .ok (.lsub, 1) := by decide +kernel
theorem dJ13_bitCount_95d88_9 : decode cJ13_bitCount_95d88 9 = .ok (.lstore_n 0, 1) := by decide +kernel
theorem dJ13_bitCount_95d88_10 : decode cJ13_bitCount_95d88 10 = .ok (.lload_n 0, 1) := by decide +kernel
theorem dJ13_bitCount_95d88_11 : decode cJ13_bitCount_95d88 11 = .ok (.ldc2_w 316, 3) := by decide +kernel
theorem dJ13_bitCount_95d88_14 : decode cJ13_bitCount_95d88 14 = .ok (.land, 1) := by decide +kernel
theorem dJ13_bitCount_95d88_15 : decode cJ13_bitCount_95d88 15 = .ok (.lload_n 0, 1) := by decide +kernel
theorem dJ13_bitCount_95d88_16 : decode cJ13_bitCount_95d88 16 = .ok (.iconst 2, 1) := by decide +kernel
theorem dJ13_bitCount_95d88_17 : decode cJ13_bitCount_95d88 17 = .ok (.lushr, 1) := by decide +kernel
theorem dJ13_bitCount_95d88_18 : decode cJ13_bitCount_95d88 18 = .ok (.ldc2_w 316, 3) := by decide +kernel
theorem dJ13_bitCount_95d88_21 : decode cJ13_bitCount_95d88 21 = .ok (.land, 1) := by decide +kernel
theorem dJ13_bitCount_95d88_22 : decode cJ13_bitCount_95d88 22 = .ok (.ladd, 1) := by decide +kernel
theorem dJ13_bitCount_95d88_23 : decode cJ13_bitCount_95d88 23 = .ok (.lstore_n 0, 1) := by decide +kernel
theorem dJ13_bitCount_95d88_24 : decode cJ13_bitCount_95d88 24 = .ok (.lload_n 0, 1) := by decide +kernel
theorem dJ13_bitCount_95d88_25 : decode cJ13_bitCount_95d88 25 = .ok (.lload_n 0, 1) := by decide +kernel
theorem dJ13_bitCount_95d88_26 : decode cJ13_bitCount_95d88 26 = .ok (.iconst 4, 1) := by decide +kernel
theorem dJ13_bitCount_95d88_27 : decode cJ13_bitCount_95d88 27 = .ok (.lushr, 1) := by decide +kernel
theorem dJ13_bitCount_95d88_28 : decode cJ13_bitCount_95d88 28 = .ok (.ladd, 1) := by decide +kernel
theorem dJ13_bitCount_95d88_29 : decode cJ13_bitCount_95d88 29 = .ok (.ldc2_w 318, 3) := by decide +kernel
theorem dJ13_bitCount_95d88_32 : decode cJ13_bitCount_95d88 32 = .ok (.land, 1) := by decide +kernel
theorem dJ13_bitCount_95d88_33 : decode cJ13_bitCount_95d88 33 = .ok (.lstore_n 0, 1) := by decide +kernel
theorem dJ13_bitCount_95d88_34 : decode cJ13_bitCount_95d88 34 = .ok (.lload_n 0, 1) := by decide +kernel
theorem dJ13_bitCount_95d88_35 : decode cJ13_bitCount_95d88 35 = .ok (.lload_n 0, 1) := by decide +kernel
theorem dJ13_bitCount_95d88_36 : decode cJ13_bitCount_95d88 36 = .ok (.bipush 8, 2) := by decide +kernel
theorem dJ13_bitCount_95d88_38 : decode cJ13_bitCount_95d88 38 = .ok (.lushr, 1) := by decide +kernel
theorem dJ13_bitCount_95d88_39 : decode cJ13_bitCount_95d88 39 = .ok (.ladd, 1) := by decide +kernel
theorem dJ13_bitCount_95d88_40 : decode cJ13_bitCount_95d88 40 = .ok (.lstore_n 0, 1) := by decide +kernel
theorem dJ13_bitCount_95d88_41 : decode cJ13_bitCount_95d88 41 = .ok (.lload_n 0, 1) := by decide +kernel
theorem dJ13_bitCount_95d88_42 : decode cJ13_bitCount_95d88 42 = .ok (.lload_n 0, 1) := by decide +kernel
theorem dJ13_bitCount_95d88_43 : decode cJ13_bitCount_95d88 43 = .ok (.bipush 16, 2) := by decide +kernel
theorem dJ13_bitCount_95d88_45 : decode cJ13_bitCount_95d88 45 = .ok (.lushr, 1) := by decide +kernel
theorem dJ13_bitCount_95d88_46 : decode cJ13_bitCount_95d88 46 = .ok (.ladd, 1) := by decide +kernel
theorem dJ13_bitCount_95d88_47 : decode cJ13_bitCount_95d88 47 = .ok (.lstore_n 0, 1) := by decide +kernel
theorem dJ13_bitCount_95d88_48 : decode cJ13_bitCount_95d88 48 = .ok (.lload_n 0, 1) := by decide +kernel
theorem dJ13_bitCount_95d88_49 : decode cJ13_bitCount_95d88 49 = .ok (.lload_n 0, 1) := by decide +kernel
theorem dJ13_bitCount_95d88_50 : decode cJ13_bitCount_95d88 50 = .ok (.bipush 32, 2) := by decide +kernel
theorem dJ13_bitCount_95d88_52 : decode cJ13_bitCount_95d88 52 = .ok (.lushr, 1) := by decide +kernel
theorem dJ13_bitCount_95d88_53 : decode cJ13_bitCount_95d88 53 = .ok (.ladd, 1) := by decide +kernel
theorem dJ13_bitCount_95d88_54 : decode cJ13_bitCount_95d88 54 = .ok (.lstore_n 0, 1) := by decide +kernel
theorem dJ13_bitCount_95d88_55 : decode cJ13_bitCount_95d88 55 = .ok (.lload_n 0, 1) := by decide +kernel
theorem dJ13_bitCount_95d88_56 : decode cJ13_bitCount_95d88 56 = .ok (.l2i, 1) := by decide +kernel
theorem dJ13_bitCount_95d88_57 : decode cJ13_bitCount_95d88 57 = .ok (.bipush 127, 2) := by decide +kernel
theorem dJ13_bitCount_95d88_59 : decode cJ13_bitCount_95d88 59 = .ok (.iand, 1) := by decide +kernel
theorem dJ13_bitCount_95d88_60 : decode cJ13_bitCount_95d88 60 = .ok (.ireturn, 1) := by decide +kernel
end
section
set_option maxRecDepth 20000 in
theorem ggL_atom_X0_atom : GoodIn wsL_atom wsX0_atom := goodIn_ca (goodIn_ca (goodIn_r _ [7, 8, 9, 10, 11, 12, 6, 13, 14, 15, 16, 17, 18, 19, 20, 21, 22, 23, 24, 25, 26, 27, 28, 29, 30, 31, 32, 33, 34, 35, 36, 37, 38, 39, 40, 41, 42, 43, 44, 45, 46, 47, 48, 49, 50] (by decide +kernel) (by decide +kernel)) (goodIn_sub (fun _ h => List.mem_cons_of_mem _ (List.mem_append_left _ (List.mem_append_right _ h))) (by decide +kernel))) (goodIn_sub (fun _ h => List.mem_cons_of_mem _ (List.mem_append_right _ h)) (by decide +kernel))
set_option maxRecDepth 20000 in
theorem gL_atom_X0_atom : GoodIn wsL_atom (wsV RL 7 RX0 yX0_atom wsX0_atom) := goodIn_app (goodIn_of _ (by decide +kernel)) ggL_atom_X0_atom
theorem dL_atom_0 : decode cL_atom 0 = .ok (.aload_n 2, 1) := by decide +kernel
theorem dL_atom_1 : decode cL_atom 1 = .ok (.iconst 0, 1) := by decide +kernel
theorem dL_atom_2 : decode cL_atom 2 = .ok (.aload_n 0, 1) := by decide +kernel
theorem dL_atom_3 : decode cL_atom 3 = .ok (.iload_n 1, 1) := by decide +kernel
theorem dL_atom_4 : decode cL_atom 4 = .ok (.invokevirtual 7, 3) := by decide +kernel
theorem dL_atom_7 : decode cL_atom 7 = .ok (.i2l, 1) := by decide +kernel
theorem dL_atom_8 : decode cL_atom 8 = .ok (.lastore, 1) := by decide +kernel
theorem dL_atom_9 : decode cL_atom 9 = .ok (.goto 9, 3) := by decide +kernel
theorem dL_atom_12 : decode cL_atom 12 = .ok (.astore_n 3, 1) := by decide +kernel
theorem dL_atom_13 : decode cL_atom 13 = .ok (.iconst 1, 1) := by decide +kernel
theorem dL_atom_14 : decode cL_atom 14 = .ok (.ireturn, 1) := by decide +kernel
theorem dL_atom_15 : decode cL_atom 15 = .ok (.astore_n 3, 1) := by decide +kernel
theorem dL_atom_16 : decode cL_atom 16 = .ok (.iconst 2, 1) := by decide +kernel
theorem dL_atom_17 : decode cL_atom 17 = .ok (.ireturn, 1) := by decide +kernel
theorem dL_atom_18 : decode cL_atom 18 = .ok (.iconst 0, 1) := by decide +kernel
theorem dL_atom_19 : decode cL_atom 19 = .ok (.ireturn, 1) := by decide +kernel
set_option maxRecDepth 20000 in
theorem ggL_constant_X0_constant : GoodIn wsL_constant wsX0_constant := goodIn_ca (goodIn_ca (goodIn_r _ [7, 8, 9, 10, 11, 12, 13, 6, 14, 15, 16, 17, 18, 19, 20, 21, 22, 23, 24, 25, 26, 27, 28, 29, 30, 31, 32, 33, 34, 35, 36, 37, 38, 39, 40, 41, 42, 43] (by decide +kernel) (by decide +kernel)) (goodIn_sub (fun _ h => List.mem_cons_of_mem _ (List.mem_append_left _ (List.mem_append_right _ h))) (by decide +kernel))) (goodIn_sub (fun _ h => List.mem_cons_of_mem _ (List.mem_append_right _ h)) (by decide +kernel))
set_option maxRecDepth 20000 in
theorem gL_constant_X0_constant : GoodIn wsL_constant (wsV RL 17 RX0 yX0_constant wsX0_constant) := goodIn_app (goodIn_of _ (by decide +kernel)) ggL_constant_X0_constant
theorem dL_constant_0 : decode cL_constant 0 = .ok (.aload_n 2, 1) := by decide +kernel
theorem dL_constant_1 : decode cL_constant 1 = .ok (.iconst 0, 1) := by decide +kernel
theorem dL_constant_2 : decode cL_constant 2 = .ok (.aload_n 0, 1) := by decide +kernel
theorem dL_constant_3 : decode cL_constant 3 = .ok (.iload_n 1, 1) := by decide +kernel
theorem dL_constant_4 : decode cL_constant 4 = .ok (.invokevirtual 17, 3) := by decide +kernel
theorem dL_constant_7 : decode cL_constant 7 = .ok (.i2l, 1) := by decide +kernel
theorem dL_constant_8 : decode cL_constant 8 = .ok (.lastore, 1) := by decide +kernel
theorem dL_constant_9 : decode cL_constant 9 = .ok (.goto 9, 3) := by decide +kernel
theorem dL_constant_12 : decode cL_constant 12 = .ok (.astore_n 3, 1) := by decide +kernel
theorem dL_constant_13 : decode cL_constant 13 = .ok (.iconst 1, 1) := by decide +kernel
theorem dL_constant_14 : decode cL_constant 14 = .ok (.ireturn, 1) := by decide +kernel
theorem dL_constant_15 : decode cL_constant 15 = .ok (.astore_n 3, 1) := by decide +kernel
theorem dL_constant_16 : decode cL_constant 16 = .ok (.iconst 2, 1) := by decide +kernel
theorem dL_constant_17 : decode cL_constant 17 = .ok (.ireturn, 1) := by decide +kernel
theorem dL_constant_18 : decode cL_constant 18 = .ok (.iconst 0, 1) := by decide +kernel
theorem dL_constant_19 : decode cL_constant 19 = .ok (.ireturn, 1) := by decide +kernel
set_option maxRecDepth 20000 in
theorem ggL_turn_X0_turn : GoodIn wsL_turn wsX0_turn := goodIn_ca (goodIn_ca (goodIn_ca (goodIn_r _ [8, 9, 10, 11, 12, 13, 14, 15, 16, 17, 18, 7, 19, 20, 21, 22, 23, 24, 25, 26, 27, 28, 29, 30, 31, 32, 33, 34, 35, 36, 37, 38, 39, 40, 41, 42, 43, 44, 45, 46, 47] (by decide +kernel) (by decide +kernel)) (goodIn_sub (fun _ h => List.mem_cons_of_mem _ (List.mem_append_left _ (List.mem_append_left _ (List.mem_append_right _ h)))) (by decide +kernel))) (goodIn_sub (fun _ h => List.mem_cons_of_mem _ (List.mem_append_left _ (List.mem_append_right _ h))) (by decide +kernel))) (goodIn_sub (fun _ h => List.mem_cons_of_mem _ (List.mem_append_right _ h)) (by decide +kernel))
set_option maxRecDepth 20000 in
theorem gL_turn_X0_turn : GoodIn wsL_turn (wsV RL 22 RX0 yX0_turn wsX0_turn) := goodIn_app (goodIn_of _ (by decide +kernel)) ggL_turn_X0_turn
theorem dL_turn_0 : decode cL_turn 0 = .ok (.aload_n 3, 1) := by decide +kernel
theorem dL_turn_1 : decode cL_turn 1 = .ok (.iconst 0, 1) := by decide +kernel
theorem dL_turn_2 : decode cL_turn 2 = .ok (.aload_n 0, 1) := by decide +kernel
theorem dL_turn_3 : decode cL_turn 3 = .ok (.iload_n 1, 1) := by decide +kernel
theorem dL_turn_4 : decode cL_turn 4 = .ok (.iload_n 2, 1) := by decide +kernel
theorem dL_turn_5 : decode cL_turn 5 = .ok (.invokevirtual 22, 3) := by decide +kernel
theorem dL_turn_8 : decode cL_turn 8 = .ok (.i2l, 1) := by decide +kernel
theorem dL_turn_9 : decode cL_turn 9 = .ok (.lastore, 1) := by decide +kernel
theorem dL_turn_10 : decode cL_turn 10 = .ok (.goto 15, 3) := by decide +kernel
theorem dL_turn_13 : decode cL_turn 13 = .ok (.astore 4, 2) := by decide +kernel
theorem dL_turn_15 : decode cL_turn 15 = .ok (.iconst 1, 1) := by decide +kernel
theorem dL_turn_16 : decode cL_turn 16 = .ok (.ireturn, 1) := by decide +kernel
theorem dL_turn_17 : decode cL_turn 17 = .ok (.astore 4, 2) := by decide +kernel
theorem dL_turn_19 : decode cL_turn 19 = .ok (.iconst 2, 1) := by decide +kernel
theorem dL_turn_20 : decode cL_turn 20 = .ok (.ireturn, 1) := by decide +kernel
theorem dL_turn_21 : decode cL_turn 21 = .ok (.astore 4, 2) := by decide +kernel
theorem dL_turn_23 : decode cL_turn 23 = .ok (.iconst 3, 1) := by decide +kernel
theorem dL_turn_24 : decode cL_turn 24 = .ok (.ireturn, 1) := by decide +kernel
theorem dL_turn_25 : decode cL_turn 25 = .ok (.iconst 0, 1) := by decide +kernel
theorem dL_turn_26 : decode cL_turn 26 = .ok (.ireturn, 1) := by decide +kernel
set_option maxRecDepth 20000 in
theorem ggL_join_X0_join : GoodIn wsL_join wsX0_join := goodIn_ca (goodIn_ca (goodIn_ca (goodIn_r _ [8, 9, 10, 11, 12, 13, 14, 15, 16, 17, 7, 18, 19, 20, 21, 22, 23, 24, 25, 26, 27, 28, 29, 30, 31, 32, 33, 34, 35, 36, 37, 38, 39, 40, 41, 42, 43, 44, 45, 46, 47, 48, 49, 50, 51, 52, 53] (by decide +kernel) (by decide +kernel)) (goodIn_sub (fun _ h => List.mem_cons_of_mem _ (List.mem_append_left _ (List.mem_append_left _ (List.mem_append_right _ h)))) (by decide +kernel))) (goodIn_sub (fun _ h => List.mem_cons_of_mem _ (List.mem_append_left _ (List.mem_append_right _ h))) (by decide +kernel))) (goodIn_sub (fun _ h => List.mem_cons_of_mem _ (List.mem_append_right _ h)) (by decide +kernel))
set_option maxRecDepth 20000 in
theorem gL_join_X0_join : GoodIn wsL_join (wsV RL 26 RX0 yX0_join wsX0_join) := goodIn_app (goodIn_of _ (by decide +kernel)) ggL_join_X0_join
theorem dL_join_0 : decode cL_join 0 = .ok (.aload 4, 2) := by decide +kernel
theorem dL_join_2 : decode cL_join 2 = .ok (.iconst 0, 1) := by decide +kernel
theorem dL_join_3 : decode cL_join 3 = .ok (.aload_n 0, 1) := by decide +kernel
theorem dL_join_4 : decode cL_join 4 = .ok (.iload_n 1, 1) := by decide +kernel
theorem dL_join_5 : decode cL_join 5 = .ok (.iload_n 2, 1) := by decide +kernel
theorem dL_join_6 : decode cL_join 6 = .ok (.iload_n 3, 1) := by decide +kernel
theorem dL_join_7 : decode cL_join 7 = .ok (.invokevirtual 26, 3) := by decide +kernel
theorem dL_join_10 : decode cL_join 10 = .ok (.i2l, 1) := by decide +kernel
theorem dL_join_11 : decode cL_join 11 = .ok (.lastore, 1) := by decide +kernel
theorem dL_join_12 : decode cL_join 12 = .ok (.goto 15, 3) := by decide +kernel
theorem dL_join_15 : decode cL_join 15 = .ok (.astore 5, 2) := by decide +kernel
theorem dL_join_17 : decode cL_join 17 = .ok (.iconst 1, 1) := by decide +kernel
theorem dL_join_18 : decode cL_join 18 = .ok (.ireturn, 1) := by decide +kernel
theorem dL_join_19 : decode cL_join 19 = .ok (.astore 5, 2) := by decide +kernel
theorem dL_join_21 : decode cL_join 21 = .ok (.iconst 2, 1) := by decide +kernel
theorem dL_join_22 : decode cL_join 22 = .ok (.ireturn, 1) := by decide +kernel
theorem dL_join_23 : decode cL_join 23 = .ok (.astore 5, 2) := by decide +kernel
theorem dL_join_25 : decode cL_join 25 = .ok (.iconst 3, 1) := by decide +kernel
theorem dL_join_26 : decode cL_join 26 = .ok (.ireturn, 1) := by decide +kernel
theorem dL_join_27 : decode cL_join 27 = .ok (.iconst 0, 1) := by decide +kernel
theorem dL_join_28 : decode cL_join 28 = .ok (.ireturn, 1) := by decide +kernel
set_option maxRecDepth 20000 in
theorem ggL_isSteady_X0_isSteady : GoodIn wsL_isSteady wsX0_isSteady := goodIn_ca (goodIn_r _ [6, 7, 8, 9, 10, 5, 11, 12, 13, 14, 15, 16, 17, 18, 19, 20, 21, 22, 23, 24, 25, 26] (by decide +kernel) (by decide +kernel)) (goodIn_sub (fun _ h => List.mem_cons_of_mem _ (List.mem_append_right _ h)) (by decide +kernel))
set_option maxRecDepth 20000 in
theorem gL_isSteady_X0_isSteady : GoodIn wsL_isSteady (wsV RL 30 RX0 yX0_isSteady wsX0_isSteady) := goodIn_app (goodIn_of _ (by decide +kernel)) ggL_isSteady_X0_isSteady
theorem dL_isSteady_0 : decode cL_isSteady 0 = .ok (.aload_n 2, 1) := by decide +kernel
theorem dL_isSteady_1 : decode cL_isSteady 1 = .ok (.iconst 0, 1) := by decide +kernel
theorem dL_isSteady_2 : decode cL_isSteady 2 = .ok (.aload_n 0, 1) := by decide +kernel
theorem dL_isSteady_3 : decode cL_isSteady 3 = .ok (.iload_n 1, 1) := by decide +kernel
theorem dL_isSteady_4 : decode cL_isSteady 4 = .ok (.invokevirtual 30, 3) := by decide +kernel
theorem dL_isSteady_7 : decode cL_isSteady 7 = .ok (.ifCond .eq 7, 3) := by decide +kernel
theorem dL_isSteady_10 : decode cL_isSteady 10 = .ok (.lconst 1, 1) := by decide +kernel
theorem dL_isSteady_11 : decode cL_isSteady 11 = .ok (.goto 4, 3) := by decide +kernel
theorem dL_isSteady_14 : decode cL_isSteady 14 = .ok (.lconst 0, 1) := by decide +kernel
theorem dL_isSteady_15 : decode cL_isSteady 15 = .ok (.lastore, 1) := by decide +kernel
theorem dL_isSteady_16 : decode cL_isSteady 16 = .ok (.goto 6, 3) := by decide +kernel
theorem dL_isSteady_19 : decode cL_isSteady 19 = .ok (.astore_n 3, 1) := by decide +kernel
theorem dL_isSteady_20 : decode cL_isSteady 20 = .ok (.iconst 1, 1) := by decide +kernel
theorem dL_isSteady_21 : decode cL_isSteady 21 = .ok (.ireturn, 1) := by decide +kernel
theorem dL_isSteady_22 : decode cL_isSteady 22 = .ok (.iconst 0, 1) := by decide +kernel
theorem dL_isSteady_23 : decode cL_isSteady 23 = .ok (.ireturn, 1) := by decide +kernel
set_option maxRecDepth 20000 in
theorem ggL_report_X0_report : GoodIn wsL_report wsX0_report := goodIn_ca (goodIn_ca (goodIn_r _ [7, 8, 9, 10, 6, 11, 12, 13, 14, 15, 16, 17, 18, 19, 20, 21, 22, 23, 24, 25, 26, 27, 28, 29, 30, 31, 32, 33, 34, 35, 36, 37, 38, 39] (by decide +kernel) (by decide +kernel)) (goodIn_sub (fun _ h => List.mem_cons_of_mem _ (List.mem_append_left _ (List.mem_append_right _ h))) (by decide +kernel))) (goodIn_sub (fun _ h => List.mem_cons_of_mem _ (List.mem_append_right _ h)) (by decide +kernel))
set_option maxRecDepth 20000 in
theorem gL_report_X0_report : GoodIn wsL_report (wsV RL 34 RX0 yX0_report wsX0_report) := goodIn_app (goodIn_of _ (by decide +kernel)) ggL_report_X0_report
theorem dL_report_0 : decode cL_report 0 = .ok (.aload 4, 2) := by decide +kernel
theorem dL_report_2 : decode cL_report 2 = .ok (.iconst 0, 1) := by decide +kernel
theorem dL_report_3 : decode cL_report 3 = .ok (.aload_n 0, 1) := by decide +kernel
theorem dL_report_4 : decode cL_report 4 = .ok (.iload_n 1, 1) := by decide +kernel
theorem dL_report_5 : decode cL_report 5 = .ok (.iload_n 2, 1) := by decide +kernel
theorem dL_report_6 : decode cL_report 6 = .ok (.iload_n 3, 1) := by decide +kernel
theorem dL_report_7 : decode cL_report 7 = .ok (.invokevirtual 34, 3) := by decide +kernel
theorem dL_report_10 : decode cL_report 10 = .ok (.i2l, 1) := by decide +kernel
theorem dL_report_11 : decode cL_report 11 = .ok (.lastore, 1) := by decide +kernel
theorem dL_report_12 : decode cL_report 12 = .ok (.goto 11, 3) := by decide +kernel
theorem dL_report_15 : decode cL_report 15 = .ok (.astore 5, 2) := by decide +kernel
theorem dL_report_17 : decode cL_report 17 = .ok (.iconst 1, 1) := by decide +kernel
theorem dL_report_18 : decode cL_report 18 = .ok (.ireturn, 1) := by decide +kernel
theorem dL_report_19 : decode cL_report 19 = .ok (.astore 5, 2) := by decide +kernel
theorem dL_report_21 : decode cL_report 21 = .ok (.iconst 2, 1) := by decide +kernel
theorem dL_report_22 : decode cL_report 22 = .ok (.ireturn, 1) := by decide +kernel
theorem dL_report_23 : decode cL_report 23 = .ok (.iconst 0, 1) := by decide +kernel
theorem dL_report_24 : decode cL_report 24 = .ok (.ireturn, 1) := by decide +kernel
set_option maxRecDepth 20000 in
theorem ggL_setTrust_X0_setTrust : GoodIn wsL_setTrust wsX0_setTrust := goodIn_ca (goodIn_ca (goodIn_r _ [7, 8, 9, 10, 6, 11, 12, 13, 14, 15, 16, 17, 18, 19, 20, 21, 22, 23, 24, 25, 26, 27, 28, 29, 30] (by decide +kernel) (by decide +kernel)) (goodIn_sub (fun _ h => List.mem_cons_of_mem _ (List.mem_append_left _ (List.mem_append_right _ h))) (by decide +kernel))) (goodIn_sub (fun _ h => List.mem_cons_of_mem _ (List.mem_append_right _ h)) (by decide +kernel))
set_option maxRecDepth 20000 in
theorem gL_setTrust_X0_setTrust : GoodIn wsL_setTrust (wsV RL 37 RX0 yX0_setTrust wsX0_setTrust) := goodIn_app (goodIn_of _ (by decide +kernel)) ggL_setTrust_X0_setTrust
theorem dL_setTrust_0 : decode cL_setTrust 0 = .ok (.aload_n 3, 1) := by decide +kernel
theorem dL_setTrust_1 : decode cL_setTrust 1 = .ok (.iconst 0, 1) := by decide +kernel
theorem dL_setTrust_2 : decode cL_setTrust 2 = .ok (.aload_n 0, 1) := by decide +kernel
theorem dL_setTrust_3 : decode cL_setTrust 3 = .ok (.iload_n 1, 1) := by decide +kernel
theorem dL_setTrust_4 : decode cL_setTrust 4 = .ok (.iload_n 2, 1) := by decide +kernel
theorem dL_setTrust_5 : decode cL_setTrust 5 = .ok (.invokevirtual 37, 3) := by decide +kernel
theorem dL_setTrust_8 : decode cL_setTrust 8 = .ok (.i2l, 1) := by decide +kernel
theorem dL_setTrust_9 : decode cL_setTrust 9 = .ok (.lastore, 1) := by decide +kernel
theorem dL_setTrust_10 : decode cL_setTrust 10 = .ok (.goto 11, 3) := by decide +kernel
theorem dL_setTrust_13 : decode cL_setTrust 13 = .ok (.astore 4, 2) := by decide +kernel
theorem dL_setTrust_15 : decode cL_setTrust 15 = .ok (.iconst 1, 1) := by decide +kernel
theorem dL_setTrust_16 : decode cL_setTrust 16 = .ok (.ireturn, 1) := by decide +kernel
theorem dL_setTrust_17 : decode cL_setTrust 17 = .ok (.astore 4, 2) := by decide +kernel
theorem dL_setTrust_19 : decode cL_setTrust 19 = .ok (.iconst 2, 1) := by decide +kernel
theorem dL_setTrust_20 : decode cL_setTrust 20 = .ok (.ireturn, 1) := by decide +kernel
theorem dL_setTrust_21 : decode cL_setTrust 21 = .ok (.iconst 0, 1) := by decide +kernel
theorem dL_setTrust_22 : decode cL_setTrust 22 = .ok (.ireturn, 1) := by decide +kernel
set_option maxRecDepth 20000 in
theorem ggL_setLeastTrust_X0_setLeastTrust : GoodIn wsL_setLeastTrust wsX0_setLeastTrust := goodIn_ca (goodIn_r _ [6, 7, 8, 9, 5, 10, 11, 12, 13, 14, 15, 16, 17, 18, 19, 20, 21, 22, 23, 24] (by decide +kernel) (by decide +kernel)) (goodIn_sub (fun _ h => List.mem_cons_of_mem _ (List.mem_append_right _ h)) (by decide +kernel))
set_option maxRecDepth 20000 in
theorem gL_setLeastTrust_X0_setLeastTrust : GoodIn wsL_setLeastTrust (wsV RL 40 RX0 yX0_setLeastTrust wsX0_setLeastTrust) := goodIn_app (goodIn_of _ (by decide +kernel)) ggL_setLeastTrust_X0_setLeastTrust
theorem dL_setLeastTrust_0 : decode cL_setLeastTrust 0 = .ok (.aload_n 2, 1) := by decide +kernel
theorem dL_setLeastTrust_1 : decode cL_setLeastTrust 1 = .ok (.iconst 0, 1) := by decide +kernel
theorem dL_setLeastTrust_2 : decode cL_setLeastTrust 2 = .ok (.aload_n 0, 1) := by decide +kernel
theorem dL_setLeastTrust_3 : decode cL_setLeastTrust 3 = .ok (.iload_n 1, 1) := by decide +kernel
theorem dL_setLeastTrust_4 : decode cL_setLeastTrust 4 = .ok (.invokevirtual 40, 3) := by decide +kernel
theorem dL_setLeastTrust_7 : decode cL_setLeastTrust 7 = .ok (.i2l, 1) := by decide +kernel
theorem dL_setLeastTrust_8 : decode cL_setLeastTrust 8 = .ok (.lastore, 1) := by decide +kernel
theorem dL_setLeastTrust_9 : decode cL_setLeastTrust 9 = .ok (.goto 6, 3) := by decide +kernel
theorem dL_setLeastTrust_12 : decode cL_setLeastTrust 12 = .ok (.astore_n 3, 1) := by decide +kernel
theorem dL_setLeastTrust_13 : decode cL_setLeastTrust 13 = .ok (.iconst 1, 1) := by decide +kernel
theorem dL_setLeastTrust_14 : decode cL_setLeastTrust 14 = .ok (.ireturn, 1) := by decide +kernel
theorem dL_setLeastTrust_15 : decode cL_setLeastTrust 15 = .ok (.iconst 0, 1) := by decide +kernel
theorem dL_setLeastTrust_16 : decode cL_setLeastTrust 16 = .ok (.ireturn, 1) := by decide +kernel
set_option maxRecDepth 20000 in
theorem ggL_let_X0_let : GoodIn wsL_let wsX0_let := goodIn_ca (goodIn_r _ [6, 7, 8, 9, 5, 10, 11, 12, 13, 14, 15, 16, 17, 18, 19, 20, 21, 22, 23, 24, 25, 26, 27, 28, 29, 30] (by decide +kernel) (by decide +kernel)) (goodIn_sub (fun _ h => List.mem_cons_of_mem _ (List.mem_append_right _ h)) (by decide +kernel))
set_option maxRecDepth 20000 in
theorem gL_let_X0_let : GoodIn wsL_let (wsV RL 43 RX0 yX0_let wsX0_let) := goodIn_app (goodIn_of _ (by decide +kernel)) ggL_let_X0_let
theorem dL_let_0 : decode cL_let 0 = .ok (.aload_n 3, 1) := by decide +kernel
theorem dL_let_1 : decode cL_let 1 = .ok (.iconst 0, 1) := by decide +kernel
theorem dL_let_2 : decode cL_let 2 = .ok (.aload_n 0, 1) := by decide +kernel
theorem dL_let_3 : decode cL_let 3 = .ok (.iload_n 1, 1) := by decide +kernel
theorem dL_let_4 : decode cL_let 4 = .ok (.iload_n 2, 1) := by decide +kernel
theorem dL_let_5 : decode cL_let 5 = .ok (.invokevirtual 43, 3) := by decide +kernel
theorem dL_let_8 : decode cL_let 8 = .ok (.ifCond .eq 7, 3) := by decide +kernel
theorem dL_let_11 : decode cL_let 11 = .ok (.lconst 1, 1) := by decide +kernel
theorem dL_let_12 : decode cL_let 12 = .ok (.goto 4, 3) := by decide +kernel
theorem dL_let_15 : decode cL_let 15 = .ok (.lconst 0, 1) := by decide +kernel
theorem dL_let_16 : decode cL_let 16 = .ok (.lastore, 1) := by decide +kernel
theorem dL_let_17 : decode cL_let 17 = .ok (.goto 7, 3) := by decide +kernel
theorem dL_let_20 : decode cL_let 20 = .ok (.astore 4, 2) := by decide +kernel
theorem dL_let_22 : decode cL_let 22 = .ok (.iconst 1, 1) := by decide +kernel
theorem dL_let_23 : decode cL_let 23 = .ok (.ireturn, 1) := by decide +kernel
theorem dL_let_24 : decode cL_let 24 = .ok (.iconst 0, 1) := by decide +kernel
theorem dL_let_25 : decode cL_let 25 = .ok (.ireturn, 1) := by decide +kernel
set_option maxRecDepth 20000 in
theorem ggL_setRule_X0_setRule : GoodIn wsL_setRule wsX0_setRule := goodIn_ca (goodIn_ca (goodIn_r _ [7, 8, 9, 10, 6, 11, 12, 13, 14, 15, 16, 17, 18, 19, 20, 21, 22, 23, 24, 25, 26, 27, 28, 29, 30, 31, 32, 33, 34, 35, 36, 37] (by decide +kernel) (by decide +kernel)) (goodIn_sub (fun _ h => List.mem_cons_of_mem _ (List.mem_append_left _ (List.mem_append_right _ h))) (by decide +kernel))) (goodIn_sub (fun _ h => List.mem_cons_of_mem _ (List.mem_append_right _ h)) (by decide +kernel))
set_option maxRecDepth 20000 in
theorem gL_setRule_X0_setRule : GoodIn wsL_setRule (wsV RL 47 RX0 yX0_setRule wsX0_setRule) := goodIn_app (goodIn_of _ (by decide +kernel)) ggL_setRule_X0_setRule
theorem dL_setRule_0 : decode cL_setRule 0 = .ok (.aload_n 3, 1) := by decide +kernel
theorem dL_setRule_1 : decode cL_setRule 1 = .ok (.iconst 0, 1) := by decide +kernel
theorem dL_setRule_2 : decode cL_setRule 2 = .ok (.aload_n 0, 1) := by decide +kernel
theorem dL_setRule_3 : decode cL_setRule 3 = .ok (.iload_n 1, 1) := by decide +kernel
theorem dL_setRule_4 : decode cL_setRule 4 = .ok (.iload_n 2, 1) := by decide +kernel
theorem dL_setRule_5 : decode cL_setRule 5 = .ok (.invokevirtual 47, 3) := by decide +kernel
theorem dL_setRule_8 : decode cL_setRule 8 = .ok (.i2l, 1) := by decide +kernel
theorem dL_setRule_9 : decode cL_setRule 9 = .ok (.lastore, 1) := by decide +kernel
theorem dL_setRule_10 : decode cL_setRule 10 = .ok (.goto 11, 3) := by decide +kernel
theorem dL_setRule_13 : decode cL_setRule 13 = .ok (.astore 4, 2) := by decide +kernel
theorem dL_setRule_15 : decode cL_setRule 15 = .ok (.iconst 1, 1) := by decide +kernel
theorem dL_setRule_16 : decode cL_setRule 16 = .ok (.ireturn, 1) := by decide +kernel
theorem dL_setRule_17 : decode cL_setRule 17 = .ok (.astore 4, 2) := by decide +kernel
theorem dL_setRule_19 : decode cL_setRule 19 = .ok (.iconst 2, 1) := by decide +kernel
theorem dL_setRule_20 : decode cL_setRule 20 = .ok (.ireturn, 1) := by decide +kernel
theorem dL_setRule_21 : decode cL_setRule 21 = .ok (.iconst 0, 1) := by decide +kernel
theorem dL_setRule_22 : decode cL_setRule 22 = .ok (.ireturn, 1) := by decide +kernel
set_option maxRecDepth 20000 in
theorem ggL_given_X0_given : GoodIn wsL_given wsX0_given := goodIn_ca (goodIn_r _ [6, 7, 8, 5, 9, 10, 11, 12, 13, 14, 15, 16, 17, 18, 19, 20, 21, 22, 23, 24, 25, 26, 27, 28, 29, 30, 31, 32, 33, 34, 35, 36, 37, 38, 39, 40, 41, 42, 43, 44, 45] (by decide +kernel) (by decide +kernel)) (goodIn_sub (fun _ h => List.mem_cons_of_mem _ (List.mem_append_right _ h)) (by decide +kernel))
set_option maxRecDepth 20000 in
theorem gL_given_X0_given : GoodIn wsL_given (wsV RL 50 RX0 yX0_given wsX0_given) := goodIn_app (goodIn_of _ (by decide +kernel)) ggL_given_X0_given
theorem dL_given_0 : decode cL_given 0 = .ok (.aload_n 2, 1) := by decide +kernel
theorem dL_given_1 : decode cL_given 1 = .ok (.iconst 0, 1) := by decide +kernel
theorem dL_given_2 : decode cL_given 2 = .ok (.aload_n 0, 1) := by decide +kernel
theorem dL_given_3 : decode cL_given 3 = .ok (.iload_n 1, 1) := by decide +kernel
theorem dL_given_4 : decode cL_given 4 = .ok (.invokevirtual 50, 3) := by decide +kernel
theorem dL_given_7 : decode cL_given 7 = .ok (.i2l, 1) := by decide +kernel
theorem dL_given_8 : decode cL_given 8 = .ok (.lastore, 1) := by decide +kernel
theorem dL_given_9 : decode cL_given 9 = .ok (.goto 6, 3) := by decide +kernel
theorem dL_given_12 : decode cL_given 12 = .ok (.astore_n 3, 1) := by decide +kernel
theorem dL_given_13 : decode cL_given 13 = .ok (.iconst 1, 1) := by decide +kernel
theorem dL_given_14 : decode cL_given 14 = .ok (.ireturn, 1) := by decide +kernel
theorem dL_given_15 : decode cL_given 15 = .ok (.iconst 0, 1) := by decide +kernel
theorem dL_given_16 : decode cL_given 16 = .ok (.ireturn, 1) := by decide +kernel
set_option maxRecDepth 20000 in
theorem ggL_settled_X0_settled : GoodIn wsL_settled wsX0_settled := goodIn_ca (goodIn_r _ [6, 7, 8, 5, 9, 10, 11, 12, 13, 14, 15, 16, 17, 18, 19, 20, 21, 22, 23, 24, 25, 26, 27, 28, 29, 30, 31, 32, 33, 34, 35, 36, 37, 38, 39, 40, 41, 42, 43, 44, 45, 46, 47, 48, 49, 50, 51, 52, 53, 54, 55, 56, 57, 58, 59, 60, 61, 62, 63, 64, 65, 66, 67] (by decide +kernel) (by decide +kernel)) (goodIn_sub (fun _ h => List.mem_cons_of_mem _ (List.mem_append_right _ h)) (by decide +kernel))
set_option maxRecDepth 20000 in
theorem gL_settled_X0_settled : GoodIn wsL_settled (wsV RL 53 RX0 yX0_settled wsX0_settled) := goodIn_app (goodIn_of _ (by decide +kernel)) ggL_settled_X0_settled
theorem dL_settled_0 : decode cL_settled 0 = .ok (.aload_n 2, 1) := by decide +kernel
theorem dL_settled_1 : decode cL_settled 1 = .ok (.iconst 0, 1) := by decide +kernel
theorem dL_settled_2 : decode cL_settled 2 = .ok (.aload_n 0, 1) := by decide +kernel
theorem dL_settled_3 : decode cL_settled 3 = .ok (.iload_n 1, 1) := by decide +kernel
theorem dL_settled_4 : decode cL_settled 4 = .ok (.invokevirtual 53, 3) := by decide +kernel
theorem dL_settled_7 : decode cL_settled 7 = .ok (.i2l, 1) := by decide +kernel
theorem dL_settled_8 : decode cL_settled 8 = .ok (.lastore, 1) := by decide +kernel
theorem dL_settled_9 : decode cL_settled 9 = .ok (.goto 6, 3) := by decide +kernel
theorem dL_settled_12 : decode cL_settled 12 = .ok (.astore_n 3, 1) := by decide +kernel
theorem dL_settled_13 : decode cL_settled 13 = .ok (.iconst 1, 1) := by decide +kernel
theorem dL_settled_14 : decode cL_settled 14 = .ok (.ireturn, 1) := by decide +kernel
theorem dL_settled_15 : decode cL_settled 15 = .ok (.iconst 0, 1) := by decide +kernel
theorem dL_settled_16 : decode cL_settled 16 = .ok (.ireturn, 1) := by decide +kernel
set_option maxRecDepth 20000 in
theorem ggL_since_X0_since : GoodIn wsL_since wsX0_since := goodIn_ca (goodIn_r _ [6, 7, 8, 5, 9, 10, 11, 12, 13, 14, 15, 16, 17, 18, 19, 20, 21, 22, 23, 24, 25, 26, 27, 28, 29, 30, 31, 32, 33, 34, 35, 36, 37, 38, 39, 40, 41, 42, 43, 44, 45, 46, 47, 48, 49, 50, 51, 52, 53, 54, 55, 56, 57, 58, 59, 60, 61, 62] (by decide +kernel) (by decide +kernel)) (goodIn_sub (fun _ h => List.mem_cons_of_mem _ (List.mem_append_right _ h)) (by decide +kernel))
set_option maxRecDepth 20000 in
theorem gL_since_X0_since : GoodIn wsL_since (wsV RL 56 RX0 yX0_since wsX0_since) := goodIn_app (goodIn_of _ (by decide +kernel)) ggL_since_X0_since
theorem dL_since_0 : decode cL_since 0 = .ok (.aload_n 3, 1) := by decide +kernel
theorem dL_since_1 : decode cL_since 1 = .ok (.iconst 0, 1) := by decide +kernel
theorem dL_since_2 : decode cL_since 2 = .ok (.aload_n 0, 1) := by decide +kernel
theorem dL_since_3 : decode cL_since 3 = .ok (.iload_n 1, 1) := by decide +kernel
theorem dL_since_4 : decode cL_since 4 = .ok (.iload_n 2, 1) := by decide +kernel
theorem dL_since_5 : decode cL_since 5 = .ok (.invokevirtual 56, 3) := by decide +kernel
theorem dL_since_8 : decode cL_since 8 = .ok (.i2l, 1) := by decide +kernel
theorem dL_since_9 : decode cL_since 9 = .ok (.lastore, 1) := by decide +kernel
theorem dL_since_10 : decode cL_since 10 = .ok (.goto 7, 3) := by decide +kernel
theorem dL_since_13 : decode cL_since 13 = .ok (.astore 4, 2) := by decide +kernel
theorem dL_since_15 : decode cL_since 15 = .ok (.iconst 1, 1) := by decide +kernel
theorem dL_since_16 : decode cL_since 16 = .ok (.ireturn, 1) := by decide +kernel
theorem dL_since_17 : decode cL_since 17 = .ok (.iconst 0, 1) := by decide +kernel
theorem dL_since_18 : decode cL_since 18 = .ok (.ireturn, 1) := by decide +kernel
set_option maxRecDepth 20000 in
theorem ggL_value_X0_value : GoodIn wsL_value wsX0_value := goodIn_ca (goodIn_r _ [6, 7, 8, 9, 5, 10, 11, 12, 13, 14, 15, 16, 17, 18, 19, 20, 21, 22, 23, 24, 25, 26, 27, 28, 29, 30, 31, 32, 33, 34, 35, 36, 37, 38, 39, 40, 41, 42, 43, 44, 45, 46, 47, 48, 49, 50, 51, 52, 53, 54, 55, 56, 57, 58, 59, 60, 61, 62, 63, 64, 65, 66] (by decide +kernel) (by decide +kernel)) (goodIn_sub (fun _ h => List.mem_cons_of_mem _ (List.mem_append_right _ h)) (by decide +kernel))
set_option maxRecDepth 20000 in
theorem gL_value_X0_value : GoodIn wsL_value (wsV RL 60 RX0 yX0_value wsX0_value) := goodIn_app (goodIn_of _ (by decide +kernel)) ggL_value_X0_value
theorem dL_value_0 : decode cL_value 0 = .ok (.aload_n 2, 1) := by decide +kernel
theorem dL_value_1 : decode cL_value 1 = .ok (.iconst 0, 1) := by decide +kernel
theorem dL_value_2 : decode cL_value 2 = .ok (.aload_n 0, 1) := by decide +kernel
theorem dL_value_3 : decode cL_value 3 = .ok (.iload_n 1, 1) := by decide +kernel
theorem dL_value_4 : decode cL_value 4 = .ok (.invokevirtual 60, 3) := by decide +kernel
theorem dL_value_7 : decode cL_value 7 = .ok (.i2l, 1) := by decide +kernel
theorem dL_value_8 : decode cL_value 8 = .ok (.lastore, 1) := by decide +kernel
theorem dL_value_9 : decode cL_value 9 = .ok (.goto 6, 3) := by decide +kernel
theorem dL_value_12 : decode cL_value 12 = .ok (.astore_n 3, 1) := by decide +kernel
theorem dL_value_13 : decode cL_value 13 = .ok (.iconst 1, 1) := by decide +kernel
theorem dL_value_14 : decode cL_value 14 = .ok (.ireturn, 1) := by decide +kernel
theorem dL_value_15 : decode cL_value 15 = .ok (.iconst 0, 1) := by decide +kernel
theorem dL_value_16 : decode cL_value 16 = .ok (.ireturn, 1) := by decide +kernel
set_option maxRecDepth 20000 in
theorem ggL_sayers_X0_sayers : GoodIn wsL_sayers wsX0_sayers := goodIn_ca (goodIn_r _ [6, 7, 8, 9, 5, 10, 11, 12, 13, 14, 15, 16, 17, 18, 19, 20, 21, 22, 23, 24, 25, 26, 27, 28, 29, 30, 31, 32, 33, 34, 35, 36, 37, 38, 39, 40] (by decide +kernel) (by decide +kernel)) (goodIn_sub (fun _ h => List.mem_cons_of_mem _ (List.mem_append_right _ h)) (by decide +kernel))
set_option maxRecDepth 20000 in
theorem gL_sayers_X0_sayers : GoodIn wsL_sayers (wsV RL 63 RX0 yX0_sayers wsX0_sayers) := goodIn_app (goodIn_of _ (by decide +kernel)) ggL_sayers_X0_sayers
theorem dL_sayers_0 : decode cL_sayers 0 = .ok (.aload_n 3, 1) := by decide +kernel
theorem dL_sayers_1 : decode cL_sayers 1 = .ok (.iconst 0, 1) := by decide +kernel
theorem dL_sayers_2 : decode cL_sayers 2 = .ok (.aload_n 0, 1) := by decide +kernel
theorem dL_sayers_3 : decode cL_sayers 3 = .ok (.iload_n 1, 1) := by decide +kernel
theorem dL_sayers_4 : decode cL_sayers 4 = .ok (.iload_n 2, 1) := by decide +kernel
theorem dL_sayers_5 : decode cL_sayers 5 = .ok (.invokevirtual 63, 3) := by decide +kernel
theorem dL_sayers_8 : decode cL_sayers 8 = .ok (.i2l, 1) := by decide +kernel
theorem dL_sayers_9 : decode cL_sayers 9 = .ok (.lastore, 1) := by decide +kernel
theorem dL_sayers_10 : decode cL_sayers 10 = .ok (.goto 7, 3) := by decide +kernel
theorem dL_sayers_13 : decode cL_sayers 13 = .ok (.astore 4, 2) := by decide +kernel
theorem dL_sayers_15 : decode cL_sayers 15 = .ok (.iconst 1, 1) := by decide +kernel
theorem dL_sayers_16 : decode cL_sayers 16 = .ok (.ireturn, 1) := by decide +kernel
theorem dL_sayers_17 : decode cL_sayers 17 = .ok (.iconst 0, 1) := by decide +kernel
theorem dL_sayers_18 : decode cL_sayers 18 = .ok (.ireturn, 1) := by decide +kernel
set_option maxRecDepth 20000 in
theorem ggL_matters_X0_matters : GoodIn wsL_matters wsX0_matters := goodIn_ca (goodIn_r _ [6, 7, 8, 5, 9, 10, 11, 12, 13, 14, 15, 16, 17, 18, 19, 20, 21, 22, 23, 24, 25, 26, 27, 28, 29, 30, 31, 32, 33, 34, 35, 36, 37, 38, 39, 40, 41, 42, 43, 44, 45, 46, 47, 48, 49, 50, 51, 52, 53, 54, 55, 56, 57, 58, 59, 60, 61, 62, 63, 64, 65, 66] (by decide +kernel) (by decide +kernel)) (goodIn_sub (fun _ h => List.mem_cons_of_mem _ (List.mem_append_right _ h)) (by decide +kernel))
set_option maxRecDepth 20000 in
theorem gL_matters_X0_matters : GoodIn wsL_matters (wsV RL 66 RX0 yX0_matters wsX0_matters) := goodIn_app (goodIn_of _ (by decide +kernel)) ggL_matters_X0_matters
theorem dL_matters_0 : decode cL_matters 0 = .ok (.aload_n 3, 1) := by decide +kernel
theorem dL_matters_1 : decode cL_matters 1 = .ok (.iconst 0, 1) := by decide +kernel
theorem dL_matters_2 : decode cL_matters 2 = .ok (.aload_n 0, 1) := by decide +kernel
theorem dL_matters_3 : decode cL_matters 3 = .ok (.iload_n 1, 1) := by decide +kernel
theorem dL_matters_4 : decode cL_matters 4 = .ok (.iload_n 2, 1) := by decide +kernel
theorem dL_matters_5 : decode cL_matters 5 = .ok (.invokevirtual 66, 3) := by decide +kernel
theorem dL_matters_8 : decode cL_matters 8 = .ok (.ifCond .eq 7, 3) := by decide +kernel
theorem dL_matters_11 : decode cL_matters 11 = .ok (.lconst 1, 1) := by decide +kernel
theorem dL_matters_12 : decode cL_matters 12 = .ok (.goto 4, 3) := by decide +kernel
theorem dL_matters_15 : decode cL_matters 15 = .ok (.lconst 0, 1) := by decide +kernel
theorem dL_matters_16 : decode cL_matters 16 = .ok (.lastore, 1) := by decide +kernel
theorem dL_matters_17 : decode cL_matters 17 = .ok (.goto 7, 3) := by decide +kernel
theorem dL_matters_20 : decode cL_matters 20 = .ok (.astore 4, 2) := by decide +kernel
theorem dL_matters_22 : decode cL_matters 22 = .ok (.iconst 1, 1) := by decide +kernel
theorem dL_matters_23 : decode cL_matters 23 = .ok (.ireturn, 1) := by decide +kernel
theorem dL_matters_24 : decode cL_matters 24 = .ok (.iconst 0, 1) := by decide +kernel
theorem dL_matters_25 : decode cL_matters 25 = .ok (.ireturn, 1) := by decide +kernel
set_option maxRecDepth 20000 in
theorem ggL_contradicted_X0_contradicted : GoodIn wsL_contradicted wsX0_contradicted := goodIn_ca (goodIn_r _ [6, 7, 8, 9, 5, 10, 11, 12, 13, 14, 15, 16, 17, 18, 19, 20, 21, 22, 23, 24, 25, 26, 27, 28, 29, 30, 31, 32, 33, 34, 35, 36, 37, 38, 39, 40, 41, 42, 43, 44, 45, 46, 47, 48, 49, 50, 51, 52, 53, 54, 55, 56, 57, 58, 59, 60, 61, 62, 63, 64, 65, 66, 67, 68, 69, 70, 71, 72, 73] (by decide +kernel) (by decide +kernel)) (goodIn_sub (fun _ h => List.mem_cons_of_mem _ (List.mem_append_right _ h)) (by decide +kernel))
set_option maxRecDepth 20000 in
theorem gL_contradicted_X0_contradicted : GoodIn wsL_contradicted (wsV RL 70 RX0 yX0_contradicted wsX0_contradicted) := goodIn_app (goodIn_of _ (by decide +kernel)) ggL_contradicted_X0_contradicted
theorem dL_contradicted_0 : decode cL_contradicted 0 = .ok (.aload_n 2, 1) := by decide +kernel
theorem dL_contradicted_1 : decode cL_contradicted 1 = .ok (.iconst 0, 1) := by decide +kernel
theorem dL_contradicted_2 : decode cL_contradicted 2 = .ok (.aload_n 0, 1) := by decide +kernel
theorem dL_contradicted_3 : decode cL_contradicted 3 = .ok (.iload_n 1, 1) := by decide +kernel
theorem dL_contradicted_4 : decode cL_contradicted 4 = .ok (.invokevirtual 70, 3) := by decide +kernel
theorem dL_contradicted_7 : decode cL_contradicted 7 = .ok (.i2l, 1) := by decide +kernel
theorem dL_contradicted_8 : decode cL_contradicted 8 = .ok (.lastore, 1) := by decide +kernel
theorem dL_contradicted_9 : decode cL_contradicted 9 = .ok (.goto 6, 3) := by decide +kernel
theorem dL_contradicted_12 : decode cL_contradicted 12 = .ok (.astore_n 3, 1) := by decide +kernel
theorem dL_contradicted_13 : decode cL_contradicted 13 = .ok (.iconst 1, 1) := by decide +kernel
theorem dL_contradicted_14 : decode cL_contradicted 14 = .ok (.ireturn, 1) := by decide +kernel
theorem dL_contradicted_15 : decode cL_contradicted 15 = .ok (.iconst 0, 1) := by decide +kernel
theorem dL_contradicted_16 : decode cL_contradicted 16 = .ok (.ireturn, 1) := by decide +kernel
set_option maxRecDepth 20000 in
theorem ggL_setLogic_X0_setLogic : GoodIn wsL_setLogic wsX0_setLogic := goodIn_ca (goodIn_r _ [6, 7, 8, 9, 10, 11, 12, 5, 13, 14, 15, 16, 17, 18, 19, 20, 21, 22, 23, 24, 25] (by decide +kernel) (by decide +kernel)) (goodIn_sub (fun _ h => List.mem_cons_of_mem _ (List.mem_append_right _ h)) (by decide +kernel))
set_option maxRecDepth 20000 in
theorem gL_setLogic_X0_setLogic : GoodIn wsL_setLogic (wsV RL 73 RX0 yX0_setLogic wsX0_setLogic) := goodIn_app (goodIn_of _ (by decide +kernel)) ggL_setLogic_X0_setLogic
theorem dL_setLogic_0 : decode cL_setLogic 0 = .ok (.aload_n 2, 1) := by decide +kernel
theorem dL_setLogic_1 : decode cL_setLogic 1 = .ok (.iconst 0, 1) := by decide +kernel
theorem dL_setLogic_2 : decode cL_setLogic 2 = .ok (.aload_n 0, 1) := by decide +kernel
theorem dL_setLogic_3 : decode cL_setLogic 3 = .ok (.iload_n 1, 1) := by decide +kernel
theorem dL_setLogic_4 : decode cL_setLogic 4 = .ok (.invokevirtual 73, 3) := by decide +kernel
theorem dL_setLogic_7 : decode cL_setLogic 7 = .ok (.i2l, 1) := by decide +kernel
theorem dL_setLogic_8 : decode cL_setLogic 8 = .ok (.lastore, 1) := by decide +kernel
theorem dL_setLogic_9 : decode cL_setLogic 9 = .ok (.goto 6, 3) := by decide +kernel
theorem dL_setLogic_12 : decode cL_setLogic 12 = .ok (.astore_n 3, 1) := by decide +kernel
theorem dL_setLogic_13 : decode cL_setLogic 13 = .ok (.iconst 1, 1) := by decide +kernel
theorem dL_setLogic_14 : decode cL_setLogic 14 = .ok (.ireturn, 1) := by decide +kernel
theorem dL_setLogic_15 : decode cL_setLogic 15 = .ok (.iconst 0, 1) := by decide +kernel
theorem dL_setLogic_16 : decode cL_setLogic 16 = .ok (.ireturn, 1) := by decide +kernel
set_option maxRecDepth 20000 in
theorem ggL_models_X0_models : GoodIn wsL_models wsX0_models := goodIn_ca (goodIn_r _ [6, 7, 8, 9, 10, 5, 11, 12, 13, 14, 15, 16, 17, 18, 19, 20, 21, 22, 23, 24, 25, 26, 27, 28, 29, 30, 31, 32, 33, 34, 35, 36, 37, 38, 39, 40, 41] (by decide +kernel) (by decide +kernel)) (goodIn_sub (fun _ h => List.mem_cons_of_mem _ (List.mem_append_right _ h)) (by decide +kernel))
set_option maxRecDepth 20000 in
theorem gL_models_X0_models : GoodIn wsL_models (wsV RL 76 RX0 yX0_models wsX0_models) := goodIn_app (goodIn_of _ (by decide +kernel)) ggL_models_X0_models
theorem dL_models_0 : decode cL_models 0 = .ok (.aload_n 2, 1) := by decide +kernel
theorem dL_models_1 : decode cL_models 1 = .ok (.iconst 0, 1) := by decide +kernel
theorem dL_models_2 : decode cL_models 2 = .ok (.aload_n 0, 1) := by decide +kernel
theorem dL_models_3 : decode cL_models 3 = .ok (.iload_n 1, 1) := by decide +kernel
theorem dL_models_4 : decode cL_models 4 = .ok (.invokevirtual 76, 3) := by decide +kernel
theorem dL_models_7 : decode cL_models 7 = .ok (.i2l, 1) := by decide +kernel
theorem dL_models_8 : decode cL_models 8 = .ok (.lastore, 1) := by decide +kernel
theorem dL_models_9 : decode cL_models 9 = .ok (.goto 6, 3) := by decide +kernel
theorem dL_models_12 : decode cL_models 12 = .ok (.astore_n 3, 1) := by decide +kernel
theorem dL_models_13 : decode cL_models 13 = .ok (.iconst 1, 1) := by decide +kernel
theorem dL_models_14 : decode cL_models 14 = .ok (.ireturn, 1) := by decide +kernel
theorem dL_models_15 : decode cL_models 15 = .ok (.iconst 0, 1) := by decide +kernel
theorem dL_models_16 : decode cL_models 16 = .ok (.ireturn, 1) := by decide +kernel
set_option maxRecDepth 20000 in
theorem ggL_range_X0_range : GoodIn wsL_range wsX0_range := goodIn_ca (goodIn_r _ [6, 7, 8, 9, 10, 11, 5, 12, 13, 14, 15, 16, 17, 18, 19, 20, 21, 22, 23, 24, 25, 26, 27, 28, 29, 30, 31, 32, 33, 34, 35, 36, 37, 38, 39, 40, 41, 42] (by decide +kernel) (by decide +kernel)) (goodIn_sub (fun _ h => List.mem_cons_of_mem _ (List.mem_append_right _ h)) (by decide +kernel))
set_option maxRecDepth 20000 in
theorem gL_range_X0_range : GoodIn wsL_range (wsV RL 79 RX0 yX0_range wsX0_range) := goodIn_app (goodIn_of _ (by decide +kernel)) ggL_range_X0_range
theorem dL_range_0 : decode cL_range 0 = .ok (.aload_n 2, 1) := by decide +kernel
theorem dL_range_1 : decode cL_range 1 = .ok (.iconst 0, 1) := by decide +kernel
theorem dL_range_2 : decode cL_range 2 = .ok (.aload_n 0, 1) := by decide +kernel
theorem dL_range_3 : decode cL_range 3 = .ok (.iload_n 1, 1) := by decide +kernel
theorem dL_range_4 : decode cL_range 4 = .ok (.invokevirtual 79, 3) := by decide +kernel
theorem dL_range_7 : decode cL_range 7 = .ok (.i2l, 1) := by decide +kernel
theorem dL_range_8 : decode cL_range 8 = .ok (.lastore, 1) := by decide +kernel
theorem dL_range_9 : decode cL_range 9 = .ok (.goto 6, 3) := by decide +kernel
theorem dL_range_12 : decode cL_range 12 = .ok (.astore_n 3, 1) := by decide +kernel
theorem dL_range_13 : decode cL_range 13 = .ok (.iconst 1, 1) := by decide +kernel
theorem dL_range_14 : decode cL_range 14 = .ok (.ireturn, 1) := by decide +kernel
theorem dL_range_15 : decode cL_range 15 = .ok (.iconst 0, 1) := by decide +kernel
theorem dL_range_16 : decode cL_range 16 = .ok (.ireturn, 1) := by decide +kernel
set_option maxRecDepth 20000 in
theorem ggL_entails_X0_entails : GoodIn wsL_entails wsX0_entails := goodIn_ca (goodIn_r _ [6, 7, 8, 9, 5, 10, 11, 12, 13, 14, 15, 16, 17, 18, 19, 20, 21, 22, 23, 24, 25, 26, 27, 28, 29, 30, 31, 32, 33, 34, 35, 36, 37, 38, 39, 40, 41, 42, 43, 44, 45, 46, 47, 48, 49] (by decide +kernel) (by decide +kernel)) (goodIn_sub (fun _ h => List.mem_cons_of_mem _ (List.mem_append_right _ h)) (by decide +kernel))
set_option maxRecDepth 20000 in
theorem gL_entails_X0_entails : GoodIn wsL_entails (wsV RL 82 RX0 yX0_entails wsX0_entails) := goodIn_app (goodIn_of _ (by decide +kernel)) ggL_entails_X0_entails
theorem dL_entails_0 : decode cL_entails 0 = .ok (.aload_n 3, 1) := by decide +kernel
theorem dL_entails_1 : decode cL_entails 1 = .ok (.iconst 0, 1) := by decide +kernel
theorem dL_entails_2 : decode cL_entails 2 = .ok (.aload_n 0, 1) := by decide +kernel
theorem dL_entails_3 : decode cL_entails 3 = .ok (.iload_n 1, 1) := by decide +kernel
theorem dL_entails_4 : decode cL_entails 4 = .ok (.iload_n 2, 1) := by decide +kernel
theorem dL_entails_5 : decode cL_entails 5 = .ok (.invokevirtual 82, 3) := by decide +kernel
theorem dL_entails_8 : decode cL_entails 8 = .ok (.ifCond .eq 7, 3) := by decide +kernel
theorem dL_entails_11 : decode cL_entails 11 = .ok (.lconst 1, 1) := by decide +kernel
theorem dL_entails_12 : decode cL_entails 12 = .ok (.goto 4, 3) := by decide +kernel
theorem dL_entails_15 : decode cL_entails 15 = .ok (.lconst 0, 1) := by decide +kernel
theorem dL_entails_16 : decode cL_entails 16 = .ok (.lastore, 1) := by decide +kernel
theorem dL_entails_17 : decode cL_entails 17 = .ok (.goto 7, 3) := by decide +kernel
theorem dL_entails_20 : decode cL_entails 20 = .ok (.astore 4, 2) := by decide +kernel
theorem dL_entails_22 : decode cL_entails 22 = .ok (.iconst 1, 1) := by decide +kernel
theorem dL_entails_23 : decode cL_entails 23 = .ok (.ireturn, 1) := by decide +kernel
theorem dL_entails_24 : decode cL_entails 24 = .ok (.iconst 0, 1) := by decide +kernel
theorem dL_entails_25 : decode cL_entails 25 = .ok (.ireturn, 1) := by decide +kernel
set_option maxRecDepth 20000 in
theorem ggL_against_X0_against : GoodIn wsL_against wsX0_against := goodIn_ca (goodIn_r _ [6, 7, 8, 9, 10, 11, 5, 12, 13, 14, 15, 16, 17, 18, 19, 20, 21, 22, 23, 24, 25, 26, 27, 28, 29, 30, 31, 32, 33, 34, 35, 36, 37, 38, 39, 40, 41, 42, 43, 44, 45] (by decide +kernel) (by decide +kernel)) (goodIn_sub (fun _ h => List.mem_cons_of_mem _ (List.mem_append_right _ h)) (by decide +kernel))
set_option maxRecDepth 20000 in
theorem gL_against_X0_against : GoodIn wsL_against (wsV RL 85 RX0 yX0_against wsX0_against) := goodIn_app (goodIn_of _ (by decide +kernel)) ggL_against_X0_against
theorem dL_against_0 : decode cL_against 0 = .ok (.aload_n 3, 1) := by decide +kernel
theorem dL_against_1 : decode cL_against 1 = .ok (.iconst 0, 1) := by decide +kernel
theorem dL_against_2 : decode cL_against 2 = .ok (.aload_n 0, 1) := by decide +kernel
theorem dL_against_3 : decode cL_against 3 = .ok (.iload_n 1, 1) := by decide +kernel
theorem dL_against_4 : decode cL_against 4 = .ok (.iload_n 2, 1) := by decide +kernel
theorem dL_against_5 : decode cL_against 5 = .ok (.invokevirtual 85, 3) := by decide +kernel
theorem dL_against_8 : decode cL_against 8 = .ok (.i2l, 1) := by decide +kernel
theorem dL_against_9 : decode cL_against 9 = .ok (.lastore, 1) := by decide +kernel
theorem dL_against_10 : decode cL_against 10 = .ok (.goto 7, 3) := by decide +kernel
theorem dL_against_13 : decode cL_against 13 = .ok (.astore 4, 2) := by decide +kernel
theorem dL_against_15 : decode cL_against 15 = .ok (.iconst 1, 1) := by decide +kernel
theorem dL_against_16 : decode cL_against 16 = .ok (.ireturn, 1) := by decide +kernel
theorem dL_against_17 : decode cL_against 17 = .ok (.iconst 0, 1) := by decide +kernel
theorem dL_against_18 : decode cL_against 18 = .ok (.ireturn, 1) := by decide +kernel
set_option maxRecDepth 20000 in
theorem ggL_areEqual_X0_areEqual : GoodIn wsL_areEqual wsX0_areEqual := goodIn_ca (goodIn_r _ [6, 7, 8, 9, 5, 10, 11, 12, 13, 14, 15, 16, 17, 18, 19, 20, 21, 22, 23, 24, 25, 26, 27, 28, 29, 30, 31, 32, 33, 34, 35, 36, 37, 38, 39] (by decide +kernel) (by decide +kernel)) (goodIn_sub (fun _ h => List.mem_cons_of_mem _ (List.mem_append_right _ h)) (by decide +kernel))
set_option maxRecDepth 20000 in
theorem gL_areEqual_X0_areEqual : GoodIn wsL_areEqual (wsV RL 88 RX0 yX0_areEqual wsX0_areEqual) := goodIn_app (goodIn_of _ (by decide +kernel)) ggL_areEqual_X0_areEqual
theorem dL_areEqual_0 : decode cL_areEqual 0 = .ok (.aload_n 3, 1) := by decide +kernel
theorem dL_areEqual_1 : decode cL_areEqual 1 = .ok (.iconst 0, 1) := by decide +kernel
theorem dL_areEqual_2 : decode cL_areEqual 2 = .ok (.aload_n 0, 1) := by decide +kernel
theorem dL_areEqual_3 : decode cL_areEqual 3 = .ok (.iload_n 1, 1) := by decide +kernel
theorem dL_areEqual_4 : decode cL_areEqual 4 = .ok (.iload_n 2, 1) := by decide +kernel
theorem dL_areEqual_5 : decode cL_areEqual 5 = .ok (.invokevirtual 88, 3) := by decide +kernel
theorem dL_areEqual_8 : decode cL_areEqual 8 = .ok (.ifCond .eq 7, 3) := by decide +kernel
theorem dL_areEqual_11 : decode cL_areEqual 11 = .ok (.lconst 1, 1) := by decide +kernel
theorem dL_areEqual_12 : decode cL_areEqual 12 = .ok (.goto 4, 3) := by decide +kernel
theorem dL_areEqual_15 : decode cL_areEqual 15 = .ok (.lconst 0, 1) := by decide +kernel
theorem dL_areEqual_16 : decode cL_areEqual 16 = .ok (.lastore, 1) := by decide +kernel
theorem dL_areEqual_17 : decode cL_areEqual 17 = .ok (.goto 7, 3) := by decide +kernel
theorem dL_areEqual_20 : decode cL_areEqual 20 = .ok (.astore 4, 2) := by decide +kernel
theorem dL_areEqual_22 : decode cL_areEqual 22 = .ok (.iconst 1, 1) := by decide +kernel
theorem dL_areEqual_23 : decode cL_areEqual 23 = .ok (.ireturn, 1) := by decide +kernel
theorem dL_areEqual_24 : decode cL_areEqual 24 = .ok (.iconst 0, 1) := by decide +kernel
theorem dL_areEqual_25 : decode cL_areEqual 25 = .ok (.ireturn, 1) := by decide +kernel
set_option maxRecDepth 20000 in
theorem ggL_depends_X0_depends : GoodIn wsL_depends wsX0_depends := goodIn_ca (goodIn_r _ [6, 7, 8, 9, 10, 5, 11, 12, 13, 14, 15, 16, 17, 18, 19, 20, 21, 22, 23, 24, 25, 26, 27, 28, 29, 30, 31, 32, 33, 34, 35, 36, 37, 38, 39, 40, 41, 42, 43, 44, 45, 46, 47, 48, 49, 50, 51, 52, 53, 54, 55, 56, 57, 58, 59, 60, 61, 62, 63, 64, 65, 66, 67, 68, 69, 70, 71] (by decide +kernel) (by decide +kernel)) (goodIn_sub (fun _ h => List.mem_cons_of_mem _ (List.mem_append_right _ h)) (by decide +kernel))
set_option maxRecDepth 20000 in
theorem gL_depends_X0_depends : GoodIn wsL_depends (wsV RL 91 RX0 yX0_depends wsX0_depends) := goodIn_app (goodIn_of _ (by decide +kernel)) ggL_depends_X0_depends
theorem dL_depends_0 : decode cL_depends 0 = .ok (.aload_n 3, 1) := by decide +kernel
theorem dL_depends_1 : decode cL_depends 1 = .ok (.iconst 0, 1) := by decide +kernel
theorem dL_depends_2 : decode cL_depends 2 = .ok (.aload_n 0, 1) := by decide +kernel
theorem dL_depends_3 : decode cL_depends 3 = .ok (.iload_n 1, 1) := by decide +kernel
theorem dL_depends_4 : decode cL_depends 4 = .ok (.iload_n 2, 1) := by decide +kernel
theorem dL_depends_5 : decode cL_depends 5 = .ok (.invokevirtual 91, 3) := by decide +kernel
theorem dL_depends_8 : decode cL_depends 8 = .ok (.ifCond .eq 7, 3) := by decide +kernel
theorem dL_depends_11 : decode cL_depends 11 = .ok (.lconst 1, 1) := by decide +kernel
theorem dL_depends_12 : decode cL_depends 12 = .ok (.goto 4, 3) := by decide +kernel
theorem dL_depends_15 : decode cL_depends 15 = .ok (.lconst 0, 1) := by decide +kernel
theorem dL_depends_16 : decode cL_depends 16 = .ok (.lastore, 1) := by decide +kernel
theorem dL_depends_17 : decode cL_depends 17 = .ok (.goto 7, 3) := by decide +kernel
theorem dL_depends_20 : decode cL_depends 20 = .ok (.astore 4, 2) := by decide +kernel
theorem dL_depends_22 : decode cL_depends 22 = .ok (.iconst 1, 1) := by decide +kernel
theorem dL_depends_23 : decode cL_depends 23 = .ok (.ireturn, 1) := by decide +kernel
theorem dL_depends_24 : decode cL_depends 24 = .ok (.iconst 0, 1) := by decide +kernel
theorem dL_depends_25 : decode cL_depends 25 = .ok (.ireturn, 1) := by decide +kernel
set_option maxRecDepth 20000 in
theorem ggL_valueAt_X0_valueAt : GoodIn wsL_valueAt wsX0_valueAt := goodIn_ca (goodIn_ca (goodIn_r _ [7, 8, 9, 10, 11, 12, 6, 13, 14, 15, 16, 17, 18, 19, 20, 21, 22, 23, 24, 25, 26, 27, 28, 29, 30, 31, 32, 33, 34, 35, 36, 37] (by decide +kernel) (by decide +kernel)) (goodIn_sub (fun _ h => List.mem_cons_of_mem _ (List.mem_append_left _ (List.mem_append_right _ h))) (by decide +kernel))) (goodIn_sub (fun _ h => List.mem_cons_of_mem _ (List.mem_append_right _ h)) (by decide +kernel))
set_option maxRecDepth 20000 in
theorem gL_valueAt_X0_valueAt : GoodIn wsL_valueAt (wsV RL 94 RX0 yX0_valueAt wsX0_valueAt) := goodIn_app (goodIn_of _ (by decide +kernel)) ggL_valueAt_X0_valueAt
theorem dL_valueAt_0 : decode cL_valueAt 0 = .ok (.aload_n 3, 1) := by decide +kernel
theorem dL_valueAt_1 : decode cL_valueAt 1 = .ok (.iconst 0, 1) := by decide +kernel
theorem dL_valueAt_2 : decode cL_valueAt 2 = .ok (.aload_n 0, 1) := by decide +kernel
theorem dL_valueAt_3 : decode cL_valueAt 3 = .ok (.iload_n 1, 1) := by decide +kernel
theorem dL_valueAt_4 : decode cL_valueAt 4 = .ok (.iload_n 2, 1) := by decide +kernel
theorem dL_valueAt_5 : decode cL_valueAt 5 = .ok (.invokevirtual 94, 3) := by decide +kernel
theorem dL_valueAt_8 : decode cL_valueAt 8 = .ok (.i2l, 1) := by decide +kernel
theorem dL_valueAt_9 : decode cL_valueAt 9 = .ok (.lastore, 1) := by decide +kernel
theorem dL_valueAt_10 : decode cL_valueAt 10 = .ok (.goto 11, 3) := by decide +kernel
theorem dL_valueAt_13 : decode cL_valueAt 13 = .ok (.astore 4, 2) := by decide +kernel
theorem dL_valueAt_15 : decode cL_valueAt 15 = .ok (.iconst 1, 1) := by decide +kernel
theorem dL_valueAt_16 : decode cL_valueAt 16 = .ok (.ireturn, 1) := by decide +kernel
theorem dL_valueAt_17 : decode cL_valueAt 17 = .ok (.astore 4, 2) := by decide +kernel
theorem dL_valueAt_19 : decode cL_valueAt 19 = .ok (.iconst 2, 1) := by decide +kernel
theorem dL_valueAt_20 : decode cL_valueAt 20 = .ok (.ireturn, 1) := by decide +kernel
theorem dL_valueAt_21 : decode cL_valueAt 21 = .ok (.iconst 0, 1) := by decide +kernel
theorem dL_valueAt_22 : decode cL_valueAt 22 = .ok (.ireturn, 1) := by decide +kernel
end
section
set_option maxRecDepth 20000 in
theorem ggL_law_X0_init : GoodIn wsL_law wsX0_init := goodIn_r _ [9, 10, 11, 12, 13, 14, 15, 16, 17, 6, 18, 19, 20, 21, 22, 23, 24, 25, 26, 27, 606, 607, 608, 609, 610, 611, 612, 613, 614, 615, 616, 617] (by decide +kernel) (by decide +kernel)
set_option maxRecDepth 20000 in
theorem gL_law_X0_init : GoodIn wsL_law (wsX0_init) := ggL_law_X0_init
set_option maxRecDepth 20000 in
theorem ggL_law_X1_init : GoodIn wsL_law wsX1_init := goodIn_r _ [30, 31, 11, 12, 14, 32, 33, 34, 16, 35, 36, 37, 38, 39, 40, 41, 42, 618, 619, 620, 621, 622, 623, 624, 625, 626, 627, 628, 629, 630] (by decide +kernel) (by decide +kernel)
set_option maxRecDepth 20000 in
theorem gL_law_X1_init : GoodIn wsL_law (wsX1_init) := ggL_law_X1_init
set_option maxRecDepth 20000 in
theorem ggL_law_L_atom : GoodIn wsL_law wsL_atom := goodIn_ca (goodIn_ca (goodIn_r _ [46, 47, 48, 49, 50, 51, 2, 52, 13, 18, 19, 53, 54, 55, 56, 57, 58, 59, 60, 61, 62, 63, 64, 65, 66, 67, 68, 69, 70, 71, 72, 73, 26, 74, 75, 76, 77, 15, 17, 606, 607, 608, 609, 610, 611, 612, 613, 614, 615, 616, 617] (by decide +kernel) (by decide +kernel)) (goodIn_sub (fun _ h => List.mem_append_left _ (List.mem_append_left _ (List.mem_append_right _ h))) (by decide +kernel))) (goodIn_sub (fun _ h => List.mem_append_left _ (List.mem_append_right _ h)) (by decide +kernel))
set_option maxRecDepth 20000 in
theorem gL_law_L_atom : GoodIn wsL_law (va_wsS RL 101 yL_atom wsL_atom) := goodIn_app (goodIn_of _ (by decide +kernel)) ggL_law_L_atom
set_option maxRecDepth 20000 in
theorem ggL_law_X1_atom : GoodIn wsL_law wsX1_atom := goodIn_r _ [81, 82, 83, 84, 5, 85, 86, 87, 88, 89, 90, 91, 92, 93, 32, 33, 34, 35, 94, 95, 96, 97, 618, 619, 620, 621, 622, 623, 624, 625, 626, 627, 628, 629, 630] (by decide +kernel) (by decide +kernel)
set_option maxRecDepth 20000 in
theorem gL_law_X1_atom : GoodIn wsL_law (wsV RL 106 RX1 yX1_atom wsX1_atom) := goodIn_app (goodIn_of _ (by decide +kernel)) ggL_law_X1_atom
set_option maxRecDepth 20000 in
theorem ggL_law_X1_thrown : GoodIn wsL_law wsX1_thrown := goodIn_r _ [101, 82, 618, 619, 620, 621, 622, 623, 624, 625, 626, 627, 628, 629, 630] (by decide +kernel) (by decide +kernel)
set_option maxRecDepth 20000 in
theorem gL_law_X1_thrown : GoodIn wsL_law (wsV RL 107 RX1 yX1_thrown wsX1_thrown) := goodIn_app (goodIn_of _ (by decide +kernel)) ggL_law_X1_thrown
set_option maxRecDepth 20000 in
theorem ggL_law_L_constant : GoodIn wsL_law wsL_constant := goodIn_ca (goodIn_ca (goodIn_r _ [104, 105, 48, 106, 107, 108, 2, 109, 13, 18, 26, 19, 110, 111, 112, 113, 114, 58, 59, 60, 61, 62, 63, 67, 68, 69, 74, 75, 76, 77, 15, 17, 606, 607, 608, 609, 610, 611, 612, 613, 614, 615, 616, 617] (by decide +kernel) (by decide +kernel)) (goodIn_sub (fun _ h => List.mem_append_right _ h) (by decide +kernel))) (goodIn_sub (fun _ h => List.mem_append_left _ (List.mem_append_right _ h)) (by decide +kernel))
set_option maxRecDepth 20000 in
theorem gL_law_L_constant : GoodIn wsL_law (va_wsS RL 111 yL_constant wsL_constant) := goodIn_app (goodIn_of _ (by decide +kernel)) ggL_law_L_constant
set_option maxRecDepth 20000 in
theorem ggL_law_X1_constant : GoodIn wsL_law wsX1_constant := goodIn_r _ [118, 82, 86, 87, 5, 88, 89, 90, 91, 92, 93, 32, 33, 34, 35, 94, 95, 96, 97, 618, 619, 620, 621, 622, 623, 624, 625, 626, 627, 628, 629, 630] (by decide +kernel) (by decide +kernel)
set_option maxRecDepth 20000 in
theorem gL_law_X1_constant : GoodIn wsL_law (wsV RL 113 RX1 yX1_constant wsX1_constant) := goodIn_app (goodIn_of _ (by decide +kernel)) ggL_law_X1_constant
set_option maxRecDepth 20000 in
theorem ggL_law_L_turn : GoodIn wsL_law wsL_turn := goodIn_ca (goodIn_ca (goodIn_ca (goodIn_r _ [121, 47, 105, 48, 122, 123, 124, 2, 125, 113, 114, 13, 18, 19, 26, 17, 126, 127, 128, 129, 56, 57, 58, 59, 60, 61, 62, 63, 67, 68, 69, 74, 75, 76, 77, 15, 606, 607, 608, 609, 610, 611, 612, 613, 614, 615, 616, 617] (by decide +kernel) (by decide +kernel)) (goodIn_sub (fun _ h => List.mem_append_right _ h) (by decide +kernel))) (goodIn_sub (fun _ h => List.mem_append_left _ (List.mem_append_left _ (List.mem_append_right _ h))) (by decide +kernel))) (goodIn_sub (fun _ h => List.mem_append_left _ (List.mem_append_right _ h)) (by decide +kernel))
set_option maxRecDepth 20000 in
theorem gL_law_L_turn : GoodIn wsL_law (va_wsS RL 114 yL_turn wsL_turn) := goodIn_app (goodIn_of _ (by decide +kernel)) ggL_law_L_turn
set_option maxRecDepth 20000 in
theorem ggL_law_X1_turn : GoodIn wsL_law wsX1_turn := goodIn_r _ [133, 82, 35, 134, 135, 136, 5, 137, 93, 86, 87, 88, 94, 95, 96, 97, 89, 90, 91, 92, 32, 33, 34, 618, 619, 620, 621, 622, 623, 624, 625, 626, 627, 628, 629, 630] (by decide +kernel) (by decide +kernel)
set_option maxRecDepth 20000 in
theorem gL_law_X1_turn : GoodIn wsL_law (wsV RL 117 RX1 yX1_turn wsX1_turn) := goodIn_app (goodIn_of _ (by decide +kernel)) ggL_law_X1_turn
set_option maxRecDepth 20000 in
theorem ggL_law_L_join : GoodIn wsL_law wsL_join := goodIn_ca (goodIn_ca (goodIn_ca (goodIn_r _ [140, 47, 105, 48, 141, 142, 143, 2, 144, 113, 114, 13, 18, 19, 17, 126, 127, 128, 129, 56, 57, 58, 59, 60, 61, 62, 63, 67, 68, 69, 145, 146, 147, 26, 148, 149, 150, 74, 75, 76, 77, 15, 606, 607, 608, 609, 610, 611, 612, 613, 614, 615, 616, 617] (by decide +kernel) (by decide +kernel)) (goodIn_sub (fun _ h => List.mem_append_right _ h) (by decide +kernel))) (goodIn_sub (fun _ h => List.mem_append_left _ (List.mem_append_left _ (List.mem_append_right _ h))) (by decide +kernel))) (goodIn_sub (fun _ h => List.mem_append_left _ (List.mem_append_right _ h)) (by decide +kernel))
set_option maxRecDepth 20000 in
theorem gL_law_L_join : GoodIn wsL_law (va_wsS RL 118 yL_join wsL_join) := goodIn_app (goodIn_of _ (by decide +kernel)) ggL_law_L_join
set_option maxRecDepth 20000 in
theorem ggL_law_X1_join : GoodIn wsL_law wsX1_join := goodIn_r _ [154, 82, 35, 134, 135, 136, 5, 137, 93, 86, 87, 88, 94, 95, 96, 97, 89, 90, 91, 92, 32, 33, 34, 618, 619, 620, 621, 622, 623, 624, 625, 626, 627, 628, 629, 630] (by decide +kernel) (by decide +kernel)
set_option maxRecDepth 20000 in
theorem gL_law_X1_join : GoodIn wsL_law (wsV RL 121 RX1 yX1_join wsX1_join) := goodIn_app (goodIn_of _ (by decide +kernel)) ggL_law_X1_join
set_option maxRecDepth 20000 in
theorem ggL_law_X0_formulaCount : GoodIn wsL_law wsX0_formulaCount := goodIn_r _ [158, 13, 606, 607, 608, 609, 610, 611, 612, 613, 614, 615, 616, 617] (by decide +kernel) (by decide +kernel)
set_option maxRecDepth 20000 in
theorem gL_law_X0_formulaCount : GoodIn wsL_law (wsV RL 122 RX0 yX0_formulaCount wsX0_formulaCount) := goodIn_app (goodIn_of _ (by decide +kernel)) ggL_law_X0_formulaCount
set_option maxRecDepth 20000 in
theorem ggL_law_X1_formulaCount : GoodIn wsL_law wsX1_formulaCount := goodIn_r _ [162, 82, 93, 618, 619, 620, 621, 622, 623, 624, 625, 626, 627, 628, 629, 630] (by decide +kernel) (by decide +kernel)
set_option maxRecDepth 20000 in
theorem gL_law_X1_formulaCount : GoodIn wsL_law (wsV RL 125 RX1 yX1_formulaCount wsX1_formulaCount) := goodIn_app (goodIn_of _ (by decide +kernel)) ggL_law_X1_formulaCount
set_option maxRecDepth 20000 in
theorem ggL_law_L_isSteady : GoodIn wsL_law wsL_isSteady := goodIn_ca (goodIn_r _ [165, 47, 166, 167, 168, 2, 169, 17, 126, 127, 128, 129, 56, 57, 13, 606, 607, 608, 609, 610, 611, 612, 613, 614, 615, 616, 617] (by decide +kernel) (by decide +kernel)) (goodIn_sub (fun _ h => List.mem_append_left _ (List.mem_append_left _ (List.mem_append_right _ h))) (by decide +kernel))
set_option maxRecDepth 20000 in
theorem gL_law_L_isSteady : GoodIn wsL_law (va_wsS RL 126 yL_isSteady wsL_isSteady) := goodIn_app (goodIn_of _ (by decide +kernel)) ggL_law_L_isSteady
set_option maxRecDepth 20000 in
theorem ggL_law_X1_isSteady : GoodIn wsL_law wsX1_isSteady := goodIn_r _ [173, 82, 35, 134, 135, 136, 5, 137, 93, 86, 87, 88, 618, 619, 620, 621, 622, 623, 624, 625, 626, 627, 628, 629, 630] (by decide +kernel) (by decide +kernel)
set_option maxRecDepth 20000 in
theorem gL_law_X1_isSteady : GoodIn wsL_law (wsV RL 128 RX1 yX1_isSteady wsX1_isSteady) := goodIn_app (goodIn_of _ (by decide +kernel)) ggL_law_X1_isSteady
set_option maxRecDepth 20000 in
theorem ggL_law_L_report : GoodIn wsL_law wsL_report := goodIn_ca (goodIn_ca (goodIn_r _ [176, 47, 105, 177, 178, 179, 2, 180, 22, 181, 182, 183, 56, 57, 53, 54, 55, 110, 111, 112, 113, 114, 184, 185, 186, 64, 65, 66, 606, 607, 608, 609, 610, 611, 612, 613, 614, 615, 616, 617] (by decide +kernel) (by decide +kernel)) (goodIn_sub (fun _ h => List.mem_append_left _ (List.mem_append_left _ (List.mem_append_right _ h))) (by decide +kernel))) (goodIn_sub (fun _ h => List.mem_append_right _ h) (by decide +kernel))
set_option maxRecDepth 20000 in
theorem gL_law_L_report : GoodIn wsL_law (va_wsS RL 129 yL_report wsL_report) := goodIn_app (goodIn_of _ (by decide +kernel)) ggL_law_L_report
set_option maxRecDepth 20000 in
theorem ggL_law_X1_report : GoodIn wsL_law wsX1_report := goodIn_r _ [190, 82, 38, 191, 192, 5, 193, 86, 87, 88, 83, 84, 85, 94, 95, 96, 97, 618, 619, 620, 621, 622, 623, 624, 625, 626, 627, 628, 629, 630] (by decide +kernel) (by decide +kernel)
set_option maxRecDepth 20000 in
theorem gL_law_X1_report : GoodIn wsL_law (wsV RL 131 RX1 yX1_report wsX1_report) := goodIn_app (goodIn_of _ (by decide +kernel)) ggL_law_X1_report
set_option maxRecDepth 20000 in
theorem ggL_law_L_setTrust : GoodIn wsL_law wsL_setTrust := goodIn_ca (goodIn_ca (goodIn_r _ [196, 47, 105, 197, 198, 199, 2, 200, 20, 181, 182, 183, 56, 57, 201, 202, 203, 113, 114, 606, 607, 608, 609, 610, 611, 612, 613, 614, 615, 616, 617] (by decide +kernel) (by decide +kernel)) (goodIn_sub (fun _ h => List.mem_append_left _ (List.mem_append_left _ (List.mem_append_right _ h))) (by decide +kernel))) (goodIn_sub (fun _ h => List.mem_append_right _ h) (by decide +kernel))
set_option maxRecDepth 20000 in
theorem gL_law_L_setTrust : GoodIn wsL_law (va_wsS RL 132 yL_setTrust wsL_setTrust) := goodIn_app (goodIn_of _ (by decide +kernel)) ggL_law_L_setTrust
set_option maxRecDepth 20000 in
theorem ggL_law_X1_setTrust : GoodIn wsL_law wsX1_setTrust := goodIn_r _ [207, 82, 36, 191, 192, 5, 193, 86, 87, 88, 94, 95, 96, 97, 618, 619, 620, 621, 622, 623, 624, 625, 626, 627, 628, 629, 630] (by decide +kernel) (by decide +kernel)
set_option maxRecDepth 20000 in
theorem gL_law_X1_setTrust : GoodIn wsL_law (wsV RL 134 RX1 yX1_setTrust wsX1_setTrust) := goodIn_app (goodIn_of _ (by decide +kernel)) ggL_law_X1_setTrust
set_option maxRecDepth 20000 in
theorem ggL_law_L_setLeastTrust : GoodIn wsL_law wsL_setLeastTrust := goodIn_ca (goodIn_r _ [210, 105, 211, 212, 213, 2, 214, 23, 201, 202, 203, 113, 114, 606, 607, 608, 609, 610, 611, 612, 613, 614, 615, 616, 617] (by decide +kernel) (by decide +kernel)) (goodIn_sub (fun _ h => List.mem_append_right _ h) (by decide +kernel))
set_option maxRecDepth 20000 in
theorem gL_law_L_setLeastTrust : GoodIn wsL_law (va_wsS RL 135 yL_setLeastTrust wsL_setLeastTrust) := goodIn_app (goodIn_of _ (by decide +kernel)) ggL_law_L_setLeastTrust
set_option maxRecDepth 20000 in
theorem ggL_law_X1_setLeastTrust : GoodIn wsL_law wsX1_setLeastTrust := goodIn_r _ [218, 82, 39, 86, 87, 5, 88, 94, 95, 96, 97, 618, 619, 620, 621, 622, 623, 624, 625, 626, 627, 628, 629, 630] (by decide +kernel) (by decide +kernel)
set_option maxRecDepth 20000 in
theorem gL_law_X1_setLeastTrust : GoodIn wsL_law (wsV RL 137 RX1 yX1_setLeastTrust wsX1_setLeastTrust) := goodIn_app (goodIn_of _ (by decide +kernel)) ggL_law_X1_setLeastTrust
set_option maxRecDepth 20000 in
theorem ggL_law_L_let : GoodIn wsL_law wsL_let := goodIn_ca (goodIn_r _ [221, 47, 222, 223, 224, 2, 225, 21, 181, 182, 183, 56, 57, 226, 227, 228, 229, 20, 23, 606, 607, 608, 609, 610, 611, 612, 613, 614, 615, 616, 617] (by decide +kernel) (by decide +kernel)) (goodIn_sub (fun _ h => List.mem_append_left _ (List.mem_append_left _ (List.mem_append_right _ h))) (by decide +kernel))
set_option maxRecDepth 20000 in
theorem gL_law_L_let : GoodIn wsL_law (va_wsS RL 138 yL_let wsL_let) := goodIn_app (goodIn_of _ (by decide +kernel)) ggL_law_L_let
set_option maxRecDepth 20000 in
theorem ggL_law_X1_let : GoodIn wsL_law wsX1_let := goodIn_r _ [233, 82, 37, 191, 192, 5, 193, 86, 87, 88, 234, 235, 236, 237, 36, 39, 618, 619, 620, 621, 622, 623, 624, 625, 626, 627, 628, 629, 630] (by decide +kernel) (by decide +kernel)
set_option maxRecDepth 20000 in
theorem gL_law_X1_let : GoodIn wsL_law (wsV RL 141 RX1 yX1_let wsX1_let) := goodIn_app (goodIn_of _ (by decide +kernel)) ggL_law_X1_let
set_option maxRecDepth 20000 in
theorem ggL_law_L_setRule : GoodIn wsL_law wsL_setRule := goodIn_ca (goodIn_ca (goodIn_r _ [240, 47, 105, 241, 242, 243, 2, 244, 24, 53, 54, 55, 56, 57, 126, 127, 128, 129, 13, 245, 246, 247, 248, 113, 114, 17, 606, 607, 608, 609, 610, 611, 612, 613, 614, 615, 616, 617] (by decide +kernel) (by decide +kernel)) (goodIn_sub (fun _ h => List.mem_append_left _ (List.mem_append_left _ (List.mem_append_right _ h))) (by decide +kernel))) (goodIn_sub (fun _ h => List.mem_append_right _ h) (by decide +kernel))
set_option maxRecDepth 20000 in
theorem gL_law_L_setRule : GoodIn wsL_law (va_wsS RL 142 yL_setRule wsL_setRule) := goodIn_app (goodIn_of _ (by decide +kernel)) ggL_law_L_setRule
set_option maxRecDepth 20000 in
theorem ggL_law_X1_setRule : GoodIn wsL_law wsX1_setRule := goodIn_r _ [252, 82, 35, 40, 83, 84, 5, 85, 86, 87, 88, 134, 135, 136, 137, 93, 94, 95, 96, 97, 618, 619, 620, 621, 622, 623, 624, 625, 626, 627, 628, 629, 630] (by decide +kernel) (by decide +kernel)
set_option maxRecDepth 20000 in
theorem gL_law_X1_setRule : GoodIn wsL_law (wsV RL 144 RX1 yX1_setRule wsX1_setRule) := goodIn_app (goodIn_of _ (by decide +kernel)) ggL_law_X1_setRule
set_option maxRecDepth 20000 in
theorem ggL_law_L_given : GoodIn wsL_law wsL_given := goodIn_ca (goodIn_r _ [255, 47, 256, 257, 258, 2, 259, 53, 54, 55, 56, 57, 260, 261, 262, 263, 226, 227, 228, 229, 21, 20, 23, 264, 265, 266, 267, 22, 184, 185, 186, 64, 65, 66, 606, 607, 608, 609, 610, 611, 612, 613, 614, 615, 616, 617] (by decide +kernel) (by decide +kernel)) (goodIn_sub (fun _ h => List.mem_append_left _ (List.mem_append_left _ (List.mem_append_right _ h))) (by decide +kernel))
set_option maxRecDepth 20000 in
theorem gL_law_L_given : GoodIn wsL_law (va_wsS RL 145 yL_given wsL_given) := goodIn_app (goodIn_of _ (by decide +kernel)) ggL_law_L_given
set_option maxRecDepth 20000 in
theorem ggL_law_X1_given : GoodIn wsL_law wsX1_given := goodIn_r _ [271, 82, 83, 84, 5, 85, 86, 87, 88, 272, 273, 274, 275, 234, 235, 236, 237, 37, 36, 39, 276, 277, 278, 279, 38, 280, 281, 282, 94, 95, 96, 97, 618, 619, 620, 621, 622, 623, 624, 625, 626, 627, 628, 629, 630] (by decide +kernel) (by decide +kernel)
set_option maxRecDepth 20000 in
theorem gL_law_X1_given : GoodIn wsL_law (wsV RL 147 RX1 yX1_given wsX1_given) := goodIn_app (goodIn_of _ (by decide +kernel)) ggL_law_X1_given
set_option maxRecDepth 20000 in
theorem ggL_law_L_settled : GoodIn wsL_law wsL_settled := goodIn_ca (goodIn_r _ [285, 47, 286, 287, 288, 2, 289, 53, 54, 55, 56, 57, 290, 291, 292, 293, 260, 261, 262, 263, 226, 227, 228, 229, 21, 20, 23, 294, 295, 296, 297, 264, 265, 266, 267, 22, 298, 299, 300, 301, 24, 302, 303, 304, 305, 18, 19, 67, 68, 69, 64, 65, 66, 184, 185, 186, 606, 607, 608, 609, 610, 611, 612, 613, 614, 615, 616, 617] (by decide +kernel) (by decide +kernel)) (goodIn_sub (fun _ h => List.mem_append_left _ (List.mem_append_left _ (List.mem_append_right _ h))) (by decide +kernel))
set_option maxRecDepth 20000 in
theorem gL_law_L_settled : GoodIn wsL_law (va_wsS RL 148 yL_settled wsL_settled) := goodIn_app (goodIn_of _ (by decide +kernel)) ggL_law_L_settled
set_option maxRecDepth 20000 in
theorem ggL_law_X1_settled : GoodIn wsL_law wsX1_settled := goodIn_r _ [309, 82, 83, 84, 5, 85, 86, 87, 88, 310, 311, 312, 313, 272, 273, 274, 275, 234, 235, 236, 237, 37, 36, 39, 314, 315, 316, 317, 318, 319, 320, 321, 276, 277, 278, 279, 38, 280, 281, 282, 322, 323, 324, 325, 40, 326, 327, 328, 329, 32, 42, 33, 34, 330, 331, 332, 94, 95, 96, 97, 618, 619, 620, 621, 622, 623, 624, 625, 626, 627, 628, 629, 630] (by decide +kernel) (by decide +kernel)
set_option maxRecDepth 20000 in
theorem gL_law_X1_settled : GoodIn wsL_law (wsV RL 150 RX1 yX1_settled wsX1_settled) := goodIn_app (goodIn_of _ (by decide +kernel)) ggL_law_X1_settled
set_option maxRecDepth 20000 in
theorem ggL_law_X0_rounds : GoodIn wsL_law wsX0_rounds := goodIn_r _ [336, 260, 261, 262, 2, 263, 226, 227, 228, 229, 21, 20, 23, 264, 265, 266, 267, 22, 298, 299, 300, 301, 24, 302, 303, 304, 305, 18, 19, 67, 68, 69, 64, 65, 66, 606, 607, 608, 609, 610, 611, 612, 613, 614, 615, 616, 617] (by decide +kernel) (by decide +kernel)
set_option maxRecDepth 20000 in
theorem gL_law_X0_rounds : GoodIn wsL_law (wsV RL 151 RX0 yX0_rounds wsX0_rounds) := goodIn_app (goodIn_of _ (by decide +kernel)) ggL_law_X0_rounds
set_option maxRecDepth 20000 in
theorem ggL_law_X1_rounds : GoodIn wsL_law wsX1_rounds := goodIn_r _ [340, 82, 341, 342, 343, 5, 344, 272, 273, 274, 275, 234, 235, 236, 237, 37, 36, 39, 318, 319, 320, 321, 276, 277, 278, 279, 38, 280, 281, 282, 322, 323, 324, 325, 40, 326, 327, 328, 329, 32, 42, 33, 34, 86, 87, 88, 618, 619, 620, 621, 622, 623, 624, 625, 626, 627, 628, 629, 630] (by decide +kernel) (by decide +kernel)
set_option maxRecDepth 20000 in
theorem gL_law_X1_rounds : GoodIn wsL_law (wsV RL 154 RX1 yX1_rounds wsX1_rounds) := goodIn_app (goodIn_of _ (by decide +kernel)) ggL_law_X1_rounds
set_option maxRecDepth 20000 in
theorem ggL_law_L_since : GoodIn wsL_law wsL_since := goodIn_ca (goodIn_r _ [347, 47, 348, 349, 350, 2, 351, 53, 54, 55, 56, 57, 260, 261, 262, 263, 226, 227, 228, 229, 21, 20, 23, 264, 265, 266, 267, 22, 184, 185, 186, 64, 65, 66, 352, 353, 354, 298, 299, 300, 301, 24, 302, 303, 304, 305, 18, 19, 67, 68, 69, 606, 607, 608, 609, 610, 611, 612, 613, 614, 615, 616, 617] (by decide +kernel) (by decide +kernel)) (goodIn_sub (fun _ h => List.mem_append_left _ (List.mem_append_left _ (List.mem_append_right _ h))) (by decide +kernel))
set_option maxRecDepth 20000 in
theorem gL_law_L_since : GoodIn wsL_law (va_wsS RL 155 yL_since wsL_since) := goodIn_app (goodIn_of _ (by decide +kernel)) ggL_law_L_since
set_option maxRecDepth 20000 in
theorem ggL_law_X1_since : GoodIn wsL_law wsX1_since := goodIn_r _ [358, 82, 83, 84, 5, 85, 86, 87, 88, 94, 95, 96, 97, 272, 273, 274, 275, 234, 235, 236, 237, 37, 36, 39, 318, 319, 320, 321, 276, 277, 278, 279, 38, 280, 281, 282, 341, 342, 343, 344, 322, 323, 324, 325, 40, 326, 327, 328, 329, 32, 42, 33, 34, 330, 331, 332, 618, 619, 620, 621, 622, 623, 624, 625, 626, 627, 628, 629, 630] (by decide +kernel) (by decide +kernel)
set_option maxRecDepth 20000 in
theorem gL_law_X1_since : GoodIn wsL_law (wsV RL 157 RX1 yX1_since wsX1_since) := goodIn_app (goodIn_of _ (by decide +kernel)) ggL_law_X1_since
set_option maxRecDepth 20000 in
theorem ggL_law_L_value : GoodIn wsL_law wsL_value := goodIn_ca (goodIn_r _ [361, 47, 362, 363, 364, 2, 365, 126, 127, 128, 129, 56, 57, 13, 290, 291, 292, 293, 260, 261, 262, 263, 226, 227, 228, 229, 21, 20, 23, 294, 295, 296, 297, 264, 265, 266, 267, 22, 298, 299, 300, 301, 24, 302, 303, 304, 305, 18, 19, 67, 68, 69, 64, 65, 66, 606, 607, 608, 609, 610, 611, 612, 613, 614, 615, 616, 617] (by decide +kernel) (by decide +kernel)) (goodIn_sub (fun _ h => List.mem_append_left _ (List.mem_append_left _ (List.mem_append_right _ h))) (by decide +kernel))
set_option maxRecDepth 20000 in
theorem gL_law_L_value : GoodIn wsL_law (va_wsS RL 158 yL_value wsL_value) := goodIn_app (goodIn_of _ (by decide +kernel)) ggL_law_L_value
set_option maxRecDepth 20000 in
theorem ggL_law_X1_value : GoodIn wsL_law wsX1_value := goodIn_r _ [369, 82, 134, 135, 136, 5, 137, 93, 86, 87, 88, 310, 311, 312, 313, 272, 273, 274, 275, 234, 235, 236, 237, 37, 36, 39, 314, 315, 316, 317, 318, 319, 320, 321, 276, 277, 278, 279, 38, 280, 281, 282, 322, 323, 324, 325, 40, 326, 327, 328, 329, 32, 42, 33, 34, 94, 95, 96, 97, 618, 619, 620, 621, 622, 623, 624, 625, 626, 627, 628, 629, 630] (by decide +kernel) (by decide +kernel)
set_option maxRecDepth 20000 in
theorem gL_law_X1_value : GoodIn wsL_law (wsV RL 160 RX1 yX1_value wsX1_value) := goodIn_app (goodIn_of _ (by decide +kernel)) ggL_law_X1_value
set_option maxRecDepth 20000 in
theorem ggL_law_X0_conflicts : GoodIn wsL_law wsX0_conflicts := goodIn_r _ [373, 290, 291, 292, 2, 293, 260, 261, 262, 263, 226, 227, 228, 229, 21, 20, 23, 294, 295, 296, 297, 264, 265, 266, 267, 22, 298, 299, 300, 301, 24, 302, 303, 304, 305, 18, 19, 67, 68, 69, 64, 65, 66, 374, 375, 376, 184, 185, 186, 606, 607, 608, 609, 610, 611, 612, 613, 614, 615, 616, 617] (by decide +kernel) (by decide +kernel)
set_option maxRecDepth 20000 in
theorem gL_law_X0_conflicts : GoodIn wsL_law (wsV RL 161 RX0 yX0_conflicts wsX0_conflicts) := goodIn_app (goodIn_of _ (by decide +kernel)) ggL_law_X0_conflicts
set_option maxRecDepth 20000 in
theorem ggL_law_X1_conflicts : GoodIn wsL_law wsX1_conflicts := goodIn_r _ [380, 82, 310, 311, 312, 5, 313, 272, 273, 274, 275, 234, 235, 236, 237, 37, 36, 39, 314, 315, 316, 317, 318, 319, 320, 321, 276, 277, 278, 279, 38, 280, 281, 282, 322, 323, 324, 325, 40, 326, 327, 328, 329, 32, 42, 33, 34, 86, 87, 88, 381, 382, 383, 330, 331, 332, 618, 619, 620, 621, 622, 623, 624, 625, 626, 627, 628, 629, 630] (by decide +kernel) (by decide +kernel)
set_option maxRecDepth 20000 in
theorem gL_law_X1_conflicts : GoodIn wsL_law (wsV RL 164 RX1 yX1_conflicts wsX1_conflicts) := goodIn_app (goodIn_of _ (by decide +kernel)) ggL_law_X1_conflicts
set_option maxRecDepth 20000 in
theorem ggL_law_X0_gaps : GoodIn wsL_law wsX0_gaps := goodIn_r _ [387, 290, 291, 292, 2, 293, 260, 261, 262, 263, 226, 227, 228, 229, 21, 20, 23, 294, 295, 296, 297, 264, 265, 266, 267, 22, 298, 299, 300, 301, 24, 302, 303, 304, 305, 18, 19, 67, 68, 69, 64, 65, 66, 374, 375, 376, 184, 185, 186, 606, 607, 608, 609, 610, 611, 612, 613, 614, 615, 616, 617] (by decide +kernel) (by decide +kernel)
set_option maxRecDepth 20000 in
theorem gL_law_X0_gaps : GoodIn wsL_law (wsV RL 165 RX0 yX0_gaps wsX0_gaps) := goodIn_app (goodIn_of _ (by decide +kernel)) ggL_law_X0_gaps
set_option maxRecDepth 20000 in
theorem ggL_law_X1_gaps : GoodIn wsL_law wsX1_gaps := goodIn_r _ [391, 82, 310, 311, 312, 5, 313, 272, 273, 274, 275, 234, 235, 236, 237, 37, 36, 39, 314, 315, 316, 317, 318, 319, 320, 321, 276, 277, 278, 279, 38, 280, 281, 282, 322, 323, 324, 325, 40, 326, 327, 328, 329, 32, 42, 33, 34, 86, 87, 88, 381, 382, 383, 330, 331, 332, 618, 619, 620, 621, 622, 623, 624, 625, 626, 627, 628, 629, 630] (by decide +kernel) (by decide +kernel)
set_option maxRecDepth 20000 in
theorem gL_law_X1_gaps : GoodIn wsL_law (wsV RL 168 RX1 yX1_gaps wsX1_gaps) := goodIn_app (goodIn_of _ (by decide +kernel)) ggL_law_X1_gaps
set_option maxRecDepth 20000 in
theorem ggL_law_X0_discord : GoodIn wsL_law wsX0_discord := goodIn_r _ [395, 290, 291, 292, 2, 293, 260, 261, 262, 263, 226, 227, 228, 229, 21, 20, 23, 294, 295, 296, 297, 264, 265, 266, 267, 22, 298, 299, 300, 301, 24, 302, 303, 304, 305, 18, 19, 67, 68, 69, 64, 65, 66, 374, 375, 376, 184, 185, 186, 396, 397, 398, 399, 400, 401, 402, 606, 607, 608, 609, 610, 611, 612, 613, 614, 615, 616, 617] (by decide +kernel) (by decide +kernel)
set_option maxRecDepth 20000 in
theorem gL_law_X0_discord : GoodIn wsL_law (wsV RL 169 RX0 yX0_discord wsX0_discord) := goodIn_app (goodIn_of _ (by decide +kernel)) ggL_law_X0_discord
set_option maxRecDepth 20000 in
theorem ggL_law_X1_discord : GoodIn wsL_law wsX1_discord := goodIn_r _ [406, 82, 310, 311, 312, 5, 313, 272, 273, 274, 275, 234, 235, 236, 237, 37, 36, 39, 314, 315, 316, 317, 318, 319, 320, 321, 276, 277, 278, 279, 38, 280, 281, 282, 322, 323, 324, 325, 40, 326, 327, 328, 329, 32, 42, 33, 34, 86, 87, 88, 381, 382, 383, 330, 331, 332, 407, 397, 398, 399, 400, 401, 402, 618, 619, 620, 621, 622, 623, 624, 625, 626, 627, 628, 629, 630] (by decide +kernel) (by decide +kernel)
set_option maxRecDepth 20000 in
theorem gL_law_X1_discord : GoodIn wsL_law (wsV RL 173 RX1 yX1_discord wsX1_discord) := goodIn_app (goodIn_of _ (by decide +kernel)) ggL_law_X1_discord
set_option maxRecDepth 20000 in
theorem ggL_law_X0_heard : GoodIn wsL_law wsX0_heard := goodIn_r _ [263, 226, 227, 228, 2, 229, 21, 20, 23, 606, 607, 608, 609, 610, 611, 612, 613, 614, 615, 616, 617] (by decide +kernel) (by decide +kernel)
set_option maxRecDepth 20000 in
theorem gL_law_X0_heard : GoodIn wsL_law (wsV RL 174 RX0 yX0_heard wsX0_heard) := goodIn_app (goodIn_of _ (by decide +kernel)) ggL_law_X0_heard
set_option maxRecDepth 20000 in
theorem ggL_law_X1_heard : GoodIn wsL_law wsX1_heard := goodIn_r _ [412, 82, 272, 273, 274, 5, 275, 234, 235, 236, 237, 37, 36, 39, 618, 619, 620, 621, 622, 623, 624, 625, 626, 627, 628, 629, 630] (by decide +kernel) (by decide +kernel)
set_option maxRecDepth 20000 in
theorem gL_law_X1_heard : GoodIn wsL_law (wsV RL 177 RX1 yX1_heard wsX1_heard) := goodIn_app (goodIn_of _ (by decide +kernel)) ggL_law_X1_heard
set_option maxRecDepth 20000 in
theorem ggL_law_L_sayers : GoodIn wsL_law wsL_sayers := goodIn_ca (goodIn_r _ [415, 47, 416, 417, 418, 2, 419, 22, 53, 54, 55, 56, 57, 226, 227, 228, 229, 21, 20, 23, 184, 185, 186, 64, 65, 66, 352, 353, 354, 606, 607, 608, 609, 610, 611, 612, 613, 614, 615, 616, 617] (by decide +kernel) (by decide +kernel)) (goodIn_sub (fun _ h => List.mem_append_left _ (List.mem_append_left _ (List.mem_append_right _ h))) (by decide +kernel))
set_option maxRecDepth 20000 in
theorem gL_law_L_sayers : GoodIn wsL_law (va_wsS RL 178 yL_sayers wsL_sayers) := goodIn_app (goodIn_of _ (by decide +kernel)) ggL_law_L_sayers
set_option maxRecDepth 20000 in
theorem ggL_law_X1_sayers : GoodIn wsL_law wsX1_sayers := goodIn_r _ [423, 82, 38, 83, 84, 5, 85, 86, 87, 88, 94, 95, 96, 97, 234, 235, 236, 237, 37, 36, 39, 618, 619, 620, 621, 622, 623, 624, 625, 626, 627, 628, 629, 630] (by decide +kernel) (by decide +kernel)
set_option maxRecDepth 20000 in
theorem gL_law_X1_sayers : GoodIn wsL_law (wsV RL 180 RX1 yX1_sayers wsX1_sayers) := goodIn_app (goodIn_of _ (by decide +kernel)) ggL_law_X1_sayers
set_option maxRecDepth 20000 in
theorem ggL_law_L_matters : GoodIn wsL_law wsL_matters := goodIn_ca (goodIn_r _ [426, 47, 427, 428, 429, 2, 430, 181, 182, 183, 56, 57, 53, 54, 55, 260, 261, 262, 263, 226, 227, 228, 229, 21, 20, 23, 294, 295, 296, 297, 264, 265, 266, 267, 22, 298, 299, 300, 301, 24, 302, 303, 304, 305, 18, 19, 67, 68, 69, 64, 65, 66, 184, 185, 186, 606, 607, 608, 609, 610, 611, 612, 613, 614, 615, 616, 617] (by decide +kernel) (by decide +kernel)) (goodIn_sub (fun _ h => List.mem_append_left _ (List.mem_append_left _ (List.mem_append_right _ h))) (by decide +kernel))
set_option maxRecDepth 20000 in
theorem gL_law_L_matters : GoodIn wsL_law (va_wsS RL 181 yL_matters wsL_matters) := goodIn_app (goodIn_of _ (by decide +kernel)) ggL_law_L_matters
set_option maxRecDepth 20000 in
theorem ggL_law_X1_matters : GoodIn wsL_law wsX1_matters := goodIn_r _ [434, 82, 191, 192, 5, 193, 86, 87, 88, 83, 84, 85, 234, 235, 236, 237, 37, 36, 39, 310, 311, 312, 313, 272, 273, 274, 275, 314, 315, 316, 317, 318, 319, 320, 321, 276, 277, 278, 279, 38, 280, 281, 282, 322, 323, 324, 325, 40, 326, 327, 328, 329, 32, 42, 33, 34, 330, 331, 332, 618, 619, 620, 621, 622, 623, 624, 625, 626, 627, 628, 629, 630] (by decide +kernel) (by decide +kernel)
set_option maxRecDepth 20000 in
theorem gL_law_X1_matters : GoodIn wsL_law (wsV RL 183 RX1 yX1_matters wsX1_matters) := goodIn_app (goodIn_of _ (by decide +kernel)) ggL_law_X1_matters
set_option maxRecDepth 20000 in
theorem ggL_law_X0_silence : GoodIn wsL_law wsX0_silence := goodIn_r _ [438, 260, 261, 262, 2, 263, 226, 227, 228, 229, 21, 20, 23, 439, 440, 441, 442, 294, 295, 296, 297, 264, 265, 266, 267, 22, 298, 299, 300, 301, 24, 302, 303, 304, 305, 18, 19, 67, 68, 69, 64, 65, 66, 374, 375, 376, 184, 185, 186, 606, 607, 608, 609, 610, 611, 612, 613, 614, 615, 616, 617] (by decide +kernel) (by decide +kernel)
set_option maxRecDepth 20000 in
theorem gL_law_X0_silence : GoodIn wsL_law (wsV RL 184 RX0 yX0_silence wsX0_silence) := goodIn_app (goodIn_of _ (by decide +kernel)) ggL_law_X0_silence
set_option maxRecDepth 20000 in
theorem ggL_law_X1_silence : GoodIn wsL_law wsX1_silence := goodIn_r _ [446, 82, 36, 272, 273, 274, 5, 275, 234, 235, 236, 237, 37, 39, 280, 281, 282, 314, 315, 316, 317, 318, 319, 320, 321, 276, 277, 278, 279, 38, 322, 323, 324, 325, 40, 326, 327, 328, 329, 32, 42, 33, 34, 86, 87, 88, 381, 382, 383, 330, 331, 332, 618, 619, 620, 621, 622, 623, 624, 625, 626, 627, 628, 629, 630] (by decide +kernel) (by decide +kernel)
set_option maxRecDepth 20000 in
theorem gL_law_X1_silence : GoodIn wsL_law (wsV RL 187 RX1 yX1_silence wsX1_silence) := goodIn_app (goodIn_of _ (by decide +kernel)) ggL_law_X1_silence
set_option maxRecDepth 20000 in
theorem ggL_law_L_contradicted : GoodIn wsL_law wsL_contradicted := goodIn_ca (goodIn_r _ [449, 47, 450, 451, 452, 2, 453, 22, 181, 182, 183, 56, 57, 290, 291, 292, 293, 260, 261, 262, 263, 226, 227, 228, 229, 21, 20, 23, 294, 295, 296, 297, 264, 265, 266, 267, 298, 299, 300, 301, 24, 302, 303, 304, 305, 18, 19, 67, 68, 69, 64, 65, 66, 184, 185, 186, 454, 455, 456, 352, 353, 354, 606, 607, 608, 609, 610, 611, 612, 613, 614, 615, 616, 617] (by decide +kernel) (by decide +kernel)) (goodIn_sub (fun _ h => List.mem_append_left _ (List.mem_append_left _ (List.mem_append_right _ h))) (by decide +kernel))
set_option maxRecDepth 20000 in
theorem gL_law_L_contradicted : GoodIn wsL_law (va_wsS RL 188 yL_contradicted wsL_contradicted) := goodIn_app (goodIn_of _ (by decide +kernel)) ggL_law_L_contradicted
set_option maxRecDepth 20000 in
theorem ggL_law_X1_contradicted : GoodIn wsL_law wsX1_contradicted := goodIn_r _ [460, 82, 38, 191, 192, 5, 193, 86, 87, 88, 94, 95, 96, 97, 310, 311, 312, 313, 272, 273, 274, 275, 234, 235, 236, 237, 37, 36, 39, 314, 315, 316, 317, 318, 319, 320, 321, 276, 277, 278, 279, 280, 281, 282, 322, 323, 324, 325, 40, 326, 327, 328, 329, 32, 42, 33, 34, 330, 331, 332, 618, 619, 620, 621, 622, 623, 624, 625, 626, 627, 628, 629, 630] (by decide +kernel) (by decide +kernel)
set_option maxRecDepth 20000 in
theorem gL_law_X1_contradicted : GoodIn wsL_law (wsV RL 190 RX1 yX1_contradicted wsX1_contradicted) := goodIn_app (goodIn_of _ (by decide +kernel)) ggL_law_X1_contradicted
set_option maxRecDepth 20000 in
theorem ggL_law_L_setLogic : GoodIn wsL_law wsL_setLogic := goodIn_ca (goodIn_r _ [463, 105, 464, 465, 466, 2, 467, 113, 114, 25, 27, 468, 469, 470, 606, 607, 608, 609, 610, 611, 612, 613, 614, 615, 616, 617] (by decide +kernel) (by decide +kernel)) (goodIn_sub (fun _ h => List.mem_append_right _ h) (by decide +kernel))
set_option maxRecDepth 20000 in
theorem gL_law_L_setLogic : GoodIn wsL_law (va_wsS RL 191 yL_setLogic wsL_setLogic) := goodIn_app (goodIn_of _ (by decide +kernel)) ggL_law_L_setLogic
set_option maxRecDepth 20000 in
theorem ggL_law_X1_setLogic : GoodIn wsL_law wsX1_setLogic := goodIn_r _ [474, 82, 41, 86, 87, 5, 88, 94, 95, 96, 97, 618, 619, 620, 621, 622, 623, 624, 625, 626, 627, 628, 629, 630] (by decide +kernel) (by decide +kernel)
set_option maxRecDepth 20000 in
theorem gL_law_X1_setLogic : GoodIn wsL_law (wsV RL 193 RX1 yX1_setLogic wsX1_setLogic) := goodIn_app (goodIn_of _ (by decide +kernel)) ggL_law_X1_setLogic
set_option maxRecDepth 20000 in
theorem ggL_law_L_models : GoodIn wsL_law wsL_models := goodIn_ca (goodIn_r _ [477, 47, 478, 479, 480, 2, 481, 18, 126, 127, 128, 129, 56, 57, 13, 67, 68, 69, 482, 483, 484, 485, 27, 486, 487, 488, 489, 490, 491, 492, 606, 607, 608, 609, 610, 611, 612, 613, 614, 615, 616, 617] (by decide +kernel) (by decide +kernel)) (goodIn_sub (fun _ h => List.mem_append_left _ (List.mem_append_left _ (List.mem_append_right _ h))) (by decide +kernel))
set_option maxRecDepth 20000 in
theorem gL_law_L_models : GoodIn wsL_law (va_wsS RL 194 yL_models wsL_models) := goodIn_app (goodIn_of _ (by decide +kernel)) ggL_law_L_models
set_option maxRecDepth 20000 in
theorem ggL_law_X1_models : GoodIn wsL_law wsX1_models := goodIn_r _ [496, 82, 134, 135, 136, 5, 137, 93, 86, 87, 88, 94, 95, 96, 97, 497, 498, 499, 500, 41, 330, 331, 332, 280, 281, 282, 501, 502, 503, 504, 326, 327, 328, 329, 32, 42, 33, 34, 618, 619, 620, 621, 622, 623, 624, 625, 626, 627, 628, 629, 630] (by decide +kernel) (by decide +kernel)
set_option maxRecDepth 20000 in
theorem gL_law_X1_models : GoodIn wsL_law (wsV RL 196 RX1 yX1_models wsX1_models) := goodIn_app (goodIn_of _ (by decide +kernel)) ggL_law_X1_models
set_option maxRecDepth 20000 in
theorem ggL_law_L_range : GoodIn wsL_law wsL_range := goodIn_ca (goodIn_r _ [507, 47, 508, 509, 510, 2, 511, 18, 19, 126, 127, 128, 129, 56, 57, 13, 67, 68, 69, 512, 513, 514, 26, 352, 353, 354, 482, 483, 484, 485, 27, 606, 607, 608, 609, 610, 611, 612, 613, 614, 615, 616, 617] (by decide +kernel) (by decide +kernel)) (goodIn_sub (fun _ h => List.mem_append_left _ (List.mem_append_left _ (List.mem_append_right _ h))) (by decide +kernel))
set_option maxRecDepth 20000 in
theorem gL_law_L_range : GoodIn wsL_law (va_wsS RL 197 yL_range wsL_range) := goodIn_app (goodIn_of _ (by decide +kernel)) ggL_law_L_range
set_option maxRecDepth 20000 in
theorem ggL_law_X1_range : GoodIn wsL_law wsX1_range := goodIn_r _ [518, 82, 134, 135, 136, 5, 137, 93, 86, 87, 88, 94, 95, 96, 97, 497, 498, 499, 500, 41, 330, 331, 332, 280, 281, 282, 326, 327, 328, 329, 32, 42, 33, 34, 618, 619, 620, 621, 622, 623, 624, 625, 626, 627, 628, 629, 630] (by decide +kernel) (by decide +kernel)
set_option maxRecDepth 20000 in
theorem gL_law_X1_range : GoodIn wsL_law (wsV RL 199 RX1 yX1_range wsX1_range) := goodIn_app (goodIn_of _ (by decide +kernel)) ggL_law_X1_range
set_option maxRecDepth 20000 in
theorem ggL_law_L_entails : GoodIn wsL_law wsL_entails := goodIn_ca (goodIn_r _ [521, 47, 522, 523, 524, 2, 525, 526, 527, 528, 529, 18, 26, 126, 127, 128, 129, 56, 57, 13, 67, 68, 69, 482, 483, 484, 485, 27, 530, 531, 532, 486, 487, 488, 489, 490, 491, 492, 606, 607, 608, 609, 610, 611, 612, 613, 614, 615, 616, 617] (by decide +kernel) (by decide +kernel)) (goodIn_sub (fun _ h => List.mem_append_left _ (List.mem_append_left _ (List.mem_append_right _ h))) (by decide +kernel))
set_option maxRecDepth 20000 in
theorem gL_law_L_entails : GoodIn wsL_law (va_wsS RL 200 yL_entails wsL_entails) := goodIn_app (goodIn_of _ (by decide +kernel)) ggL_law_L_entails
set_option maxRecDepth 20000 in
theorem ggL_law_X1_entails : GoodIn wsL_law wsX1_entails := goodIn_r _ [536, 82, 134, 135, 136, 5, 137, 93, 86, 87, 88, 537, 538, 539, 540, 497, 498, 499, 500, 41, 330, 331, 332, 280, 281, 282, 501, 502, 503, 504, 326, 327, 328, 329, 32, 42, 33, 34, 618, 619, 620, 621, 622, 623, 624, 625, 626, 627, 628, 629, 630] (by decide +kernel) (by decide +kernel)
set_option maxRecDepth 20000 in
theorem gL_law_X1_entails : GoodIn wsL_law (wsV RL 202 RX1 yX1_entails wsX1_entails) := goodIn_app (goodIn_of _ (by decide +kernel)) ggL_law_X1_entails
set_option maxRecDepth 20000 in
theorem ggL_law_L_against : GoodIn wsL_law wsL_against := goodIn_ca (goodIn_r _ [543, 47, 544, 527, 528, 2, 529, 18, 26, 126, 127, 128, 129, 56, 57, 13, 67, 68, 69, 482, 483, 484, 485, 27, 530, 531, 532, 486, 487, 488, 489, 490, 491, 492, 606, 607, 608, 609, 610, 611, 612, 613, 614, 615, 616, 617] (by decide +kernel) (by decide +kernel)) (goodIn_sub (fun _ h => List.mem_append_left _ (List.mem_append_left _ (List.mem_append_right _ h))) (by decide +kernel))
set_option maxRecDepth 20000 in
theorem gL_law_L_against : GoodIn wsL_law (va_wsS RL 203 yL_against wsL_against) := goodIn_app (goodIn_of _ (by decide +kernel)) ggL_law_L_against
set_option maxRecDepth 20000 in
theorem ggL_law_X1_against : GoodIn wsL_law wsX1_against := goodIn_r _ [548, 82, 134, 135, 136, 5, 137, 93, 86, 87, 88, 537, 538, 539, 540, 497, 498, 499, 500, 41, 330, 331, 332, 280, 281, 282, 501, 502, 503, 504, 326, 327, 328, 329, 32, 42, 33, 34, 94, 95, 96, 97, 618, 619, 620, 621, 622, 623, 624, 625, 626, 627, 628, 629, 630] (by decide +kernel) (by decide +kernel)
set_option maxRecDepth 20000 in
theorem gL_law_X1_against : GoodIn wsL_law (wsV RL 205 RX1 yX1_against wsX1_against) := goodIn_app (goodIn_of _ (by decide +kernel)) ggL_law_X1_against
set_option maxRecDepth 20000 in
theorem ggL_law_L_areEqual : GoodIn wsL_law wsL_areEqual := goodIn_ca (goodIn_r _ [551, 47, 552, 553, 554, 2, 555, 126, 127, 128, 129, 56, 57, 13, 67, 68, 69, 556, 557, 558, 559, 18, 19, 482, 483, 484, 485, 27, 606, 607, 608, 609, 610, 611, 612, 613, 614, 615, 616, 617] (by decide +kernel) (by decide +kernel)) (goodIn_sub (fun _ h => List.mem_append_left _ (List.mem_append_left _ (List.mem_append_right _ h))) (by decide +kernel))
set_option maxRecDepth 20000 in
theorem gL_law_L_areEqual : GoodIn wsL_law (va_wsS RL 206 yL_areEqual wsL_areEqual) := goodIn_app (goodIn_of _ (by decide +kernel)) ggL_law_L_areEqual
set_option maxRecDepth 20000 in
theorem ggL_law_X1_areEqual : GoodIn wsL_law wsX1_areEqual := goodIn_r _ [563, 82, 134, 135, 136, 5, 137, 93, 86, 87, 88, 497, 498, 499, 500, 41, 330, 331, 332, 280, 281, 282, 326, 327, 328, 329, 32, 42, 33, 34, 618, 619, 620, 621, 622, 623, 624, 625, 626, 627, 628, 629, 630] (by decide +kernel) (by decide +kernel)
set_option maxRecDepth 20000 in
theorem gL_law_X1_areEqual : GoodIn wsL_law (wsV RL 208 RX1 yX1_areEqual wsX1_areEqual) := goodIn_app (goodIn_of _ (by decide +kernel)) ggL_law_X1_areEqual
set_option maxRecDepth 20000 in
theorem ggL_law_L_depends : GoodIn wsL_law wsL_depends := goodIn_ca (goodIn_r _ [566, 47, 567, 568, 569, 2, 570, 25, 126, 127, 128, 129, 56, 57, 13, 53, 54, 55, 530, 531, 532, 486, 487, 488, 489, 490, 491, 492, 571, 572, 573, 574, 67, 68, 69, 64, 65, 66, 482, 483, 484, 485, 27, 70, 71, 72, 73, 26, 512, 513, 514, 352, 353, 354, 556, 557, 558, 559, 18, 19, 606, 607, 608, 609, 610, 611, 612, 613, 614, 615, 616, 617] (by decide +kernel) (by decide +kernel)) (goodIn_sub (fun _ h => List.mem_append_left _ (List.mem_append_left _ (List.mem_append_right _ h))) (by decide +kernel))
set_option maxRecDepth 20000 in
theorem gL_law_L_depends : GoodIn wsL_law (va_wsS RL 209 yL_depends wsL_depends) := goodIn_app (goodIn_of _ (by decide +kernel)) ggL_law_L_depends
set_option maxRecDepth 20000 in
theorem ggL_law_X1_depends : GoodIn wsL_law wsX1_depends := goodIn_r _ [578, 82, 134, 135, 136, 5, 137, 93, 86, 87, 88, 83, 84, 85, 330, 331, 332, 497, 498, 499, 500, 41, 280, 281, 282, 326, 327, 328, 329, 32, 42, 33, 34, 407, 397, 398, 399, 400, 401, 402, 618, 619, 620, 621, 622, 623, 624, 625, 626, 627, 628, 629, 630] (by decide +kernel) (by decide +kernel)
set_option maxRecDepth 20000 in
theorem gL_law_X1_depends : GoodIn wsL_law (wsV RL 211 RX1 yX1_depends wsX1_depends) := goodIn_app (goodIn_of _ (by decide +kernel)) ggL_law_X1_depends
set_option maxRecDepth 20000 in
theorem ggL_law_L_valueAt : GoodIn wsL_law wsL_valueAt := goodIn_ca (goodIn_ca (goodIn_r _ [581, 47, 105, 582, 583, 584, 2, 585, 113, 114, 126, 127, 128, 129, 56, 57, 13, 302, 303, 304, 305, 18, 19, 67, 68, 69, 606, 607, 608, 609, 610, 611, 612, 613, 614, 615, 616, 617] (by decide +kernel) (by decide +kernel)) (goodIn_sub (fun _ h => List.mem_append_right _ h) (by decide +kernel))) (goodIn_sub (fun _ h => List.mem_append_left _ (List.mem_append_left _ (List.mem_append_right _ h))) (by decide +kernel))
set_option maxRecDepth 20000 in
theorem gL_law_L_valueAt : GoodIn wsL_law (va_wsS RL 212 yL_valueAt wsL_valueAt) := goodIn_app (goodIn_of _ (by decide +kernel)) ggL_law_L_valueAt
set_option maxRecDepth 20000 in
theorem ggL_law_X1_valueAt : GoodIn wsL_law wsX1_valueAt := goodIn_r _ [589, 82, 134, 135, 136, 5, 137, 93, 86, 87, 88, 94, 95, 96, 97, 326, 327, 328, 329, 32, 42, 33, 34, 618, 619, 620, 621, 622, 623, 624, 625, 626, 627, 628, 629, 630] (by decide +kernel) (by decide +kernel)
set_option maxRecDepth 20000 in
theorem gL_law_X1_valueAt : GoodIn wsL_law (wsV RL 214 RX1 yX1_valueAt wsX1_valueAt) := goodIn_app (goodIn_of _ (by decide +kernel)) ggL_law_X1_valueAt
set_option maxRecDepth 20000 in
theorem ggL_law_X0_digest : GoodIn wsL_law wsX0_digest := goodIn_r _ [593, 594, 13, 15, 23, 20, 21, 22, 24, 25, 260, 261, 262, 2, 263, 226, 227, 228, 229, 264, 265, 266, 267, 290, 291, 292, 293, 294, 295, 296, 297, 298, 299, 300, 301, 302, 303, 304, 305, 18, 19, 67, 68, 69, 64, 65, 66, 595, 596, 597, 598, 184, 185, 186, 599, 334, 335, 336, 606, 607, 608, 609, 610, 611, 612, 613, 614, 615, 616, 617] (by decide +kernel) (by decide +kernel)
set_option maxRecDepth 20000 in
theorem gL_law_X0_digest : GoodIn wsL_law (wsV RL 215 RX0 yX0_digest wsX0_digest) := goodIn_app (goodIn_of _ (by decide +kernel)) ggL_law_X0_digest
set_option maxRecDepth 20000 in
theorem ggL_law_X1_digest : GoodIn wsL_law wsX1_digest := goodIn_r _ [603, 82, 604, 93, 605, 32, 39, 36, 37, 38, 40, 41, 272, 273, 274, 5, 275, 234, 235, 236, 237, 314, 315, 316, 317, 318, 319, 320, 321, 276, 277, 278, 279, 280, 281, 282, 322, 323, 324, 325, 326, 327, 328, 329, 42, 33, 34, 86, 87, 88, 330, 331, 332, 341, 342, 343, 344, 618, 619, 620, 621, 622, 623, 624, 625, 626, 627, 628, 629, 630] (by decide +kernel) (by decide +kernel)
set_option maxRecDepth 20000 in
theorem gL_law_X1_digest : GoodIn wsL_law (wsV RL 219 RX1 yX1_digest wsX1_digest) := goodIn_app (goodIn_of _ (by decide +kernel)) ggL_law_X1_digest
theorem dL_law_0 : decode cL_law 0 = .ok (.new 8, 3) := by decide +kernel
theorem dL_law_3 : decode cL_law 3 = .ok (.dup, 1) := by decide +kernel
theorem dL_law_4 : decode cL_law 4 = .ok (.invokespecial 97, 3) := by decide +kernel
theorem dL_law_7 : decode cL_law 7 = .ok (.astore_n 1, 1) := by decide +kernel
theorem dL_law_8 : decode cL_law 8 = .ok (.new 98, 3) := by decide +kernel
theorem dL_law_11 : decode cL_law 11 = .ok (.dup, 1) := by decide +kernel
theorem dL_law_12 : decode cL_law 12 = .ok (.invokespecial 100, 3) := by decide +kernel
theorem dL_law_15 : decode cL_law 15 = .ok (.astore_n 2, 1) := by decide +kernel
theorem dL_law_16 : decode cL_law 16 = .ok (.iconst 1, 1) := by decide +kernel
theorem dL_law_17 : decode cL_law 17 = .ok (.newarray .long, 2) := by decide +kernel
theorem dL_law_19 : decode cL_law 19 = .ok (.astore_n 3, 1) := by decide +kernel
theorem dL_law_20 : decode cL_law 20 = .ok (.iconst 0, 1) := by decide +kernel
theorem dL_law_21 : decode cL_law 21 = .ok (.istore 4, 2) := by decide +kernel
theorem dL_law_23 : decode cL_law 23 = .ok (.iload 4, 2) := by decide +kernel
theorem dL_law_25 : decode cL_law 25 = .ok (.aload_n 0, 1) := by decide +kernel
theorem dL_law_26 : decode cL_law 26 = .ok (.arraylength, 1) := by decide +kernel
theorem dL_law_27 : decode cL_law 27 = .ok (.iconst 4, 1) := by decide +kernel
theorem dL_law_28 : decode cL_law 28 = .ok (.isub, 1) := by decide +kernel
theorem dL_law_29 : decode cL_law 29 = .ok (.if_icmp .gt 1976, 3) := by decide +kernel
theorem dL_law_32 : decode cL_law 32 = .ok (.aload_n 0, 1) := by decide +kernel
theorem dL_law_33 : decode cL_law 33 = .ok (.iload 4, 2) := by decide +kernel
theorem dL_law_35 : decode cL_law 35 = .ok (.iaload, 1) := by decide +kernel
theorem dL_law_36 : decode cL_law 36 = .ok (.bipush 63, 2) := by decide +kernel
theorem dL_law_38 : decode cL_law 38 = .ok (.iand, 1) := by decide +kernel
theorem dL_law_39 : decode cL_law 39 = .ok (.tableswitch 1960 0 32 #[145, 201, 257, 325, 405, 418, 481, 561, 629, 685, 776, 844, 900, 956, 969, 1053, 1109, 1122, 1135, 1176, 1189, 1273, 1348, 1361, 1417, 1473, 1529, 1585, 1660, 1728, 1803, 1878, 1946], 145) := by decide +kernel
theorem dL_law_184 : decode cL_law 184 = .ok (.aload_n 1, 1) := by decide +kernel
theorem dL_law_185 : decode cL_law 185 = .ok (.aload_n 0, 1) := by decide +kernel
theorem dL_law_186 : decode cL_law 186 = .ok (.iload 4, 2) := by decide +kernel
theorem dL_law_188 : decode cL_law 188 = .ok (.iconst 1, 1) := by decide +kernel
theorem dL_law_189 : decode cL_law 189 = .ok (.iadd, 1) := by decide +kernel
theorem dL_law_190 : decode cL_law 190 = .ok (.iaload, 1) := by decide +kernel
theorem dL_law_191 : decode cL_law 191 = .ok (.aload_n 3, 1) := by decide +kernel
theorem dL_law_192 : decode cL_law 192 = .ok (.invokestatic 101, 3) := by decide +kernel
theorem dL_law_195 : decode cL_law 195 = .ok (.istore 5, 2) := by decide +kernel
theorem dL_law_197 : decode cL_law 197 = .ok (.aload_n 2, 1) := by decide +kernel
theorem dL_law_198 : decode cL_law 198 = .ok (.aload_n 0, 1) := by decide +kernel
theorem dL_law_199 : decode cL_law 199 = .ok (.iload 4, 2) := by decide +kernel
theorem dL_law_201 : decode cL_law 201 = .ok (.iconst 1, 1) := by decide +kernel
theorem dL_law_202 : decode cL_law 202 = .ok (.iadd, 1) := by decide +kernel
theorem dL_law_203 : decode cL_law 203 = .ok (.iaload, 1) := by decide +kernel
theorem dL_law_204 : decode cL_law 204 = .ok (.invokevirtual 106, 3) := by decide +kernel
theorem dL_law_207 : decode cL_law 207 = .ok (.istore 6, 2) := by decide +kernel
theorem dL_law_209 : decode cL_law 209 = .ok (.aload_n 2, 1) := by decide +kernel
theorem dL_law_210 : decode cL_law 210 = .ok (.invokevirtual 107, 3) := by decide +kernel
theorem dL_law_213 : decode cL_law 213 = .ok (.iload 5, 2) := by decide +kernel
theorem dL_law_215 : decode cL_law 215 = .ok (.if_icmp .eq 5, 3) := by decide +kernel
theorem dL_law_218 : decode cL_law 218 = .ok (.iconst 0, 1) := by decide +kernel
theorem dL_law_219 : decode cL_law 219 = .ok (.ireturn, 1) := by decide +kernel
theorem dL_law_220 : decode cL_law 220 = .ok (.iload 5, 2) := by decide +kernel
theorem dL_law_222 : decode cL_law 222 = .ok (.ifCond .ne 15, 3) := by decide +kernel
theorem dL_law_225 : decode cL_law 225 = .ok (.aload_n 3, 1) := by decide +kernel
theorem dL_law_226 : decode cL_law 226 = .ok (.iconst 0, 1) := by decide +kernel
theorem dL_law_227 : decode cL_law 227 = .ok (.laload, 1) := by decide +kernel
theorem dL_law_228 : decode cL_law 228 = .ok (.iload 6, 2) := by decide +kernel
theorem dL_law_230 : decode cL_law 230 = .ok (.i2l, 1) := by decide +kernel
theorem dL_law_231 : decode cL_law 231 = .ok (.lcmp, 1) := by decide +kernel
theorem dL_law_232 : decode cL_law 232 = .ok (.ifCond .eq 5, 3) := by decide +kernel
theorem dL_law_235 : decode cL_law 235 = .ok (.iconst 0, 1) := by decide +kernel
theorem dL_law_236 : decode cL_law 236 = .ok (.ireturn, 1) := by decide +kernel
theorem dL_law_237 : decode cL_law 237 = .ok (.goto 1762, 3) := by decide +kernel
theorem dL_law_240 : decode cL_law 240 = .ok (.aload_n 1, 1) := by decide +kernel
theorem dL_law_241 : decode cL_law 241 = .ok (.aload_n 0, 1) := by decide +kernel
theorem dL_law_242 : decode cL_law 242 = .ok (.iload 4, 2) := by decide +kernel
theorem dL_law_244 : decode cL_law 244 = .ok (.iconst 1, 1) := by decide +kernel
theorem dL_law_245 : decode cL_law 245 = .ok (.iadd, 1) := by decide +kernel
theorem dL_law_246 : decode cL_law 246 = .ok (.iaload, 1) := by decide +kernel
theorem dL_law_247 : decode cL_law 247 = .ok (.aload_n 3, 1) := by decide +kernel
theorem dL_law_248 : decode cL_law 248 = .ok (.invokestatic 111, 3) := by decide +kernel
theorem dL_law_251 : decode cL_law 251 = .ok (.istore 5, 2) := by decide +kernel
theorem dL_law_253 : decode cL_law 253 = .ok (.aload_n 2, 1) := by decide +kernel
theorem dL_law_254 : decode cL_law 254 = .ok (.aload_n 0, 1) := by decide +kernel
theorem dL_law_255 : decode cL_law 255 = .ok (.iload 4, 2) := by decide +kernel
theorem dL_law_257 : decode cL_law 257 = .ok (.iconst 1, 1) := by decide +kernel
theorem dL_law_258 : decode cL_law 258 = .ok (.iadd, 1) := by decide +kernel
theorem dL_law_259 : decode cL_law 259 = .ok (.iaload, 1) := by decide +kernel
theorem dL_law_260 : decode cL_law 260 = .ok (.invokevirtual 113, 3) := by decide +kernel
theorem dL_law_263 : decode cL_law 263 = .ok (.istore 6, 2) := by decide +kernel
theorem dL_law_265 : decode cL_law 265 = .ok (.aload_n 2, 1) := by decide +kernel
theorem dL_law_266 : decode cL_law 266 = .ok (.invokevirtual 107, 3) := by decide +kernel
theorem dL_law_269 : decode cL_law 269 = .ok (.iload 5, 2) := by decide +kernel
theorem dL_law_271 : decode cL_law 271 = .ok (.if_icmp .eq 5, 3) := by decide +kernel
theorem dL_law_274 : decode cL_law 274 = .ok (.iconst 0, 1) := by decide +kernel
theorem dL_law_275 : decode cL_law 275 = .ok (.ireturn, 1) := by decide +kernel
theorem dL_law_276 : decode cL_law 276 = .ok (.iload 5, 2) := by decide +kernel
theorem dL_law_278 : decode cL_law 278 = .ok (.ifCond .ne 15, 3) := by decide +kernel
theorem dL_law_281 : decode cL_law 281 = .ok (.aload_n 3, 1) := by decide +kernel
theorem dL_law_282 : decode cL_law 282 = .ok (.iconst 0, 1) := by decide +kernel
theorem dL_law_283 : decode cL_law 283 = .ok (.laload, 1) := by decide +kernel
theorem dL_law_284 : decode cL_law 284 = .ok (.iload 6, 2) := by decide +kernel
theorem dL_law_286 : decode cL_law 286 = .ok (.i2l, 1) := by decide +kernel
theorem dL_law_287 : decode cL_law 287 = .ok (.lcmp, 1) := by decide +kernel
theorem dL_law_288 : decode cL_law 288 = .ok (.ifCond .eq 5, 3) := by decide +kernel
theorem dL_law_291 : decode cL_law 291 = .ok (.iconst 0, 1) := by decide +kernel
theorem dL_law_292 : decode cL_law 292 = .ok (.ireturn, 1) := by decide +kernel
theorem dL_law_293 : decode cL_law 293 = .ok (.goto 1706, 3) := by decide +kernel
theorem dL_law_296 : decode cL_law 296 = .ok (.aload_n 1, 1) := by decide +kernel
theorem dL_law_297 : decode cL_law 297 = .ok (.aload_n 0, 1) := by decide +kernel
theorem dL_law_298 : decode cL_law 298 = .ok (.iload 4, 2) := by decide +kernel
theorem dL_law_300 : decode cL_law 300 = .ok (.iconst 1, 1) := by decide +kernel
theorem dL_law_301 : decode cL_law 301 = .ok (.iadd, 1) := by decide +kernel
theorem dL_law_302 : decode cL_law 302 = .ok (.iaload, 1) := by decide +kernel
theorem dL_law_303 : decode cL_law 303 = .ok (.aload_n 0, 1) := by decide +kernel
theorem dL_law_304 : decode cL_law 304 = .ok (.iload 4, 2) := by decide +kernel
theorem dL_law_306 : decode cL_law 306 = .ok (.iconst 2, 1) := by decide +kernel
theorem dL_law_307 : decode cL_law 307 = .ok (.iadd, 1) := by decide +kernel
theorem dL_law_308 : decode cL_law 308 = .ok (.iaload, 1) := by decide +kernel
theorem dL_law_309 : decode cL_law 309 = .ok (.aload_n 3, 1) := by decide +kernel
theorem dL_law_310 : decode cL_law 310 = .ok (.invokestatic 114, 3) := by decide +kernel
theorem dL_law_313 : decode cL_law 313 = .ok (.istore 5, 2) := by decide +kernel
theorem dL_law_315 : decode cL_law 315 = .ok (.aload_n 2, 1) := by decide +kernel
theorem dL_law_316 : decode cL_law 316 = .ok (.aload_n 0, 1) := by decide +kernel
theorem dL_law_317 : decode cL_law 317 = .ok (.iload 4, 2) := by decide +kernel
theorem dL_law_319 : decode cL_law 319 = .ok (.iconst 1, 1) := by decide +kernel
theorem dL_law_320 : decode cL_law 320 = .ok (.iadd, 1) := by decide +kernel
theorem dL_law_321 : decode cL_law 321 = .ok (.iaload, 1) := by decide +kernel
theorem dL_law_322 : decode cL_law 322 = .ok (.aload_n 0, 1) := by decide +kernel
theorem dL_law_323 : decode cL_law 323 = .ok (.iload 4, 2) := by decide +kernel
theorem dL_law_325 : decode cL_law 325 = .ok (.iconst 2, 1) := by decide +kernel
theorem dL_law_326 : decode cL_law 326 = .ok (.iadd, 1) := by decide +kernel
theorem dL_law_327 : decode cL_law 327 = .ok (.iaload, 1) := by decide +kernel
theorem dL_law_328 : decode cL_law 328 = .ok (.invokevirtual 117, 3) := by decide +kernel
theorem dL_law_331 : decode cL_law 331 = .ok (.istore 6, 2) := by decide +kernel
theorem dL_law_333 : decode cL_law 333 = .ok (.aload_n 2, 1) := by decide +kernel
theorem dL_law_334 : decode cL_law 334 = .ok (.invokevirtual 107, 3) := by decide +kernel
theorem dL_law_337 : decode cL_law 337 = .ok (.iload 5, 2) := by decide +kernel
theorem dL_law_339 : decode cL_law 339 = .ok (.if_icmp .eq 5, 3) := by decide +kernel
theorem dL_law_342 : decode cL_law 342 = .ok (.iconst 0, 1) := by decide +kernel
theorem dL_law_343 : decode cL_law 343 = .ok (.ireturn, 1) := by decide +kernel
theorem dL_law_344 : decode cL_law 344 = .ok (.iload 5, 2) := by decide +kernel
theorem dL_law_346 : decode cL_law 346 = .ok (.ifCond .ne 15, 3) := by decide +kernel
theorem dL_law_349 : decode cL_law 349 = .ok (.aload_n 3, 1) := by decide +kernel
theorem dL_law_350 : decode cL_law 350 = .ok (.iconst 0, 1) := by decide +kernel
theorem dL_law_351 : decode cL_law 351 = .ok (.laload, 1) := by decide +kernel
theorem dL_law_352 : decode cL_law 352 = .ok (.iload 6, 2) := by decide +kernel
theorem dL_law_354 : decode cL_law 354 = .ok (.i2l, 1) := by decide +kernel
theorem dL_law_355 : decode cL_law 355 = .ok (.lcmp, 1) := by decide +kernel
theorem dL_law_356 : decode cL_law 356 = .ok (.ifCond .eq 5, 3) := by decide +kernel
theorem dL_law_359 : decode cL_law 359 = .ok (.iconst 0, 1) := by decide +kernel
theorem dL_law_360 : decode cL_law 360 = .ok (.ireturn, 1) := by decide +kernel
theorem dL_law_361 : decode cL_law 361 = .ok (.goto 1638, 3) := by decide +kernel
theorem dL_law_364 : decode cL_law 364 = .ok (.aload_n 1, 1) := by decide +kernel
theorem dL_law_365 : decode cL_law 365 = .ok (.aload_n 0, 1) := by decide +kernel
theorem dL_law_366 : decode cL_law 366 = .ok (.iload 4, 2) := by decide +kernel
theorem dL_law_368 : decode cL_law 368 = .ok (.iconst 1, 1) := by decide +kernel
theorem dL_law_369 : decode cL_law 369 = .ok (.iadd, 1) := by decide +kernel
theorem dL_law_370 : decode cL_law 370 = .ok (.iaload, 1) := by decide +kernel
theorem dL_law_371 : decode cL_law 371 = .ok (.aload_n 0, 1) := by decide +kernel
theorem dL_law_372 : decode cL_law 372 = .ok (.iload 4, 2) := by decide +kernel
theorem dL_law_374 : decode cL_law 374 = .ok (.iconst 2, 1) := by decide +kernel
theorem dL_law_375 : decode cL_law 375 = .ok (.iadd, 1) := by decide +kernel
theorem dL_law_376 : decode cL_law 376 = .ok (.iaload, 1) := by decide +kernel
theorem dL_law_377 : decode cL_law 377 = .ok (.aload_n 0, 1) := by decide +kernel
theorem dL_law_378 : decode cL_law 378 = .ok (.iload 4, 2) := by decide +kernel
theorem dL_law_380 : decode cL_law 380 = .ok (.iconst 3, 1) := by decide +kernel
theorem dL_law_381 : decode cL_law 381 = .ok (.iadd, 1) := by decide +kernel
theorem dL_law_382 : decode cL_law 382 = .ok (.iaload, 1) := by decide +kernel
theorem dL_law_383 : decode cL_law 383 = .ok (.aload_n 3, 1) := by decide +kernel
theorem dL_law_384 : decode cL_law 384 = .ok (.invokestatic 118, 3) := by decide +kernel
theorem dL_law_387 : decode cL_law 387 = .ok (.istore 5, 2) := by decide +kernel
theorem dL_law_389 : decode cL_law 389 = .ok (.aload_n 2, 1) := by decide +kernel
theorem dL_law_390 : decode cL_law 390 = .ok (.aload_n 0, 1) := by decide +kernel
theorem dL_law_391 : decode cL_law 391 = .ok (.iload 4, 2) := by decide +kernel
theorem dL_law_393 : decode cL_law 393 = .ok (.iconst 1, 1) := by decide +kernel
theorem dL_law_394 : decode cL_law 394 = .ok (.iadd, 1) := by decide +kernel
theorem dL_law_395 : decode cL_law 395 = .ok (.iaload, 1) := by decide +kernel
theorem dL_law_396 : decode cL_law 396 = .ok (.aload_n 0, 1) := by decide +kernel
theorem dL_law_397 : decode cL_law 397 = .ok (.iload 4, 2) := by decide +kernel
theorem dL_law_399 : decode cL_law 399 = .ok (.iconst 2, 1) := by decide +kernel
theorem dL_law_400 : decode cL_law 400 = .ok (.iadd, 1) := by decide +kernel
theorem dL_law_401 : decode cL_law 401 = .ok (.iaload, 1) := by decide +kernel
theorem dL_law_402 : decode cL_law 402 = .ok (.aload_n 0, 1) := by decide +kernel
theorem dL_law_403 : decode cL_law 403 = .ok (.iload 4, 2) := by decide +kernel
theorem dL_law_405 : decode cL_law 405 = .ok (.iconst 3, 1) := by decide +kernel
theorem dL_law_406 : decode cL_law 406 = .ok (.iadd, 1) := by decide +kernel
theorem dL_law_407 : decode cL_law 407 = .ok (.iaload, 1) := by decide +kernel
theorem dL_law_408 : decode cL_law 408 = .ok (.invokevirtual 121, 3) := by decide +kernel
theorem dL_law_411 : decode cL_law 411 = .ok (.istore 6, 2) := by decide +kernel
theorem dL_law_413 : decode cL_law 413 = .ok (.aload_n 2, 1) := by decide +kernel
theorem dL_law_414 : decode cL_law 414 = .ok (.invokevirtual 107, 3) := by decide +kernel
theorem dL_law_417 : decode cL_law 417 = .ok (.iload 5, 2) := by decide +kernel
theorem dL_law_419 : decode cL_law 419 = .ok (.if_icmp .eq 5, 3) := by decide +kernel
theorem dL_law_422 : decode cL_law 422 = .ok (.iconst 0, 1) := by decide +kernel
theorem dL_law_423 : decode cL_law 423 = .ok (.ireturn, 1) := by decide +kernel
theorem dL_law_424 : decode cL_law 424 = .ok (.iload 5, 2) := by decide +kernel
theorem dL_law_426 : decode cL_law 426 = .ok (.ifCond .ne 15, 3) := by decide +kernel
theorem dL_law_429 : decode cL_law 429 = .ok (.aload_n 3, 1) := by decide +kernel
theorem dL_law_430 : decode cL_law 430 = .ok (.iconst 0, 1) := by decide +kernel
theorem dL_law_431 : decode cL_law 431 = .ok (.laload, 1) := by decide +kernel
theorem dL_law_432 : decode cL_law 432 = .ok (.iload 6, 2) := by decide +kernel
theorem dL_law_434 : decode cL_law 434 = .ok (.i2l, 1) := by decide +kernel
theorem dL_law_435 : decode cL_law 435 = .ok (.lcmp, 1) := by decide +kernel
theorem dL_law_436 : decode cL_law 436 = .ok (.ifCond .eq 5, 3) := by decide +kernel
theorem dL_law_439 : decode cL_law 439 = .ok (.iconst 0, 1) := by decide +kernel
theorem dL_law_440 : decode cL_law 440 = .ok (.ireturn, 1) := by decide +kernel
theorem dL_law_441 : decode cL_law 441 = .ok (.goto 1558, 3) := by decide +kernel
theorem dL_law_444 : decode cL_law 444 = .ok (.aload_n 1, 1) := by decide +kernel
theorem dL_law_445 : decode cL_law 445 = .ok (.invokevirtual 122, 3) := by decide +kernel
theorem dL_law_448 : decode cL_law 448 = .ok (.aload_n 2, 1) := by decide +kernel
theorem dL_law_449 : decode cL_law 449 = .ok (.invokevirtual 125, 3) := by decide +kernel
theorem dL_law_452 : decode cL_law 452 = .ok (.if_icmp .eq 1547, 3) := by decide +kernel
theorem dL_law_455 : decode cL_law 455 = .ok (.iconst 0, 1) := by decide +kernel
theorem dL_law_456 : decode cL_law 456 = .ok (.ireturn, 1) := by decide +kernel
theorem dL_law_457 : decode cL_law 457 = .ok (.aload_n 1, 1) := by decide +kernel
theorem dL_law_458 : decode cL_law 458 = .ok (.aload_n 0, 1) := by decide +kernel
theorem dL_law_459 : decode cL_law 459 = .ok (.iload 4, 2) := by decide +kernel
theorem dL_law_461 : decode cL_law 461 = .ok (.iconst 1, 1) := by decide +kernel
theorem dL_law_462 : decode cL_law 462 = .ok (.iadd, 1) := by decide +kernel
theorem dL_law_463 : decode cL_law 463 = .ok (.iaload, 1) := by decide +kernel
theorem dL_law_464 : decode cL_law 464 = .ok (.aload_n 3, 1) := by decide +kernel
theorem dL_law_465 : decode cL_law 465 = .ok (.invokestatic 126, 3) := by decide +kernel
theorem dL_law_468 : decode cL_law 468 = .ok (.istore 5, 2) := by decide +kernel
theorem dL_law_470 : decode cL_law 470 = .ok (.aload_n 2, 1) := by decide +kernel
theorem dL_law_471 : decode cL_law 471 = .ok (.aload_n 0, 1) := by decide +kernel
theorem dL_law_472 : decode cL_law 472 = .ok (.iload 4, 2) := by decide +kernel
theorem dL_law_474 : decode cL_law 474 = .ok (.iconst 1, 1) := by decide +kernel
theorem dL_law_475 : decode cL_law 475 = .ok (.iadd, 1) := by decide +kernel
theorem dL_law_476 : decode cL_law 476 = .ok (.iaload, 1) := by decide +kernel
theorem dL_law_477 : decode cL_law 477 = .ok (.invokevirtual 128, 3) := by decide +kernel
theorem dL_law_480 : decode cL_law 480 = .ok (.istore 6, 2) := by decide +kernel
theorem dL_law_482 : decode cL_law 482 = .ok (.aload_n 2, 1) := by decide +kernel
theorem dL_law_483 : decode cL_law 483 = .ok (.invokevirtual 107, 3) := by decide +kernel
theorem dL_law_486 : decode cL_law 486 = .ok (.iload 5, 2) := by decide +kernel
theorem dL_law_488 : decode cL_law 488 = .ok (.if_icmp .eq 5, 3) := by decide +kernel
theorem dL_law_491 : decode cL_law 491 = .ok (.iconst 0, 1) := by decide +kernel
theorem dL_law_492 : decode cL_law 492 = .ok (.ireturn, 1) := by decide +kernel
theorem dL_law_493 : decode cL_law 493 = .ok (.iload 5, 2) := by decide +kernel
theorem dL_law_495 : decode cL_law 495 = .ok (.ifCond .ne 22, 3) := by decide +kernel
theorem dL_law_498 : decode cL_law 498 = .ok (.aload_n 3, 1) := by decide +kernel
theorem dL_law_499 : decode cL_law 499 = .ok (.iconst 0, 1) := by decide +kernel
theorem dL_law_500 : decode cL_law 500 = .ok (.laload, 1) := by decide +kernel
theorem dL_law_501 : decode cL_law 501 = .ok (.iload 6, 2) := by decide +kernel
theorem dL_law_503 : decode cL_law 503 = .ok (.ifCond .eq 7, 3) := by decide +kernel
theorem dL_law_506 : decode cL_law 506 = .ok (.lconst 1, 1) := by decide +kernel
theorem dL_law_507 : decode cL_law 507 = .ok (.goto 4, 3) := by decide +kernel
theorem dL_law_510 : decode cL_law 510 = .ok (.lconst 0, 1) := by decide +kernel
theorem dL_law_511 : decode cL_law 511 = .ok (.lcmp, 1) := by decide +kernel
theorem dL_law_512 : decode cL_law 512 = .ok (.ifCond .eq 5, 3) := by decide +kernel
theorem dL_law_515 : decode cL_law 515 = .ok (.iconst 0, 1) := by decide +kernel
theorem dL_law_516 : decode cL_law 516 = .ok (.ireturn, 1) := by decide +kernel
theorem dL_law_517 : decode cL_law 517 = .ok (.goto 1482, 3) := by decide +kernel
theorem dL_law_520 : decode cL_law 520 = .ok (.aload_n 1, 1) := by decide +kernel
theorem dL_law_521 : decode cL_law 521 = .ok (.aload_n 0, 1) := by decide +kernel
theorem dL_law_522 : decode cL_law 522 = .ok (.iload 4, 2) := by decide +kernel
theorem dL_law_524 : decode cL_law 524 = .ok (.iconst 1, 1) := by decide +kernel
theorem dL_law_525 : decode cL_law 525 = .ok (.iadd, 1) := by decide +kernel
theorem dL_law_526 : decode cL_law 526 = .ok (.iaload, 1) := by decide +kernel
theorem dL_law_527 : decode cL_law 527 = .ok (.aload_n 0, 1) := by decide +kernel
theorem dL_law_528 : decode cL_law 528 = .ok (.iload 4, 2) := by decide +kernel
theorem dL_law_530 : decode cL_law 530 = .ok (.iconst 2, 1) := by decide +kernel
theorem dL_law_531 : decode cL_law 531 = .ok (.iadd, 1) := by decide +kernel
theorem dL_law_532 : decode cL_law 532 = .ok (.iaload, 1) := by decide +kernel
theorem dL_law_533 : decode cL_law 533 = .ok (.aload_n 0, 1) := by decide +kernel
theorem dL_law_534 : decode cL_law 534 = .ok (.iload 4, 2) := by decide +kernel
theorem dL_law_536 : decode cL_law 536 = .ok (.iconst 3, 1) := by decide +kernel
theorem dL_law_537 : decode cL_law 537 = .ok (.iadd, 1) := by decide +kernel
theorem dL_law_538 : decode cL_law 538 = .ok (.iaload, 1) := by decide +kernel
theorem dL_law_539 : decode cL_law 539 = .ok (.aload_n 3, 1) := by decide +kernel
theorem dL_law_540 : decode cL_law 540 = .ok (.invokestatic 129, 3) := by decide +kernel
theorem dL_law_543 : decode cL_law 543 = .ok (.istore 5, 2) := by decide +kernel
theorem dL_law_545 : decode cL_law 545 = .ok (.aload_n 2, 1) := by decide +kernel
theorem dL_law_546 : decode cL_law 546 = .ok (.aload_n 0, 1) := by decide +kernel
theorem dL_law_547 : decode cL_law 547 = .ok (.iload 4, 2) := by decide +kernel
theorem dL_law_549 : decode cL_law 549 = .ok (.iconst 1, 1) := by decide +kernel
theorem dL_law_550 : decode cL_law 550 = .ok (.iadd, 1) := by decide +kernel
theorem dL_law_551 : decode cL_law 551 = .ok (.iaload, 1) := by decide +kernel
theorem dL_law_552 : decode cL_law 552 = .ok (.aload_n 0, 1) := by decide +kernel
theorem dL_law_553 : decode cL_law 553 = .ok (.iload 4, 2) := by decide +kernel
theorem dL_law_555 : decode cL_law 555 = .ok (.iconst 2, 1) := by decide +kernel
theorem dL_law_556 : decode cL_law 556 = .ok (.iadd, 1) := by decide +kernel
theorem dL_law_557 : decode cL_law 557 = .ok (.iaload, 1) := by decide +kernel
theorem dL_law_558 : decode cL_law 558 = .ok (.aload_n 0, 1) := by decide +kernel
theorem dL_law_559 : decode cL_law 559 = .ok (.iload 4, 2) := by decide +kernel
theorem dL_law_561 : decode cL_law 561 = .ok (.iconst 3, 1) := by decide +kernel
theorem dL_law_562 : decode cL_law 562 = .ok (.iadd, 1) := by decide +kernel
theorem dL_law_563 : decode cL_law 563 = .ok (.iaload, 1) := by decide +kernel
theorem dL_law_564 : decode cL_law 564 = .ok (.invokevirtual 131, 3) := by decide +kernel
theorem dL_law_567 : decode cL_law 567 = .ok (.istore 6, 2) := by decide +kernel
theorem dL_law_569 : decode cL_law 569 = .ok (.aload_n 2, 1) := by decide +kernel
theorem dL_law_570 : decode cL_law 570 = .ok (.invokevirtual 107, 3) := by decide +kernel
theorem dL_law_573 : decode cL_law 573 = .ok (.iload 5, 2) := by decide +kernel
theorem dL_law_575 : decode cL_law 575 = .ok (.if_icmp .eq 5, 3) := by decide +kernel
theorem dL_law_578 : decode cL_law 578 = .ok (.iconst 0, 1) := by decide +kernel
theorem dL_law_579 : decode cL_law 579 = .ok (.ireturn, 1) := by decide +kernel
theorem dL_law_580 : decode cL_law 580 = .ok (.iload 5, 2) := by decide +kernel
theorem dL_law_582 : decode cL_law 582 = .ok (.ifCond .ne 15, 3) := by decide +kernel
theorem dL_law_585 : decode cL_law 585 = .ok (.aload_n 3, 1) := by decide +kernel
theorem dL_law_586 : decode cL_law 586 = .ok (.iconst 0, 1) := by decide +kernel
theorem dL_law_587 : decode cL_law 587 = .ok (.laload, 1) := by decide +kernel
theorem dL_law_588 : decode cL_law 588 = .ok (.iload 6, 2) := by decide +kernel
theorem dL_law_590 : decode cL_law 590 = .ok (.i2l, 1) := by decide +kernel
theorem dL_law_591 : decode cL_law 591 = .ok (.lcmp, 1) := by decide +kernel
theorem dL_law_592 : decode cL_law 592 = .ok (.ifCond .eq 5, 3) := by decide +kernel
theorem dL_law_595 : decode cL_law 595 = .ok (.iconst 0, 1) := by decide +kernel
theorem dL_law_596 : decode cL_law 596 = .ok (.ireturn, 1) := by decide +kernel
theorem dL_law_597 : decode cL_law 597 = .ok (.goto 1402, 3) := by decide +kernel
theorem dL_law_600 : decode cL_law 600 = .ok (.aload_n 1, 1) := by decide +kernel
theorem dL_law_601 : decode cL_law 601 = .ok (.aload_n 0, 1) := by decide +kernel
theorem dL_law_602 : decode cL_law 602 = .ok (.iload 4, 2) := by decide +kernel
theorem dL_law_604 : decode cL_law 604 = .ok (.iconst 1, 1) := by decide +kernel
theorem dL_law_605 : decode cL_law 605 = .ok (.iadd, 1) := by decide +kernel
theorem dL_law_606 : decode cL_law 606 = .ok (.iaload, 1) := by decide +kernel
theorem dL_law_607 : decode cL_law 607 = .ok (.aload_n 0, 1) := by decide +kernel
theorem dL_law_608 : decode cL_law 608 = .ok (.iload 4, 2) := by decide +kernel
theorem dL_law_610 : decode cL_law 610 = .ok (.iconst 2, 1) := by decide +kernel
theorem dL_law_611 : decode cL_law 611 = .ok (.iadd, 1) := by decide +kernel
theorem dL_law_612 : decode cL_law 612 = .ok (.iaload, 1) := by decide +kernel
theorem dL_law_613 : decode cL_law 613 = .ok (.aload_n 3, 1) := by decide +kernel
theorem dL_law_614 : decode cL_law 614 = .ok (.invokestatic 132, 3) := by decide +kernel
theorem dL_law_617 : decode cL_law 617 = .ok (.istore 5, 2) := by decide +kernel
theorem dL_law_619 : decode cL_law 619 = .ok (.aload_n 2, 1) := by decide +kernel
theorem dL_law_620 : decode cL_law 620 = .ok (.aload_n 0, 1) := by decide +kernel
theorem dL_law_621 : decode cL_law 621 = .ok (.iload 4, 2) := by decide +kernel
theorem dL_law_623 : decode cL_law 623 = .ok (.iconst 1, 1) := by decide +kernel
theorem dL_law_624 : decode cL_law 624 = .ok (.iadd, 1) := by decide +kernel
theorem dL_law_625 : decode cL_law 625 = .ok (.iaload, 1) := by decide +kernel
theorem dL_law_626 : decode cL_law 626 = .ok (.aload_n 0, 1) := by decide +kernel
theorem dL_law_627 : decode cL_law 627 = .ok (.iload 4, 2) := by decide +kernel
theorem dL_law_629 : decode cL_law 629 = .ok (.iconst 2, 1) := by decide +kernel
theorem dL_law_630 : decode cL_law 630 = .ok (.iadd, 1) := by decide +kernel
theorem dL_law_631 : decode cL_law 631 = .ok (.iaload, 1) := by decide +kernel
theorem dL_law_632 : decode cL_law 632 = .ok (.invokevirtual 134, 3) := by decide +kernel
theorem dL_law_635 : decode cL_law 635 = .ok (.istore 6, 2) := by decide +kernel
theorem dL_law_637 : decode cL_law 637 = .ok (.aload_n 2, 1) := by decide +kernel
theorem dL_law_638 : decode cL_law 638 = .ok (.invokevirtual 107, 3) := by decide +kernel
theorem dL_law_641 : decode cL_law 641 = .ok (.iload 5, 2) := by decide +kernel
theorem dL_law_643 : decode cL_law 643 = .ok (.if_icmp .eq 5, 3) := by decide +kernel
theorem dL_law_646 : decode cL_law 646 = .ok (.iconst 0, 1) := by decide +kernel
theorem dL_law_647 : decode cL_law 647 = .ok (.ireturn, 1) := by decide +kernel
theorem dL_law_648 : decode cL_law 648 = .ok (.iload 5, 2) := by decide +kernel
theorem dL_law_650 : decode cL_law 650 = .ok (.ifCond .ne 15, 3) := by decide +kernel
theorem dL_law_653 : decode cL_law 653 = .ok (.aload_n 3, 1) := by decide +kernel
theorem dL_law_654 : decode cL_law 654 = .ok (.iconst 0, 1) := by decide +kernel
theorem dL_law_655 : decode cL_law 655 = .ok (.laload, 1) := by decide +kernel
theorem dL_law_656 : decode cL_law 656 = .ok (.iload 6, 2) := by decide +kernel
theorem dL_law_658 : decode cL_law 658 = .ok (.i2l, 1) := by decide +kernel
theorem dL_law_659 : decode cL_law 659 = .ok (.lcmp, 1) := by decide +kernel
theorem dL_law_660 : decode cL_law 660 = .ok (.ifCond .eq 5, 3) := by decide +kernel
theorem dL_law_663 : decode cL_law 663 = .ok (.iconst 0, 1) := by decide +kernel
theorem dL_law_664 : decode cL_law 664 = .ok (.ireturn, 1) := by decide +kernel
theorem dL_law_665 : decode cL_law 665 = .ok (.goto 1334, 3) := by decide +kernel
theorem dL_law_668 : decode cL_law 668 = .ok (.aload_n 1, 1) := by decide +kernel
theorem dL_law_669 : decode cL_law 669 = .ok (.aload_n 0, 1) := by decide +kernel
theorem dL_law_670 : decode cL_law 670 = .ok (.iload 4, 2) := by decide +kernel
theorem dL_law_672 : decode cL_law 672 = .ok (.iconst 1, 1) := by decide +kernel
theorem dL_law_673 : decode cL_law 673 = .ok (.iadd, 1) := by decide +kernel
theorem dL_law_674 : decode cL_law 674 = .ok (.iaload, 1) := by decide +kernel
theorem dL_law_675 : decode cL_law 675 = .ok (.aload_n 3, 1) := by decide +kernel
theorem dL_law_676 : decode cL_law 676 = .ok (.invokestatic 135, 3) := by decide +kernel
theorem dL_law_679 : decode cL_law 679 = .ok (.istore 5, 2) := by decide +kernel
theorem dL_law_681 : decode cL_law 681 = .ok (.aload_n 2, 1) := by decide +kernel
theorem dL_law_682 : decode cL_law 682 = .ok (.aload_n 0, 1) := by decide +kernel
theorem dL_law_683 : decode cL_law 683 = .ok (.iload 4, 2) := by decide +kernel
theorem dL_law_685 : decode cL_law 685 = .ok (.iconst 1, 1) := by decide +kernel
theorem dL_law_686 : decode cL_law 686 = .ok (.iadd, 1) := by decide +kernel
theorem dL_law_687 : decode cL_law 687 = .ok (.iaload, 1) := by decide +kernel
theorem dL_law_688 : decode cL_law 688 = .ok (.invokevirtual 137, 3) := by decide +kernel
theorem dL_law_691 : decode cL_law 691 = .ok (.istore 6, 2) := by decide +kernel
theorem dL_law_693 : decode cL_law 693 = .ok (.aload_n 2, 1) := by decide +kernel
theorem dL_law_694 : decode cL_law 694 = .ok (.invokevirtual 107, 3) := by decide +kernel
theorem dL_law_697 : decode cL_law 697 = .ok (.iload 5, 2) := by decide +kernel
theorem dL_law_699 : decode cL_law 699 = .ok (.if_icmp .eq 5, 3) := by decide +kernel
theorem dL_law_702 : decode cL_law 702 = .ok (.iconst 0, 1) := by decide +kernel
theorem dL_law_703 : decode cL_law 703 = .ok (.ireturn, 1) := by decide +kernel
theorem dL_law_704 : decode cL_law 704 = .ok (.iload 5, 2) := by decide +kernel
theorem dL_law_706 : decode cL_law 706 = .ok (.ifCond .ne 15, 3) := by decide +kernel
theorem dL_law_709 : decode cL_law 709 = .ok (.aload_n 3, 1) := by decide +kernel
theorem dL_law_710 : decode cL_law 710 = .ok (.iconst 0, 1) := by decide +kernel
theorem dL_law_711 : decode cL_law 711 = .ok (.laload, 1) := by decide +kernel
theorem dL_law_712 : decode cL_law 712 = .ok (.iload 6, 2) := by decide +kernel
theorem dL_law_714 : decode cL_law 714 = .ok (.i2l, 1) := by decide +kernel
theorem dL_law_715 : decode cL_law 715 = .ok (.lcmp, 1) := by decide +kernel
theorem dL_law_716 : decode cL_law 716 = .ok (.ifCond .eq 5, 3) := by decide +kernel
theorem dL_law_719 : decode cL_law 719 = .ok (.iconst 0, 1) := by decide +kernel
theorem dL_law_720 : decode cL_law 720 = .ok (.ireturn, 1) := by decide +kernel
theorem dL_law_721 : decode cL_law 721 = .ok (.goto 1278, 3) := by decide +kernel
theorem dL_law_724 : decode cL_law 724 = .ok (.aload_n 1, 1) := by decide +kernel
theorem dL_law_725 : decode cL_law 725 = .ok (.aload_n 0, 1) := by decide +kernel
theorem dL_law_726 : decode cL_law 726 = .ok (.iload 4, 2) := by decide +kernel
theorem dL_law_728 : decode cL_law 728 = .ok (.iconst 1, 1) := by decide +kernel
theorem dL_law_729 : decode cL_law 729 = .ok (.iadd, 1) := by decide +kernel
theorem dL_law_730 : decode cL_law 730 = .ok (.iaload, 1) := by decide +kernel
theorem dL_law_731 : decode cL_law 731 = .ok (.aload_n 0, 1) := by decide +kernel
theorem dL_law_732 : decode cL_law 732 = .ok (.iload 4, 2) := by decide +kernel
theorem dL_law_734 : decode cL_law 734 = .ok (.iconst 2, 1) := by decide +kernel
theorem dL_law_735 : decode cL_law 735 = .ok (.iadd, 1) := by decide +kernel
theorem dL_law_736 : decode cL_law 736 = .ok (.iaload, 1) := by decide +kernel
theorem dL_law_737 : decode cL_law 737 = .ok (.ifCond .eq 7, 3) := by decide +kernel
theorem dL_law_740 : decode cL_law 740 = .ok (.iconst 1, 1) := by decide +kernel
theorem dL_law_741 : decode cL_law 741 = .ok (.goto 4, 3) := by decide +kernel
theorem dL_law_744 : decode cL_law 744 = .ok (.iconst 0, 1) := by decide +kernel
theorem dL_law_745 : decode cL_law 745 = .ok (.aload_n 3, 1) := by decide +kernel
theorem dL_law_746 : decode cL_law 746 = .ok (.invokestatic 138, 3) := by decide +kernel
theorem dL_law_749 : decode cL_law 749 = .ok (.istore 5, 2) := by decide +kernel
theorem dL_law_751 : decode cL_law 751 = .ok (.aload_n 2, 1) := by decide +kernel
theorem dL_law_752 : decode cL_law 752 = .ok (.aload_n 0, 1) := by decide +kernel
theorem dL_law_753 : decode cL_law 753 = .ok (.iload 4, 2) := by decide +kernel
theorem dL_law_755 : decode cL_law 755 = .ok (.iconst 1, 1) := by decide +kernel
theorem dL_law_756 : decode cL_law 756 = .ok (.iadd, 1) := by decide +kernel
theorem dL_law_757 : decode cL_law 757 = .ok (.iaload, 1) := by decide +kernel
theorem dL_law_758 : decode cL_law 758 = .ok (.aload_n 0, 1) := by decide +kernel
theorem dL_law_759 : decode cL_law 759 = .ok (.iload 4, 2) := by decide +kernel
theorem dL_law_761 : decode cL_law 761 = .ok (.iconst 2, 1) := by decide +kernel
theorem dL_law_762 : decode cL_law 762 = .ok (.iadd, 1) := by decide +kernel
theorem dL_law_763 : decode cL_law 763 = .ok (.iaload, 1) := by decide +kernel
theorem dL_law_764 : decode cL_law 764 = .ok (.ifCond .eq 7, 3) := by decide +kernel
theorem dL_law_767 : decode cL_law 767 = .ok (.iconst 1, 1) := by decide +kernel
theorem dL_law_768 : decode cL_law 768 = .ok (.goto 4, 3) := by decide +kernel
theorem dL_law_771 : decode cL_law 771 = .ok (.iconst 0, 1) := by decide +kernel
theorem dL_law_772 : decode cL_law 772 = .ok (.invokevirtual 141, 3) := by decide +kernel
theorem dL_law_775 : decode cL_law 775 = .ok (.istore 6, 2) := by decide +kernel
theorem dL_law_777 : decode cL_law 777 = .ok (.aload_n 2, 1) := by decide +kernel
theorem dL_law_778 : decode cL_law 778 = .ok (.invokevirtual 107, 3) := by decide +kernel
theorem dL_law_781 : decode cL_law 781 = .ok (.iload 5, 2) := by decide +kernel
theorem dL_law_783 : decode cL_law 783 = .ok (.if_icmp .eq 5, 3) := by decide +kernel
theorem dL_law_786 : decode cL_law 786 = .ok (.iconst 0, 1) := by decide +kernel
theorem dL_law_787 : decode cL_law 787 = .ok (.ireturn, 1) := by decide +kernel
theorem dL_law_788 : decode cL_law 788 = .ok (.iload 5, 2) := by decide +kernel
theorem dL_law_790 : decode cL_law 790 = .ok (.ifCond .ne 22, 3) := by decide +kernel
theorem dL_law_793 : decode cL_law 793 = .ok (.aload_n 3, 1) := by decide +kernel
theorem dL_law_794 : decode cL_law 794 = .ok (.iconst 0, 1) := by decide +kernel
theorem dL_law_795 : decode cL_law 795 = .ok (.laload, 1) := by decide +kernel
theorem dL_law_796 : decode cL_law 796 = .ok (.iload 6, 2) := by decide +kernel
theorem dL_law_798 : decode cL_law 798 = .ok (.ifCond .eq 7, 3) := by decide +kernel
theorem dL_law_801 : decode cL_law 801 = .ok (.lconst 1, 1) := by decide +kernel
theorem dL_law_802 : decode cL_law 802 = .ok (.goto 4, 3) := by decide +kernel
theorem dL_law_805 : decode cL_law 805 = .ok (.lconst 0, 1) := by decide +kernel
theorem dL_law_806 : decode cL_law 806 = .ok (.lcmp, 1) := by decide +kernel
theorem dL_law_807 : decode cL_law 807 = .ok (.ifCond .eq 5, 3) := by decide +kernel
theorem dL_law_810 : decode cL_law 810 = .ok (.iconst 0, 1) := by decide +kernel
theorem dL_law_811 : decode cL_law 811 = .ok (.ireturn, 1) := by decide +kernel
theorem dL_law_812 : decode cL_law 812 = .ok (.goto 1187, 3) := by decide +kernel
theorem dL_law_815 : decode cL_law 815 = .ok (.aload_n 1, 1) := by decide +kernel
theorem dL_law_816 : decode cL_law 816 = .ok (.aload_n 0, 1) := by decide +kernel
theorem dL_law_817 : decode cL_law 817 = .ok (.iload 4, 2) := by decide +kernel
theorem dL_law_819 : decode cL_law 819 = .ok (.iconst 1, 1) := by decide +kernel
theorem dL_law_820 : decode cL_law 820 = .ok (.iadd, 1) := by decide +kernel
theorem dL_law_821 : decode cL_law 821 = .ok (.iaload, 1) := by decide +kernel
theorem dL_law_822 : decode cL_law 822 = .ok (.aload_n 0, 1) := by decide +kernel
theorem dL_law_823 : decode cL_law 823 = .ok (.iload 4, 2) := by decide +kernel
theorem dL_law_825 : decode cL_law 825 = .ok (.iconst 2, 1) := by decide +kernel
theorem dL_law_826 : decode cL_law 826 = .ok (.iadd, 1) := by decide +kernel
theorem dL_law_827 : decode cL_law 827 = .ok (.iaload, 1) := by decide +kernel
theorem dL_law_828 : decode cL_law 828 = .ok (.aload_n 3, 1) := by decide +kernel
theorem dL_law_829 : decode cL_law 829 = .ok (.invokestatic 142, 3) := by decide +kernel
theorem dL_law_832 : decode cL_law 832 = .ok (.istore 5, 2) := by decide +kernel
theorem dL_law_834 : decode cL_law 834 = .ok (.aload_n 2, 1) := by decide +kernel
theorem dL_law_835 : decode cL_law 835 = .ok (.aload_n 0, 1) := by decide +kernel
theorem dL_law_836 : decode cL_law 836 = .ok (.iload 4, 2) := by decide +kernel
theorem dL_law_838 : decode cL_law 838 = .ok (.iconst 1, 1) := by decide +kernel
theorem dL_law_839 : decode cL_law 839 = .ok (.iadd, 1) := by decide +kernel
theorem dL_law_840 : decode cL_law 840 = .ok (.iaload, 1) := by decide +kernel
theorem dL_law_841 : decode cL_law 841 = .ok (.aload_n 0, 1) := by decide +kernel
theorem dL_law_842 : decode cL_law 842 = .ok (.iload 4, 2) := by decide +kernel
theorem dL_law_844 : decode cL_law 844 = .ok (.iconst 2, 1) := by decide +kernel
theorem dL_law_845 : decode cL_law 845 = .ok (.iadd, 1) := by decide +kernel
theorem dL_law_846 : decode cL_law 846 = .ok (.iaload, 1) := by decide +kernel
theorem dL_law_847 : decode cL_law 847 = .ok (.invokevirtual 144, 3) := by decide +kernel
theorem dL_law_850 : decode cL_law 850 = .ok (.istore 6, 2) := by decide +kernel
theorem dL_law_852 : decode cL_law 852 = .ok (.aload_n 2, 1) := by decide +kernel
theorem dL_law_853 : decode cL_law 853 = .ok (.invokevirtual 107, 3) := by decide +kernel
theorem dL_law_856 : decode cL_law 856 = .ok (.iload 5, 2) := by decide +kernel
theorem dL_law_858 : decode cL_law 858 = .ok (.if_icmp .eq 5, 3) := by decide +kernel
theorem dL_law_861 : decode cL_law 861 = .ok (.iconst 0, 1) := by decide +kernel
theorem dL_law_862 : decode cL_law 862 = .ok (.ireturn, 1) := by decide +kernel
theorem dL_law_863 : decode cL_law 863 = .ok (.iload 5, 2) := by decide +kernel
theorem dL_law_865 : decode cL_law 865 = .ok (.ifCond .ne 15, 3) := by decide +kernel
theorem dL_law_868 : decode cL_law 868 = .ok (.aload_n 3, 1) := by decide +kernel
theorem dL_law_869 : decode cL_law 869 = .ok (.iconst 0, 1) := by decide +kernel
theorem dL_law_870 : decode cL_law 870 = .ok (.laload, 1) := by decide +kernel
theorem dL_law_871 : decode cL_law 871 = .ok (.iload 6, 2) := by decide +kernel
theorem dL_law_873 : decode cL_law 873 = .ok (.i2l, 1) := by decide +kernel
theorem dL_law_874 : decode cL_law 874 = .ok (.lcmp, 1) := by decide +kernel
theorem dL_law_875 : decode cL_law 875 = .ok (.ifCond .eq 5, 3) := by decide +kernel
theorem dL_law_878 : decode cL_law 878 = .ok (.iconst 0, 1) := by decide +kernel
theorem dL_law_879 : decode cL_law 879 = .ok (.ireturn, 1) := by decide +kernel
theorem dL_law_880 : decode cL_law 880 = .ok (.goto 1119, 3) := by decide +kernel
theorem dL_law_883 : decode cL_law 883 = .ok (.aload_n 1, 1) := by decide +kernel
theorem dL_law_884 : decode cL_law 884 = .ok (.aload_n 0, 1) := by decide +kernel
theorem dL_law_885 : decode cL_law 885 = .ok (.iload 4, 2) := by decide +kernel
theorem dL_law_887 : decode cL_law 887 = .ok (.iconst 1, 1) := by decide +kernel
theorem dL_law_888 : decode cL_law 888 = .ok (.iadd, 1) := by decide +kernel
theorem dL_law_889 : decode cL_law 889 = .ok (.iaload, 1) := by decide +kernel
theorem dL_law_890 : decode cL_law 890 = .ok (.aload_n 3, 1) := by decide +kernel
theorem dL_law_891 : decode cL_law 891 = .ok (.invokestatic 145, 3) := by decide +kernel
theorem dL_law_894 : decode cL_law 894 = .ok (.istore 5, 2) := by decide +kernel
theorem dL_law_896 : decode cL_law 896 = .ok (.aload_n 2, 1) := by decide +kernel
theorem dL_law_897 : decode cL_law 897 = .ok (.aload_n 0, 1) := by decide +kernel
theorem dL_law_898 : decode cL_law 898 = .ok (.iload 4, 2) := by decide +kernel
theorem dL_law_900 : decode cL_law 900 = .ok (.iconst 1, 1) := by decide +kernel
theorem dL_law_901 : decode cL_law 901 = .ok (.iadd, 1) := by decide +kernel
theorem dL_law_902 : decode cL_law 902 = .ok (.iaload, 1) := by decide +kernel
theorem dL_law_903 : decode cL_law 903 = .ok (.invokevirtual 147, 3) := by decide +kernel
theorem dL_law_906 : decode cL_law 906 = .ok (.istore 6, 2) := by decide +kernel
theorem dL_law_908 : decode cL_law 908 = .ok (.aload_n 2, 1) := by decide +kernel
theorem dL_law_909 : decode cL_law 909 = .ok (.invokevirtual 107, 3) := by decide +kernel
theorem dL_law_912 : decode cL_law 912 = .ok (.iload 5, 2) := by decide +kernel
theorem dL_law_914 : decode cL_law 914 = .ok (.if_icmp .eq 5, 3) := by decide +kernel
theorem dL_law_917 : decode cL_law 917 = .ok (.iconst 0, 1) := by decide +kernel
theorem dL_law_918 : decode cL_law 918 = .ok (.ireturn, 1) := by decide +kernel
theorem dL_law_919 : decode cL_law 919 = .ok (.iload 5, 2) := by decide +kernel
theorem dL_law_921 : decode cL_law 921 = .ok (.ifCond .ne 15, 3) := by decide +kernel
theorem dL_law_924 : decode cL_law 924 = .ok (.aload_n 3, 1) := by decide +kernel
theorem dL_law_925 : decode cL_law 925 = .ok (.iconst 0, 1) := by decide +kernel
theorem dL_law_926 : decode cL_law 926 = .ok (.laload, 1) := by decide +kernel
theorem dL_law_927 : decode cL_law 927 = .ok (.iload 6, 2) := by decide +kernel
theorem dL_law_929 : decode cL_law 929 = .ok (.i2l, 1) := by decide +kernel
theorem dL_law_930 : decode cL_law 930 = .ok (.lcmp, 1) := by decide +kernel
theorem dL_law_931 : decode cL_law 931 = .ok (.ifCond .eq 5, 3) := by decide +kernel
theorem dL_law_934 : decode cL_law 934 = .ok (.iconst 0, 1) := by decide +kernel
theorem dL_law_935 : decode cL_law 935 = .ok (.ireturn, 1) := by decide +kernel
theorem dL_law_936 : decode cL_law 936 = .ok (.goto 1063, 3) := by decide +kernel
theorem dL_law_939 : decode cL_law 939 = .ok (.aload_n 1, 1) := by decide +kernel
theorem dL_law_940 : decode cL_law 940 = .ok (.aload_n 0, 1) := by decide +kernel
theorem dL_law_941 : decode cL_law 941 = .ok (.iload 4, 2) := by decide +kernel
theorem dL_law_943 : decode cL_law 943 = .ok (.iconst 1, 1) := by decide +kernel
theorem dL_law_944 : decode cL_law 944 = .ok (.iadd, 1) := by decide +kernel
theorem dL_law_945 : decode cL_law 945 = .ok (.iaload, 1) := by decide +kernel
theorem dL_law_946 : decode cL_law 946 = .ok (.aload_n 3, 1) := by decide +kernel
theorem dL_law_947 : decode cL_law 947 = .ok (.invokestatic 148, 3) := by decide +kernel
theorem dL_law_950 : decode cL_law 950 = .ok (.istore 5, 2) := by decide +kernel
theorem dL_law_952 : decode cL_law 952 = .ok (.aload_n 2, 1) := by decide +kernel
theorem dL_law_953 : decode cL_law 953 = .ok (.aload_n 0, 1) := by decide +kernel
theorem dL_law_954 : decode cL_law 954 = .ok (.iload 4, 2) := by decide +kernel
theorem dL_law_956 : decode cL_law 956 = .ok (.iconst 1, 1) := by decide +kernel
theorem dL_law_957 : decode cL_law 957 = .ok (.iadd, 1) := by decide +kernel
theorem dL_law_958 : decode cL_law 958 = .ok (.iaload, 1) := by decide +kernel
theorem dL_law_959 : decode cL_law 959 = .ok (.invokevirtual 150, 3) := by decide +kernel
theorem dL_law_962 : decode cL_law 962 = .ok (.istore 6, 2) := by decide +kernel
theorem dL_law_964 : decode cL_law 964 = .ok (.aload_n 2, 1) := by decide +kernel
theorem dL_law_965 : decode cL_law 965 = .ok (.invokevirtual 107, 3) := by decide +kernel
theorem dL_law_968 : decode cL_law 968 = .ok (.iload 5, 2) := by decide +kernel
theorem dL_law_970 : decode cL_law 970 = .ok (.if_icmp .eq 5, 3) := by decide +kernel
theorem dL_law_973 : decode cL_law 973 = .ok (.iconst 0, 1) := by decide +kernel
theorem dL_law_974 : decode cL_law 974 = .ok (.ireturn, 1) := by decide +kernel
theorem dL_law_975 : decode cL_law 975 = .ok (.iload 5, 2) := by decide +kernel
theorem dL_law_977 : decode cL_law 977 = .ok (.ifCond .ne 15, 3) := by decide +kernel
theorem dL_law_980 : decode cL_law 980 = .ok (.aload_n 3, 1) := by decide +kernel
theorem dL_law_981 : decode cL_law 981 = .ok (.iconst 0, 1) := by decide +kernel
theorem dL_law_982 : decode cL_law 982 = .ok (.laload, 1) := by decide +kernel
theorem dL_law_983 : decode cL_law 983 = .ok (.iload 6, 2) := by decide +kernel
theorem dL_law_985 : decode cL_law 985 = .ok (.i2l, 1) := by decide +kernel
theorem dL_law_986 : decode cL_law 986 = .ok (.lcmp, 1) := by decide +kernel
theorem dL_law_987 : decode cL_law 987 = .ok (.ifCond .eq 5, 3) := by decide +kernel
theorem dL_law_990 : decode cL_law 990 = .ok (.iconst 0, 1) := by decide +kernel
theorem dL_law_991 : decode cL_law 991 = .ok (.ireturn, 1) := by decide +kernel
theorem dL_law_992 : decode cL_law 992 = .ok (.goto 1007, 3) := by decide +kernel
theorem dL_law_995 : decode cL_law 995 = .ok (.aload_n 1, 1) := by decide +kernel
theorem dL_law_996 : decode cL_law 996 = .ok (.invokevirtual 151, 3) := by decide +kernel
theorem dL_law_999 : decode cL_law 999 = .ok (.aload_n 2, 1) := by decide +kernel
theorem dL_law_1000 : decode cL_law 1000 = .ok (.invokevirtual 154, 3) := by decide +kernel
theorem dL_law_1003 : decode cL_law 1003 = .ok (.if_icmp .eq 996, 3) := by decide +kernel
theorem dL_law_1006 : decode cL_law 1006 = .ok (.iconst 0, 1) := by decide +kernel
theorem dL_law_1007 : decode cL_law 1007 = .ok (.ireturn, 1) := by decide +kernel
theorem dL_law_1008 : decode cL_law 1008 = .ok (.aload_n 1, 1) := by decide +kernel
theorem dL_law_1009 : decode cL_law 1009 = .ok (.aload_n 0, 1) := by decide +kernel
theorem dL_law_1010 : decode cL_law 1010 = .ok (.iload 4, 2) := by decide +kernel
theorem dL_law_1012 : decode cL_law 1012 = .ok (.iconst 1, 1) := by decide +kernel
theorem dL_law_1013 : decode cL_law 1013 = .ok (.iadd, 1) := by decide +kernel
theorem dL_law_1014 : decode cL_law 1014 = .ok (.iaload, 1) := by decide +kernel
theorem dL_law_1015 : decode cL_law 1015 = .ok (.aload_n 0, 1) := by decide +kernel
theorem dL_law_1016 : decode cL_law 1016 = .ok (.iload 4, 2) := by decide +kernel
theorem dL_law_1018 : decode cL_law 1018 = .ok (.iconst 2, 1) := by decide +kernel
theorem dL_law_1019 : decode cL_law 1019 = .ok (.iadd, 1) := by decide +kernel
theorem dL_law_1020 : decode cL_law 1020 = .ok (.iaload, 1) := by decide +kernel
theorem dL_law_1021 : decode cL_law 1021 = .ok (.ifCond .eq 7, 3) := by decide +kernel
theorem dL_law_1024 : decode cL_law 1024 = .ok (.iconst 1, 1) := by decide +kernel
theorem dL_law_1025 : decode cL_law 1025 = .ok (.goto 4, 3) := by decide +kernel
theorem dL_law_1028 : decode cL_law 1028 = .ok (.iconst 0, 1) := by decide +kernel
theorem dL_law_1029 : decode cL_law 1029 = .ok (.aload_n 3, 1) := by decide +kernel
theorem dL_law_1030 : decode cL_law 1030 = .ok (.invokestatic 155, 3) := by decide +kernel
theorem dL_law_1033 : decode cL_law 1033 = .ok (.istore 5, 2) := by decide +kernel
theorem dL_law_1035 : decode cL_law 1035 = .ok (.aload_n 2, 1) := by decide +kernel
theorem dL_law_1036 : decode cL_law 1036 = .ok (.aload_n 0, 1) := by decide +kernel
theorem dL_law_1037 : decode cL_law 1037 = .ok (.iload 4, 2) := by decide +kernel
theorem dL_law_1039 : decode cL_law 1039 = .ok (.iconst 1, 1) := by decide +kernel
theorem dL_law_1040 : decode cL_law 1040 = .ok (.iadd, 1) := by decide +kernel
theorem dL_law_1041 : decode cL_law 1041 = .ok (.iaload, 1) := by decide +kernel
theorem dL_law_1042 : decode cL_law 1042 = .ok (.aload_n 0, 1) := by decide +kernel
theorem dL_law_1043 : decode cL_law 1043 = .ok (.iload 4, 2) := by decide +kernel
theorem dL_law_1045 : decode cL_law 1045 = .ok (.iconst 2, 1) := by decide +kernel
theorem dL_law_1046 : decode cL_law 1046 = .ok (.iadd, 1) := by decide +kernel
theorem dL_law_1047 : decode cL_law 1047 = .ok (.iaload, 1) := by decide +kernel
theorem dL_law_1048 : decode cL_law 1048 = .ok (.ifCond .eq 7, 3) := by decide +kernel
theorem dL_law_1051 : decode cL_law 1051 = .ok (.iconst 1, 1) := by decide +kernel
theorem dL_law_1052 : decode cL_law 1052 = .ok (.goto 4, 3) := by decide +kernel
theorem dL_law_1055 : decode cL_law 1055 = .ok (.iconst 0, 1) := by decide +kernel
theorem dL_law_1056 : decode cL_law 1056 = .ok (.invokevirtual 157, 3) := by decide +kernel
theorem dL_law_1059 : decode cL_law 1059 = .ok (.istore 6, 2) := by decide +kernel
theorem dL_law_1061 : decode cL_law 1061 = .ok (.aload_n 2, 1) := by decide +kernel
theorem dL_law_1062 : decode cL_law 1062 = .ok (.invokevirtual 107, 3) := by decide +kernel
theorem dL_law_1065 : decode cL_law 1065 = .ok (.iload 5, 2) := by decide +kernel
theorem dL_law_1067 : decode cL_law 1067 = .ok (.if_icmp .eq 5, 3) := by decide +kernel
theorem dL_law_1070 : decode cL_law 1070 = .ok (.iconst 0, 1) := by decide +kernel
theorem dL_law_1071 : decode cL_law 1071 = .ok (.ireturn, 1) := by decide +kernel
theorem dL_law_1072 : decode cL_law 1072 = .ok (.iload 5, 2) := by decide +kernel
theorem dL_law_1074 : decode cL_law 1074 = .ok (.ifCond .ne 15, 3) := by decide +kernel
theorem dL_law_1077 : decode cL_law 1077 = .ok (.aload_n 3, 1) := by decide +kernel
theorem dL_law_1078 : decode cL_law 1078 = .ok (.iconst 0, 1) := by decide +kernel
theorem dL_law_1079 : decode cL_law 1079 = .ok (.laload, 1) := by decide +kernel
theorem dL_law_1080 : decode cL_law 1080 = .ok (.iload 6, 2) := by decide +kernel
theorem dL_law_1082 : decode cL_law 1082 = .ok (.i2l, 1) := by decide +kernel
theorem dL_law_1083 : decode cL_law 1083 = .ok (.lcmp, 1) := by decide +kernel
theorem dL_law_1084 : decode cL_law 1084 = .ok (.ifCond .eq 5, 3) := by decide +kernel
theorem dL_law_1087 : decode cL_law 1087 = .ok (.iconst 0, 1) := by decide +kernel
theorem dL_law_1088 : decode cL_law 1088 = .ok (.ireturn, 1) := by decide +kernel
theorem dL_law_1089 : decode cL_law 1089 = .ok (.goto 910, 3) := by decide +kernel
theorem dL_law_1092 : decode cL_law 1092 = .ok (.aload_n 1, 1) := by decide +kernel
theorem dL_law_1093 : decode cL_law 1093 = .ok (.aload_n 0, 1) := by decide +kernel
theorem dL_law_1094 : decode cL_law 1094 = .ok (.iload 4, 2) := by decide +kernel
theorem dL_law_1096 : decode cL_law 1096 = .ok (.iconst 1, 1) := by decide +kernel
theorem dL_law_1097 : decode cL_law 1097 = .ok (.iadd, 1) := by decide +kernel
theorem dL_law_1098 : decode cL_law 1098 = .ok (.iaload, 1) := by decide +kernel
theorem dL_law_1099 : decode cL_law 1099 = .ok (.aload_n 3, 1) := by decide +kernel
theorem dL_law_1100 : decode cL_law 1100 = .ok (.invokestatic 158, 3) := by decide +kernel
theorem dL_law_1103 : decode cL_law 1103 = .ok (.istore 5, 2) := by decide +kernel
theorem dL_law_1105 : decode cL_law 1105 = .ok (.aload_n 2, 1) := by decide +kernel
theorem dL_law_1106 : decode cL_law 1106 = .ok (.aload_n 0, 1) := by decide +kernel
theorem dL_law_1107 : decode cL_law 1107 = .ok (.iload 4, 2) := by decide +kernel
theorem dL_law_1109 : decode cL_law 1109 = .ok (.iconst 1, 1) := by decide +kernel
theorem dL_law_1110 : decode cL_law 1110 = .ok (.iadd, 1) := by decide +kernel
theorem dL_law_1111 : decode cL_law 1111 = .ok (.iaload, 1) := by decide +kernel
theorem dL_law_1112 : decode cL_law 1112 = .ok (.invokevirtual 160, 3) := by decide +kernel
theorem dL_law_1115 : decode cL_law 1115 = .ok (.istore 6, 2) := by decide +kernel
theorem dL_law_1117 : decode cL_law 1117 = .ok (.aload_n 2, 1) := by decide +kernel
theorem dL_law_1118 : decode cL_law 1118 = .ok (.invokevirtual 107, 3) := by decide +kernel
theorem dL_law_1121 : decode cL_law 1121 = .ok (.iload 5, 2) := by decide +kernel
theorem dL_law_1123 : decode cL_law 1123 = .ok (.if_icmp .eq 5, 3) := by decide +kernel
theorem dL_law_1126 : decode cL_law 1126 = .ok (.iconst 0, 1) := by decide +kernel
theorem dL_law_1127 : decode cL_law 1127 = .ok (.ireturn, 1) := by decide +kernel
theorem dL_law_1128 : decode cL_law 1128 = .ok (.iload 5, 2) := by decide +kernel
theorem dL_law_1130 : decode cL_law 1130 = .ok (.ifCond .ne 15, 3) := by decide +kernel
theorem dL_law_1133 : decode cL_law 1133 = .ok (.aload_n 3, 1) := by decide +kernel
theorem dL_law_1134 : decode cL_law 1134 = .ok (.iconst 0, 1) := by decide +kernel
theorem dL_law_1135 : decode cL_law 1135 = .ok (.laload, 1) := by decide +kernel
theorem dL_law_1136 : decode cL_law 1136 = .ok (.iload 6, 2) := by decide +kernel
theorem dL_law_1138 : decode cL_law 1138 = .ok (.i2l, 1) := by decide +kernel
theorem dL_law_1139 : decode cL_law 1139 = .ok (.lcmp, 1) := by decide +kernel
theorem dL_law_1140 : decode cL_law 1140 = .ok (.ifCond .eq 5, 3) := by decide +kernel
theorem dL_law_1143 : decode cL_law 1143 = .ok (.iconst 0, 1) := by decide +kernel
theorem dL_law_1144 : decode cL_law 1144 = .ok (.ireturn, 1) := by decide +kernel
theorem dL_law_1145 : decode cL_law 1145 = .ok (.goto 854, 3) := by decide +kernel
theorem dL_law_1148 : decode cL_law 1148 = .ok (.aload_n 1, 1) := by decide +kernel
theorem dL_law_1149 : decode cL_law 1149 = .ok (.invokevirtual 161, 3) := by decide +kernel
theorem dL_law_1152 : decode cL_law 1152 = .ok (.aload_n 2, 1) := by decide +kernel
theorem dL_law_1153 : decode cL_law 1153 = .ok (.invokevirtual 164, 3) := by decide +kernel
theorem dL_law_1156 : decode cL_law 1156 = .ok (.if_icmp .eq 843, 3) := by decide +kernel
theorem dL_law_1159 : decode cL_law 1159 = .ok (.iconst 0, 1) := by decide +kernel
theorem dL_law_1160 : decode cL_law 1160 = .ok (.ireturn, 1) := by decide +kernel
theorem dL_law_1161 : decode cL_law 1161 = .ok (.aload_n 1, 1) := by decide +kernel
theorem dL_law_1162 : decode cL_law 1162 = .ok (.invokevirtual 165, 3) := by decide +kernel
theorem dL_law_1165 : decode cL_law 1165 = .ok (.aload_n 2, 1) := by decide +kernel
theorem dL_law_1166 : decode cL_law 1166 = .ok (.invokevirtual 168, 3) := by decide +kernel
theorem dL_law_1169 : decode cL_law 1169 = .ok (.if_icmp .eq 830, 3) := by decide +kernel
theorem dL_law_1172 : decode cL_law 1172 = .ok (.iconst 0, 1) := by decide +kernel
theorem dL_law_1173 : decode cL_law 1173 = .ok (.ireturn, 1) := by decide +kernel
theorem dL_law_1174 : decode cL_law 1174 = .ok (.aload_n 1, 1) := by decide +kernel
theorem dL_law_1175 : decode cL_law 1175 = .ok (.invokevirtual 169, 3) := by decide +kernel
theorem dL_law_1178 : decode cL_law 1178 = .ok (.dstore 5, 2) := by decide +kernel
theorem dL_law_1180 : decode cL_law 1180 = .ok (.aload_n 2, 1) := by decide +kernel
theorem dL_law_1181 : decode cL_law 1181 = .ok (.invokevirtual 173, 3) := by decide +kernel
theorem dL_law_1184 : decode cL_law 1184 = .ok (.dstore 7, 2) := by decide +kernel
theorem dL_law_1186 : decode cL_law 1186 = .ok (.dload 5, 2) := by decide +kernel
theorem dL_law_1188 : decode cL_law 1188 = .ok (.dload 7, 2) := by decide +kernel
theorem dL_law_1190 : decode cL_law 1190 = .ok (.dcmp .l, 1) := by decide +kernel
theorem dL_law_1191 : decode cL_law 1191 = .ok (.ifCond .eq 21, 3) := by decide +kernel
theorem dL_law_1194 : decode cL_law 1194 = .ok (.dload 5, 2) := by decide +kernel
theorem dL_law_1196 : decode cL_law 1196 = .ok (.dload 5, 2) := by decide +kernel
theorem dL_law_1198 : decode cL_law 1198 = .ok (.dcmp .l, 1) := by decide +kernel
theorem dL_law_1199 : decode cL_law 1199 = .ok (.ifCond .eq 11, 3) := by decide +kernel
theorem dL_law_1202 : decode cL_law 1202 = .ok (.dload 7, 2) := by decide +kernel
theorem dL_law_1204 : decode cL_law 1204 = .ok (.dload 7, 2) := by decide +kernel
theorem dL_law_1206 : decode cL_law 1206 = .ok (.dcmp .l, 1) := by decide +kernel
theorem dL_law_1207 : decode cL_law 1207 = .ok (.ifCond .ne 5, 3) := by decide +kernel
theorem dL_law_1210 : decode cL_law 1210 = .ok (.iconst 0, 1) := by decide +kernel
theorem dL_law_1211 : decode cL_law 1211 = .ok (.ireturn, 1) := by decide +kernel
theorem dL_law_1212 : decode cL_law 1212 = .ok (.goto 787, 3) := by decide +kernel
theorem dL_law_1215 : decode cL_law 1215 = .ok (.aload_n 1, 1) := by decide +kernel
theorem dL_law_1216 : decode cL_law 1216 = .ok (.invokevirtual 174, 3) := by decide +kernel
theorem dL_law_1219 : decode cL_law 1219 = .ok (.aload_n 2, 1) := by decide +kernel
theorem dL_law_1220 : decode cL_law 1220 = .ok (.invokevirtual 177, 3) := by decide +kernel
theorem dL_law_1223 : decode cL_law 1223 = .ok (.if_icmp .eq 776, 3) := by decide +kernel
theorem dL_law_1226 : decode cL_law 1226 = .ok (.iconst 0, 1) := by decide +kernel
theorem dL_law_1227 : decode cL_law 1227 = .ok (.ireturn, 1) := by decide +kernel
theorem dL_law_1228 : decode cL_law 1228 = .ok (.aload_n 1, 1) := by decide +kernel
theorem dL_law_1229 : decode cL_law 1229 = .ok (.aload_n 0, 1) := by decide +kernel
theorem dL_law_1230 : decode cL_law 1230 = .ok (.iload 4, 2) := by decide +kernel
theorem dL_law_1232 : decode cL_law 1232 = .ok (.iconst 1, 1) := by decide +kernel
theorem dL_law_1233 : decode cL_law 1233 = .ok (.iadd, 1) := by decide +kernel
theorem dL_law_1234 : decode cL_law 1234 = .ok (.iaload, 1) := by decide +kernel
theorem dL_law_1235 : decode cL_law 1235 = .ok (.aload_n 0, 1) := by decide +kernel
theorem dL_law_1236 : decode cL_law 1236 = .ok (.iload 4, 2) := by decide +kernel
theorem dL_law_1238 : decode cL_law 1238 = .ok (.iconst 2, 1) := by decide +kernel
theorem dL_law_1239 : decode cL_law 1239 = .ok (.iadd, 1) := by decide +kernel
theorem dL_law_1240 : decode cL_law 1240 = .ok (.iaload, 1) := by decide +kernel
theorem dL_law_1241 : decode cL_law 1241 = .ok (.ifCond .eq 7, 3) := by decide +kernel
theorem dL_law_1244 : decode cL_law 1244 = .ok (.iconst 1, 1) := by decide +kernel
theorem dL_law_1245 : decode cL_law 1245 = .ok (.goto 4, 3) := by decide +kernel
theorem dL_law_1248 : decode cL_law 1248 = .ok (.iconst 0, 1) := by decide +kernel
theorem dL_law_1249 : decode cL_law 1249 = .ok (.aload_n 3, 1) := by decide +kernel
theorem dL_law_1250 : decode cL_law 1250 = .ok (.invokestatic 178, 3) := by decide +kernel
theorem dL_law_1253 : decode cL_law 1253 = .ok (.istore 5, 2) := by decide +kernel
theorem dL_law_1255 : decode cL_law 1255 = .ok (.aload_n 2, 1) := by decide +kernel
theorem dL_law_1256 : decode cL_law 1256 = .ok (.aload_n 0, 1) := by decide +kernel
theorem dL_law_1257 : decode cL_law 1257 = .ok (.iload 4, 2) := by decide +kernel
theorem dL_law_1259 : decode cL_law 1259 = .ok (.iconst 1, 1) := by decide +kernel
theorem dL_law_1260 : decode cL_law 1260 = .ok (.iadd, 1) := by decide +kernel
theorem dL_law_1261 : decode cL_law 1261 = .ok (.iaload, 1) := by decide +kernel
theorem dL_law_1262 : decode cL_law 1262 = .ok (.aload_n 0, 1) := by decide +kernel
theorem dL_law_1263 : decode cL_law 1263 = .ok (.iload 4, 2) := by decide +kernel
theorem dL_law_1265 : decode cL_law 1265 = .ok (.iconst 2, 1) := by decide +kernel
theorem dL_law_1266 : decode cL_law 1266 = .ok (.iadd, 1) := by decide +kernel
theorem dL_law_1267 : decode cL_law 1267 = .ok (.iaload, 1) := by decide +kernel
theorem dL_law_1268 : decode cL_law 1268 = .ok (.ifCond .eq 7, 3) := by decide +kernel
theorem dL_law_1271 : decode cL_law 1271 = .ok (.iconst 1, 1) := by decide +kernel
theorem dL_law_1272 : decode cL_law 1272 = .ok (.goto 4, 3) := by decide +kernel
theorem dL_law_1275 : decode cL_law 1275 = .ok (.iconst 0, 1) := by decide +kernel
theorem dL_law_1276 : decode cL_law 1276 = .ok (.invokevirtual 180, 3) := by decide +kernel
theorem dL_law_1279 : decode cL_law 1279 = .ok (.istore 6, 2) := by decide +kernel
theorem dL_law_1281 : decode cL_law 1281 = .ok (.aload_n 2, 1) := by decide +kernel
theorem dL_law_1282 : decode cL_law 1282 = .ok (.invokevirtual 107, 3) := by decide +kernel
theorem dL_law_1285 : decode cL_law 1285 = .ok (.iload 5, 2) := by decide +kernel
theorem dL_law_1287 : decode cL_law 1287 = .ok (.if_icmp .eq 5, 3) := by decide +kernel
theorem dL_law_1290 : decode cL_law 1290 = .ok (.iconst 0, 1) := by decide +kernel
theorem dL_law_1291 : decode cL_law 1291 = .ok (.ireturn, 1) := by decide +kernel
theorem dL_law_1292 : decode cL_law 1292 = .ok (.iload 5, 2) := by decide +kernel
theorem dL_law_1294 : decode cL_law 1294 = .ok (.ifCond .ne 15, 3) := by decide +kernel
theorem dL_law_1297 : decode cL_law 1297 = .ok (.aload_n 3, 1) := by decide +kernel
theorem dL_law_1298 : decode cL_law 1298 = .ok (.iconst 0, 1) := by decide +kernel
theorem dL_law_1299 : decode cL_law 1299 = .ok (.laload, 1) := by decide +kernel
theorem dL_law_1300 : decode cL_law 1300 = .ok (.iload 6, 2) := by decide +kernel
theorem dL_law_1302 : decode cL_law 1302 = .ok (.i2l, 1) := by decide +kernel
theorem dL_law_1303 : decode cL_law 1303 = .ok (.lcmp, 1) := by decide +kernel
theorem dL_law_1304 : decode cL_law 1304 = .ok (.ifCond .eq 5, 3) := by decide +kernel
theorem dL_law_1307 : decode cL_law 1307 = .ok (.iconst 0, 1) := by decide +kernel
theorem dL_law_1308 : decode cL_law 1308 = .ok (.ireturn, 1) := by decide +kernel
theorem dL_law_1309 : decode cL_law 1309 = .ok (.goto 690, 3) := by decide +kernel
theorem dL_law_1312 : decode cL_law 1312 = .ok (.aload_n 1, 1) := by decide +kernel
theorem dL_law_1313 : decode cL_law 1313 = .ok (.aload_n 0, 1) := by decide +kernel
theorem dL_law_1314 : decode cL_law 1314 = .ok (.iload 4, 2) := by decide +kernel
theorem dL_law_1316 : decode cL_law 1316 = .ok (.iconst 1, 1) := by decide +kernel
theorem dL_law_1317 : decode cL_law 1317 = .ok (.iadd, 1) := by decide +kernel
theorem dL_law_1318 : decode cL_law 1318 = .ok (.iaload, 1) := by decide +kernel
theorem dL_law_1319 : decode cL_law 1319 = .ok (.aload_n 0, 1) := by decide +kernel
theorem dL_law_1320 : decode cL_law 1320 = .ok (.iload 4, 2) := by decide +kernel
theorem dL_law_1322 : decode cL_law 1322 = .ok (.iconst 2, 1) := by decide +kernel
theorem dL_law_1323 : decode cL_law 1323 = .ok (.iadd, 1) := by decide +kernel
theorem dL_law_1324 : decode cL_law 1324 = .ok (.iaload, 1) := by decide +kernel
theorem dL_law_1325 : decode cL_law 1325 = .ok (.aload_n 3, 1) := by decide +kernel
theorem dL_law_1326 : decode cL_law 1326 = .ok (.invokestatic 181, 3) := by decide +kernel
theorem dL_law_1329 : decode cL_law 1329 = .ok (.istore 5, 2) := by decide +kernel
theorem dL_law_1331 : decode cL_law 1331 = .ok (.aload_n 2, 1) := by decide +kernel
theorem dL_law_1332 : decode cL_law 1332 = .ok (.aload_n 0, 1) := by decide +kernel
theorem dL_law_1333 : decode cL_law 1333 = .ok (.iload 4, 2) := by decide +kernel
theorem dL_law_1335 : decode cL_law 1335 = .ok (.iconst 1, 1) := by decide +kernel
theorem dL_law_1336 : decode cL_law 1336 = .ok (.iadd, 1) := by decide +kernel
theorem dL_law_1337 : decode cL_law 1337 = .ok (.iaload, 1) := by decide +kernel
theorem dL_law_1338 : decode cL_law 1338 = .ok (.aload_n 0, 1) := by decide +kernel
theorem dL_law_1339 : decode cL_law 1339 = .ok (.iload 4, 2) := by decide +kernel
theorem dL_law_1341 : decode cL_law 1341 = .ok (.iconst 2, 1) := by decide +kernel
theorem dL_law_1342 : decode cL_law 1342 = .ok (.iadd, 1) := by decide +kernel
theorem dL_law_1343 : decode cL_law 1343 = .ok (.iaload, 1) := by decide +kernel
theorem dL_law_1344 : decode cL_law 1344 = .ok (.invokevirtual 183, 3) := by decide +kernel
theorem dL_law_1347 : decode cL_law 1347 = .ok (.istore 6, 2) := by decide +kernel
theorem dL_law_1349 : decode cL_law 1349 = .ok (.aload_n 2, 1) := by decide +kernel
theorem dL_law_1350 : decode cL_law 1350 = .ok (.invokevirtual 107, 3) := by decide +kernel
theorem dL_law_1353 : decode cL_law 1353 = .ok (.iload 5, 2) := by decide +kernel
theorem dL_law_1355 : decode cL_law 1355 = .ok (.if_icmp .eq 5, 3) := by decide +kernel
theorem dL_law_1358 : decode cL_law 1358 = .ok (.iconst 0, 1) := by decide +kernel
theorem dL_law_1359 : decode cL_law 1359 = .ok (.ireturn, 1) := by decide +kernel
theorem dL_law_1360 : decode cL_law 1360 = .ok (.iload 5, 2) := by decide +kernel
theorem dL_law_1362 : decode cL_law 1362 = .ok (.ifCond .ne 22, 3) := by decide +kernel
theorem dL_law_1365 : decode cL_law 1365 = .ok (.aload_n 3, 1) := by decide +kernel
theorem dL_law_1366 : decode cL_law 1366 = .ok (.iconst 0, 1) := by decide +kernel
theorem dL_law_1367 : decode cL_law 1367 = .ok (.laload, 1) := by decide +kernel
theorem dL_law_1368 : decode cL_law 1368 = .ok (.iload 6, 2) := by decide +kernel
theorem dL_law_1370 : decode cL_law 1370 = .ok (.ifCond .eq 7, 3) := by decide +kernel
theorem dL_law_1373 : decode cL_law 1373 = .ok (.lconst 1, 1) := by decide +kernel
theorem dL_law_1374 : decode cL_law 1374 = .ok (.goto 4, 3) := by decide +kernel
theorem dL_law_1377 : decode cL_law 1377 = .ok (.lconst 0, 1) := by decide +kernel
theorem dL_law_1378 : decode cL_law 1378 = .ok (.lcmp, 1) := by decide +kernel
theorem dL_law_1379 : decode cL_law 1379 = .ok (.ifCond .eq 5, 3) := by decide +kernel
theorem dL_law_1382 : decode cL_law 1382 = .ok (.iconst 0, 1) := by decide +kernel
theorem dL_law_1383 : decode cL_law 1383 = .ok (.ireturn, 1) := by decide +kernel
theorem dL_law_1384 : decode cL_law 1384 = .ok (.goto 615, 3) := by decide +kernel
theorem dL_law_1387 : decode cL_law 1387 = .ok (.aload_n 1, 1) := by decide +kernel
theorem dL_law_1388 : decode cL_law 1388 = .ok (.invokevirtual 184, 3) := by decide +kernel
theorem dL_law_1391 : decode cL_law 1391 = .ok (.aload_n 2, 1) := by decide +kernel
theorem dL_law_1392 : decode cL_law 1392 = .ok (.invokevirtual 187, 3) := by decide +kernel
theorem dL_law_1395 : decode cL_law 1395 = .ok (.if_icmp .eq 604, 3) := by decide +kernel
theorem dL_law_1398 : decode cL_law 1398 = .ok (.iconst 0, 1) := by decide +kernel
theorem dL_law_1399 : decode cL_law 1399 = .ok (.ireturn, 1) := by decide +kernel
theorem dL_law_1400 : decode cL_law 1400 = .ok (.aload_n 1, 1) := by decide +kernel
theorem dL_law_1401 : decode cL_law 1401 = .ok (.aload_n 0, 1) := by decide +kernel
theorem dL_law_1402 : decode cL_law 1402 = .ok (.iload 4, 2) := by decide +kernel
theorem dL_law_1404 : decode cL_law 1404 = .ok (.iconst 1, 1) := by decide +kernel
theorem dL_law_1405 : decode cL_law 1405 = .ok (.iadd, 1) := by decide +kernel
theorem dL_law_1406 : decode cL_law 1406 = .ok (.iaload, 1) := by decide +kernel
theorem dL_law_1407 : decode cL_law 1407 = .ok (.aload_n 3, 1) := by decide +kernel
theorem dL_law_1408 : decode cL_law 1408 = .ok (.invokestatic 188, 3) := by decide +kernel
theorem dL_law_1411 : decode cL_law 1411 = .ok (.istore 5, 2) := by decide +kernel
theorem dL_law_1413 : decode cL_law 1413 = .ok (.aload_n 2, 1) := by decide +kernel
theorem dL_law_1414 : decode cL_law 1414 = .ok (.aload_n 0, 1) := by decide +kernel
theorem dL_law_1415 : decode cL_law 1415 = .ok (.iload 4, 2) := by decide +kernel
theorem dL_law_1417 : decode cL_law 1417 = .ok (.iconst 1, 1) := by decide +kernel
theorem dL_law_1418 : decode cL_law 1418 = .ok (.iadd, 1) := by decide +kernel
theorem dL_law_1419 : decode cL_law 1419 = .ok (.iaload, 1) := by decide +kernel
theorem dL_law_1420 : decode cL_law 1420 = .ok (.invokevirtual 190, 3) := by decide +kernel
theorem dL_law_1423 : decode cL_law 1423 = .ok (.istore 6, 2) := by decide +kernel
theorem dL_law_1425 : decode cL_law 1425 = .ok (.aload_n 2, 1) := by decide +kernel
theorem dL_law_1426 : decode cL_law 1426 = .ok (.invokevirtual 107, 3) := by decide +kernel
theorem dL_law_1429 : decode cL_law 1429 = .ok (.iload 5, 2) := by decide +kernel
theorem dL_law_1431 : decode cL_law 1431 = .ok (.if_icmp .eq 5, 3) := by decide +kernel
theorem dL_law_1434 : decode cL_law 1434 = .ok (.iconst 0, 1) := by decide +kernel
theorem dL_law_1435 : decode cL_law 1435 = .ok (.ireturn, 1) := by decide +kernel
theorem dL_law_1436 : decode cL_law 1436 = .ok (.iload 5, 2) := by decide +kernel
theorem dL_law_1438 : decode cL_law 1438 = .ok (.ifCond .ne 15, 3) := by decide +kernel
theorem dL_law_1441 : decode cL_law 1441 = .ok (.aload_n 3, 1) := by decide +kernel
theorem dL_law_1442 : decode cL_law 1442 = .ok (.iconst 0, 1) := by decide +kernel
theorem dL_law_1443 : decode cL_law 1443 = .ok (.laload, 1) := by decide +kernel
theorem dL_law_1444 : decode cL_law 1444 = .ok (.iload 6, 2) := by decide +kernel
theorem dL_law_1446 : decode cL_law 1446 = .ok (.i2l, 1) := by decide +kernel
theorem dL_law_1447 : decode cL_law 1447 = .ok (.lcmp, 1) := by decide +kernel
theorem dL_law_1448 : decode cL_law 1448 = .ok (.ifCond .eq 5, 3) := by decide +kernel
theorem dL_law_1451 : decode cL_law 1451 = .ok (.iconst 0, 1) := by decide +kernel
theorem dL_law_1452 : decode cL_law 1452 = .ok (.ireturn, 1) := by decide +kernel
theorem dL_law_1453 : decode cL_law 1453 = .ok (.goto 546, 3) := by decide +kernel
theorem dL_law_1456 : decode cL_law 1456 = .ok (.aload_n 1, 1) := by decide +kernel
theorem dL_law_1457 : decode cL_law 1457 = .ok (.aload_n 0, 1) := by decide +kernel
theorem dL_law_1458 : decode cL_law 1458 = .ok (.iload 4, 2) := by decide +kernel
theorem dL_law_1460 : decode cL_law 1460 = .ok (.iconst 1, 1) := by decide +kernel
theorem dL_law_1461 : decode cL_law 1461 = .ok (.iadd, 1) := by decide +kernel
theorem dL_law_1462 : decode cL_law 1462 = .ok (.iaload, 1) := by decide +kernel
theorem dL_law_1463 : decode cL_law 1463 = .ok (.aload_n 3, 1) := by decide +kernel
theorem dL_law_1464 : decode cL_law 1464 = .ok (.invokestatic 191, 3) := by decide +kernel
theorem dL_law_1467 : decode cL_law 1467 = .ok (.istore 5, 2) := by decide +kernel
theorem dL_law_1469 : decode cL_law 1469 = .ok (.aload_n 2, 1) := by decide +kernel
theorem dL_law_1470 : decode cL_law 1470 = .ok (.aload_n 0, 1) := by decide +kernel
theorem dL_law_1471 : decode cL_law 1471 = .ok (.iload 4, 2) := by decide +kernel
theorem dL_law_1473 : decode cL_law 1473 = .ok (.iconst 1, 1) := by decide +kernel
theorem dL_law_1474 : decode cL_law 1474 = .ok (.iadd, 1) := by decide +kernel
theorem dL_law_1475 : decode cL_law 1475 = .ok (.iaload, 1) := by decide +kernel
theorem dL_law_1476 : decode cL_law 1476 = .ok (.invokevirtual 193, 3) := by decide +kernel
theorem dL_law_1479 : decode cL_law 1479 = .ok (.istore 6, 2) := by decide +kernel
theorem dL_law_1481 : decode cL_law 1481 = .ok (.aload_n 2, 1) := by decide +kernel
theorem dL_law_1482 : decode cL_law 1482 = .ok (.invokevirtual 107, 3) := by decide +kernel
theorem dL_law_1485 : decode cL_law 1485 = .ok (.iload 5, 2) := by decide +kernel
theorem dL_law_1487 : decode cL_law 1487 = .ok (.if_icmp .eq 5, 3) := by decide +kernel
theorem dL_law_1490 : decode cL_law 1490 = .ok (.iconst 0, 1) := by decide +kernel
theorem dL_law_1491 : decode cL_law 1491 = .ok (.ireturn, 1) := by decide +kernel
theorem dL_law_1492 : decode cL_law 1492 = .ok (.iload 5, 2) := by decide +kernel
theorem dL_law_1494 : decode cL_law 1494 = .ok (.ifCond .ne 15, 3) := by decide +kernel
theorem dL_law_1497 : decode cL_law 1497 = .ok (.aload_n 3, 1) := by decide +kernel
theorem dL_law_1498 : decode cL_law 1498 = .ok (.iconst 0, 1) := by decide +kernel
theorem dL_law_1499 : decode cL_law 1499 = .ok (.laload, 1) := by decide +kernel
theorem dL_law_1500 : decode cL_law 1500 = .ok (.iload 6, 2) := by decide +kernel
theorem dL_law_1502 : decode cL_law 1502 = .ok (.i2l, 1) := by decide +kernel
theorem dL_law_1503 : decode cL_law 1503 = .ok (.lcmp, 1) := by decide +kernel
theorem dL_law_1504 : decode cL_law 1504 = .ok (.ifCond .eq 5, 3) := by decide +kernel
theorem dL_law_1507 : decode cL_law 1507 = .ok (.iconst 0, 1) := by decide +kernel
theorem dL_law_1508 : decode cL_law 1508 = .ok (.ireturn, 1) := by decide +kernel
theorem dL_law_1509 : decode cL_law 1509 = .ok (.goto 490, 3) := by decide +kernel
theorem dL_law_1512 : decode cL_law 1512 = .ok (.aload_n 1, 1) := by decide +kernel
theorem dL_law_1513 : decode cL_law 1513 = .ok (.aload_n 0, 1) := by decide +kernel
theorem dL_law_1514 : decode cL_law 1514 = .ok (.iload 4, 2) := by decide +kernel
theorem dL_law_1516 : decode cL_law 1516 = .ok (.iconst 1, 1) := by decide +kernel
theorem dL_law_1517 : decode cL_law 1517 = .ok (.iadd, 1) := by decide +kernel
theorem dL_law_1518 : decode cL_law 1518 = .ok (.iaload, 1) := by decide +kernel
theorem dL_law_1519 : decode cL_law 1519 = .ok (.aload_n 3, 1) := by decide +kernel
theorem dL_law_1520 : decode cL_law 1520 = .ok (.invokestatic 194, 3) := by decide +kernel
theorem dL_law_1523 : decode cL_law 1523 = .ok (.istore 5, 2) := by decide +kernel
theorem dL_law_1525 : decode cL_law 1525 = .ok (.aload_n 2, 1) := by decide +kernel
theorem dL_law_1526 : decode cL_law 1526 = .ok (.aload_n 0, 1) := by decide +kernel
theorem dL_law_1527 : decode cL_law 1527 = .ok (.iload 4, 2) := by decide +kernel
theorem dL_law_1529 : decode cL_law 1529 = .ok (.iconst 1, 1) := by decide +kernel
theorem dL_law_1530 : decode cL_law 1530 = .ok (.iadd, 1) := by decide +kernel
theorem dL_law_1531 : decode cL_law 1531 = .ok (.iaload, 1) := by decide +kernel
theorem dL_law_1532 : decode cL_law 1532 = .ok (.invokevirtual 196, 3) := by decide +kernel
theorem dL_law_1535 : decode cL_law 1535 = .ok (.istore 6, 2) := by decide +kernel
theorem dL_law_1537 : decode cL_law 1537 = .ok (.aload_n 2, 1) := by decide +kernel
theorem dL_law_1538 : decode cL_law 1538 = .ok (.invokevirtual 107, 3) := by decide +kernel
theorem dL_law_1541 : decode cL_law 1541 = .ok (.iload 5, 2) := by decide +kernel
theorem dL_law_1543 : decode cL_law 1543 = .ok (.if_icmp .eq 5, 3) := by decide +kernel
theorem dL_law_1546 : decode cL_law 1546 = .ok (.iconst 0, 1) := by decide +kernel
theorem dL_law_1547 : decode cL_law 1547 = .ok (.ireturn, 1) := by decide +kernel
theorem dL_law_1548 : decode cL_law 1548 = .ok (.iload 5, 2) := by decide +kernel
theorem dL_law_1550 : decode cL_law 1550 = .ok (.ifCond .ne 15, 3) := by decide +kernel
theorem dL_law_1553 : decode cL_law 1553 = .ok (.aload_n 3, 1) := by decide +kernel
theorem dL_law_1554 : decode cL_law 1554 = .ok (.iconst 0, 1) := by decide +kernel
theorem dL_law_1555 : decode cL_law 1555 = .ok (.laload, 1) := by decide +kernel
theorem dL_law_1556 : decode cL_law 1556 = .ok (.iload 6, 2) := by decide +kernel
theorem dL_law_1558 : decode cL_law 1558 = .ok (.i2l, 1) := by decide +kernel
theorem dL_law_1559 : decode cL_law 1559 = .ok (.lcmp, 1) := by decide +kernel
theorem dL_law_1560 : decode cL_law 1560 = .ok (.ifCond .eq 5, 3) := by decide +kernel
theorem dL_law_1563 : decode cL_law 1563 = .ok (.iconst 0, 1) := by decide +kernel
theorem dL_law_1564 : decode cL_law 1564 = .ok (.ireturn, 1) := by decide +kernel
theorem dL_law_1565 : decode cL_law 1565 = .ok (.goto 434, 3) := by decide +kernel
theorem dL_law_1568 : decode cL_law 1568 = .ok (.aload_n 1, 1) := by decide +kernel
theorem dL_law_1569 : decode cL_law 1569 = .ok (.aload_n 0, 1) := by decide +kernel
theorem dL_law_1570 : decode cL_law 1570 = .ok (.iload 4, 2) := by decide +kernel
theorem dL_law_1572 : decode cL_law 1572 = .ok (.iconst 1, 1) := by decide +kernel
theorem dL_law_1573 : decode cL_law 1573 = .ok (.iadd, 1) := by decide +kernel
theorem dL_law_1574 : decode cL_law 1574 = .ok (.iaload, 1) := by decide +kernel
theorem dL_law_1575 : decode cL_law 1575 = .ok (.aload_n 3, 1) := by decide +kernel
theorem dL_law_1576 : decode cL_law 1576 = .ok (.invokestatic 197, 3) := by decide +kernel
theorem dL_law_1579 : decode cL_law 1579 = .ok (.istore 5, 2) := by decide +kernel
theorem dL_law_1581 : decode cL_law 1581 = .ok (.aload_n 2, 1) := by decide +kernel
theorem dL_law_1582 : decode cL_law 1582 = .ok (.aload_n 0, 1) := by decide +kernel
theorem dL_law_1583 : decode cL_law 1583 = .ok (.iload 4, 2) := by decide +kernel
theorem dL_law_1585 : decode cL_law 1585 = .ok (.iconst 1, 1) := by decide +kernel
theorem dL_law_1586 : decode cL_law 1586 = .ok (.iadd, 1) := by decide +kernel
theorem dL_law_1587 : decode cL_law 1587 = .ok (.iaload, 1) := by decide +kernel
theorem dL_law_1588 : decode cL_law 1588 = .ok (.invokevirtual 199, 3) := by decide +kernel
theorem dL_law_1591 : decode cL_law 1591 = .ok (.istore 6, 2) := by decide +kernel
theorem dL_law_1593 : decode cL_law 1593 = .ok (.aload_n 2, 1) := by decide +kernel
theorem dL_law_1594 : decode cL_law 1594 = .ok (.invokevirtual 107, 3) := by decide +kernel
theorem dL_law_1597 : decode cL_law 1597 = .ok (.iload 5, 2) := by decide +kernel
theorem dL_law_1599 : decode cL_law 1599 = .ok (.if_icmp .eq 5, 3) := by decide +kernel
theorem dL_law_1602 : decode cL_law 1602 = .ok (.iconst 0, 1) := by decide +kernel
theorem dL_law_1603 : decode cL_law 1603 = .ok (.ireturn, 1) := by decide +kernel
theorem dL_law_1604 : decode cL_law 1604 = .ok (.iload 5, 2) := by decide +kernel
theorem dL_law_1606 : decode cL_law 1606 = .ok (.ifCond .ne 15, 3) := by decide +kernel
theorem dL_law_1609 : decode cL_law 1609 = .ok (.aload_n 3, 1) := by decide +kernel
theorem dL_law_1610 : decode cL_law 1610 = .ok (.iconst 0, 1) := by decide +kernel
theorem dL_law_1611 : decode cL_law 1611 = .ok (.laload, 1) := by decide +kernel
theorem dL_law_1612 : decode cL_law 1612 = .ok (.iload 6, 2) := by decide +kernel
theorem dL_law_1614 : decode cL_law 1614 = .ok (.i2l, 1) := by decide +kernel
theorem dL_law_1615 : decode cL_law 1615 = .ok (.lcmp, 1) := by decide +kernel
theorem dL_law_1616 : decode cL_law 1616 = .ok (.ifCond .eq 5, 3) := by decide +kernel
theorem dL_law_1619 : decode cL_law 1619 = .ok (.iconst 0, 1) := by decide +kernel
theorem dL_law_1620 : decode cL_law 1620 = .ok (.ireturn, 1) := by decide +kernel
theorem dL_law_1621 : decode cL_law 1621 = .ok (.goto 378, 3) := by decide +kernel
theorem dL_law_1624 : decode cL_law 1624 = .ok (.aload_n 1, 1) := by decide +kernel
theorem dL_law_1625 : decode cL_law 1625 = .ok (.aload_n 0, 1) := by decide +kernel
theorem dL_law_1626 : decode cL_law 1626 = .ok (.iload 4, 2) := by decide +kernel
theorem dL_law_1628 : decode cL_law 1628 = .ok (.iconst 1, 1) := by decide +kernel
theorem dL_law_1629 : decode cL_law 1629 = .ok (.iadd, 1) := by decide +kernel
theorem dL_law_1630 : decode cL_law 1630 = .ok (.iaload, 1) := by decide +kernel
theorem dL_law_1631 : decode cL_law 1631 = .ok (.aload_n 0, 1) := by decide +kernel
theorem dL_law_1632 : decode cL_law 1632 = .ok (.iload 4, 2) := by decide +kernel
theorem dL_law_1634 : decode cL_law 1634 = .ok (.iconst 2, 1) := by decide +kernel
theorem dL_law_1635 : decode cL_law 1635 = .ok (.iadd, 1) := by decide +kernel
theorem dL_law_1636 : decode cL_law 1636 = .ok (.iaload, 1) := by decide +kernel
theorem dL_law_1637 : decode cL_law 1637 = .ok (.aload_n 3, 1) := by decide +kernel
theorem dL_law_1638 : decode cL_law 1638 = .ok (.invokestatic 200, 3) := by decide +kernel
theorem dL_law_1641 : decode cL_law 1641 = .ok (.istore 5, 2) := by decide +kernel
theorem dL_law_1643 : decode cL_law 1643 = .ok (.aload_n 2, 1) := by decide +kernel
theorem dL_law_1644 : decode cL_law 1644 = .ok (.aload_n 0, 1) := by decide +kernel
theorem dL_law_1645 : decode cL_law 1645 = .ok (.iload 4, 2) := by decide +kernel
theorem dL_law_1647 : decode cL_law 1647 = .ok (.iconst 1, 1) := by decide +kernel
theorem dL_law_1648 : decode cL_law 1648 = .ok (.iadd, 1) := by decide +kernel
theorem dL_law_1649 : decode cL_law 1649 = .ok (.iaload, 1) := by decide +kernel
theorem dL_law_1650 : decode cL_law 1650 = .ok (.aload_n 0, 1) := by decide +kernel
theorem dL_law_1651 : decode cL_law 1651 = .ok (.iload 4, 2) := by decide +kernel
theorem dL_law_1653 : decode cL_law 1653 = .ok (.iconst 2, 1) := by decide +kernel
theorem dL_law_1654 : decode cL_law 1654 = .ok (.iadd, 1) := by decide +kernel
theorem dL_law_1655 : decode cL_law 1655 = .ok (.iaload, 1) := by decide +kernel
theorem dL_law_1656 : decode cL_law 1656 = .ok (.invokevirtual 202, 3) := by decide +kernel
theorem dL_law_1659 : decode cL_law 1659 = .ok (.istore 6, 2) := by decide +kernel
theorem dL_law_1661 : decode cL_law 1661 = .ok (.aload_n 2, 1) := by decide +kernel
theorem dL_law_1662 : decode cL_law 1662 = .ok (.invokevirtual 107, 3) := by decide +kernel
theorem dL_law_1665 : decode cL_law 1665 = .ok (.iload 5, 2) := by decide +kernel
theorem dL_law_1667 : decode cL_law 1667 = .ok (.if_icmp .eq 5, 3) := by decide +kernel
theorem dL_law_1670 : decode cL_law 1670 = .ok (.iconst 0, 1) := by decide +kernel
theorem dL_law_1671 : decode cL_law 1671 = .ok (.ireturn, 1) := by decide +kernel
theorem dL_law_1672 : decode cL_law 1672 = .ok (.iload 5, 2) := by decide +kernel
theorem dL_law_1674 : decode cL_law 1674 = .ok (.ifCond .ne 22, 3) := by decide +kernel
theorem dL_law_1677 : decode cL_law 1677 = .ok (.aload_n 3, 1) := by decide +kernel
theorem dL_law_1678 : decode cL_law 1678 = .ok (.iconst 0, 1) := by decide +kernel
theorem dL_law_1679 : decode cL_law 1679 = .ok (.laload, 1) := by decide +kernel
theorem dL_law_1680 : decode cL_law 1680 = .ok (.iload 6, 2) := by decide +kernel
theorem dL_law_1682 : decode cL_law 1682 = .ok (.ifCond .eq 7, 3) := by decide +kernel
theorem dL_law_1685 : decode cL_law 1685 = .ok (.lconst 1, 1) := by decide +kernel
theorem dL_law_1686 : decode cL_law 1686 = .ok (.goto 4, 3) := by decide +kernel
theorem dL_law_1689 : decode cL_law 1689 = .ok (.lconst 0, 1) := by decide +kernel
theorem dL_law_1690 : decode cL_law 1690 = .ok (.lcmp, 1) := by decide +kernel
theorem dL_law_1691 : decode cL_law 1691 = .ok (.ifCond .eq 5, 3) := by decide +kernel
theorem dL_law_1694 : decode cL_law 1694 = .ok (.iconst 0, 1) := by decide +kernel
theorem dL_law_1695 : decode cL_law 1695 = .ok (.ireturn, 1) := by decide +kernel
theorem dL_law_1696 : decode cL_law 1696 = .ok (.goto 303, 3) := by decide +kernel
theorem dL_law_1699 : decode cL_law 1699 = .ok (.aload_n 1, 1) := by decide +kernel
theorem dL_law_1700 : decode cL_law 1700 = .ok (.aload_n 0, 1) := by decide +kernel
theorem dL_law_1701 : decode cL_law 1701 = .ok (.iload 4, 2) := by decide +kernel
theorem dL_law_1703 : decode cL_law 1703 = .ok (.iconst 1, 1) := by decide +kernel
theorem dL_law_1704 : decode cL_law 1704 = .ok (.iadd, 1) := by decide +kernel
theorem dL_law_1705 : decode cL_law 1705 = .ok (.iaload, 1) := by decide +kernel
theorem dL_law_1706 : decode cL_law 1706 = .ok (.aload_n 0, 1) := by decide +kernel
theorem dL_law_1707 : decode cL_law 1707 = .ok (.iload 4, 2) := by decide +kernel
theorem dL_law_1709 : decode cL_law 1709 = .ok (.iconst 2, 1) := by decide +kernel
theorem dL_law_1710 : decode cL_law 1710 = .ok (.iadd, 1) := by decide +kernel
theorem dL_law_1711 : decode cL_law 1711 = .ok (.iaload, 1) := by decide +kernel
theorem dL_law_1712 : decode cL_law 1712 = .ok (.aload_n 3, 1) := by decide +kernel
theorem dL_law_1713 : decode cL_law 1713 = .ok (.invokestatic 203, 3) := by decide +kernel
theorem dL_law_1716 : decode cL_law 1716 = .ok (.istore 5, 2) := by decide +kernel
theorem dL_law_1718 : decode cL_law 1718 = .ok (.aload_n 2, 1) := by decide +kernel
theorem dL_law_1719 : decode cL_law 1719 = .ok (.aload_n 0, 1) := by decide +kernel
theorem dL_law_1720 : decode cL_law 1720 = .ok (.iload 4, 2) := by decide +kernel
theorem dL_law_1722 : decode cL_law 1722 = .ok (.iconst 1, 1) := by decide +kernel
theorem dL_law_1723 : decode cL_law 1723 = .ok (.iadd, 1) := by decide +kernel
theorem dL_law_1724 : decode cL_law 1724 = .ok (.iaload, 1) := by decide +kernel
theorem dL_law_1725 : decode cL_law 1725 = .ok (.aload_n 0, 1) := by decide +kernel
theorem dL_law_1726 : decode cL_law 1726 = .ok (.iload 4, 2) := by decide +kernel
theorem dL_law_1728 : decode cL_law 1728 = .ok (.iconst 2, 1) := by decide +kernel
theorem dL_law_1729 : decode cL_law 1729 = .ok (.iadd, 1) := by decide +kernel
theorem dL_law_1730 : decode cL_law 1730 = .ok (.iaload, 1) := by decide +kernel
theorem dL_law_1731 : decode cL_law 1731 = .ok (.invokevirtual 205, 3) := by decide +kernel
theorem dL_law_1734 : decode cL_law 1734 = .ok (.istore 6, 2) := by decide +kernel
theorem dL_law_1736 : decode cL_law 1736 = .ok (.aload_n 2, 1) := by decide +kernel
theorem dL_law_1737 : decode cL_law 1737 = .ok (.invokevirtual 107, 3) := by decide +kernel
theorem dL_law_1740 : decode cL_law 1740 = .ok (.iload 5, 2) := by decide +kernel
theorem dL_law_1742 : decode cL_law 1742 = .ok (.if_icmp .eq 5, 3) := by decide +kernel
theorem dL_law_1745 : decode cL_law 1745 = .ok (.iconst 0, 1) := by decide +kernel
theorem dL_law_1746 : decode cL_law 1746 = .ok (.ireturn, 1) := by decide +kernel
theorem dL_law_1747 : decode cL_law 1747 = .ok (.iload 5, 2) := by decide +kernel
theorem dL_law_1749 : decode cL_law 1749 = .ok (.ifCond .ne 15, 3) := by decide +kernel
theorem dL_law_1752 : decode cL_law 1752 = .ok (.aload_n 3, 1) := by decide +kernel
theorem dL_law_1753 : decode cL_law 1753 = .ok (.iconst 0, 1) := by decide +kernel
theorem dL_law_1754 : decode cL_law 1754 = .ok (.laload, 1) := by decide +kernel
theorem dL_law_1755 : decode cL_law 1755 = .ok (.iload 6, 2) := by decide +kernel
theorem dL_law_1757 : decode cL_law 1757 = .ok (.i2l, 1) := by decide +kernel
theorem dL_law_1758 : decode cL_law 1758 = .ok (.lcmp, 1) := by decide +kernel
theorem dL_law_1759 : decode cL_law 1759 = .ok (.ifCond .eq 5, 3) := by decide +kernel
theorem dL_law_1762 : decode cL_law 1762 = .ok (.iconst 0, 1) := by decide +kernel
theorem dL_law_1763 : decode cL_law 1763 = .ok (.ireturn, 1) := by decide +kernel
theorem dL_law_1764 : decode cL_law 1764 = .ok (.goto 235, 3) := by decide +kernel
theorem dL_law_1767 : decode cL_law 1767 = .ok (.aload_n 1, 1) := by decide +kernel
theorem dL_law_1768 : decode cL_law 1768 = .ok (.aload_n 0, 1) := by decide +kernel
theorem dL_law_1769 : decode cL_law 1769 = .ok (.iload 4, 2) := by decide +kernel
theorem dL_law_1771 : decode cL_law 1771 = .ok (.iconst 1, 1) := by decide +kernel
theorem dL_law_1772 : decode cL_law 1772 = .ok (.iadd, 1) := by decide +kernel
theorem dL_law_1773 : decode cL_law 1773 = .ok (.iaload, 1) := by decide +kernel
theorem dL_law_1774 : decode cL_law 1774 = .ok (.aload_n 0, 1) := by decide +kernel
theorem dL_law_1775 : decode cL_law 1775 = .ok (.iload 4, 2) := by decide +kernel
theorem dL_law_1777 : decode cL_law 1777 = .ok (.iconst 2, 1) := by decide +kernel
theorem dL_law_1778 : decode cL_law 1778 = .ok (.iadd, 1) := by decide +kernel
theorem dL_law_1779 : decode cL_law 1779 = .ok (.iaload, 1) := by decide +kernel
theorem dL_law_1780 : decode cL_law 1780 = .ok (.aload_n 3, 1) := by decide +kernel
theorem dL_law_1781 : decode cL_law 1781 = .ok (.invokestatic 206, 3) := by decide +kernel
theorem dL_law_1784 : decode cL_law 1784 = .ok (.istore 5, 2) := by decide +kernel
theorem dL_law_1786 : decode cL_law 1786 = .ok (.aload_n 2, 1) := by decide +kernel
theorem dL_law_1787 : decode cL_law 1787 = .ok (.aload_n 0, 1) := by decide +kernel
theorem dL_law_1788 : decode cL_law 1788 = .ok (.iload 4, 2) := by decide +kernel
theorem dL_law_1790 : decode cL_law 1790 = .ok (.iconst 1, 1) := by decide +kernel
theorem dL_law_1791 : decode cL_law 1791 = .ok (.iadd, 1) := by decide +kernel
theorem dL_law_1792 : decode cL_law 1792 = .ok (.iaload, 1) := by decide +kernel
theorem dL_law_1793 : decode cL_law 1793 = .ok (.aload_n 0, 1) := by decide +kernel
theorem dL_law_1794 : decode cL_law 1794 = .ok (.iload 4, 2) := by decide +kernel
theorem dL_law_1796 : decode cL_law 1796 = .ok (.iconst 2, 1) := by decide +kernel
theorem dL_law_1797 : decode cL_law 1797 = .ok (.iadd, 1) := by decide +kernel
theorem dL_law_1798 : decode cL_law 1798 = .ok (.iaload, 1) := by decide +kernel
theorem dL_law_1799 : decode cL_law 1799 = .ok (.invokevirtual 208, 3) := by decide +kernel
theorem dL_law_1802 : decode cL_law 1802 = .ok (.istore 6, 2) := by decide +kernel
theorem dL_law_1804 : decode cL_law 1804 = .ok (.aload_n 2, 1) := by decide +kernel
theorem dL_law_1805 : decode cL_law 1805 = .ok (.invokevirtual 107, 3) := by decide +kernel
theorem dL_law_1808 : decode cL_law 1808 = .ok (.iload 5, 2) := by decide +kernel
theorem dL_law_1810 : decode cL_law 1810 = .ok (.if_icmp .eq 5, 3) := by decide +kernel
theorem dL_law_1813 : decode cL_law 1813 = .ok (.iconst 0, 1) := by decide +kernel
theorem dL_law_1814 : decode cL_law 1814 = .ok (.ireturn, 1) := by decide +kernel
theorem dL_law_1815 : decode cL_law 1815 = .ok (.iload 5, 2) := by decide +kernel
theorem dL_law_1817 : decode cL_law 1817 = .ok (.ifCond .ne 22, 3) := by decide +kernel
theorem dL_law_1820 : decode cL_law 1820 = .ok (.aload_n 3, 1) := by decide +kernel
theorem dL_law_1821 : decode cL_law 1821 = .ok (.iconst 0, 1) := by decide +kernel
theorem dL_law_1822 : decode cL_law 1822 = .ok (.laload, 1) := by decide +kernel
theorem dL_law_1823 : decode cL_law 1823 = .ok (.iload 6, 2) := by decide +kernel
theorem dL_law_1825 : decode cL_law 1825 = .ok (.ifCond .eq 7, 3) := by decide +kernel
theorem dL_law_1828 : decode cL_law 1828 = .ok (.lconst 1, 1) := by decide +kernel
theorem dL_law_1829 : decode cL_law 1829 = .ok (.goto 4, 3) := by decide +kernel
theorem dL_law_1832 : decode cL_law 1832 = .ok (.lconst 0, 1) := by decide +kernel
theorem dL_law_1833 : decode cL_law 1833 = .ok (.lcmp, 1) := by decide +kernel
theorem dL_law_1834 : decode cL_law 1834 = .ok (.ifCond .eq 5, 3) := by decide +kernel
theorem dL_law_1837 : decode cL_law 1837 = .ok (.iconst 0, 1) := by decide +kernel
theorem dL_law_1838 : decode cL_law 1838 = .ok (.ireturn, 1) := by decide +kernel
theorem dL_law_1839 : decode cL_law 1839 = .ok (.goto 160, 3) := by decide +kernel
theorem dL_law_1842 : decode cL_law 1842 = .ok (.aload_n 1, 1) := by decide +kernel
theorem dL_law_1843 : decode cL_law 1843 = .ok (.aload_n 0, 1) := by decide +kernel
theorem dL_law_1844 : decode cL_law 1844 = .ok (.iload 4, 2) := by decide +kernel
theorem dL_law_1846 : decode cL_law 1846 = .ok (.iconst 1, 1) := by decide +kernel
theorem dL_law_1847 : decode cL_law 1847 = .ok (.iadd, 1) := by decide +kernel
theorem dL_law_1848 : decode cL_law 1848 = .ok (.iaload, 1) := by decide +kernel
theorem dL_law_1849 : decode cL_law 1849 = .ok (.aload_n 0, 1) := by decide +kernel
theorem dL_law_1850 : decode cL_law 1850 = .ok (.iload 4, 2) := by decide +kernel
theorem dL_law_1852 : decode cL_law 1852 = .ok (.iconst 2, 1) := by decide +kernel
theorem dL_law_1853 : decode cL_law 1853 = .ok (.iadd, 1) := by decide +kernel
theorem dL_law_1854 : decode cL_law 1854 = .ok (.iaload, 1) := by decide +kernel
theorem dL_law_1855 : decode cL_law 1855 = .ok (.aload_n 3, 1) := by decide +kernel
theorem dL_law_1856 : decode cL_law 1856 = .ok (.invokestatic 209, 3) := by decide +kernel
theorem dL_law_1859 : decode cL_law 1859 = .ok (.istore 5, 2) := by decide +kernel
theorem dL_law_1861 : decode cL_law 1861 = .ok (.aload_n 2, 1) := by decide +kernel
theorem dL_law_1862 : decode cL_law 1862 = .ok (.aload_n 0, 1) := by decide +kernel
theorem dL_law_1863 : decode cL_law 1863 = .ok (.iload 4, 2) := by decide +kernel
theorem dL_law_1865 : decode cL_law 1865 = .ok (.iconst 1, 1) := by decide +kernel
theorem dL_law_1866 : decode cL_law 1866 = .ok (.iadd, 1) := by decide +kernel
theorem dL_law_1867 : decode cL_law 1867 = .ok (.iaload, 1) := by decide +kernel
theorem dL_law_1868 : decode cL_law 1868 = .ok (.aload_n 0, 1) := by decide +kernel
theorem dL_law_1869 : decode cL_law 1869 = .ok (.iload 4, 2) := by decide +kernel
theorem dL_law_1871 : decode cL_law 1871 = .ok (.iconst 2, 1) := by decide +kernel
theorem dL_law_1872 : decode cL_law 1872 = .ok (.iadd, 1) := by decide +kernel
theorem dL_law_1873 : decode cL_law 1873 = .ok (.iaload, 1) := by decide +kernel
theorem dL_law_1874 : decode cL_law 1874 = .ok (.invokevirtual 211, 3) := by decide +kernel
theorem dL_law_1877 : decode cL_law 1877 = .ok (.istore 6, 2) := by decide +kernel
theorem dL_law_1879 : decode cL_law 1879 = .ok (.aload_n 2, 1) := by decide +kernel
theorem dL_law_1880 : decode cL_law 1880 = .ok (.invokevirtual 107, 3) := by decide +kernel
theorem dL_law_1883 : decode cL_law 1883 = .ok (.iload 5, 2) := by decide +kernel
theorem dL_law_1885 : decode cL_law 1885 = .ok (.if_icmp .eq 5, 3) := by decide +kernel
theorem dL_law_1888 : decode cL_law 1888 = .ok (.iconst 0, 1) := by decide +kernel
theorem dL_law_1889 : decode cL_law 1889 = .ok (.ireturn, 1) := by decide +kernel
theorem dL_law_1890 : decode cL_law 1890 = .ok (.iload 5, 2) := by decide +kernel
theorem dL_law_1892 : decode cL_law 1892 = .ok (.ifCond .ne 22, 3) := by decide +kernel
theorem dL_law_1895 : decode cL_law 1895 = .ok (.aload_n 3, 1) := by decide +kernel
theorem dL_law_1896 : decode cL_law 1896 = .ok (.iconst 0, 1) := by decide +kernel
theorem dL_law_1897 : decode cL_law 1897 = .ok (.laload, 1) := by decide +kernel
theorem dL_law_1898 : decode cL_law 1898 = .ok (.iload 6, 2) := by decide +kernel
theorem dL_law_1900 : decode cL_law 1900 = .ok (.ifCond .eq 7, 3) := by decide +kernel
theorem dL_law_1903 : decode cL_law 1903 = .ok (.lconst 1, 1) := by decide +kernel
theorem dL_law_1904 : decode cL_law 1904 = .ok (.goto 4, 3) := by decide +kernel
theorem dL_law_1907 : decode cL_law 1907 = .ok (.lconst 0, 1) := by decide +kernel
theorem dL_law_1908 : decode cL_law 1908 = .ok (.lcmp, 1) := by decide +kernel
theorem dL_law_1909 : decode cL_law 1909 = .ok (.ifCond .eq 5, 3) := by decide +kernel
theorem dL_law_1912 : decode cL_law 1912 = .ok (.iconst 0, 1) := by decide +kernel
theorem dL_law_1913 : decode cL_law 1913 = .ok (.ireturn, 1) := by decide +kernel
theorem dL_law_1914 : decode cL_law 1914 = .ok (.goto 85, 3) := by decide +kernel
theorem dL_law_1917 : decode cL_law 1917 = .ok (.aload_n 1, 1) := by decide +kernel
theorem dL_law_1918 : decode cL_law 1918 = .ok (.aload_n 0, 1) := by decide +kernel
theorem dL_law_1919 : decode cL_law 1919 = .ok (.iload 4, 2) := by decide +kernel
theorem dL_law_1921 : decode cL_law 1921 = .ok (.iconst 1, 1) := by decide +kernel
theorem dL_law_1922 : decode cL_law 1922 = .ok (.iadd, 1) := by decide +kernel
theorem dL_law_1923 : decode cL_law 1923 = .ok (.iaload, 1) := by decide +kernel
theorem dL_law_1924 : decode cL_law 1924 = .ok (.aload_n 0, 1) := by decide +kernel
theorem dL_law_1925 : decode cL_law 1925 = .ok (.iload 4, 2) := by decide +kernel
theorem dL_law_1927 : decode cL_law 1927 = .ok (.iconst 2, 1) := by decide +kernel
theorem dL_law_1928 : decode cL_law 1928 = .ok (.iadd, 1) := by decide +kernel
theorem dL_law_1929 : decode cL_law 1929 = .ok (.iaload, 1) := by decide +kernel
theorem dL_law_1930 : decode cL_law 1930 = .ok (.aload_n 3, 1) := by decide +kernel
theorem dL_law_1931 : decode cL_law 1931 = .ok (.invokestatic 212, 3) := by decide +kernel
theorem dL_law_1934 : decode cL_law 1934 = .ok (.istore 5, 2) := by decide +kernel
theorem dL_law_1936 : decode cL_law 1936 = .ok (.aload_n 2, 1) := by decide +kernel
theorem dL_law_1937 : decode cL_law 1937 = .ok (.aload_n 0, 1) := by decide +kernel
theorem dL_law_1938 : decode cL_law 1938 = .ok (.iload 4, 2) := by decide +kernel
theorem dL_law_1940 : decode cL_law 1940 = .ok (.iconst 1, 1) := by decide +kernel
theorem dL_law_1941 : decode cL_law 1941 = .ok (.iadd, 1) := by decide +kernel
theorem dL_law_1942 : decode cL_law 1942 = .ok (.iaload, 1) := by decide +kernel
theorem dL_law_1943 : decode cL_law 1943 = .ok (.aload_n 0, 1) := by decide +kernel
theorem dL_law_1944 : decode cL_law 1944 = .ok (.iload 4, 2) := by decide +kernel
theorem dL_law_1946 : decode cL_law 1946 = .ok (.iconst 2, 1) := by decide +kernel
theorem dL_law_1947 : decode cL_law 1947 = .ok (.iadd, 1) := by decide +kernel
theorem dL_law_1948 : decode cL_law 1948 = .ok (.iaload, 1) := by decide +kernel
theorem dL_law_1949 : decode cL_law 1949 = .ok (.invokevirtual 214, 3) := by decide +kernel
theorem dL_law_1952 : decode cL_law 1952 = .ok (.istore 6, 2) := by decide +kernel
theorem dL_law_1954 : decode cL_law 1954 = .ok (.aload_n 2, 1) := by decide +kernel
theorem dL_law_1955 : decode cL_law 1955 = .ok (.invokevirtual 107, 3) := by decide +kernel
theorem dL_law_1958 : decode cL_law 1958 = .ok (.iload 5, 2) := by decide +kernel
theorem dL_law_1960 : decode cL_law 1960 = .ok (.if_icmp .eq 5, 3) := by decide +kernel
theorem dL_law_1963 : decode cL_law 1963 = .ok (.iconst 0, 1) := by decide +kernel
theorem dL_law_1964 : decode cL_law 1964 = .ok (.ireturn, 1) := by decide +kernel
theorem dL_law_1965 : decode cL_law 1965 = .ok (.iload 5, 2) := by decide +kernel
theorem dL_law_1967 : decode cL_law 1967 = .ok (.ifCond .ne 15, 3) := by decide +kernel
theorem dL_law_1970 : decode cL_law 1970 = .ok (.aload_n 3, 1) := by decide +kernel
theorem dL_law_1971 : decode cL_law 1971 = .ok (.iconst 0, 1) := by decide +kernel
theorem dL_law_1972 : decode cL_law 1972 = .ok (.laload, 1) := by decide +kernel
theorem dL_law_1973 : decode cL_law 1973 = .ok (.iload 6, 2) := by decide +kernel
theorem dL_law_1975 : decode cL_law 1975 = .ok (.i2l, 1) := by decide +kernel
theorem dL_law_1976 : decode cL_law 1976 = .ok (.lcmp, 1) := by decide +kernel
theorem dL_law_1977 : decode cL_law 1977 = .ok (.ifCond .eq 5, 3) := by decide +kernel
theorem dL_law_1980 : decode cL_law 1980 = .ok (.iconst 0, 1) := by decide +kernel
theorem dL_law_1981 : decode cL_law 1981 = .ok (.ireturn, 1) := by decide +kernel
theorem dL_law_1982 : decode cL_law 1982 = .ok (.goto 17, 3) := by decide +kernel
theorem dL_law_1985 : decode cL_law 1985 = .ok (.aload_n 1, 1) := by decide +kernel
theorem dL_law_1986 : decode cL_law 1986 = .ok (.invokevirtual 215, 3) := by decide +kernel
theorem dL_law_1989 : decode cL_law 1989 = .ok (.aload_n 2, 1) := by decide +kernel
theorem dL_law_1990 : decode cL_law 1990 = .ok (.invokevirtual 219, 3) := by decide +kernel
theorem dL_law_1993 : decode cL_law 1993 = .ok (.lcmp, 1) := by decide +kernel
theorem dL_law_1994 : decode cL_law 1994 = .ok (.ifCond .eq 5, 3) := by decide +kernel
theorem dL_law_1997 : decode cL_law 1997 = .ok (.iconst 0, 1) := by decide +kernel
theorem dL_law_1998 : decode cL_law 1998 = .ok (.ireturn, 1) := by decide +kernel
theorem dL_law_1999 : decode cL_law 1999 = .ok (.iinc 4 4, 3) := by decide +kernel
theorem dL_law_2002 : decode cL_law 2002 = .ok (.goto (-1979), 3) := by decide +kernel
theorem dL_law_2005 : decode cL_law 2005 = .ok (.iconst 1, 1) := by decide +kernel
theorem dL_law_2006 : decode cL_law 2006 = .ok (.ireturn, 1) := by decide +kernel
end
section
abbrev vwCl : List vw_C := [(RX0, TX0, 12), (RX1, TX1, 13)]
end
