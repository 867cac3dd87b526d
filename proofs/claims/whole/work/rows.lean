section
-- ===== PART A: goes FIRST, ahead of the names: the tables' words, and 'selects' of the private methods out of them =====
/-- a private method of a class that the tables say can be made, by its rows of tables_1 -/
def lw_okq (q : MethodName × Nat) : Prop := (q.1.cls ≠ "java/lang/invoke/MethodHandle" ∧ q.1.cls ≠ "java/lang/invoke/VarHandle") ∧ Cond.instantiable q.1.cls q.2 ∈ tables_1 ∧ Cond.privateMethod q.1 ∈ tables_1 ∧ Cond.instanceMethod q.1 ∈ tables_1
theorem lw_p0 : lw_okq (⟨"java/lang/Throwable", "fillInStackTrace", "(I)Ljava/lang/Throwable;"⟩, 6) := ⟨⟨by decide +kernel, by decide +kernel⟩, List.mem_of_getElem? (i := 268) (by decide +kernel), List.mem_of_getElem? (i := 266) (by decide +kernel), List.mem_of_getElem? (i := 267) (by decide +kernel)⟩
theorem lw_p1 : lw_okq (⟨"IssueHouse", "attempt", "(LIssueHouse$Issuer;)V"⟩, 4) := ⟨⟨by decide +kernel, by decide +kernel⟩, List.mem_of_getElem? (i := 18) (by decide +kernel), List.mem_of_getElem? (i := 347) (by decide +kernel), List.mem_of_getElem? (i := 348) (by decide +kernel)⟩
theorem lw_p2 : lw_okq (⟨"IssueHouse", "handToNode", "(LIssueHouse$Letter;)I"⟩, 4) := ⟨⟨by decide +kernel, by decide +kernel⟩, List.mem_of_getElem? (i := 18) (by decide +kernel), List.mem_of_getElem? (i := 413) (by decide +kernel), List.mem_of_getElem? (i := 414) (by decide +kernel)⟩
theorem lw_p3 : lw_okq (⟨"IssueHouse", "decide", "(LIssueHouse$Issuer;I)I"⟩, 4) := ⟨⟨by decide +kernel, by decide +kernel⟩, List.mem_of_getElem? (i := 18) (by decide +kernel), List.mem_of_getElem? (i := 452) (by decide +kernel), List.mem_of_getElem? (i := 453) (by decide +kernel)⟩
theorem lw_p4 : lw_okq (⟨"IssueHouse", "nodesUp", "()I"⟩, 4) := ⟨⟨by decide +kernel, by decide +kernel⟩, List.mem_of_getElem? (i := 18) (by decide +kernel), List.mem_of_getElem? (i := 589) (by decide +kernel), List.mem_of_getElem? (i := 590) (by decide +kernel)⟩
theorem lw_p5 : lw_okq (⟨"IssueHouse", "newestRow", "(I)LIssueHouse$Row;"⟩, 4) := ⟨⟨by decide +kernel, by decide +kernel⟩, List.mem_of_getElem? (i := 18) (by decide +kernel), List.mem_of_getElem? (i := 594) (by decide +kernel), List.mem_of_getElem? (i := 595) (by decide +kernel)⟩
theorem lw_p6 : lw_okq (⟨"IssueHouseModel", "isIssuer", "(I)Z"⟩, 37) := ⟨⟨by decide +kernel, by decide +kernel⟩, List.mem_of_getElem? (i := 609) (by decide +kernel), List.mem_of_getElem? (i := 738) (by decide +kernel), List.mem_of_getElem? (i := 739) (by decide +kernel)⟩
theorem lw_p7 : lw_okq (⟨"IssueHouseModel", "isLetter", "(I)Z"⟩, 37) := ⟨⟨by decide +kernel, by decide +kernel⟩, List.mem_of_getElem? (i := 609) (by decide +kernel), List.mem_of_getElem? (i := 751) (by decide +kernel), List.mem_of_getElem? (i := 752) (by decide +kernel)⟩
theorem lw_p8 : lw_okq (⟨"IssueHouseModel", "remove", "(I)V"⟩, 37) := ⟨⟨by decide +kernel, by decide +kernel⟩, List.mem_of_getElem? (i := 609) (by decide +kernel), List.mem_of_getElem? (i := 755) (by decide +kernel), List.mem_of_getElem? (i := 756) (by decide +kernel)⟩
theorem lw_p9 : lw_okq (⟨"IssueHouseModel", "copy", "(II)V"⟩, 37) := ⟨⟨by decide +kernel, by decide +kernel⟩, List.mem_of_getElem? (i := 609) (by decide +kernel), List.mem_of_getElem? (i := 759) (by decide +kernel), List.mem_of_getElem? (i := 760) (by decide +kernel)⟩
theorem lw_p10 : lw_okq (⟨"IssueHouseModel", "attempt", "(IZ)V"⟩, 37) := ⟨⟨by decide +kernel, by decide +kernel⟩, List.mem_of_getElem? (i := 609) (by decide +kernel), List.mem_of_getElem? (i := 775) (by decide +kernel), List.mem_of_getElem? (i := 776) (by decide +kernel)⟩
theorem lw_p11 : lw_okq (⟨"IssueHouseModel", "forgetCounts", "(I)V"⟩, 37) := ⟨⟨by decide +kernel, by decide +kernel⟩, List.mem_of_getElem? (i := 609) (by decide +kernel), List.mem_of_getElem? (i := 779) (by decide +kernel), List.mem_of_getElem? (i := 780) (by decide +kernel)⟩
theorem lw_p12 : lw_okq (⟨"IssueHouseModel", "ballotOf", "(I)I"⟩, 37) := ⟨⟨by decide +kernel, by decide +kernel⟩, List.mem_of_getElem? (i := 609) (by decide +kernel), List.mem_of_getElem? (i := 783) (by decide +kernel), List.mem_of_getElem? (i := 784) (by decide +kernel)⟩
theorem lw_p13 : lw_okq (⟨"IssueHouseModel", "send", "(IIIII)V"⟩, 37) := ⟨⟨by decide +kernel, by decide +kernel⟩, List.mem_of_getElem? (i := 609) (by decide +kernel), List.mem_of_getElem? (i := 787) (by decide +kernel), List.mem_of_getElem? (i := 788) (by decide +kernel)⟩
theorem lw_p14 : lw_okq (⟨"IssueHouseModel", "promises", "(IIII)I"⟩, 37) := ⟨⟨by decide +kernel, by decide +kernel⟩, List.mem_of_getElem? (i := 609) (by decide +kernel), List.mem_of_getElem? (i := 807) (by decide +kernel), List.mem_of_getElem? (i := 808) (by decide +kernel)⟩
theorem lw_p15 : lw_okq (⟨"IssueHouseModel", "countOf", "(I)I"⟩, 37) := ⟨⟨by decide +kernel, by decide +kernel⟩, List.mem_of_getElem? (i := 609) (by decide +kernel), List.mem_of_getElem? (i := 811) (by decide +kernel), List.mem_of_getElem? (i := 812) (by decide +kernel)⟩
def lw_privs_1 : List (MethodName × Nat) := [(⟨"java/lang/Throwable", "fillInStackTrace", "(I)Ljava/lang/Throwable;"⟩, 6), (⟨"IssueHouse", "attempt", "(LIssueHouse$Issuer;)V"⟩, 4), (⟨"IssueHouse", "handToNode", "(LIssueHouse$Letter;)I"⟩, 4), (⟨"IssueHouse", "decide", "(LIssueHouse$Issuer;I)I"⟩, 4), (⟨"IssueHouse", "nodesUp", "()I"⟩, 4), (⟨"IssueHouse", "newestRow", "(I)LIssueHouse$Row;"⟩, 4), (⟨"IssueHouseModel", "isIssuer", "(I)Z"⟩, 37), (⟨"IssueHouseModel", "isLetter", "(I)Z"⟩, 37), (⟨"IssueHouseModel", "remove", "(I)V"⟩, 37), (⟨"IssueHouseModel", "copy", "(II)V"⟩, 37), (⟨"IssueHouseModel", "attempt", "(IZ)V"⟩, 37), (⟨"IssueHouseModel", "forgetCounts", "(I)V"⟩, 37), (⟨"IssueHouseModel", "ballotOf", "(I)I"⟩, 37), (⟨"IssueHouseModel", "send", "(IIIII)V"⟩, 37), (⟨"IssueHouseModel", "promises", "(IIII)I"⟩, 37), (⟨"IssueHouseModel", "countOf", "(I)I"⟩, 37)]
theorem lw_r1 : ∀ q ∈ lw_privs_1, lw_okq q := List.forall_mem_cons.mpr ⟨lw_p0, List.forall_mem_cons.mpr ⟨lw_p1, List.forall_mem_cons.mpr ⟨lw_p2, List.forall_mem_cons.mpr ⟨lw_p3, List.forall_mem_cons.mpr ⟨lw_p4, List.forall_mem_cons.mpr ⟨lw_p5, List.forall_mem_cons.mpr ⟨lw_p6, List.forall_mem_cons.mpr ⟨lw_p7, List.forall_mem_cons.mpr ⟨lw_p8, List.forall_mem_cons.mpr ⟨lw_p9, List.forall_mem_cons.mpr ⟨lw_p10, List.forall_mem_cons.mpr ⟨lw_p11, List.forall_mem_cons.mpr ⟨lw_p12, List.forall_mem_cons.mpr ⟨lw_p13, List.forall_mem_cons.mpr ⟨lw_p14, List.forall_mem_cons.mpr ⟨lw_p15, fun _ h => absurd h List.not_mem_nil⟩⟩⟩⟩⟩⟩⟩⟩⟩⟩⟩⟩⟩⟩⟩⟩
theorem lw_p16 : lw_okq (⟨"IssueHouseModel", "seatToStart", "(III)I"⟩, 37) := ⟨⟨by decide +kernel, by decide +kernel⟩, List.mem_of_getElem? (i := 609) (by decide +kernel), List.mem_of_getElem? (i := 815) (by decide +kernel), List.mem_of_getElem? (i := 816) (by decide +kernel)⟩
theorem lw_p17 : lw_okq (⟨"IssueHouseModel", "agreed", "(IIII)I"⟩, 37) := ⟨⟨by decide +kernel, by decide +kernel⟩, List.mem_of_getElem? (i := 609) (by decide +kernel), List.mem_of_getElem? (i := 819) (by decide +kernel), List.mem_of_getElem? (i := 820) (by decide +kernel)⟩
theorem lw_p18 : lw_okq (⟨"IssueHouseModel", "rowOf", "(III)I"⟩, 37) := ⟨⟨by decide +kernel, by decide +kernel⟩, List.mem_of_getElem? (i := 609) (by decide +kernel), List.mem_of_getElem? (i := 823) (by decide +kernel), List.mem_of_getElem? (i := 824) (by decide +kernel)⟩
theorem lw_p19 : lw_okq (⟨"IssueHouseModel", "ballotAt", "(I)I"⟩, 37) := ⟨⟨by decide +kernel, by decide +kernel⟩, List.mem_of_getElem? (i := 609) (by decide +kernel), List.mem_of_getElem? (i := 827) (by decide +kernel), List.mem_of_getElem? (i := 828) (by decide +kernel)⟩
theorem lw_p20 : lw_okq (⟨"IssueHouseModel", "holderAt", "(I)I"⟩, 37) := ⟨⟨by decide +kernel, by decide +kernel⟩, List.mem_of_getElem? (i := 609) (by decide +kernel), List.mem_of_getElem? (i := 831) (by decide +kernel), List.mem_of_getElem? (i := 832) (by decide +kernel)⟩
theorem lw_p21 : lw_okq (⟨"IssueHouseModel", "markAt", "(I)J"⟩, 37) := ⟨⟨by decide +kernel, by decide +kernel⟩, List.mem_of_getElem? (i := 609) (by decide +kernel), List.mem_of_getElem? (i := 835) (by decide +kernel), List.mem_of_getElem? (i := 836) (by decide +kernel)⟩
theorem lw_p22 : lw_okq (⟨"IssueHouseModel", "fail", "(I)V"⟩, 37) := ⟨⟨by decide +kernel, by decide +kernel⟩, List.mem_of_getElem? (i := 609) (by decide +kernel), List.mem_of_getElem? (i := 840) (by decide +kernel), List.mem_of_getElem? (i := 841) (by decide +kernel)⟩
theorem lw_p23 : lw_okq (⟨"IssueHouseModel", "termAt", "(I)I"⟩, 37) := ⟨⟨by decide +kernel, by decide +kernel⟩, List.mem_of_getElem? (i := 609) (by decide +kernel), List.mem_of_getElem? (i := 844) (by decide +kernel), List.mem_of_getElem? (i := 845) (by decide +kernel)⟩
theorem lw_p24 : lw_okq (⟨"IssueHouseModel", "accepts", "(IIII)I"⟩, 37) := ⟨⟨by decide +kernel, by decide +kernel⟩, List.mem_of_getElem? (i := 609) (by decide +kernel), List.mem_of_getElem? (i := 848) (by decide +kernel), List.mem_of_getElem? (i := 849) (by decide +kernel)⟩
theorem lw_p25 : lw_okq (⟨"IssueHouseModel", "answer", "(IIIII)I"⟩, 37) := ⟨⟨by decide +kernel, by decide +kernel⟩, List.mem_of_getElem? (i := 609) (by decide +kernel), List.mem_of_getElem? (i := 852) (by decide +kernel), List.mem_of_getElem? (i := 853) (by decide +kernel)⟩
theorem lw_p26 : lw_okq (⟨"IssueHouseModel", "prepares", "(III)I"⟩, 37) := ⟨⟨by decide +kernel, by decide +kernel⟩, List.mem_of_getElem? (i := 609) (by decide +kernel), List.mem_of_getElem? (i := 856) (by decide +kernel), List.mem_of_getElem? (i := 857) (by decide +kernel)⟩
theorem lw_p27 : lw_okq (⟨"IssueHouseModel", "agrees", "(III)I"⟩, 37) := ⟨⟨by decide +kernel, by decide +kernel⟩, List.mem_of_getElem? (i := 609) (by decide +kernel), List.mem_of_getElem? (i := 860) (by decide +kernel), List.mem_of_getElem? (i := 861) (by decide +kernel)⟩
theorem lw_p28 : lw_okq (⟨"IssueHouseModel", "refuses", "(III)I"⟩, 37) := ⟨⟨by decide +kernel, by decide +kernel⟩, List.mem_of_getElem? (i := 609) (by decide +kernel), List.mem_of_getElem? (i := 865) (by decide +kernel), List.mem_of_getElem? (i := 866) (by decide +kernel)⟩
theorem lw_p29 : lw_okq (⟨"IssueHouseModel", "give", "(II)J"⟩, 37) := ⟨⟨by decide +kernel, by decide +kernel⟩, List.mem_of_getElem? (i := 609) (by decide +kernel), List.mem_of_getElem? (i := 877) (by decide +kernel), List.mem_of_getElem? (i := 878) (by decide +kernel)⟩
def lw_privs_2 : List (MethodName × Nat) := [(⟨"IssueHouseModel", "seatToStart", "(III)I"⟩, 37), (⟨"IssueHouseModel", "agreed", "(IIII)I"⟩, 37), (⟨"IssueHouseModel", "rowOf", "(III)I"⟩, 37), (⟨"IssueHouseModel", "ballotAt", "(I)I"⟩, 37), (⟨"IssueHouseModel", "holderAt", "(I)I"⟩, 37), (⟨"IssueHouseModel", "markAt", "(I)J"⟩, 37), (⟨"IssueHouseModel", "fail", "(I)V"⟩, 37), (⟨"IssueHouseModel", "termAt", "(I)I"⟩, 37), (⟨"IssueHouseModel", "accepts", "(IIII)I"⟩, 37), (⟨"IssueHouseModel", "answer", "(IIIII)I"⟩, 37), (⟨"IssueHouseModel", "prepares", "(III)I"⟩, 37), (⟨"IssueHouseModel", "agrees", "(III)I"⟩, 37), (⟨"IssueHouseModel", "refuses", "(III)I"⟩, 37), (⟨"IssueHouseModel", "give", "(II)J"⟩, 37)]
theorem lw_r2 : ∀ q ∈ lw_privs_2, lw_okq q := List.forall_mem_cons.mpr ⟨lw_p16, List.forall_mem_cons.mpr ⟨lw_p17, List.forall_mem_cons.mpr ⟨lw_p18, List.forall_mem_cons.mpr ⟨lw_p19, List.forall_mem_cons.mpr ⟨lw_p20, List.forall_mem_cons.mpr ⟨lw_p21, List.forall_mem_cons.mpr ⟨lw_p22, List.forall_mem_cons.mpr ⟨lw_p23, List.forall_mem_cons.mpr ⟨lw_p24, List.forall_mem_cons.mpr ⟨lw_p25, List.forall_mem_cons.mpr ⟨lw_p26, List.forall_mem_cons.mpr ⟨lw_p27, List.forall_mem_cons.mpr ⟨lw_p28, List.forall_mem_cons.mpr ⟨lw_p29, fun _ h => absurd h List.not_mem_nil⟩⟩⟩⟩⟩⟩⟩⟩⟩⟩⟩⟩⟩⟩
def lw_privs : List (MethodName × Nat) := lw_privs_1 ++ (lw_privs_2)
def lw_tbl : List Cond := k2_sels lw_privs ++ tables_1
theorem lw_privs_ok : ∀ q ∈ lw_privs, lw_okq q := by
  show ∀ q ∈ lw_privs_1 ++ (lw_privs_2), lw_okq q
  exact List.forall_mem_append.mpr ⟨lw_r1, lw_r2⟩
end
section
/-! ===== BEGIN words of one list among another's, by their places ===== -/
theorem goodIn_r {big : List Cond} (ws : List Cond) (ps : List Nat) (hp : ws = ps.filterMap (fun i => big[i]?)) (h : ws.all goodWord = true) : GoodIn big ws := by
  intro w hw
  have h1 := List.all_eq_true.mp h w hw
  rw [hp] at hw
  obtain ⟨i, -, hi⟩ := List.mem_filterMap.mp hw
  have hm : w ∈ big := by first | exact List.mem_of_getElem? hi | exact List.getElem?_mem hi
  exact ⟨hm, good_of_word h1⟩
theorem goodIn_app {big a b : List Cond} (ha : GoodIn big a) (hb : GoodIn big b) : GoodIn big (a ++ b) := fun w h => (List.mem_append.mp h).elim (ha w) (hb w)
theorem goodIn_ca {big a b : List Cond} {c : Cond} (ha : GoodIn big (c :: a)) (hb : GoodIn big b) : GoodIn big (c :: (a ++ b)) := fun w h => (List.mem_cons.mp h).elim (fun e => ha w (List.mem_cons.mpr (Or.inl e))) (fun h => (List.mem_append.mp h).elim (fun h => ha w (List.mem_cons.mpr (Or.inr h))) (hb w))
theorem goodIn_sub {big ws : List Cond} (hm : ∀ w ∈ ws, w ∈ big) (h : ws.all goodWord = true) : GoodIn big ws := fun w hw => ⟨hm w hw, good_of_word (List.all_eq_true.mp h w hw)⟩
/-! ===== END ===== -/

/-! ===== BEGIN exceptions that leave a method, and their catching by the caller (launches without stack traces) ===== -/
section VXA
/-! The laws vx_back, vx_callV, vx_callS, vx_callSW, vx_throw0, vx_throwS follow proofs of the library, with one case more: JvmDerived/Free/Laws.lean (Back.of_free), Shelf42/LK1.lean (callV, callS), Shelf/KitTraced.lean (throwNew0V, throwNewS). -/
/-- where a method has thrown q: the class by its name, the cell, what was written, the world -/
def vx_T (XC : String → State → State → Prop) (st : State) (q : Addr) (t : State) (mc ms : Nat) (free : Addr → Prop) : Prop :=
  ∃ (E : String) (ce : Cell) (L : List Loc), XC E st t ∧ t.heap[q]? = some ce ∧ ce.vm = .none ∧ st.vm.findClass E = some ce.cls ∧ st.WarmedH t.vm ∧ st.sameButNew ({ t with vm := st.vm } : State) L mc ms ∧ ∀ z ∈ L, free z.base
def vx_Q (Qc : Array Value → State → Outcome → State → Prop) (XC : String → State → State → Prop) (mc ms : Nat) (free : Addr → Prop) : Array Value → State → Outcome → State → Prop := fun a st o t =>
  (Qc a st o t ∧ ∃ L, FrameEnd st o t L mc ms ∧ ∀ q ∈ L, free q.base) ∨ ∃ q, o = .threw q ∧ vx_T XC st q t mc ms free
/-- a callee that returns or throws -/
def vx_Met (l : Launch) (y : MethodName) (ws : List Cond) (rm : Room) (Pc : Array Value → State → Prop) (Qc : Array Value → State → Outcome → State → Prop) (XC : String → State → State → Prop) (mc ms : Nat) (free : Addr → Prop) : Prop :=
  MetFree l y (headSpec ws rm) Pc (fun _ _ _ _ _ => True) (vx_Q Qc XC mc ms free)
def vx_Post (XC : String → State → State → Prop) (mc ms : Nat) (free : Addr → Prop) : Pt → Array Value → Addr → Pt → Prop := fun A a q B =>
  ∃ (g : JFrame) (mk : MethodId) (t : State) (L : List Loc) (E : String) (ce : Cell), B.U.heap = t.heap ∧ B.U.vm = t.vm ∧ XC E (A.U.calling g mk a) t ∧ t.heap[q]? = some ce ∧ ce.vm = .none ∧ A.U.vm.findClass E = some ce.cls ∧ B.locs = A.locs ++ L ∧ (∀ z ∈ L, free z.base) ∧ B.cells = A.cells + mc ∧ B.slots = A.slots + ms
def vx_Back (l : Launch) (R : Room) (p : Program) (e : Env) (below : List Frame) (s : State) (sargs : Array Value) (y : MethodName) (len W9 : Nat)
    (Pre : Pt → Array Value → Prop) (Post : Pt → Array Value → Option Value → Pt → Prop) (PostX : Pt → Array Value → Addr → Pt → Prop) : Prop :=
  ∀ (m : MethodId) (meth : Method) (c : Code) (A : Pt) (g : JFrame) (ig : Instr) (mk : MethodId) (a : Array Value),
    Stand p l e R s m sargs below meth c A.U A.locs A.cells A.slots → g.method = m → g.locals.size = c.maxLocals → decode c.code g.pc = .ok (ig, len) →
    2 * g.monitorRoom + (g.stack.map fun v => v.category).sum ≤ W9 → A.U.methodNamed? y = some mk → Pre A a →
    (∃ (v : Option Value) (B : Pt), Stand p l e R s m sargs below meth c B.U B.locs B.cells B.slots ∧ Post A a v B ∧
      Steps p.tables e below (doInvoke e (A.U.setTop g) [] mk a).1 (B.U.setTop { g with pc := g.pc + len, stack := v.toList ++ g.stack })) ∨
    (∃ (q : Addr) (B : Pt), Stand p l e R s m sargs below meth c B.U B.locs B.cells B.slots ∧ PostX A a q B ∧
      Steps p.tables e below (doInvoke e (A.U.setTop g) [] mk a).1 ((B.U.setTop g).pushFrame (.throwing q)))
section Payer
variable {l : Launch} {R : Room} {p : Program} {e : Env} {below : List Frame} {s : State} {sargs : Array Value} {y : MethodName} {len W9 : Nat}
theorem vx_back {ws : List Cond} {rm : Room} {Pc : Array Value → State → Prop} {Qc : Array Value → State → Outcome → State → Prop} {XC : String → State → State → Prop} {mc ms : Nat} {free : Addr → Prop} {bytes : ByteArray} {maxL : Nat} {ret : Option FieldType}
    (hM : vx_Met l y ws rm Pc Qc XC mc ms free) (hblind : FrameBlind Pc) (hrc : rm.cells = mc) (hrs : rm.slots = ms)
    (hframes : rm.frames + 1 ≤ R.frames) (hlocals : W9 + (maxL + 11) + rm.locals ≤ R.locals)
    (hws : ∀ w ∈ ws, ∀ a' U, s.WarmedH U.vm → w.before a' U = true) (hcode : Cond.code y bytes maxL ret ∈ ws) (hinit : ∀ a' U, s.WarmedH U.vm → (Cond.initialized y.cls).before a' U = true) :
    vx_Back l R p e below s sargs y len W9 (PreOf R mc ms Pc) (PostOf Qc mc ms free) (vx_Post XC mc ms free) := by
  intro m meth c A g ig mk a X hg hsize hdg hW hn hp
  have h1 : (headSpec ws rm).pre.before a A.U = true := atoms_intro fun w hw => hws w hw _ _ X.warmed
  have h2 : (Cond.code y bytes maxL ret).before a A.U = true := hws _ hcode _ _ X.warmed
  have h3 : (Cond.initialized y.cls).before a A.U = true := hinit _ _ X.warmed
  have h4 : A.cells + (headSpec ws rm).room.cells ≤ R.cells := by rw [show (headSpec ws rm).room.cells = mc from hrc]; exact hp.1
  have h5 : A.slots + (headSpec ws rm).room.slots ≤ R.slots := by rw [show (headSpec ws rm).room.slots = ms from hrs]; exact hp.2.1
  have hPc : Pc a (A.U.calling g mk a) := hblind _ _ _ _ hp.2.2
  obtain ⟨U, Ls, c0, s0⟩ := A
  dsimp only [Pt.U, Pt.locs, Pt.cells, Pt.slots] at h1 h2 h3 h4 h5 X hn hPc ⊢
  obtain ⟨methY, cY, hmY, hcY, -, hlY, -, -, -, -⟩ := Cond.code_spec hn h2
  obtain ⟨kY, hkY, -⟩ := className_of_methodNamed hn
  have hinitY : kY.init = .initialized := Cond.initialized_spec (findClass_of_methodNamed hn) hkY h3
  have h : At U g.method c below := by rw [hg]; exact X.here
  have hlocals9 : W9 + (maxL + 11) + (headSpec ws rm).room.locals ≤ R.locals := hlocals
  have happ : (headSpec ws rm).appliesLoose y e.platform (U.calling g mk a) = true :=
    Spec.appliesLoose_calling (g := g) h hdg hn hkY hinitY
      (X.room_calling (g := g) (R' := (headSpec ws rm).room) hsize hmY hcY hframes (by rw [hlY]; omega) h4 h5) h1
  obtain ⟨mid, hmid⟩ := h.above
  have hfr : (U.setTop g).frames = (.java g :: mid) ++ below := by rw [State.frames_setTop' g h.top, hmid]; rfl
  obtain ⟨o, s₂, hsteps, -, hend, hq⟩ := Steps.callFree hM p X.admits X.cas X.clock (acts := []) hfr happ hPc trivial
  have hq' : vx_Q Qc XC mc ms free a (U.calling g mk a) o s₂ := hq
  rw [State.frames_setTop' g h.top] at hend
  obtain ⟨g₀, hg0⟩ := Option.isSome_iff_exists.mp h.top
  obtain ⟨r, hr⟩ := State.topJava?_eq_some.mp hg0
  have hr' : (({ U with heap := s₂.heap, slotsUsed := s₂.slotsUsed } : State).setVm s₂.vm).frames = .java g₀ :: r := hr
  rcases hq' with ⟨hqc, L, hfe, hL⟩ | ⟨q, rfl, E, ce, L, hx, hce, hcv, hcl, hW₂, hsm, hL⟩
  · obtain ⟨⟨v, rfl⟩, hW₂, e2, q2, q3, q4, q5, q6⟩ := id hfe
    have e3 : s₂ = ({ (U.calling g mk a).setFrames s₂.frames with heap := s₂.heap, slotsUsed := s₂.slotsUsed } : State).setVm s₂.vm := by
      have : s₂ = ({ s₂ with vm := (U.calling g mk a).vm } : State).setVm s₂.vm := rfl
      rw [e2] at this
      exact this
    obtain ⟨c₂, i₂, len₂, hc₂, hd₂, hf₂⟩ := hend
    have hW' : U.WarmedH s₂.vm := hW₂
    have hcc : c₂ = c := by
      have h1 : s₂.code? g.method = U.code? g.method := by
        rw [State.code?_eq, State.code?_eq, hW'.alike.method?]
      exact Option.some.inj (hc₂.symm.trans (h1.trans h.code))
    subst hcc
    have hlen : len₂ = len := by rw [hdg] at hd₂; cases hd₂; rfl
    subst hlen
    have hs₂ : s₂ = (({ U with heap := s₂.heap, slotsUsed := s₂.slotsUsed } : State).setVm s₂.vm).setTop { g with pc := g.pc + len₂, stack := v.toList ++ g.stack } := by
      refine e3.trans ?_
      rw [hf₂, State.calling_eq h.top, State.setFrames_setFrames, State.setTop_of_frames _ hr', hr]
      rfl
    have hsame : U.sameButNew ({ U with heap := s₂.heap, slotsUsed := s₂.slotsUsed } : State) L mc ms := by
      refine ⟨?_, q2, q3, q4, q5, q6⟩
      obtain ⟨t, ht, -⟩ := State.frames_cons hr
      show ({ U with heap := s₂.heap, slotsUsed := s₂.slotsUsed } : State) = { U.setFrames U.frames with heap := s₂.heap, slotsUsed := s₂.slotsUsed }
      rw [State.setFrames_self ht]
    subst hg
    refine Or.inl ⟨v, ⟨(({ U with heap := s₂.heap, slotsUsed := s₂.slotsUsed } : State).setVm s₂.vm), Ls ++ L, c0 + mc, s0 + ms⟩,
      ⟨X.admits, X.cas, X.clock, X.frames, X.room, X.hears, X.method, X.code, (X.here.setHeapUsed s₂.heap s₂.slotsUsed).setVm hW'.alike, X.tail, State.WarmedH.trans X.warmed hW', X.limits, X.bytes, X.same.trans (hsame.setVm s.vm)⟩,
      ⟨g, mk, s₂, L, rfl, rfl, hqc, rfl, hL, rfl, rfl⟩, ?_⟩
    show Steps p.tables e below _ ((({ U with heap := s₂.heap, slotsUsed := s₂.slotsUsed } : State).setVm s₂.vm).setTop { g with pc := g.pc + len₂, stack := v.toList ++ g.stack })
    rw [← hs₂]
    exact hsteps
  · obtain ⟨e2, q2, q3, q4, q5, q6⟩ := id hsm
    have e3 : s₂ = ({ (U.calling g mk a).setFrames s₂.frames with heap := s₂.heap, slotsUsed := s₂.slotsUsed } : State).setVm s₂.vm := by
      have : s₂ = ({ s₂ with vm := (U.calling g mk a).vm } : State).setVm s₂.vm := rfl
      rw [e2] at this
      exact this
    have hf₂ : s₂.frames = .throwing q :: .java g :: U.frames.tail := hend
    have hW' : U.WarmedH s₂.vm := hW₂
    have hs₂ : s₂ = ((({ U with heap := s₂.heap, slotsUsed := s₂.slotsUsed } : State).setVm s₂.vm).setTop g).pushFrame (.throwing q) := by
      refine e3.trans ?_
      rw [hf₂, State.calling_eq h.top, State.setFrames_setFrames, State.pushFrame, State.frames_setTop _ hr', State.setTop_of_frames _ hr', State.setFrames_setFrames, hr]
      rfl
    have hsame : U.sameButNew ({ U with heap := s₂.heap, slotsUsed := s₂.slotsUsed } : State) L mc ms := by
      refine ⟨?_, q2, q3, q4, q5, q6⟩
      obtain ⟨t, ht, -⟩ := State.frames_cons hr
      show ({ U with heap := s₂.heap, slotsUsed := s₂.slotsUsed } : State) = { U.setFrames U.frames with heap := s₂.heap, slotsUsed := s₂.slotsUsed }
      rw [State.setFrames_self ht]
    subst hg
    refine Or.inr ⟨q, ⟨(({ U with heap := s₂.heap, slotsUsed := s₂.slotsUsed } : State).setVm s₂.vm), Ls ++ L, c0 + mc, s0 + ms⟩,
      ⟨X.admits, X.cas, X.clock, X.frames, X.room, X.hears, X.method, X.code, (X.here.setHeapUsed s₂.heap s₂.slotsUsed).setVm hW'.alike, X.tail, State.WarmedH.trans X.warmed hW', X.limits, X.bytes, X.same.trans (hsame.setVm s.vm)⟩,
      ⟨g, mk, s₂, L, E, ce, rfl, rfl, hx, hce, hcv, hcl, rfl, hL, rfl, rfl⟩, ?_⟩
    show Steps p.tables e below _ (((({ U with heap := s₂.heap, slotsUsed := s₂.slotsUsed } : State).setVm s₂.vm).setTop g).pushFrame (.throwing q))
    rw [← hs₂]
    exact hsteps
end Payer
section Calls
variable {p : Program} {l : Launch} {e : Env} {R : Room} {s : State} {m : MethodId} {args : Array Value} {below : List Frame} {meth : Method} {c : Code} {T : State} {locs : List Loc} {cells slots : Nat}
theorem vx_callV (X : Stand p l e R s m args below meth c T locs cells slots) (hexec : p.tables.exec = Jvm.exec) {own C : String} {index : Nat} {y : MethodName} {bytes : ByteArray} {maxL : Nat} {ret : Option FieldType}
    (hown : s.vm.findClass own = some m.cls) (hlink : (Cond.methodLink own index y).before args s = true) (hinst : (Cond.instanceMethod y).before args s = true) (hsel : (Cond.selects C y y).before args s = true)
    (hcode : (Cond.code y bytes maxL ret).before args s = true) (hy : y.cls ≠ "java/lang/invoke/MethodHandle" ∧ y.cls ≠ "java/lang/invoke/VarHandle")
    {W9 : Nat} {Pre : Pt → Array Value → Prop} {Post : Pt → Array Value → Option Value → Pt → Prop} {PostX : Pt → Array Value → Addr → Pt → Prop} (hK : vx_Back l R p e below s args y 3 W9 Pre Post PostX)
    {b : Addr} {cellB : Cell} (hcell : T.heap[b]? = some cellB) (hobj : cellB.vm.isStatics = false) (hcls : s.vm.findClass C = some cellB.cls)
    {g : JFrame} (hg : g.method = m) (hsize : g.locals.size = c.maxLocals) {argsL rest : List Value} (hlen : ∀ sig, parseMethodDescriptor y.desc = some sig → argsL.length = sig.parameters.length)
    (hstack : g.stack = argsL.reverse ++ .ref b :: rest) (hW : 2 * g.monitorRoom + (rest.map fun v => v.category).sum ≤ W9) (hdg : decode c.code g.pc = .ok (.invokevirtual index, 3))
    (hpre : ∀ vm₁, s.WarmedH vm₁ → Pre ⟨T.setVm vm₁, locs, cells, slots⟩ (Value.ref b :: argsL).toArray) :
    (∃ (v : Option Value) (vm₁ : Vm) (B : Pt), s.WarmedH vm₁ ∧ Stand p l e R s m args below meth c B.U B.locs B.cells B.slots ∧ Post ⟨T.setVm vm₁, locs, cells, slots⟩ (Value.ref b :: argsL).toArray v B ∧
      ∀ target, Steps p.tables e below (B.U.setTop { g with pc := g.pc + 3, stack := v.toList ++ rest }) target → Steps p.tables e below (T.setTop g) target) ∨
    (∃ (q : Addr) (vm₁ : Vm) (B : Pt), s.WarmedH vm₁ ∧ Stand p l e R s m args below meth c B.U B.locs B.cells B.slots ∧ PostX ⟨T.setVm vm₁, locs, cells, slots⟩ (Value.ref b :: argsL).toArray q B ∧
      Steps p.tables e below (T.setTop g) ((B.U.setTop { g with stack := rest }).pushFrame (.throwing q))) := by
  obtain ⟨mk, methM, hnamed, hmethM, hstM, habM⟩ := Cond.instanceMethod_spec hinst
  obtain ⟨methM', cM, hmethM', -, -, -, -, -, -, hsigM⟩ := Cond.code_spec hnamed hcode
  cases hmethM.symm.trans hmethM'
  obtain ⟨c2, r2, m2, q1, q2, q3, q4, kP, hkP, hkPi⟩ := Cond.selects_spec hsel
  cases hcls.symm.trans q1
  cases (State.methodFound?_of_named hnamed hy).symm.trans q2
  cases hnamed.symm.trans q3
  have hselP : selectMethod e.platform s.vm cellB.cls mk = .method mk := by rw [Launch.admits_selectMethod X.admits]; exact q4
  obtain ⟨vm₁, X₁, hstep₁⟩ := X.invokevirtual hexec hown hlink hnamed hmethM hstM hkP hkPi hy (a := b) (cell := cellB) hcell
    (fun z h => by rw [h] at hobj; cases hobj) hselP hmethM habM hkP hkPi (g := g) hg (argsL := argsL) (rest := rest) (hlen _ hsigM) hstack hdg
  rcases hK m meth c ⟨T.setVm vm₁, locs, cells, slots⟩ { g with stack := rest } (.invokevirtual index) mk (Value.ref b :: argsL).toArray X₁ hg hsize hdg hW (X₁.named hnamed) (hpre vm₁ X₁.warmed) with ⟨v, B, X', hpost, hsteps⟩ | ⟨q, B, X', hpost, hsteps⟩
  · exact Or.inl ⟨v, vm₁, B, X₁.warmed, X', hpost, fun target h => hstep₁ _ fun acts => by rw [doInvoke_state]; exact hsteps.trans h⟩
  · exact Or.inr ⟨q, vm₁, B, X₁.warmed, X', hpost, hstep₁ _ fun acts => by rw [doInvoke_state]; exact hsteps⟩
theorem vx_callS (X : Stand p l e R s m args below meth c T locs cells slots) (hexec : p.tables.exec = Jvm.exec) {own : String} {index : Nat} {y : MethodName} {bytes : ByteArray} {maxL : Nat} {ret : Option FieldType}
    (hown : s.vm.findClass own = some m.cls) (hlink : (Cond.methodLink own index y).before args s = true) (hstat : (Cond.static y).before args s = true) (hinit : (Cond.initialized y.cls).before args s = true)
    (hcode : (Cond.code y bytes maxL ret).before args s = true) (hy : y.cls ≠ "java/lang/invoke/MethodHandle" ∧ y.cls ≠ "java/lang/invoke/VarHandle")
    {W9 : Nat} {Pre : Pt → Array Value → Prop} {Post : Pt → Array Value → Option Value → Pt → Prop} {PostX : Pt → Array Value → Addr → Pt → Prop} (hK : vx_Back l R p e below s args y 3 W9 Pre Post PostX)
    {g : JFrame} (hg : g.method = m) (hsize : g.locals.size = c.maxLocals) {argsL rest : List Value} (hlen : ∀ sig, parseMethodDescriptor y.desc = some sig → argsL.length = sig.parameters.length)
    (hstack : g.stack = argsL.reverse ++ rest) (hW : 2 * g.monitorRoom + (rest.map fun v => v.category).sum ≤ W9) (hdg : decode c.code g.pc = .ok (.invokestatic index, 3))
    (hpre : ∀ vm₁, s.WarmedH vm₁ → Pre ⟨T.setVm vm₁, locs, cells, slots⟩ argsL.toArray) :
    (∃ (v : Option Value) (vm₁ : Vm) (B : Pt), s.WarmedH vm₁ ∧ Stand p l e R s m args below meth c B.U B.locs B.cells B.slots ∧ Post ⟨T.setVm vm₁, locs, cells, slots⟩ argsL.toArray v B ∧
      ∀ target, Steps p.tables e below (B.U.setTop { g with pc := g.pc + 3, stack := v.toList ++ rest }) target → Steps p.tables e below (T.setTop g) target) ∨
    (∃ (q : Addr) (vm₁ : Vm) (B : Pt), s.WarmedH vm₁ ∧ Stand p l e R s m args below meth c B.U B.locs B.cells B.slots ∧ PostX ⟨T.setVm vm₁, locs, cells, slots⟩ argsL.toArray q B ∧
      Steps p.tables e below (T.setTop g) ((B.U.setTop { g with stack := rest }).pushFrame (.throwing q))) := by
  obtain ⟨mk, hnamed⟩ := Cond.code_named hcode
  obtain ⟨methM, cM, hmethM, -, -, -, -, -, -, hsigM⟩ := Cond.code_spec hnamed hcode
  have hstatic : methM.isStatic = true := Cond.static_spec hnamed hmethM hstat
  obtain ⟨kP, hkP, -⟩ := className_of_methodNamed hnamed
  have hinitP : kP.init = .initialized := Cond.initialized_spec (findClass_of_methodNamed hnamed) hkP hinit
  obtain ⟨vm₁, X₁, hstep₁⟩ := X.invokestatic hexec hown hlink hnamed hmethM hstatic hkP hinitP hy (g := g) hg (argsL := argsL) (rest := rest) (hlen _ hsigM) hstack hdg
  rcases hK m meth c ⟨T.setVm vm₁, locs, cells, slots⟩ { g with stack := rest } (.invokestatic index) mk argsL.toArray X₁ hg hsize hdg hW (X₁.named hnamed) (hpre vm₁ X₁.warmed) with ⟨v, B, X', hpost, hsteps⟩ | ⟨q, B, X', hpost, hsteps⟩
  · exact Or.inl ⟨v, vm₁, B, X₁.warmed, X', hpost, fun target h => hstep₁ _ fun acts => by rw [doInvoke_state]; exact hsteps.trans h⟩
  · exact Or.inr ⟨q, vm₁, B, X₁.warmed, X', hpost, hstep₁ _ fun acts => by rw [doInvoke_state]; exact hsteps⟩
end Calls
theorem vx_cls {s : State} {T : State} {vm₁ : Vm} {E : String} {k : ClassId} (hW : s.WarmedH vm₁) (h : (T.setVm vm₁).vm.findClass E = some k) : s.vm.findClass E = some k := by
  have h1 : vm₁.findClass E = some k := h
  rw [hW.alike.findClass] at h1
  exact h1
/-- the method's frame g, with q thrown over it -/
def vx_W (p : Program) (l : Launch) (e : Env) (R : Room) (s : State) (m : MethodId) (args : Array Value) (below : List Frame) (meth : Method) (c : Code) (H : Heap) (locs : List Loc) (cells slots : Nat) (Q : State → Prop) (g : JFrame) (q : Addr) : Prop :=
  ∀ T : State, T.heap = H → Stand p l e R s m args below meth c T locs cells slots → ∃ t, Steps p.tables e below ((T.setTop g).pushFrame (.throwing q)) t ∧ Q t
def vx_Run (p : Program) (l : Launch) (e : Env) (R : Room) (s : State) (m : MethodId) (args : Array Value) (below : List Frame) (meth : Method) (c : Code) (H : Heap) (locs : List Loc) (cells slots mc ms : Nat) (g : JFrame) (rest : List Value) (Qa : State → Outcome → State → Prop) (XC : String → State → State → Prop) (free : Addr → Prop) : Prop :=
  ∀ T : State, T.heap = H → Stand p l e R s m args below meth c T locs cells slots →
    (∃ (v : Option Value) (st₀ t T' : State) (L : List Loc), st₀.heap = H ∧ Stand p l e R s m args below meth c T' (locs ++ L) (cells + mc) (slots + ms) ∧ (∀ q ∈ L, free q.base) ∧ T'.heap = t.heap ∧ T'.vm = t.vm ∧ Qa st₀ (.returned v) t ∧
      Goes p e below T g T' { g with pc := g.pc + 3, stack := v.toList ++ rest }) ∨
    (∃ (q : Addr) (st₀ t T' : State) (L : List Loc) (E : String) (ce : Cell), st₀.heap = H ∧ Stand p l e R s m args below meth c T' (locs ++ L) (cells + mc) (slots + ms) ∧ (∀ z ∈ L, free z.base) ∧ T'.heap = t.heap ∧ T'.vm = t.vm ∧ XC E st₀ t ∧ t.heap[q]? = some ce ∧ ce.vm = .none ∧ s.vm.findClass E = some ce.cls ∧
      Steps p.tables e below (T.setTop g) ((T'.setTop { g with stack := rest }).pushFrame (.throwing q)))
def vx_X {S : Type} (px : S → Prop) (B : String → S → State → Prop) (A : Nat → Prop) : String → State → State → Prop := fun E st t => ∃ u : S, px u ∧ B E u t ∧ va_F A st t
section Runs
variable {p : Program} {l : Launch} {e : Env} {R : Room} {s : State} {m : MethodId} {args : Array Value} {below : List Frame} {meth : Method} {c : Code} {H : Heap} {locs : List Loc} {cells slots : Nat}
variable {y : MethodName} {bytes cc : ByteArray} {maxL nL mc ms n index : Nat} {ret : Option FieldType} {ws : List Cond} {rm : Room} {Pc : Array Value → State → Prop} {Qc : Array Value → State → Outcome → State → Prop} {XC : String → State → State → Prop} {free : Addr → Prop} {Ts : List Cond} {own C : String} {b : Addr} {As rest : List Value} {g : JFrame}
theorem vx_callBack (cb : CallB R s args own index y bytes maxL ret ws rm mc ms n) (hM : vx_Met l y ws rm Pc Qc XC mc ms free) (hbl : FrameBlind Pc) : vx_Back l R p e below s args y 3 8 (PreOf R mc ms Pc) (PostOf Qc mc ms free) (vx_Post XC mc ms free) := by
  obtain ⟨hrc, hrs, hfr, hlo, hws, hcw, -, hini, -⟩ := cb
  exact vx_back (bytes := bytes) (maxL := maxL) (ret := ret) hM hbl hrc hrs hfr hlo hws hcw (fun a' U hW => word_at hW (Or.inl (by first | rfl | simp [Cond.onTables, Cond.keeps, Cond.steady])) hini)
theorem vx_runV (S : CallFix p m c cc nL s args Ts own) (hM : vx_Met l y ws rm Pc Qc XC mc ms free) (cw : CallW R s args own C index y bytes maxL ret ws rm mc ms n) (hp : PreV s H C b Pc As)
    (hg : g.method = m) (hn : As.length = n) (hsize : g.locals.size = nL) (hstack : g.stack = As.reverse ++ .ref b :: rest) (hW : 2 * g.monitorRoom + (rest.map fun v => v.category).sum ≤ 8) (hdg : decode cc g.pc = .ok (.invokevirtual index, 3)) (hf : cells + mc ≤ R.cells ∧ slots + ms ≤ R.slots) :
    vx_Run p l e R s m args below meth c H locs cells slots mc ms g rest (Qc (Value.ref b :: As).toArray) XC free := by
  have hK : vx_Back l R p e below s args y 3 8 (PreOf R mc ms Pc) (PostOf Qc mc ms free) (vx_Post XC mc ms free) := vx_callBack cw.1 hM hp.1
  obtain ⟨⟨-, -, -, -, -, -, hcode, -, hy, hlen, hl⟩, hin, hse⟩ := cw
  obtain ⟨hx, hb, hml, ho, -⟩ := S
  obtain ⟨-, ⟨cellB, hcB, hoB, hclB⟩, hPc⟩ := hp
  intro T hT X
  rcases vx_callV X hx (C := C) (bytes := bytes) (maxL := maxL) (ret := ret) ho hl hin hse hcode hy hK (by rw [hT]; exact hcB) hoB hclB hg (hsize.trans hml.symm) (argsL := As) (rest := rest) (fun sig h => hn.trans (hlen sig h)) hstack hW (by rw [hb]; exact hdg)
    (fun vm₁ hW₁ => ⟨hf.1, hf.2, hPc (T.setVm vm₁) hT hW₁⟩) with ⟨v, vm₁, ⟨U', l2, c2, s2⟩, hW₁, X', ⟨g', mk, t, L, e1, e2, hq, h1, hL, h2, h3⟩, st⟩ | ⟨q, vm₁, ⟨U', l2, c2, s2⟩, hW₁, X', ⟨g', mk, t, L, E, ce, e1, e2, hq, hce, hcv, hcl, h1, hL, h2, h3⟩, st⟩
  · dsimp only [Pt.U, Pt.locs, Pt.cells, Pt.slots] at X' e1 e2 h1 h2 h3 st
    subst h1; subst h2; subst h3
    exact Or.inl ⟨v, (T.setVm vm₁).calling g' mk (Value.ref b :: As).toArray, t, U', L, hT, X', hL, e1, e2, hq, st⟩
  · dsimp only [Pt.U, Pt.locs, Pt.cells, Pt.slots] at X' e1 e2 h1 h2 h3 st hcl
    subst h1; subst h2; subst h3
    exact Or.inr ⟨q, (T.setVm vm₁).calling g' mk (Value.ref b :: As).toArray, t, U', L, E, ce, hT, X', hL, e1, e2, hq, hce, hcv, vx_cls hW₁ hcl, st⟩
theorem vx_runS (S : CallFix p m c cc nL s args Ts own) (hM : vx_Met l y ws rm Pc Qc XC mc ms free) (cw : CallB R s args own index y bytes maxL ret ws rm mc ms n ∧ (Cond.static y).before args s = true) (hp : PreS s H Pc As)
    (hg : g.method = m) (hn : As.length = n) (hsize : g.locals.size = nL) (hstack : g.stack = As.reverse ++ rest) (hW : 2 * g.monitorRoom + (rest.map fun v => v.category).sum ≤ 8) (hdg : decode cc g.pc = .ok (.invokestatic index, 3)) (hf : cells + mc ≤ R.cells ∧ slots + ms ≤ R.slots) :
    vx_Run p l e R s m args below meth c H locs cells slots mc ms g rest (Qc As.toArray) XC free := by
  have hK : vx_Back l R p e below s args y 3 8 (PreOf R mc ms Pc) (PostOf Qc mc ms free) (vx_Post XC mc ms free) := vx_callBack cw.1 hM hp.1
  obtain ⟨⟨-, -, -, -, -, -, hcode, hini, hy, hlen, hl⟩, hstt⟩ := cw
  obtain ⟨hx, hb, hml, ho, -⟩ := S
  intro T hT X
  rcases vx_callS X hx (bytes := bytes) (maxL := maxL) (ret := ret) ho hl hstt hini hcode hy hK hg (hsize.trans hml.symm) (argsL := As) (rest := rest) (fun sig h => hn.trans (hlen sig h)) hstack hW (by rw [hb]; exact hdg)
    (fun vm₁ hW₁ => ⟨hf.1, hf.2, hp.2 (T.setVm vm₁) hT hW₁⟩) with ⟨v, vm₁, ⟨U', l2, c2, s2⟩, hW₁, X', ⟨g', mk, t, L, e1, e2, hq, h1, hL, h2, h3⟩, st⟩ | ⟨q, vm₁, ⟨U', l2, c2, s2⟩, hW₁, X', ⟨g', mk, t, L, E, ce, e1, e2, hq, hce, hcv, hcl, h1, hL, h2, h3⟩, st⟩
  · dsimp only [Pt.U, Pt.locs, Pt.cells, Pt.slots] at X' e1 e2 h1 h2 h3 st
    subst h1; subst h2; subst h3
    exact Or.inl ⟨v, (T.setVm vm₁).calling g' mk As.toArray, t, U', L, hT, X', hL, e1, e2, hq, st⟩
  · dsimp only [Pt.U, Pt.locs, Pt.cells, Pt.slots] at X' e1 e2 h1 h2 h3 st hcl
    subst h1; subst h2; subst h3
    exact Or.inr ⟨q, (T.setVm vm₁).calling g' mk As.toArray, t, U', L, E, ce, hT, X', hL, e1, e2, hq, hce, hcv, vx_cls hW₁ hcl, st⟩
end Runs
section Rows
variable {p : Program} {l : Launch} {e : Env} {R : Room} {s : State} {m : MethodId} {args : Array Value} {below : List Frame} {meth : Method} {c : Code} {H : Heap} {locs : List Loc} {cells slots : Nat} {Q : State → Prop}
variable {mc ms : Nat} {free : Addr → Prop} {A0 A1 : Nat → Prop} {H0 : Heap} {a : Array Value} {pc : Nat} {ls : Array Slot} {st0 rest : List Value}
theorem vx_keep {st₀ t T' : State} {L : List Loc} (h0 : st₀.heap = H) (e1 : T'.heap = t.heap) (hS : va_S A0 H0 H locs) (hA : ∀ q, q < H.size → A1 q → A0 q) (hf : ∀ q, free q → A0 q) (hL : ∀ q ∈ L, free q.base) (hF : va_F A1 st₀ t) :
    H.size ≤ T'.heap.size ∧ (∀ q : Nat, q < H.size → ¬ A1 q → T'.heap[q]? = H[q]?) ∧ va_S A0 H0 T'.heap (locs ++ L) := by
  obtain ⟨hz, hk⟩ := hF
  rw [h0] at hz hk
  exact ⟨by rw [e1]; exact hz, fun q h1 h2 => by rw [e1]; exact hk q h1 h2,
    ⟨Nat.le_trans hS.1 (by rw [e1]; exact hz), fun q h1 h2 => by rw [e1, hk q (Nat.lt_of_lt_of_le h1 hS.1) (fun z => h2 (hA q (Nat.lt_of_lt_of_le h1 hS.1) z))]; exact hS.2.1 q h1 h2, fun q hq => by
      rcases List.mem_append.mp hq with h | h
      · exact hS.2.2 q h
      · exact hf _ (hL q h)⟩⟩
theorem vx_calli {S SX : Type} {post : Int32 → S → Prop} {px : SX → Prop} {B : S → State → Prop} {BX : String → SX → State → Prop} {AX : Nat → Prop} (hr : vx_Run p l e R s m args below meth c H locs cells slots mc ms (F0 m pc ls st0) rest (va_Qi post B A1 a) (vx_X px BX AX) free) (hS : va_S A0 H0 H locs) (hA : ∀ q, q < H.size → A1 q → A0 q) (hf : ∀ q, free q → A0 q) (hAX : ∀ q, q < H.size → AX q → A0 q)
    (kx : ∀ (E : String) (ce : Cell) (q9 : Addr) (u : SX) (t : State) (H1 : Heap) (locs1 : List Loc), t.heap = H1 → s.vm.Alike t.vm → px u → BX E u t → H.size ≤ H1.size → (∀ q : Nat, q < H.size → ¬ AX q → H1[q]? = H[q]?) → va_S A0 H0 H1 locs1 → H1[q9]? = some ce → ce.vm = .none → s.vm.findClass E = some ce.cls → vx_W p l e R s m args below meth c H1 locs1 (cells + mc) (slots + ms) Q (F0 m pc ls rest) q9)
    (kk : ∀ (r : Int32) (u : S) (t : State) (H1 : Heap) (locs1 : List Loc), t.heap = H1 → s.vm.Alike t.vm → post r u → B u t → H.size ≤ H1.size → (∀ q : Nat, q < H.size → ¬ A1 q → H1[q]? = H[q]?) → va_S A0 H0 H1 locs1 → W p l e R s m args below meth c H1 locs1 (cells + mc) (slots + ms) Q (F0 m (pc + 3) ls (.int r :: rest))) : W p l e R s m args below meth c H locs cells slots Q (F0 m pc ls st0) := by
  intro T hT X
  rcases hr T hT X with ⟨v, st₀, t, T', L, h0, X', hL, e1, e2, ⟨⟨r, u, hv, hp, hb⟩, hF⟩, st⟩ | ⟨q, st₀, t, T', L, E, ce, h0, X', hL, e1, e2, ⟨u, hp, hb, hF⟩, hce, hcv, hcl, st⟩
  · cases hv
    obtain ⟨k1, k2, k3⟩ := vx_keep h0 e1 hS hA hf hL hF
    obtain ⟨t2, a1, b1⟩ := kk r u t T'.heap (locs ++ L) e1.symm (by rw [← e2]; exact X'.warmed.alike) hp hb k1 k2 k3 T' rfl X'
    exact ⟨t2, st t2 a1, b1⟩
  · obtain ⟨k1, k2, k3⟩ := vx_keep h0 e1 hS hAX hf hL hF
    obtain ⟨t2, a1, b1⟩ := kx E ce q u t T'.heap (locs ++ L) e1.symm (by rw [← e2]; exact X'.warmed.alike) hp hb k1 k2 k3 (by rw [e1]; exact hce) hcv hcl T' rfl X'
    exact ⟨t2, st.trans a1, b1⟩
theorem vx_calll {S SX : Type} {post : Int64 → S → Prop} {px : SX → Prop} {B : S → State → Prop} {BX : String → SX → State → Prop} {AX : Nat → Prop} (hr : vx_Run p l e R s m args below meth c H locs cells slots mc ms (F0 m pc ls st0) rest (va_Ql post B A1 a) (vx_X px BX AX) free) (hS : va_S A0 H0 H locs) (hA : ∀ q, q < H.size → A1 q → A0 q) (hf : ∀ q, free q → A0 q) (hAX : ∀ q, q < H.size → AX q → A0 q)
    (kx : ∀ (E : String) (ce : Cell) (q9 : Addr) (u : SX) (t : State) (H1 : Heap) (locs1 : List Loc), t.heap = H1 → s.vm.Alike t.vm → px u → BX E u t → H.size ≤ H1.size → (∀ q : Nat, q < H.size → ¬ AX q → H1[q]? = H[q]?) → va_S A0 H0 H1 locs1 → H1[q9]? = some ce → ce.vm = .none → s.vm.findClass E = some ce.cls → vx_W p l e R s m args below meth c H1 locs1 (cells + mc) (slots + ms) Q (F0 m pc ls rest) q9)
    (kk : ∀ (r : Int64) (u : S) (t : State) (H1 : Heap) (locs1 : List Loc), t.heap = H1 → s.vm.Alike t.vm → post r u → B u t → H.size ≤ H1.size → (∀ q : Nat, q < H.size → ¬ A1 q → H1[q]? = H[q]?) → va_S A0 H0 H1 locs1 → W p l e R s m args below meth c H1 locs1 (cells + mc) (slots + ms) Q (F0 m (pc + 3) ls (.long r :: rest))) : W p l e R s m args below meth c H locs cells slots Q (F0 m pc ls st0) := by
  intro T hT X
  rcases hr T hT X with ⟨v, st₀, t, T', L, h0, X', hL, e1, e2, ⟨⟨r, u, hv, hp, hb⟩, hF⟩, st⟩ | ⟨q, st₀, t, T', L, E, ce, h0, X', hL, e1, e2, ⟨u, hp, hb, hF⟩, hce, hcv, hcl, st⟩
  · cases hv
    obtain ⟨k1, k2, k3⟩ := vx_keep h0 e1 hS hA hf hL hF
    obtain ⟨t2, a1, b1⟩ := kk r u t T'.heap (locs ++ L) e1.symm (by rw [← e2]; exact X'.warmed.alike) hp hb k1 k2 k3 T' rfl X'
    exact ⟨t2, st t2 a1, b1⟩
  · obtain ⟨k1, k2, k3⟩ := vx_keep h0 e1 hS hAX hf hL hF
    obtain ⟨t2, a1, b1⟩ := kx E ce q u t T'.heap (locs ++ L) e1.symm (by rw [← e2]; exact X'.warmed.alike) hp hb k1 k2 k3 (by rw [e1]; exact hce) hcv hcl T' rfl X'
    exact ⟨t2, st.trans a1, b1⟩
theorem vx_callf {S SX : Type} {post : UInt32 → S → Prop} {px : SX → Prop} {B : S → State → Prop} {BX : String → SX → State → Prop} {AX : Nat → Prop} (hr : vx_Run p l e R s m args below meth c H locs cells slots mc ms (F0 m pc ls st0) rest (va_Qf post B A1 a) (vx_X px BX AX) free) (hS : va_S A0 H0 H locs) (hA : ∀ q, q < H.size → A1 q → A0 q) (hf : ∀ q, free q → A0 q) (hAX : ∀ q, q < H.size → AX q → A0 q)
    (kx : ∀ (E : String) (ce : Cell) (q9 : Addr) (u : SX) (t : State) (H1 : Heap) (locs1 : List Loc), t.heap = H1 → s.vm.Alike t.vm → px u → BX E u t → H.size ≤ H1.size → (∀ q : Nat, q < H.size → ¬ AX q → H1[q]? = H[q]?) → va_S A0 H0 H1 locs1 → H1[q9]? = some ce → ce.vm = .none → s.vm.findClass E = some ce.cls → vx_W p l e R s m args below meth c H1 locs1 (cells + mc) (slots + ms) Q (F0 m pc ls rest) q9)
    (kk : ∀ (r : UInt32) (u : S) (t : State) (H1 : Heap) (locs1 : List Loc), t.heap = H1 → s.vm.Alike t.vm → post r u → B u t → H.size ≤ H1.size → (∀ q : Nat, q < H.size → ¬ A1 q → H1[q]? = H[q]?) → va_S A0 H0 H1 locs1 → W p l e R s m args below meth c H1 locs1 (cells + mc) (slots + ms) Q (F0 m (pc + 3) ls (.float r :: rest))) : W p l e R s m args below meth c H locs cells slots Q (F0 m pc ls st0) := by
  intro T hT X
  rcases hr T hT X with ⟨v, st₀, t, T', L, h0, X', hL, e1, e2, ⟨⟨r, u, hv, hp, hb⟩, hF⟩, st⟩ | ⟨q, st₀, t, T', L, E, ce, h0, X', hL, e1, e2, ⟨u, hp, hb, hF⟩, hce, hcv, hcl, st⟩
  · cases hv
    obtain ⟨k1, k2, k3⟩ := vx_keep h0 e1 hS hA hf hL hF
    obtain ⟨t2, a1, b1⟩ := kk r u t T'.heap (locs ++ L) e1.symm (by rw [← e2]; exact X'.warmed.alike) hp hb k1 k2 k3 T' rfl X'
    exact ⟨t2, st t2 a1, b1⟩
  · obtain ⟨k1, k2, k3⟩ := vx_keep h0 e1 hS hAX hf hL hF
    obtain ⟨t2, a1, b1⟩ := kx E ce q u t T'.heap (locs ++ L) e1.symm (by rw [← e2]; exact X'.warmed.alike) hp hb k1 k2 k3 (by rw [e1]; exact hce) hcv hcl T' rfl X'
    exact ⟨t2, st.trans a1, b1⟩
theorem vx_calld {S SX : Type} {post : UInt64 → S → Prop} {px : SX → Prop} {B : S → State → Prop} {BX : String → SX → State → Prop} {AX : Nat → Prop} (hr : vx_Run p l e R s m args below meth c H locs cells slots mc ms (F0 m pc ls st0) rest (va_Qd post B A1 a) (vx_X px BX AX) free) (hS : va_S A0 H0 H locs) (hA : ∀ q, q < H.size → A1 q → A0 q) (hf : ∀ q, free q → A0 q) (hAX : ∀ q, q < H.size → AX q → A0 q)
    (kx : ∀ (E : String) (ce : Cell) (q9 : Addr) (u : SX) (t : State) (H1 : Heap) (locs1 : List Loc), t.heap = H1 → s.vm.Alike t.vm → px u → BX E u t → H.size ≤ H1.size → (∀ q : Nat, q < H.size → ¬ AX q → H1[q]? = H[q]?) → va_S A0 H0 H1 locs1 → H1[q9]? = some ce → ce.vm = .none → s.vm.findClass E = some ce.cls → vx_W p l e R s m args below meth c H1 locs1 (cells + mc) (slots + ms) Q (F0 m pc ls rest) q9)
    (kk : ∀ (r : UInt64) (u : S) (t : State) (H1 : Heap) (locs1 : List Loc), t.heap = H1 → s.vm.Alike t.vm → post r u → B u t → H.size ≤ H1.size → (∀ q : Nat, q < H.size → ¬ A1 q → H1[q]? = H[q]?) → va_S A0 H0 H1 locs1 → W p l e R s m args below meth c H1 locs1 (cells + mc) (slots + ms) Q (F0 m (pc + 3) ls (.double r :: rest))) : W p l e R s m args below meth c H locs cells slots Q (F0 m pc ls st0) := by
  intro T hT X
  rcases hr T hT X with ⟨v, st₀, t, T', L, h0, X', hL, e1, e2, ⟨⟨r, u, hv, hp, hb⟩, hF⟩, st⟩ | ⟨q, st₀, t, T', L, E, ce, h0, X', hL, e1, e2, ⟨u, hp, hb, hF⟩, hce, hcv, hcl, st⟩
  · cases hv
    obtain ⟨k1, k2, k3⟩ := vx_keep h0 e1 hS hA hf hL hF
    obtain ⟨t2, a1, b1⟩ := kk r u t T'.heap (locs ++ L) e1.symm (by rw [← e2]; exact X'.warmed.alike) hp hb k1 k2 k3 T' rfl X'
    exact ⟨t2, st t2 a1, b1⟩
  · obtain ⟨k1, k2, k3⟩ := vx_keep h0 e1 hS hAX hf hL hF
    obtain ⟨t2, a1, b1⟩ := kx E ce q u t T'.heap (locs ++ L) e1.symm (by rw [← e2]; exact X'.warmed.alike) hp hb k1 k2 k3 (by rw [e1]; exact hce) hcv hcl T' rfl X'
    exact ⟨t2, st.trans a1, b1⟩
theorem vx_callv {S SX : Type} {post : S → Prop} {px : SX → Prop} {B : S → State → Prop} {BX : String → SX → State → Prop} {AX : Nat → Prop} (hr : vx_Run p l e R s m args below meth c H locs cells slots mc ms (F0 m pc ls st0) rest (va_Qv post B A1 a) (vx_X px BX AX) free) (hS : va_S A0 H0 H locs) (hA : ∀ q, q < H.size → A1 q → A0 q) (hf : ∀ q, free q → A0 q) (hAX : ∀ q, q < H.size → AX q → A0 q)
    (kx : ∀ (E : String) (ce : Cell) (q9 : Addr) (u : SX) (t : State) (H1 : Heap) (locs1 : List Loc), t.heap = H1 → s.vm.Alike t.vm → px u → BX E u t → H.size ≤ H1.size → (∀ q : Nat, q < H.size → ¬ AX q → H1[q]? = H[q]?) → va_S A0 H0 H1 locs1 → H1[q9]? = some ce → ce.vm = .none → s.vm.findClass E = some ce.cls → vx_W p l e R s m args below meth c H1 locs1 (cells + mc) (slots + ms) Q (F0 m pc ls rest) q9)
    (kk : ∀ (u : S) (t : State) (H1 : Heap) (locs1 : List Loc), t.heap = H1 → s.vm.Alike t.vm → post u → B u t → H.size ≤ H1.size → (∀ q : Nat, q < H.size → ¬ A1 q → H1[q]? = H[q]?) → va_S A0 H0 H1 locs1 → W p l e R s m args below meth c H1 locs1 (cells + mc) (slots + ms) Q (F0 m (pc + 3) ls (rest))) : W p l e R s m args below meth c H locs cells slots Q (F0 m pc ls st0) := by
  intro T hT X
  rcases hr T hT X with ⟨v, st₀, t, T', L, h0, X', hL, e1, e2, ⟨⟨u, hv, hp, hb⟩, hF⟩, st⟩ | ⟨q, st₀, t, T', L, E, ce, h0, X', hL, e1, e2, ⟨u, hp, hb, hF⟩, hce, hcv, hcl, st⟩
  · cases hv
    obtain ⟨k1, k2, k3⟩ := vx_keep h0 e1 hS hA hf hL hF
    obtain ⟨t2, a1, b1⟩ := kk u t T'.heap (locs ++ L) e1.symm (by rw [← e2]; exact X'.warmed.alike) hp hb k1 k2 k3 T' rfl X'
    exact ⟨t2, st t2 a1, b1⟩
  · obtain ⟨k1, k2, k3⟩ := vx_keep h0 e1 hS hAX hf hL hF
    obtain ⟨t2, a1, b1⟩ := kx E ce q u t T'.heap (locs ++ L) e1.symm (by rw [← e2]; exact X'.warmed.alike) hp hb k1 k2 k3 (by rw [e1]; exact hce) hcv hcl T' rfl X'
    exact ⟨t2, st.trans a1, b1⟩
end Rows
section Ends
variable {p : Program} {l : Launch} {e : Env} {R : Room} {s : State} {m : MethodId} {args : Array Value} {below : List Frame} {meth : Method} {c : Code} {H : Heap} {locs : List Loc} {cells slots : Nat} {Q : State → Prop}
variable {mc ms : Nat} {free : Addr → Prop} {A0 A1 : Nat → Prop} {H0 : Heap} {a : Array Value} {ls : Array Slot} {st0 rest : List Value}
variable {Qc : Array Value → State → Outcome → State → Prop} {XC : String → State → State → Prop}
/-- what a body that may throw owes at its end -/
def vx_MQ (below : List Frame) (Qc : Array Value → State → Outcome → State → Prop) (XC : String → State → State → Prop) (a : Array Value) (s : State) (mc ms : Nat) (free : Addr → Prop) : State → Prop := fun t =>
  ∃ o, t.status = .running ∧ Ended t below o ∧ vx_Q Qc XC mc ms free a s o t
theorem vx_ret {g : JFrame} {mc ms : Nat} (k : W p l e R s m args below meth c H locs cells slots (MQ below Qc args s mc ms free) g) : W p l e R s m args below meth c H locs cells slots (vx_MQ below Qc XC args s mc ms free) g := by
  intro T hT X
  obtain ⟨t, a1, o, b1, b2, b3, b4⟩ := k T hT X
  exact ⟨t, a1, o, b1, b2, Or.inl ⟨b3, b4⟩⟩
/-- not caught here: it goes on to the caller -/
theorem vx_widen {g : JFrame} {q : Addr} {k n : Nat} (h1 : cells ≤ k) (h2 : slots ≤ n) (kk : vx_W p l e R s m args below meth c H locs k n Q g q) : vx_W p l e R s m args below meth c H locs cells slots Q g q := fun T hT X => kk T hT (stand_widen X h1 h2)
theorem vx_out {pc : Nat} {E : String} {ce : Cell} {q : Addr} {mc ms : Nat} (hout : ∀ x ∈ c.exceptionTable.toList, covers x pc = false) (hlocks : meth.locks = false) (hcell : H[q]? = some ce) (hv : ce.vm = .none) (hcl : s.vm.findClass E = some ce.cls)
    (hx : ∀ t : State, t.heap = H → s.vm.Alike t.vm → XC E s t) (hf : ∀ z ∈ locs, free z.base) (hc : cells ≤ mc) (hs : slots ≤ ms) :
    vx_W p l e R s m args below meth c H locs cells slots (vx_MQ below Qc XC args s mc ms free) (F0 m pc ls rest) q := by
  intro T hT X
  obtain ⟨st1, hrun, hend, hW, hsm⟩ := X.leaveThrown q (g := F0 m pc ls rest) rfl rfl rfl hout hlocks
  have hcell9 : (T.setFrames (.throwing q :: below)).heap[q]? = some ce := by
    show T.heap[q]? = some ce
    rw [hT]; exact hcell
  exact ⟨_, st1, .threw q, hrun, hend, Or.inr ⟨q, rfl, E, ce, locs, hx _ hT hW.alike, hcell9, hv, hcl, hW, hsm.mono hc hs, hf⟩⟩
theorem vx_frame {U : State} {k n : Nat} (h : s.sameButNew ({ U with vm := s.vm } : State) locs k n) : s.heap.size ≤ U.heap.size ∧ ∀ q : Nat, q < s.heap.size → (∀ z ∈ locs, z.base ≠ q) → U.heap[q]? = s.heap[q]? := by
  obtain ⟨-, h2, -, -, -, h6⟩ := h
  refine ⟨h2, fun q hq hz => ?_⟩
  obtain ⟨c9, e1, e2, e3, e4⟩ := h6 q _ (Array.getElem?_eq_getElem hq)
  have hs : c9.slots = (s.heap[q]).slots := Array.ext_getElem? fun i => e4 i fun hm => hz _ hm rfl
  have h9 : c9 = s.heap[q] := by
    rw [hs] at e2
    exact e2
  have e5 : U.heap[q]? = some c9 := e1
  rw [e5, h9, Array.getElem?_eq_getElem hq]
/-- the words of a throw but the four that speak of the heap -/
def vx_no (w : Cond) : Bool := decide (w ≠ .isRef (.static Bundle.tN "UNASSIGNED_STACK" Bundle.steD)) && decide (w ≠ .isRef (.static Bundle.tN "SUPPRESSED_SENTINEL" Bundle.listD)) && decide (w ≠ .laysStatic Bundle.tN "UNASSIGNED_STACK" Bundle.steD) && decide (w ≠ .laysStatic Bundle.tN "SUPPRESSED_SENTINEL" Bundle.listD)
def vx_at0 (own : String) (ic : Nat) (X : String) (names : List String) : List Cond := (Bundle.ownAtoms0 own ic X names).filter vx_no
def vx_atS (own : String) (ic : Nat) (X : String) (names : List String) : List Cond := (Bundle.ownAtoms own ic X names).filter vx_no
/-- a word that the tables alone decide, or a good one -/
def vx_ot (w : Cond) : Bool := w.onTables || goodWord w
theorem vx_ot_at {args a' : Array Value} {s U : State} {w : Cond} (hW : s.WarmedH U.vm) (hvm : s.vm = U.vm) (hg : vx_ot w = true) (h : w.before args s = true) : w.before a' U = true := by
  simp only [vx_ot, Bool.or_eq_true] at hg
  rcases hg with hg | hg
  · exact va_tabs hg hvm h
  · exact word_at hW (good_of_word hg) h
/-- a list's words: the good ones out of the method's own list, the others by premises of their own -/
theorem vx_hat {args : Array Value} {s : State} {L B : List Cond} (h1 : ∀ w ∈ L.filter goodWord, w.before args s = true) (h2 : ∀ w ∈ L.filter (fun w => !goodWord w), w ∈ B) (h3 : ∀ w ∈ B, w.before args s = true) : ∀ w ∈ L, w.before args s = true := by
  intro w hw
  by_cases g : goodWord w = true
  · exact h1 w (List.mem_filter.mpr ⟨hw, g⟩)
  · refine h3 w (h2 w (List.mem_filter.mpr ⟨hw, ?_⟩))
    show (!goodWord w) = true
    cases hgw : goodWord w
    · rfl
    · exact absurd hgw g
theorem vx_c {args : Array Value} {s : State} {w : Cond} {B : List Cond} (h : w.before args s = true) (t : ∀ w ∈ B, w.before args s = true) : ∀ w' ∈ w :: B, w'.before args s = true := fun w' h' => (List.mem_cons.mp h').elim (fun e => by rw [e]; exact h) (t w')
theorem vx_n {args : Array Value} {s : State} : ∀ w ∈ ([] : List Cond), w.before args s = true := fun _ h => nomatch h
theorem vx_own {args : Array Value} {s : State} {L : List Cond} (h1 : ∀ w ∈ L.filter vx_no, w.before args s = true)
    (hU : (Cond.isRef (.static Bundle.tN "UNASSIGNED_STACK" Bundle.steD)).before args s = true) (hN : (Cond.isRef (.static Bundle.tN "SUPPRESSED_SENTINEL" Bundle.listD)).before args s = true)
    (lU : (Cond.laysStatic Bundle.tN "UNASSIGNED_STACK" Bundle.steD).before args s = true) (lN : (Cond.laysStatic Bundle.tN "SUPPRESSED_SENTINEL" Bundle.listD).before args s = true) : ∀ w ∈ L, w.before args s = true := by
  intro w hw
  by_cases e1 : w = .isRef (.static Bundle.tN "UNASSIGNED_STACK" Bundle.steD)
  · rw [e1]; exact hU
  · by_cases e2 : w = .isRef (.static Bundle.tN "SUPPRESSED_SENTINEL" Bundle.listD)
    · rw [e2]; exact hN
    · by_cases e3 : w = .laysStatic Bundle.tN "UNASSIGNED_STACK" Bundle.steD
      · rw [e3]; exact lU
      · by_cases e4 : w = .laysStatic Bundle.tN "SUPPRESSED_SENTINEL" Bundle.listD
        · rw [e4]; exact lN
        · exact h1 w (List.mem_filter.mpr ⟨hw, by unfold vx_no; rw [decide_eq_true e1, decide_eq_true e2, decide_eq_true e3, decide_eq_true e4]; rfl⟩)
/-- where a static field lies, its class's statics cell in H -/
def vx_L (C n d : String) (A : Nat → Prop) (U : State) (H : Heap) : Prop := ∃ (c : ClassId) (k : Class) (i : Nat) (f : Field) (a : Nat) (cell : Cell), U.vm.findClass C = some c ∧ U.fieldFound? C n d = some (c, k, i, f) ∧ f.isStatic = true ∧ k.statics = some a ∧ H[a]? = some cell ∧ cell.vm.isStatics = true ∧ cell.cls = c ∧ f.slot < cell.slots.size ∧ k.staticTypes[f.slot]? = some f.type ∧ ¬ A a
theorem vx_L.moved {C n d : String} {A : Nat → Prop} {u U : State} {H : Heap} (hvm : u.vm.Alike U.vm) (h : vx_L C n d A u H) : vx_L C n d A U H := by
  obtain ⟨c, k, i, f, a, cell, h1, h2, h3, h4, h5, h6, h7, h8, h9, h10⟩ := h
  obtain ⟨k', hi', he⟩ := State.fieldFound?_setVm hvm h2
  exact ⟨c, k', i, f, a, cell, by rw [hvm.findClass]; exact h1, hi', h3, by rw [he]; exact h4, h5, h6, h7, h8, by rw [he]; exact h9, h10⟩
theorem vx_L.kept {C n d : String} {A : Nat → Prop} {U : State} {H H1 : Heap} (h : vx_L C n d A U H) (hq : ∀ a : Nat, a < H.size → ¬ A a → H1[a]? = H[a]?) : vx_L C n d A U H1 := by
  obtain ⟨c, k, i, f, a, cell, h1, h2, h3, h4, h5, h6, h7, h8, h9, h10⟩ := h
  exact ⟨c, k, i, f, a, cell, h1, h2, h3, h4, by rw [hq a (Array.getElem?_eq_some_iff.mp h5).1 h10]; exact h5, h6, h7, h8, h9, h10⟩
theorem vx_L.narrow {C n d : String} {A B : Nat → Prop} {U : State} {H : Heap} (h : vx_L C n d A U H) (hAB : ∀ q, B q → A q) : vx_L C n d B U H := by
  obtain ⟨c, k, i, f, a, cell, h1, h2, h3, h4, h5, h6, h7, h8, h9, h10⟩ := h
  exact ⟨c, k, i, f, a, cell, h1, h2, h3, h4, h5, h6, h7, h8, h9, fun z => h10 (hAB _ z)⟩
theorem vx_L.word {C n d : String} {A : Nat → Prop} {s : State} {args : Array Value} (h : vx_L C n d A s s.heap) : (Cond.laysStatic C n d).before args s = true := by
  obtain ⟨c, k, i, f, a, cell, h1, h2, h3, h4, h5, h6, h7, h8, h9, -⟩ := h
  show (Cond.laysStatic C n d).holds args s none s [] = true
  exact Cond.laysStatic_of h1 h2 h3 h4 h5 h6 h7 h8 h9
/-- .. and what it holds: null or some reference -/
def vx_Zq (C n d : String) (A : Nat → Prop) (U : State) (H : Heap) : Prop := va_Zq C n d A U H ∧ vx_L C n d A U H
theorem vx_Zq.moved {C n d : String} {A : Nat → Prop} {u U : State} {H : Heap} (hvm : u.vm.Alike U.vm) (h : vx_Zq C n d A u H) : vx_Zq C n d A U H := ⟨va_Zq.moved hvm h.1, vx_L.moved hvm h.2⟩
theorem vx_Zq.kept {C n d : String} {A : Nat → Prop} {U : State} {H H1 : Heap} (h : vx_Zq C n d A U H) (hq : ∀ a : Nat, a < H.size → ¬ A a → H1[a]? = H[a]?) : vx_Zq C n d A U H1 := ⟨va_Zq.kept h.1 hq, vx_L.kept h.2 hq⟩
theorem vx_Zq.narrow {C n d : String} {A B : Nat → Prop} {U : State} {H : Heap} (h : vx_Zq C n d A U H) (hAB : ∀ q, B q → A q) : vx_Zq C n d B U H := ⟨va_Zq.narrow h.1 hAB, vx_L.narrow h.2 hAB⟩
theorem vx_Zqof {args : Array Value} {s : State} {C n d : String} {A : Nat → Prop} (hl : (Cond.laysStatic C n d).before args s = true) (hini : (Cond.initialized C).before args s = true) (h : (Cond.isRef (.static C n d)).before args s = true) (hA : ∀ a : Nat, a < s.heap.size → ¬ A a) : vx_Zq C n d A s s.heap := by
  refine ⟨va_Zqof hl hini h hA, ?_⟩
  obtain ⟨c, k, i, f, a, cell, h1, h2, h3, h4, h5, h6, h7, h8, h9⟩ := Cond.laysStatic_spec hl
  exact ⟨c, k, i, f, a, cell, h1, h2, h3, h4, h5, h6, h7, h8, h9, hA a (Array.getElem?_eq_some_iff.mp h5).1⟩
theorem vx_isRef {C n d : String} {v : Value} {A : Nat → Prop} {s : State} {args : Array Value} (h : va_Z C n d v A s s.heap) (hv : v.isRef = true) : (Cond.isRef (.static C n d)).before args s = true := by
  obtain ⟨cf, kf, fi, f, a, cell, h1, h2, h3, h4, h5, h6, h7, -⟩ := h
  have he : (Term.static C n d).eval args s none [] s = some v := by
    simp [Term.eval, State.fieldNamed?, h1, h2, h4, h5, h6, h7]
  simp only [Cond.before, Cond.holds, Cond.value, he]
  cases v <;> simp_all [Value.isRef]
theorem vx_isRefq {C n d : String} {A : Nat → Prop} {s : State} {args : Array Value} (h : va_Zq C n d A s s.heap) : (Cond.isRef (.static C n d)).before args s = true := by
  rcases h with h | ⟨t, h⟩
  · exact vx_isRef h rfl
  · exact vx_isRef h rfl
/-- the same frame, seen from here: as if the method were called anew in this heap -/
theorem vx_rebase {T : State} (X : Stand p l e R s m args below meth c T locs cells slots) {R' : Room} (hf : R'.frames ≤ R.frames) (hl : R'.locals ≤ R.locals) (hc : cells + R'.cells ≤ R.cells) (hs : slots + R'.slots ≤ R.slots) :
    Stand p l e R' ((T.setVm s.vm).setFrames (.invoking m args :: below)) m args below meth c T [] 0 0 := by
  have htop : (T.setVm s.vm).topJava?.isSome := X.here.top
  have hF : ((T.setVm s.vm).setFrames (.invoking m args :: below)).frames = .invoking m args :: below := State.frames_setFrames _ (State.cur_lt_of_top htop)
  obtain ⟨g₀, hg0⟩ := Option.isSome_iff_exists.mp htop
  obtain ⟨r, hr⟩ := State.topJava?_eq_some.mp hg0
  have hl9 : e.platform.stackLimits (T.setVm s.vm).me = e.platform.stackLimits s.me := X.limits
  have hb9 : (T.setVm s.vm).me.stackBytes = s.me.stackBytes := X.bytes
  refine ⟨X.admits, X.cas, X.clock, hF, ?_, X.hears, X.method, X.code, X.here, X.tail, X.warmed, ?_, ?_, ?_⟩
  · have h := X.room
    have hU : ((T.setVm s.vm).setFrames (.invoking m args :: below)).localsInUse = s.localsInUse := by
      rw [State.localsInUse_invoking hF (meth := meth) (c := c) X.method X.code, State.localsInUse_invoking X.frames X.method X.code]
    simp only [State.hasRoom, Bool.and_eq_true, decide_eq_true_eq] at h ⊢
    obtain ⟨⟨⟨⟨h1, h2, h3, h4, h5, h6⟩, h7⟩, h8⟩, h9⟩ := h
    rw [X.frames, List.length_cons] at h2 h3
    have q1 := X.heapSize
    have q2 := X.used
    simp only [hF, hU, List.length_cons, State.stackLimits_setFrames, State.stackBytes_setFrames, hl9, hb9]
    refine ⟨⟨⟨⟨by omega, by omega, by omega, by omega, by omega, h6⟩, ?_⟩, ?_⟩, X.book⟩
    · show T.heap.size + R'.cells ≤ e.platform.maxCells
      omega
    · show T.slotsUsed + R'.slots ≤ e.platform.maxSlots
      omega
  · rw [State.stackLimits_setFrames]; rfl
  · rw [State.stackBytes_setFrames]; rfl
  · refine ⟨?_, Nat.le_refl _, Nat.le_refl _, ?_, ?_, fun a c9 h9 => ⟨c9, h9, rfl, rfl, fun _ _ => rfl⟩⟩
    · obtain ⟨t, ht, -⟩ := State.frames_cons hr
      show T.setVm s.vm = { ((T.setVm s.vm).setFrames (.invoking m args :: below)).setFrames (T.setVm s.vm).frames with heap := T.heap, slotsUsed := T.slotsUsed }
      rw [State.setFrames_setFrames, State.setFrames_self ht]
      rfl
    · show T.slotsUsed = T.slotsUsed + ((T.heap.toList.drop T.heap.size).map (·.slots.size)).sum
      rw [List.drop_eq_nil_of_le (Nat.le_of_eq Array.length_toList)]
      rfl
    · show ((T.heap.toList.drop T.heap.size).map (·.slots.size)).sum ≤ 0
      rw [List.drop_eq_nil_of_le (Nat.le_of_eq Array.length_toList)]
      exact Nat.le_refl _
/-- 'throw new E()': new; dup; invokespecial; athrow -/
theorem vx_throw0 {cc : ByteArray} {pc : Nat} (hexec : p.tables.exec = Jvm.exec) (hb : c.code = cc) (hl : l.stackTraces = false) {own cls : String} {names : List String} {ik ic mc ms : Nat} {A : Nat → Prop}
    (hown : s.vm.findClass own = some m.cls) (hcls : Bundle.fit cls = true) (hnames : ∀ n ∈ names, Bundle.fit n = true)
    (hk : (Cond.classLink own ik cls).before args s = true) (hini : (Cond.initialized cls).before args s = true) (hat : ∀ w ∈ vx_at0 own ic cls names, w.before args s = true)
    (hgood : ∀ w ∈ Cond.classLink own ik cls :: Cond.initialized cls :: vx_at0 own ic cls names, vx_ot w = true)
    (hU : vx_Zq Bundle.tN "UNASSIGNED_STACK" Bundle.steD A s s.heap) (hN : vx_Zq Bundle.tN "SUPPRESSED_SENTINEL" Bundle.listD A s s.heap) (hS : va_S A s.heap H locs) (hsize : ls.size = c.maxLocals)
    (d0 : decode cc pc = .ok (.new ik, 3)) (d3 : decode cc (pc + 3) = .ok (.dup, 1)) (d4 : decode cc (pc + 4) = .ok (.invokespecial ic, 3)) (d7 : decode cc (pc + 7) = .ok (.athrow, 1))
    (hout : ∀ x ∈ c.exceptionTable.toList, covers x (pc + 7) = false)
    (hRframes : names.length + 3 < R.frames) (hRlocals : (rest.map fun v => v.category).sum + (13 * (names.length + 1) + 42) ≤ R.locals) (hRcells : cells + 1 ≤ R.cells) (hRslots : slots + 6 ≤ R.slots) (hlocks : meth.locks = false)
    (hx : ∀ t : State, s.vm.Alike t.vm → H.size ≤ t.heap.size → (∀ q : Nat, q < H.size → t.heap[q]? = H[q]?) → XC cls s t)
    (hf : ∀ z ∈ locs, free z.base) (hc : cells + 1 ≤ mc) (hs : slots + 6 ≤ ms) :
    W p l e R s m args below meth c H locs cells slots (vx_MQ below Qc XC args s mc ms free) (F0 m pc ls rest) := by
  intro T hT X
  have htr : e.platform.stackTraces = false := (show e.platform.stackTraces = l.stackTraces by rw [X.admits.platform]).trans hl
  have Y := vx_rebase X (R' := { frames := R.frames, locals := R.locals, cells := 1, slots := 6 }) (Nat.le_refl _) (Nat.le_refl _) hRcells hRslots
  obtain ⟨s', hA⟩ : ∃ z, z = (T.setVm s.vm).setFrames (.invoking m args :: below) := ⟨_, rfl⟩
  rw [← hA] at Y
  have hvm : s'.vm = s.vm := by rw [hA]; rfl
  have hhp : s'.heap = H := by rw [hA]; exact hT
  have hW0 : s.WarmedH s'.vm := by rw [hvm]; exact State.WarmedH.refl s
  have hat' : ∀ w ∈ vx_at0 own ic cls names, w.before args s' = true := fun w hw => vx_ot_at hW0 hvm.symm (hgood w (List.mem_cons_of_mem _ (List.mem_cons_of_mem _ hw))) (hat w hw)
  have hk' : (Cond.classLink own ik cls).before args s' = true := vx_ot_at hW0 hvm.symm (hgood _ List.mem_cons_self) hk
  have hini' : (Cond.initialized cls).before args s' = true := vx_ot_at hW0 hvm.symm (hgood _ (List.mem_cons_of_mem _ List.mem_cons_self)) hini
  have hU' : vx_Zq Bundle.tN "UNASSIGNED_STACK" Bundle.steD A s' s'.heap := by rw [hhp]; exact vx_Zq.moved hW0.alike (hU.kept hS.2.1)
  have hN' : vx_Zq Bundle.tN "SUPPRESSED_SENTINEL" Bundle.listD A s' s'.heap := by rw [hhp]; exact vx_Zq.moved hW0.alike (hN.kept hS.2.1)
  have h : ∀ w ∈ Bundle.ownAtoms0 own ic cls names, w.before args s' = true := vx_own hat' (vx_isRefq hU'.1) (vx_isRefq hN'.1) hU'.2.word hN'.2.word
  have hown' : s'.vm.findClass own = some m.cls := by rw [hvm]; exact hown
  have hins : (Cond.instantiable cls 6).before args s' = true := h _ (by simp [Bundle.ownAtoms0])
  obtain ⟨vm₁, cX, kX, hfX, hkX, -, -, X₁, st1⟩ := Y.newCold hexec (own := own) (C := cls) (index := ik) (n := 6) hown' hk' hins hini'
    (g := F0 m pc ls rest) rfl (by rw [hb]; exact d0) (Nat.le_refl _) (Nat.le_refl _)
  generalize hT1 : (T.setVm vm₁).pushCell { cls := cX, slots := kX.instanceTypes.map defaultValue, vm := .none } = T1 at X₁ st1
  have hcat : (Value.ref T.heap.size).category = 1 := rfl
  have hcellA : T1.heap[T.heap.size]? = some (freshCell cX kX) := by rw [← hT1]; exact State.heap_pushCell_size _ _
  have d3' : decode c.code (pc + 3) = .ok (.dup, 1) := by rw [hb]; exact d3
  obtain ⟨U, hsteps, hrun, hend, hW, hsame, ce, hce, hO⟩ := X₁.ctorThrow0 hexec htr (own := own) (cls := cls) (names := names) (ic := ic) hown' hcls hnames h (fun x hx => nomatch hx) hfX hkX hcellA (by rw [hhp, hT]; exact Nat.le_refl _)
    (g := { method := m, pc := pc + 4, locals := ls, stack := .ref T.heap.size :: .ref T.heap.size :: rest, locked := none }) rfl hsize rfl rfl (rest := rest) rfl
    (by rw [hb]; exact d4) (by rw [hb]; exact d7) hout hRframes (by simp only [List.map_cons, List.sum_cons, hcat]; omega) hlocks
  obtain ⟨f1, f2⟩ := vx_frame hsame
  rw [hhp] at f1 f2
  have hWs : s.WarmedH U.vm := State.WarmedH.trans hW0 hW
  have hcl : s.vm.findClass cls = some ce.cls := by
    have h9 := hO.cls
    rw [hvm] at h9
    exact h9
  have hall : s.sameButNew ({ U with vm := s.vm } : State) locs mc ms := by
    subst hA
    obtain ⟨e1, e2⟩ := hsame
    rw [State.setFrames_setFrames] at e1
    have h2 : (T.setVm s.vm).sameButNew ({ U with vm := s.vm } : State) [] (0 + 1) (0 + 6) := ⟨e1, e2⟩
    have h3 := X.same.trans h2
    rw [List.append_nil] at h3
    exact h3.mono hc hs
  refine ⟨U, ?_, .threw T.heap.size, hrun, hend, Or.inr ⟨T.heap.size, rfl, cls, ce, locs, hx U hWs.alike f1 (fun q hq => f2 q hq (fun z hz => nomatch hz)), hce, hO.vm, hcl, hWs, hall, hf⟩⟩
  refine st1 _ ?_
  show Steps p.tables e below (T1.setTop { method := m, pc := pc + 3, locals := ls, stack := .ref T.heap.size :: rest, locked := none }) _
  jvm_step X₁.here [X₁.here.top, hexec, d3', Value.category]
  exact hsteps
/-- 'throw new E("text")': new; dup; ldc; invokespecial; athrow -/
theorem vx_throwS {cc : ByteArray} {pc : Nat} (hexec : p.tables.exec = Jvm.exec) (hb : c.code = cc) (hl : l.stackTraces = false) {own cls text : String} {names : List String} {ik is ic mc ms sa : Nat} {A : Nat → Prop}
    (hown : s.vm.findClass own = some m.cls) (hcls : Bundle.fit cls = true) (hnames : ∀ n ∈ names, Bundle.fit n = true)
    (hk : (Cond.classLink own ik cls).before args s = true) (hini : (Cond.initialized cls).before args s = true) (hstr : vk_R own is text sa s) (hat : ∀ w ∈ vx_atS own ic cls names, w.before args s = true)
    (hgood : ∀ w ∈ Cond.classLink own ik cls :: Cond.initialized cls :: vx_atS own ic cls names, vx_ot w = true)
    (hU : vx_Zq Bundle.tN "UNASSIGNED_STACK" Bundle.steD A s s.heap) (hN : vx_Zq Bundle.tN "SUPPRESSED_SENTINEL" Bundle.listD A s s.heap) (hS : va_S A s.heap H locs) (hsize : ls.size = c.maxLocals)
    (d0 : decode cc pc = .ok (.new ik, 3)) (d3 : decode cc (pc + 3) = .ok (.dup, 1)) (d4 : decode cc (pc + 4) = .ok (.ldc is, 2)) (d6 : decode cc (pc + 6) = .ok (.invokespecial ic, 3)) (d9 : decode cc (pc + 9) = .ok (.athrow, 1))
    (hout : ∀ x ∈ c.exceptionTable.toList, covers x (pc + 9) = false)
    (hRframes : names.length + 3 < R.frames) (hRlocals : (rest.map fun v => v.category).sum + (13 * (names.length + 1) + 43) ≤ R.locals) (hRcells : cells + 1 ≤ R.cells) (hRslots : slots + 6 ≤ R.slots) (hlocks : meth.locks = false)
    (hx : ∀ t : State, s.vm.Alike t.vm → H.size ≤ t.heap.size → (∀ q : Nat, q < H.size → t.heap[q]? = H[q]?) → XC cls s t)
    (hf : ∀ z ∈ locs, free z.base) (hc : cells + 1 ≤ mc) (hs : slots + 6 ≤ ms) :
    W p l e R s m args below meth c H locs cells slots (vx_MQ below Qc XC args s mc ms free) (F0 m pc ls rest) := by
  intro T hT X
  have htr : e.platform.stackTraces = false := (show e.platform.stackTraces = l.stackTraces by rw [X.admits.platform]).trans hl
  have Y := vx_rebase X (R' := { frames := R.frames, locals := R.locals, cells := 1, slots := 6 }) (Nat.le_refl _) (Nat.le_refl _) hRcells hRslots
  obtain ⟨s', hA⟩ : ∃ z, z = (T.setVm s.vm).setFrames (.invoking m args :: below) := ⟨_, rfl⟩
  rw [← hA] at Y
  have hvm : s'.vm = s.vm := by rw [hA]; rfl
  have hhp : s'.heap = H := by rw [hA]; exact hT
  have hW0 : s.WarmedH s'.vm := by rw [hvm]; exact State.WarmedH.refl s
  have hat' : ∀ w ∈ vx_atS own ic cls names, w.before args s' = true := fun w hw => vx_ot_at hW0 hvm.symm (hgood w (List.mem_cons_of_mem _ (List.mem_cons_of_mem _ hw))) (hat w hw)
  have hk' : (Cond.classLink own ik cls).before args s' = true := vx_ot_at hW0 hvm.symm (hgood _ List.mem_cons_self) hk
  have hini' : (Cond.initialized cls).before args s' = true := vx_ot_at hW0 hvm.symm (hgood _ (List.mem_cons_of_mem _ List.mem_cons_self)) hini
  have hU' : vx_Zq Bundle.tN "UNASSIGNED_STACK" Bundle.steD A s' s'.heap := by rw [hhp]; exact vx_Zq.moved hW0.alike (hU.kept hS.2.1)
  have hN' : vx_Zq Bundle.tN "SUPPRESSED_SENTINEL" Bundle.listD A s' s'.heap := by rw [hhp]; exact vx_Zq.moved hW0.alike (hN.kept hS.2.1)
  have h : ∀ w ∈ Bundle.ownAtoms own ic cls names, w.before args s' = true := vx_own hat' (vx_isRefq hU'.1) (vx_isRefq hN'.1) hU'.2.word hN'.2.word
  have hown' : s'.vm.findClass own = some m.cls := by rw [hvm]; exact hown
  have hins : (Cond.instantiable cls 6).before args s' = true := h _ (by simp [Bundle.ownAtoms])
  obtain ⟨vm₁, cX, kX, hfX, hkX, -, -, X₁, st1⟩ := Y.newCold hexec (own := own) (C := cls) (index := ik) (n := 6) hown' hk' hins hini'
    (g := F0 m pc ls rest) rfl (by rw [hb]; exact d0) (Nat.le_refl _) (Nat.le_refl _)
  generalize hT1 : (T.setVm vm₁).pushCell { cls := cX, slots := kX.instanceTypes.map defaultValue, vm := .none } = T1 at X₁ st1
  have hcat : (Value.ref T.heap.size).category = 1 := rfl
  have hcellA : T1.heap[T.heap.size]? = some (freshCell cX kX) := by rw [← hT1]; exact State.heap_pushCell_size _ _
  have d3' : decode c.code (pc + 3) = .ok (.dup, 1) := by rw [hb]; exact d3
  have d4' : decode c.code (pc + 4) = .ok (.ldc is, 2) := by rw [hb]; exact d4
  have hstr' : vk_R own is text sa s' := vk_R.warm hW0 hstr
  obtain ⟨U, hsteps, hrun, hend, hW, hsame, ce, hce, hO⟩ := X₁.ctorThrowS hexec htr (own := own) (cls := cls) (names := names) (ic := ic) hown' hcls hnames h (fun x hx => nomatch hx) hfX hkX hcellA (by rw [hhp, hT]; exact Nat.le_refl _) (msg := .ref sa) rfl
    (g := { method := m, pc := pc + 6, locals := ls, stack := .ref sa :: .ref T.heap.size :: .ref T.heap.size :: rest, locked := none }) rfl hsize rfl rfl (rest := rest) rfl
    (by rw [hb]; exact d6) (by rw [hb]; exact d9) hout hRframes (by simp only [List.map_cons, List.sum_cons, hcat]; omega) hlocks
  obtain ⟨f1, f2⟩ := vx_frame hsame
  rw [hhp] at f1 f2
  have hWs : s.WarmedH U.vm := State.WarmedH.trans hW0 hW
  have hcl : s.vm.findClass cls = some ce.cls := by
    have h9 := hO.cls
    rw [hvm] at h9
    exact h9
  have hall : s.sameButNew ({ U with vm := s.vm } : State) locs mc ms := by
    subst hA
    obtain ⟨e1, e2⟩ := hsame
    rw [State.setFrames_setFrames] at e1
    have h2 : (T.setVm s.vm).sameButNew ({ U with vm := s.vm } : State) [] (0 + 1) (0 + 6) := ⟨e1, e2⟩
    have h3 := X.same.trans h2
    rw [List.append_nil] at h3
    exact h3.mono hc hs
  refine ⟨U, ?_, .threw T.heap.size, hrun, hend, Or.inr ⟨T.heap.size, rfl, cls, ce, locs, hx U hWs.alike f1 (fun q hq => f2 q hq (fun z hz => nomatch hz)), hce, hO.vm, hcl, hWs, hall, hf⟩⟩
  refine st1 _ ?_
  show Steps p.tables e below (T1.setTop { method := m, pc := pc + 3, locals := ls, stack := .ref T.heap.size :: rest, locked := none }) _
  jvm_step X₁.here [X₁.here.top, hexec, d3', Value.category]
  exact X₁.ldcString hexec (own := own) (text := text) (index := is) (a := sa) hown' hstr'.1 hstr'.2
    (g := { method := m, pc := pc + 4, locals := ls, stack := .ref T.heap.size :: .ref T.heap.size :: rest, locked := none }) rfl d4' _ hsteps
/-- 'throw new E("text")', the text by a wide index -/
theorem vx_throwSW {cc : ByteArray} {pc : Nat} (hexec : p.tables.exec = Jvm.exec) (hb : c.code = cc) (hl : l.stackTraces = false) {own cls text : String} {names : List String} {ik is ic mc ms sa : Nat} {A : Nat → Prop}
    (hown : s.vm.findClass own = some m.cls) (hcls : Bundle.fit cls = true) (hnames : ∀ n ∈ names, Bundle.fit n = true)
    (hk : (Cond.classLink own ik cls).before args s = true) (hini : (Cond.initialized cls).before args s = true) (hstr : vk_R own is text sa s) (hat : ∀ w ∈ vx_atS own ic cls names, w.before args s = true)
    (hgood : ∀ w ∈ Cond.classLink own ik cls :: Cond.initialized cls :: vx_atS own ic cls names, vx_ot w = true)
    (hU : vx_Zq Bundle.tN "UNASSIGNED_STACK" Bundle.steD A s s.heap) (hN : vx_Zq Bundle.tN "SUPPRESSED_SENTINEL" Bundle.listD A s s.heap) (hS : va_S A s.heap H locs) (hsize : ls.size = c.maxLocals)
    (d0 : decode cc pc = .ok (.new ik, 3)) (d3 : decode cc (pc + 3) = .ok (.dup, 1)) (d4 : decode cc (pc + 4) = .ok (.ldc_w is, 3)) (d7 : decode cc (pc + 7) = .ok (.invokespecial ic, 3)) (d10 : decode cc (pc + 10) = .ok (.athrow, 1))
    (hout : ∀ x ∈ c.exceptionTable.toList, covers x (pc + 10) = false)
    (hRframes : names.length + 3 < R.frames) (hRlocals : (rest.map fun v => v.category).sum + (13 * (names.length + 1) + 43) ≤ R.locals) (hRcells : cells + 1 ≤ R.cells) (hRslots : slots + 6 ≤ R.slots) (hlocks : meth.locks = false)
    (hx : ∀ t : State, s.vm.Alike t.vm → H.size ≤ t.heap.size → (∀ q : Nat, q < H.size → t.heap[q]? = H[q]?) → XC cls s t)
    (hf : ∀ z ∈ locs, free z.base) (hc : cells + 1 ≤ mc) (hs : slots + 6 ≤ ms) :
    W p l e R s m args below meth c H locs cells slots (vx_MQ below Qc XC args s mc ms free) (F0 m pc ls rest) := by
  intro T hT X
  have htr : e.platform.stackTraces = false := (show e.platform.stackTraces = l.stackTraces by rw [X.admits.platform]).trans hl
  have Y := vx_rebase X (R' := { frames := R.frames, locals := R.locals, cells := 1, slots := 6 }) (Nat.le_refl _) (Nat.le_refl _) hRcells hRslots
  obtain ⟨s', hA⟩ : ∃ z, z = (T.setVm s.vm).setFrames (.invoking m args :: below) := ⟨_, rfl⟩
  rw [← hA] at Y
  have hvm : s'.vm = s.vm := by rw [hA]; rfl
  have hhp : s'.heap = H := by rw [hA]; exact hT
  have hW0 : s.WarmedH s'.vm := by rw [hvm]; exact State.WarmedH.refl s
  have hat' : ∀ w ∈ vx_atS own ic cls names, w.before args s' = true := fun w hw => vx_ot_at hW0 hvm.symm (hgood w (List.mem_cons_of_mem _ (List.mem_cons_of_mem _ hw))) (hat w hw)
  have hk' : (Cond.classLink own ik cls).before args s' = true := vx_ot_at hW0 hvm.symm (hgood _ List.mem_cons_self) hk
  have hini' : (Cond.initialized cls).before args s' = true := vx_ot_at hW0 hvm.symm (hgood _ (List.mem_cons_of_mem _ List.mem_cons_self)) hini
  have hU' : vx_Zq Bundle.tN "UNASSIGNED_STACK" Bundle.steD A s' s'.heap := by rw [hhp]; exact vx_Zq.moved hW0.alike (hU.kept hS.2.1)
  have hN' : vx_Zq Bundle.tN "SUPPRESSED_SENTINEL" Bundle.listD A s' s'.heap := by rw [hhp]; exact vx_Zq.moved hW0.alike (hN.kept hS.2.1)
  have h : ∀ w ∈ Bundle.ownAtoms own ic cls names, w.before args s' = true := vx_own hat' (vx_isRefq hU'.1) (vx_isRefq hN'.1) hU'.2.word hN'.2.word
  have hown' : s'.vm.findClass own = some m.cls := by rw [hvm]; exact hown
  have hins : (Cond.instantiable cls 6).before args s' = true := h _ (by simp [Bundle.ownAtoms])
  obtain ⟨vm₁, cX, kX, hfX, hkX, -, -, X₁, st1⟩ := Y.newCold hexec (own := own) (C := cls) (index := ik) (n := 6) hown' hk' hins hini'
    (g := F0 m pc ls rest) rfl (by rw [hb]; exact d0) (Nat.le_refl _) (Nat.le_refl _)
  generalize hT1 : (T.setVm vm₁).pushCell { cls := cX, slots := kX.instanceTypes.map defaultValue, vm := .none } = T1 at X₁ st1
  have hcat : (Value.ref T.heap.size).category = 1 := rfl
  have hcellA : T1.heap[T.heap.size]? = some (freshCell cX kX) := by rw [← hT1]; exact State.heap_pushCell_size _ _
  have d3' : decode c.code (pc + 3) = .ok (.dup, 1) := by rw [hb]; exact d3
  have d4' : decode c.code (pc + 4) = .ok (.ldc_w is, 3) := by rw [hb]; exact d4
  have hstr' : vk_R own is text sa s' := vk_R.warm hW0 hstr
  obtain ⟨U, hsteps, hrun, hend, hW, hsame, ce, hce, hO⟩ := X₁.ctorThrowS hexec htr (own := own) (cls := cls) (names := names) (ic := ic) hown' hcls hnames h (fun x hx => nomatch hx) hfX hkX hcellA (by rw [hhp, hT]; exact Nat.le_refl _) (msg := .ref sa) rfl
    (g := { method := m, pc := pc + 7, locals := ls, stack := .ref sa :: .ref T.heap.size :: .ref T.heap.size :: rest, locked := none }) rfl hsize rfl rfl (rest := rest) rfl
    (by rw [hb]; exact d7) (by rw [hb]; exact d10) hout hRframes (by simp only [List.map_cons, List.sum_cons, hcat]; omega) hlocks
  obtain ⟨f1, f2⟩ := vx_frame hsame
  rw [hhp] at f1 f2
  have hWs : s.WarmedH U.vm := State.WarmedH.trans hW0 hW
  have hcl : s.vm.findClass cls = some ce.cls := by
    have h9 := hO.cls
    rw [hvm] at h9
    exact h9
  have hall : s.sameButNew ({ U with vm := s.vm } : State) locs mc ms := by
    subst hA
    obtain ⟨e1, e2⟩ := hsame
    rw [State.setFrames_setFrames] at e1
    have h2 : (T.setVm s.vm).sameButNew ({ U with vm := s.vm } : State) [] (0 + 1) (0 + 6) := ⟨e1, e2⟩
    have h3 := X.same.trans h2
    rw [List.append_nil] at h3
    exact h3.mono hc hs
  refine ⟨U, ?_, .threw T.heap.size, hrun, hend, Or.inr ⟨T.heap.size, rfl, cls, ce, locs, hx U hWs.alike f1 (fun q hq => f2 q hq (fun z hz => nomatch hz)), hce, hO.vm, hcl, hWs, hall, hf⟩⟩
  refine st1 _ ?_
  show Steps p.tables e below (T1.setTop { method := m, pc := pc + 3, locals := ls, stack := .ref T.heap.size :: rest, locked := none }) _
  jvm_step X₁.here [X₁.here.top, hexec, d3', Value.category]
  exact X₁.ldcStringW hexec (own := own) (text := text) (index := is) (a := sa) hown' hstr'.1 hstr'.2
    (g := { method := m, pc := pc + 4, locals := ls, stack := .ref T.heap.size :: .ref T.heap.size :: rest, locked := none }) rfl d4' _ hsteps
end Ends
section Bodies
variable {l : Launch}
theorem vx_ofW {y : MethodName} {ws ws' : List Cond} {rm : Room} {Pc : Array Value → State → Prop} {Qc : Array Value → State → Outcome → State → Prop} {XC : String → State → State → Prop} {mc ms : Nat} {free : Addr → Prop} {cc : ByteArray} {maxL : Nat} {ret : Option FieldType}
    (hy : plainName y.cls = true) (hw : ws = Cond.code y cc maxL ret :: ws')
    (body : ∀ p e s m args below meth c s₁, BodyLoose p l y (headSpec ws rm) cc maxL ret e s m args below meth c s₁ → c.maxLocals = maxL → (∀ x ∈ c.exceptionTable.toList, False) → Pc args s →
      W p l e (headSpec ws rm).room s m args below meth c s.heap [] 0 0 (vx_MQ below Qc XC args s mc ms free) (entryFrame m args maxL)) : vx_Met l y ws rm Pc Qc XC mc ms free := by
  refine MetFree.of_bodyS (code := cc) (maxLocals := maxL) (ret := ret) hy ?_ ?_
  · intro args s m h hn
    obtain ⟨meth, c, h1, h2, h3, h4, h5, h6, -, -⟩ := Cond.code_spec hn (atoms_spec (ws := ws) h _ (by rw [hw]; exact List.mem_cons_self))
    exact ⟨meth, c, h1, h2, h3, h4, h5, h6⟩
  · intro p e s m args below meth c s₁ B hml hP _
    have hh0 : s₁.heap = s.heap := by rw [B.state]; rfl
    have ht : ∀ x ∈ c.exceptionTable.toList, False := by
      obtain ⟨meth9, c9, h1, h2, -, -, -, -, h7, -⟩ := Cond.code_spec B.named (atoms_spec (ws := ws) B.pre _ (by rw [hw]; exact List.mem_cons_self))
      cases Option.some.inj (h1.symm.trans B.method)
      cases Option.some.inj (h2.symm.trans (Stand.of_body B).code)
      intro x hx
      rw [Array.isEmpty_iff.mp h7] at hx
      cases hx
    obtain ⟨t, a1, o, b1, b2, b3⟩ := body p e s m args below meth c s₁ B hml ht hP s₁ hh0 (Stand.of_body B)
    exact ⟨t, o, a1, b1, b2, b3⟩
/-- the table of a body with handlers -/
theorem vx_table {p : Program} {x y : MethodName} {S : Spec} {cc bytes : ByteArray} {maxL maxL' : Nat} {ret ret' : Option FieldType} {e : Env} {s s₁ : State} {m : MethodId} {args : Array Value} {below : List Frame} {meth : Method} {c : Code} {hh : List (Nat × Nat × Nat × Nat)}
    (B : BodyLoose p l y S cc maxL ret e s m args below meth c s₁) (h : (Cond.codeWith y bytes maxL' ret' hh).before args s = true) : c.exceptionTable.toList = tableOf hh := by
  obtain ⟨m9, meth9, c9, hn9, h1, h2, -, -, h6, -⟩ := Cond.codeWith_spec h
  cases Option.some.inj (hn9.symm.trans B.named)
  cases Option.some.inj (h1.symm.trans B.method)
  cases Option.some.inj (h2.symm.trans (Stand.of_body B).code)
  rw [← h6, table_eq]
end Bodies
end VXA
/-! ===== END ===== -/
/-! ===== BEGIN a static call of a method with an exception table ===== -/
section VXS
variable {p : Program} {l : Launch} {e : Env} {R : Room} {s : State} {m : MethodId} {args : Array Value} {below : List Frame} {meth : Method} {c : Code} {T : State} {H : Heap} {locs : List Loc} {cells slots : Nat}
abbrev vx_CSW (R : Room) (s : State) (args : Array Value) (own : String) (index : Nat) (y : MethodName) (bytes : ByteArray) (maxL : Nat) (ret : Option FieldType) (hh : List (Nat × Nat × Nat × Nat)) (ws : List Cond) (rm : Room) (mc ms n : Nat) : Prop :=
  (rm.cells = mc ∧ rm.slots = ms ∧ rm.frames + 1 ≤ R.frames ∧ 8 + (maxL + 11) + rm.locals ≤ R.locals ∧ (∀ w ∈ ws, ∀ (a' : Array Value) (U : State), s.WarmedH U.vm → w.before a' U = true) ∧ Cond.codeWith y bytes maxL ret hh ∈ ws) ∧
  (Cond.codeWith y bytes maxL ret hh).before args s = true ∧ (Cond.initialized y.cls).before args s = true ∧ (y.cls ≠ "java/lang/invoke/MethodHandle" ∧ y.cls ≠ "java/lang/invoke/VarHandle") ∧
  (∀ sig, parseMethodDescriptor y.desc = some sig → n = sig.parameters.length) ∧ (Cond.methodLink own index y).before args s = true ∧ (Cond.static y).before args s = true
theorem vx_cwSW {own : String} {index maxL mc ms : Nat} {y : MethodName} {bytes : ByteArray} {ret : Option FieldType} {hh : List (Nat × Nat × Nat × Nat)} {Ts ws ws' : List Cond} {rm : Room} (n : Nat) (ht : ∀ w ∈ Ts, w.before args s = true) (hT : GoodIn Ts (va_wsS own index y ws)) (hw : ws = Cond.codeWith y bytes maxL ret hh :: ws') (hrc : rm.cells = mc) (hrs : rm.slots = ms)
    (hd : y.cls ≠ "java/lang/invoke/MethodHandle" ∧ y.cls ≠ "java/lang/invoke/VarHandle" ∧ (parseMethodDescriptor y.desc).map (fun d => d.parameters.length) = some n) (hR : rm.frames + 1 ≤ R.frames ∧ 8 + (maxL + 11) + rm.locals ≤ R.locals) :
    vx_CSW R s args own index y bytes maxL ret hh ws rm mc ms n := by
  have ok : ∀ w ∈ va_wsS own index y ws, w.before args s = true := fun w h => ht w (hT w h).1
  have hG : GoodIn Ts ws := fun w h => hT w (by unfold va_wsS; exact List.mem_append_right _ h)
  have hc : Cond.codeWith y bytes maxL ret hh ∈ ws := by rw [hw]; exact List.mem_cons_self
  refine ⟨⟨hrc, hrs, hR.1, hR.2, pay_in ht hG, hc⟩, ht _ (hG _ hc).1, ok _ (by simp [va_wsS]), ⟨hd.1, hd.2.1⟩, fun sig h => ?_, ok _ (by simp [va_wsS]), ok _ (by simp [va_wsS])⟩
  have h2 := hd.2.2
  rw [h] at h2
  exact (Option.some.inj h2).symm
theorem vx_callSW (X : Stand p l e R s m args below meth c T locs cells slots) (hexec : p.tables.exec = Jvm.exec) {own : String} {index : Nat} {y : MethodName} {bytes : ByteArray} {maxL : Nat} {ret : Option FieldType} {hh : List (Nat × Nat × Nat × Nat)}
    (hown : s.vm.findClass own = some m.cls) (hlink : (Cond.methodLink own index y).before args s = true) (hstat : (Cond.static y).before args s = true) (hinit : (Cond.initialized y.cls).before args s = true)
    (hcode : (Cond.codeWith y bytes maxL ret hh).before args s = true) (hy : y.cls ≠ "java/lang/invoke/MethodHandle" ∧ y.cls ≠ "java/lang/invoke/VarHandle")
    {W9 : Nat} {Pre : Pt → Array Value → Prop} {Post : Pt → Array Value → Option Value → Pt → Prop} (hK : Back l R p e below s args y 3 W9 Pre Post)
    {g : JFrame} (hg : g.method = m) (hsize : g.locals.size = c.maxLocals) {argsL rest : List Value} (hlen : ∀ sig, parseMethodDescriptor y.desc = some sig → argsL.length = sig.parameters.length)
    (hstack : g.stack = argsL.reverse ++ rest) (hW : 2 * g.monitorRoom + (rest.map fun v => v.category).sum ≤ W9) (hdg : decode c.code g.pc = .ok (.invokestatic index, 3))
    (hpre : ∀ vm₁, s.WarmedH vm₁ → Pre ⟨T.setVm vm₁, locs, cells, slots⟩ argsL.toArray) :
    ∃ (v : Option Value) (vm₁ : Vm) (B : Pt), s.WarmedH vm₁ ∧ Stand p l e R s m args below meth c B.U B.locs B.cells B.slots ∧ Post ⟨T.setVm vm₁, locs, cells, slots⟩ argsL.toArray v B ∧
      ∀ target, Steps p.tables e below (B.U.setTop { g with pc := g.pc + 3, stack := v.toList ++ rest }) target → Steps p.tables e below (T.setTop g) target := by
  obtain ⟨mk, methM, cM, hnamed, hmethM, -, -, -, -, -, -, hsigM⟩ := Cond.codeWith_spec hcode
  have hstatic : methM.isStatic = true := Cond.static_spec hnamed hmethM hstat
  obtain ⟨kP, hkP, -⟩ := className_of_methodNamed hnamed
  have hinitP : kP.init = .initialized := Cond.initialized_spec (findClass_of_methodNamed hnamed) hkP hinit
  obtain ⟨vm₁, X₁, hstep₁⟩ := X.invokestatic hexec hown hlink hnamed hmethM hstatic hkP hinitP hy (g := g) hg (argsL := argsL) (rest := rest) (hlen _ hsigM) hstack hdg
  obtain ⟨v, B, X', hpost, hsteps⟩ := hK m meth c ⟨T.setVm vm₁, locs, cells, slots⟩ { g with stack := rest } (.invokestatic index) mk argsL.toArray X₁ hg hsize hdg hW (X₁.named hnamed) (hpre vm₁ X₁.warmed)
  exact ⟨v, vm₁, B, X₁.warmed, X', hpost, fun target h => hstep₁ _ fun acts => by rw [doInvoke_state]; exact hsteps.trans h⟩
theorem vx_runSW {y : MethodName} {bytes cc : ByteArray} {maxL nL mc ms n index : Nat} {ret : Option FieldType} {hh : List (Nat × Nat × Nat × Nat)} {ws : List Cond} {rm : Room} {Pc : Array Value → State → Prop} {Qc : Array Value → State → Outcome → State → Prop} {free : Addr → Prop} {Ts : List Cond} {own : String} {As rest : List Value} {g : JFrame}
    (S : CallFix p m c cc nL s args Ts own) (hM : Met l y ws rm Pc Qc mc ms free) (cw : vx_CSW R s args own index y bytes maxL ret hh ws rm mc ms n) (hp : PreS s H Pc As)
    (hg : g.method = m) (hn : As.length = n) (hsize : g.locals.size = nL) (hstack : g.stack = As.reverse ++ rest) (hW : 2 * g.monitorRoom + (rest.map fun v => v.category).sum ≤ 8) (hdg : decode cc g.pc = .ok (.invokestatic index, 3)) (hf : cells + mc ≤ R.cells ∧ slots + ms ≤ R.slots) :
    va_Run p l e R s m args below meth c H locs cells slots mc ms g rest (Qc As.toArray) (free) := by
  obtain ⟨⟨hrc, hrs, hfr, hlo, hws, hcw⟩, hcode, hini, hy, hlen, hl, hstt⟩ := cw
  have hK : Back l R p e below s args y 3 8 (PreOf R mc ms Pc) (PostOf Qc mc ms free) := va_backW (hh := hh) (bytes := bytes) (maxL := maxL) (ret := ret) hM hp.1 hrc hrs hfr hlo hws hcw (fun a' U hW => word_at hW (Or.inl (by first | rfl | simp [Cond.onTables, Cond.keeps, Cond.steady])) hini)
  obtain ⟨hx, hb, hml, ho, -⟩ := S
  intro T hT X
  obtain ⟨v, vm₁, ⟨U', l2, c2, s2⟩, hW₁, X', ⟨g', mk, t, L, e1, e2, hq, h1, hL, h2, h3⟩, st⟩ := vx_callSW X hx (hh := hh) (bytes := bytes) (maxL := maxL) (ret := ret) ho hl hstt hini hcode hy hK hg (hsize.trans hml.symm) (argsL := As) (rest := rest) (fun sig h => hn.trans (hlen sig h)) hstack hW (by rw [hb]; exact hdg)
    (fun vm₁ hW₁ => ⟨hf.1, hf.2, hp.2 (T.setVm vm₁) hT hW₁⟩)
  dsimp only [Pt.U, Pt.locs, Pt.cells, Pt.slots] at X' e1 e2 h1 h2 h3 st
  subst h1; subst h2; subst h3
  exact ⟨v, (T.setVm vm₁).calling g' mk As.toArray, t, U', L, hT, X', hL, e1, e2, hq, st⟩
/-- a thing of a world lies in the heap -/
theorem vx_lt {D : va_G} {cl : List vw_C} {ws : va_W} {H1 : Heap} (h : va_P D cl ws H1) {k : Nat} {q : Nat × va_E} (hk : ws[k]? = some q) : q.1 < H1.size := (h k q hk).lt
end VXS
/-! ===== END ===== -/
/-! ===== BEGIN methods with a table of their own: called by a name, returning or throwing ===== -/
section VXH
/-! vx_backW, vx_callVX, vx_callSX, vx_callVW, vx_runVW, vx_runVX, vx_runSX, vx_ofWH follow the same proofs as their sisters above (Free/Laws.lean, Shelf42/LK1.lean); vx_outP calls Shelf42/NT130.lean (outThrough). -/
section
variable {l : Launch} {R : Room} {p : Program} {e : Env} {below : List Frame} {s : State} {sargs : Array Value} {y : MethodName} {len W9 : Nat}
theorem vx_backW {ws : List Cond} {rm : Room} {Pc : Array Value → State → Prop} {Qc : Array Value → State → Outcome → State → Prop} {XC : String → State → State → Prop} {mc ms : Nat} {free : Addr → Prop} {bytes : ByteArray} {maxL : Nat} {ret : Option FieldType} {hh : List (Nat × Nat × Nat × Nat)}
    (hM : vx_Met l y ws rm Pc Qc XC mc ms free) (hblind : FrameBlind Pc) (hrc : rm.cells = mc) (hrs : rm.slots = ms)
    (hframes : rm.frames + 1 ≤ R.frames) (hlocals : W9 + (maxL + 11) + rm.locals ≤ R.locals)
    (hws : ∀ w ∈ ws, ∀ a' U, s.WarmedH U.vm → w.before a' U = true) (hcode : Cond.codeWith y bytes maxL ret hh ∈ ws) (hinit : ∀ a' U, s.WarmedH U.vm → (Cond.initialized y.cls).before a' U = true) :
    vx_Back l R p e below s sargs y len W9 (PreOf R mc ms Pc) (PostOf Qc mc ms free) (vx_Post XC mc ms free) := by
  intro m meth c A g ig mk a X hg hsize hdg hW hn hp
  have h1 : (headSpec ws rm).pre.before a A.U = true := atoms_intro fun w hw => hws w hw _ _ X.warmed
  have h2 : (Cond.codeWith y bytes maxL ret hh).before a A.U = true := hws _ hcode _ _ X.warmed
  have h3 : (Cond.initialized y.cls).before a A.U = true := hinit _ _ X.warmed
  have h4 : A.cells + (headSpec ws rm).room.cells ≤ R.cells := by rw [show (headSpec ws rm).room.cells = mc from hrc]; exact hp.1
  have h5 : A.slots + (headSpec ws rm).room.slots ≤ R.slots := by rw [show (headSpec ws rm).room.slots = ms from hrs]; exact hp.2.1
  have hPc : Pc a (A.U.calling g mk a) := hblind _ _ _ _ hp.2.2
  obtain ⟨U, Ls, c0, s0⟩ := A
  dsimp only [Pt.U, Pt.locs, Pt.cells, Pt.slots] at h1 h2 h3 h4 h5 X hn hPc ⊢
  obtain ⟨m9, methY, cY, hn9, hmY, hcY, -, hlY, -⟩ := Cond.codeWith_spec h2
  cases Option.some.inj (hn9.symm.trans hn)
  obtain ⟨kY, hkY, -⟩ := className_of_methodNamed hn
  have hinitY : kY.init = .initialized := Cond.initialized_spec (findClass_of_methodNamed hn) hkY h3
  have h : At U g.method c below := by rw [hg]; exact X.here
  have hlocals9 : W9 + (maxL + 11) + (headSpec ws rm).room.locals ≤ R.locals := hlocals
  have happ : (headSpec ws rm).appliesLoose y e.platform (U.calling g mk a) = true :=
    Spec.appliesLoose_calling (g := g) h hdg hn hkY hinitY
      (X.room_calling (g := g) (R' := (headSpec ws rm).room) hsize hmY hcY hframes (by rw [hlY]; omega) h4 h5) h1
  obtain ⟨mid, hmid⟩ := h.above
  have hfr : (U.setTop g).frames = (.java g :: mid) ++ below := by rw [State.frames_setTop' g h.top, hmid]; rfl
  obtain ⟨o, s₂, hsteps, -, hend, hq⟩ := Steps.callFree hM p X.admits X.cas X.clock (acts := []) hfr happ hPc trivial
  have hq' : vx_Q Qc XC mc ms free a (U.calling g mk a) o s₂ := hq
  rw [State.frames_setTop' g h.top] at hend
  obtain ⟨g₀, hg0⟩ := Option.isSome_iff_exists.mp h.top
  obtain ⟨r, hr⟩ := State.topJava?_eq_some.mp hg0
  have hr' : (({ U with heap := s₂.heap, slotsUsed := s₂.slotsUsed } : State).setVm s₂.vm).frames = .java g₀ :: r := hr
  rcases hq' with ⟨hqc, L, hfe, hL⟩ | ⟨q, rfl, E, ce, L, hx, hce, hcv, hcl, hW₂, hsm, hL⟩
  · obtain ⟨⟨v, rfl⟩, hW₂, e2, q2, q3, q4, q5, q6⟩ := id hfe
    have e3 : s₂ = ({ (U.calling g mk a).setFrames s₂.frames with heap := s₂.heap, slotsUsed := s₂.slotsUsed } : State).setVm s₂.vm := by
      have : s₂ = ({ s₂ with vm := (U.calling g mk a).vm } : State).setVm s₂.vm := rfl
      rw [e2] at this
      exact this
    obtain ⟨c₂, i₂, len₂, hc₂, hd₂, hf₂⟩ := hend
    have hW' : U.WarmedH s₂.vm := hW₂
    have hcc : c₂ = c := by
      have h1 : s₂.code? g.method = U.code? g.method := by
        rw [State.code?_eq, State.code?_eq, hW'.alike.method?]
      exact Option.some.inj (hc₂.symm.trans (h1.trans h.code))
    subst hcc
    have hlen : len₂ = len := by rw [hdg] at hd₂; cases hd₂; rfl
    subst hlen
    have hs₂ : s₂ = (({ U with heap := s₂.heap, slotsUsed := s₂.slotsUsed } : State).setVm s₂.vm).setTop { g with pc := g.pc + len₂, stack := v.toList ++ g.stack } := by
      refine e3.trans ?_
      rw [hf₂, State.calling_eq h.top, State.setFrames_setFrames, State.setTop_of_frames _ hr', hr]
      rfl
    have hsame : U.sameButNew ({ U with heap := s₂.heap, slotsUsed := s₂.slotsUsed } : State) L mc ms := by
      refine ⟨?_, q2, q3, q4, q5, q6⟩
      obtain ⟨t, ht, -⟩ := State.frames_cons hr
      show ({ U with heap := s₂.heap, slotsUsed := s₂.slotsUsed } : State) = { U.setFrames U.frames with heap := s₂.heap, slotsUsed := s₂.slotsUsed }
      rw [State.setFrames_self ht]
    subst hg
    refine Or.inl ⟨v, ⟨(({ U with heap := s₂.heap, slotsUsed := s₂.slotsUsed } : State).setVm s₂.vm), Ls ++ L, c0 + mc, s0 + ms⟩,
      ⟨X.admits, X.cas, X.clock, X.frames, X.room, X.hears, X.method, X.code, (X.here.setHeapUsed s₂.heap s₂.slotsUsed).setVm hW'.alike, X.tail, State.WarmedH.trans X.warmed hW', X.limits, X.bytes, X.same.trans (hsame.setVm s.vm)⟩,
      ⟨g, mk, s₂, L, rfl, rfl, hqc, rfl, hL, rfl, rfl⟩, ?_⟩
    show Steps p.tables e below _ ((({ U with heap := s₂.heap, slotsUsed := s₂.slotsUsed } : State).setVm s₂.vm).setTop { g with pc := g.pc + len₂, stack := v.toList ++ g.stack })
    rw [← hs₂]
    exact hsteps
  · obtain ⟨e2, q2, q3, q4, q5, q6⟩ := id hsm
    have e3 : s₂ = ({ (U.calling g mk a).setFrames s₂.frames with heap := s₂.heap, slotsUsed := s₂.slotsUsed } : State).setVm s₂.vm := by
      have : s₂ = ({ s₂ with vm := (U.calling g mk a).vm } : State).setVm s₂.vm := rfl
      rw [e2] at this
      exact this
    have hf₂ : s₂.frames = .throwing q :: .java g :: U.frames.tail := hend
    have hW' : U.WarmedH s₂.vm := hW₂
    have hs₂ : s₂ = ((({ U with heap := s₂.heap, slotsUsed := s₂.slotsUsed } : State).setVm s₂.vm).setTop g).pushFrame (.throwing q) := by
      refine e3.trans ?_
      rw [hf₂, State.calling_eq h.top, State.setFrames_setFrames, State.pushFrame, State.frames_setTop _ hr', State.setTop_of_frames _ hr', State.setFrames_setFrames, hr]
      rfl
    have hsame : U.sameButNew ({ U with heap := s₂.heap, slotsUsed := s₂.slotsUsed } : State) L mc ms := by
      refine ⟨?_, q2, q3, q4, q5, q6⟩
      obtain ⟨t, ht, -⟩ := State.frames_cons hr
      show ({ U with heap := s₂.heap, slotsUsed := s₂.slotsUsed } : State) = { U.setFrames U.frames with heap := s₂.heap, slotsUsed := s₂.slotsUsed }
      rw [State.setFrames_self ht]
    subst hg
    refine Or.inr ⟨q, ⟨(({ U with heap := s₂.heap, slotsUsed := s₂.slotsUsed } : State).setVm s₂.vm), Ls ++ L, c0 + mc, s0 + ms⟩,
      ⟨X.admits, X.cas, X.clock, X.frames, X.room, X.hears, X.method, X.code, (X.here.setHeapUsed s₂.heap s₂.slotsUsed).setVm hW'.alike, X.tail, State.WarmedH.trans X.warmed hW', X.limits, X.bytes, X.same.trans (hsame.setVm s.vm)⟩,
      ⟨g, mk, s₂, L, E, ce, rfl, rfl, hx, hce, hcv, hcl, rfl, hL, rfl, rfl⟩, ?_⟩
    show Steps p.tables e below _ (((({ U with heap := s₂.heap, slotsUsed := s₂.slotsUsed } : State).setVm s₂.vm).setTop g).pushFrame (.throwing q))
    rw [← hs₂]
    exact hsteps
end
variable {p : Program} {l : Launch} {e : Env} {R : Room} {s : State} {m : MethodId} {args : Array Value} {below : List Frame} {meth : Method} {c : Code} {T : State} {H : Heap} {locs : List Loc} {cells slots : Nat}
theorem vx_callVX (X : Stand p l e R s m args below meth c T locs cells slots) (hexec : p.tables.exec = Jvm.exec) {own C : String} {index : Nat} {y : MethodName} {bytes : ByteArray} {maxL : Nat} {ret : Option FieldType} {hh : List (Nat × Nat × Nat × Nat)}
    (hown : s.vm.findClass own = some m.cls) (hlink : (Cond.methodLink own index y).before args s = true) (hinst : (Cond.instanceMethod y).before args s = true) (hsel : (Cond.selects C y y).before args s = true)
    (hcode : (Cond.codeWith y bytes maxL ret hh).before args s = true) (hy : y.cls ≠ "java/lang/invoke/MethodHandle" ∧ y.cls ≠ "java/lang/invoke/VarHandle")
    {W9 : Nat} {Pre : Pt → Array Value → Prop} {Post : Pt → Array Value → Option Value → Pt → Prop} {PostX : Pt → Array Value → Addr → Pt → Prop} (hK : vx_Back l R p e below s args y 3 W9 Pre Post PostX)
    {b : Addr} {cellB : Cell} (hcell : T.heap[b]? = some cellB) (hobj : cellB.vm.isStatics = false) (hcls : s.vm.findClass C = some cellB.cls)
    {g : JFrame} (hg : g.method = m) (hsize : g.locals.size = c.maxLocals) {argsL rest : List Value} (hlen : ∀ sig, parseMethodDescriptor y.desc = some sig → argsL.length = sig.parameters.length)
    (hstack : g.stack = argsL.reverse ++ .ref b :: rest) (hW : 2 * g.monitorRoom + (rest.map fun v => v.category).sum ≤ W9) (hdg : decode c.code g.pc = .ok (.invokevirtual index, 3))
    (hpre : ∀ vm₁, s.WarmedH vm₁ → Pre ⟨T.setVm vm₁, locs, cells, slots⟩ (Value.ref b :: argsL).toArray) :
    (∃ (v : Option Value) (vm₁ : Vm) (B : Pt), s.WarmedH vm₁ ∧ Stand p l e R s m args below meth c B.U B.locs B.cells B.slots ∧ Post ⟨T.setVm vm₁, locs, cells, slots⟩ (Value.ref b :: argsL).toArray v B ∧
      ∀ target, Steps p.tables e below (B.U.setTop { g with pc := g.pc + 3, stack := v.toList ++ rest }) target → Steps p.tables e below (T.setTop g) target) ∨
    (∃ (q : Addr) (vm₁ : Vm) (B : Pt), s.WarmedH vm₁ ∧ Stand p l e R s m args below meth c B.U B.locs B.cells B.slots ∧ PostX ⟨T.setVm vm₁, locs, cells, slots⟩ (Value.ref b :: argsL).toArray q B ∧
      Steps p.tables e below (T.setTop g) ((B.U.setTop { g with stack := rest }).pushFrame (.throwing q))) := by
  obtain ⟨mk, methM, hnamed, hmethM, hstM, habM⟩ := Cond.instanceMethod_spec hinst
  obtain ⟨m8, methM', cM, hn8, hmethM', -, -, -, -, -, -, hsigM⟩ := Cond.codeWith_spec hcode
  cases Option.some.inj (hn8.symm.trans hnamed)
  cases hmethM.symm.trans hmethM'
  obtain ⟨c2, r2, m2, q1, q2, q3, q4, kP, hkP, hkPi⟩ := Cond.selects_spec hsel
  cases hcls.symm.trans q1
  cases (State.methodFound?_of_named hnamed hy).symm.trans q2
  cases hnamed.symm.trans q3
  have hselP : selectMethod e.platform s.vm cellB.cls mk = .method mk := by rw [Launch.admits_selectMethod X.admits]; exact q4
  obtain ⟨vm₁, X₁, hstep₁⟩ := X.invokevirtual hexec hown hlink hnamed hmethM hstM hkP hkPi hy (a := b) (cell := cellB) hcell
    (fun z h => by rw [h] at hobj; cases hobj) hselP hmethM habM hkP hkPi (g := g) hg (argsL := argsL) (rest := rest) (hlen _ hsigM) hstack hdg
  rcases hK m meth c ⟨T.setVm vm₁, locs, cells, slots⟩ { g with stack := rest } (.invokevirtual index) mk (Value.ref b :: argsL).toArray X₁ hg hsize hdg hW (X₁.named hnamed) (hpre vm₁ X₁.warmed) with ⟨v, B, X', hpost, hsteps⟩ | ⟨q, B, X', hpost, hsteps⟩
  · exact Or.inl ⟨v, vm₁, B, X₁.warmed, X', hpost, fun target h => hstep₁ _ fun acts => by rw [doInvoke_state]; exact hsteps.trans h⟩
  · exact Or.inr ⟨q, vm₁, B, X₁.warmed, X', hpost, hstep₁ _ fun acts => by rw [doInvoke_state]; exact hsteps⟩
theorem vx_callSX (X : Stand p l e R s m args below meth c T locs cells slots) (hexec : p.tables.exec = Jvm.exec) {own : String} {index : Nat} {y : MethodName} {bytes : ByteArray} {maxL : Nat} {ret : Option FieldType} {hh : List (Nat × Nat × Nat × Nat)}
    (hown : s.vm.findClass own = some m.cls) (hlink : (Cond.methodLink own index y).before args s = true) (hstat : (Cond.static y).before args s = true) (hinit : (Cond.initialized y.cls).before args s = true)
    (hcode : (Cond.codeWith y bytes maxL ret hh).before args s = true) (hy : y.cls ≠ "java/lang/invoke/MethodHandle" ∧ y.cls ≠ "java/lang/invoke/VarHandle")
    {W9 : Nat} {Pre : Pt → Array Value → Prop} {Post : Pt → Array Value → Option Value → Pt → Prop} {PostX : Pt → Array Value → Addr → Pt → Prop} (hK : vx_Back l R p e below s args y 3 W9 Pre Post PostX)
    {g : JFrame} (hg : g.method = m) (hsize : g.locals.size = c.maxLocals) {argsL rest : List Value} (hlen : ∀ sig, parseMethodDescriptor y.desc = some sig → argsL.length = sig.parameters.length)
    (hstack : g.stack = argsL.reverse ++ rest) (hW : 2 * g.monitorRoom + (rest.map fun v => v.category).sum ≤ W9) (hdg : decode c.code g.pc = .ok (.invokestatic index, 3))
    (hpre : ∀ vm₁, s.WarmedH vm₁ → Pre ⟨T.setVm vm₁, locs, cells, slots⟩ argsL.toArray) :
    (∃ (v : Option Value) (vm₁ : Vm) (B : Pt), s.WarmedH vm₁ ∧ Stand p l e R s m args below meth c B.U B.locs B.cells B.slots ∧ Post ⟨T.setVm vm₁, locs, cells, slots⟩ argsL.toArray v B ∧
      ∀ target, Steps p.tables e below (B.U.setTop { g with pc := g.pc + 3, stack := v.toList ++ rest }) target → Steps p.tables e below (T.setTop g) target) ∨
    (∃ (q : Addr) (vm₁ : Vm) (B : Pt), s.WarmedH vm₁ ∧ Stand p l e R s m args below meth c B.U B.locs B.cells B.slots ∧ PostX ⟨T.setVm vm₁, locs, cells, slots⟩ argsL.toArray q B ∧
      Steps p.tables e below (T.setTop g) ((B.U.setTop { g with stack := rest }).pushFrame (.throwing q))) := by
  obtain ⟨mk, methM, cM, hnamed, hmethM, -, -, -, -, -, -, hsigM⟩ := Cond.codeWith_spec hcode
  have hstatic : methM.isStatic = true := Cond.static_spec hnamed hmethM hstat
  obtain ⟨kP, hkP, -⟩ := className_of_methodNamed hnamed
  have hinitP : kP.init = .initialized := Cond.initialized_spec (findClass_of_methodNamed hnamed) hkP hinit
  obtain ⟨vm₁, X₁, hstep₁⟩ := X.invokestatic hexec hown hlink hnamed hmethM hstatic hkP hinitP hy (g := g) hg (argsL := argsL) (rest := rest) (hlen _ hsigM) hstack hdg
  rcases hK m meth c ⟨T.setVm vm₁, locs, cells, slots⟩ { g with stack := rest } (.invokestatic index) mk argsL.toArray X₁ hg hsize hdg hW (X₁.named hnamed) (hpre vm₁ X₁.warmed) with ⟨v, B, X', hpost, hsteps⟩ | ⟨q, B, X', hpost, hsteps⟩
  · exact Or.inl ⟨v, vm₁, B, X₁.warmed, X', hpost, fun target h => hstep₁ _ fun acts => by rw [doInvoke_state]; exact hsteps.trans h⟩
  · exact Or.inr ⟨q, vm₁, B, X₁.warmed, X', hpost, hstep₁ _ fun acts => by rw [doInvoke_state]; exact hsteps⟩
theorem vx_callVW (X : Stand p l e R s m args below meth c T locs cells slots) (hexec : p.tables.exec = Jvm.exec) {own C : String} {index : Nat} {y : MethodName} {bytes : ByteArray} {maxL : Nat} {ret : Option FieldType} {hh : List (Nat × Nat × Nat × Nat)}
    (hown : s.vm.findClass own = some m.cls) (hlink : (Cond.methodLink own index y).before args s = true) (hinst : (Cond.instanceMethod y).before args s = true) (hsel : (Cond.selects C y y).before args s = true)
    (hcode : (Cond.codeWith y bytes maxL ret hh).before args s = true) (hy : y.cls ≠ "java/lang/invoke/MethodHandle" ∧ y.cls ≠ "java/lang/invoke/VarHandle")
    {W9 : Nat} {Pre : Pt → Array Value → Prop} {Post : Pt → Array Value → Option Value → Pt → Prop} (hK : Back l R p e below s args y 3 W9 Pre Post)
    {b : Addr} {cellB : Cell} (hcell : T.heap[b]? = some cellB) (hobj : cellB.vm.isStatics = false) (hcls : s.vm.findClass C = some cellB.cls)
    {g : JFrame} (hg : g.method = m) (hsize : g.locals.size = c.maxLocals) {argsL rest : List Value} (hlen : ∀ sig, parseMethodDescriptor y.desc = some sig → argsL.length = sig.parameters.length)
    (hstack : g.stack = argsL.reverse ++ .ref b :: rest) (hW : 2 * g.monitorRoom + (rest.map fun v => v.category).sum ≤ W9) (hdg : decode c.code g.pc = .ok (.invokevirtual index, 3))
    (hpre : ∀ vm₁, s.WarmedH vm₁ → Pre ⟨T.setVm vm₁, locs, cells, slots⟩ (Value.ref b :: argsL).toArray) :
    ∃ (v : Option Value) (vm₁ : Vm) (B : Pt), s.WarmedH vm₁ ∧ Stand p l e R s m args below meth c B.U B.locs B.cells B.slots ∧ Post ⟨T.setVm vm₁, locs, cells, slots⟩ (Value.ref b :: argsL).toArray v B ∧
      ∀ target, Steps p.tables e below (B.U.setTop { g with pc := g.pc + 3, stack := v.toList ++ rest }) target → Steps p.tables e below (T.setTop g) target := by
  obtain ⟨mk, methM, hnamed, hmethM, hstM, habM⟩ := Cond.instanceMethod_spec hinst
  obtain ⟨m8, methM', cM, hn8, hmethM', -, -, -, -, -, -, hsigM⟩ := Cond.codeWith_spec hcode
  cases Option.some.inj (hn8.symm.trans hnamed)
  cases hmethM.symm.trans hmethM'
  obtain ⟨c2, r2, m2, q1, q2, q3, q4, kP, hkP, hkPi⟩ := Cond.selects_spec hsel
  cases hcls.symm.trans q1
  cases (State.methodFound?_of_named hnamed hy).symm.trans q2
  cases hnamed.symm.trans q3
  have hselP : selectMethod e.platform s.vm cellB.cls mk = .method mk := by rw [Launch.admits_selectMethod X.admits]; exact q4
  obtain ⟨vm₁, X₁, hstep₁⟩ := X.invokevirtual hexec hown hlink hnamed hmethM hstM hkP hkPi hy (a := b) (cell := cellB) hcell
    (fun z h => by rw [h] at hobj; cases hobj) hselP hmethM habM hkP hkPi (g := g) hg (argsL := argsL) (rest := rest) (hlen _ hsigM) hstack hdg
  obtain ⟨v, B, X', hpost, hsteps⟩ := hK m meth c ⟨T.setVm vm₁, locs, cells, slots⟩ { g with stack := rest } (.invokevirtual index) mk (Value.ref b :: argsL).toArray X₁ hg hsize hdg hW (X₁.named hnamed) (hpre vm₁ X₁.warmed)
  exact ⟨v, vm₁, B, X₁.warmed, X', hpost, fun target h => hstep₁ _ fun acts => by rw [doInvoke_state]; exact hsteps.trans h⟩
abbrev vx_CVW (R : Room) (s : State) (args : Array Value) (own C : String) (index : Nat) (y : MethodName) (bytes : ByteArray) (maxL : Nat) (ret : Option FieldType) (hh : List (Nat × Nat × Nat × Nat)) (ws : List Cond) (rm : Room) (mc ms n : Nat) : Prop :=
  (rm.cells = mc ∧ rm.slots = ms ∧ rm.frames + 1 ≤ R.frames ∧ 8 + (maxL + 11) + rm.locals ≤ R.locals ∧ (∀ w ∈ ws, ∀ (a' : Array Value) (U : State), s.WarmedH U.vm → w.before a' U = true) ∧ Cond.codeWith y bytes maxL ret hh ∈ ws) ∧
  (Cond.codeWith y bytes maxL ret hh).before args s = true ∧ (Cond.initialized y.cls).before args s = true ∧ (y.cls ≠ "java/lang/invoke/MethodHandle" ∧ y.cls ≠ "java/lang/invoke/VarHandle") ∧
  (∀ sig, parseMethodDescriptor y.desc = some sig → n = sig.parameters.length) ∧ (Cond.methodLink own index y).before args s = true ∧ (Cond.instanceMethod y).before args s = true ∧ (Cond.selects C y y).before args s = true
theorem vx_cwVW {own C : String} {index maxL mc ms : Nat} {y : MethodName} {bytes : ByteArray} {ret : Option FieldType} {hh : List (Nat × Nat × Nat × Nat)} {Ts ws ws' : List Cond} {rm : Room} (n : Nat) (ht : ∀ w ∈ Ts, w.before args s = true) (hT : GoodIn Ts (wsV own index C y ws)) (hw : ws = Cond.codeWith y bytes maxL ret hh :: ws') (hrc : rm.cells = mc) (hrs : rm.slots = ms)
    (hd : y.cls = C ∧ y.cls ≠ "java/lang/invoke/MethodHandle" ∧ y.cls ≠ "java/lang/invoke/VarHandle" ∧ (parseMethodDescriptor y.desc).map (fun d => d.parameters.length) = some n) (hR : rm.frames + 1 ≤ R.frames ∧ 8 + (maxL + 11) + rm.locals ≤ R.locals) :
    vx_CVW R s args own C index y bytes maxL ret hh ws rm mc ms n := by
  obtain ⟨hC, hd⟩ := hd
  subst hC
  have ok : ∀ w ∈ wsV own index y.cls y ws, w.before args s = true := fun w h => ht w (hT w h).1
  have hG : GoodIn Ts ws := fun w h => hT w (by unfold wsV; exact List.mem_append_right _ h)
  have hc : Cond.codeWith y bytes maxL ret hh ∈ ws := by rw [hw]; exact List.mem_cons_self
  refine ⟨⟨hrc, hrs, hR.1, hR.2, pay_in ht hG, hc⟩, ht _ (hG _ hc).1, ok _ (by simp [wsV]), ⟨hd.1, hd.2.1⟩, fun sig h => ?_, ok _ (by simp [wsV]), ok _ (by simp [wsV]), ok _ (by simp [wsV])⟩
  have h2 := hd.2.2
  rw [h] at h2
  exact (Option.some.inj h2).symm
theorem vx_runVW {y : MethodName} {bytes cc : ByteArray} {maxL nL mc ms n index : Nat} {ret : Option FieldType} {hh : List (Nat × Nat × Nat × Nat)} {ws : List Cond} {rm : Room} {Pc : Array Value → State → Prop} {Qc : Array Value → State → Outcome → State → Prop} {free : Addr → Prop} {Ts : List Cond} {own C : String} {b : Addr} {As rest : List Value} {g : JFrame}
    (S : CallFix p m c cc nL s args Ts own) (hM : Met l y ws rm Pc Qc mc ms free) (cw : vx_CVW R s args own C index y bytes maxL ret hh ws rm mc ms n) (hp : PreV s H C b Pc As)
    (hg : g.method = m) (hn : As.length = n) (hsize : g.locals.size = nL) (hstack : g.stack = As.reverse ++ .ref b :: rest) (hW : 2 * g.monitorRoom + (rest.map fun v => v.category).sum ≤ 8) (hdg : decode cc g.pc = .ok (.invokevirtual index, 3)) (hf : cells + mc ≤ R.cells ∧ slots + ms ≤ R.slots) :
    va_Run p l e R s m args below meth c H locs cells slots mc ms g rest (Qc (Value.ref b :: As).toArray) free := by
  obtain ⟨⟨hrc, hrs, hfr, hlo, hws, hcw⟩, hcode, hini, hy, hlen, hl, hin, hse⟩ := cw
  have hK : Back l R p e below s args y 3 8 (PreOf R mc ms Pc) (PostOf Qc mc ms free) := va_backW (hh := hh) (bytes := bytes) (maxL := maxL) (ret := ret) hM hp.1 hrc hrs hfr hlo hws hcw (fun a' U hW => word_at hW (Or.inl (by first | rfl | simp [Cond.onTables, Cond.keeps, Cond.steady])) hini)
  obtain ⟨hx, hb, hml, ho, -⟩ := S
  obtain ⟨-, ⟨cellB, hcB, hoB, hclB⟩, hPc⟩ := hp
  intro T hT X
  obtain ⟨v, vm₁, ⟨U', l2, c2, s2⟩, hW₁, X', ⟨g', mk, t, L, e1, e2, hq, h1, hL, h2, h3⟩, st⟩ := vx_callVW X hx (C := C) (hh := hh) (bytes := bytes) (maxL := maxL) (ret := ret) ho hl hin hse hcode hy hK (by rw [hT]; exact hcB) hoB hclB hg (hsize.trans hml.symm) (argsL := As) (rest := rest) (fun sig h => hn.trans (hlen sig h)) hstack hW (by rw [hb]; exact hdg)
    (fun vm₁ hW₁ => ⟨hf.1, hf.2, hPc (T.setVm vm₁) hT hW₁⟩)
  dsimp only [Pt.U, Pt.locs, Pt.cells, Pt.slots] at X' e1 e2 h1 h2 h3 st
  subst h1; subst h2; subst h3
  exact ⟨v, (T.setVm vm₁).calling g' mk (Value.ref b :: As).toArray, t, U', L, hT, X', hL, e1, e2, hq, st⟩
section
variable {y : MethodName} {bytes cc : ByteArray} {maxL nL mc ms n index : Nat} {ret : Option FieldType} {ws : List Cond} {rm : Room} {Pc : Array Value → State → Prop} {Qc : Array Value → State → Outcome → State → Prop} {XC : String → State → State → Prop} {free : Addr → Prop} {Ts : List Cond} {own C : String} {b : Addr} {As rest : List Value} {g : JFrame}
theorem vx_runVX {hh : List (Nat × Nat × Nat × Nat)} (S : CallFix p m c cc nL s args Ts own) (hM : vx_Met l y ws rm Pc Qc XC mc ms free) (cw : vx_CVW R s args own C index y bytes maxL ret hh ws rm mc ms n) (hp : PreV s H C b Pc As)
    (hg : g.method = m) (hn : As.length = n) (hsize : g.locals.size = nL) (hstack : g.stack = As.reverse ++ .ref b :: rest) (hW : 2 * g.monitorRoom + (rest.map fun v => v.category).sum ≤ 8) (hdg : decode cc g.pc = .ok (.invokevirtual index, 3)) (hf : cells + mc ≤ R.cells ∧ slots + ms ≤ R.slots) :
    vx_Run p l e R s m args below meth c H locs cells slots mc ms g rest (Qc (Value.ref b :: As).toArray) XC free := by
  obtain ⟨⟨hrc, hrs, hfr, hlo, hws, hcw⟩, hcode, hini, hy, hlen, hl, hin, hse⟩ := cw
  have hK : vx_Back l R p e below s args y 3 8 (PreOf R mc ms Pc) (PostOf Qc mc ms free) (vx_Post XC mc ms free) := vx_backW (hh := hh) (bytes := bytes) (maxL := maxL) (ret := ret) hM hp.1 hrc hrs hfr hlo hws hcw (fun a' U hW => word_at hW (Or.inl (by first | rfl | simp [Cond.onTables, Cond.keeps, Cond.steady])) hini)
  obtain ⟨hx, hb, hml, ho, -⟩ := S
  obtain ⟨-, ⟨cellB, hcB, hoB, hclB⟩, hPc⟩ := hp
  intro T hT X
  rcases vx_callVX X hx (C := C) (hh := hh) (bytes := bytes) (maxL := maxL) (ret := ret) ho hl hin hse hcode hy hK (by rw [hT]; exact hcB) hoB hclB hg (hsize.trans hml.symm) (argsL := As) (rest := rest) (fun sig h => hn.trans (hlen sig h)) hstack hW (by rw [hb]; exact hdg)
    (fun vm₁ hW₁ => ⟨hf.1, hf.2, hPc (T.setVm vm₁) hT hW₁⟩) with ⟨v, vm₁, ⟨U', l2, c2, s2⟩, hW₁, X', ⟨g', mk, t, L, e1, e2, hq, h1, hL, h2, h3⟩, st⟩ | ⟨q, vm₁, ⟨U', l2, c2, s2⟩, hW₁, X', ⟨g', mk, t, L, E, ce, e1, e2, hq, hce, hcv, hcl, h1, hL, h2, h3⟩, st⟩
  · dsimp only [Pt.U, Pt.locs, Pt.cells, Pt.slots] at X' e1 e2 h1 h2 h3 st
    subst h1; subst h2; subst h3
    exact Or.inl ⟨v, (T.setVm vm₁).calling g' mk (Value.ref b :: As).toArray, t, U', L, hT, X', hL, e1, e2, hq, st⟩
  · dsimp only [Pt.U, Pt.locs, Pt.cells, Pt.slots] at X' e1 e2 h1 h2 h3 st hcl
    subst h1; subst h2; subst h3
    exact Or.inr ⟨q, (T.setVm vm₁).calling g' mk (Value.ref b :: As).toArray, t, U', L, E, ce, hT, X', hL, e1, e2, hq, hce, hcv, vx_cls hW₁ hcl, st⟩
theorem vx_runSX {hh : List (Nat × Nat × Nat × Nat)} (S : CallFix p m c cc nL s args Ts own) (hM : vx_Met l y ws rm Pc Qc XC mc ms free) (cw : vx_CSW R s args own index y bytes maxL ret hh ws rm mc ms n) (hp : PreS s H Pc As)
    (hg : g.method = m) (hn : As.length = n) (hsize : g.locals.size = nL) (hstack : g.stack = As.reverse ++ rest) (hW : 2 * g.monitorRoom + (rest.map fun v => v.category).sum ≤ 8) (hdg : decode cc g.pc = .ok (.invokestatic index, 3)) (hf : cells + mc ≤ R.cells ∧ slots + ms ≤ R.slots) :
    vx_Run p l e R s m args below meth c H locs cells slots mc ms g rest (Qc As.toArray) XC free := by
  obtain ⟨⟨hrc, hrs, hfr, hlo, hws, hcw⟩, hcode, hini, hy, hlen, hl, hstt⟩ := cw
  have hK : vx_Back l R p e below s args y 3 8 (PreOf R mc ms Pc) (PostOf Qc mc ms free) (vx_Post XC mc ms free) := vx_backW (hh := hh) (bytes := bytes) (maxL := maxL) (ret := ret) hM hp.1 hrc hrs hfr hlo hws hcw (fun a' U hW => word_at hW (Or.inl (by first | rfl | simp [Cond.onTables, Cond.keeps, Cond.steady])) hini)
  obtain ⟨hx, hb, hml, ho, -⟩ := S
  intro T hT X
  rcases vx_callSX X hx (hh := hh) (bytes := bytes) (maxL := maxL) (ret := ret) ho hl hstt hini hcode hy hK hg (hsize.trans hml.symm) (argsL := As) (rest := rest) (fun sig h => hn.trans (hlen sig h)) hstack hW (by rw [hb]; exact hdg)
    (fun vm₁ hW₁ => ⟨hf.1, hf.2, hp.2 (T.setVm vm₁) hT hW₁⟩) with ⟨v, vm₁, ⟨U', l2, c2, s2⟩, hW₁, X', ⟨g', mk, t, L, e1, e2, hq, h1, hL, h2, h3⟩, st⟩ | ⟨q, vm₁, ⟨U', l2, c2, s2⟩, hW₁, X', ⟨g', mk, t, L, E, ce, e1, e2, hq, hce, hcv, hcl, h1, hL, h2, h3⟩, st⟩
  · dsimp only [Pt.U, Pt.locs, Pt.cells, Pt.slots] at X' e1 e2 h1 h2 h3 st
    subst h1; subst h2; subst h3
    exact Or.inl ⟨v, (T.setVm vm₁).calling g' mk As.toArray, t, U', L, hT, X', hL, e1, e2, hq, st⟩
  · dsimp only [Pt.U, Pt.locs, Pt.cells, Pt.slots] at X' e1 e2 h1 h2 h3 st hcl
    subst h1; subst h2; subst h3
    exact Or.inr ⟨q, (T.setVm vm₁).calling g' mk As.toArray, t, U', L, E, ce, hT, X', hL, e1, e2, hq, hce, hcv, vx_cls hW₁ hcl, st⟩
end
end VXH
theorem vx_ofWH {l : Launch} {y : MethodName} {ws ws' : List Cond} {rm : Room} {Pc : Array Value → State → Prop} {Qc : Array Value → State → Outcome → State → Prop} {XC : String → State → State → Prop} {mc ms : Nat} {free : Addr → Prop} {cc : ByteArray} {maxL : Nat} {ret : Option FieldType} {hh : List (Nat × Nat × Nat × Nat)}
    (hy : plainName y.cls = true) (hw : ws = Cond.codeWith y cc maxL ret hh :: ws')
    (body : ∀ p e s m args below meth c s₁, BodyLoose p l y (headSpec ws rm) cc maxL ret e s m args below meth c s₁ → c.maxLocals = maxL → Pc args s →
      W p l e (headSpec ws rm).room s m args below meth c s.heap [] 0 0 (vx_MQ below Qc XC args s mc ms free) (entryFrame m args maxL)) : vx_Met l y ws rm Pc Qc XC mc ms free := by
  refine MetFree.of_bodyS (code := cc) (maxLocals := maxL) (ret := ret) hy ?_ ?_
  · intro args s m h hn
    obtain ⟨m9, meth, c, hn9, h1, h2, h3, h4, -, h5, h6, -⟩ := Cond.codeWith_spec (atoms_spec (ws := ws) h _ (by rw [hw]; exact List.mem_cons_self))
    cases hn.symm.trans hn9
    exact ⟨meth, c, h1, h2, h3, h4, h5, h6⟩
  · intro p e s m args below meth c s₁ B hml hP _
    have hh0 : s₁.heap = s.heap := by rw [B.state]; rfl
    obtain ⟨t, a1, o, b1, b2, b3⟩ := body p e s m args below meth c s₁ B hml hP s₁ hh0 (Stand.of_body B)
    exact ⟨t, o, a1, b1, b2, b3⟩
/-! ===== END ===== -/
end
section
def RX0 : String := "IssueHouse$Grant"
def TX0 : u_T := fun k => match k with
  | 0 => ("IssueHouse$Grant", "seat", "I", true)
  | 1 => ("IssueHouse$Grant", "first", "J", true)
  | _ => ("IssueHouse$Grant", "row", "LIssueHouse$Row;", true)
def tyX0 : Nat → FieldType := fun k => match k with
  | 0 => .int
  | 1 => .long
  | _ => .object "IssueHouse$Row"
theorem nmX0 : ∀ a, a < 3 → ∀ b, b < 3 → a ≠ b → (TX0 a).2.1 ≠ (TX0 b).2.1 := by decide +kernel
theorem tyX0_ok : ∀ k, k < 3 → parseFieldDescriptor (TX0 k).2.2.1 = some (tyX0 k) := by decide +kernel
abbrev cX0_init : ByteArray := prog_2_method_1_code
def yX0_init : MethodName := ⟨RX0, "<init>", "(IJLIssueHouse$Row;)V"⟩
def RX1 : String := "IssueHouse$Issuer"
def TX1 : u_T := fun k => match k with
  | 0 => ("IssueHouse$Issuer", "self", "I", true)
  | 1 => ("IssueHouse$Issuer", "unheld", "LIssueHouse$Row;", true)
  | 2 => ("IssueHouse$Issuer", "clock", "J", false)
  | 3 => ("IssueHouse$Issuer", "phase", "I", false)
  | 4 => ("IssueHouse$Issuer", "round", "I", false)
  | 5 => ("IssueHouse$Issuer", "leastRound", "I", false)
  | 6 => ("IssueHouse$Issuer", "ballot", "I", false)
  | 7 => ("IssueHouse$Issuer", "countedNodes", "I", false)
  | 8 => ("IssueHouse$Issuer", "seen", "[LIssueHouse$Row;", true)
  | 9 => ("IssueHouse$Issuer", "wished", "LIssueHouse$Grant;", false)
  | 10 => ("IssueHouse$Issuer", "failed", "I", false)
  | 11 => ("IssueHouse$Issuer", "held", "LIssueHouse$Grant;", false)
  | 12 => ("IssueHouse$Issuer", "lastTime", "J", false)
  | 13 => ("IssueHouse$Issuer", "lastCounter", "I", false)
  | _ => ("IssueHouse$Issuer", "given", "J", false)
def tyX1 : Nat → FieldType := fun k => match k with
  | 0 => .int
  | 1 => .object "IssueHouse$Row"
  | 2 => .long
  | 3 => .int
  | 4 => .int
  | 5 => .int
  | 6 => .int
  | 7 => .int
  | 8 => .array (.object "IssueHouse$Row")
  | 9 => .object "IssueHouse$Grant"
  | 10 => .int
  | 11 => .object "IssueHouse$Grant"
  | 12 => .long
  | 13 => .int
  | _ => .long
theorem nmX1 : ∀ a, a < 15 → ∀ b, b < 15 → a ≠ b → (TX1 a).2.1 ≠ (TX1 b).2.1 := by decide +kernel
theorem tyX1_ok : ∀ k, k < 15 → parseFieldDescriptor (TX1 k).2.2.1 = some (tyX1 k) := by decide +kernel
abbrev cX1_init : ByteArray := prog_3_method_1_code
def yX1_init : MethodName := ⟨RX1, "<init>", "(ILIssueHouse$Row;)V"⟩
abbrev cX1_isReady : ByteArray := prog_3_method_2_code
def yX1_isReady : MethodName := ⟨RX1, "isReady", "()Z"⟩
abbrev cX1_prepare : ByteArray := prog_3_method_3_code
def yX1_prepare : MethodName := ⟨RX1, "prepare", "()V"⟩
abbrev cX1_accept : ByteArray := prog_3_method_4_code
def yX1_accept : MethodName := ⟨RX1, "accept", "(LIssueHouse$Grant;)V"⟩
abbrev cX1_fail : ByteArray := prog_3_method_5_code
def yX1_fail : MethodName := ⟨RX1, "fail", "()V"⟩
abbrev cX1_breakDown : ByteArray := prog_3_method_6_code
def yX1_breakDown : MethodName := ⟨RX1, "breakDown", "()V"⟩
abbrev cX1_hold : ByteArray := prog_3_method_7_code
def yX1_hold : MethodName := ⟨RX1, "hold", "(LIssueHouse$Grant;)V"⟩
abbrev cX1_isDecidedBy : ByteArray := prog_3_method_8_code
def yX1_isDecidedBy : MethodName := ⟨RX1, "isDecidedBy", "(LIssueHouse$Letter;)Z"⟩
abbrev cX1_receive : ByteArray := prog_3_method_9_code
def yX1_receive : MethodName := ⟨RX1, "receive", "(LIssueHouse$Letter;)V"⟩
abbrev cX1_counts : ByteArray := prog_3_method_10_code
def yX1_counts : MethodName := ⟨RX1, "counts", "(LIssueHouse$Letter;I)Z"⟩
abbrev cX1_isMajorityWith : ByteArray := prog_3_method_11_code
def yX1_isMajorityWith : MethodName := ⟨RX1, "isMajorityWith", "(LIssueHouse$Letter;)Z"⟩
abbrev cX1_countPromise : ByteArray := prog_3_method_12_code
def yX1_countPromise : MethodName := ⟨RX1, "countPromise", "(LIssueHouse$Letter;)V"⟩
abbrev cX1_countYes : ByteArray := prog_3_method_13_code
def yX1_countYes : MethodName := ⟨RX1, "countYes", "(LIssueHouse$Letter;)V"⟩
abbrev cX1_wishWith : ByteArray := prog_3_method_14_code
def yX1_wishWith : MethodName := ⟨RX1, "wishWith", "(LIssueHouse$Letter;)LIssueHouse$Grant;"⟩
abbrev cX1_chooseSeat : ByteArray := prog_3_method_15_code
def yX1_chooseSeat : MethodName := ⟨RX1, "chooseSeat", "(LIssueHouse$Letter;)I"⟩
abbrev cX1_lowestSeatOf : ByteArray := prog_3_method_16_code
def yX1_lowestSeatOf : MethodName := ⟨RX1, "lowestSeatOf", "(ILIssueHouse$Letter;)I"⟩
abbrev cX1_give : ByteArray := prog_3_method_17_code
def yX1_give : MethodName := ⟨RX1, "give", "(I)J"⟩
abbrev cX1_tellHeld : ByteArray := prog_3_method_18_code
def yX1_tellHeld : MethodName := ⟨RX1, "tellHeld", "(I)J"⟩
def RX2 : String := "IssueHouse$Letter"
def TX2 : u_T := fun k => match k with
  | 0 => ("IssueHouse$Letter", "kind", "I", false)
  | 1 => ("IssueHouse$Letter", "issuer", "I", false)
  | 2 => ("IssueHouse$Letter", "node", "I", false)
  | 3 => ("IssueHouse$Letter", "ballot", "I", false)
  | 4 => ("IssueHouse$Letter", "seat", "I", false)
  | 5 => ("IssueHouse$Letter", "promised", "I", false)
  | 6 => ("IssueHouse$Letter", "row", "LIssueHouse$Row;", false)
  | _ => ("IssueHouse$Letter", "rows", "[LIssueHouse$Row;", true)
def tyX2 : Nat → FieldType := fun k => match k with
  | 0 => .int
  | 1 => .int
  | 2 => .int
  | 3 => .int
  | 4 => .int
  | 5 => .int
  | 6 => .object "IssueHouse$Row"
  | _ => .array (.object "IssueHouse$Row")
theorem nmX2 : ∀ a, a < 8 → ∀ b, b < 8 → a ≠ b → (TX2 a).2.1 ≠ (TX2 b).2.1 := by decide +kernel
theorem tyX2_ok : ∀ k, k < 8 → parseFieldDescriptor (TX2 k).2.2.1 = some (tyX2 k) := by decide +kernel
abbrev cX2_init : ByteArray := prog_4_method_1_code
def yX2_init : MethodName := ⟨RX2, "<init>", "(LIssueHouse$Row;)V"⟩
abbrev cX2_isToNode : ByteArray := prog_4_method_2_code
def yX2_isToNode : MethodName := ⟨RX2, "isToNode", "()Z"⟩
abbrev cX2_copyRows : ByteArray := prog_4_method_3_code
def yX2_copyRows : MethodName := ⟨RX2, "copyRows", "([LIssueHouse$Row;)V"⟩
def RX3 : String := "IssueHouse$Node"
def TX3 : u_T := fun k => match k with
  | 0 => ("IssueHouse$Node", "up", "Z", false)
  | 1 => ("IssueHouse$Node", "promised", "I", false)
  | _ => ("IssueHouse$Node", "rows", "[LIssueHouse$Row;", true)
def tyX3 : Nat → FieldType := fun k => match k with
  | 0 => .boolean
  | 1 => .int
  | _ => .array (.object "IssueHouse$Row")
theorem nmX3 : ∀ a, a < 3 → ∀ b, b < 3 → a ≠ b → (TX3 a).2.1 ≠ (TX3 b).2.1 := by decide +kernel
theorem tyX3_ok : ∀ k, k < 3 → parseFieldDescriptor (TX3 k).2.2.1 = some (tyX3 k) := by decide +kernel
abbrev cX3_init : ByteArray := prog_5_method_1_code
def yX3_init : MethodName := ⟨RX3, "<init>", "(LIssueHouse$Row;)V"⟩
abbrev cX3_answerPrepare : ByteArray := prog_5_method_2_code
def yX3_answerPrepare : MethodName := ⟨RX3, "answerPrepare", "(LIssueHouse$Letter;LIssueHouse$Post;)V"⟩
abbrev cX3_answerAccept : ByteArray := prog_5_method_3_code
def yX3_answerAccept : MethodName := ⟨RX3, "answerAccept", "(LIssueHouse$Letter;LIssueHouse$Post;)V"⟩
abbrev cX3_refuse : ByteArray := prog_5_method_4_code
def yX3_refuse : MethodName := ⟨RX3, "refuse", "(LIssueHouse$Letter;LIssueHouse$Post;)V"⟩
def RX4 : String := "IssueHouse$Post"
def TX4 : u_T := fun k => match k with
  | 0 => ("IssueHouse$Post", "places", "[LIssueHouse$Letter;", true)
  | _ => ("IssueHouse$Post", "size", "I", false)
def tyX4 : Nat → FieldType := fun k => match k with
  | 0 => .array (.object "IssueHouse$Letter")
  | _ => .int
theorem nmX4 : ∀ a, a < 2 → ∀ b, b < 2 → a ≠ b → (TX4 a).2.1 ≠ (TX4 b).2.1 := by decide +kernel
theorem tyX4_ok : ∀ k, k < 2 → parseFieldDescriptor (TX4 k).2.2.1 = some (tyX4 k) := by decide +kernel
abbrev cX4_init : ByteArray := prog_6_method_1_code
def yX4_init : MethodName := ⟨RX4, "<init>", "(LIssueHouse$Row;)V"⟩
abbrev cX4_hasRoomFor : ByteArray := prog_6_method_2_code
def yX4_hasRoomFor : MethodName := ⟨RX4, "hasRoomFor", "(I)Z"⟩
abbrev cX4_at : ByteArray := prog_6_method_3_code
def yX4_at : MethodName := ⟨RX4, "at", "(I)LIssueHouse$Letter;"⟩
abbrev cX4_send : ByteArray := prog_6_method_4_code
def yX4_send : MethodName := ⟨RX4, "send", "(IIII)LIssueHouse$Letter;"⟩
abbrev cX4_sendAgain : ByteArray := prog_6_method_5_code
def yX4_sendAgain : MethodName := ⟨RX4, "sendAgain", "(I)V"⟩
abbrev cX4_take : ByteArray := prog_6_method_6_code
def yX4_take : MethodName := ⟨RX4, "take", "(I)V"⟩
def RX5 : String := "IssueHouse$Row"
def TX5 : u_T := fun k => match k with
  | 0 => ("IssueHouse$Row", "ballot", "I", true)
  | 1 => ("IssueHouse$Row", "holder", "I", true)
  | 2 => ("IssueHouse$Row", "term", "I", true)
  | _ => ("IssueHouse$Row", "mark", "J", true)
def tyX5 : Nat → FieldType := fun k => match k with
  | 0 => .int
  | 1 => .int
  | 2 => .int
  | _ => .long
theorem nmX5 : ∀ a, a < 4 → ∀ b, b < 4 → a ≠ b → (TX5 a).2.1 ≠ (TX5 b).2.1 := by decide +kernel
theorem tyX5_ok : ∀ k, k < 4 → parseFieldDescriptor (TX5 k).2.2.1 = some (tyX5 k) := by decide +kernel
abbrev cX5_init : ByteArray := prog_7_method_1_code
def yX5_init : MethodName := ⟨RX5, "<init>", "(IIIJ)V"⟩
abbrev cX5_orNewer : ByteArray := prog_7_method_2_code
def yX5_orNewer : MethodName := ⟨RX5, "orNewer", "(LIssueHouse$Row;)LIssueHouse$Row;"⟩
def RX6 : String := "IssueHouse"
def TX6 : u_T := fun k => match k with
  | 0 => ("IssueHouse", "issuers", "[LIssueHouse$Issuer;", true)
  | 1 => ("IssueHouse", "nodes", "[LIssueHouse$Node;", true)
  | 2 => ("IssueHouse", "unheld", "LIssueHouse$Row;", true)
  | _ => ("IssueHouse", "post", "LIssueHouse$Post;", true)
def tyX6 : Nat → FieldType := fun k => match k with
  | 0 => .array (.object "IssueHouse$Issuer")
  | 1 => .array (.object "IssueHouse$Node")
  | 2 => .object "IssueHouse$Row"
  | _ => .object "IssueHouse$Post"
theorem nmX6 : ∀ a, a < 4 → ∀ b, b < 4 → a ≠ b → (TX6 a).2.1 ≠ (TX6 b).2.1 := by decide +kernel
theorem tyX6_ok : ∀ k, k < 4 → parseFieldDescriptor (TX6 k).2.2.1 = some (tyX6 k) := by decide +kernel
abbrev cX6_init : ByteArray := prog_1_method_1_code
def yX6_init : MethodName := ⟨RX6, "<init>", "()V"⟩
abbrev cX6_clock : ByteArray := prog_1_method_2_code
def yX6_clock : MethodName := ⟨RX6, "clock", "(IJ)V"⟩
abbrev cX6_start : ByteArray := prog_1_method_3_code
def yX6_start : MethodName := ⟨RX6, "start", "(I)V"⟩
abbrev cX6_prolong : ByteArray := prog_1_method_4_code
def yX6_prolong : MethodName := ⟨RX6, "prolong", "(I)V"⟩
abbrev cX6_crash : ByteArray := prog_1_method_5_code
def yX6_crash : MethodName := ⟨RX6, "crash", "(I)V"⟩
abbrev cX6_node : ByteArray := prog_1_method_6_code
def yX6_node : MethodName := ⟨RX6, "node", "(IZ)V"⟩
abbrev cX6_letters : ByteArray := prog_1_method_7_code
def yX6_letters : MethodName := ⟨RX6, "letters", "()I"⟩
abbrev cX6_deliver : ByteArray := prog_1_method_8_code
def yX6_deliver : MethodName := ⟨RX6, "deliver", "(I)I"⟩
abbrev cX6_lose : ByteArray := prog_1_method_9_code
def yX6_lose : MethodName := ⟨RX6, "lose", "(I)V"⟩
abbrev cX6_twin : ByteArray := prog_1_method_10_code
def yX6_twin : MethodName := ⟨RX6, "twin", "(I)V"⟩
abbrev cX6_letter : ByteArray := prog_1_method_11_code
def yX6_letter : MethodName := ⟨RX6, "letter", "(II)I"⟩
abbrev cX6_issuer : ByteArray := prog_1_method_12_code
def yX6_issuer : MethodName := ⟨RX6, "issuer", "(II)J"⟩
abbrev cX6_next : ByteArray := prog_1_method_13_code
def yX6_next : MethodName := ⟨RX6, "next", "(I)J"⟩
abbrev cX6_batch : ByteArray := prog_1_method_14_code
def yX6_batch : MethodName := ⟨RX6, "batch", "(II)J"⟩
abbrev cX6_seat : ByteArray := prog_1_method_15_code
def yX6_seat : MethodName := ⟨RX6, "seat", "(II)J"⟩
abbrev cX6_part : ByteArray := prog_1_method_16_code
def yX6_part : MethodName := ⟨RX6, "part", "(JI)J"⟩
abbrev cX6_isWithin : ByteArray := prog_1_method_17_code
def yX6_isWithin : MethodName := ⟨RX6, "isWithin", "(II)Z"⟩
abbrev cX6_attempt : ByteArray := prog_1_method_18_code
def yX6_attempt : MethodName := ⟨RX6, "attempt", "(LIssueHouse$Issuer;)V"⟩
abbrev cX6_handToNode : ByteArray := prog_1_method_19_code
def yX6_handToNode : MethodName := ⟨RX6, "handToNode", "(LIssueHouse$Letter;)I"⟩
abbrev cX6_decide : ByteArray := prog_1_method_20_code
def yX6_decide : MethodName := ⟨RX6, "decide", "(LIssueHouse$Issuer;I)I"⟩
abbrev cX6_nodesUp : ByteArray := prog_1_method_21_code
def yX6_nodesUp : MethodName := ⟨RX6, "nodesUp", "()I"⟩
abbrev cX6_newestRow : ByteArray := prog_1_method_22_code
def yX6_newestRow : MethodName := ⟨RX6, "newestRow", "(I)LIssueHouse$Row;"⟩
def RX7 : String := "IssueHouseModel"
def TX7 : u_T := fun k => match k with
  | 0 => ("IssueHouseModel", "thrown", "I", false)
  | 1 => ("IssueHouseModel", "letters", "I", false)
  | 2 => ("IssueHouseModel", "kinds", "[I", true)
  | 3 => ("IssueHouseModel", "issuers", "[I", true)
  | 4 => ("IssueHouseModel", "nodes", "[I", true)
  | 5 => ("IssueHouseModel", "ballots", "[I", true)
  | 6 => ("IssueHouseModel", "seats", "[I", true)
  | 7 => ("IssueHouseModel", "terms", "[I", true)
  | 8 => ("IssueHouseModel", "marks", "[J", true)
  | 9 => ("IssueHouseModel", "extras", "[I", true)
  | 10 => ("IssueHouseModel", "story", "I", false)
  | 11 => ("IssueHouseModel", "byNode", "[I", true)
  | 12 => ("IssueHouseModel", "ofSeat", "[I", true)
  | 13 => ("IssueHouseModel", "withBallot", "[I", true)
  | 14 => ("IssueHouseModel", "byHolder", "[I", true)
  | 15 => ("IssueHouseModel", "withTerm", "[I", true)
  | 16 => ("IssueHouseModel", "withMark", "[J", true)
  | 17 => ("IssueHouseModel", "down", "[Z", true)
  | 18 => ("IssueHouseModel", "promised", "[I", true)
  | 19 => ("IssueHouseModel", "clocks", "[J", true)
  | 20 => ("IssueHouseModel", "doing", "[I", true)
  | 21 => ("IssueHouseModel", "prolongs", "[Z", true)
  | 22 => ("IssueHouseModel", "attempts", "[I", true)
  | 23 => ("IssueHouseModel", "told", "[I", true)
  | 24 => ("IssueHouseModel", "counted", "[Z", true)
  | 25 => ("IssueHouseModel", "reach", "[I", true)
  | 26 => ("IssueHouseModel", "wishSeat", "[I", true)
  | 27 => ("IssueHouseModel", "wishTerm", "[I", true)
  | 28 => ("IssueHouseModel", "wishFirst", "[J", true)
  | 29 => ("IssueHouseModel", "ready", "[Z", true)
  | 30 => ("IssueHouseModel", "hasSeat", "[I", true)
  | 31 => ("IssueHouseModel", "hasTerm", "[I", true)
  | 32 => ("IssueHouseModel", "firsts", "[J", true)
  | 33 => ("IssueHouseModel", "gaveTime", "[J", true)
  | 34 => ("IssueHouseModel", "gaveCount", "[I", true)
  | 35 => ("IssueHouseModel", "failed", "[I", true)
  | _ => ("IssueHouseModel", "gave", "[J", true)
def tyX7 : Nat → FieldType := fun k => match k with
  | 0 => .int
  | 1 => .int
  | 2 => .array .int
  | 3 => .array .int
  | 4 => .array .int
  | 5 => .array .int
  | 6 => .array .int
  | 7 => .array .int
  | 8 => .array .long
  | 9 => .array .int
  | 10 => .int
  | 11 => .array .int
  | 12 => .array .int
  | 13 => .array .int
  | 14 => .array .int
  | 15 => .array .int
  | 16 => .array .long
  | 17 => .array .boolean
  | 18 => .array .int
  | 19 => .array .long
  | 20 => .array .int
  | 21 => .array .boolean
  | 22 => .array .int
  | 23 => .array .int
  | 24 => .array .boolean
  | 25 => .array .int
  | 26 => .array .int
  | 27 => .array .int
  | 28 => .array .long
  | 29 => .array .boolean
  | 30 => .array .int
  | 31 => .array .int
  | 32 => .array .long
  | 33 => .array .long
  | 34 => .array .int
  | 35 => .array .int
  | _ => .array .long
theorem nmX7 : ∀ a, a < 37 → ∀ b, b < 37 → a ≠ b → (TX7 a).2.1 ≠ (TX7 b).2.1 := by decide +kernel
theorem tyX7_ok : ∀ k, k < 37 → parseFieldDescriptor (TX7 k).2.2.1 = some (tyX7 k) := by decide +kernel
abbrev cX7_init : ByteArray := prog_9_method_1_code
def yX7_init : MethodName := ⟨RX7, "<init>", "()V"⟩
abbrev cX7_thrown : ByteArray := prog_9_method_2_code
def yX7_thrown : MethodName := ⟨RX7, "thrown", "()I"⟩
abbrev cX7_isIssuer : ByteArray := prog_9_method_3_code
def yX7_isIssuer : MethodName := ⟨RX7, "isIssuer", "(I)Z"⟩
abbrev cX7_clock : ByteArray := prog_9_method_4_code
def yX7_clock : MethodName := ⟨RX7, "clock", "(IJ)V"⟩
abbrev cX7_send : ByteArray := prog_9_method_5_code
def yX7_send : MethodName := ⟨RX7, "send", "(IIIII)V"⟩
abbrev cX7_copy : ByteArray := prog_9_method_6_code
def yX7_copy : MethodName := ⟨RX7, "copy", "(II)V"⟩
abbrev cX7_remove : ByteArray := prog_9_method_7_code
def yX7_remove : MethodName := ⟨RX7, "remove", "(I)V"⟩
abbrev cX7_isLetter : ByteArray := prog_9_method_8_code
def yX7_isLetter : MethodName := ⟨RX7, "isLetter", "(I)Z"⟩
abbrev cX7_letters : ByteArray := prog_9_method_9_code
def yX7_letters : MethodName := ⟨RX7, "letters", "()I"⟩
abbrev cX7_lose : ByteArray := prog_9_method_10_code
def yX7_lose : MethodName := ⟨RX7, "lose", "(I)V"⟩
abbrev cX7_twin : ByteArray := prog_9_method_11_code
def yX7_twin : MethodName := ⟨RX7, "twin", "(I)V"⟩
abbrev cX7_letter : ByteArray := prog_9_method_12_code
def yX7_letter : MethodName := ⟨RX7, "letter", "(II)I"⟩
abbrev cX7_attempt : ByteArray := prog_9_method_13_code
def yX7_attempt : MethodName := ⟨RX7, "attempt", "(IZ)V"⟩
abbrev cX7_ballotOf : ByteArray := prog_9_method_14_code
def yX7_ballotOf : MethodName := ⟨RX7, "ballotOf", "(I)I"⟩
abbrev cX7_forgetCounts : ByteArray := prog_9_method_15_code
def yX7_forgetCounts : MethodName := ⟨RX7, "forgetCounts", "(I)V"⟩
abbrev cX7_start : ByteArray := prog_9_method_16_code
def yX7_start : MethodName := ⟨RX7, "start", "(I)V"⟩
abbrev cX7_prolong : ByteArray := prog_9_method_17_code
def yX7_prolong : MethodName := ⟨RX7, "prolong", "(I)V"⟩
abbrev cX7_crash : ByteArray := prog_9_method_18_code
def yX7_crash : MethodName := ⟨RX7, "crash", "(I)V"⟩
abbrev cX7_node : ByteArray := prog_9_method_19_code
def yX7_node : MethodName := ⟨RX7, "node", "(IZ)V"⟩
abbrev cX7_rowOf : ByteArray := prog_9_method_20_code
def yX7_rowOf : MethodName := ⟨RX7, "rowOf", "(III)I"⟩
abbrev cX7_ballotAt : ByteArray := prog_9_method_21_code
def yX7_ballotAt : MethodName := ⟨RX7, "ballotAt", "(I)I"⟩
abbrev cX7_holderAt : ByteArray := prog_9_method_22_code
def yX7_holderAt : MethodName := ⟨RX7, "holderAt", "(I)I"⟩
abbrev cX7_termAt : ByteArray := prog_9_method_23_code
def yX7_termAt : MethodName := ⟨RX7, "termAt", "(I)I"⟩
abbrev cX7_markAt : ByteArray := prog_9_method_24_code
def yX7_markAt : MethodName := ⟨RX7, "markAt", "(I)J"⟩
abbrev cX7_agreed : ByteArray := prog_9_method_25_code
def yX7_agreed : MethodName := ⟨RX7, "agreed", "(IIII)I"⟩
abbrev cX7_seatToStart : ByteArray := prog_9_method_26_code
def yX7_seatToStart : MethodName := ⟨RX7, "seatToStart", "(III)I"⟩
abbrev cX7_countOf : ByteArray := prog_9_method_27_code
def yX7_countOf : MethodName := ⟨RX7, "countOf", "(I)I"⟩
abbrev cX7_fail : ByteArray := prog_9_method_28_code
def yX7_fail : MethodName := ⟨RX7, "fail", "(I)V"⟩
abbrev cX7_answer : ByteArray := prog_9_method_29_code
def yX7_answer : MethodName := ⟨RX7, "answer", "(IIIII)I"⟩
abbrev cX7_prepares : ByteArray := prog_9_method_30_code
def yX7_prepares : MethodName := ⟨RX7, "prepares", "(III)I"⟩
abbrev cX7_accepts : ByteArray := prog_9_method_31_code
def yX7_accepts : MethodName := ⟨RX7, "accepts", "(IIII)I"⟩
abbrev cX7_promises : ByteArray := prog_9_method_32_code
def yX7_promises : MethodName := ⟨RX7, "promises", "(IIII)I"⟩
abbrev cX7_agrees : ByteArray := prog_9_method_33_code
def yX7_agrees : MethodName := ⟨RX7, "agrees", "(III)I"⟩
abbrev cX7_refuses : ByteArray := prog_9_method_34_code
def yX7_refuses : MethodName := ⟨RX7, "refuses", "(III)I"⟩
abbrev cX7_deliver : ByteArray := prog_9_method_35_code
def yX7_deliver : MethodName := ⟨RX7, "deliver", "(I)I"⟩
abbrev cX7_issuer : ByteArray := prog_9_method_36_code
def yX7_issuer : MethodName := ⟨RX7, "issuer", "(II)J"⟩
abbrev cX7_give : ByteArray := prog_9_method_37_code
def yX7_give : MethodName := ⟨RX7, "give", "(II)J"⟩
abbrev cX7_next : ByteArray := prog_9_method_38_code
def yX7_next : MethodName := ⟨RX7, "next", "(I)J"⟩
abbrev cX7_batch : ByteArray := prog_9_method_39_code
def yX7_batch : MethodName := ⟨RX7, "batch", "(II)J"⟩
abbrev cX7_seat : ByteArray := prog_9_method_40_code
def yX7_seat : MethodName := ⟨RX7, "seat", "(II)J"⟩
abbrev cX7_part : ByteArray := prog_9_method_41_code
def yX7_part : MethodName := ⟨RX7, "part", "(JI)J"⟩
def RJ6 : String := "java/lang/Integer"
def TJ6 : u_T := fun k => match k with
  | _ => ("", "", "", false)
def tyJ6 : Nat → FieldType := fun k => match k with
  | _ => .int
theorem tyJ6_ok : ∀ k, k < 0 → parseFieldDescriptor (TJ6 k).2.2.1 = some (tyJ6 k) := by decide +kernel
abbrev cJ6_bitCount_0f7a4 : ByteArray := prog_14_method_49_code
def yJ6_bitCount_0f7a4 : MethodName := ⟨RJ6, "bitCount", "(I)I"⟩
def RJ9 : String := "java/lang/Math"
def TJ9 : u_T := fun k => match k with
  | _ => ("", "", "", false)
def tyJ9 : Nat → FieldType := fun k => match k with
  | _ => .int
theorem tyJ9_ok : ∀ k, k < 0 → parseFieldDescriptor (TJ9 k).2.2.1 = some (tyJ9 k) := by decide +kernel
abbrev cJ9_max_7cf53 : ByteArray := prog_15_method_65_code
def yJ9_max_7cf53 : MethodName := ⟨RJ9, "max", "(II)I"⟩
abbrev cJ9_max_f86c9 : ByteArray := prog_15_method_66_code
def yJ9_max_f86c9 : MethodName := ⟨RJ9, "max", "(JJ)J"⟩
def RJ0 : String := "java/lang/String"
def TJ0 : u_T := fun k => match k with
  | _ => ("", "", "", false)
def tyJ0 : Nat → FieldType := fun k => match k with
  | _ => .int
theorem tyJ0_ok : ∀ k, k < 0 → parseFieldDescriptor (TJ0 k).2.2.1 = some (tyJ0 k) := by decide +kernel
def RL : String := "IssueHouseLaw"
abbrev cL_clock : ByteArray := method_3_code
def yL_clock : MethodName := ⟨RL, "clock", "(LIssueHouse;IJ)I"⟩
abbrev cL_start : ByteArray := method_4_code
def yL_start : MethodName := ⟨RL, "start", "(LIssueHouse;I)I"⟩
abbrev cL_prolong : ByteArray := method_5_code
def yL_prolong : MethodName := ⟨RL, "prolong", "(LIssueHouse;I)I"⟩
abbrev cL_crash : ByteArray := method_6_code
def yL_crash : MethodName := ⟨RL, "crash", "(LIssueHouse;I)I"⟩
abbrev cL_node : ByteArray := method_7_code
def yL_node : MethodName := ⟨RL, "node", "(LIssueHouse;IZ)I"⟩
abbrev cL_deliver : ByteArray := method_8_code
def yL_deliver : MethodName := ⟨RL, "deliver", "(LIssueHouse;I[J)I"⟩
abbrev cL_lose : ByteArray := method_9_code
def yL_lose : MethodName := ⟨RL, "lose", "(LIssueHouse;I)I"⟩
abbrev cL_twin : ByteArray := method_10_code
def yL_twin : MethodName := ⟨RL, "twin", "(LIssueHouse;I)I"⟩
abbrev cL_letter : ByteArray := method_11_code
def yL_letter : MethodName := ⟨RL, "letter", "(LIssueHouse;II[J)I"⟩
abbrev cL_issuer : ByteArray := method_12_code
def yL_issuer : MethodName := ⟨RL, "issuer", "(LIssueHouse;II[J)I"⟩
abbrev cL_next : ByteArray := method_13_code
def yL_next : MethodName := ⟨RL, "next", "(LIssueHouse;I[J)I"⟩
abbrev cL_batch : ByteArray := method_14_code
def yL_batch : MethodName := ⟨RL, "batch", "(LIssueHouse;II[J)I"⟩
abbrev cL_seat : ByteArray := method_15_code
def yL_seat : MethodName := ⟨RL, "seat", "(LIssueHouse;II[J)I"⟩
abbrev cL_part : ByteArray := method_16_code
def yL_part : MethodName := ⟨RL, "part", "(LIssueHouse;JI[J)I"⟩
abbrev cL_law : ByteArray := code
def yL_law : MethodName := ⟨RL, "law", "([I)Z"⟩
abbrev vwCl : List vw_C := [(RX0, TX0, 3), (RX1, TX1, 15), (RX2, TX2, 8), (RX3, TX3, 3), (RX4, TX4, 2), (RX5, TX5, 4), (RX6, TX6, 4), (RX7, TX7, 37)]
end
section
theorem dX0_init_0 : decode cX0_init 0 = .ok (.aload_n 0, 1) := by decide +kernel
theorem dX0_init_1 : decode cX0_init 1 = .ok (.invokespecial 1, 3) := by decide +kernel
theorem dX0_init_4 : decode cX0_init 4 = .ok (.aload_n 0, 1) := by decide +kernel
theorem dX0_init_5 : decode cX0_init 5 = .ok (.iload_n 1, 1) := by decide +kernel
theorem dX0_init_6 : decode cX0_init 6 = .ok (.putfield 7, 3) := by decide +kernel
theorem dX0_init_9 : decode cX0_init 9 = .ok (.aload_n 0, 1) := by decide +kernel
theorem dX0_init_10 : decode cX0_init 10 = .ok (.lload_n 2, 1) := by decide +kernel
theorem dX0_init_11 : decode cX0_init 11 = .ok (.putfield 13, 3) := by decide +kernel
theorem dX0_init_14 : decode cX0_init 14 = .ok (.aload_n 0, 1) := by decide +kernel
theorem dX0_init_15 : decode cX0_init 15 = .ok (.aload 4, 2) := by decide +kernel
theorem dX0_init_17 : decode cX0_init 17 = .ok (.putfield 17, 3) := by decide +kernel
theorem dX0_init_20 : decode cX0_init 20 = .ok (.return_, 1) := by decide +kernel
theorem dX1_init_0 : decode cX1_init 0 = .ok (.aload_n 0, 1) := by decide +kernel
theorem dX1_init_1 : decode cX1_init 1 = .ok (.invokespecial 3, 3) := by decide +kernel
theorem dX1_init_4 : decode cX1_init 4 = .ok (.aload_n 0, 1) := by decide +kernel
theorem dX1_init_5 : decode cX1_init 5 = .ok (.iconst 0, 1) := by decide +kernel
theorem dX1_init_6 : decode cX1_init 6 = .ok (.putfield 9, 3) := by decide +kernel
theorem dX1_init_9 : decode cX1_init 9 = .ok (.aload_n 0, 1) := by decide +kernel
theorem dX1_init_10 : decode cX1_init 10 = .ok (.bipush 8, 2) := by decide +kernel
theorem dX1_init_12 : decode cX1_init 12 = .ok (.anewarray 15, 3) := by decide +kernel
theorem dX1_init_15 : decode cX1_init 15 = .ok (.putfield 17, 3) := by decide +kernel
theorem dX1_init_18 : decode cX1_init 18 = .ok (.aload_n 0, 1) := by decide +kernel
theorem dX1_init_19 : decode cX1_init 19 = .ok (.ldc2_w 21, 3) := by decide +kernel
theorem dX1_init_22 : decode cX1_init 22 = .ok (.putfield 23, 3) := by decide +kernel
theorem dX1_init_25 : decode cX1_init 25 = .ok (.aload_n 0, 1) := by decide +kernel
theorem dX1_init_26 : decode cX1_init 26 = .ok (.iload_n 1, 1) := by decide +kernel
theorem dX1_init_27 : decode cX1_init 27 = .ok (.putfield 27, 3) := by decide +kernel
theorem dX1_init_30 : decode cX1_init 30 = .ok (.aload_n 0, 1) := by decide +kernel
theorem dX1_init_31 : decode cX1_init 31 = .ok (.aload_n 2, 1) := by decide +kernel
theorem dX1_init_32 : decode cX1_init 32 = .ok (.putfield 30, 3) := by decide +kernel
theorem dX1_init_35 : decode cX1_init 35 = .ok (.iconst 0, 1) := by decide +kernel
theorem dX1_init_36 : decode cX1_init 36 = .ok (.istore_n 3, 1) := by decide +kernel
theorem dX1_init_37 : decode cX1_init 37 = .ok (.iload_n 3, 1) := by decide +kernel
theorem dX1_init_38 : decode cX1_init 38 = .ok (.bipush 8, 2) := by decide +kernel
theorem dX1_init_40 : decode cX1_init 40 = .ok (.if_icmp .ge 16, 3) := by decide +kernel
theorem dX1_init_43 : decode cX1_init 43 = .ok (.aload_n 0, 1) := by decide +kernel
theorem dX1_init_44 : decode cX1_init 44 = .ok (.getfield 17, 3) := by decide +kernel
theorem dX1_init_47 : decode cX1_init 47 = .ok (.iload_n 3, 1) := by decide +kernel
theorem dX1_init_48 : decode cX1_init 48 = .ok (.aload_n 2, 1) := by decide +kernel
theorem dX1_init_49 : decode cX1_init 49 = .ok (.aastore, 1) := by decide +kernel
theorem dX1_init_50 : decode cX1_init 50 = .ok (.iinc 3 1, 3) := by decide +kernel
theorem dX1_init_53 : decode cX1_init 53 = .ok (.goto (-16), 3) := by decide +kernel
theorem dX1_init_56 : decode cX1_init 56 = .ok (.return_, 1) := by decide +kernel
theorem dX1_isReady_0 : decode cX1_isReady 0 = .ok (.aload_n 0, 1) := by decide +kernel
theorem dX1_isReady_1 : decode cX1_isReady 1 = .ok (.getfield 34, 3) := by decide +kernel
theorem dX1_isReady_4 : decode cX1_isReady 4 = .ok (.ifnull 7, 3) := by decide +kernel
theorem dX1_isReady_7 : decode cX1_isReady 7 = .ok (.iconst 1, 1) := by decide +kernel
theorem dX1_isReady_8 : decode cX1_isReady 8 = .ok (.goto 4, 3) := by decide +kernel
theorem dX1_isReady_11 : decode cX1_isReady 11 = .ok (.iconst 0, 1) := by decide +kernel
theorem dX1_isReady_12 : decode cX1_isReady 12 = .ok (.ireturn, 1) := by decide +kernel
theorem dX1_prepare_0 : decode cX1_prepare 0 = .ok (.aload_n 0, 1) := by decide +kernel
theorem dX1_prepare_1 : decode cX1_prepare 1 = .ok (.aload_n 0, 1) := by decide +kernel
theorem dX1_prepare_2 : decode cX1_prepare 2 = .ok (.getfield 38, 3) := by decide +kernel
theorem dX1_prepare_5 : decode cX1_prepare 5 = .ok (.iconst 1, 1) := by decide +kernel
theorem dX1_prepare_6 : decode cX1_prepare 6 = .ok (.iadd, 1) := by decide +kernel
theorem dX1_prepare_7 : decode cX1_prepare 7 = .ok (.aload_n 0, 1) := by decide +kernel
theorem dX1_prepare_8 : decode cX1_prepare 8 = .ok (.getfield 41, 3) := by decide +kernel
theorem dX1_prepare_11 : decode cX1_prepare 11 = .ok (.invokestatic 44, 3) := by decide +kernel
theorem dX1_prepare_14 : decode cX1_prepare 14 = .ok (.putfield 38, 3) := by decide +kernel
theorem dX1_prepare_17 : decode cX1_prepare 17 = .ok (.aload_n 0, 1) := by decide +kernel
theorem dX1_prepare_18 : decode cX1_prepare 18 = .ok (.bipush 8, 2) := by decide +kernel
theorem dX1_prepare_20 : decode cX1_prepare 20 = .ok (.aload_n 0, 1) := by decide +kernel
theorem dX1_prepare_21 : decode cX1_prepare 21 = .ok (.getfield 38, 3) := by decide +kernel
theorem dX1_prepare_24 : decode cX1_prepare 24 = .ok (.imul, 1) := by decide +kernel
theorem dX1_prepare_25 : decode cX1_prepare 25 = .ok (.aload_n 0, 1) := by decide +kernel
theorem dX1_prepare_26 : decode cX1_prepare 26 = .ok (.getfield 27, 3) := by decide +kernel
theorem dX1_prepare_29 : decode cX1_prepare 29 = .ok (.iadd, 1) := by decide +kernel
theorem dX1_prepare_30 : decode cX1_prepare 30 = .ok (.putfield 50, 3) := by decide +kernel
theorem dX1_prepare_33 : decode cX1_prepare 33 = .ok (.aload_n 0, 1) := by decide +kernel
theorem dX1_prepare_34 : decode cX1_prepare 34 = .ok (.iconst 1, 1) := by decide +kernel
theorem dX1_prepare_35 : decode cX1_prepare 35 = .ok (.putfield 9, 3) := by decide +kernel
theorem dX1_prepare_38 : decode cX1_prepare 38 = .ok (.aload_n 0, 1) := by decide +kernel
theorem dX1_prepare_39 : decode cX1_prepare 39 = .ok (.iconst 0, 1) := by decide +kernel
theorem dX1_prepare_40 : decode cX1_prepare 40 = .ok (.putfield 53, 3) := by decide +kernel
theorem dX1_prepare_43 : decode cX1_prepare 43 = .ok (.iconst 0, 1) := by decide +kernel
theorem dX1_prepare_44 : decode cX1_prepare 44 = .ok (.istore_n 1, 1) := by decide +kernel
theorem dX1_prepare_45 : decode cX1_prepare 45 = .ok (.iload_n 1, 1) := by decide +kernel
theorem dX1_prepare_46 : decode cX1_prepare 46 = .ok (.bipush 8, 2) := by decide +kernel
theorem dX1_prepare_48 : decode cX1_prepare 48 = .ok (.if_icmp .ge 19, 3) := by decide +kernel
theorem dX1_prepare_51 : decode cX1_prepare 51 = .ok (.aload_n 0, 1) := by decide +kernel
theorem dX1_prepare_52 : decode cX1_prepare 52 = .ok (.getfield 17, 3) := by decide +kernel
theorem dX1_prepare_55 : decode cX1_prepare 55 = .ok (.iload_n 1, 1) := by decide +kernel
theorem dX1_prepare_56 : decode cX1_prepare 56 = .ok (.aload_n 0, 1) := by decide +kernel
theorem dX1_prepare_57 : decode cX1_prepare 57 = .ok (.getfield 30, 3) := by decide +kernel
theorem dX1_prepare_60 : decode cX1_prepare 60 = .ok (.aastore, 1) := by decide +kernel
theorem dX1_prepare_61 : decode cX1_prepare 61 = .ok (.iinc 1 1, 3) := by decide +kernel
theorem dX1_prepare_64 : decode cX1_prepare 64 = .ok (.goto (-19), 3) := by decide +kernel
theorem dX1_prepare_67 : decode cX1_prepare 67 = .ok (.return_, 1) := by decide +kernel
theorem dX1_accept_0 : decode cX1_accept 0 = .ok (.aload_n 0, 1) := by decide +kernel
theorem dX1_accept_1 : decode cX1_accept 1 = .ok (.aload_n 1, 1) := by decide +kernel
theorem dX1_accept_2 : decode cX1_accept 2 = .ok (.putfield 56, 3) := by decide +kernel
theorem dX1_accept_5 : decode cX1_accept 5 = .ok (.aload_n 0, 1) := by decide +kernel
theorem dX1_accept_6 : decode cX1_accept 6 = .ok (.iconst 2, 1) := by decide +kernel
theorem dX1_accept_7 : decode cX1_accept 7 = .ok (.putfield 9, 3) := by decide +kernel
theorem dX1_accept_10 : decode cX1_accept 10 = .ok (.aload_n 0, 1) := by decide +kernel
theorem dX1_accept_11 : decode cX1_accept 11 = .ok (.iconst 0, 1) := by decide +kernel
theorem dX1_accept_12 : decode cX1_accept 12 = .ok (.putfield 53, 3) := by decide +kernel
theorem dX1_accept_15 : decode cX1_accept 15 = .ok (.return_, 1) := by decide +kernel
theorem dX1_fail_0 : decode cX1_fail 0 = .ok (.aload_n 0, 1) := by decide +kernel
theorem dX1_fail_1 : decode cX1_fail 1 = .ok (.iconst 0, 1) := by decide +kernel
theorem dX1_fail_2 : decode cX1_fail 2 = .ok (.putfield 9, 3) := by decide +kernel
theorem dX1_fail_5 : decode cX1_fail 5 = .ok (.aload_n 0, 1) := by decide +kernel
theorem dX1_fail_6 : decode cX1_fail 6 = .ok (.dup, 1) := by decide +kernel
theorem dX1_fail_7 : decode cX1_fail 7 = .ok (.getfield 59, 3) := by decide +kernel
theorem dX1_fail_10 : decode cX1_fail 10 = .ok (.iconst 1, 1) := by decide +kernel
theorem dX1_fail_11 : decode cX1_fail 11 = .ok (.iadd, 1) := by decide +kernel
theorem dX1_fail_12 : decode cX1_fail 12 = .ok (.putfield 59, 3) := by decide +kernel
theorem dX1_fail_15 : decode cX1_fail 15 = .ok (.return_, 1) := by decide +kernel
theorem dX1_breakDown_0 : decode cX1_breakDown 0 = .ok (.aload_n 0, 1) := by decide +kernel
theorem dX1_breakDown_1 : decode cX1_breakDown 1 = .ok (.iconst 0, 1) := by decide +kernel
theorem dX1_breakDown_2 : decode cX1_breakDown 2 = .ok (.putfield 9, 3) := by decide +kernel
theorem dX1_breakDown_5 : decode cX1_breakDown 5 = .ok (.aload_n 0, 1) := by decide +kernel
theorem dX1_breakDown_6 : decode cX1_breakDown 6 = .ok (.iconst 0, 1) := by decide +kernel
theorem dX1_breakDown_7 : decode cX1_breakDown 7 = .ok (.putfield 41, 3) := by decide +kernel
theorem dX1_breakDown_10 : decode cX1_breakDown 10 = .ok (.aload_n 0, 1) := by decide +kernel
theorem dX1_breakDown_11 : decode cX1_breakDown 11 = .ok (.aconst_null, 1) := by decide +kernel
theorem dX1_breakDown_12 : decode cX1_breakDown 12 = .ok (.invokevirtual 62, 3) := by decide +kernel
theorem dX1_breakDown_15 : decode cX1_breakDown 15 = .ok (.return_, 1) := by decide +kernel
theorem dX1_hold_0 : decode cX1_hold 0 = .ok (.aload_n 0, 1) := by decide +kernel
theorem dX1_hold_1 : decode cX1_hold 1 = .ok (.aload_n 1, 1) := by decide +kernel
theorem dX1_hold_2 : decode cX1_hold 2 = .ok (.putfield 34, 3) := by decide +kernel
theorem dX1_hold_5 : decode cX1_hold 5 = .ok (.aload_n 0, 1) := by decide +kernel
theorem dX1_hold_6 : decode cX1_hold 6 = .ok (.ldc2_w 21, 3) := by decide +kernel
theorem dX1_hold_9 : decode cX1_hold 9 = .ok (.putfield 23, 3) := by decide +kernel
theorem dX1_hold_12 : decode cX1_hold 12 = .ok (.aload_n 0, 1) := by decide +kernel
theorem dX1_hold_13 : decode cX1_hold 13 = .ok (.iconst 0, 1) := by decide +kernel
theorem dX1_hold_14 : decode cX1_hold 14 = .ok (.putfield 66, 3) := by decide +kernel
theorem dX1_hold_17 : decode cX1_hold 17 = .ok (.return_, 1) := by decide +kernel
theorem dX1_isDecidedBy_0 : decode cX1_isDecidedBy 0 = .ok (.aload_n 1, 1) := by decide +kernel
theorem dX1_isDecidedBy_1 : decode cX1_isDecidedBy 1 = .ok (.getfield 69, 3) := by decide +kernel
theorem dX1_isDecidedBy_4 : decode cX1_isDecidedBy 4 = .ok (.iconst 1, 1) := by decide +kernel
theorem dX1_isDecidedBy_5 : decode cX1_isDecidedBy 5 = .ok (.if_icmp .ne 24, 3) := by decide +kernel
theorem dX1_isDecidedBy_8 : decode cX1_isDecidedBy 8 = .ok (.aload_n 0, 1) := by decide +kernel
theorem dX1_isDecidedBy_9 : decode cX1_isDecidedBy 9 = .ok (.aload_n 1, 1) := by decide +kernel
theorem dX1_isDecidedBy_10 : decode cX1_isDecidedBy 10 = .ok (.iconst 1, 1) := by decide +kernel
theorem dX1_isDecidedBy_11 : decode cX1_isDecidedBy 11 = .ok (.invokevirtual 74, 3) := by decide +kernel
theorem dX1_isDecidedBy_14 : decode cX1_isDecidedBy 14 = .ok (.ifCond .eq 15, 3) := by decide +kernel
theorem dX1_isDecidedBy_17 : decode cX1_isDecidedBy 17 = .ok (.aload_n 0, 1) := by decide +kernel
theorem dX1_isDecidedBy_18 : decode cX1_isDecidedBy 18 = .ok (.aload_n 1, 1) := by decide +kernel
theorem dX1_isDecidedBy_19 : decode cX1_isDecidedBy 19 = .ok (.invokevirtual 78, 3) := by decide +kernel
theorem dX1_isDecidedBy_22 : decode cX1_isDecidedBy 22 = .ok (.ifCond .eq 7, 3) := by decide +kernel
theorem dX1_isDecidedBy_25 : decode cX1_isDecidedBy 25 = .ok (.iconst 1, 1) := by decide +kernel
theorem dX1_isDecidedBy_26 : decode cX1_isDecidedBy 26 = .ok (.goto 4, 3) := by decide +kernel
theorem dX1_isDecidedBy_29 : decode cX1_isDecidedBy 29 = .ok (.iconst 0, 1) := by decide +kernel
theorem dX1_isDecidedBy_30 : decode cX1_isDecidedBy 30 = .ok (.ireturn, 1) := by decide +kernel
theorem dX1_receive_0 : decode cX1_receive 0 = .ok (.aload_n 1, 1) := by decide +kernel
theorem dX1_receive_1 : decode cX1_receive 1 = .ok (.getfield 69, 3) := by decide +kernel
theorem dX1_receive_4 : decode cX1_receive 4 = .ok (.iconst 1, 1) := by decide +kernel
theorem dX1_receive_5 : decode cX1_receive 5 = .ok (.if_icmp .ne 20, 3) := by decide +kernel
theorem dX1_receive_8 : decode cX1_receive 8 = .ok (.aload_n 0, 1) := by decide +kernel
theorem dX1_receive_9 : decode cX1_receive 9 = .ok (.aload_n 1, 1) := by decide +kernel
theorem dX1_receive_10 : decode cX1_receive 10 = .ok (.iconst 1, 1) := by decide +kernel
theorem dX1_receive_11 : decode cX1_receive 11 = .ok (.invokevirtual 74, 3) := by decide +kernel
theorem dX1_receive_14 : decode cX1_receive 14 = .ok (.ifCond .eq 11, 3) := by decide +kernel
theorem dX1_receive_17 : decode cX1_receive 17 = .ok (.aload_n 0, 1) := by decide +kernel
theorem dX1_receive_18 : decode cX1_receive 18 = .ok (.aload_n 1, 1) := by decide +kernel
theorem dX1_receive_19 : decode cX1_receive 19 = .ok (.invokevirtual 82, 3) := by decide +kernel
theorem dX1_receive_22 : decode cX1_receive 22 = .ok (.goto 71, 3) := by decide +kernel
theorem dX1_receive_25 : decode cX1_receive 25 = .ok (.aload_n 1, 1) := by decide +kernel
theorem dX1_receive_26 : decode cX1_receive 26 = .ok (.getfield 69, 3) := by decide +kernel
theorem dX1_receive_29 : decode cX1_receive 29 = .ok (.iconst 3, 1) := by decide +kernel
theorem dX1_receive_30 : decode cX1_receive 30 = .ok (.if_icmp .ne 20, 3) := by decide +kernel
theorem dX1_receive_33 : decode cX1_receive 33 = .ok (.aload_n 0, 1) := by decide +kernel
theorem dX1_receive_34 : decode cX1_receive 34 = .ok (.aload_n 1, 1) := by decide +kernel
theorem dX1_receive_35 : decode cX1_receive 35 = .ok (.iconst 2, 1) := by decide +kernel
theorem dX1_receive_36 : decode cX1_receive 36 = .ok (.invokevirtual 74, 3) := by decide +kernel
theorem dX1_receive_39 : decode cX1_receive 39 = .ok (.ifCond .eq 11, 3) := by decide +kernel
theorem dX1_receive_42 : decode cX1_receive 42 = .ok (.aload_n 0, 1) := by decide +kernel
theorem dX1_receive_43 : decode cX1_receive 43 = .ok (.aload_n 1, 1) := by decide +kernel
theorem dX1_receive_44 : decode cX1_receive 44 = .ok (.invokevirtual 86, 3) := by decide +kernel
theorem dX1_receive_47 : decode cX1_receive 47 = .ok (.goto 46, 3) := by decide +kernel
theorem dX1_receive_50 : decode cX1_receive 50 = .ok (.aload_n 1, 1) := by decide +kernel
theorem dX1_receive_51 : decode cX1_receive 51 = .ok (.getfield 69, 3) := by decide +kernel
theorem dX1_receive_54 : decode cX1_receive 54 = .ok (.iconst 4, 1) := by decide +kernel
theorem dX1_receive_55 : decode cX1_receive 55 = .ok (.if_icmp .ne 38, 3) := by decide +kernel
theorem dX1_receive_58 : decode cX1_receive 58 = .ok (.aload_n 0, 1) := by decide +kernel
theorem dX1_receive_59 : decode cX1_receive 59 = .ok (.getfield 9, 3) := by decide +kernel
theorem dX1_receive_62 : decode cX1_receive 62 = .ok (.ifCond .eq 31, 3) := by decide +kernel
theorem dX1_receive_65 : decode cX1_receive 65 = .ok (.aload_n 1, 1) := by decide +kernel
theorem dX1_receive_66 : decode cX1_receive 66 = .ok (.getfield 89, 3) := by decide +kernel
theorem dX1_receive_69 : decode cX1_receive 69 = .ok (.aload_n 0, 1) := by decide +kernel
theorem dX1_receive_70 : decode cX1_receive 70 = .ok (.getfield 50, 3) := by decide +kernel
theorem dX1_receive_73 : decode cX1_receive 73 = .ok (.if_icmp .ne 20, 3) := by decide +kernel
theorem dX1_receive_76 : decode cX1_receive 76 = .ok (.aload_n 0, 1) := by decide +kernel
theorem dX1_receive_77 : decode cX1_receive 77 = .ok (.aload_n 1, 1) := by decide +kernel
theorem dX1_receive_78 : decode cX1_receive 78 = .ok (.getfield 90, 3) := by decide +kernel
theorem dX1_receive_81 : decode cX1_receive 81 = .ok (.bipush 8, 2) := by decide +kernel
theorem dX1_receive_83 : decode cX1_receive 83 = .ok (.idiv, 1) := by decide +kernel
theorem dX1_receive_84 : decode cX1_receive 84 = .ok (.iconst 1, 1) := by decide +kernel
theorem dX1_receive_85 : decode cX1_receive 85 = .ok (.iadd, 1) := by decide +kernel
theorem dX1_receive_86 : decode cX1_receive 86 = .ok (.putfield 41, 3) := by decide +kernel
theorem dX1_receive_89 : decode cX1_receive 89 = .ok (.aload_n 0, 1) := by decide +kernel
theorem dX1_receive_90 : decode cX1_receive 90 = .ok (.invokevirtual 93, 3) := by decide +kernel
theorem dX1_receive_93 : decode cX1_receive 93 = .ok (.return_, 1) := by decide +kernel
theorem dX1_counts_0 : decode cX1_counts 0 = .ok (.aload_n 0, 1) := by decide +kernel
theorem dX1_counts_1 : decode cX1_counts 1 = .ok (.getfield 9, 3) := by decide +kernel
theorem dX1_counts_4 : decode cX1_counts 4 = .ok (.iload_n 2, 1) := by decide +kernel
theorem dX1_counts_5 : decode cX1_counts 5 = .ok (.if_icmp .ne 32, 3) := by decide +kernel
theorem dX1_counts_8 : decode cX1_counts 8 = .ok (.aload_n 1, 1) := by decide +kernel
theorem dX1_counts_9 : decode cX1_counts 9 = .ok (.getfield 89, 3) := by decide +kernel
theorem dX1_counts_12 : decode cX1_counts 12 = .ok (.aload_n 0, 1) := by decide +kernel
theorem dX1_counts_13 : decode cX1_counts 13 = .ok (.getfield 50, 3) := by decide +kernel
theorem dX1_counts_16 : decode cX1_counts 16 = .ok (.if_icmp .ne 21, 3) := by decide +kernel
theorem dX1_counts_19 : decode cX1_counts 19 = .ok (.aload_n 0, 1) := by decide +kernel
theorem dX1_counts_20 : decode cX1_counts 20 = .ok (.getfield 53, 3) := by decide +kernel
theorem dX1_counts_23 : decode cX1_counts 23 = .ok (.iconst 1, 1) := by decide +kernel
theorem dX1_counts_24 : decode cX1_counts 24 = .ok (.aload_n 1, 1) := by decide +kernel
theorem dX1_counts_25 : decode cX1_counts 25 = .ok (.getfield 96, 3) := by decide +kernel
theorem dX1_counts_28 : decode cX1_counts 28 = .ok (.ishl, 1) := by decide +kernel
theorem dX1_counts_29 : decode cX1_counts 29 = .ok (.iand, 1) := by decide +kernel
theorem dX1_counts_30 : decode cX1_counts 30 = .ok (.ifCond .ne 7, 3) := by decide +kernel
theorem dX1_counts_33 : decode cX1_counts 33 = .ok (.iconst 1, 1) := by decide +kernel
theorem dX1_counts_34 : decode cX1_counts 34 = .ok (.goto 4, 3) := by decide +kernel
theorem dX1_counts_37 : decode cX1_counts 37 = .ok (.iconst 0, 1) := by decide +kernel
theorem dX1_counts_38 : decode cX1_counts 38 = .ok (.ireturn, 1) := by decide +kernel
theorem dX1_isMajorityWith_0 : decode cX1_isMajorityWith 0 = .ok (.aload_n 0, 1) := by decide +kernel
theorem dX1_isMajorityWith_1 : decode cX1_isMajorityWith 1 = .ok (.getfield 53, 3) := by decide +kernel
theorem dX1_isMajorityWith_4 : decode cX1_isMajorityWith 4 = .ok (.iconst 1, 1) := by decide +kernel
theorem dX1_isMajorityWith_5 : decode cX1_isMajorityWith 5 = .ok (.aload_n 1, 1) := by decide +kernel
theorem dX1_isMajorityWith_6 : decode cX1_isMajorityWith 6 = .ok (.getfield 96, 3) := by decide +kernel
theorem dX1_isMajorityWith_9 : decode cX1_isMajorityWith 9 = .ok (.ishl, 1) := by decide +kernel
theorem dX1_isMajorityWith_10 : decode cX1_isMajorityWith 10 = .ok (.ior, 1) := by decide +kernel
theorem dX1_isMajorityWith_11 : decode cX1_isMajorityWith 11 = .ok (.invokestatic 99, 3) := by decide +kernel
theorem dX1_isMajorityWith_14 : decode cX1_isMajorityWith 14 = .ok (.iconst 3, 1) := by decide +kernel
theorem dX1_isMajorityWith_15 : decode cX1_isMajorityWith 15 = .ok (.if_icmp .lt 7, 3) := by decide +kernel
theorem dX1_isMajorityWith_18 : decode cX1_isMajorityWith 18 = .ok (.iconst 1, 1) := by decide +kernel
theorem dX1_isMajorityWith_19 : decode cX1_isMajorityWith 19 = .ok (.goto 4, 3) := by decide +kernel
theorem dX1_isMajorityWith_22 : decode cX1_isMajorityWith 22 = .ok (.iconst 0, 1) := by decide +kernel
theorem dX1_isMajorityWith_23 : decode cX1_isMajorityWith 23 = .ok (.ireturn, 1) := by decide +kernel
theorem dX1_countPromise_0 : decode cX1_countPromise 0 = .ok (.aload_n 0, 1) := by decide +kernel
theorem dX1_countPromise_1 : decode cX1_countPromise 1 = .ok (.dup, 1) := by decide +kernel
theorem dX1_countPromise_2 : decode cX1_countPromise 2 = .ok (.getfield 53, 3) := by decide +kernel
theorem dX1_countPromise_5 : decode cX1_countPromise 5 = .ok (.iconst 1, 1) := by decide +kernel
theorem dX1_countPromise_6 : decode cX1_countPromise 6 = .ok (.aload_n 1, 1) := by decide +kernel
theorem dX1_countPromise_7 : decode cX1_countPromise 7 = .ok (.getfield 96, 3) := by decide +kernel
theorem dX1_countPromise_10 : decode cX1_countPromise 10 = .ok (.ishl, 1) := by decide +kernel
theorem dX1_countPromise_11 : decode cX1_countPromise 11 = .ok (.ior, 1) := by decide +kernel
theorem dX1_countPromise_12 : decode cX1_countPromise 12 = .ok (.putfield 53, 3) := by decide +kernel
theorem dX1_countPromise_15 : decode cX1_countPromise 15 = .ok (.iconst 0, 1) := by decide +kernel
theorem dX1_countPromise_16 : decode cX1_countPromise 16 = .ok (.istore_n 2, 1) := by decide +kernel
theorem dX1_countPromise_17 : decode cX1_countPromise 17 = .ok (.iload_n 2, 1) := by decide +kernel
theorem dX1_countPromise_18 : decode cX1_countPromise 18 = .ok (.bipush 8, 2) := by decide +kernel
theorem dX1_countPromise_20 : decode cX1_countPromise 20 = .ok (.if_icmp .ge 30, 3) := by decide +kernel
theorem dX1_countPromise_23 : decode cX1_countPromise 23 = .ok (.aload_n 0, 1) := by decide +kernel
theorem dX1_countPromise_24 : decode cX1_countPromise 24 = .ok (.getfield 17, 3) := by decide +kernel
theorem dX1_countPromise_27 : decode cX1_countPromise 27 = .ok (.iload_n 2, 1) := by decide +kernel
theorem dX1_countPromise_28 : decode cX1_countPromise 28 = .ok (.aload_n 0, 1) := by decide +kernel
theorem dX1_countPromise_29 : decode cX1_countPromise 29 = .ok (.getfield 17, 3) := by decide +kernel
theorem dX1_countPromise_32 : decode cX1_countPromise 32 = .ok (.iload_n 2, 1) := by decide +kernel
theorem dX1_countPromise_33 : decode cX1_countPromise 33 = .ok (.aaload, 1) := by decide +kernel
theorem dX1_countPromise_34 : decode cX1_countPromise 34 = .ok (.aload_n 1, 1) := by decide +kernel
theorem dX1_countPromise_35 : decode cX1_countPromise 35 = .ok (.getfield 105, 3) := by decide +kernel
theorem dX1_countPromise_38 : decode cX1_countPromise 38 = .ok (.iload_n 2, 1) := by decide +kernel
theorem dX1_countPromise_39 : decode cX1_countPromise 39 = .ok (.aaload, 1) := by decide +kernel
theorem dX1_countPromise_40 : decode cX1_countPromise 40 = .ok (.invokevirtual 108, 3) := by decide +kernel
theorem dX1_countPromise_43 : decode cX1_countPromise 43 = .ok (.aastore, 1) := by decide +kernel
theorem dX1_countPromise_44 : decode cX1_countPromise 44 = .ok (.iinc 2 1, 3) := by decide +kernel
theorem dX1_countPromise_47 : decode cX1_countPromise 47 = .ok (.goto (-30), 3) := by decide +kernel
theorem dX1_countPromise_50 : decode cX1_countPromise 50 = .ok (.return_, 1) := by decide +kernel
theorem dX1_countYes_0 : decode cX1_countYes 0 = .ok (.aload_n 0, 1) := by decide +kernel
theorem dX1_countYes_1 : decode cX1_countYes 1 = .ok (.aload_n 1, 1) := by decide +kernel
theorem dX1_countYes_2 : decode cX1_countYes 2 = .ok (.invokevirtual 78, 3) := by decide +kernel
theorem dX1_countYes_5 : decode cX1_countYes 5 = .ok (.ifCond .eq 17, 3) := by decide +kernel
theorem dX1_countYes_8 : decode cX1_countYes 8 = .ok (.aload_n 0, 1) := by decide +kernel
theorem dX1_countYes_9 : decode cX1_countYes 9 = .ok (.iconst 0, 1) := by decide +kernel
theorem dX1_countYes_10 : decode cX1_countYes 10 = .ok (.putfield 9, 3) := by decide +kernel
theorem dX1_countYes_13 : decode cX1_countYes 13 = .ok (.aload_n 0, 1) := by decide +kernel
theorem dX1_countYes_14 : decode cX1_countYes 14 = .ok (.aload_n 0, 1) := by decide +kernel
theorem dX1_countYes_15 : decode cX1_countYes 15 = .ok (.getfield 56, 3) := by decide +kernel
theorem dX1_countYes_18 : decode cX1_countYes 18 = .ok (.invokevirtual 62, 3) := by decide +kernel
theorem dX1_countYes_21 : decode cX1_countYes 21 = .ok (.return_, 1) := by decide +kernel
theorem dX1_countYes_22 : decode cX1_countYes 22 = .ok (.aload_n 0, 1) := by decide +kernel
theorem dX1_countYes_23 : decode cX1_countYes 23 = .ok (.dup, 1) := by decide +kernel
theorem dX1_countYes_24 : decode cX1_countYes 24 = .ok (.getfield 53, 3) := by decide +kernel
theorem dX1_countYes_27 : decode cX1_countYes 27 = .ok (.iconst 1, 1) := by decide +kernel
theorem dX1_countYes_28 : decode cX1_countYes 28 = .ok (.aload_n 1, 1) := by decide +kernel
theorem dX1_countYes_29 : decode cX1_countYes 29 = .ok (.getfield 96, 3) := by decide +kernel
theorem dX1_countYes_32 : decode cX1_countYes 32 = .ok (.ishl, 1) := by decide +kernel
theorem dX1_countYes_33 : decode cX1_countYes 33 = .ok (.ior, 1) := by decide +kernel
theorem dX1_countYes_34 : decode cX1_countYes 34 = .ok (.putfield 53, 3) := by decide +kernel
theorem dX1_countYes_37 : decode cX1_countYes 37 = .ok (.return_, 1) := by decide +kernel
theorem dX1_wishWith_0 : decode cX1_wishWith 0 = .ok (.aload_n 0, 1) := by decide +kernel
theorem dX1_wishWith_1 : decode cX1_wishWith 1 = .ok (.getfield 34, 3) := by decide +kernel
theorem dX1_wishWith_4 : decode cX1_wishWith 4 = .ok (.ifnull 13, 3) := by decide +kernel
theorem dX1_wishWith_7 : decode cX1_wishWith 7 = .ok (.aload_n 0, 1) := by decide +kernel
theorem dX1_wishWith_8 : decode cX1_wishWith 8 = .ok (.getfield 34, 3) := by decide +kernel
theorem dX1_wishWith_11 : decode cX1_wishWith 11 = .ok (.getfield 112, 3) := by decide +kernel
theorem dX1_wishWith_14 : decode cX1_wishWith 14 = .ok (.goto 8, 3) := by decide +kernel
theorem dX1_wishWith_17 : decode cX1_wishWith 17 = .ok (.aload_n 0, 1) := by decide +kernel
theorem dX1_wishWith_18 : decode cX1_wishWith 18 = .ok (.aload_n 1, 1) := by decide +kernel
theorem dX1_wishWith_19 : decode cX1_wishWith 19 = .ok (.invokevirtual 117, 3) := by decide +kernel
theorem dX1_wishWith_22 : decode cX1_wishWith 22 = .ok (.istore_n 2, 1) := by decide +kernel
theorem dX1_wishWith_23 : decode cX1_wishWith 23 = .ok (.iload_n 2, 1) := by decide +kernel
theorem dX1_wishWith_24 : decode cX1_wishWith 24 = .ok (.iconst (-1), 1) := by decide +kernel
theorem dX1_wishWith_25 : decode cX1_wishWith 25 = .ok (.if_icmp .ne 5, 3) := by decide +kernel
theorem dX1_wishWith_28 : decode cX1_wishWith 28 = .ok (.aconst_null, 1) := by decide +kernel
theorem dX1_wishWith_29 : decode cX1_wishWith 29 = .ok (.areturn, 1) := by decide +kernel
theorem dX1_wishWith_30 : decode cX1_wishWith 30 = .ok (.aload_n 0, 1) := by decide +kernel
theorem dX1_wishWith_31 : decode cX1_wishWith 31 = .ok (.getfield 17, 3) := by decide +kernel
theorem dX1_wishWith_34 : decode cX1_wishWith 34 = .ok (.iload_n 2, 1) := by decide +kernel
theorem dX1_wishWith_35 : decode cX1_wishWith 35 = .ok (.aaload, 1) := by decide +kernel
theorem dX1_wishWith_36 : decode cX1_wishWith 36 = .ok (.aload_n 1, 1) := by decide +kernel
theorem dX1_wishWith_37 : decode cX1_wishWith 37 = .ok (.getfield 105, 3) := by decide +kernel
theorem dX1_wishWith_40 : decode cX1_wishWith 40 = .ok (.iload_n 2, 1) := by decide +kernel
theorem dX1_wishWith_41 : decode cX1_wishWith 41 = .ok (.aaload, 1) := by decide +kernel
theorem dX1_wishWith_42 : decode cX1_wishWith 42 = .ok (.invokevirtual 108, 3) := by decide +kernel
theorem dX1_wishWith_45 : decode cX1_wishWith 45 = .ok (.astore_n 3, 1) := by decide +kernel
theorem dX1_wishWith_46 : decode cX1_wishWith 46 = .ok (.aload_n 0, 1) := by decide +kernel
theorem dX1_wishWith_47 : decode cX1_wishWith 47 = .ok (.getfield 121, 3) := by decide +kernel
theorem dX1_wishWith_50 : decode cX1_wishWith 50 = .ok (.aload_n 3, 1) := by decide +kernel
theorem dX1_wishWith_51 : decode cX1_wishWith 51 = .ok (.getfield 124, 3) := by decide +kernel
theorem dX1_wishWith_54 : decode cX1_wishWith 54 = .ok (.lconst 1, 1) := by decide +kernel
theorem dX1_wishWith_55 : decode cX1_wishWith 55 = .ok (.ladd, 1) := by decide +kernel
theorem dX1_wishWith_56 : decode cX1_wishWith 56 = .ok (.invokestatic 127, 3) := by decide +kernel
theorem dX1_wishWith_59 : decode cX1_wishWith 59 = .ok (.lstore 4, 2) := by decide +kernel
theorem dX1_wishWith_61 : decode cX1_wishWith 61 = .ok (.lload 4, 2) := by decide +kernel
theorem dX1_wishWith_63 : decode cX1_wishWith 63 = .ok (.ldc2_w 130, 3) := by decide +kernel
theorem dX1_wishWith_66 : decode cX1_wishWith 66 = .ok (.ladd, 1) := by decide +kernel
theorem dX1_wishWith_67 : decode cX1_wishWith 67 = .ok (.lconst 1, 1) := by decide +kernel
theorem dX1_wishWith_68 : decode cX1_wishWith 68 = .ok (.lsub, 1) := by decide +kernel
theorem dX1_wishWith_69 : decode cX1_wishWith 69 = .ok (.lstore 6, 2) := by decide +kernel
theorem dX1_wishWith_71 : decode cX1_wishWith 71 = .ok (.lload 6, 2) := by decide +kernel
theorem dX1_wishWith_73 : decode cX1_wishWith 73 = .ok (.ldc2_w 132, 3) := by decide +kernel
theorem dX1_wishWith_76 : decode cX1_wishWith 76 = .ok (.lcmp, 1) := by decide +kernel
theorem dX1_wishWith_77 : decode cX1_wishWith 77 = .ok (.ifCond .le 5, 3) := by decide +kernel
theorem dX1_wishWith_80 : decode cX1_wishWith 80 = .ok (.aconst_null, 1) := by decide +kernel
theorem dX1_wishWith_81 : decode cX1_wishWith 81 = .ok (.areturn, 1) := by decide +kernel
theorem dX1_wishWith_82 : decode cX1_wishWith 82 = .ok (.aload_n 0, 1) := by decide +kernel
theorem dX1_wishWith_83 : decode cX1_wishWith 83 = .ok (.getfield 34, 3) := by decide +kernel
theorem dX1_wishWith_86 : decode cX1_wishWith 86 = .ok (.ifnull 16, 3) := by decide +kernel
theorem dX1_wishWith_89 : decode cX1_wishWith 89 = .ok (.aload_n 0, 1) := by decide +kernel
theorem dX1_wishWith_90 : decode cX1_wishWith 90 = .ok (.getfield 34, 3) := by decide +kernel
theorem dX1_wishWith_93 : decode cX1_wishWith 93 = .ok (.getfield 134, 3) := by decide +kernel
theorem dX1_wishWith_96 : decode cX1_wishWith 96 = .ok (.getfield 137, 3) := by decide +kernel
theorem dX1_wishWith_99 : decode cX1_wishWith 99 = .ok (.goto 9, 3) := by decide +kernel
theorem dX1_wishWith_102 : decode cX1_wishWith 102 = .ok (.aload_n 3, 1) := by decide +kernel
theorem dX1_wishWith_103 : decode cX1_wishWith 103 = .ok (.getfield 137, 3) := by decide +kernel
theorem dX1_wishWith_106 : decode cX1_wishWith 106 = .ok (.iconst 1, 1) := by decide +kernel
theorem dX1_wishWith_107 : decode cX1_wishWith 107 = .ok (.iadd, 1) := by decide +kernel
theorem dX1_wishWith_108 : decode cX1_wishWith 108 = .ok (.istore 8, 2) := by decide +kernel
theorem dX1_wishWith_110 : decode cX1_wishWith 110 = .ok (.new 113, 3) := by decide +kernel
theorem dX1_wishWith_113 : decode cX1_wishWith 113 = .ok (.dup, 1) := by decide +kernel
theorem dX1_wishWith_114 : decode cX1_wishWith 114 = .ok (.iload_n 2, 1) := by decide +kernel
theorem dX1_wishWith_115 : decode cX1_wishWith 115 = .ok (.lload 4, 2) := by decide +kernel
theorem dX1_wishWith_117 : decode cX1_wishWith 117 = .ok (.new 15, 3) := by decide +kernel
theorem dX1_wishWith_120 : decode cX1_wishWith 120 = .ok (.dup, 1) := by decide +kernel
theorem dX1_wishWith_121 : decode cX1_wishWith 121 = .ok (.aload_n 0, 1) := by decide +kernel
theorem dX1_wishWith_122 : decode cX1_wishWith 122 = .ok (.getfield 50, 3) := by decide +kernel
theorem dX1_wishWith_125 : decode cX1_wishWith 125 = .ok (.aload_n 0, 1) := by decide +kernel
theorem dX1_wishWith_126 : decode cX1_wishWith 126 = .ok (.getfield 27, 3) := by decide +kernel
theorem dX1_wishWith_129 : decode cX1_wishWith 129 = .ok (.iload 8, 2) := by decide +kernel
theorem dX1_wishWith_131 : decode cX1_wishWith 131 = .ok (.lload 6, 2) := by decide +kernel
theorem dX1_wishWith_133 : decode cX1_wishWith 133 = .ok (.invokespecial 140, 3) := by decide +kernel
theorem dX1_wishWith_136 : decode cX1_wishWith 136 = .ok (.invokespecial 143, 3) := by decide +kernel
theorem dX1_wishWith_139 : decode cX1_wishWith 139 = .ok (.areturn, 1) := by decide +kernel
theorem dX1_chooseSeat_0 : decode cX1_chooseSeat 0 = .ok (.aload_n 0, 1) := by decide +kernel
theorem dX1_chooseSeat_1 : decode cX1_chooseSeat 1 = .ok (.aload_n 0, 1) := by decide +kernel
theorem dX1_chooseSeat_2 : decode cX1_chooseSeat 2 = .ok (.getfield 27, 3) := by decide +kernel
theorem dX1_chooseSeat_5 : decode cX1_chooseSeat 5 = .ok (.aload_n 1, 1) := by decide +kernel
theorem dX1_chooseSeat_6 : decode cX1_chooseSeat 6 = .ok (.invokevirtual 146, 3) := by decide +kernel
theorem dX1_chooseSeat_9 : decode cX1_chooseSeat 9 = .ok (.istore_n 2, 1) := by decide +kernel
theorem dX1_chooseSeat_10 : decode cX1_chooseSeat 10 = .ok (.iload_n 2, 1) := by decide +kernel
theorem dX1_chooseSeat_11 : decode cX1_chooseSeat 11 = .ok (.iconst (-1), 1) := by decide +kernel
theorem dX1_chooseSeat_12 : decode cX1_chooseSeat 12 = .ok (.if_icmp .eq 7, 3) := by decide +kernel
theorem dX1_chooseSeat_15 : decode cX1_chooseSeat 15 = .ok (.iload_n 2, 1) := by decide +kernel
theorem dX1_chooseSeat_16 : decode cX1_chooseSeat 16 = .ok (.goto 9, 3) := by decide +kernel
theorem dX1_chooseSeat_19 : decode cX1_chooseSeat 19 = .ok (.aload_n 0, 1) := by decide +kernel
theorem dX1_chooseSeat_20 : decode cX1_chooseSeat 20 = .ok (.iconst (-1), 1) := by decide +kernel
theorem dX1_chooseSeat_21 : decode cX1_chooseSeat 21 = .ok (.aload_n 1, 1) := by decide +kernel
theorem dX1_chooseSeat_22 : decode cX1_chooseSeat 22 = .ok (.invokevirtual 146, 3) := by decide +kernel
theorem dX1_chooseSeat_25 : decode cX1_chooseSeat 25 = .ok (.ireturn, 1) := by decide +kernel
theorem dX1_lowestSeatOf_0 : decode cX1_lowestSeatOf 0 = .ok (.iconst 0, 1) := by decide +kernel
theorem dX1_lowestSeatOf_1 : decode cX1_lowestSeatOf 1 = .ok (.istore_n 3, 1) := by decide +kernel
theorem dX1_lowestSeatOf_2 : decode cX1_lowestSeatOf 2 = .ok (.iload_n 3, 1) := by decide +kernel
theorem dX1_lowestSeatOf_3 : decode cX1_lowestSeatOf 3 = .ok (.bipush 8, 2) := by decide +kernel
theorem dX1_lowestSeatOf_5 : decode cX1_lowestSeatOf 5 = .ok (.if_icmp .ge 33, 3) := by decide +kernel
theorem dX1_lowestSeatOf_8 : decode cX1_lowestSeatOf 8 = .ok (.aload_n 0, 1) := by decide +kernel
theorem dX1_lowestSeatOf_9 : decode cX1_lowestSeatOf 9 = .ok (.getfield 17, 3) := by decide +kernel
theorem dX1_lowestSeatOf_12 : decode cX1_lowestSeatOf 12 = .ok (.iload_n 3, 1) := by decide +kernel
theorem dX1_lowestSeatOf_13 : decode cX1_lowestSeatOf 13 = .ok (.aaload, 1) := by decide +kernel
theorem dX1_lowestSeatOf_14 : decode cX1_lowestSeatOf 14 = .ok (.aload_n 2, 1) := by decide +kernel
theorem dX1_lowestSeatOf_15 : decode cX1_lowestSeatOf 15 = .ok (.getfield 105, 3) := by decide +kernel
theorem dX1_lowestSeatOf_18 : decode cX1_lowestSeatOf 18 = .ok (.iload_n 3, 1) := by decide +kernel
theorem dX1_lowestSeatOf_19 : decode cX1_lowestSeatOf 19 = .ok (.aaload, 1) := by decide +kernel
theorem dX1_lowestSeatOf_20 : decode cX1_lowestSeatOf 20 = .ok (.invokevirtual 108, 3) := by decide +kernel
theorem dX1_lowestSeatOf_23 : decode cX1_lowestSeatOf 23 = .ok (.getfield 150, 3) := by decide +kernel
theorem dX1_lowestSeatOf_26 : decode cX1_lowestSeatOf 26 = .ok (.iload_n 1, 1) := by decide +kernel
theorem dX1_lowestSeatOf_27 : decode cX1_lowestSeatOf 27 = .ok (.if_icmp .ne 5, 3) := by decide +kernel
theorem dX1_lowestSeatOf_30 : decode cX1_lowestSeatOf 30 = .ok (.iload_n 3, 1) := by decide +kernel
theorem dX1_lowestSeatOf_31 : decode cX1_lowestSeatOf 31 = .ok (.ireturn, 1) := by decide +kernel
theorem dX1_lowestSeatOf_32 : decode cX1_lowestSeatOf 32 = .ok (.iinc 3 1, 3) := by decide +kernel
theorem dX1_lowestSeatOf_35 : decode cX1_lowestSeatOf 35 = .ok (.goto (-33), 3) := by decide +kernel
theorem dX1_lowestSeatOf_38 : decode cX1_lowestSeatOf 38 = .ok (.iconst (-1), 1) := by decide +kernel
theorem dX1_lowestSeatOf_39 : decode cX1_lowestSeatOf 39 = .ok (.ireturn, 1) := by decide +kernel
theorem dX1_give_0 : decode cX1_give 0 = .ok (.aload_n 0, 1) := by decide +kernel
theorem dX1_give_1 : decode cX1_give 1 = .ok (.getfield 34, 3) := by decide +kernel
theorem dX1_give_4 : decode cX1_give 4 = .ok (.ifnonnull 5, 3) := by decide +kernel
theorem dX1_give_7 : decode cX1_give 7 = .ok (.lconst 0, 1) := by decide +kernel
theorem dX1_give_8 : decode cX1_give 8 = .ok (.lreturn, 1) := by decide +kernel
theorem dX1_give_9 : decode cX1_give 9 = .ok (.aload_n 0, 1) := by decide +kernel
end
section
theorem dX1_give_10 : decode cX1_give 10 = .ok (.getfield 121, 3) := by decide +kernel
theorem dX1_give_13 : decode cX1_give 13 = .ok (.aload_n 0, 1) := by decide +kernel
theorem dX1_give_14 : decode cX1_give 14 = .ok (.getfield 34, 3) := by decide +kernel
theorem dX1_give_17 : decode cX1_give 17 = .ok (.getfield 153, 3) := by decide +kernel
theorem dX1_give_20 : decode cX1_give 20 = .ok (.invokestatic 127, 3) := by decide +kernel
theorem dX1_give_23 : decode cX1_give 23 = .ok (.aload_n 0, 1) := by decide +kernel
theorem dX1_give_24 : decode cX1_give 24 = .ok (.getfield 23, 3) := by decide +kernel
theorem dX1_give_27 : decode cX1_give 27 = .ok (.invokestatic 127, 3) := by decide +kernel
theorem dX1_give_30 : decode cX1_give 30 = .ok (.lstore_n 2, 1) := by decide +kernel
theorem dX1_give_31 : decode cX1_give 31 = .ok (.lload_n 2, 1) := by decide +kernel
theorem dX1_give_32 : decode cX1_give 32 = .ok (.aload_n 0, 1) := by decide +kernel
theorem dX1_give_33 : decode cX1_give 33 = .ok (.getfield 23, 3) := by decide +kernel
theorem dX1_give_36 : decode cX1_give 36 = .ok (.lcmp, 1) := by decide +kernel
theorem dX1_give_37 : decode cX1_give 37 = .ok (.ifCond .ne 12, 3) := by decide +kernel
theorem dX1_give_40 : decode cX1_give 40 = .ok (.aload_n 0, 1) := by decide +kernel
theorem dX1_give_41 : decode cX1_give 41 = .ok (.getfield 66, 3) := by decide +kernel
theorem dX1_give_44 : decode cX1_give 44 = .ok (.iconst 1, 1) := by decide +kernel
theorem dX1_give_45 : decode cX1_give 45 = .ok (.iadd, 1) := by decide +kernel
theorem dX1_give_46 : decode cX1_give 46 = .ok (.goto 4, 3) := by decide +kernel
theorem dX1_give_49 : decode cX1_give 49 = .ok (.iconst 0, 1) := by decide +kernel
theorem dX1_give_50 : decode cX1_give 50 = .ok (.istore 4, 2) := by decide +kernel
theorem dX1_give_52 : decode cX1_give 52 = .ok (.iload 4, 2) := by decide +kernel
theorem dX1_give_54 : decode cX1_give 54 = .ok (.iload_n 1, 1) := by decide +kernel
theorem dX1_give_55 : decode cX1_give 55 = .ok (.iadd, 1) := by decide +kernel
theorem dX1_give_56 : decode cX1_give 56 = .ok (.sipush 1024, 3) := by decide +kernel
theorem dX1_give_59 : decode cX1_give 59 = .ok (.if_icmp .le 10, 3) := by decide +kernel
theorem dX1_give_62 : decode cX1_give 62 = .ok (.lload_n 2, 1) := by decide +kernel
theorem dX1_give_63 : decode cX1_give 63 = .ok (.lconst 1, 1) := by decide +kernel
theorem dX1_give_64 : decode cX1_give 64 = .ok (.ladd, 1) := by decide +kernel
theorem dX1_give_65 : decode cX1_give 65 = .ok (.lstore_n 2, 1) := by decide +kernel
theorem dX1_give_66 : decode cX1_give 66 = .ok (.iconst 0, 1) := by decide +kernel
theorem dX1_give_67 : decode cX1_give 67 = .ok (.istore 4, 2) := by decide +kernel
theorem dX1_give_69 : decode cX1_give 69 = .ok (.lload_n 2, 1) := by decide +kernel
theorem dX1_give_70 : decode cX1_give 70 = .ok (.aload_n 0, 1) := by decide +kernel
theorem dX1_give_71 : decode cX1_give 71 = .ok (.getfield 34, 3) := by decide +kernel
theorem dX1_give_74 : decode cX1_give 74 = .ok (.getfield 134, 3) := by decide +kernel
theorem dX1_give_77 : decode cX1_give 77 = .ok (.getfield 124, 3) := by decide +kernel
theorem dX1_give_80 : decode cX1_give 80 = .ok (.lcmp, 1) := by decide +kernel
theorem dX1_give_81 : decode cX1_give 81 = .ok (.ifCond .gt 16, 3) := by decide +kernel
theorem dX1_give_84 : decode cX1_give 84 = .ok (.lload_n 2, 1) := by decide +kernel
theorem dX1_give_85 : decode cX1_give 85 = .ok (.aload_n 0, 1) := by decide +kernel
theorem dX1_give_86 : decode cX1_give 86 = .ok (.getfield 121, 3) := by decide +kernel
theorem dX1_give_89 : decode cX1_give 89 = .ok (.ldc2_w 156, 3) := by decide +kernel
theorem dX1_give_92 : decode cX1_give 92 = .ok (.ladd, 1) := by decide +kernel
theorem dX1_give_93 : decode cX1_give 93 = .ok (.lcmp, 1) := by decide +kernel
theorem dX1_give_94 : decode cX1_give 94 = .ok (.ifCond .le 5, 3) := by decide +kernel
theorem dX1_give_97 : decode cX1_give 97 = .ok (.lconst 0, 1) := by decide +kernel
theorem dX1_give_98 : decode cX1_give 98 = .ok (.lreturn, 1) := by decide +kernel
theorem dX1_give_99 : decode cX1_give 99 = .ok (.aload_n 0, 1) := by decide +kernel
theorem dX1_give_100 : decode cX1_give 100 = .ok (.lload_n 2, 1) := by decide +kernel
theorem dX1_give_101 : decode cX1_give 101 = .ok (.putfield 23, 3) := by decide +kernel
theorem dX1_give_104 : decode cX1_give 104 = .ok (.aload_n 0, 1) := by decide +kernel
theorem dX1_give_105 : decode cX1_give 105 = .ok (.iload 4, 2) := by decide +kernel
theorem dX1_give_107 : decode cX1_give 107 = .ok (.iload_n 1, 1) := by decide +kernel
theorem dX1_give_108 : decode cX1_give 108 = .ok (.iadd, 1) := by decide +kernel
theorem dX1_give_109 : decode cX1_give 109 = .ok (.iconst 1, 1) := by decide +kernel
theorem dX1_give_110 : decode cX1_give 110 = .ok (.isub, 1) := by decide +kernel
theorem dX1_give_111 : decode cX1_give 111 = .ok (.putfield 66, 3) := by decide +kernel
theorem dX1_give_114 : decode cX1_give 114 = .ok (.aload_n 0, 1) := by decide +kernel
theorem dX1_give_115 : decode cX1_give 115 = .ok (.dup, 1) := by decide +kernel
theorem dX1_give_116 : decode cX1_give 116 = .ok (.getfield 158, 3) := by decide +kernel
theorem dX1_give_119 : decode cX1_give 119 = .ok (.iload_n 1, 1) := by decide +kernel
theorem dX1_give_120 : decode cX1_give 120 = .ok (.i2l, 1) := by decide +kernel
theorem dX1_give_121 : decode cX1_give 121 = .ok (.ladd, 1) := by decide +kernel
theorem dX1_give_122 : decode cX1_give 122 = .ok (.putfield 158, 3) := by decide +kernel
theorem dX1_give_125 : decode cX1_give 125 = .ok (.lload_n 2, 1) := by decide +kernel
theorem dX1_give_126 : decode cX1_give 126 = .ok (.bipush 23, 2) := by decide +kernel
theorem dX1_give_128 : decode cX1_give 128 = .ok (.lshl, 1) := by decide +kernel
theorem dX1_give_129 : decode cX1_give 129 = .ok (.aload_n 0, 1) := by decide +kernel
theorem dX1_give_130 : decode cX1_give 130 = .ok (.getfield 34, 3) := by decide +kernel
theorem dX1_give_133 : decode cX1_give 133 = .ok (.getfield 112, 3) := by decide +kernel
theorem dX1_give_136 : decode cX1_give 136 = .ok (.i2l, 1) := by decide +kernel
theorem dX1_give_137 : decode cX1_give 137 = .ok (.bipush 10, 2) := by decide +kernel
theorem dX1_give_139 : decode cX1_give 139 = .ok (.lshl, 1) := by decide +kernel
theorem dX1_give_140 : decode cX1_give 140 = .ok (.ladd, 1) := by decide +kernel
theorem dX1_give_141 : decode cX1_give 141 = .ok (.iload 4, 2) := by decide +kernel
theorem dX1_give_143 : decode cX1_give 143 = .ok (.i2l, 1) := by decide +kernel
theorem dX1_give_144 : decode cX1_give 144 = .ok (.ladd, 1) := by decide +kernel
theorem dX1_give_145 : decode cX1_give 145 = .ok (.lreturn, 1) := by decide +kernel
theorem dX1_tellHeld_0 : decode cX1_tellHeld 0 = .ok (.aload_n 0, 1) := by decide +kernel
theorem dX1_tellHeld_1 : decode cX1_tellHeld 1 = .ok (.getfield 34, 3) := by decide +kernel
theorem dX1_tellHeld_4 : decode cX1_tellHeld 4 = .ok (.ifnonnull 7, 3) := by decide +kernel
theorem dX1_tellHeld_7 : decode cX1_tellHeld 7 = .ok (.ldc2_w 21, 3) := by decide +kernel
theorem dX1_tellHeld_10 : decode cX1_tellHeld 10 = .ok (.lreturn, 1) := by decide +kernel
theorem dX1_tellHeld_11 : decode cX1_tellHeld 11 = .ok (.iload_n 1, 1) := by decide +kernel
theorem dX1_tellHeld_12 : decode cX1_tellHeld 12 = .ok (.tableswitch 60 2 4 #[28, 37, 49], 28) := by decide +kernel
theorem dX1_tellHeld_40 : decode cX1_tellHeld 40 = .ok (.aload_n 0, 1) := by decide +kernel
theorem dX1_tellHeld_41 : decode cX1_tellHeld 41 = .ok (.getfield 34, 3) := by decide +kernel
theorem dX1_tellHeld_44 : decode cX1_tellHeld 44 = .ok (.getfield 112, 3) := by decide +kernel
theorem dX1_tellHeld_47 : decode cX1_tellHeld 47 = .ok (.i2l, 1) := by decide +kernel
theorem dX1_tellHeld_48 : decode cX1_tellHeld 48 = .ok (.lreturn, 1) := by decide +kernel
theorem dX1_tellHeld_49 : decode cX1_tellHeld 49 = .ok (.aload_n 0, 1) := by decide +kernel
theorem dX1_tellHeld_50 : decode cX1_tellHeld 50 = .ok (.getfield 34, 3) := by decide +kernel
theorem dX1_tellHeld_53 : decode cX1_tellHeld 53 = .ok (.getfield 134, 3) := by decide +kernel
theorem dX1_tellHeld_56 : decode cX1_tellHeld 56 = .ok (.getfield 137, 3) := by decide +kernel
theorem dX1_tellHeld_59 : decode cX1_tellHeld 59 = .ok (.i2l, 1) := by decide +kernel
theorem dX1_tellHeld_60 : decode cX1_tellHeld 60 = .ok (.lreturn, 1) := by decide +kernel
theorem dX1_tellHeld_61 : decode cX1_tellHeld 61 = .ok (.aload_n 0, 1) := by decide +kernel
theorem dX1_tellHeld_62 : decode cX1_tellHeld 62 = .ok (.getfield 34, 3) := by decide +kernel
theorem dX1_tellHeld_65 : decode cX1_tellHeld 65 = .ok (.getfield 134, 3) := by decide +kernel
theorem dX1_tellHeld_68 : decode cX1_tellHeld 68 = .ok (.getfield 124, 3) := by decide +kernel
theorem dX1_tellHeld_71 : decode cX1_tellHeld 71 = .ok (.lreturn, 1) := by decide +kernel
theorem dX1_tellHeld_72 : decode cX1_tellHeld 72 = .ok (.aload_n 0, 1) := by decide +kernel
theorem dX1_tellHeld_73 : decode cX1_tellHeld 73 = .ok (.getfield 23, 3) := by decide +kernel
theorem dX1_tellHeld_76 : decode cX1_tellHeld 76 = .ok (.lreturn, 1) := by decide +kernel
theorem dX2_init_0 : decode cX2_init 0 = .ok (.aload_n 0, 1) := by decide +kernel
theorem dX2_init_1 : decode cX2_init 1 = .ok (.invokespecial 3, 3) := by decide +kernel
theorem dX2_init_4 : decode cX2_init 4 = .ok (.aload_n 0, 1) := by decide +kernel
theorem dX2_init_5 : decode cX2_init 5 = .ok (.bipush 8, 2) := by decide +kernel
theorem dX2_init_7 : decode cX2_init 7 = .ok (.anewarray 9, 3) := by decide +kernel
theorem dX2_init_10 : decode cX2_init 10 = .ok (.putfield 11, 3) := by decide +kernel
theorem dX2_init_13 : decode cX2_init 13 = .ok (.aload_n 0, 1) := by decide +kernel
theorem dX2_init_14 : decode cX2_init 14 = .ok (.aload_n 1, 1) := by decide +kernel
theorem dX2_init_15 : decode cX2_init 15 = .ok (.putfield 17, 3) := by decide +kernel
theorem dX2_init_18 : decode cX2_init 18 = .ok (.iconst 0, 1) := by decide +kernel
theorem dX2_init_19 : decode cX2_init 19 = .ok (.istore_n 2, 1) := by decide +kernel
theorem dX2_init_20 : decode cX2_init 20 = .ok (.iload_n 2, 1) := by decide +kernel
theorem dX2_init_21 : decode cX2_init 21 = .ok (.bipush 8, 2) := by decide +kernel
theorem dX2_init_23 : decode cX2_init 23 = .ok (.if_icmp .ge 16, 3) := by decide +kernel
theorem dX2_init_26 : decode cX2_init 26 = .ok (.aload_n 0, 1) := by decide +kernel
theorem dX2_init_27 : decode cX2_init 27 = .ok (.getfield 11, 3) := by decide +kernel
theorem dX2_init_30 : decode cX2_init 30 = .ok (.iload_n 2, 1) := by decide +kernel
theorem dX2_init_31 : decode cX2_init 31 = .ok (.aload_n 1, 1) := by decide +kernel
theorem dX2_init_32 : decode cX2_init 32 = .ok (.aastore, 1) := by decide +kernel
theorem dX2_init_33 : decode cX2_init 33 = .ok (.iinc 2 1, 3) := by decide +kernel
theorem dX2_init_36 : decode cX2_init 36 = .ok (.goto (-16), 3) := by decide +kernel
theorem dX2_init_39 : decode cX2_init 39 = .ok (.return_, 1) := by decide +kernel
theorem dX2_isToNode_0 : decode cX2_isToNode 0 = .ok (.aload_n 0, 1) := by decide +kernel
theorem dX2_isToNode_1 : decode cX2_isToNode 1 = .ok (.getfield 21, 3) := by decide +kernel
theorem dX2_isToNode_4 : decode cX2_isToNode 4 = .ok (.ifCond .eq 11, 3) := by decide +kernel
theorem dX2_isToNode_7 : decode cX2_isToNode 7 = .ok (.aload_n 0, 1) := by decide +kernel
theorem dX2_isToNode_8 : decode cX2_isToNode 8 = .ok (.getfield 21, 3) := by decide +kernel
theorem dX2_isToNode_11 : decode cX2_isToNode 11 = .ok (.iconst 2, 1) := by decide +kernel
theorem dX2_isToNode_12 : decode cX2_isToNode 12 = .ok (.if_icmp .ne 7, 3) := by decide +kernel
theorem dX2_isToNode_15 : decode cX2_isToNode 15 = .ok (.iconst 1, 1) := by decide +kernel
theorem dX2_isToNode_16 : decode cX2_isToNode 16 = .ok (.goto 4, 3) := by decide +kernel
theorem dX2_isToNode_19 : decode cX2_isToNode 19 = .ok (.iconst 0, 1) := by decide +kernel
theorem dX2_isToNode_20 : decode cX2_isToNode 20 = .ok (.ireturn, 1) := by decide +kernel
theorem dX2_copyRows_0 : decode cX2_copyRows 0 = .ok (.iconst 0, 1) := by decide +kernel
theorem dX2_copyRows_1 : decode cX2_copyRows 1 = .ok (.istore_n 2, 1) := by decide +kernel
theorem dX2_copyRows_2 : decode cX2_copyRows 2 = .ok (.iload_n 2, 1) := by decide +kernel
theorem dX2_copyRows_3 : decode cX2_copyRows 3 = .ok (.bipush 8, 2) := by decide +kernel
theorem dX2_copyRows_5 : decode cX2_copyRows 5 = .ok (.if_icmp .ge 18, 3) := by decide +kernel
theorem dX2_copyRows_8 : decode cX2_copyRows 8 = .ok (.aload_n 0, 1) := by decide +kernel
theorem dX2_copyRows_9 : decode cX2_copyRows 9 = .ok (.getfield 11, 3) := by decide +kernel
theorem dX2_copyRows_12 : decode cX2_copyRows 12 = .ok (.iload_n 2, 1) := by decide +kernel
theorem dX2_copyRows_13 : decode cX2_copyRows 13 = .ok (.aload_n 1, 1) := by decide +kernel
theorem dX2_copyRows_14 : decode cX2_copyRows 14 = .ok (.iload_n 2, 1) := by decide +kernel
theorem dX2_copyRows_15 : decode cX2_copyRows 15 = .ok (.aaload, 1) := by decide +kernel
theorem dX2_copyRows_16 : decode cX2_copyRows 16 = .ok (.aastore, 1) := by decide +kernel
theorem dX2_copyRows_17 : decode cX2_copyRows 17 = .ok (.iinc 2 1, 3) := by decide +kernel
theorem dX2_copyRows_20 : decode cX2_copyRows 20 = .ok (.goto (-18), 3) := by decide +kernel
theorem dX2_copyRows_23 : decode cX2_copyRows 23 = .ok (.return_, 1) := by decide +kernel
theorem dX3_init_0 : decode cX3_init 0 = .ok (.aload_n 0, 1) := by decide +kernel
theorem dX3_init_1 : decode cX3_init 1 = .ok (.invokespecial 3, 3) := by decide +kernel
theorem dX3_init_4 : decode cX3_init 4 = .ok (.aload_n 0, 1) := by decide +kernel
theorem dX3_init_5 : decode cX3_init 5 = .ok (.iconst 1, 1) := by decide +kernel
theorem dX3_init_6 : decode cX3_init 6 = .ok (.putfield 9, 3) := by decide +kernel
theorem dX3_init_9 : decode cX3_init 9 = .ok (.aload_n 0, 1) := by decide +kernel
theorem dX3_init_10 : decode cX3_init 10 = .ok (.bipush 8, 2) := by decide +kernel
theorem dX3_init_12 : decode cX3_init 12 = .ok (.anewarray 15, 3) := by decide +kernel
theorem dX3_init_15 : decode cX3_init 15 = .ok (.putfield 17, 3) := by decide +kernel
theorem dX3_init_18 : decode cX3_init 18 = .ok (.iconst 0, 1) := by decide +kernel
theorem dX3_init_19 : decode cX3_init 19 = .ok (.istore_n 2, 1) := by decide +kernel
theorem dX3_init_20 : decode cX3_init 20 = .ok (.iload_n 2, 1) := by decide +kernel
theorem dX3_init_21 : decode cX3_init 21 = .ok (.bipush 8, 2) := by decide +kernel
theorem dX3_init_23 : decode cX3_init 23 = .ok (.if_icmp .ge 16, 3) := by decide +kernel
theorem dX3_init_26 : decode cX3_init 26 = .ok (.aload_n 0, 1) := by decide +kernel
theorem dX3_init_27 : decode cX3_init 27 = .ok (.getfield 17, 3) := by decide +kernel
theorem dX3_init_30 : decode cX3_init 30 = .ok (.iload_n 2, 1) := by decide +kernel
theorem dX3_init_31 : decode cX3_init 31 = .ok (.aload_n 1, 1) := by decide +kernel
theorem dX3_init_32 : decode cX3_init 32 = .ok (.aastore, 1) := by decide +kernel
theorem dX3_init_33 : decode cX3_init 33 = .ok (.iinc 2 1, 3) := by decide +kernel
theorem dX3_init_36 : decode cX3_init 36 = .ok (.goto (-16), 3) := by decide +kernel
theorem dX3_init_39 : decode cX3_init 39 = .ok (.return_, 1) := by decide +kernel
theorem dX3_answerPrepare_0 : decode cX3_answerPrepare 0 = .ok (.aload_n 1, 1) := by decide +kernel
theorem dX3_answerPrepare_1 : decode cX3_answerPrepare 1 = .ok (.getfield 21, 3) := by decide +kernel
theorem dX3_answerPrepare_4 : decode cX3_answerPrepare 4 = .ok (.aload_n 0, 1) := by decide +kernel
theorem dX3_answerPrepare_5 : decode cX3_answerPrepare 5 = .ok (.getfield 27, 3) := by decide +kernel
theorem dX3_answerPrepare_8 : decode cX3_answerPrepare 8 = .ok (.if_icmp .gt 10, 3) := by decide +kernel
theorem dX3_answerPrepare_11 : decode cX3_answerPrepare 11 = .ok (.aload_n 0, 1) := by decide +kernel
theorem dX3_answerPrepare_12 : decode cX3_answerPrepare 12 = .ok (.aload_n 1, 1) := by decide +kernel
theorem dX3_answerPrepare_13 : decode cX3_answerPrepare 13 = .ok (.aload_n 2, 1) := by decide +kernel
theorem dX3_answerPrepare_14 : decode cX3_answerPrepare 14 = .ok (.invokevirtual 30, 3) := by decide +kernel
theorem dX3_answerPrepare_17 : decode cX3_answerPrepare 17 = .ok (.return_, 1) := by decide +kernel
theorem dX3_answerPrepare_18 : decode cX3_answerPrepare 18 = .ok (.aload_n 0, 1) := by decide +kernel
theorem dX3_answerPrepare_19 : decode cX3_answerPrepare 19 = .ok (.aload_n 1, 1) := by decide +kernel
theorem dX3_answerPrepare_20 : decode cX3_answerPrepare 20 = .ok (.getfield 21, 3) := by decide +kernel
theorem dX3_answerPrepare_23 : decode cX3_answerPrepare 23 = .ok (.putfield 27, 3) := by decide +kernel
theorem dX3_answerPrepare_26 : decode cX3_answerPrepare 26 = .ok (.aload_n 2, 1) := by decide +kernel
theorem dX3_answerPrepare_27 : decode cX3_answerPrepare 27 = .ok (.iconst 1, 1) := by decide +kernel
theorem dX3_answerPrepare_28 : decode cX3_answerPrepare 28 = .ok (.aload_n 1, 1) := by decide +kernel
theorem dX3_answerPrepare_29 : decode cX3_answerPrepare 29 = .ok (.getfield 34, 3) := by decide +kernel
theorem dX3_answerPrepare_32 : decode cX3_answerPrepare 32 = .ok (.aload_n 1, 1) := by decide +kernel
theorem dX3_answerPrepare_33 : decode cX3_answerPrepare 33 = .ok (.getfield 37, 3) := by decide +kernel
theorem dX3_answerPrepare_36 : decode cX3_answerPrepare 36 = .ok (.aload_n 1, 1) := by decide +kernel
theorem dX3_answerPrepare_37 : decode cX3_answerPrepare 37 = .ok (.getfield 21, 3) := by decide +kernel
theorem dX3_answerPrepare_40 : decode cX3_answerPrepare 40 = .ok (.invokevirtual 40, 3) := by decide +kernel
theorem dX3_answerPrepare_43 : decode cX3_answerPrepare 43 = .ok (.aload_n 0, 1) := by decide +kernel
theorem dX3_answerPrepare_44 : decode cX3_answerPrepare 44 = .ok (.getfield 17, 3) := by decide +kernel
theorem dX3_answerPrepare_47 : decode cX3_answerPrepare 47 = .ok (.invokevirtual 46, 3) := by decide +kernel
theorem dX3_answerPrepare_50 : decode cX3_answerPrepare 50 = .ok (.return_, 1) := by decide +kernel
theorem dX3_answerAccept_0 : decode cX3_answerAccept 0 = .ok (.aload_n 1, 1) := by decide +kernel
theorem dX3_answerAccept_1 : decode cX3_answerAccept 1 = .ok (.getfield 21, 3) := by decide +kernel
theorem dX3_answerAccept_4 : decode cX3_answerAccept 4 = .ok (.aload_n 0, 1) := by decide +kernel
theorem dX3_answerAccept_5 : decode cX3_answerAccept 5 = .ok (.getfield 27, 3) := by decide +kernel
theorem dX3_answerAccept_8 : decode cX3_answerAccept 8 = .ok (.if_icmp .ge 10, 3) := by decide +kernel
theorem dX3_answerAccept_11 : decode cX3_answerAccept 11 = .ok (.aload_n 0, 1) := by decide +kernel
theorem dX3_answerAccept_12 : decode cX3_answerAccept 12 = .ok (.aload_n 1, 1) := by decide +kernel
theorem dX3_answerAccept_13 : decode cX3_answerAccept 13 = .ok (.aload_n 2, 1) := by decide +kernel
theorem dX3_answerAccept_14 : decode cX3_answerAccept 14 = .ok (.invokevirtual 30, 3) := by decide +kernel
theorem dX3_answerAccept_17 : decode cX3_answerAccept 17 = .ok (.return_, 1) := by decide +kernel
theorem dX3_answerAccept_18 : decode cX3_answerAccept 18 = .ok (.aload_n 0, 1) := by decide +kernel
theorem dX3_answerAccept_19 : decode cX3_answerAccept 19 = .ok (.aload_n 1, 1) := by decide +kernel
theorem dX3_answerAccept_20 : decode cX3_answerAccept 20 = .ok (.getfield 21, 3) := by decide +kernel
theorem dX3_answerAccept_23 : decode cX3_answerAccept 23 = .ok (.putfield 27, 3) := by decide +kernel
theorem dX3_answerAccept_26 : decode cX3_answerAccept 26 = .ok (.aload_n 0, 1) := by decide +kernel
theorem dX3_answerAccept_27 : decode cX3_answerAccept 27 = .ok (.getfield 17, 3) := by decide +kernel
theorem dX3_answerAccept_30 : decode cX3_answerAccept 30 = .ok (.aload_n 1, 1) := by decide +kernel
theorem dX3_answerAccept_31 : decode cX3_answerAccept 31 = .ok (.getfield 50, 3) := by decide +kernel
theorem dX3_answerAccept_34 : decode cX3_answerAccept 34 = .ok (.aload_n 1, 1) := by decide +kernel
theorem dX3_answerAccept_35 : decode cX3_answerAccept 35 = .ok (.getfield 53, 3) := by decide +kernel
theorem dX3_answerAccept_38 : decode cX3_answerAccept 38 = .ok (.aastore, 1) := by decide +kernel
theorem dX3_answerAccept_39 : decode cX3_answerAccept 39 = .ok (.aload_n 2, 1) := by decide +kernel
theorem dX3_answerAccept_40 : decode cX3_answerAccept 40 = .ok (.iconst 3, 1) := by decide +kernel
theorem dX3_answerAccept_41 : decode cX3_answerAccept 41 = .ok (.aload_n 1, 1) := by decide +kernel
theorem dX3_answerAccept_42 : decode cX3_answerAccept 42 = .ok (.getfield 34, 3) := by decide +kernel
theorem dX3_answerAccept_45 : decode cX3_answerAccept 45 = .ok (.aload_n 1, 1) := by decide +kernel
theorem dX3_answerAccept_46 : decode cX3_answerAccept 46 = .ok (.getfield 37, 3) := by decide +kernel
theorem dX3_answerAccept_49 : decode cX3_answerAccept 49 = .ok (.aload_n 1, 1) := by decide +kernel
theorem dX3_answerAccept_50 : decode cX3_answerAccept 50 = .ok (.getfield 21, 3) := by decide +kernel
theorem dX3_answerAccept_53 : decode cX3_answerAccept 53 = .ok (.invokevirtual 40, 3) := by decide +kernel
theorem dX3_answerAccept_56 : decode cX3_answerAccept 56 = .ok (.pop, 1) := by decide +kernel
theorem dX3_answerAccept_57 : decode cX3_answerAccept 57 = .ok (.return_, 1) := by decide +kernel
theorem dX3_refuse_0 : decode cX3_refuse 0 = .ok (.aload_n 2, 1) := by decide +kernel
theorem dX3_refuse_1 : decode cX3_refuse 1 = .ok (.iconst 4, 1) := by decide +kernel
theorem dX3_refuse_2 : decode cX3_refuse 2 = .ok (.aload_n 1, 1) := by decide +kernel
theorem dX3_refuse_3 : decode cX3_refuse 3 = .ok (.getfield 34, 3) := by decide +kernel
theorem dX3_refuse_6 : decode cX3_refuse 6 = .ok (.aload_n 1, 1) := by decide +kernel
theorem dX3_refuse_7 : decode cX3_refuse 7 = .ok (.getfield 37, 3) := by decide +kernel
theorem dX3_refuse_10 : decode cX3_refuse 10 = .ok (.aload_n 1, 1) := by decide +kernel
theorem dX3_refuse_11 : decode cX3_refuse 11 = .ok (.getfield 21, 3) := by decide +kernel
theorem dX3_refuse_14 : decode cX3_refuse 14 = .ok (.invokevirtual 40, 3) := by decide +kernel
theorem dX3_refuse_17 : decode cX3_refuse 17 = .ok (.aload_n 0, 1) := by decide +kernel
theorem dX3_refuse_18 : decode cX3_refuse 18 = .ok (.getfield 27, 3) := by decide +kernel
theorem dX3_refuse_21 : decode cX3_refuse 21 = .ok (.putfield 57, 3) := by decide +kernel
theorem dX3_refuse_24 : decode cX3_refuse 24 = .ok (.return_, 1) := by decide +kernel
theorem dX4_init_0 : decode cX4_init 0 = .ok (.aload_n 0, 1) := by decide +kernel
theorem dX4_init_1 : decode cX4_init 1 = .ok (.invokespecial 3, 3) := by decide +kernel
theorem dX4_init_4 : decode cX4_init 4 = .ok (.aload_n 0, 1) := by decide +kernel
theorem dX4_init_5 : decode cX4_init 5 = .ok (.bipush 91, 2) := by decide +kernel
theorem dX4_init_7 : decode cX4_init 7 = .ok (.anewarray 9, 3) := by decide +kernel
theorem dX4_init_10 : decode cX4_init 10 = .ok (.putfield 11, 3) := by decide +kernel
theorem dX4_init_13 : decode cX4_init 13 = .ok (.iconst 0, 1) := by decide +kernel
theorem dX4_init_14 : decode cX4_init 14 = .ok (.istore_n 2, 1) := by decide +kernel
theorem dX4_init_15 : decode cX4_init 15 = .ok (.iload_n 2, 1) := by decide +kernel
theorem dX4_init_16 : decode cX4_init 16 = .ok (.aload_n 0, 1) := by decide +kernel
theorem dX4_init_17 : decode cX4_init 17 = .ok (.getfield 11, 3) := by decide +kernel
theorem dX4_init_20 : decode cX4_init 20 = .ok (.arraylength, 1) := by decide +kernel
theorem dX4_init_21 : decode cX4_init 21 = .ok (.if_icmp .ge 23, 3) := by decide +kernel
theorem dX4_init_24 : decode cX4_init 24 = .ok (.aload_n 0, 1) := by decide +kernel
theorem dX4_init_25 : decode cX4_init 25 = .ok (.getfield 11, 3) := by decide +kernel
theorem dX4_init_28 : decode cX4_init 28 = .ok (.iload_n 2, 1) := by decide +kernel
theorem dX4_init_29 : decode cX4_init 29 = .ok (.new 9, 3) := by decide +kernel
theorem dX4_init_32 : decode cX4_init 32 = .ok (.dup, 1) := by decide +kernel
theorem dX4_init_33 : decode cX4_init 33 = .ok (.aload_n 1, 1) := by decide +kernel
theorem dX4_init_34 : decode cX4_init 34 = .ok (.invokespecial 17, 3) := by decide +kernel
theorem dX4_init_37 : decode cX4_init 37 = .ok (.aastore, 1) := by decide +kernel
theorem dX4_init_38 : decode cX4_init 38 = .ok (.iinc 2 1, 3) := by decide +kernel
theorem dX4_init_41 : decode cX4_init 41 = .ok (.goto (-26), 3) := by decide +kernel
theorem dX4_init_44 : decode cX4_init 44 = .ok (.return_, 1) := by decide +kernel
theorem dX4_hasRoomFor_0 : decode cX4_hasRoomFor 0 = .ok (.aload_n 0, 1) := by decide +kernel
theorem dX4_hasRoomFor_1 : decode cX4_hasRoomFor 1 = .ok (.getfield 20, 3) := by decide +kernel
theorem dX4_hasRoomFor_4 : decode cX4_hasRoomFor 4 = .ok (.iload_n 1, 1) := by decide +kernel
theorem dX4_hasRoomFor_5 : decode cX4_hasRoomFor 5 = .ok (.iadd, 1) := by decide +kernel
theorem dX4_hasRoomFor_6 : decode cX4_hasRoomFor 6 = .ok (.bipush 90, 2) := by decide +kernel
theorem dX4_hasRoomFor_8 : decode cX4_hasRoomFor 8 = .ok (.if_icmp .gt 7, 3) := by decide +kernel
theorem dX4_hasRoomFor_11 : decode cX4_hasRoomFor 11 = .ok (.iconst 1, 1) := by decide +kernel
theorem dX4_hasRoomFor_12 : decode cX4_hasRoomFor 12 = .ok (.goto 4, 3) := by decide +kernel
theorem dX4_hasRoomFor_15 : decode cX4_hasRoomFor 15 = .ok (.iconst 0, 1) := by decide +kernel
theorem dX4_hasRoomFor_16 : decode cX4_hasRoomFor 16 = .ok (.ireturn, 1) := by decide +kernel
theorem dX4_at_0 : decode cX4_at 0 = .ok (.aload_n 0, 1) := by decide +kernel
theorem dX4_at_1 : decode cX4_at 1 = .ok (.getfield 11, 3) := by decide +kernel
theorem dX4_at_4 : decode cX4_at 4 = .ok (.iload_n 1, 1) := by decide +kernel
theorem dX4_at_5 : decode cX4_at 5 = .ok (.aaload, 1) := by decide +kernel
theorem dX4_at_6 : decode cX4_at 6 = .ok (.areturn, 1) := by decide +kernel
theorem dX4_send_0 : decode cX4_send 0 = .ok (.aload_n 0, 1) := by decide +kernel
theorem dX4_send_1 : decode cX4_send 1 = .ok (.getfield 11, 3) := by decide +kernel
theorem dX4_send_4 : decode cX4_send 4 = .ok (.aload_n 0, 1) := by decide +kernel
theorem dX4_send_5 : decode cX4_send 5 = .ok (.getfield 20, 3) := by decide +kernel
theorem dX4_send_8 : decode cX4_send 8 = .ok (.aaload, 1) := by decide +kernel
theorem dX4_send_9 : decode cX4_send 9 = .ok (.astore 5, 2) := by decide +kernel
theorem dX4_send_11 : decode cX4_send 11 = .ok (.aload_n 0, 1) := by decide +kernel
theorem dX4_send_12 : decode cX4_send 12 = .ok (.dup, 1) := by decide +kernel
theorem dX4_send_13 : decode cX4_send 13 = .ok (.getfield 20, 3) := by decide +kernel
theorem dX4_send_16 : decode cX4_send 16 = .ok (.iconst 1, 1) := by decide +kernel
theorem dX4_send_17 : decode cX4_send 17 = .ok (.iadd, 1) := by decide +kernel
theorem dX4_send_18 : decode cX4_send 18 = .ok (.putfield 20, 3) := by decide +kernel
theorem dX4_send_21 : decode cX4_send 21 = .ok (.aload 5, 2) := by decide +kernel
theorem dX4_send_23 : decode cX4_send 23 = .ok (.iload_n 1, 1) := by decide +kernel
theorem dX4_send_24 : decode cX4_send 24 = .ok (.putfield 24, 3) := by decide +kernel
theorem dX4_send_27 : decode cX4_send 27 = .ok (.aload 5, 2) := by decide +kernel
theorem dX4_send_29 : decode cX4_send 29 = .ok (.iload_n 2, 1) := by decide +kernel
theorem dX4_send_30 : decode cX4_send 30 = .ok (.putfield 27, 3) := by decide +kernel
theorem dX4_send_33 : decode cX4_send 33 = .ok (.aload 5, 2) := by decide +kernel
theorem dX4_send_35 : decode cX4_send 35 = .ok (.iload_n 3, 1) := by decide +kernel
theorem dX4_send_36 : decode cX4_send 36 = .ok (.putfield 30, 3) := by decide +kernel
theorem dX4_send_39 : decode cX4_send 39 = .ok (.aload 5, 2) := by decide +kernel
theorem dX4_send_41 : decode cX4_send 41 = .ok (.iload 4, 2) := by decide +kernel
theorem dX4_send_43 : decode cX4_send 43 = .ok (.putfield 33, 3) := by decide +kernel
theorem dX4_send_46 : decode cX4_send 46 = .ok (.aload 5, 2) := by decide +kernel
theorem dX4_send_48 : decode cX4_send 48 = .ok (.iconst (-1), 1) := by decide +kernel
theorem dX4_send_49 : decode cX4_send 49 = .ok (.putfield 36, 3) := by decide +kernel
theorem dX4_send_52 : decode cX4_send 52 = .ok (.aload 5, 2) := by decide +kernel
theorem dX4_send_54 : decode cX4_send 54 = .ok (.iconst (-1), 1) := by decide +kernel
theorem dX4_send_55 : decode cX4_send 55 = .ok (.putfield 39, 3) := by decide +kernel
theorem dX4_send_58 : decode cX4_send 58 = .ok (.aload 5, 2) := by decide +kernel
theorem dX4_send_60 : decode cX4_send 60 = .ok (.areturn, 1) := by decide +kernel
theorem dX4_sendAgain_0 : decode cX4_sendAgain 0 = .ok (.aload_n 0, 1) := by decide +kernel
theorem dX4_sendAgain_1 : decode cX4_sendAgain 1 = .ok (.getfield 11, 3) := by decide +kernel
theorem dX4_sendAgain_4 : decode cX4_sendAgain 4 = .ok (.iload_n 1, 1) := by decide +kernel
theorem dX4_sendAgain_5 : decode cX4_sendAgain 5 = .ok (.aaload, 1) := by decide +kernel
theorem dX4_sendAgain_6 : decode cX4_sendAgain 6 = .ok (.astore_n 2, 1) := by decide +kernel
theorem dX4_sendAgain_7 : decode cX4_sendAgain 7 = .ok (.aload_n 0, 1) := by decide +kernel
theorem dX4_sendAgain_8 : decode cX4_sendAgain 8 = .ok (.aload_n 2, 1) := by decide +kernel
theorem dX4_sendAgain_9 : decode cX4_sendAgain 9 = .ok (.getfield 24, 3) := by decide +kernel
theorem dX4_sendAgain_12 : decode cX4_sendAgain 12 = .ok (.aload_n 2, 1) := by decide +kernel
theorem dX4_sendAgain_13 : decode cX4_sendAgain 13 = .ok (.getfield 27, 3) := by decide +kernel
theorem dX4_sendAgain_16 : decode cX4_sendAgain 16 = .ok (.aload_n 2, 1) := by decide +kernel
theorem dX4_sendAgain_17 : decode cX4_sendAgain 17 = .ok (.getfield 30, 3) := by decide +kernel
theorem dX4_sendAgain_20 : decode cX4_sendAgain 20 = .ok (.aload_n 2, 1) := by decide +kernel
theorem dX4_sendAgain_21 : decode cX4_sendAgain 21 = .ok (.getfield 33, 3) := by decide +kernel
theorem dX4_sendAgain_24 : decode cX4_sendAgain 24 = .ok (.invokevirtual 42, 3) := by decide +kernel
theorem dX4_sendAgain_27 : decode cX4_sendAgain 27 = .ok (.astore_n 3, 1) := by decide +kernel
theorem dX4_sendAgain_28 : decode cX4_sendAgain 28 = .ok (.aload_n 3, 1) := by decide +kernel
theorem dX4_sendAgain_29 : decode cX4_sendAgain 29 = .ok (.aload_n 2, 1) := by decide +kernel
theorem dX4_sendAgain_30 : decode cX4_sendAgain 30 = .ok (.getfield 36, 3) := by decide +kernel
theorem dX4_sendAgain_33 : decode cX4_sendAgain 33 = .ok (.putfield 36, 3) := by decide +kernel
theorem dX4_sendAgain_36 : decode cX4_sendAgain 36 = .ok (.aload_n 3, 1) := by decide +kernel
theorem dX4_sendAgain_37 : decode cX4_sendAgain 37 = .ok (.aload_n 2, 1) := by decide +kernel
theorem dX4_sendAgain_38 : decode cX4_sendAgain 38 = .ok (.getfield 39, 3) := by decide +kernel
theorem dX4_sendAgain_41 : decode cX4_sendAgain 41 = .ok (.putfield 39, 3) := by decide +kernel
theorem dX4_sendAgain_44 : decode cX4_sendAgain 44 = .ok (.aload_n 3, 1) := by decide +kernel
theorem dX4_sendAgain_45 : decode cX4_sendAgain 45 = .ok (.aload_n 2, 1) := by decide +kernel
theorem dX4_sendAgain_46 : decode cX4_sendAgain 46 = .ok (.getfield 46, 3) := by decide +kernel
theorem dX4_sendAgain_49 : decode cX4_sendAgain 49 = .ok (.putfield 46, 3) := by decide +kernel
theorem dX4_sendAgain_52 : decode cX4_sendAgain 52 = .ok (.aload_n 3, 1) := by decide +kernel
theorem dX4_sendAgain_53 : decode cX4_sendAgain 53 = .ok (.aload_n 2, 1) := by decide +kernel
theorem dX4_sendAgain_54 : decode cX4_sendAgain 54 = .ok (.getfield 50, 3) := by decide +kernel
theorem dX4_sendAgain_57 : decode cX4_sendAgain 57 = .ok (.invokevirtual 54, 3) := by decide +kernel
theorem dX4_sendAgain_60 : decode cX4_sendAgain 60 = .ok (.return_, 1) := by decide +kernel
theorem dX4_take_0 : decode cX4_take 0 = .ok (.aload_n 0, 1) := by decide +kernel
theorem dX4_take_1 : decode cX4_take 1 = .ok (.getfield 11, 3) := by decide +kernel
theorem dX4_take_4 : decode cX4_take 4 = .ok (.iload_n 1, 1) := by decide +kernel
theorem dX4_take_5 : decode cX4_take 5 = .ok (.aaload, 1) := by decide +kernel
theorem dX4_take_6 : decode cX4_take 6 = .ok (.astore_n 2, 1) := by decide +kernel
theorem dX4_take_7 : decode cX4_take 7 = .ok (.iload_n 1, 1) := by decide +kernel
theorem dX4_take_8 : decode cX4_take 8 = .ok (.istore_n 3, 1) := by decide +kernel
theorem dX4_take_9 : decode cX4_take 9 = .ok (.iload_n 3, 1) := by decide +kernel
theorem dX4_take_10 : decode cX4_take 10 = .ok (.bipush 90, 2) := by decide +kernel
theorem dX4_take_12 : decode cX4_take 12 = .ok (.if_icmp .ge 23, 3) := by decide +kernel
theorem dX4_take_15 : decode cX4_take 15 = .ok (.aload_n 0, 1) := by decide +kernel
theorem dX4_take_16 : decode cX4_take 16 = .ok (.getfield 11, 3) := by decide +kernel
theorem dX4_take_19 : decode cX4_take 19 = .ok (.iload_n 3, 1) := by decide +kernel
theorem dX4_take_20 : decode cX4_take 20 = .ok (.aload_n 0, 1) := by decide +kernel
theorem dX4_take_21 : decode cX4_take 21 = .ok (.getfield 11, 3) := by decide +kernel
theorem dX4_take_24 : decode cX4_take 24 = .ok (.iload_n 3, 1) := by decide +kernel
theorem dX4_take_25 : decode cX4_take 25 = .ok (.iconst 1, 1) := by decide +kernel
theorem dX4_take_26 : decode cX4_take 26 = .ok (.iadd, 1) := by decide +kernel
theorem dX4_take_27 : decode cX4_take 27 = .ok (.aaload, 1) := by decide +kernel
theorem dX4_take_28 : decode cX4_take 28 = .ok (.aastore, 1) := by decide +kernel
theorem dX4_take_29 : decode cX4_take 29 = .ok (.iinc 3 1, 3) := by decide +kernel
theorem dX4_take_32 : decode cX4_take 32 = .ok (.goto (-23), 3) := by decide +kernel
theorem dX4_take_35 : decode cX4_take 35 = .ok (.aload_n 0, 1) := by decide +kernel
theorem dX4_take_36 : decode cX4_take 36 = .ok (.getfield 11, 3) := by decide +kernel
theorem dX4_take_39 : decode cX4_take 39 = .ok (.bipush 90, 2) := by decide +kernel
theorem dX4_take_41 : decode cX4_take 41 = .ok (.aload_n 2, 1) := by decide +kernel
theorem dX4_take_42 : decode cX4_take 42 = .ok (.aastore, 1) := by decide +kernel
theorem dX4_take_43 : decode cX4_take 43 = .ok (.aload_n 0, 1) := by decide +kernel
theorem dX4_take_44 : decode cX4_take 44 = .ok (.dup, 1) := by decide +kernel
theorem dX4_take_45 : decode cX4_take 45 = .ok (.getfield 20, 3) := by decide +kernel
theorem dX4_take_48 : decode cX4_take 48 = .ok (.iconst 1, 1) := by decide +kernel
theorem dX4_take_49 : decode cX4_take 49 = .ok (.isub, 1) := by decide +kernel
theorem dX4_take_50 : decode cX4_take 50 = .ok (.putfield 20, 3) := by decide +kernel
theorem dX4_take_53 : decode cX4_take 53 = .ok (.return_, 1) := by decide +kernel
theorem dX5_init_0 : decode cX5_init 0 = .ok (.aload_n 0, 1) := by decide +kernel
theorem dX5_init_1 : decode cX5_init 1 = .ok (.invokespecial 1, 3) := by decide +kernel
theorem dX5_init_4 : decode cX5_init 4 = .ok (.aload_n 0, 1) := by decide +kernel
theorem dX5_init_5 : decode cX5_init 5 = .ok (.iload_n 1, 1) := by decide +kernel
theorem dX5_init_6 : decode cX5_init 6 = .ok (.putfield 7, 3) := by decide +kernel
theorem dX5_init_9 : decode cX5_init 9 = .ok (.aload_n 0, 1) := by decide +kernel
theorem dX5_init_10 : decode cX5_init 10 = .ok (.iload_n 2, 1) := by decide +kernel
theorem dX5_init_11 : decode cX5_init 11 = .ok (.putfield 13, 3) := by decide +kernel
theorem dX5_init_14 : decode cX5_init 14 = .ok (.aload_n 0, 1) := by decide +kernel
theorem dX5_init_15 : decode cX5_init 15 = .ok (.iload_n 3, 1) := by decide +kernel
theorem dX5_init_16 : decode cX5_init 16 = .ok (.putfield 16, 3) := by decide +kernel
theorem dX5_init_19 : decode cX5_init 19 = .ok (.aload_n 0, 1) := by decide +kernel
theorem dX5_init_20 : decode cX5_init 20 = .ok (.lload 4, 2) := by decide +kernel
theorem dX5_init_22 : decode cX5_init 22 = .ok (.putfield 19, 3) := by decide +kernel
theorem dX5_init_25 : decode cX5_init 25 = .ok (.return_, 1) := by decide +kernel
end
section
theorem dX5_orNewer_0 : decode cX5_orNewer 0 = .ok (.aload_n 1, 1) := by decide +kernel
theorem dX5_orNewer_1 : decode cX5_orNewer 1 = .ok (.getfield 7, 3) := by decide +kernel
theorem dX5_orNewer_4 : decode cX5_orNewer 4 = .ok (.aload_n 0, 1) := by decide +kernel
theorem dX5_orNewer_5 : decode cX5_orNewer 5 = .ok (.getfield 7, 3) := by decide +kernel
theorem dX5_orNewer_8 : decode cX5_orNewer 8 = .ok (.if_icmp .le 7, 3) := by decide +kernel
theorem dX5_orNewer_11 : decode cX5_orNewer 11 = .ok (.aload_n 1, 1) := by decide +kernel
theorem dX5_orNewer_12 : decode cX5_orNewer 12 = .ok (.goto 4, 3) := by decide +kernel
theorem dX5_orNewer_15 : decode cX5_orNewer 15 = .ok (.aload_n 0, 1) := by decide +kernel
theorem dX5_orNewer_16 : decode cX5_orNewer 16 = .ok (.areturn, 1) := by decide +kernel
theorem dX6_init_0 : decode cX6_init 0 = .ok (.aload_n 0, 1) := by decide +kernel
theorem dX6_init_1 : decode cX6_init 1 = .ok (.invokespecial 3, 3) := by decide +kernel
theorem dX6_init_4 : decode cX6_init 4 = .ok (.aload_n 0, 1) := by decide +kernel
theorem dX6_init_5 : decode cX6_init 5 = .ok (.bipush 8, 2) := by decide +kernel
theorem dX6_init_7 : decode cX6_init 7 = .ok (.anewarray 9, 3) := by decide +kernel
theorem dX6_init_10 : decode cX6_init 10 = .ok (.putfield 11, 3) := by decide +kernel
theorem dX6_init_13 : decode cX6_init 13 = .ok (.aload_n 0, 1) := by decide +kernel
theorem dX6_init_14 : decode cX6_init 14 = .ok (.iconst 5, 1) := by decide +kernel
theorem dX6_init_15 : decode cX6_init 15 = .ok (.anewarray 15, 3) := by decide +kernel
theorem dX6_init_18 : decode cX6_init 18 = .ok (.putfield 17, 3) := by decide +kernel
theorem dX6_init_21 : decode cX6_init 21 = .ok (.aload_n 0, 1) := by decide +kernel
theorem dX6_init_22 : decode cX6_init 22 = .ok (.new 21, 3) := by decide +kernel
theorem dX6_init_25 : decode cX6_init 25 = .ok (.dup, 1) := by decide +kernel
theorem dX6_init_26 : decode cX6_init 26 = .ok (.iconst 0, 1) := by decide +kernel
theorem dX6_init_27 : decode cX6_init 27 = .ok (.iconst (-1), 1) := by decide +kernel
theorem dX6_init_28 : decode cX6_init 28 = .ok (.iconst 0, 1) := by decide +kernel
theorem dX6_init_29 : decode cX6_init 29 = .ok (.lconst 0, 1) := by decide +kernel
theorem dX6_init_30 : decode cX6_init 30 = .ok (.invokespecial 23, 3) := by decide +kernel
theorem dX6_init_33 : decode cX6_init 33 = .ok (.putfield 26, 3) := by decide +kernel
theorem dX6_init_36 : decode cX6_init 36 = .ok (.aload_n 0, 1) := by decide +kernel
theorem dX6_init_37 : decode cX6_init 37 = .ok (.new 30, 3) := by decide +kernel
theorem dX6_init_40 : decode cX6_init 40 = .ok (.dup, 1) := by decide +kernel
theorem dX6_init_41 : decode cX6_init 41 = .ok (.aload_n 0, 1) := by decide +kernel
theorem dX6_init_42 : decode cX6_init 42 = .ok (.getfield 26, 3) := by decide +kernel
theorem dX6_init_45 : decode cX6_init 45 = .ok (.invokespecial 32, 3) := by decide +kernel
theorem dX6_init_48 : decode cX6_init 48 = .ok (.putfield 35, 3) := by decide +kernel
theorem dX6_init_51 : decode cX6_init 51 = .ok (.iconst 0, 1) := by decide +kernel
theorem dX6_init_52 : decode cX6_init 52 = .ok (.istore_n 1, 1) := by decide +kernel
theorem dX6_init_53 : decode cX6_init 53 = .ok (.iload_n 1, 1) := by decide +kernel
theorem dX6_init_54 : decode cX6_init 54 = .ok (.bipush 8, 2) := by decide +kernel
theorem dX6_init_56 : decode cX6_init 56 = .ok (.if_icmp .ge 27, 3) := by decide +kernel
theorem dX6_init_59 : decode cX6_init 59 = .ok (.aload_n 0, 1) := by decide +kernel
theorem dX6_init_60 : decode cX6_init 60 = .ok (.getfield 11, 3) := by decide +kernel
theorem dX6_init_63 : decode cX6_init 63 = .ok (.iload_n 1, 1) := by decide +kernel
theorem dX6_init_64 : decode cX6_init 64 = .ok (.new 9, 3) := by decide +kernel
theorem dX6_init_67 : decode cX6_init 67 = .ok (.dup, 1) := by decide +kernel
theorem dX6_init_68 : decode cX6_init 68 = .ok (.iload_n 1, 1) := by decide +kernel
theorem dX6_init_69 : decode cX6_init 69 = .ok (.aload_n 0, 1) := by decide +kernel
theorem dX6_init_70 : decode cX6_init 70 = .ok (.getfield 26, 3) := by decide +kernel
theorem dX6_init_73 : decode cX6_init 73 = .ok (.invokespecial 39, 3) := by decide +kernel
theorem dX6_init_76 : decode cX6_init 76 = .ok (.aastore, 1) := by decide +kernel
theorem dX6_init_77 : decode cX6_init 77 = .ok (.iinc 1 1, 3) := by decide +kernel
theorem dX6_init_80 : decode cX6_init 80 = .ok (.goto (-27), 3) := by decide +kernel
theorem dX6_init_83 : decode cX6_init 83 = .ok (.iconst 0, 1) := by decide +kernel
theorem dX6_init_84 : decode cX6_init 84 = .ok (.istore_n 1, 1) := by decide +kernel
theorem dX6_init_85 : decode cX6_init 85 = .ok (.iload_n 1, 1) := by decide +kernel
theorem dX6_init_86 : decode cX6_init 86 = .ok (.iconst 5, 1) := by decide +kernel
theorem dX6_init_87 : decode cX6_init 87 = .ok (.if_icmp .ge 26, 3) := by decide +kernel
theorem dX6_init_90 : decode cX6_init 90 = .ok (.aload_n 0, 1) := by decide +kernel
theorem dX6_init_91 : decode cX6_init 91 = .ok (.getfield 17, 3) := by decide +kernel
theorem dX6_init_94 : decode cX6_init 94 = .ok (.iload_n 1, 1) := by decide +kernel
theorem dX6_init_95 : decode cX6_init 95 = .ok (.new 15, 3) := by decide +kernel
theorem dX6_init_98 : decode cX6_init 98 = .ok (.dup, 1) := by decide +kernel
theorem dX6_init_99 : decode cX6_init 99 = .ok (.aload_n 0, 1) := by decide +kernel
theorem dX6_init_100 : decode cX6_init 100 = .ok (.getfield 26, 3) := by decide +kernel
theorem dX6_init_103 : decode cX6_init 103 = .ok (.invokespecial 42, 3) := by decide +kernel
theorem dX6_init_106 : decode cX6_init 106 = .ok (.aastore, 1) := by decide +kernel
theorem dX6_init_107 : decode cX6_init 107 = .ok (.iinc 1 1, 3) := by decide +kernel
theorem dX6_init_110 : decode cX6_init 110 = .ok (.goto (-25), 3) := by decide +kernel
theorem dX6_init_113 : decode cX6_init 113 = .ok (.return_, 1) := by decide +kernel
theorem dX6_clock_0 : decode cX6_clock 0 = .ok (.iload_n 1, 1) := by decide +kernel
theorem dX6_clock_1 : decode cX6_clock 1 = .ok (.bipush 8, 2) := by decide +kernel
theorem dX6_clock_3 : decode cX6_clock 3 = .ok (.invokestatic 43, 3) := by decide +kernel
theorem dX6_clock_6 : decode cX6_clock 6 = .ok (.ifCond .ne 13, 3) := by decide +kernel
theorem dX6_clock_9 : decode cX6_clock 9 = .ok (.new 47, 3) := by decide +kernel
theorem dX6_clock_12 : decode cX6_clock 12 = .ok (.dup, 1) := by decide +kernel
theorem dX6_clock_13 : decode cX6_clock 13 = .ok (.ldc 49, 2) := by decide +kernel
theorem dX6_clock_15 : decode cX6_clock 15 = .ok (.invokespecial 51, 3) := by decide +kernel
theorem dX6_clock_18 : decode cX6_clock 18 = .ok (.athrow, 1) := by decide +kernel
theorem dX6_clock_19 : decode cX6_clock 19 = .ok (.lload_n 2, 1) := by decide +kernel
theorem dX6_clock_20 : decode cX6_clock 20 = .ok (.lconst 0, 1) := by decide +kernel
theorem dX6_clock_21 : decode cX6_clock 21 = .ok (.lcmp, 1) := by decide +kernel
theorem dX6_clock_22 : decode cX6_clock 22 = .ok (.ifCond .lt 11, 3) := by decide +kernel
theorem dX6_clock_25 : decode cX6_clock 25 = .ok (.lload_n 2, 1) := by decide +kernel
theorem dX6_clock_26 : decode cX6_clock 26 = .ok (.ldc2_w 54, 3) := by decide +kernel
theorem dX6_clock_29 : decode cX6_clock 29 = .ok (.lcmp, 1) := by decide +kernel
theorem dX6_clock_30 : decode cX6_clock 30 = .ok (.ifCond .le 13, 3) := by decide +kernel
theorem dX6_clock_33 : decode cX6_clock 33 = .ok (.new 56, 3) := by decide +kernel
theorem dX6_clock_36 : decode cX6_clock 36 = .ok (.dup, 1) := by decide +kernel
theorem dX6_clock_37 : decode cX6_clock 37 = .ok (.ldc 58, 2) := by decide +kernel
theorem dX6_clock_39 : decode cX6_clock 39 = .ok (.invokespecial 60, 3) := by decide +kernel
theorem dX6_clock_42 : decode cX6_clock 42 = .ok (.athrow, 1) := by decide +kernel
theorem dX6_clock_43 : decode cX6_clock 43 = .ok (.aload_n 0, 1) := by decide +kernel
theorem dX6_clock_44 : decode cX6_clock 44 = .ok (.getfield 11, 3) := by decide +kernel
theorem dX6_clock_47 : decode cX6_clock 47 = .ok (.iload_n 1, 1) := by decide +kernel
theorem dX6_clock_48 : decode cX6_clock 48 = .ok (.aaload, 1) := by decide +kernel
theorem dX6_clock_49 : decode cX6_clock 49 = .ok (.lload_n 2, 1) := by decide +kernel
theorem dX6_clock_50 : decode cX6_clock 50 = .ok (.putfield 61, 3) := by decide +kernel
theorem dX6_clock_53 : decode cX6_clock 53 = .ok (.return_, 1) := by decide +kernel
theorem dX6_start_0 : decode cX6_start 0 = .ok (.iload_n 1, 1) := by decide +kernel
theorem dX6_start_1 : decode cX6_start 1 = .ok (.bipush 8, 2) := by decide +kernel
theorem dX6_start_3 : decode cX6_start 3 = .ok (.invokestatic 43, 3) := by decide +kernel
theorem dX6_start_6 : decode cX6_start 6 = .ok (.ifCond .ne 13, 3) := by decide +kernel
theorem dX6_start_9 : decode cX6_start 9 = .ok (.new 47, 3) := by decide +kernel
theorem dX6_start_12 : decode cX6_start 12 = .ok (.dup, 1) := by decide +kernel
theorem dX6_start_13 : decode cX6_start 13 = .ok (.ldc 49, 2) := by decide +kernel
theorem dX6_start_15 : decode cX6_start 15 = .ok (.invokespecial 51, 3) := by decide +kernel
theorem dX6_start_18 : decode cX6_start 18 = .ok (.athrow, 1) := by decide +kernel
theorem dX6_start_19 : decode cX6_start 19 = .ok (.aload_n 0, 1) := by decide +kernel
theorem dX6_start_20 : decode cX6_start 20 = .ok (.getfield 11, 3) := by decide +kernel
theorem dX6_start_23 : decode cX6_start 23 = .ok (.iload_n 1, 1) := by decide +kernel
theorem dX6_start_24 : decode cX6_start 24 = .ok (.aaload, 1) := by decide +kernel
theorem dX6_start_25 : decode cX6_start 25 = .ok (.astore_n 2, 1) := by decide +kernel
theorem dX6_start_26 : decode cX6_start 26 = .ok (.aload_n 2, 1) := by decide +kernel
theorem dX6_start_27 : decode cX6_start 27 = .ok (.invokevirtual 65, 3) := by decide +kernel
theorem dX6_start_30 : decode cX6_start 30 = .ok (.ifCond .ne 21, 3) := by decide +kernel
theorem dX6_start_33 : decode cX6_start 33 = .ok (.aload_n 2, 1) := by decide +kernel
theorem dX6_start_34 : decode cX6_start 34 = .ok (.getfield 69, 3) := by decide +kernel
theorem dX6_start_37 : decode cX6_start 37 = .ok (.ifCond .ne 14, 3) := by decide +kernel
theorem dX6_start_40 : decode cX6_start 40 = .ok (.aload_n 0, 1) := by decide +kernel
theorem dX6_start_41 : decode cX6_start 41 = .ok (.getfield 35, 3) := by decide +kernel
theorem dX6_start_44 : decode cX6_start 44 = .ok (.iconst 5, 1) := by decide +kernel
theorem dX6_start_45 : decode cX6_start 45 = .ok (.invokevirtual 73, 3) := by decide +kernel
theorem dX6_start_48 : decode cX6_start 48 = .ok (.ifCond .ne 13, 3) := by decide +kernel
theorem dX6_start_51 : decode cX6_start 51 = .ok (.new 77, 3) := by decide +kernel
theorem dX6_start_54 : decode cX6_start 54 = .ok (.dup, 1) := by decide +kernel
theorem dX6_start_55 : decode cX6_start 55 = .ok (.ldc 79, 2) := by decide +kernel
theorem dX6_start_57 : decode cX6_start 57 = .ok (.invokespecial 81, 3) := by decide +kernel
theorem dX6_start_60 : decode cX6_start 60 = .ok (.athrow, 1) := by decide +kernel
theorem dX6_start_61 : decode cX6_start 61 = .ok (.aload_n 0, 1) := by decide +kernel
theorem dX6_start_62 : decode cX6_start 62 = .ok (.aload_n 2, 1) := by decide +kernel
theorem dX6_start_63 : decode cX6_start 63 = .ok (.invokevirtual 82, 3) := by decide +kernel
theorem dX6_start_66 : decode cX6_start 66 = .ok (.return_, 1) := by decide +kernel
theorem dX6_prolong_0 : decode cX6_prolong 0 = .ok (.iload_n 1, 1) := by decide +kernel
theorem dX6_prolong_1 : decode cX6_prolong 1 = .ok (.bipush 8, 2) := by decide +kernel
theorem dX6_prolong_3 : decode cX6_prolong 3 = .ok (.invokestatic 43, 3) := by decide +kernel
theorem dX6_prolong_6 : decode cX6_prolong 6 = .ok (.ifCond .ne 13, 3) := by decide +kernel
theorem dX6_prolong_9 : decode cX6_prolong 9 = .ok (.new 47, 3) := by decide +kernel
theorem dX6_prolong_12 : decode cX6_prolong 12 = .ok (.dup, 1) := by decide +kernel
theorem dX6_prolong_13 : decode cX6_prolong 13 = .ok (.ldc 49, 2) := by decide +kernel
theorem dX6_prolong_15 : decode cX6_prolong 15 = .ok (.invokespecial 51, 3) := by decide +kernel
theorem dX6_prolong_18 : decode cX6_prolong 18 = .ok (.athrow, 1) := by decide +kernel
theorem dX6_prolong_19 : decode cX6_prolong 19 = .ok (.aload_n 0, 1) := by decide +kernel
theorem dX6_prolong_20 : decode cX6_prolong 20 = .ok (.getfield 11, 3) := by decide +kernel
theorem dX6_prolong_23 : decode cX6_prolong 23 = .ok (.iload_n 1, 1) := by decide +kernel
theorem dX6_prolong_24 : decode cX6_prolong 24 = .ok (.aaload, 1) := by decide +kernel
theorem dX6_prolong_25 : decode cX6_prolong 25 = .ok (.astore_n 2, 1) := by decide +kernel
theorem dX6_prolong_26 : decode cX6_prolong 26 = .ok (.aload_n 2, 1) := by decide +kernel
theorem dX6_prolong_27 : decode cX6_prolong 27 = .ok (.invokevirtual 65, 3) := by decide +kernel
theorem dX6_prolong_30 : decode cX6_prolong 30 = .ok (.ifCond .eq 21, 3) := by decide +kernel
theorem dX6_prolong_33 : decode cX6_prolong 33 = .ok (.aload_n 2, 1) := by decide +kernel
theorem dX6_prolong_34 : decode cX6_prolong 34 = .ok (.getfield 69, 3) := by decide +kernel
theorem dX6_prolong_37 : decode cX6_prolong 37 = .ok (.ifCond .ne 14, 3) := by decide +kernel
theorem dX6_prolong_40 : decode cX6_prolong 40 = .ok (.aload_n 0, 1) := by decide +kernel
theorem dX6_prolong_41 : decode cX6_prolong 41 = .ok (.getfield 35, 3) := by decide +kernel
theorem dX6_prolong_44 : decode cX6_prolong 44 = .ok (.iconst 5, 1) := by decide +kernel
theorem dX6_prolong_45 : decode cX6_prolong 45 = .ok (.invokevirtual 73, 3) := by decide +kernel
theorem dX6_prolong_48 : decode cX6_prolong 48 = .ok (.ifCond .ne 13, 3) := by decide +kernel
theorem dX6_prolong_51 : decode cX6_prolong 51 = .ok (.new 77, 3) := by decide +kernel
theorem dX6_prolong_54 : decode cX6_prolong 54 = .ok (.dup, 1) := by decide +kernel
theorem dX6_prolong_55 : decode cX6_prolong 55 = .ok (.ldc 86, 2) := by decide +kernel
theorem dX6_prolong_57 : decode cX6_prolong 57 = .ok (.invokespecial 81, 3) := by decide +kernel
theorem dX6_prolong_60 : decode cX6_prolong 60 = .ok (.athrow, 1) := by decide +kernel
theorem dX6_prolong_61 : decode cX6_prolong 61 = .ok (.aload_n 0, 1) := by decide +kernel
theorem dX6_prolong_62 : decode cX6_prolong 62 = .ok (.aload_n 2, 1) := by decide +kernel
theorem dX6_prolong_63 : decode cX6_prolong 63 = .ok (.invokevirtual 82, 3) := by decide +kernel
theorem dX6_prolong_66 : decode cX6_prolong 66 = .ok (.return_, 1) := by decide +kernel
theorem dX6_crash_0 : decode cX6_crash 0 = .ok (.iload_n 1, 1) := by decide +kernel
theorem dX6_crash_1 : decode cX6_crash 1 = .ok (.bipush 8, 2) := by decide +kernel
theorem dX6_crash_3 : decode cX6_crash 3 = .ok (.invokestatic 43, 3) := by decide +kernel
theorem dX6_crash_6 : decode cX6_crash 6 = .ok (.ifCond .ne 13, 3) := by decide +kernel
theorem dX6_crash_9 : decode cX6_crash 9 = .ok (.new 47, 3) := by decide +kernel
theorem dX6_crash_12 : decode cX6_crash 12 = .ok (.dup, 1) := by decide +kernel
theorem dX6_crash_13 : decode cX6_crash 13 = .ok (.ldc 49, 2) := by decide +kernel
theorem dX6_crash_15 : decode cX6_crash 15 = .ok (.invokespecial 51, 3) := by decide +kernel
theorem dX6_crash_18 : decode cX6_crash 18 = .ok (.athrow, 1) := by decide +kernel
theorem dX6_crash_19 : decode cX6_crash 19 = .ok (.aload_n 0, 1) := by decide +kernel
theorem dX6_crash_20 : decode cX6_crash 20 = .ok (.getfield 11, 3) := by decide +kernel
theorem dX6_crash_23 : decode cX6_crash 23 = .ok (.iload_n 1, 1) := by decide +kernel
theorem dX6_crash_24 : decode cX6_crash 24 = .ok (.aaload, 1) := by decide +kernel
theorem dX6_crash_25 : decode cX6_crash 25 = .ok (.invokevirtual 88, 3) := by decide +kernel
theorem dX6_crash_28 : decode cX6_crash 28 = .ok (.return_, 1) := by decide +kernel
theorem dX6_node_0 : decode cX6_node 0 = .ok (.iload_n 1, 1) := by decide +kernel
theorem dX6_node_1 : decode cX6_node 1 = .ok (.iconst 5, 1) := by decide +kernel
theorem dX6_node_2 : decode cX6_node 2 = .ok (.invokestatic 43, 3) := by decide +kernel
theorem dX6_node_5 : decode cX6_node 5 = .ok (.ifCond .ne 13, 3) := by decide +kernel
theorem dX6_node_8 : decode cX6_node 8 = .ok (.new 47, 3) := by decide +kernel
theorem dX6_node_11 : decode cX6_node 11 = .ok (.dup, 1) := by decide +kernel
theorem dX6_node_12 : decode cX6_node 12 = .ok (.ldc 91, 2) := by decide +kernel
theorem dX6_node_14 : decode cX6_node 14 = .ok (.invokespecial 51, 3) := by decide +kernel
theorem dX6_node_17 : decode cX6_node 17 = .ok (.athrow, 1) := by decide +kernel
theorem dX6_node_18 : decode cX6_node 18 = .ok (.aload_n 0, 1) := by decide +kernel
theorem dX6_node_19 : decode cX6_node 19 = .ok (.getfield 17, 3) := by decide +kernel
theorem dX6_node_22 : decode cX6_node 22 = .ok (.iload_n 1, 1) := by decide +kernel
theorem dX6_node_23 : decode cX6_node 23 = .ok (.aaload, 1) := by decide +kernel
theorem dX6_node_24 : decode cX6_node 24 = .ok (.iload_n 2, 1) := by decide +kernel
theorem dX6_node_25 : decode cX6_node 25 = .ok (.putfield 93, 3) := by decide +kernel
theorem dX6_node_28 : decode cX6_node 28 = .ok (.return_, 1) := by decide +kernel
theorem dX6_letters_0 : decode cX6_letters 0 = .ok (.aload_n 0, 1) := by decide +kernel
theorem dX6_letters_1 : decode cX6_letters 1 = .ok (.getfield 35, 3) := by decide +kernel
theorem dX6_letters_4 : decode cX6_letters 4 = .ok (.getfield 97, 3) := by decide +kernel
theorem dX6_letters_7 : decode cX6_letters 7 = .ok (.ireturn, 1) := by decide +kernel
theorem dX6_deliver_0 : decode cX6_deliver 0 = .ok (.iload_n 1, 1) := by decide +kernel
theorem dX6_deliver_1 : decode cX6_deliver 1 = .ok (.aload_n 0, 1) := by decide +kernel
theorem dX6_deliver_2 : decode cX6_deliver 2 = .ok (.getfield 35, 3) := by decide +kernel
theorem dX6_deliver_5 : decode cX6_deliver 5 = .ok (.getfield 97, 3) := by decide +kernel
theorem dX6_deliver_8 : decode cX6_deliver 8 = .ok (.invokestatic 43, 3) := by decide +kernel
theorem dX6_deliver_11 : decode cX6_deliver 11 = .ok (.ifCond .ne 13, 3) := by decide +kernel
theorem dX6_deliver_14 : decode cX6_deliver 14 = .ok (.new 47, 3) := by decide +kernel
theorem dX6_deliver_17 : decode cX6_deliver 17 = .ok (.dup, 1) := by decide +kernel
theorem dX6_deliver_18 : decode cX6_deliver 18 = .ok (.ldc 100, 2) := by decide +kernel
theorem dX6_deliver_20 : decode cX6_deliver 20 = .ok (.invokespecial 51, 3) := by decide +kernel
theorem dX6_deliver_23 : decode cX6_deliver 23 = .ok (.athrow, 1) := by decide +kernel
theorem dX6_deliver_24 : decode cX6_deliver 24 = .ok (.aload_n 0, 1) := by decide +kernel
theorem dX6_deliver_25 : decode cX6_deliver 25 = .ok (.getfield 35, 3) := by decide +kernel
theorem dX6_deliver_28 : decode cX6_deliver 28 = .ok (.iload_n 1, 1) := by decide +kernel
theorem dX6_deliver_29 : decode cX6_deliver 29 = .ok (.invokevirtual 102, 3) := by decide +kernel
theorem dX6_deliver_32 : decode cX6_deliver 32 = .ok (.astore_n 2, 1) := by decide +kernel
theorem dX6_deliver_33 : decode cX6_deliver 33 = .ok (.aload_n 2, 1) := by decide +kernel
theorem dX6_deliver_34 : decode cX6_deliver 34 = .ok (.invokevirtual 106, 3) := by decide +kernel
theorem dX6_deliver_37 : decode cX6_deliver 37 = .ok (.ifCond .eq 17, 3) := by decide +kernel
theorem dX6_deliver_40 : decode cX6_deliver 40 = .ok (.aload_n 0, 1) := by decide +kernel
theorem dX6_deliver_41 : decode cX6_deliver 41 = .ok (.getfield 35, 3) := by decide +kernel
theorem dX6_deliver_44 : decode cX6_deliver 44 = .ok (.iload_n 1, 1) := by decide +kernel
theorem dX6_deliver_45 : decode cX6_deliver 45 = .ok (.invokevirtual 111, 3) := by decide +kernel
theorem dX6_deliver_48 : decode cX6_deliver 48 = .ok (.aload_n 0, 1) := by decide +kernel
theorem dX6_deliver_49 : decode cX6_deliver 49 = .ok (.aload_n 2, 1) := by decide +kernel
theorem dX6_deliver_50 : decode cX6_deliver 50 = .ok (.invokevirtual 115, 3) := by decide +kernel
theorem dX6_deliver_53 : decode cX6_deliver 53 = .ok (.ireturn, 1) := by decide +kernel
theorem dX6_deliver_54 : decode cX6_deliver 54 = .ok (.aload_n 0, 1) := by decide +kernel
theorem dX6_deliver_55 : decode cX6_deliver 55 = .ok (.getfield 11, 3) := by decide +kernel
theorem dX6_deliver_58 : decode cX6_deliver 58 = .ok (.aload_n 2, 1) := by decide +kernel
theorem dX6_deliver_59 : decode cX6_deliver 59 = .ok (.getfield 119, 3) := by decide +kernel
theorem dX6_deliver_62 : decode cX6_deliver 62 = .ok (.aaload, 1) := by decide +kernel
theorem dX6_deliver_63 : decode cX6_deliver 63 = .ok (.astore_n 3, 1) := by decide +kernel
theorem dX6_deliver_64 : decode cX6_deliver 64 = .ok (.aload_n 3, 1) := by decide +kernel
theorem dX6_deliver_65 : decode cX6_deliver 65 = .ok (.aload_n 2, 1) := by decide +kernel
theorem dX6_deliver_66 : decode cX6_deliver 66 = .ok (.invokevirtual 122, 3) := by decide +kernel
theorem dX6_deliver_69 : decode cX6_deliver 69 = .ok (.ifCond .eq 10, 3) := by decide +kernel
theorem dX6_deliver_72 : decode cX6_deliver 72 = .ok (.aload_n 0, 1) := by decide +kernel
theorem dX6_deliver_73 : decode cX6_deliver 73 = .ok (.aload_n 3, 1) := by decide +kernel
theorem dX6_deliver_74 : decode cX6_deliver 74 = .ok (.iload_n 1, 1) := by decide +kernel
theorem dX6_deliver_75 : decode cX6_deliver 75 = .ok (.invokevirtual 126, 3) := by decide +kernel
theorem dX6_deliver_78 : decode cX6_deliver 78 = .ok (.ireturn, 1) := by decide +kernel
theorem dX6_deliver_79 : decode cX6_deliver 79 = .ok (.aload_n 0, 1) := by decide +kernel
theorem dX6_deliver_80 : decode cX6_deliver 80 = .ok (.getfield 35, 3) := by decide +kernel
theorem dX6_deliver_83 : decode cX6_deliver 83 = .ok (.iload_n 1, 1) := by decide +kernel
theorem dX6_deliver_84 : decode cX6_deliver 84 = .ok (.invokevirtual 111, 3) := by decide +kernel
theorem dX6_deliver_87 : decode cX6_deliver 87 = .ok (.aload_n 3, 1) := by decide +kernel
theorem dX6_deliver_88 : decode cX6_deliver 88 = .ok (.aload_n 2, 1) := by decide +kernel
theorem dX6_deliver_89 : decode cX6_deliver 89 = .ok (.invokevirtual 130, 3) := by decide +kernel
theorem dX6_deliver_92 : decode cX6_deliver 92 = .ok (.iconst 0, 1) := by decide +kernel
theorem dX6_deliver_93 : decode cX6_deliver 93 = .ok (.ireturn, 1) := by decide +kernel
theorem dX6_lose_0 : decode cX6_lose 0 = .ok (.iload_n 1, 1) := by decide +kernel
theorem dX6_lose_1 : decode cX6_lose 1 = .ok (.aload_n 0, 1) := by decide +kernel
theorem dX6_lose_2 : decode cX6_lose 2 = .ok (.getfield 35, 3) := by decide +kernel
theorem dX6_lose_5 : decode cX6_lose 5 = .ok (.getfield 97, 3) := by decide +kernel
theorem dX6_lose_8 : decode cX6_lose 8 = .ok (.invokestatic 43, 3) := by decide +kernel
theorem dX6_lose_11 : decode cX6_lose 11 = .ok (.ifCond .ne 13, 3) := by decide +kernel
theorem dX6_lose_14 : decode cX6_lose 14 = .ok (.new 47, 3) := by decide +kernel
theorem dX6_lose_17 : decode cX6_lose 17 = .ok (.dup, 1) := by decide +kernel
theorem dX6_lose_18 : decode cX6_lose 18 = .ok (.ldc 100, 2) := by decide +kernel
theorem dX6_lose_20 : decode cX6_lose 20 = .ok (.invokespecial 51, 3) := by decide +kernel
theorem dX6_lose_23 : decode cX6_lose 23 = .ok (.athrow, 1) := by decide +kernel
theorem dX6_lose_24 : decode cX6_lose 24 = .ok (.aload_n 0, 1) := by decide +kernel
theorem dX6_lose_25 : decode cX6_lose 25 = .ok (.getfield 35, 3) := by decide +kernel
theorem dX6_lose_28 : decode cX6_lose 28 = .ok (.iload_n 1, 1) := by decide +kernel
theorem dX6_lose_29 : decode cX6_lose 29 = .ok (.invokevirtual 111, 3) := by decide +kernel
theorem dX6_lose_32 : decode cX6_lose 32 = .ok (.return_, 1) := by decide +kernel
theorem dX6_twin_0 : decode cX6_twin 0 = .ok (.iload_n 1, 1) := by decide +kernel
theorem dX6_twin_1 : decode cX6_twin 1 = .ok (.aload_n 0, 1) := by decide +kernel
theorem dX6_twin_2 : decode cX6_twin 2 = .ok (.getfield 35, 3) := by decide +kernel
theorem dX6_twin_5 : decode cX6_twin 5 = .ok (.getfield 97, 3) := by decide +kernel
theorem dX6_twin_8 : decode cX6_twin 8 = .ok (.invokestatic 43, 3) := by decide +kernel
theorem dX6_twin_11 : decode cX6_twin 11 = .ok (.ifCond .ne 13, 3) := by decide +kernel
theorem dX6_twin_14 : decode cX6_twin 14 = .ok (.new 47, 3) := by decide +kernel
theorem dX6_twin_17 : decode cX6_twin 17 = .ok (.dup, 1) := by decide +kernel
theorem dX6_twin_18 : decode cX6_twin 18 = .ok (.ldc 100, 2) := by decide +kernel
theorem dX6_twin_20 : decode cX6_twin 20 = .ok (.invokespecial 51, 3) := by decide +kernel
theorem dX6_twin_23 : decode cX6_twin 23 = .ok (.athrow, 1) := by decide +kernel
theorem dX6_twin_24 : decode cX6_twin 24 = .ok (.aload_n 0, 1) := by decide +kernel
theorem dX6_twin_25 : decode cX6_twin 25 = .ok (.getfield 35, 3) := by decide +kernel
theorem dX6_twin_28 : decode cX6_twin 28 = .ok (.iconst 1, 1) := by decide +kernel
theorem dX6_twin_29 : decode cX6_twin 29 = .ok (.invokevirtual 73, 3) := by decide +kernel
theorem dX6_twin_32 : decode cX6_twin 32 = .ok (.ifCond .ne 13, 3) := by decide +kernel
theorem dX6_twin_35 : decode cX6_twin 35 = .ok (.new 77, 3) := by decide +kernel
theorem dX6_twin_38 : decode cX6_twin 38 = .ok (.dup, 1) := by decide +kernel
theorem dX6_twin_39 : decode cX6_twin 39 = .ok (.ldc 134, 2) := by decide +kernel
theorem dX6_twin_41 : decode cX6_twin 41 = .ok (.invokespecial 81, 3) := by decide +kernel
theorem dX6_twin_44 : decode cX6_twin 44 = .ok (.athrow, 1) := by decide +kernel
theorem dX6_twin_45 : decode cX6_twin 45 = .ok (.aload_n 0, 1) := by decide +kernel
theorem dX6_twin_46 : decode cX6_twin 46 = .ok (.getfield 35, 3) := by decide +kernel
theorem dX6_twin_49 : decode cX6_twin 49 = .ok (.iload_n 1, 1) := by decide +kernel
theorem dX6_twin_50 : decode cX6_twin 50 = .ok (.invokevirtual 136, 3) := by decide +kernel
theorem dX6_twin_53 : decode cX6_twin 53 = .ok (.return_, 1) := by decide +kernel
theorem dX6_letter_0 : decode cX6_letter 0 = .ok (.iload_n 1, 1) := by decide +kernel
theorem dX6_letter_1 : decode cX6_letter 1 = .ok (.aload_n 0, 1) := by decide +kernel
theorem dX6_letter_2 : decode cX6_letter 2 = .ok (.getfield 35, 3) := by decide +kernel
theorem dX6_letter_5 : decode cX6_letter 5 = .ok (.getfield 97, 3) := by decide +kernel
theorem dX6_letter_8 : decode cX6_letter 8 = .ok (.invokestatic 43, 3) := by decide +kernel
theorem dX6_letter_11 : decode cX6_letter 11 = .ok (.ifCond .eq 12, 3) := by decide +kernel
theorem dX6_letter_14 : decode cX6_letter 14 = .ok (.iload_n 2, 1) := by decide +kernel
theorem dX6_letter_15 : decode cX6_letter 15 = .ok (.bipush 6, 2) := by decide +kernel
theorem dX6_letter_17 : decode cX6_letter 17 = .ok (.invokestatic 43, 3) := by decide +kernel
theorem dX6_letter_20 : decode cX6_letter 20 = .ok (.ifCond .ne 13, 3) := by decide +kernel
theorem dX6_letter_23 : decode cX6_letter 23 = .ok (.new 47, 3) := by decide +kernel
theorem dX6_letter_26 : decode cX6_letter 26 = .ok (.dup, 1) := by decide +kernel
theorem dX6_letter_27 : decode cX6_letter 27 = .ok (.ldc 139, 2) := by decide +kernel
theorem dX6_letter_29 : decode cX6_letter 29 = .ok (.invokespecial 51, 3) := by decide +kernel
theorem dX6_letter_32 : decode cX6_letter 32 = .ok (.athrow, 1) := by decide +kernel
theorem dX6_letter_33 : decode cX6_letter 33 = .ok (.aload_n 0, 1) := by decide +kernel
theorem dX6_letter_34 : decode cX6_letter 34 = .ok (.getfield 35, 3) := by decide +kernel
theorem dX6_letter_37 : decode cX6_letter 37 = .ok (.iload_n 1, 1) := by decide +kernel
theorem dX6_letter_38 : decode cX6_letter 38 = .ok (.invokevirtual 102, 3) := by decide +kernel
theorem dX6_letter_41 : decode cX6_letter 41 = .ok (.astore_n 3, 1) := by decide +kernel
theorem dX6_letter_42 : decode cX6_letter 42 = .ok (.iload_n 2, 1) := by decide +kernel
theorem dX6_letter_43 : decode cX6_letter 43 = .ok (.tableswitch 58 0 4 #[33, 38, 43, 48, 53], 33) := by decide +kernel
theorem dX6_letter_76 : decode cX6_letter 76 = .ok (.aload_n 3, 1) := by decide +kernel
theorem dX6_letter_77 : decode cX6_letter 77 = .ok (.getfield 141, 3) := by decide +kernel
theorem dX6_letter_80 : decode cX6_letter 80 = .ok (.ireturn, 1) := by decide +kernel
theorem dX6_letter_81 : decode cX6_letter 81 = .ok (.aload_n 3, 1) := by decide +kernel
theorem dX6_letter_82 : decode cX6_letter 82 = .ok (.getfield 119, 3) := by decide +kernel
theorem dX6_letter_85 : decode cX6_letter 85 = .ok (.ireturn, 1) := by decide +kernel
theorem dX6_letter_86 : decode cX6_letter 86 = .ok (.aload_n 3, 1) := by decide +kernel
theorem dX6_letter_87 : decode cX6_letter 87 = .ok (.getfield 144, 3) := by decide +kernel
theorem dX6_letter_90 : decode cX6_letter 90 = .ok (.ireturn, 1) := by decide +kernel
theorem dX6_letter_91 : decode cX6_letter 91 = .ok (.aload_n 3, 1) := by decide +kernel
theorem dX6_letter_92 : decode cX6_letter 92 = .ok (.getfield 147, 3) := by decide +kernel
theorem dX6_letter_95 : decode cX6_letter 95 = .ok (.ireturn, 1) := by decide +kernel
theorem dX6_letter_96 : decode cX6_letter 96 = .ok (.aload_n 3, 1) := by decide +kernel
theorem dX6_letter_97 : decode cX6_letter 97 = .ok (.getfield 150, 3) := by decide +kernel
theorem dX6_letter_100 : decode cX6_letter 100 = .ok (.ireturn, 1) := by decide +kernel
theorem dX6_letter_101 : decode cX6_letter 101 = .ok (.aload_n 3, 1) := by decide +kernel
theorem dX6_letter_102 : decode cX6_letter 102 = .ok (.getfield 153, 3) := by decide +kernel
theorem dX6_letter_105 : decode cX6_letter 105 = .ok (.ireturn, 1) := by decide +kernel
theorem dX6_issuer_0 : decode cX6_issuer 0 = .ok (.iload_n 1, 1) := by decide +kernel
theorem dX6_issuer_1 : decode cX6_issuer 1 = .ok (.bipush 8, 2) := by decide +kernel
theorem dX6_issuer_3 : decode cX6_issuer 3 = .ok (.invokestatic 43, 3) := by decide +kernel
theorem dX6_issuer_6 : decode cX6_issuer 6 = .ok (.ifCond .eq 12, 3) := by decide +kernel
theorem dX6_issuer_9 : decode cX6_issuer 9 = .ok (.iload_n 2, 1) := by decide +kernel
theorem dX6_issuer_10 : decode cX6_issuer 10 = .ok (.bipush 8, 2) := by decide +kernel
theorem dX6_issuer_12 : decode cX6_issuer 12 = .ok (.invokestatic 43, 3) := by decide +kernel
theorem dX6_issuer_15 : decode cX6_issuer 15 = .ok (.ifCond .ne 13, 3) := by decide +kernel
theorem dX6_issuer_18 : decode cX6_issuer 18 = .ok (.new 47, 3) := by decide +kernel
theorem dX6_issuer_21 : decode cX6_issuer 21 = .ok (.dup, 1) := by decide +kernel
theorem dX6_issuer_22 : decode cX6_issuer 22 = .ok (.ldc 156, 2) := by decide +kernel
theorem dX6_issuer_24 : decode cX6_issuer 24 = .ok (.invokespecial 51, 3) := by decide +kernel
theorem dX6_issuer_27 : decode cX6_issuer 27 = .ok (.athrow, 1) := by decide +kernel
theorem dX6_issuer_28 : decode cX6_issuer 28 = .ok (.aload_n 0, 1) := by decide +kernel
theorem dX6_issuer_29 : decode cX6_issuer 29 = .ok (.getfield 11, 3) := by decide +kernel
theorem dX6_issuer_32 : decode cX6_issuer 32 = .ok (.iload_n 1, 1) := by decide +kernel
theorem dX6_issuer_33 : decode cX6_issuer 33 = .ok (.aaload, 1) := by decide +kernel
theorem dX6_issuer_34 : decode cX6_issuer 34 = .ok (.astore_n 3, 1) := by decide +kernel
theorem dX6_issuer_35 : decode cX6_issuer 35 = .ok (.iload_n 2, 1) := by decide +kernel
theorem dX6_issuer_36 : decode cX6_issuer 36 = .ok (.tableswitch 78 0 7 #[48, 61, 78, 78, 78, 78, 67, 73], 48) := by decide +kernel
theorem dX6_issuer_84 : decode cX6_issuer 84 = .ok (.aload_n 3, 1) := by decide +kernel
theorem dX6_issuer_85 : decode cX6_issuer 85 = .ok (.invokevirtual 65, 3) := by decide +kernel
theorem dX6_issuer_88 : decode cX6_issuer 88 = .ok (.ifCond .eq 7, 3) := by decide +kernel
theorem dX6_issuer_91 : decode cX6_issuer 91 = .ok (.lconst 1, 1) := by decide +kernel
theorem dX6_issuer_92 : decode cX6_issuer 92 = .ok (.goto 4, 3) := by decide +kernel
theorem dX6_issuer_95 : decode cX6_issuer 95 = .ok (.lconst 0, 1) := by decide +kernel
theorem dX6_issuer_96 : decode cX6_issuer 96 = .ok (.lreturn, 1) := by decide +kernel
theorem dX6_issuer_97 : decode cX6_issuer 97 = .ok (.aload_n 3, 1) := by decide +kernel
theorem dX6_issuer_98 : decode cX6_issuer 98 = .ok (.getfield 69, 3) := by decide +kernel
theorem dX6_issuer_101 : decode cX6_issuer 101 = .ok (.i2l, 1) := by decide +kernel
theorem dX6_issuer_102 : decode cX6_issuer 102 = .ok (.lreturn, 1) := by decide +kernel
theorem dX6_issuer_103 : decode cX6_issuer 103 = .ok (.aload_n 3, 1) := by decide +kernel
theorem dX6_issuer_104 : decode cX6_issuer 104 = .ok (.getfield 158, 3) := by decide +kernel
theorem dX6_issuer_107 : decode cX6_issuer 107 = .ok (.i2l, 1) := by decide +kernel
theorem dX6_issuer_108 : decode cX6_issuer 108 = .ok (.lreturn, 1) := by decide +kernel
theorem dX6_issuer_109 : decode cX6_issuer 109 = .ok (.aload_n 3, 1) := by decide +kernel
theorem dX6_issuer_110 : decode cX6_issuer 110 = .ok (.getfield 161, 3) := by decide +kernel
theorem dX6_issuer_113 : decode cX6_issuer 113 = .ok (.lreturn, 1) := by decide +kernel
theorem dX6_issuer_114 : decode cX6_issuer 114 = .ok (.aload_n 3, 1) := by decide +kernel
theorem dX6_issuer_115 : decode cX6_issuer 115 = .ok (.iload_n 2, 1) := by decide +kernel
theorem dX6_issuer_116 : decode cX6_issuer 116 = .ok (.invokevirtual 164, 3) := by decide +kernel
theorem dX6_issuer_119 : decode cX6_issuer 119 = .ok (.lreturn, 1) := by decide +kernel
theorem dX6_next_0 : decode cX6_next 0 = .ok (.iload_n 1, 1) := by decide +kernel
theorem dX6_next_1 : decode cX6_next 1 = .ok (.bipush 8, 2) := by decide +kernel
theorem dX6_next_3 : decode cX6_next 3 = .ok (.invokestatic 43, 3) := by decide +kernel
theorem dX6_next_6 : decode cX6_next 6 = .ok (.ifCond .ne 13, 3) := by decide +kernel
theorem dX6_next_9 : decode cX6_next 9 = .ok (.new 47, 3) := by decide +kernel
theorem dX6_next_12 : decode cX6_next 12 = .ok (.dup, 1) := by decide +kernel
theorem dX6_next_13 : decode cX6_next 13 = .ok (.ldc 49, 2) := by decide +kernel
theorem dX6_next_15 : decode cX6_next 15 = .ok (.invokespecial 51, 3) := by decide +kernel
theorem dX6_next_18 : decode cX6_next 18 = .ok (.athrow, 1) := by decide +kernel
theorem dX6_next_19 : decode cX6_next 19 = .ok (.aload_n 0, 1) := by decide +kernel
theorem dX6_next_20 : decode cX6_next 20 = .ok (.getfield 11, 3) := by decide +kernel
theorem dX6_next_23 : decode cX6_next 23 = .ok (.iload_n 1, 1) := by decide +kernel
theorem dX6_next_24 : decode cX6_next 24 = .ok (.aaload, 1) := by decide +kernel
theorem dX6_next_25 : decode cX6_next 25 = .ok (.iconst 1, 1) := by decide +kernel
theorem dX6_next_26 : decode cX6_next 26 = .ok (.invokevirtual 168, 3) := by decide +kernel
theorem dX6_next_29 : decode cX6_next 29 = .ok (.lreturn, 1) := by decide +kernel
theorem dX6_batch_0 : decode cX6_batch 0 = .ok (.iload_n 1, 1) := by decide +kernel
theorem dX6_batch_1 : decode cX6_batch 1 = .ok (.bipush 8, 2) := by decide +kernel
theorem dX6_batch_3 : decode cX6_batch 3 = .ok (.invokestatic 43, 3) := by decide +kernel
theorem dX6_batch_6 : decode cX6_batch 6 = .ok (.ifCond .ne 13, 3) := by decide +kernel
theorem dX6_batch_9 : decode cX6_batch 9 = .ok (.new 47, 3) := by decide +kernel
theorem dX6_batch_12 : decode cX6_batch 12 = .ok (.dup, 1) := by decide +kernel
theorem dX6_batch_13 : decode cX6_batch 13 = .ok (.ldc 49, 2) := by decide +kernel
theorem dX6_batch_15 : decode cX6_batch 15 = .ok (.invokespecial 51, 3) := by decide +kernel
end
section
theorem dX6_batch_18 : decode cX6_batch 18 = .ok (.athrow, 1) := by decide +kernel
theorem dX6_batch_19 : decode cX6_batch 19 = .ok (.iload_n 2, 1) := by decide +kernel
theorem dX6_batch_20 : decode cX6_batch 20 = .ok (.iconst 1, 1) := by decide +kernel
theorem dX6_batch_21 : decode cX6_batch 21 = .ok (.if_icmp .lt 10, 3) := by decide +kernel
theorem dX6_batch_24 : decode cX6_batch 24 = .ok (.iload_n 2, 1) := by decide +kernel
theorem dX6_batch_25 : decode cX6_batch 25 = .ok (.sipush 1024, 3) := by decide +kernel
theorem dX6_batch_28 : decode cX6_batch 28 = .ok (.if_icmp .le 13, 3) := by decide +kernel
theorem dX6_batch_31 : decode cX6_batch 31 = .ok (.new 56, 3) := by decide +kernel
theorem dX6_batch_34 : decode cX6_batch 34 = .ok (.dup, 1) := by decide +kernel
theorem dX6_batch_35 : decode cX6_batch 35 = .ok (.ldc 171, 2) := by decide +kernel
theorem dX6_batch_37 : decode cX6_batch 37 = .ok (.invokespecial 60, 3) := by decide +kernel
theorem dX6_batch_40 : decode cX6_batch 40 = .ok (.athrow, 1) := by decide +kernel
theorem dX6_batch_41 : decode cX6_batch 41 = .ok (.aload_n 0, 1) := by decide +kernel
theorem dX6_batch_42 : decode cX6_batch 42 = .ok (.getfield 11, 3) := by decide +kernel
theorem dX6_batch_45 : decode cX6_batch 45 = .ok (.iload_n 1, 1) := by decide +kernel
theorem dX6_batch_46 : decode cX6_batch 46 = .ok (.aaload, 1) := by decide +kernel
theorem dX6_batch_47 : decode cX6_batch 47 = .ok (.iload_n 2, 1) := by decide +kernel
theorem dX6_batch_48 : decode cX6_batch 48 = .ok (.invokevirtual 168, 3) := by decide +kernel
theorem dX6_batch_51 : decode cX6_batch 51 = .ok (.lreturn, 1) := by decide +kernel
theorem dX6_seat_0 : decode cX6_seat 0 = .ok (.iload_n 1, 1) := by decide +kernel
theorem dX6_seat_1 : decode cX6_seat 1 = .ok (.bipush 8, 2) := by decide +kernel
theorem dX6_seat_3 : decode cX6_seat 3 = .ok (.invokestatic 43, 3) := by decide +kernel
theorem dX6_seat_6 : decode cX6_seat 6 = .ok (.ifCond .eq 11, 3) := by decide +kernel
theorem dX6_seat_9 : decode cX6_seat 9 = .ok (.iload_n 2, 1) := by decide +kernel
theorem dX6_seat_10 : decode cX6_seat 10 = .ok (.iconst 3, 1) := by decide +kernel
theorem dX6_seat_11 : decode cX6_seat 11 = .ok (.invokestatic 43, 3) := by decide +kernel
theorem dX6_seat_14 : decode cX6_seat 14 = .ok (.ifCond .ne 13, 3) := by decide +kernel
theorem dX6_seat_17 : decode cX6_seat 17 = .ok (.new 47, 3) := by decide +kernel
theorem dX6_seat_20 : decode cX6_seat 20 = .ok (.dup, 1) := by decide +kernel
theorem dX6_seat_21 : decode cX6_seat 21 = .ok (.ldc 173, 2) := by decide +kernel
theorem dX6_seat_23 : decode cX6_seat 23 = .ok (.invokespecial 51, 3) := by decide +kernel
theorem dX6_seat_26 : decode cX6_seat 26 = .ok (.athrow, 1) := by decide +kernel
theorem dX6_seat_27 : decode cX6_seat 27 = .ok (.aload_n 0, 1) := by decide +kernel
theorem dX6_seat_28 : decode cX6_seat 28 = .ok (.invokevirtual 175, 3) := by decide +kernel
theorem dX6_seat_31 : decode cX6_seat 31 = .ok (.iconst 3, 1) := by decide +kernel
theorem dX6_seat_32 : decode cX6_seat 32 = .ok (.if_icmp .ge 7, 3) := by decide +kernel
theorem dX6_seat_35 : decode cX6_seat 35 = .ok (.ldc2_w 179, 3) := by decide +kernel
theorem dX6_seat_38 : decode cX6_seat 38 = .ok (.lreturn, 1) := by decide +kernel
theorem dX6_seat_39 : decode cX6_seat 39 = .ok (.aload_n 0, 1) := by decide +kernel
theorem dX6_seat_40 : decode cX6_seat 40 = .ok (.iload_n 1, 1) := by decide +kernel
theorem dX6_seat_41 : decode cX6_seat 41 = .ok (.invokevirtual 181, 3) := by decide +kernel
theorem dX6_seat_44 : decode cX6_seat 44 = .ok (.astore_n 3, 1) := by decide +kernel
theorem dX6_seat_45 : decode cX6_seat 45 = .ok (.aload_n 3, 1) := by decide +kernel
theorem dX6_seat_46 : decode cX6_seat 46 = .ok (.getfield 185, 3) := by decide +kernel
theorem dX6_seat_49 : decode cX6_seat 49 = .ok (.iconst (-1), 1) := by decide +kernel
theorem dX6_seat_50 : decode cX6_seat 50 = .ok (.if_icmp .ne 7, 3) := by decide +kernel
theorem dX6_seat_53 : decode cX6_seat 53 = .ok (.ldc2_w 179, 3) := by decide +kernel
theorem dX6_seat_56 : decode cX6_seat 56 = .ok (.lreturn, 1) := by decide +kernel
theorem dX6_seat_57 : decode cX6_seat 57 = .ok (.iload_n 2, 1) := by decide +kernel
theorem dX6_seat_58 : decode cX6_seat 58 = .ok (.lookupswitch 38 #[(0, 26), (1, 32)], 26) := by decide +kernel
theorem dX6_seat_84 : decode cX6_seat 84 = .ok (.aload_n 3, 1) := by decide +kernel
theorem dX6_seat_85 : decode cX6_seat 85 = .ok (.getfield 185, 3) := by decide +kernel
theorem dX6_seat_88 : decode cX6_seat 88 = .ok (.i2l, 1) := by decide +kernel
theorem dX6_seat_89 : decode cX6_seat 89 = .ok (.lreturn, 1) := by decide +kernel
theorem dX6_seat_90 : decode cX6_seat 90 = .ok (.aload_n 3, 1) := by decide +kernel
theorem dX6_seat_91 : decode cX6_seat 91 = .ok (.getfield 188, 3) := by decide +kernel
theorem dX6_seat_94 : decode cX6_seat 94 = .ok (.i2l, 1) := by decide +kernel
theorem dX6_seat_95 : decode cX6_seat 95 = .ok (.lreturn, 1) := by decide +kernel
theorem dX6_seat_96 : decode cX6_seat 96 = .ok (.aload_n 3, 1) := by decide +kernel
theorem dX6_seat_97 : decode cX6_seat 97 = .ok (.getfield 191, 3) := by decide +kernel
theorem dX6_seat_100 : decode cX6_seat 100 = .ok (.lreturn, 1) := by decide +kernel
theorem dX6_part_0 : decode cX6_part 0 = .ok (.lload_n 1, 1) := by decide +kernel
theorem dX6_part_1 : decode cX6_part 1 = .ok (.lconst 0, 1) := by decide +kernel
theorem dX6_part_2 : decode cX6_part 2 = .ok (.lcmp, 1) := by decide +kernel
theorem dX6_part_3 : decode cX6_part 3 = .ok (.ifCond .lt 11, 3) := by decide +kernel
theorem dX6_part_6 : decode cX6_part 6 = .ok (.iload_n 3, 1) := by decide +kernel
theorem dX6_part_7 : decode cX6_part 7 = .ok (.iconst 3, 1) := by decide +kernel
theorem dX6_part_8 : decode cX6_part 8 = .ok (.invokestatic 43, 3) := by decide +kernel
theorem dX6_part_11 : decode cX6_part 11 = .ok (.ifCond .ne 13, 3) := by decide +kernel
theorem dX6_part_14 : decode cX6_part 14 = .ok (.new 56, 3) := by decide +kernel
theorem dX6_part_17 : decode cX6_part 17 = .ok (.dup, 1) := by decide +kernel
theorem dX6_part_18 : decode cX6_part 18 = .ok (.ldc 194, 2) := by decide +kernel
theorem dX6_part_20 : decode cX6_part 20 = .ok (.invokespecial 60, 3) := by decide +kernel
theorem dX6_part_23 : decode cX6_part 23 = .ok (.athrow, 1) := by decide +kernel
theorem dX6_part_24 : decode cX6_part 24 = .ok (.iload_n 3, 1) := by decide +kernel
theorem dX6_part_25 : decode cX6_part 25 = .ok (.lookupswitch 41 #[(0, 27), (1, 32)], 27) := by decide +kernel
theorem dX6_part_52 : decode cX6_part 52 = .ok (.lload_n 1, 1) := by decide +kernel
theorem dX6_part_53 : decode cX6_part 53 = .ok (.bipush 23, 2) := by decide +kernel
theorem dX6_part_55 : decode cX6_part 55 = .ok (.lshr, 1) := by decide +kernel
theorem dX6_part_56 : decode cX6_part 56 = .ok (.lreturn, 1) := by decide +kernel
theorem dX6_part_57 : decode cX6_part 57 = .ok (.lload_n 1, 1) := by decide +kernel
theorem dX6_part_58 : decode cX6_part 58 = .ok (.bipush 10, 2) := by decide +kernel
theorem dX6_part_60 : decode cX6_part 60 = .ok (.lshr, 1) := by decide +kernel
theorem dX6_part_61 : decode cX6_part 61 = .ok (.ldc2_w 196, 3) := by decide +kernel
theorem dX6_part_64 : decode cX6_part 64 = .ok (.land, 1) := by decide +kernel
theorem dX6_part_65 : decode cX6_part 65 = .ok (.lreturn, 1) := by decide +kernel
theorem dX6_part_66 : decode cX6_part 66 = .ok (.lload_n 1, 1) := by decide +kernel
theorem dX6_part_67 : decode cX6_part 67 = .ok (.ldc2_w 198, 3) := by decide +kernel
theorem dX6_part_70 : decode cX6_part 70 = .ok (.land, 1) := by decide +kernel
theorem dX6_part_71 : decode cX6_part 71 = .ok (.lreturn, 1) := by decide +kernel
theorem dX6_isWithin_0 : decode cX6_isWithin 0 = .ok (.iload_n 0, 1) := by decide +kernel
theorem dX6_isWithin_1 : decode cX6_isWithin 1 = .ok (.ifCond .lt 12, 3) := by decide +kernel
theorem dX6_isWithin_4 : decode cX6_isWithin 4 = .ok (.iload_n 0, 1) := by decide +kernel
theorem dX6_isWithin_5 : decode cX6_isWithin 5 = .ok (.iload_n 1, 1) := by decide +kernel
theorem dX6_isWithin_6 : decode cX6_isWithin 6 = .ok (.if_icmp .ge 7, 3) := by decide +kernel
theorem dX6_isWithin_9 : decode cX6_isWithin 9 = .ok (.iconst 1, 1) := by decide +kernel
theorem dX6_isWithin_10 : decode cX6_isWithin 10 = .ok (.goto 4, 3) := by decide +kernel
theorem dX6_isWithin_13 : decode cX6_isWithin 13 = .ok (.iconst 0, 1) := by decide +kernel
theorem dX6_isWithin_14 : decode cX6_isWithin 14 = .ok (.ireturn, 1) := by decide +kernel
theorem dX6_attempt_0 : decode cX6_attempt 0 = .ok (.aload_n 1, 1) := by decide +kernel
theorem dX6_attempt_1 : decode cX6_attempt 1 = .ok (.invokevirtual 200, 3) := by decide +kernel
theorem dX6_attempt_4 : decode cX6_attempt 4 = .ok (.iconst 0, 1) := by decide +kernel
theorem dX6_attempt_5 : decode cX6_attempt 5 = .ok (.istore_n 2, 1) := by decide +kernel
theorem dX6_attempt_6 : decode cX6_attempt 6 = .ok (.iload_n 2, 1) := by decide +kernel
theorem dX6_attempt_7 : decode cX6_attempt 7 = .ok (.iconst 5, 1) := by decide +kernel
theorem dX6_attempt_8 : decode cX6_attempt 8 = .ok (.if_icmp .ge 27, 3) := by decide +kernel
theorem dX6_attempt_11 : decode cX6_attempt 11 = .ok (.aload_n 0, 1) := by decide +kernel
theorem dX6_attempt_12 : decode cX6_attempt 12 = .ok (.getfield 35, 3) := by decide +kernel
theorem dX6_attempt_15 : decode cX6_attempt 15 = .ok (.iconst 0, 1) := by decide +kernel
theorem dX6_attempt_16 : decode cX6_attempt 16 = .ok (.aload_n 1, 1) := by decide +kernel
theorem dX6_attempt_17 : decode cX6_attempt 17 = .ok (.getfield 203, 3) := by decide +kernel
theorem dX6_attempt_20 : decode cX6_attempt 20 = .ok (.iload_n 2, 1) := by decide +kernel
theorem dX6_attempt_21 : decode cX6_attempt 21 = .ok (.aload_n 1, 1) := by decide +kernel
theorem dX6_attempt_22 : decode cX6_attempt 22 = .ok (.getfield 206, 3) := by decide +kernel
theorem dX6_attempt_25 : decode cX6_attempt 25 = .ok (.invokevirtual 207, 3) := by decide +kernel
theorem dX6_attempt_28 : decode cX6_attempt 28 = .ok (.pop, 1) := by decide +kernel
theorem dX6_attempt_29 : decode cX6_attempt 29 = .ok (.iinc 2 1, 3) := by decide +kernel
theorem dX6_attempt_32 : decode cX6_attempt 32 = .ok (.goto (-26), 3) := by decide +kernel
theorem dX6_attempt_35 : decode cX6_attempt 35 = .ok (.return_, 1) := by decide +kernel
theorem dX6_handToNode_0 : decode cX6_handToNode 0 = .ok (.aload_n 0, 1) := by decide +kernel
theorem dX6_handToNode_1 : decode cX6_handToNode 1 = .ok (.getfield 17, 3) := by decide +kernel
theorem dX6_handToNode_4 : decode cX6_handToNode 4 = .ok (.aload_n 1, 1) := by decide +kernel
theorem dX6_handToNode_5 : decode cX6_handToNode 5 = .ok (.getfield 144, 3) := by decide +kernel
theorem dX6_handToNode_8 : decode cX6_handToNode 8 = .ok (.aaload, 1) := by decide +kernel
theorem dX6_handToNode_9 : decode cX6_handToNode 9 = .ok (.astore_n 2, 1) := by decide +kernel
theorem dX6_handToNode_10 : decode cX6_handToNode 10 = .ok (.aload_n 2, 1) := by decide +kernel
theorem dX6_handToNode_11 : decode cX6_handToNode 11 = .ok (.getfield 93, 3) := by decide +kernel
theorem dX6_handToNode_14 : decode cX6_handToNode 14 = .ok (.ifCond .ne 5, 3) := by decide +kernel
theorem dX6_handToNode_17 : decode cX6_handToNode 17 = .ok (.iconst 0, 1) := by decide +kernel
theorem dX6_handToNode_18 : decode cX6_handToNode 18 = .ok (.ireturn, 1) := by decide +kernel
theorem dX6_handToNode_19 : decode cX6_handToNode 19 = .ok (.aload_n 1, 1) := by decide +kernel
theorem dX6_handToNode_20 : decode cX6_handToNode 20 = .ok (.getfield 141, 3) := by decide +kernel
theorem dX6_handToNode_23 : decode cX6_handToNode 23 = .ok (.ifCond .ne 15, 3) := by decide +kernel
theorem dX6_handToNode_26 : decode cX6_handToNode 26 = .ok (.aload_n 2, 1) := by decide +kernel
theorem dX6_handToNode_27 : decode cX6_handToNode 27 = .ok (.aload_n 1, 1) := by decide +kernel
theorem dX6_handToNode_28 : decode cX6_handToNode 28 = .ok (.aload_n 0, 1) := by decide +kernel
theorem dX6_handToNode_29 : decode cX6_handToNode 29 = .ok (.getfield 35, 3) := by decide +kernel
theorem dX6_handToNode_32 : decode cX6_handToNode 32 = .ok (.invokevirtual 211, 3) := by decide +kernel
theorem dX6_handToNode_35 : decode cX6_handToNode 35 = .ok (.goto 12, 3) := by decide +kernel
theorem dX6_handToNode_38 : decode cX6_handToNode 38 = .ok (.aload_n 2, 1) := by decide +kernel
theorem dX6_handToNode_39 : decode cX6_handToNode 39 = .ok (.aload_n 1, 1) := by decide +kernel
theorem dX6_handToNode_40 : decode cX6_handToNode 40 = .ok (.aload_n 0, 1) := by decide +kernel
theorem dX6_handToNode_41 : decode cX6_handToNode 41 = .ok (.getfield 35, 3) := by decide +kernel
theorem dX6_handToNode_44 : decode cX6_handToNode 44 = .ok (.invokevirtual 215, 3) := by decide +kernel
theorem dX6_handToNode_47 : decode cX6_handToNode 47 = .ok (.iconst 1, 1) := by decide +kernel
theorem dX6_handToNode_48 : decode cX6_handToNode 48 = .ok (.ireturn, 1) := by decide +kernel
theorem dX6_decide_0 : decode cX6_decide 0 = .ok (.aload_n 1, 1) := by decide +kernel
theorem dX6_decide_1 : decode cX6_decide 1 = .ok (.aload_n 0, 1) := by decide +kernel
theorem dX6_decide_2 : decode cX6_decide 2 = .ok (.getfield 35, 3) := by decide +kernel
theorem dX6_decide_5 : decode cX6_decide 5 = .ok (.iload_n 2, 1) := by decide +kernel
theorem dX6_decide_6 : decode cX6_decide 6 = .ok (.invokevirtual 102, 3) := by decide +kernel
theorem dX6_decide_9 : decode cX6_decide 9 = .ok (.invokevirtual 218, 3) := by decide +kernel
theorem dX6_decide_12 : decode cX6_decide 12 = .ok (.astore_n 3, 1) := by decide +kernel
theorem dX6_decide_13 : decode cX6_decide 13 = .ok (.aload_n 3, 1) := by decide +kernel
theorem dX6_decide_14 : decode cX6_decide 14 = .ok (.ifnull 24, 3) := by decide +kernel
theorem dX6_decide_17 : decode cX6_decide 17 = .ok (.aload_n 0, 1) := by decide +kernel
theorem dX6_decide_18 : decode cX6_decide 18 = .ok (.getfield 35, 3) := by decide +kernel
theorem dX6_decide_21 : decode cX6_decide 21 = .ok (.iconst 4, 1) := by decide +kernel
theorem dX6_decide_22 : decode cX6_decide 22 = .ok (.invokevirtual 73, 3) := by decide +kernel
theorem dX6_decide_25 : decode cX6_decide 25 = .ok (.ifCond .ne 13, 3) := by decide +kernel
theorem dX6_decide_28 : decode cX6_decide 28 = .ok (.new 77, 3) := by decide +kernel
theorem dX6_decide_31 : decode cX6_decide 31 = .ok (.dup, 1) := by decide +kernel
theorem dX6_decide_32 : decode cX6_decide 32 = .ok (.ldc 134, 2) := by decide +kernel
theorem dX6_decide_34 : decode cX6_decide 34 = .ok (.invokespecial 81, 3) := by decide +kernel
theorem dX6_decide_37 : decode cX6_decide 37 = .ok (.athrow, 1) := by decide +kernel
theorem dX6_decide_38 : decode cX6_decide 38 = .ok (.aload_n 0, 1) := by decide +kernel
theorem dX6_decide_39 : decode cX6_decide 39 = .ok (.getfield 35, 3) := by decide +kernel
theorem dX6_decide_42 : decode cX6_decide 42 = .ok (.iload_n 2, 1) := by decide +kernel
theorem dX6_decide_43 : decode cX6_decide 43 = .ok (.invokevirtual 111, 3) := by decide +kernel
theorem dX6_decide_46 : decode cX6_decide 46 = .ok (.aload_n 3, 1) := by decide +kernel
theorem dX6_decide_47 : decode cX6_decide 47 = .ok (.ifnonnull 9, 3) := by decide +kernel
theorem dX6_decide_50 : decode cX6_decide 50 = .ok (.aload_n 1, 1) := by decide +kernel
theorem dX6_decide_51 : decode cX6_decide 51 = .ok (.invokevirtual 222, 3) := by decide +kernel
theorem dX6_decide_54 : decode cX6_decide 54 = .ok (.iconst 0, 1) := by decide +kernel
theorem dX6_decide_55 : decode cX6_decide 55 = .ok (.ireturn, 1) := by decide +kernel
theorem dX6_decide_56 : decode cX6_decide 56 = .ok (.aload_n 1, 1) := by decide +kernel
theorem dX6_decide_57 : decode cX6_decide 57 = .ok (.aload_n 3, 1) := by decide +kernel
theorem dX6_decide_58 : decode cX6_decide 58 = .ok (.invokevirtual 225, 3) := by decide +kernel
theorem dX6_decide_61 : decode cX6_decide 61 = .ok (.iconst 0, 1) := by decide +kernel
theorem dX6_decide_62 : decode cX6_decide 62 = .ok (.istore 4, 2) := by decide +kernel
theorem dX6_decide_64 : decode cX6_decide 64 = .ok (.iload 4, 2) := by decide +kernel
theorem dX6_decide_66 : decode cX6_decide 66 = .ok (.iconst 5, 1) := by decide +kernel
theorem dX6_decide_67 : decode cX6_decide 67 = .ok (.if_icmp .ge 47, 3) := by decide +kernel
theorem dX6_decide_70 : decode cX6_decide 70 = .ok (.aload_n 0, 1) := by decide +kernel
theorem dX6_decide_71 : decode cX6_decide 71 = .ok (.getfield 35, 3) := by decide +kernel
theorem dX6_decide_74 : decode cX6_decide 74 = .ok (.iconst 2, 1) := by decide +kernel
theorem dX6_decide_75 : decode cX6_decide 75 = .ok (.aload_n 1, 1) := by decide +kernel
theorem dX6_decide_76 : decode cX6_decide 76 = .ok (.getfield 203, 3) := by decide +kernel
theorem dX6_decide_79 : decode cX6_decide 79 = .ok (.iload 4, 2) := by decide +kernel
theorem dX6_decide_81 : decode cX6_decide 81 = .ok (.aload_n 1, 1) := by decide +kernel
theorem dX6_decide_82 : decode cX6_decide 82 = .ok (.getfield 206, 3) := by decide +kernel
theorem dX6_decide_85 : decode cX6_decide 85 = .ok (.invokevirtual 207, 3) := by decide +kernel
theorem dX6_decide_88 : decode cX6_decide 88 = .ok (.astore 5, 2) := by decide +kernel
theorem dX6_decide_90 : decode cX6_decide 90 = .ok (.aload 5, 2) := by decide +kernel
theorem dX6_decide_92 : decode cX6_decide 92 = .ok (.aload_n 3, 1) := by decide +kernel
theorem dX6_decide_93 : decode cX6_decide 93 = .ok (.getfield 229, 3) := by decide +kernel
theorem dX6_decide_96 : decode cX6_decide 96 = .ok (.putfield 150, 3) := by decide +kernel
theorem dX6_decide_99 : decode cX6_decide 99 = .ok (.aload 5, 2) := by decide +kernel
theorem dX6_decide_101 : decode cX6_decide 101 = .ok (.aload_n 3, 1) := by decide +kernel
theorem dX6_decide_102 : decode cX6_decide 102 = .ok (.getfield 232, 3) := by decide +kernel
theorem dX6_decide_105 : decode cX6_decide 105 = .ok (.putfield 235, 3) := by decide +kernel
theorem dX6_decide_108 : decode cX6_decide 108 = .ok (.iinc 4 1, 3) := by decide +kernel
theorem dX6_decide_111 : decode cX6_decide 111 = .ok (.goto (-47), 3) := by decide +kernel
theorem dX6_decide_114 : decode cX6_decide 114 = .ok (.iconst 5, 1) := by decide +kernel
theorem dX6_decide_115 : decode cX6_decide 115 = .ok (.ireturn, 1) := by decide +kernel
theorem dX6_nodesUp_0 : decode cX6_nodesUp 0 = .ok (.iconst 0, 1) := by decide +kernel
theorem dX6_nodesUp_1 : decode cX6_nodesUp 1 = .ok (.istore_n 1, 1) := by decide +kernel
theorem dX6_nodesUp_2 : decode cX6_nodesUp 2 = .ok (.iconst 0, 1) := by decide +kernel
theorem dX6_nodesUp_3 : decode cX6_nodesUp 3 = .ok (.istore_n 2, 1) := by decide +kernel
theorem dX6_nodesUp_4 : decode cX6_nodesUp 4 = .ok (.iload_n 2, 1) := by decide +kernel
theorem dX6_nodesUp_5 : decode cX6_nodesUp 5 = .ok (.iconst 5, 1) := by decide +kernel
theorem dX6_nodesUp_6 : decode cX6_nodesUp 6 = .ok (.if_icmp .ge 24, 3) := by decide +kernel
theorem dX6_nodesUp_9 : decode cX6_nodesUp 9 = .ok (.aload_n 0, 1) := by decide +kernel
theorem dX6_nodesUp_10 : decode cX6_nodesUp 10 = .ok (.getfield 17, 3) := by decide +kernel
theorem dX6_nodesUp_13 : decode cX6_nodesUp 13 = .ok (.iload_n 2, 1) := by decide +kernel
theorem dX6_nodesUp_14 : decode cX6_nodesUp 14 = .ok (.aaload, 1) := by decide +kernel
theorem dX6_nodesUp_15 : decode cX6_nodesUp 15 = .ok (.getfield 93, 3) := by decide +kernel
theorem dX6_nodesUp_18 : decode cX6_nodesUp 18 = .ok (.ifCond .eq 6, 3) := by decide +kernel
theorem dX6_nodesUp_21 : decode cX6_nodesUp 21 = .ok (.iinc 1 1, 3) := by decide +kernel
theorem dX6_nodesUp_24 : decode cX6_nodesUp 24 = .ok (.iinc 2 1, 3) := by decide +kernel
theorem dX6_nodesUp_27 : decode cX6_nodesUp 27 = .ok (.goto (-23), 3) := by decide +kernel
theorem dX6_nodesUp_30 : decode cX6_nodesUp 30 = .ok (.iload_n 1, 1) := by decide +kernel
theorem dX6_nodesUp_31 : decode cX6_nodesUp 31 = .ok (.ireturn, 1) := by decide +kernel
theorem dX6_newestRow_0 : decode cX6_newestRow 0 = .ok (.aload_n 0, 1) := by decide +kernel
theorem dX6_newestRow_1 : decode cX6_newestRow 1 = .ok (.getfield 26, 3) := by decide +kernel
theorem dX6_newestRow_4 : decode cX6_newestRow 4 = .ok (.astore_n 2, 1) := by decide +kernel
theorem dX6_newestRow_5 : decode cX6_newestRow 5 = .ok (.iconst 0, 1) := by decide +kernel
theorem dX6_newestRow_6 : decode cX6_newestRow 6 = .ok (.istore_n 3, 1) := by decide +kernel
theorem dX6_newestRow_7 : decode cX6_newestRow 7 = .ok (.iload_n 3, 1) := by decide +kernel
theorem dX6_newestRow_8 : decode cX6_newestRow 8 = .ok (.iconst 5, 1) := by decide +kernel
theorem dX6_newestRow_9 : decode cX6_newestRow 9 = .ok (.if_icmp .ge 37, 3) := by decide +kernel
theorem dX6_newestRow_12 : decode cX6_newestRow 12 = .ok (.aload_n 0, 1) := by decide +kernel
theorem dX6_newestRow_13 : decode cX6_newestRow 13 = .ok (.getfield 17, 3) := by decide +kernel
theorem dX6_newestRow_16 : decode cX6_newestRow 16 = .ok (.iload_n 3, 1) := by decide +kernel
theorem dX6_newestRow_17 : decode cX6_newestRow 17 = .ok (.aaload, 1) := by decide +kernel
theorem dX6_newestRow_18 : decode cX6_newestRow 18 = .ok (.getfield 93, 3) := by decide +kernel
theorem dX6_newestRow_21 : decode cX6_newestRow 21 = .ok (.ifCond .eq 19, 3) := by decide +kernel
theorem dX6_newestRow_24 : decode cX6_newestRow 24 = .ok (.aload_n 2, 1) := by decide +kernel
theorem dX6_newestRow_25 : decode cX6_newestRow 25 = .ok (.aload_n 0, 1) := by decide +kernel
theorem dX6_newestRow_26 : decode cX6_newestRow 26 = .ok (.getfield 17, 3) := by decide +kernel
theorem dX6_newestRow_29 : decode cX6_newestRow 29 = .ok (.iload_n 3, 1) := by decide +kernel
theorem dX6_newestRow_30 : decode cX6_newestRow 30 = .ok (.aaload, 1) := by decide +kernel
theorem dX6_newestRow_31 : decode cX6_newestRow 31 = .ok (.getfield 236, 3) := by decide +kernel
theorem dX6_newestRow_34 : decode cX6_newestRow 34 = .ok (.iload_n 1, 1) := by decide +kernel
theorem dX6_newestRow_35 : decode cX6_newestRow 35 = .ok (.aaload, 1) := by decide +kernel
theorem dX6_newestRow_36 : decode cX6_newestRow 36 = .ok (.invokevirtual 240, 3) := by decide +kernel
theorem dX6_newestRow_39 : decode cX6_newestRow 39 = .ok (.astore_n 2, 1) := by decide +kernel
theorem dX6_newestRow_40 : decode cX6_newestRow 40 = .ok (.iinc 3 1, 3) := by decide +kernel
theorem dX6_newestRow_43 : decode cX6_newestRow 43 = .ok (.goto (-36), 3) := by decide +kernel
theorem dX6_newestRow_46 : decode cX6_newestRow 46 = .ok (.aload_n 2, 1) := by decide +kernel
theorem dX6_newestRow_47 : decode cX6_newestRow 47 = .ok (.areturn, 1) := by decide +kernel
theorem dX7_init_0 : decode cX7_init 0 = .ok (.aload_n 0, 1) := by decide +kernel
theorem dX7_init_1 : decode cX7_init 1 = .ok (.invokespecial 1, 3) := by decide +kernel
theorem dX7_init_4 : decode cX7_init 4 = .ok (.aload_n 0, 1) := by decide +kernel
theorem dX7_init_5 : decode cX7_init 5 = .ok (.bipush 100, 2) := by decide +kernel
theorem dX7_init_7 : decode cX7_init 7 = .ok (.newarray .int, 2) := by decide +kernel
theorem dX7_init_9 : decode cX7_init 9 = .ok (.putfield 7, 3) := by decide +kernel
theorem dX7_init_12 : decode cX7_init 12 = .ok (.aload_n 0, 1) := by decide +kernel
theorem dX7_init_13 : decode cX7_init 13 = .ok (.bipush 100, 2) := by decide +kernel
theorem dX7_init_15 : decode cX7_init 15 = .ok (.newarray .int, 2) := by decide +kernel
theorem dX7_init_17 : decode cX7_init 17 = .ok (.putfield 13, 3) := by decide +kernel
theorem dX7_init_20 : decode cX7_init 20 = .ok (.aload_n 0, 1) := by decide +kernel
theorem dX7_init_21 : decode cX7_init 21 = .ok (.bipush 100, 2) := by decide +kernel
theorem dX7_init_23 : decode cX7_init 23 = .ok (.newarray .int, 2) := by decide +kernel
theorem dX7_init_25 : decode cX7_init 25 = .ok (.putfield 16, 3) := by decide +kernel
theorem dX7_init_28 : decode cX7_init 28 = .ok (.aload_n 0, 1) := by decide +kernel
theorem dX7_init_29 : decode cX7_init 29 = .ok (.bipush 100, 2) := by decide +kernel
theorem dX7_init_31 : decode cX7_init 31 = .ok (.newarray .int, 2) := by decide +kernel
theorem dX7_init_33 : decode cX7_init 33 = .ok (.putfield 19, 3) := by decide +kernel
theorem dX7_init_36 : decode cX7_init 36 = .ok (.aload_n 0, 1) := by decide +kernel
theorem dX7_init_37 : decode cX7_init 37 = .ok (.bipush 100, 2) := by decide +kernel
theorem dX7_init_39 : decode cX7_init 39 = .ok (.newarray .int, 2) := by decide +kernel
theorem dX7_init_41 : decode cX7_init 41 = .ok (.putfield 22, 3) := by decide +kernel
theorem dX7_init_44 : decode cX7_init 44 = .ok (.aload_n 0, 1) := by decide +kernel
theorem dX7_init_45 : decode cX7_init 45 = .ok (.bipush 100, 2) := by decide +kernel
theorem dX7_init_47 : decode cX7_init 47 = .ok (.newarray .int, 2) := by decide +kernel
theorem dX7_init_49 : decode cX7_init 49 = .ok (.putfield 25, 3) := by decide +kernel
theorem dX7_init_52 : decode cX7_init 52 = .ok (.aload_n 0, 1) := by decide +kernel
theorem dX7_init_53 : decode cX7_init 53 = .ok (.bipush 100, 2) := by decide +kernel
theorem dX7_init_55 : decode cX7_init 55 = .ok (.newarray .long, 2) := by decide +kernel
theorem dX7_init_57 : decode cX7_init 57 = .ok (.putfield 28, 3) := by decide +kernel
theorem dX7_init_60 : decode cX7_init 60 = .ok (.aload_n 0, 1) := by decide +kernel
theorem dX7_init_61 : decode cX7_init 61 = .ok (.bipush 100, 2) := by decide +kernel
theorem dX7_init_63 : decode cX7_init 63 = .ok (.newarray .int, 2) := by decide +kernel
theorem dX7_init_65 : decode cX7_init 65 = .ok (.putfield 32, 3) := by decide +kernel
theorem dX7_init_68 : decode cX7_init 68 = .ok (.aload_n 0, 1) := by decide +kernel
theorem dX7_init_69 : decode cX7_init 69 = .ok (.sipush 600, 3) := by decide +kernel
theorem dX7_init_72 : decode cX7_init 72 = .ok (.newarray .int, 2) := by decide +kernel
theorem dX7_init_74 : decode cX7_init 74 = .ok (.putfield 35, 3) := by decide +kernel
theorem dX7_init_77 : decode cX7_init 77 = .ok (.aload_n 0, 1) := by decide +kernel
theorem dX7_init_78 : decode cX7_init 78 = .ok (.sipush 600, 3) := by decide +kernel
theorem dX7_init_81 : decode cX7_init 81 = .ok (.newarray .int, 2) := by decide +kernel
theorem dX7_init_83 : decode cX7_init 83 = .ok (.putfield 38, 3) := by decide +kernel
theorem dX7_init_86 : decode cX7_init 86 = .ok (.aload_n 0, 1) := by decide +kernel
theorem dX7_init_87 : decode cX7_init 87 = .ok (.sipush 600, 3) := by decide +kernel
theorem dX7_init_90 : decode cX7_init 90 = .ok (.newarray .int, 2) := by decide +kernel
theorem dX7_init_92 : decode cX7_init 92 = .ok (.putfield 41, 3) := by decide +kernel
theorem dX7_init_95 : decode cX7_init 95 = .ok (.aload_n 0, 1) := by decide +kernel
theorem dX7_init_96 : decode cX7_init 96 = .ok (.sipush 600, 3) := by decide +kernel
theorem dX7_init_99 : decode cX7_init 99 = .ok (.newarray .int, 2) := by decide +kernel
theorem dX7_init_101 : decode cX7_init 101 = .ok (.putfield 44, 3) := by decide +kernel
theorem dX7_init_104 : decode cX7_init 104 = .ok (.aload_n 0, 1) := by decide +kernel
theorem dX7_init_105 : decode cX7_init 105 = .ok (.sipush 600, 3) := by decide +kernel
theorem dX7_init_108 : decode cX7_init 108 = .ok (.newarray .int, 2) := by decide +kernel
theorem dX7_init_110 : decode cX7_init 110 = .ok (.putfield 47, 3) := by decide +kernel
theorem dX7_init_113 : decode cX7_init 113 = .ok (.aload_n 0, 1) := by decide +kernel
theorem dX7_init_114 : decode cX7_init 114 = .ok (.sipush 600, 3) := by decide +kernel
theorem dX7_init_117 : decode cX7_init 117 = .ok (.newarray .long, 2) := by decide +kernel
theorem dX7_init_119 : decode cX7_init 119 = .ok (.putfield 50, 3) := by decide +kernel
theorem dX7_init_122 : decode cX7_init 122 = .ok (.aload_n 0, 1) := by decide +kernel
theorem dX7_init_123 : decode cX7_init 123 = .ok (.iconst 5, 1) := by decide +kernel
theorem dX7_init_124 : decode cX7_init 124 = .ok (.newarray .boolean, 2) := by decide +kernel
theorem dX7_init_126 : decode cX7_init 126 = .ok (.putfield 53, 3) := by decide +kernel
theorem dX7_init_129 : decode cX7_init 129 = .ok (.aload_n 0, 1) := by decide +kernel
theorem dX7_init_130 : decode cX7_init 130 = .ok (.iconst 5, 1) := by decide +kernel
theorem dX7_init_131 : decode cX7_init 131 = .ok (.newarray .int, 2) := by decide +kernel
theorem dX7_init_133 : decode cX7_init 133 = .ok (.putfield 57, 3) := by decide +kernel
theorem dX7_init_136 : decode cX7_init 136 = .ok (.aload_n 0, 1) := by decide +kernel
theorem dX7_init_137 : decode cX7_init 137 = .ok (.bipush 8, 2) := by decide +kernel
theorem dX7_init_139 : decode cX7_init 139 = .ok (.newarray .long, 2) := by decide +kernel
theorem dX7_init_141 : decode cX7_init 141 = .ok (.putfield 60, 3) := by decide +kernel
theorem dX7_init_144 : decode cX7_init 144 = .ok (.aload_n 0, 1) := by decide +kernel
theorem dX7_init_145 : decode cX7_init 145 = .ok (.bipush 8, 2) := by decide +kernel
theorem dX7_init_147 : decode cX7_init 147 = .ok (.newarray .int, 2) := by decide +kernel
theorem dX7_init_149 : decode cX7_init 149 = .ok (.putfield 63, 3) := by decide +kernel
theorem dX7_init_152 : decode cX7_init 152 = .ok (.aload_n 0, 1) := by decide +kernel
theorem dX7_init_153 : decode cX7_init 153 = .ok (.bipush 8, 2) := by decide +kernel
theorem dX7_init_155 : decode cX7_init 155 = .ok (.newarray .boolean, 2) := by decide +kernel
theorem dX7_init_157 : decode cX7_init 157 = .ok (.putfield 66, 3) := by decide +kernel
theorem dX7_init_160 : decode cX7_init 160 = .ok (.aload_n 0, 1) := by decide +kernel
theorem dX7_init_161 : decode cX7_init 161 = .ok (.bipush 8, 2) := by decide +kernel
theorem dX7_init_163 : decode cX7_init 163 = .ok (.newarray .int, 2) := by decide +kernel
theorem dX7_init_165 : decode cX7_init 165 = .ok (.putfield 69, 3) := by decide +kernel
theorem dX7_init_168 : decode cX7_init 168 = .ok (.aload_n 0, 1) := by decide +kernel
theorem dX7_init_169 : decode cX7_init 169 = .ok (.bipush 8, 2) := by decide +kernel
theorem dX7_init_171 : decode cX7_init 171 = .ok (.newarray .int, 2) := by decide +kernel
theorem dX7_init_173 : decode cX7_init 173 = .ok (.putfield 72, 3) := by decide +kernel
theorem dX7_init_176 : decode cX7_init 176 = .ok (.aload_n 0, 1) := by decide +kernel
theorem dX7_init_177 : decode cX7_init 177 = .ok (.bipush 40, 2) := by decide +kernel
theorem dX7_init_179 : decode cX7_init 179 = .ok (.newarray .boolean, 2) := by decide +kernel
theorem dX7_init_181 : decode cX7_init 181 = .ok (.putfield 75, 3) := by decide +kernel
theorem dX7_init_184 : decode cX7_init 184 = .ok (.aload_n 0, 1) := by decide +kernel
theorem dX7_init_185 : decode cX7_init 185 = .ok (.bipush 40, 2) := by decide +kernel
theorem dX7_init_187 : decode cX7_init 187 = .ok (.newarray .int, 2) := by decide +kernel
theorem dX7_init_189 : decode cX7_init 189 = .ok (.putfield 78, 3) := by decide +kernel
theorem dX7_init_192 : decode cX7_init 192 = .ok (.aload_n 0, 1) := by decide +kernel
theorem dX7_init_193 : decode cX7_init 193 = .ok (.bipush 8, 2) := by decide +kernel
theorem dX7_init_195 : decode cX7_init 195 = .ok (.newarray .int, 2) := by decide +kernel
theorem dX7_init_197 : decode cX7_init 197 = .ok (.putfield 81, 3) := by decide +kernel
theorem dX7_init_200 : decode cX7_init 200 = .ok (.aload_n 0, 1) := by decide +kernel
theorem dX7_init_201 : decode cX7_init 201 = .ok (.bipush 8, 2) := by decide +kernel
theorem dX7_init_203 : decode cX7_init 203 = .ok (.newarray .int, 2) := by decide +kernel
theorem dX7_init_205 : decode cX7_init 205 = .ok (.putfield 84, 3) := by decide +kernel
theorem dX7_init_208 : decode cX7_init 208 = .ok (.aload_n 0, 1) := by decide +kernel
theorem dX7_init_209 : decode cX7_init 209 = .ok (.bipush 8, 2) := by decide +kernel
theorem dX7_init_211 : decode cX7_init 211 = .ok (.newarray .long, 2) := by decide +kernel
theorem dX7_init_213 : decode cX7_init 213 = .ok (.putfield 87, 3) := by decide +kernel
theorem dX7_init_216 : decode cX7_init 216 = .ok (.aload_n 0, 1) := by decide +kernel
theorem dX7_init_217 : decode cX7_init 217 = .ok (.bipush 8, 2) := by decide +kernel
theorem dX7_init_219 : decode cX7_init 219 = .ok (.newarray .boolean, 2) := by decide +kernel
theorem dX7_init_221 : decode cX7_init 221 = .ok (.putfield 90, 3) := by decide +kernel
theorem dX7_init_224 : decode cX7_init 224 = .ok (.aload_n 0, 1) := by decide +kernel
theorem dX7_init_225 : decode cX7_init 225 = .ok (.bipush 8, 2) := by decide +kernel
theorem dX7_init_227 : decode cX7_init 227 = .ok (.newarray .int, 2) := by decide +kernel
theorem dX7_init_229 : decode cX7_init 229 = .ok (.putfield 93, 3) := by decide +kernel
theorem dX7_init_232 : decode cX7_init 232 = .ok (.aload_n 0, 1) := by decide +kernel
theorem dX7_init_233 : decode cX7_init 233 = .ok (.bipush 8, 2) := by decide +kernel
theorem dX7_init_235 : decode cX7_init 235 = .ok (.newarray .int, 2) := by decide +kernel
theorem dX7_init_237 : decode cX7_init 237 = .ok (.putfield 96, 3) := by decide +kernel
theorem dX7_init_240 : decode cX7_init 240 = .ok (.aload_n 0, 1) := by decide +kernel
theorem dX7_init_241 : decode cX7_init 241 = .ok (.bipush 8, 2) := by decide +kernel
theorem dX7_init_243 : decode cX7_init 243 = .ok (.newarray .long, 2) := by decide +kernel
theorem dX7_init_245 : decode cX7_init 245 = .ok (.putfield 99, 3) := by decide +kernel
theorem dX7_init_248 : decode cX7_init 248 = .ok (.aload_n 0, 1) := by decide +kernel
theorem dX7_init_249 : decode cX7_init 249 = .ok (.bipush 8, 2) := by decide +kernel
theorem dX7_init_251 : decode cX7_init 251 = .ok (.newarray .long, 2) := by decide +kernel
theorem dX7_init_253 : decode cX7_init 253 = .ok (.putfield 102, 3) := by decide +kernel
theorem dX7_init_256 : decode cX7_init 256 = .ok (.aload_n 0, 1) := by decide +kernel
theorem dX7_init_257 : decode cX7_init 257 = .ok (.bipush 8, 2) := by decide +kernel
theorem dX7_init_259 : decode cX7_init 259 = .ok (.newarray .int, 2) := by decide +kernel
theorem dX7_init_261 : decode cX7_init 261 = .ok (.putfield 105, 3) := by decide +kernel
theorem dX7_init_264 : decode cX7_init 264 = .ok (.aload_n 0, 1) := by decide +kernel
theorem dX7_init_265 : decode cX7_init 265 = .ok (.bipush 8, 2) := by decide +kernel
theorem dX7_init_267 : decode cX7_init 267 = .ok (.newarray .int, 2) := by decide +kernel
theorem dX7_init_269 : decode cX7_init 269 = .ok (.putfield 108, 3) := by decide +kernel
theorem dX7_init_272 : decode cX7_init 272 = .ok (.aload_n 0, 1) := by decide +kernel
theorem dX7_init_273 : decode cX7_init 273 = .ok (.bipush 8, 2) := by decide +kernel
theorem dX7_init_275 : decode cX7_init 275 = .ok (.newarray .long, 2) := by decide +kernel
theorem dX7_init_277 : decode cX7_init 277 = .ok (.putfield 111, 3) := by decide +kernel
theorem dX7_init_280 : decode cX7_init 280 = .ok (.return_, 1) := by decide +kernel
theorem dX7_thrown_0 : decode cX7_thrown 0 = .ok (.aload_n 0, 1) := by decide +kernel
theorem dX7_thrown_1 : decode cX7_thrown 1 = .ok (.getfield 114, 3) := by decide +kernel
theorem dX7_thrown_4 : decode cX7_thrown 4 = .ok (.ireturn, 1) := by decide +kernel
theorem dX7_isIssuer_0 : decode cX7_isIssuer 0 = .ok (.iload_n 1, 1) := by decide +kernel
theorem dX7_isIssuer_1 : decode cX7_isIssuer 1 = .ok (.ifCond .lt 13, 3) := by decide +kernel
theorem dX7_isIssuer_4 : decode cX7_isIssuer 4 = .ok (.iload_n 1, 1) := by decide +kernel
theorem dX7_isIssuer_5 : decode cX7_isIssuer 5 = .ok (.bipush 8, 2) := by decide +kernel
theorem dX7_isIssuer_7 : decode cX7_isIssuer 7 = .ok (.if_icmp .ge 7, 3) := by decide +kernel
theorem dX7_isIssuer_10 : decode cX7_isIssuer 10 = .ok (.iconst 1, 1) := by decide +kernel
theorem dX7_isIssuer_11 : decode cX7_isIssuer 11 = .ok (.goto 4, 3) := by decide +kernel
end
section
theorem dX7_isIssuer_14 : decode cX7_isIssuer 14 = .ok (.iconst 0, 1) := by decide +kernel
theorem dX7_isIssuer_15 : decode cX7_isIssuer 15 = .ok (.istore_n 2, 1) := by decide +kernel
theorem dX7_isIssuer_16 : decode cX7_isIssuer 16 = .ok (.aload_n 0, 1) := by decide +kernel
theorem dX7_isIssuer_17 : decode cX7_isIssuer 17 = .ok (.iload_n 2, 1) := by decide +kernel
theorem dX7_isIssuer_18 : decode cX7_isIssuer 18 = .ok (.ifCond .eq 7, 3) := by decide +kernel
theorem dX7_isIssuer_21 : decode cX7_isIssuer 21 = .ok (.iconst 0, 1) := by decide +kernel
theorem dX7_isIssuer_22 : decode cX7_isIssuer 22 = .ok (.goto 4, 3) := by decide +kernel
theorem dX7_isIssuer_25 : decode cX7_isIssuer 25 = .ok (.iconst 1, 1) := by decide +kernel
theorem dX7_isIssuer_26 : decode cX7_isIssuer 26 = .ok (.putfield 114, 3) := by decide +kernel
theorem dX7_isIssuer_29 : decode cX7_isIssuer 29 = .ok (.iload_n 2, 1) := by decide +kernel
theorem dX7_isIssuer_30 : decode cX7_isIssuer 30 = .ok (.ireturn, 1) := by decide +kernel
theorem dX7_clock_0 : decode cX7_clock 0 = .ok (.aload_n 0, 1) := by decide +kernel
theorem dX7_clock_1 : decode cX7_clock 1 = .ok (.iload_n 1, 1) := by decide +kernel
theorem dX7_clock_2 : decode cX7_clock 2 = .ok (.invokevirtual 118, 3) := by decide +kernel
theorem dX7_clock_5 : decode cX7_clock 5 = .ok (.ifCond .ne 4, 3) := by decide +kernel
theorem dX7_clock_8 : decode cX7_clock 8 = .ok (.return_, 1) := by decide +kernel
theorem dX7_clock_9 : decode cX7_clock 9 = .ok (.lload_n 2, 1) := by decide +kernel
theorem dX7_clock_10 : decode cX7_clock 10 = .ok (.lconst 0, 1) := by decide +kernel
theorem dX7_clock_11 : decode cX7_clock 11 = .ok (.lcmp, 1) := by decide +kernel
theorem dX7_clock_12 : decode cX7_clock 12 = .ok (.ifCond .lt 11, 3) := by decide +kernel
theorem dX7_clock_15 : decode cX7_clock 15 = .ok (.lload_n 2, 1) := by decide +kernel
theorem dX7_clock_16 : decode cX7_clock 16 = .ok (.ldc2_w 122, 3) := by decide +kernel
theorem dX7_clock_19 : decode cX7_clock 19 = .ok (.lcmp, 1) := by decide +kernel
theorem dX7_clock_20 : decode cX7_clock 20 = .ok (.ifCond .le 11, 3) := by decide +kernel
theorem dX7_clock_23 : decode cX7_clock 23 = .ok (.aload_n 0, 1) := by decide +kernel
theorem dX7_clock_24 : decode cX7_clock 24 = .ok (.iconst 2, 1) := by decide +kernel
theorem dX7_clock_25 : decode cX7_clock 25 = .ok (.putfield 114, 3) := by decide +kernel
theorem dX7_clock_28 : decode cX7_clock 28 = .ok (.goto 10, 3) := by decide +kernel
theorem dX7_clock_31 : decode cX7_clock 31 = .ok (.aload_n 0, 1) := by decide +kernel
theorem dX7_clock_32 : decode cX7_clock 32 = .ok (.getfield 60, 3) := by decide +kernel
theorem dX7_clock_35 : decode cX7_clock 35 = .ok (.iload_n 1, 1) := by decide +kernel
theorem dX7_clock_36 : decode cX7_clock 36 = .ok (.lload_n 2, 1) := by decide +kernel
theorem dX7_clock_37 : decode cX7_clock 37 = .ok (.lastore, 1) := by decide +kernel
theorem dX7_clock_38 : decode cX7_clock 38 = .ok (.return_, 1) := by decide +kernel
theorem dX7_send_0 : decode cX7_send 0 = .ok (.aload_n 0, 1) := by decide +kernel
theorem dX7_send_1 : decode cX7_send 1 = .ok (.getfield 7, 3) := by decide +kernel
theorem dX7_send_4 : decode cX7_send 4 = .ok (.aload_n 0, 1) := by decide +kernel
theorem dX7_send_5 : decode cX7_send 5 = .ok (.getfield 124, 3) := by decide +kernel
theorem dX7_send_8 : decode cX7_send 8 = .ok (.iload_n 1, 1) := by decide +kernel
theorem dX7_send_9 : decode cX7_send 9 = .ok (.iastore, 1) := by decide +kernel
theorem dX7_send_10 : decode cX7_send 10 = .ok (.aload_n 0, 1) := by decide +kernel
theorem dX7_send_11 : decode cX7_send 11 = .ok (.getfield 13, 3) := by decide +kernel
theorem dX7_send_14 : decode cX7_send 14 = .ok (.aload_n 0, 1) := by decide +kernel
theorem dX7_send_15 : decode cX7_send 15 = .ok (.getfield 124, 3) := by decide +kernel
theorem dX7_send_18 : decode cX7_send 18 = .ok (.iload_n 2, 1) := by decide +kernel
theorem dX7_send_19 : decode cX7_send 19 = .ok (.iastore, 1) := by decide +kernel
theorem dX7_send_20 : decode cX7_send 20 = .ok (.aload_n 0, 1) := by decide +kernel
theorem dX7_send_21 : decode cX7_send 21 = .ok (.getfield 16, 3) := by decide +kernel
theorem dX7_send_24 : decode cX7_send 24 = .ok (.aload_n 0, 1) := by decide +kernel
theorem dX7_send_25 : decode cX7_send 25 = .ok (.getfield 124, 3) := by decide +kernel
theorem dX7_send_28 : decode cX7_send 28 = .ok (.iload_n 3, 1) := by decide +kernel
theorem dX7_send_29 : decode cX7_send 29 = .ok (.iastore, 1) := by decide +kernel
theorem dX7_send_30 : decode cX7_send 30 = .ok (.aload_n 0, 1) := by decide +kernel
theorem dX7_send_31 : decode cX7_send 31 = .ok (.getfield 19, 3) := by decide +kernel
theorem dX7_send_34 : decode cX7_send 34 = .ok (.aload_n 0, 1) := by decide +kernel
theorem dX7_send_35 : decode cX7_send 35 = .ok (.getfield 124, 3) := by decide +kernel
theorem dX7_send_38 : decode cX7_send 38 = .ok (.iload 4, 2) := by decide +kernel
theorem dX7_send_40 : decode cX7_send 40 = .ok (.iastore, 1) := by decide +kernel
theorem dX7_send_41 : decode cX7_send 41 = .ok (.aload_n 0, 1) := by decide +kernel
theorem dX7_send_42 : decode cX7_send 42 = .ok (.getfield 32, 3) := by decide +kernel
theorem dX7_send_45 : decode cX7_send 45 = .ok (.aload_n 0, 1) := by decide +kernel
theorem dX7_send_46 : decode cX7_send 46 = .ok (.getfield 124, 3) := by decide +kernel
theorem dX7_send_49 : decode cX7_send 49 = .ok (.iload 5, 2) := by decide +kernel
theorem dX7_send_51 : decode cX7_send 51 = .ok (.iastore, 1) := by decide +kernel
theorem dX7_send_52 : decode cX7_send 52 = .ok (.aload_n 0, 1) := by decide +kernel
theorem dX7_send_53 : decode cX7_send 53 = .ok (.dup, 1) := by decide +kernel
theorem dX7_send_54 : decode cX7_send 54 = .ok (.getfield 124, 3) := by decide +kernel
theorem dX7_send_57 : decode cX7_send 57 = .ok (.iconst 1, 1) := by decide +kernel
theorem dX7_send_58 : decode cX7_send 58 = .ok (.iadd, 1) := by decide +kernel
theorem dX7_send_59 : decode cX7_send 59 = .ok (.putfield 124, 3) := by decide +kernel
theorem dX7_send_62 : decode cX7_send 62 = .ok (.return_, 1) := by decide +kernel
theorem dX7_copy_0 : decode cX7_copy 0 = .ok (.aload_n 0, 1) := by decide +kernel
theorem dX7_copy_1 : decode cX7_copy 1 = .ok (.getfield 7, 3) := by decide +kernel
theorem dX7_copy_4 : decode cX7_copy 4 = .ok (.iload_n 2, 1) := by decide +kernel
theorem dX7_copy_5 : decode cX7_copy 5 = .ok (.aload_n 0, 1) := by decide +kernel
theorem dX7_copy_6 : decode cX7_copy 6 = .ok (.getfield 7, 3) := by decide +kernel
theorem dX7_copy_9 : decode cX7_copy 9 = .ok (.iload_n 1, 1) := by decide +kernel
theorem dX7_copy_10 : decode cX7_copy 10 = .ok (.iaload, 1) := by decide +kernel
theorem dX7_copy_11 : decode cX7_copy 11 = .ok (.iastore, 1) := by decide +kernel
theorem dX7_copy_12 : decode cX7_copy 12 = .ok (.aload_n 0, 1) := by decide +kernel
theorem dX7_copy_13 : decode cX7_copy 13 = .ok (.getfield 13, 3) := by decide +kernel
theorem dX7_copy_16 : decode cX7_copy 16 = .ok (.iload_n 2, 1) := by decide +kernel
theorem dX7_copy_17 : decode cX7_copy 17 = .ok (.aload_n 0, 1) := by decide +kernel
theorem dX7_copy_18 : decode cX7_copy 18 = .ok (.getfield 13, 3) := by decide +kernel
theorem dX7_copy_21 : decode cX7_copy 21 = .ok (.iload_n 1, 1) := by decide +kernel
theorem dX7_copy_22 : decode cX7_copy 22 = .ok (.iaload, 1) := by decide +kernel
theorem dX7_copy_23 : decode cX7_copy 23 = .ok (.iastore, 1) := by decide +kernel
theorem dX7_copy_24 : decode cX7_copy 24 = .ok (.aload_n 0, 1) := by decide +kernel
theorem dX7_copy_25 : decode cX7_copy 25 = .ok (.getfield 16, 3) := by decide +kernel
theorem dX7_copy_28 : decode cX7_copy 28 = .ok (.iload_n 2, 1) := by decide +kernel
theorem dX7_copy_29 : decode cX7_copy 29 = .ok (.aload_n 0, 1) := by decide +kernel
theorem dX7_copy_30 : decode cX7_copy 30 = .ok (.getfield 16, 3) := by decide +kernel
theorem dX7_copy_33 : decode cX7_copy 33 = .ok (.iload_n 1, 1) := by decide +kernel
theorem dX7_copy_34 : decode cX7_copy 34 = .ok (.iaload, 1) := by decide +kernel
theorem dX7_copy_35 : decode cX7_copy 35 = .ok (.iastore, 1) := by decide +kernel
theorem dX7_copy_36 : decode cX7_copy 36 = .ok (.aload_n 0, 1) := by decide +kernel
theorem dX7_copy_37 : decode cX7_copy 37 = .ok (.getfield 19, 3) := by decide +kernel
theorem dX7_copy_40 : decode cX7_copy 40 = .ok (.iload_n 2, 1) := by decide +kernel
theorem dX7_copy_41 : decode cX7_copy 41 = .ok (.aload_n 0, 1) := by decide +kernel
theorem dX7_copy_42 : decode cX7_copy 42 = .ok (.getfield 19, 3) := by decide +kernel
theorem dX7_copy_45 : decode cX7_copy 45 = .ok (.iload_n 1, 1) := by decide +kernel
theorem dX7_copy_46 : decode cX7_copy 46 = .ok (.iaload, 1) := by decide +kernel
theorem dX7_copy_47 : decode cX7_copy 47 = .ok (.iastore, 1) := by decide +kernel
theorem dX7_copy_48 : decode cX7_copy 48 = .ok (.aload_n 0, 1) := by decide +kernel
theorem dX7_copy_49 : decode cX7_copy 49 = .ok (.getfield 22, 3) := by decide +kernel
theorem dX7_copy_52 : decode cX7_copy 52 = .ok (.iload_n 2, 1) := by decide +kernel
theorem dX7_copy_53 : decode cX7_copy 53 = .ok (.aload_n 0, 1) := by decide +kernel
theorem dX7_copy_54 : decode cX7_copy 54 = .ok (.getfield 22, 3) := by decide +kernel
theorem dX7_copy_57 : decode cX7_copy 57 = .ok (.iload_n 1, 1) := by decide +kernel
theorem dX7_copy_58 : decode cX7_copy 58 = .ok (.iaload, 1) := by decide +kernel
theorem dX7_copy_59 : decode cX7_copy 59 = .ok (.iastore, 1) := by decide +kernel
theorem dX7_copy_60 : decode cX7_copy 60 = .ok (.aload_n 0, 1) := by decide +kernel
theorem dX7_copy_61 : decode cX7_copy 61 = .ok (.getfield 25, 3) := by decide +kernel
theorem dX7_copy_64 : decode cX7_copy 64 = .ok (.iload_n 2, 1) := by decide +kernel
theorem dX7_copy_65 : decode cX7_copy 65 = .ok (.aload_n 0, 1) := by decide +kernel
theorem dX7_copy_66 : decode cX7_copy 66 = .ok (.getfield 25, 3) := by decide +kernel
theorem dX7_copy_69 : decode cX7_copy 69 = .ok (.iload_n 1, 1) := by decide +kernel
theorem dX7_copy_70 : decode cX7_copy 70 = .ok (.iaload, 1) := by decide +kernel
theorem dX7_copy_71 : decode cX7_copy 71 = .ok (.iastore, 1) := by decide +kernel
theorem dX7_copy_72 : decode cX7_copy 72 = .ok (.aload_n 0, 1) := by decide +kernel
theorem dX7_copy_73 : decode cX7_copy 73 = .ok (.getfield 28, 3) := by decide +kernel
theorem dX7_copy_76 : decode cX7_copy 76 = .ok (.iload_n 2, 1) := by decide +kernel
theorem dX7_copy_77 : decode cX7_copy 77 = .ok (.aload_n 0, 1) := by decide +kernel
theorem dX7_copy_78 : decode cX7_copy 78 = .ok (.getfield 28, 3) := by decide +kernel
theorem dX7_copy_81 : decode cX7_copy 81 = .ok (.iload_n 1, 1) := by decide +kernel
theorem dX7_copy_82 : decode cX7_copy 82 = .ok (.laload, 1) := by decide +kernel
theorem dX7_copy_83 : decode cX7_copy 83 = .ok (.lastore, 1) := by decide +kernel
theorem dX7_copy_84 : decode cX7_copy 84 = .ok (.aload_n 0, 1) := by decide +kernel
theorem dX7_copy_85 : decode cX7_copy 85 = .ok (.getfield 32, 3) := by decide +kernel
theorem dX7_copy_88 : decode cX7_copy 88 = .ok (.iload_n 2, 1) := by decide +kernel
theorem dX7_copy_89 : decode cX7_copy 89 = .ok (.aload_n 0, 1) := by decide +kernel
theorem dX7_copy_90 : decode cX7_copy 90 = .ok (.getfield 32, 3) := by decide +kernel
theorem dX7_copy_93 : decode cX7_copy 93 = .ok (.iload_n 1, 1) := by decide +kernel
theorem dX7_copy_94 : decode cX7_copy 94 = .ok (.iaload, 1) := by decide +kernel
theorem dX7_copy_95 : decode cX7_copy 95 = .ok (.iastore, 1) := by decide +kernel
theorem dX7_copy_96 : decode cX7_copy 96 = .ok (.return_, 1) := by decide +kernel
theorem dX7_remove_0 : decode cX7_remove 0 = .ok (.aload_n 0, 1) := by decide +kernel
theorem dX7_remove_1 : decode cX7_remove 1 = .ok (.dup, 1) := by decide +kernel
theorem dX7_remove_2 : decode cX7_remove 2 = .ok (.getfield 124, 3) := by decide +kernel
theorem dX7_remove_5 : decode cX7_remove 5 = .ok (.iconst 1, 1) := by decide +kernel
theorem dX7_remove_6 : decode cX7_remove 6 = .ok (.isub, 1) := by decide +kernel
theorem dX7_remove_7 : decode cX7_remove 7 = .ok (.putfield 124, 3) := by decide +kernel
theorem dX7_remove_10 : decode cX7_remove 10 = .ok (.iload_n 1, 1) := by decide +kernel
theorem dX7_remove_11 : decode cX7_remove 11 = .ok (.istore_n 2, 1) := by decide +kernel
theorem dX7_remove_12 : decode cX7_remove 12 = .ok (.iload_n 2, 1) := by decide +kernel
theorem dX7_remove_13 : decode cX7_remove 13 = .ok (.aload_n 0, 1) := by decide +kernel
theorem dX7_remove_14 : decode cX7_remove 14 = .ok (.getfield 124, 3) := by decide +kernel
theorem dX7_remove_17 : decode cX7_remove 17 = .ok (.if_icmp .ge 17, 3) := by decide +kernel
theorem dX7_remove_20 : decode cX7_remove 20 = .ok (.aload_n 0, 1) := by decide +kernel
theorem dX7_remove_21 : decode cX7_remove 21 = .ok (.iload_n 2, 1) := by decide +kernel
theorem dX7_remove_22 : decode cX7_remove 22 = .ok (.iconst 1, 1) := by decide +kernel
theorem dX7_remove_23 : decode cX7_remove 23 = .ok (.iadd, 1) := by decide +kernel
theorem dX7_remove_24 : decode cX7_remove 24 = .ok (.iload_n 2, 1) := by decide +kernel
theorem dX7_remove_25 : decode cX7_remove 25 = .ok (.invokevirtual 127, 3) := by decide +kernel
theorem dX7_remove_28 : decode cX7_remove 28 = .ok (.iinc 2 1, 3) := by decide +kernel
theorem dX7_remove_31 : decode cX7_remove 31 = .ok (.goto (-19), 3) := by decide +kernel
theorem dX7_remove_34 : decode cX7_remove 34 = .ok (.return_, 1) := by decide +kernel
theorem dX7_isLetter_0 : decode cX7_isLetter 0 = .ok (.iload_n 1, 1) := by decide +kernel
theorem dX7_isLetter_1 : decode cX7_isLetter 1 = .ok (.ifCond .lt 15, 3) := by decide +kernel
theorem dX7_isLetter_4 : decode cX7_isLetter 4 = .ok (.iload_n 1, 1) := by decide +kernel
theorem dX7_isLetter_5 : decode cX7_isLetter 5 = .ok (.aload_n 0, 1) := by decide +kernel
theorem dX7_isLetter_6 : decode cX7_isLetter 6 = .ok (.getfield 124, 3) := by decide +kernel
theorem dX7_isLetter_9 : decode cX7_isLetter 9 = .ok (.if_icmp .ge 7, 3) := by decide +kernel
theorem dX7_isLetter_12 : decode cX7_isLetter 12 = .ok (.iconst 1, 1) := by decide +kernel
theorem dX7_isLetter_13 : decode cX7_isLetter 13 = .ok (.goto 4, 3) := by decide +kernel
theorem dX7_isLetter_16 : decode cX7_isLetter 16 = .ok (.iconst 0, 1) := by decide +kernel
theorem dX7_isLetter_17 : decode cX7_isLetter 17 = .ok (.istore_n 2, 1) := by decide +kernel
theorem dX7_isLetter_18 : decode cX7_isLetter 18 = .ok (.aload_n 0, 1) := by decide +kernel
theorem dX7_isLetter_19 : decode cX7_isLetter 19 = .ok (.iload_n 2, 1) := by decide +kernel
theorem dX7_isLetter_20 : decode cX7_isLetter 20 = .ok (.ifCond .eq 7, 3) := by decide +kernel
theorem dX7_isLetter_23 : decode cX7_isLetter 23 = .ok (.iconst 0, 1) := by decide +kernel
theorem dX7_isLetter_24 : decode cX7_isLetter 24 = .ok (.goto 4, 3) := by decide +kernel
theorem dX7_isLetter_27 : decode cX7_isLetter 27 = .ok (.iconst 1, 1) := by decide +kernel
theorem dX7_isLetter_28 : decode cX7_isLetter 28 = .ok (.putfield 114, 3) := by decide +kernel
theorem dX7_isLetter_31 : decode cX7_isLetter 31 = .ok (.iload_n 2, 1) := by decide +kernel
theorem dX7_isLetter_32 : decode cX7_isLetter 32 = .ok (.ireturn, 1) := by decide +kernel
theorem dX7_letters_0 : decode cX7_letters 0 = .ok (.aload_n 0, 1) := by decide +kernel
theorem dX7_letters_1 : decode cX7_letters 1 = .ok (.iconst 0, 1) := by decide +kernel
theorem dX7_letters_2 : decode cX7_letters 2 = .ok (.putfield 114, 3) := by decide +kernel
theorem dX7_letters_5 : decode cX7_letters 5 = .ok (.aload_n 0, 1) := by decide +kernel
theorem dX7_letters_6 : decode cX7_letters 6 = .ok (.getfield 124, 3) := by decide +kernel
theorem dX7_letters_9 : decode cX7_letters 9 = .ok (.ireturn, 1) := by decide +kernel
theorem dX7_lose_0 : decode cX7_lose 0 = .ok (.aload_n 0, 1) := by decide +kernel
theorem dX7_lose_1 : decode cX7_lose 1 = .ok (.iload_n 1, 1) := by decide +kernel
theorem dX7_lose_2 : decode cX7_lose 2 = .ok (.invokevirtual 131, 3) := by decide +kernel
theorem dX7_lose_5 : decode cX7_lose 5 = .ok (.ifCond .eq 8, 3) := by decide +kernel
theorem dX7_lose_8 : decode cX7_lose 8 = .ok (.aload_n 0, 1) := by decide +kernel
theorem dX7_lose_9 : decode cX7_lose 9 = .ok (.iload_n 1, 1) := by decide +kernel
theorem dX7_lose_10 : decode cX7_lose 10 = .ok (.invokevirtual 134, 3) := by decide +kernel
theorem dX7_lose_13 : decode cX7_lose 13 = .ok (.return_, 1) := by decide +kernel
theorem dX7_twin_0 : decode cX7_twin 0 = .ok (.aload_n 0, 1) := by decide +kernel
theorem dX7_twin_1 : decode cX7_twin 1 = .ok (.iload_n 1, 1) := by decide +kernel
theorem dX7_twin_2 : decode cX7_twin 2 = .ok (.invokevirtual 131, 3) := by decide +kernel
theorem dX7_twin_5 : decode cX7_twin 5 = .ok (.ifCond .ne 4, 3) := by decide +kernel
theorem dX7_twin_8 : decode cX7_twin 8 = .ok (.return_, 1) := by decide +kernel
theorem dX7_twin_9 : decode cX7_twin 9 = .ok (.aload_n 0, 1) := by decide +kernel
theorem dX7_twin_10 : decode cX7_twin 10 = .ok (.getfield 124, 3) := by decide +kernel
theorem dX7_twin_13 : decode cX7_twin 13 = .ok (.bipush 90, 2) := by decide +kernel
theorem dX7_twin_15 : decode cX7_twin 15 = .ok (.if_icmp .ne 9, 3) := by decide +kernel
theorem dX7_twin_18 : decode cX7_twin 18 = .ok (.aload_n 0, 1) := by decide +kernel
theorem dX7_twin_19 : decode cX7_twin 19 = .ok (.iconst 2, 1) := by decide +kernel
theorem dX7_twin_20 : decode cX7_twin 20 = .ok (.putfield 114, 3) := by decide +kernel
theorem dX7_twin_23 : decode cX7_twin 23 = .ok (.return_, 1) := by decide +kernel
theorem dX7_twin_24 : decode cX7_twin 24 = .ok (.aload_n 0, 1) := by decide +kernel
theorem dX7_twin_25 : decode cX7_twin 25 = .ok (.iload_n 1, 1) := by decide +kernel
theorem dX7_twin_26 : decode cX7_twin 26 = .ok (.aload_n 0, 1) := by decide +kernel
theorem dX7_twin_27 : decode cX7_twin 27 = .ok (.getfield 124, 3) := by decide +kernel
theorem dX7_twin_30 : decode cX7_twin 30 = .ok (.invokevirtual 127, 3) := by decide +kernel
theorem dX7_twin_33 : decode cX7_twin 33 = .ok (.aload_n 0, 1) := by decide +kernel
theorem dX7_twin_34 : decode cX7_twin 34 = .ok (.dup, 1) := by decide +kernel
theorem dX7_twin_35 : decode cX7_twin 35 = .ok (.getfield 124, 3) := by decide +kernel
theorem dX7_twin_38 : decode cX7_twin 38 = .ok (.iconst 1, 1) := by decide +kernel
theorem dX7_twin_39 : decode cX7_twin 39 = .ok (.iadd, 1) := by decide +kernel
theorem dX7_twin_40 : decode cX7_twin 40 = .ok (.putfield 124, 3) := by decide +kernel
theorem dX7_twin_43 : decode cX7_twin 43 = .ok (.return_, 1) := by decide +kernel
theorem dX7_letter_0 : decode cX7_letter 0 = .ok (.aload_n 0, 1) := by decide +kernel
theorem dX7_letter_1 : decode cX7_letter 1 = .ok (.iload_n 1, 1) := by decide +kernel
theorem dX7_letter_2 : decode cX7_letter 2 = .ok (.invokevirtual 131, 3) := by decide +kernel
theorem dX7_letter_5 : decode cX7_letter 5 = .ok (.ifCond .ne 5, 3) := by decide +kernel
theorem dX7_letter_8 : decode cX7_letter 8 = .ok (.iconst 0, 1) := by decide +kernel
theorem dX7_letter_9 : decode cX7_letter 9 = .ok (.ireturn, 1) := by decide +kernel
theorem dX7_letter_10 : decode cX7_letter 10 = .ok (.aload_n 0, 1) := by decide +kernel
theorem dX7_letter_11 : decode cX7_letter 11 = .ok (.iload_n 2, 1) := by decide +kernel
theorem dX7_letter_12 : decode cX7_letter 12 = .ok (.ifCond .lt 8, 3) := by decide +kernel
theorem dX7_letter_15 : decode cX7_letter 15 = .ok (.iload_n 2, 1) := by decide +kernel
theorem dX7_letter_16 : decode cX7_letter 16 = .ok (.iconst 5, 1) := by decide +kernel
theorem dX7_letter_17 : decode cX7_letter 17 = .ok (.if_icmp .le 7, 3) := by decide +kernel
theorem dX7_letter_20 : decode cX7_letter 20 = .ok (.iconst 1, 1) := by decide +kernel
theorem dX7_letter_21 : decode cX7_letter 21 = .ok (.goto 4, 3) := by decide +kernel
theorem dX7_letter_24 : decode cX7_letter 24 = .ok (.iconst 0, 1) := by decide +kernel
theorem dX7_letter_25 : decode cX7_letter 25 = .ok (.putfield 114, 3) := by decide +kernel
theorem dX7_letter_28 : decode cX7_letter 28 = .ok (.aload_n 0, 1) := by decide +kernel
theorem dX7_letter_29 : decode cX7_letter 29 = .ok (.getfield 114, 3) := by decide +kernel
theorem dX7_letter_32 : decode cX7_letter 32 = .ok (.ifCond .eq 5, 3) := by decide +kernel
theorem dX7_letter_35 : decode cX7_letter 35 = .ok (.iconst 0, 1) := by decide +kernel
theorem dX7_letter_36 : decode cX7_letter 36 = .ok (.ireturn, 1) := by decide +kernel
theorem dX7_letter_37 : decode cX7_letter 37 = .ok (.iload_n 2, 1) := by decide +kernel
theorem dX7_letter_38 : decode cX7_letter 38 = .ok (.ifCond .ne 10, 3) := by decide +kernel
theorem dX7_letter_41 : decode cX7_letter 41 = .ok (.aload_n 0, 1) := by decide +kernel
theorem dX7_letter_42 : decode cX7_letter 42 = .ok (.getfield 7, 3) := by decide +kernel
theorem dX7_letter_45 : decode cX7_letter 45 = .ok (.iload_n 1, 1) := by decide +kernel
theorem dX7_letter_46 : decode cX7_letter 46 = .ok (.iaload, 1) := by decide +kernel
theorem dX7_letter_47 : decode cX7_letter 47 = .ok (.ireturn, 1) := by decide +kernel
theorem dX7_letter_48 : decode cX7_letter 48 = .ok (.iload_n 2, 1) := by decide +kernel
theorem dX7_letter_49 : decode cX7_letter 49 = .ok (.iconst 1, 1) := by decide +kernel
theorem dX7_letter_50 : decode cX7_letter 50 = .ok (.if_icmp .ne 10, 3) := by decide +kernel
theorem dX7_letter_53 : decode cX7_letter 53 = .ok (.aload_n 0, 1) := by decide +kernel
theorem dX7_letter_54 : decode cX7_letter 54 = .ok (.getfield 13, 3) := by decide +kernel
theorem dX7_letter_57 : decode cX7_letter 57 = .ok (.iload_n 1, 1) := by decide +kernel
theorem dX7_letter_58 : decode cX7_letter 58 = .ok (.iaload, 1) := by decide +kernel
theorem dX7_letter_59 : decode cX7_letter 59 = .ok (.ireturn, 1) := by decide +kernel
theorem dX7_letter_60 : decode cX7_letter 60 = .ok (.iload_n 2, 1) := by decide +kernel
theorem dX7_letter_61 : decode cX7_letter 61 = .ok (.iconst 2, 1) := by decide +kernel
theorem dX7_letter_62 : decode cX7_letter 62 = .ok (.if_icmp .ne 10, 3) := by decide +kernel
theorem dX7_letter_65 : decode cX7_letter 65 = .ok (.aload_n 0, 1) := by decide +kernel
theorem dX7_letter_66 : decode cX7_letter 66 = .ok (.getfield 16, 3) := by decide +kernel
theorem dX7_letter_69 : decode cX7_letter 69 = .ok (.iload_n 1, 1) := by decide +kernel
theorem dX7_letter_70 : decode cX7_letter 70 = .ok (.iaload, 1) := by decide +kernel
theorem dX7_letter_71 : decode cX7_letter 71 = .ok (.ireturn, 1) := by decide +kernel
theorem dX7_letter_72 : decode cX7_letter 72 = .ok (.iload_n 2, 1) := by decide +kernel
theorem dX7_letter_73 : decode cX7_letter 73 = .ok (.iconst 3, 1) := by decide +kernel
theorem dX7_letter_74 : decode cX7_letter 74 = .ok (.if_icmp .ne 10, 3) := by decide +kernel
theorem dX7_letter_77 : decode cX7_letter 77 = .ok (.aload_n 0, 1) := by decide +kernel
theorem dX7_letter_78 : decode cX7_letter 78 = .ok (.getfield 19, 3) := by decide +kernel
theorem dX7_letter_81 : decode cX7_letter 81 = .ok (.iload_n 1, 1) := by decide +kernel
theorem dX7_letter_82 : decode cX7_letter 82 = .ok (.iaload, 1) := by decide +kernel
theorem dX7_letter_83 : decode cX7_letter 83 = .ok (.ireturn, 1) := by decide +kernel
theorem dX7_letter_84 : decode cX7_letter 84 = .ok (.iload_n 2, 1) := by decide +kernel
theorem dX7_letter_85 : decode cX7_letter 85 = .ok (.iconst 4, 1) := by decide +kernel
theorem dX7_letter_86 : decode cX7_letter 86 = .ok (.if_icmp .ne 24, 3) := by decide +kernel
theorem dX7_letter_89 : decode cX7_letter 89 = .ok (.aload_n 0, 1) := by decide +kernel
theorem dX7_letter_90 : decode cX7_letter 90 = .ok (.getfield 7, 3) := by decide +kernel
theorem dX7_letter_93 : decode cX7_letter 93 = .ok (.iload_n 1, 1) := by decide +kernel
theorem dX7_letter_94 : decode cX7_letter 94 = .ok (.iaload, 1) := by decide +kernel
theorem dX7_letter_95 : decode cX7_letter 95 = .ok (.iconst 2, 1) := by decide +kernel
theorem dX7_letter_96 : decode cX7_letter 96 = .ok (.if_icmp .ne 12, 3) := by decide +kernel
theorem dX7_letter_99 : decode cX7_letter 99 = .ok (.aload_n 0, 1) := by decide +kernel
theorem dX7_letter_100 : decode cX7_letter 100 = .ok (.getfield 22, 3) := by decide +kernel
theorem dX7_letter_103 : decode cX7_letter 103 = .ok (.iload_n 1, 1) := by decide +kernel
theorem dX7_letter_104 : decode cX7_letter 104 = .ok (.iaload, 1) := by decide +kernel
theorem dX7_letter_105 : decode cX7_letter 105 = .ok (.goto 4, 3) := by decide +kernel
theorem dX7_letter_108 : decode cX7_letter 108 = .ok (.iconst (-1), 1) := by decide +kernel
theorem dX7_letter_109 : decode cX7_letter 109 = .ok (.ireturn, 1) := by decide +kernel
theorem dX7_letter_110 : decode cX7_letter 110 = .ok (.aload_n 0, 1) := by decide +kernel
theorem dX7_letter_111 : decode cX7_letter 111 = .ok (.getfield 7, 3) := by decide +kernel
theorem dX7_letter_114 : decode cX7_letter 114 = .ok (.iload_n 1, 1) := by decide +kernel
theorem dX7_letter_115 : decode cX7_letter 115 = .ok (.iaload, 1) := by decide +kernel
theorem dX7_letter_116 : decode cX7_letter 116 = .ok (.iconst 4, 1) := by decide +kernel
theorem dX7_letter_117 : decode cX7_letter 117 = .ok (.if_icmp .ne 12, 3) := by decide +kernel
theorem dX7_letter_120 : decode cX7_letter 120 = .ok (.aload_n 0, 1) := by decide +kernel
theorem dX7_letter_121 : decode cX7_letter 121 = .ok (.getfield 32, 3) := by decide +kernel
theorem dX7_letter_124 : decode cX7_letter 124 = .ok (.iload_n 1, 1) := by decide +kernel
theorem dX7_letter_125 : decode cX7_letter 125 = .ok (.iaload, 1) := by decide +kernel
theorem dX7_letter_126 : decode cX7_letter 126 = .ok (.goto 4, 3) := by decide +kernel
theorem dX7_letter_129 : decode cX7_letter 129 = .ok (.iconst (-1), 1) := by decide +kernel
theorem dX7_letter_130 : decode cX7_letter 130 = .ok (.ireturn, 1) := by decide +kernel
theorem dX7_attempt_0 : decode cX7_attempt 0 = .ok (.aload_n 0, 1) := by decide +kernel
theorem dX7_attempt_1 : decode cX7_attempt 1 = .ok (.getfield 69, 3) := by decide +kernel
theorem dX7_attempt_4 : decode cX7_attempt 4 = .ok (.iload_n 1, 1) := by decide +kernel
theorem dX7_attempt_5 : decode cX7_attempt 5 = .ok (.iaload, 1) := by decide +kernel
theorem dX7_attempt_6 : decode cX7_attempt 6 = .ok (.iconst 1, 1) := by decide +kernel
theorem dX7_attempt_7 : decode cX7_attempt 7 = .ok (.iadd, 1) := by decide +kernel
theorem dX7_attempt_8 : decode cX7_attempt 8 = .ok (.istore_n 3, 1) := by decide +kernel
theorem dX7_attempt_9 : decode cX7_attempt 9 = .ok (.aload_n 0, 1) := by decide +kernel
theorem dX7_attempt_10 : decode cX7_attempt 10 = .ok (.getfield 69, 3) := by decide +kernel
theorem dX7_attempt_13 : decode cX7_attempt 13 = .ok (.iload_n 1, 1) := by decide +kernel
theorem dX7_attempt_14 : decode cX7_attempt 14 = .ok (.iload_n 3, 1) := by decide +kernel
theorem dX7_attempt_15 : decode cX7_attempt 15 = .ok (.aload_n 0, 1) := by decide +kernel
theorem dX7_attempt_16 : decode cX7_attempt 16 = .ok (.getfield 72, 3) := by decide +kernel
theorem dX7_attempt_19 : decode cX7_attempt 19 = .ok (.iload_n 1, 1) := by decide +kernel
theorem dX7_attempt_20 : decode cX7_attempt 20 = .ok (.iaload, 1) := by decide +kernel
theorem dX7_attempt_21 : decode cX7_attempt 21 = .ok (.if_icmp .le 7, 3) := by decide +kernel
theorem dX7_attempt_24 : decode cX7_attempt 24 = .ok (.iload_n 3, 1) := by decide +kernel
theorem dX7_attempt_25 : decode cX7_attempt 25 = .ok (.goto 11, 3) := by decide +kernel
theorem dX7_attempt_28 : decode cX7_attempt 28 = .ok (.aload_n 0, 1) := by decide +kernel
theorem dX7_attempt_29 : decode cX7_attempt 29 = .ok (.getfield 72, 3) := by decide +kernel
theorem dX7_attempt_32 : decode cX7_attempt 32 = .ok (.iload_n 1, 1) := by decide +kernel
theorem dX7_attempt_33 : decode cX7_attempt 33 = .ok (.iaload, 1) := by decide +kernel
theorem dX7_attempt_34 : decode cX7_attempt 34 = .ok (.iconst 1, 1) := by decide +kernel
theorem dX7_attempt_35 : decode cX7_attempt 35 = .ok (.iadd, 1) := by decide +kernel
theorem dX7_attempt_36 : decode cX7_attempt 36 = .ok (.iastore, 1) := by decide +kernel
theorem dX7_attempt_37 : decode cX7_attempt 37 = .ok (.aload_n 0, 1) := by decide +kernel
theorem dX7_attempt_38 : decode cX7_attempt 38 = .ok (.getfield 63, 3) := by decide +kernel
theorem dX7_attempt_41 : decode cX7_attempt 41 = .ok (.iload_n 1, 1) := by decide +kernel
theorem dX7_attempt_42 : decode cX7_attempt 42 = .ok (.iconst 1, 1) := by decide +kernel
theorem dX7_attempt_43 : decode cX7_attempt 43 = .ok (.iastore, 1) := by decide +kernel
theorem dX7_attempt_44 : decode cX7_attempt 44 = .ok (.aload_n 0, 1) := by decide +kernel
theorem dX7_attempt_45 : decode cX7_attempt 45 = .ok (.getfield 66, 3) := by decide +kernel
theorem dX7_attempt_48 : decode cX7_attempt 48 = .ok (.iload_n 1, 1) := by decide +kernel
theorem dX7_attempt_49 : decode cX7_attempt 49 = .ok (.iload_n 2, 1) := by decide +kernel
theorem dX7_attempt_50 : decode cX7_attempt 50 = .ok (.bastore, 1) := by decide +kernel
theorem dX7_attempt_51 : decode cX7_attempt 51 = .ok (.aload_n 0, 1) := by decide +kernel
theorem dX7_attempt_52 : decode cX7_attempt 52 = .ok (.iload_n 1, 1) := by decide +kernel
theorem dX7_attempt_53 : decode cX7_attempt 53 = .ok (.invokevirtual 138, 3) := by decide +kernel
theorem dX7_attempt_56 : decode cX7_attempt 56 = .ok (.iconst 0, 1) := by decide +kernel
theorem dX7_attempt_57 : decode cX7_attempt 57 = .ok (.istore 4, 2) := by decide +kernel
theorem dX7_attempt_59 : decode cX7_attempt 59 = .ok (.iload 4, 2) := by decide +kernel
theorem dX7_attempt_61 : decode cX7_attempt 61 = .ok (.iconst 5, 1) := by decide +kernel
theorem dX7_attempt_62 : decode cX7_attempt 62 = .ok (.if_icmp .ge 23, 3) := by decide +kernel
theorem dX7_attempt_65 : decode cX7_attempt 65 = .ok (.aload_n 0, 1) := by decide +kernel
theorem dX7_attempt_66 : decode cX7_attempt 66 = .ok (.iconst 0, 1) := by decide +kernel
theorem dX7_attempt_67 : decode cX7_attempt 67 = .ok (.iload_n 1, 1) := by decide +kernel
theorem dX7_attempt_68 : decode cX7_attempt 68 = .ok (.iload 4, 2) := by decide +kernel
theorem dX7_attempt_70 : decode cX7_attempt 70 = .ok (.aload_n 0, 1) := by decide +kernel
theorem dX7_attempt_71 : decode cX7_attempt 71 = .ok (.iload_n 1, 1) := by decide +kernel
theorem dX7_attempt_72 : decode cX7_attempt 72 = .ok (.invokevirtual 141, 3) := by decide +kernel
theorem dX7_attempt_75 : decode cX7_attempt 75 = .ok (.iconst 0, 1) := by decide +kernel
theorem dX7_attempt_76 : decode cX7_attempt 76 = .ok (.invokevirtual 145, 3) := by decide +kernel
theorem dX7_attempt_79 : decode cX7_attempt 79 = .ok (.iinc 4 1, 3) := by decide +kernel
theorem dX7_attempt_82 : decode cX7_attempt 82 = .ok (.goto (-23), 3) := by decide +kernel
theorem dX7_attempt_85 : decode cX7_attempt 85 = .ok (.return_, 1) := by decide +kernel
theorem dX7_ballotOf_0 : decode cX7_ballotOf 0 = .ok (.bipush 8, 2) := by decide +kernel
theorem dX7_ballotOf_2 : decode cX7_ballotOf 2 = .ok (.aload_n 0, 1) := by decide +kernel
theorem dX7_ballotOf_3 : decode cX7_ballotOf 3 = .ok (.getfield 69, 3) := by decide +kernel
theorem dX7_ballotOf_6 : decode cX7_ballotOf 6 = .ok (.iload_n 1, 1) := by decide +kernel
theorem dX7_ballotOf_7 : decode cX7_ballotOf 7 = .ok (.iaload, 1) := by decide +kernel
theorem dX7_ballotOf_8 : decode cX7_ballotOf 8 = .ok (.imul, 1) := by decide +kernel
theorem dX7_ballotOf_9 : decode cX7_ballotOf 9 = .ok (.iload_n 1, 1) := by decide +kernel
theorem dX7_ballotOf_10 : decode cX7_ballotOf 10 = .ok (.iadd, 1) := by decide +kernel
theorem dX7_ballotOf_11 : decode cX7_ballotOf 11 = .ok (.ireturn, 1) := by decide +kernel
theorem dX7_forgetCounts_0 : decode cX7_forgetCounts 0 = .ok (.iconst 0, 1) := by decide +kernel
theorem dX7_forgetCounts_1 : decode cX7_forgetCounts 1 = .ok (.istore_n 2, 1) := by decide +kernel
theorem dX7_forgetCounts_2 : decode cX7_forgetCounts 2 = .ok (.iload_n 2, 1) := by decide +kernel
theorem dX7_forgetCounts_3 : decode cX7_forgetCounts 3 = .ok (.iconst 5, 1) := by decide +kernel
theorem dX7_forgetCounts_4 : decode cX7_forgetCounts 4 = .ok (.if_icmp .ge 20, 3) := by decide +kernel
theorem dX7_forgetCounts_7 : decode cX7_forgetCounts 7 = .ok (.aload_n 0, 1) := by decide +kernel
theorem dX7_forgetCounts_8 : decode cX7_forgetCounts 8 = .ok (.getfield 75, 3) := by decide +kernel
theorem dX7_forgetCounts_11 : decode cX7_forgetCounts 11 = .ok (.iconst 5, 1) := by decide +kernel
theorem dX7_forgetCounts_12 : decode cX7_forgetCounts 12 = .ok (.iload_n 1, 1) := by decide +kernel
theorem dX7_forgetCounts_13 : decode cX7_forgetCounts 13 = .ok (.imul, 1) := by decide +kernel
theorem dX7_forgetCounts_14 : decode cX7_forgetCounts 14 = .ok (.iload_n 2, 1) := by decide +kernel
theorem dX7_forgetCounts_15 : decode cX7_forgetCounts 15 = .ok (.iadd, 1) := by decide +kernel
theorem dX7_forgetCounts_16 : decode cX7_forgetCounts 16 = .ok (.iconst 0, 1) := by decide +kernel
theorem dX7_forgetCounts_17 : decode cX7_forgetCounts 17 = .ok (.bastore, 1) := by decide +kernel
theorem dX7_forgetCounts_18 : decode cX7_forgetCounts 18 = .ok (.iinc 2 1, 3) := by decide +kernel
theorem dX7_forgetCounts_21 : decode cX7_forgetCounts 21 = .ok (.goto (-19), 3) := by decide +kernel
theorem dX7_forgetCounts_24 : decode cX7_forgetCounts 24 = .ok (.return_, 1) := by decide +kernel
theorem dX7_start_0 : decode cX7_start 0 = .ok (.aload_n 0, 1) := by decide +kernel
theorem dX7_start_1 : decode cX7_start 1 = .ok (.iload_n 1, 1) := by decide +kernel
theorem dX7_start_2 : decode cX7_start 2 = .ok (.invokevirtual 118, 3) := by decide +kernel
theorem dX7_start_5 : decode cX7_start 5 = .ok (.ifCond .ne 4, 3) := by decide +kernel
theorem dX7_start_8 : decode cX7_start 8 = .ok (.return_, 1) := by decide +kernel
theorem dX7_start_9 : decode cX7_start 9 = .ok (.aload_n 0, 1) := by decide +kernel
theorem dX7_start_10 : decode cX7_start 10 = .ok (.getfield 90, 3) := by decide +kernel
theorem dX7_start_13 : decode cX7_start 13 = .ok (.iload_n 1, 1) := by decide +kernel
theorem dX7_start_14 : decode cX7_start 14 = .ok (.baload, 1) := by decide +kernel
theorem dX7_start_15 : decode cX7_start 15 = .ok (.ifCond .ne 23, 3) := by decide +kernel
theorem dX7_start_18 : decode cX7_start 18 = .ok (.aload_n 0, 1) := by decide +kernel
theorem dX7_start_19 : decode cX7_start 19 = .ok (.getfield 63, 3) := by decide +kernel
theorem dX7_start_22 : decode cX7_start 22 = .ok (.iload_n 1, 1) := by decide +kernel
theorem dX7_start_23 : decode cX7_start 23 = .ok (.iaload, 1) := by decide +kernel
theorem dX7_start_24 : decode cX7_start 24 = .ok (.ifCond .ne 14, 3) := by decide +kernel
theorem dX7_start_27 : decode cX7_start 27 = .ok (.aload_n 0, 1) := by decide +kernel
theorem dX7_start_28 : decode cX7_start 28 = .ok (.getfield 124, 3) := by decide +kernel
theorem dX7_start_31 : decode cX7_start 31 = .ok (.iconst 5, 1) := by decide +kernel
theorem dX7_start_32 : decode cX7_start 32 = .ok (.iadd, 1) := by decide +kernel
theorem dX7_start_33 : decode cX7_start 33 = .ok (.bipush 90, 2) := by decide +kernel
theorem dX7_start_35 : decode cX7_start 35 = .ok (.if_icmp .le 11, 3) := by decide +kernel
theorem dX7_start_38 : decode cX7_start 38 = .ok (.aload_n 0, 1) := by decide +kernel
theorem dX7_start_39 : decode cX7_start 39 = .ok (.iconst 2, 1) := by decide +kernel
end
section
theorem dX7_start_40 : decode cX7_start 40 = .ok (.putfield 114, 3) := by decide +kernel
theorem dX7_start_43 : decode cX7_start 43 = .ok (.goto 9, 3) := by decide +kernel
theorem dX7_start_46 : decode cX7_start 46 = .ok (.aload_n 0, 1) := by decide +kernel
theorem dX7_start_47 : decode cX7_start 47 = .ok (.iload_n 1, 1) := by decide +kernel
theorem dX7_start_48 : decode cX7_start 48 = .ok (.iconst 0, 1) := by decide +kernel
theorem dX7_start_49 : decode cX7_start 49 = .ok (.invokevirtual 149, 3) := by decide +kernel
theorem dX7_start_52 : decode cX7_start 52 = .ok (.return_, 1) := by decide +kernel
theorem dX7_prolong_0 : decode cX7_prolong 0 = .ok (.aload_n 0, 1) := by decide +kernel
theorem dX7_prolong_1 : decode cX7_prolong 1 = .ok (.iload_n 1, 1) := by decide +kernel
theorem dX7_prolong_2 : decode cX7_prolong 2 = .ok (.invokevirtual 118, 3) := by decide +kernel
theorem dX7_prolong_5 : decode cX7_prolong 5 = .ok (.ifCond .ne 4, 3) := by decide +kernel
theorem dX7_prolong_8 : decode cX7_prolong 8 = .ok (.return_, 1) := by decide +kernel
theorem dX7_prolong_9 : decode cX7_prolong 9 = .ok (.aload_n 0, 1) := by decide +kernel
theorem dX7_prolong_10 : decode cX7_prolong 10 = .ok (.getfield 90, 3) := by decide +kernel
theorem dX7_prolong_13 : decode cX7_prolong 13 = .ok (.iload_n 1, 1) := by decide +kernel
theorem dX7_prolong_14 : decode cX7_prolong 14 = .ok (.baload, 1) := by decide +kernel
theorem dX7_prolong_15 : decode cX7_prolong 15 = .ok (.ifCond .eq 23, 3) := by decide +kernel
theorem dX7_prolong_18 : decode cX7_prolong 18 = .ok (.aload_n 0, 1) := by decide +kernel
theorem dX7_prolong_19 : decode cX7_prolong 19 = .ok (.getfield 63, 3) := by decide +kernel
theorem dX7_prolong_22 : decode cX7_prolong 22 = .ok (.iload_n 1, 1) := by decide +kernel
theorem dX7_prolong_23 : decode cX7_prolong 23 = .ok (.iaload, 1) := by decide +kernel
theorem dX7_prolong_24 : decode cX7_prolong 24 = .ok (.ifCond .ne 14, 3) := by decide +kernel
theorem dX7_prolong_27 : decode cX7_prolong 27 = .ok (.aload_n 0, 1) := by decide +kernel
theorem dX7_prolong_28 : decode cX7_prolong 28 = .ok (.getfield 124, 3) := by decide +kernel
theorem dX7_prolong_31 : decode cX7_prolong 31 = .ok (.iconst 5, 1) := by decide +kernel
theorem dX7_prolong_32 : decode cX7_prolong 32 = .ok (.iadd, 1) := by decide +kernel
theorem dX7_prolong_33 : decode cX7_prolong 33 = .ok (.bipush 90, 2) := by decide +kernel
theorem dX7_prolong_35 : decode cX7_prolong 35 = .ok (.if_icmp .le 11, 3) := by decide +kernel
theorem dX7_prolong_38 : decode cX7_prolong 38 = .ok (.aload_n 0, 1) := by decide +kernel
theorem dX7_prolong_39 : decode cX7_prolong 39 = .ok (.iconst 2, 1) := by decide +kernel
theorem dX7_prolong_40 : decode cX7_prolong 40 = .ok (.putfield 114, 3) := by decide +kernel
theorem dX7_prolong_43 : decode cX7_prolong 43 = .ok (.goto 9, 3) := by decide +kernel
theorem dX7_prolong_46 : decode cX7_prolong 46 = .ok (.aload_n 0, 1) := by decide +kernel
theorem dX7_prolong_47 : decode cX7_prolong 47 = .ok (.iload_n 1, 1) := by decide +kernel
theorem dX7_prolong_48 : decode cX7_prolong 48 = .ok (.iconst 1, 1) := by decide +kernel
theorem dX7_prolong_49 : decode cX7_prolong 49 = .ok (.invokevirtual 149, 3) := by decide +kernel
theorem dX7_prolong_52 : decode cX7_prolong 52 = .ok (.return_, 1) := by decide +kernel
theorem dX7_crash_0 : decode cX7_crash 0 = .ok (.aload_n 0, 1) := by decide +kernel
theorem dX7_crash_1 : decode cX7_crash 1 = .ok (.iload_n 1, 1) := by decide +kernel
theorem dX7_crash_2 : decode cX7_crash 2 = .ok (.invokevirtual 118, 3) := by decide +kernel
theorem dX7_crash_5 : decode cX7_crash 5 = .ok (.ifCond .ne 4, 3) := by decide +kernel
theorem dX7_crash_8 : decode cX7_crash 8 = .ok (.return_, 1) := by decide +kernel
theorem dX7_crash_9 : decode cX7_crash 9 = .ok (.aload_n 0, 1) := by decide +kernel
theorem dX7_crash_10 : decode cX7_crash 10 = .ok (.getfield 90, 3) := by decide +kernel
theorem dX7_crash_13 : decode cX7_crash 13 = .ok (.iload_n 1, 1) := by decide +kernel
theorem dX7_crash_14 : decode cX7_crash 14 = .ok (.iconst 0, 1) := by decide +kernel
theorem dX7_crash_15 : decode cX7_crash 15 = .ok (.bastore, 1) := by decide +kernel
theorem dX7_crash_16 : decode cX7_crash 16 = .ok (.aload_n 0, 1) := by decide +kernel
theorem dX7_crash_17 : decode cX7_crash 17 = .ok (.getfield 63, 3) := by decide +kernel
theorem dX7_crash_20 : decode cX7_crash 20 = .ok (.iload_n 1, 1) := by decide +kernel
theorem dX7_crash_21 : decode cX7_crash 21 = .ok (.iconst 0, 1) := by decide +kernel
theorem dX7_crash_22 : decode cX7_crash 22 = .ok (.iastore, 1) := by decide +kernel
theorem dX7_crash_23 : decode cX7_crash 23 = .ok (.aload_n 0, 1) := by decide +kernel
theorem dX7_crash_24 : decode cX7_crash 24 = .ok (.getfield 72, 3) := by decide +kernel
theorem dX7_crash_27 : decode cX7_crash 27 = .ok (.iload_n 1, 1) := by decide +kernel
theorem dX7_crash_28 : decode cX7_crash 28 = .ok (.iconst 0, 1) := by decide +kernel
theorem dX7_crash_29 : decode cX7_crash 29 = .ok (.iastore, 1) := by decide +kernel
theorem dX7_crash_30 : decode cX7_crash 30 = .ok (.return_, 1) := by decide +kernel
theorem dX7_node_0 : decode cX7_node 0 = .ok (.aload_n 0, 1) := by decide +kernel
theorem dX7_node_1 : decode cX7_node 1 = .ok (.iload_n 1, 1) := by decide +kernel
theorem dX7_node_2 : decode cX7_node 2 = .ok (.ifCond .lt 8, 3) := by decide +kernel
theorem dX7_node_5 : decode cX7_node 5 = .ok (.iload_n 1, 1) := by decide +kernel
theorem dX7_node_6 : decode cX7_node 6 = .ok (.iconst 4, 1) := by decide +kernel
theorem dX7_node_7 : decode cX7_node 7 = .ok (.if_icmp .le 7, 3) := by decide +kernel
theorem dX7_node_10 : decode cX7_node 10 = .ok (.iconst 1, 1) := by decide +kernel
theorem dX7_node_11 : decode cX7_node 11 = .ok (.goto 4, 3) := by decide +kernel
theorem dX7_node_14 : decode cX7_node 14 = .ok (.iconst 0, 1) := by decide +kernel
theorem dX7_node_15 : decode cX7_node 15 = .ok (.putfield 114, 3) := by decide +kernel
theorem dX7_node_18 : decode cX7_node 18 = .ok (.aload_n 0, 1) := by decide +kernel
theorem dX7_node_19 : decode cX7_node 19 = .ok (.getfield 114, 3) := by decide +kernel
theorem dX7_node_22 : decode cX7_node 22 = .ok (.ifCond .ne 18, 3) := by decide +kernel
theorem dX7_node_25 : decode cX7_node 25 = .ok (.aload_n 0, 1) := by decide +kernel
theorem dX7_node_26 : decode cX7_node 26 = .ok (.getfield 53, 3) := by decide +kernel
theorem dX7_node_29 : decode cX7_node 29 = .ok (.iload_n 1, 1) := by decide +kernel
theorem dX7_node_30 : decode cX7_node 30 = .ok (.iload_n 2, 1) := by decide +kernel
theorem dX7_node_31 : decode cX7_node 31 = .ok (.ifCond .ne 7, 3) := by decide +kernel
theorem dX7_node_34 : decode cX7_node 34 = .ok (.iconst 1, 1) := by decide +kernel
theorem dX7_node_35 : decode cX7_node 35 = .ok (.goto 4, 3) := by decide +kernel
theorem dX7_node_38 : decode cX7_node 38 = .ok (.iconst 0, 1) := by decide +kernel
theorem dX7_node_39 : decode cX7_node 39 = .ok (.bastore, 1) := by decide +kernel
theorem dX7_node_40 : decode cX7_node 40 = .ok (.return_, 1) := by decide +kernel
theorem dX7_rowOf_0 : decode cX7_rowOf 0 = .ok (.iload_n 3, 1) := by decide +kernel
theorem dX7_rowOf_1 : decode cX7_rowOf 1 = .ok (.iconst 1, 1) := by decide +kernel
theorem dX7_rowOf_2 : decode cX7_rowOf 2 = .ok (.isub, 1) := by decide +kernel
theorem dX7_rowOf_3 : decode cX7_rowOf 3 = .ok (.istore 4, 2) := by decide +kernel
theorem dX7_rowOf_5 : decode cX7_rowOf 5 = .ok (.iload 4, 2) := by decide +kernel
theorem dX7_rowOf_7 : decode cX7_rowOf 7 = .ok (.ifCond .lt 31, 3) := by decide +kernel
theorem dX7_rowOf_10 : decode cX7_rowOf 10 = .ok (.aload_n 0, 1) := by decide +kernel
theorem dX7_rowOf_11 : decode cX7_rowOf 11 = .ok (.getfield 35, 3) := by decide +kernel
theorem dX7_rowOf_14 : decode cX7_rowOf 14 = .ok (.iload 4, 2) := by decide +kernel
theorem dX7_rowOf_16 : decode cX7_rowOf 16 = .ok (.iaload, 1) := by decide +kernel
theorem dX7_rowOf_17 : decode cX7_rowOf 17 = .ok (.iload_n 1, 1) := by decide +kernel
theorem dX7_rowOf_18 : decode cX7_rowOf 18 = .ok (.if_icmp .ne 14, 3) := by decide +kernel
theorem dX7_rowOf_21 : decode cX7_rowOf 21 = .ok (.aload_n 0, 1) := by decide +kernel
theorem dX7_rowOf_22 : decode cX7_rowOf 22 = .ok (.getfield 38, 3) := by decide +kernel
theorem dX7_rowOf_25 : decode cX7_rowOf 25 = .ok (.iload 4, 2) := by decide +kernel
theorem dX7_rowOf_27 : decode cX7_rowOf 27 = .ok (.iaload, 1) := by decide +kernel
theorem dX7_rowOf_28 : decode cX7_rowOf 28 = .ok (.iload_n 2, 1) := by decide +kernel
theorem dX7_rowOf_29 : decode cX7_rowOf 29 = .ok (.if_icmp .eq 9, 3) := by decide +kernel
theorem dX7_rowOf_32 : decode cX7_rowOf 32 = .ok (.iinc 4 (-1), 3) := by decide +kernel
theorem dX7_rowOf_35 : decode cX7_rowOf 35 = .ok (.goto (-30), 3) := by decide +kernel
theorem dX7_rowOf_38 : decode cX7_rowOf 38 = .ok (.iload 4, 2) := by decide +kernel
theorem dX7_rowOf_40 : decode cX7_rowOf 40 = .ok (.ireturn, 1) := by decide +kernel
theorem dX7_ballotAt_0 : decode cX7_ballotAt 0 = .ok (.iload_n 1, 1) := by decide +kernel
theorem dX7_ballotAt_1 : decode cX7_ballotAt 1 = .ok (.ifCond .ge 7, 3) := by decide +kernel
theorem dX7_ballotAt_4 : decode cX7_ballotAt 4 = .ok (.iconst 0, 1) := by decide +kernel
theorem dX7_ballotAt_5 : decode cX7_ballotAt 5 = .ok (.goto 9, 3) := by decide +kernel
theorem dX7_ballotAt_8 : decode cX7_ballotAt 8 = .ok (.aload_n 0, 1) := by decide +kernel
theorem dX7_ballotAt_9 : decode cX7_ballotAt 9 = .ok (.getfield 41, 3) := by decide +kernel
theorem dX7_ballotAt_12 : decode cX7_ballotAt 12 = .ok (.iload_n 1, 1) := by decide +kernel
theorem dX7_ballotAt_13 : decode cX7_ballotAt 13 = .ok (.iaload, 1) := by decide +kernel
theorem dX7_ballotAt_14 : decode cX7_ballotAt 14 = .ok (.ireturn, 1) := by decide +kernel
theorem dX7_holderAt_0 : decode cX7_holderAt 0 = .ok (.iload_n 1, 1) := by decide +kernel
theorem dX7_holderAt_1 : decode cX7_holderAt 1 = .ok (.ifCond .ge 7, 3) := by decide +kernel
theorem dX7_holderAt_4 : decode cX7_holderAt 4 = .ok (.iconst (-1), 1) := by decide +kernel
theorem dX7_holderAt_5 : decode cX7_holderAt 5 = .ok (.goto 9, 3) := by decide +kernel
theorem dX7_holderAt_8 : decode cX7_holderAt 8 = .ok (.aload_n 0, 1) := by decide +kernel
theorem dX7_holderAt_9 : decode cX7_holderAt 9 = .ok (.getfield 44, 3) := by decide +kernel
theorem dX7_holderAt_12 : decode cX7_holderAt 12 = .ok (.iload_n 1, 1) := by decide +kernel
theorem dX7_holderAt_13 : decode cX7_holderAt 13 = .ok (.iaload, 1) := by decide +kernel
theorem dX7_holderAt_14 : decode cX7_holderAt 14 = .ok (.ireturn, 1) := by decide +kernel
theorem dX7_termAt_0 : decode cX7_termAt 0 = .ok (.iload_n 1, 1) := by decide +kernel
theorem dX7_termAt_1 : decode cX7_termAt 1 = .ok (.ifCond .ge 7, 3) := by decide +kernel
theorem dX7_termAt_4 : decode cX7_termAt 4 = .ok (.iconst 0, 1) := by decide +kernel
theorem dX7_termAt_5 : decode cX7_termAt 5 = .ok (.goto 9, 3) := by decide +kernel
theorem dX7_termAt_8 : decode cX7_termAt 8 = .ok (.aload_n 0, 1) := by decide +kernel
theorem dX7_termAt_9 : decode cX7_termAt 9 = .ok (.getfield 47, 3) := by decide +kernel
theorem dX7_termAt_12 : decode cX7_termAt 12 = .ok (.iload_n 1, 1) := by decide +kernel
theorem dX7_termAt_13 : decode cX7_termAt 13 = .ok (.iaload, 1) := by decide +kernel
theorem dX7_termAt_14 : decode cX7_termAt 14 = .ok (.ireturn, 1) := by decide +kernel
theorem dX7_markAt_0 : decode cX7_markAt 0 = .ok (.iload_n 1, 1) := by decide +kernel
theorem dX7_markAt_1 : decode cX7_markAt 1 = .ok (.ifCond .ge 7, 3) := by decide +kernel
theorem dX7_markAt_4 : decode cX7_markAt 4 = .ok (.lconst 0, 1) := by decide +kernel
theorem dX7_markAt_5 : decode cX7_markAt 5 = .ok (.goto 9, 3) := by decide +kernel
theorem dX7_markAt_8 : decode cX7_markAt 8 = .ok (.aload_n 0, 1) := by decide +kernel
theorem dX7_markAt_9 : decode cX7_markAt 9 = .ok (.getfield 50, 3) := by decide +kernel
theorem dX7_markAt_12 : decode cX7_markAt 12 = .ok (.iload_n 1, 1) := by decide +kernel
theorem dX7_markAt_13 : decode cX7_markAt 13 = .ok (.laload, 1) := by decide +kernel
theorem dX7_markAt_14 : decode cX7_markAt 14 = .ok (.lreturn, 1) := by decide +kernel
theorem dX7_agreed_0 : decode cX7_agreed 0 = .ok (.aload_n 0, 1) := by decide +kernel
theorem dX7_agreed_1 : decode cX7_agreed 1 = .ok (.iload_n 3, 1) := by decide +kernel
theorem dX7_agreed_2 : decode cX7_agreed 2 = .ok (.iload_n 2, 1) := by decide +kernel
theorem dX7_agreed_3 : decode cX7_agreed 3 = .ok (.iload 4, 2) := by decide +kernel
theorem dX7_agreed_5 : decode cX7_agreed 5 = .ok (.invokevirtual 153, 3) := by decide +kernel
theorem dX7_agreed_8 : decode cX7_agreed 8 = .ok (.istore 5, 2) := by decide +kernel
theorem dX7_agreed_10 : decode cX7_agreed 10 = .ok (.iconst 0, 1) := by decide +kernel
theorem dX7_agreed_11 : decode cX7_agreed 11 = .ok (.istore 6, 2) := by decide +kernel
theorem dX7_agreed_13 : decode cX7_agreed 13 = .ok (.iload 6, 2) := by decide +kernel
theorem dX7_agreed_15 : decode cX7_agreed 15 = .ok (.iconst 5, 1) := by decide +kernel
theorem dX7_agreed_16 : decode cX7_agreed 16 = .ok (.if_icmp .ge 70, 3) := by decide +kernel
theorem dX7_agreed_19 : decode cX7_agreed 19 = .ok (.aload_n 0, 1) := by decide +kernel
theorem dX7_agreed_20 : decode cX7_agreed 20 = .ok (.getfield 75, 3) := by decide +kernel
theorem dX7_agreed_23 : decode cX7_agreed 23 = .ok (.iconst 5, 1) := by decide +kernel
theorem dX7_agreed_24 : decode cX7_agreed 24 = .ok (.iload_n 1, 1) := by decide +kernel
theorem dX7_agreed_25 : decode cX7_agreed 25 = .ok (.imul, 1) := by decide +kernel
theorem dX7_agreed_26 : decode cX7_agreed 26 = .ok (.iload 6, 2) := by decide +kernel
theorem dX7_agreed_28 : decode cX7_agreed 28 = .ok (.iadd, 1) := by decide +kernel
theorem dX7_agreed_29 : decode cX7_agreed 29 = .ok (.baload, 1) := by decide +kernel
theorem dX7_agreed_30 : decode cX7_agreed 30 = .ok (.ifCond .ne 6, 3) := by decide +kernel
theorem dX7_agreed_33 : decode cX7_agreed 33 = .ok (.goto 47, 3) := by decide +kernel
theorem dX7_agreed_36 : decode cX7_agreed 36 = .ok (.aload_n 0, 1) := by decide +kernel
theorem dX7_agreed_37 : decode cX7_agreed 37 = .ok (.iload 6, 2) := by decide +kernel
theorem dX7_agreed_39 : decode cX7_agreed 39 = .ok (.iload_n 2, 1) := by decide +kernel
theorem dX7_agreed_40 : decode cX7_agreed 40 = .ok (.aload_n 0, 1) := by decide +kernel
theorem dX7_agreed_41 : decode cX7_agreed 41 = .ok (.getfield 78, 3) := by decide +kernel
theorem dX7_agreed_44 : decode cX7_agreed 44 = .ok (.iconst 5, 1) := by decide +kernel
theorem dX7_agreed_45 : decode cX7_agreed 45 = .ok (.iload_n 1, 1) := by decide +kernel
theorem dX7_agreed_46 : decode cX7_agreed 46 = .ok (.imul, 1) := by decide +kernel
theorem dX7_agreed_47 : decode cX7_agreed 47 = .ok (.iload 6, 2) := by decide +kernel
theorem dX7_agreed_49 : decode cX7_agreed 49 = .ok (.iadd, 1) := by decide +kernel
theorem dX7_agreed_50 : decode cX7_agreed 50 = .ok (.iaload, 1) := by decide +kernel
theorem dX7_agreed_51 : decode cX7_agreed 51 = .ok (.invokevirtual 153, 3) := by decide +kernel
theorem dX7_agreed_54 : decode cX7_agreed 54 = .ok (.istore 7, 2) := by decide +kernel
theorem dX7_agreed_56 : decode cX7_agreed 56 = .ok (.aload_n 0, 1) := by decide +kernel
theorem dX7_agreed_57 : decode cX7_agreed 57 = .ok (.iload 7, 2) := by decide +kernel
theorem dX7_agreed_59 : decode cX7_agreed 59 = .ok (.invokevirtual 157, 3) := by decide +kernel
theorem dX7_agreed_62 : decode cX7_agreed 62 = .ok (.aload_n 0, 1) := by decide +kernel
theorem dX7_agreed_63 : decode cX7_agreed 63 = .ok (.iload 5, 2) := by decide +kernel
theorem dX7_agreed_65 : decode cX7_agreed 65 = .ok (.invokevirtual 157, 3) := by decide +kernel
theorem dX7_agreed_68 : decode cX7_agreed 68 = .ok (.if_icmp .le 8, 3) := by decide +kernel
theorem dX7_agreed_71 : decode cX7_agreed 71 = .ok (.iload 7, 2) := by decide +kernel
theorem dX7_agreed_73 : decode cX7_agreed 73 = .ok (.goto 5, 3) := by decide +kernel
theorem dX7_agreed_76 : decode cX7_agreed 76 = .ok (.iload 5, 2) := by decide +kernel
theorem dX7_agreed_78 : decode cX7_agreed 78 = .ok (.istore 5, 2) := by decide +kernel
theorem dX7_agreed_80 : decode cX7_agreed 80 = .ok (.iinc 6 1, 3) := by decide +kernel
theorem dX7_agreed_83 : decode cX7_agreed 83 = .ok (.goto (-70), 3) := by decide +kernel
theorem dX7_agreed_86 : decode cX7_agreed 86 = .ok (.iload 5, 2) := by decide +kernel
theorem dX7_agreed_88 : decode cX7_agreed 88 = .ok (.ireturn, 1) := by decide +kernel
theorem dX7_seatToStart_0 : decode cX7_seatToStart 0 = .ok (.iconst (-1), 1) := by decide +kernel
theorem dX7_seatToStart_1 : decode cX7_seatToStart 1 = .ok (.istore 4, 2) := by decide +kernel
theorem dX7_seatToStart_3 : decode cX7_seatToStart 3 = .ok (.bipush 7, 2) := by decide +kernel
theorem dX7_seatToStart_5 : decode cX7_seatToStart 5 = .ok (.istore 5, 2) := by decide +kernel
theorem dX7_seatToStart_7 : decode cX7_seatToStart 7 = .ok (.iload 5, 2) := by decide +kernel
theorem dX7_seatToStart_9 : decode cX7_seatToStart 9 = .ok (.ifCond .lt 35, 3) := by decide +kernel
theorem dX7_seatToStart_12 : decode cX7_seatToStart 12 = .ok (.aload_n 0, 1) := by decide +kernel
theorem dX7_seatToStart_13 : decode cX7_seatToStart 13 = .ok (.aload_n 0, 1) := by decide +kernel
theorem dX7_seatToStart_14 : decode cX7_seatToStart 14 = .ok (.iload_n 1, 1) := by decide +kernel
theorem dX7_seatToStart_15 : decode cX7_seatToStart 15 = .ok (.iload 5, 2) := by decide +kernel
theorem dX7_seatToStart_17 : decode cX7_seatToStart 17 = .ok (.iload_n 2, 1) := by decide +kernel
theorem dX7_seatToStart_18 : decode cX7_seatToStart 18 = .ok (.iload_n 3, 1) := by decide +kernel
theorem dX7_seatToStart_19 : decode cX7_seatToStart 19 = .ok (.invokevirtual 160, 3) := by decide +kernel
theorem dX7_seatToStart_22 : decode cX7_seatToStart 22 = .ok (.invokevirtual 164, 3) := by decide +kernel
theorem dX7_seatToStart_25 : decode cX7_seatToStart 25 = .ok (.iconst (-1), 1) := by decide +kernel
theorem dX7_seatToStart_26 : decode cX7_seatToStart 26 = .ok (.if_icmp .ne 8, 3) := by decide +kernel
theorem dX7_seatToStart_29 : decode cX7_seatToStart 29 = .ok (.iload 5, 2) := by decide +kernel
theorem dX7_seatToStart_31 : decode cX7_seatToStart 31 = .ok (.goto 5, 3) := by decide +kernel
theorem dX7_seatToStart_34 : decode cX7_seatToStart 34 = .ok (.iload 4, 2) := by decide +kernel
theorem dX7_seatToStart_36 : decode cX7_seatToStart 36 = .ok (.istore 4, 2) := by decide +kernel
theorem dX7_seatToStart_38 : decode cX7_seatToStart 38 = .ok (.iinc 5 (-1), 3) := by decide +kernel
theorem dX7_seatToStart_41 : decode cX7_seatToStart 41 = .ok (.goto (-34), 3) := by decide +kernel
theorem dX7_seatToStart_44 : decode cX7_seatToStart 44 = .ok (.iconst (-1), 1) := by decide +kernel
theorem dX7_seatToStart_45 : decode cX7_seatToStart 45 = .ok (.istore 5, 2) := by decide +kernel
theorem dX7_seatToStart_47 : decode cX7_seatToStart 47 = .ok (.bipush 7, 2) := by decide +kernel
theorem dX7_seatToStart_49 : decode cX7_seatToStart 49 = .ok (.istore 6, 2) := by decide +kernel
theorem dX7_seatToStart_51 : decode cX7_seatToStart 51 = .ok (.iload 6, 2) := by decide +kernel
theorem dX7_seatToStart_53 : decode cX7_seatToStart 53 = .ok (.ifCond .lt 35, 3) := by decide +kernel
theorem dX7_seatToStart_56 : decode cX7_seatToStart 56 = .ok (.aload_n 0, 1) := by decide +kernel
theorem dX7_seatToStart_57 : decode cX7_seatToStart 57 = .ok (.aload_n 0, 1) := by decide +kernel
theorem dX7_seatToStart_58 : decode cX7_seatToStart 58 = .ok (.iload_n 1, 1) := by decide +kernel
theorem dX7_seatToStart_59 : decode cX7_seatToStart 59 = .ok (.iload 6, 2) := by decide +kernel
theorem dX7_seatToStart_61 : decode cX7_seatToStart 61 = .ok (.iload_n 2, 1) := by decide +kernel
theorem dX7_seatToStart_62 : decode cX7_seatToStart 62 = .ok (.iload_n 3, 1) := by decide +kernel
theorem dX7_seatToStart_63 : decode cX7_seatToStart 63 = .ok (.invokevirtual 160, 3) := by decide +kernel
theorem dX7_seatToStart_66 : decode cX7_seatToStart 66 = .ok (.invokevirtual 164, 3) := by decide +kernel
theorem dX7_seatToStart_69 : decode cX7_seatToStart 69 = .ok (.iload_n 1, 1) := by decide +kernel
theorem dX7_seatToStart_70 : decode cX7_seatToStart 70 = .ok (.if_icmp .ne 8, 3) := by decide +kernel
theorem dX7_seatToStart_73 : decode cX7_seatToStart 73 = .ok (.iload 6, 2) := by decide +kernel
theorem dX7_seatToStart_75 : decode cX7_seatToStart 75 = .ok (.goto 5, 3) := by decide +kernel
theorem dX7_seatToStart_78 : decode cX7_seatToStart 78 = .ok (.iload 5, 2) := by decide +kernel
theorem dX7_seatToStart_80 : decode cX7_seatToStart 80 = .ok (.istore 5, 2) := by decide +kernel
theorem dX7_seatToStart_82 : decode cX7_seatToStart 82 = .ok (.iinc 6 (-1), 3) := by decide +kernel
theorem dX7_seatToStart_85 : decode cX7_seatToStart 85 = .ok (.goto (-34), 3) := by decide +kernel
theorem dX7_seatToStart_88 : decode cX7_seatToStart 88 = .ok (.iload 5, 2) := by decide +kernel
theorem dX7_seatToStart_90 : decode cX7_seatToStart 90 = .ok (.ifCond .lt 8, 3) := by decide +kernel
theorem dX7_seatToStart_93 : decode cX7_seatToStart 93 = .ok (.iload 5, 2) := by decide +kernel
theorem dX7_seatToStart_95 : decode cX7_seatToStart 95 = .ok (.goto 5, 3) := by decide +kernel
theorem dX7_seatToStart_98 : decode cX7_seatToStart 98 = .ok (.iload 4, 2) := by decide +kernel
theorem dX7_seatToStart_100 : decode cX7_seatToStart 100 = .ok (.ireturn, 1) := by decide +kernel
theorem dX7_countOf_0 : decode cX7_countOf 0 = .ok (.iconst 0, 1) := by decide +kernel
theorem dX7_countOf_1 : decode cX7_countOf 1 = .ok (.istore_n 2, 1) := by decide +kernel
theorem dX7_countOf_2 : decode cX7_countOf 2 = .ok (.iconst 0, 1) := by decide +kernel
theorem dX7_countOf_3 : decode cX7_countOf 3 = .ok (.istore_n 3, 1) := by decide +kernel
theorem dX7_countOf_4 : decode cX7_countOf 4 = .ok (.iload_n 3, 1) := by decide +kernel
theorem dX7_countOf_5 : decode cX7_countOf 5 = .ok (.iconst 5, 1) := by decide +kernel
theorem dX7_countOf_6 : decode cX7_countOf 6 = .ok (.if_icmp .ge 30, 3) := by decide +kernel
theorem dX7_countOf_9 : decode cX7_countOf 9 = .ok (.iload_n 2, 1) := by decide +kernel
theorem dX7_countOf_10 : decode cX7_countOf 10 = .ok (.aload_n 0, 1) := by decide +kernel
theorem dX7_countOf_11 : decode cX7_countOf 11 = .ok (.getfield 75, 3) := by decide +kernel
theorem dX7_countOf_14 : decode cX7_countOf 14 = .ok (.iconst 5, 1) := by decide +kernel
theorem dX7_countOf_15 : decode cX7_countOf 15 = .ok (.iload_n 1, 1) := by decide +kernel
theorem dX7_countOf_16 : decode cX7_countOf 16 = .ok (.imul, 1) := by decide +kernel
theorem dX7_countOf_17 : decode cX7_countOf 17 = .ok (.iload_n 3, 1) := by decide +kernel
theorem dX7_countOf_18 : decode cX7_countOf 18 = .ok (.iadd, 1) := by decide +kernel
theorem dX7_countOf_19 : decode cX7_countOf 19 = .ok (.baload, 1) := by decide +kernel
theorem dX7_countOf_20 : decode cX7_countOf 20 = .ok (.ifCond .eq 7, 3) := by decide +kernel
theorem dX7_countOf_23 : decode cX7_countOf 23 = .ok (.iconst 1, 1) := by decide +kernel
theorem dX7_countOf_24 : decode cX7_countOf 24 = .ok (.goto 4, 3) := by decide +kernel
theorem dX7_countOf_27 : decode cX7_countOf 27 = .ok (.iconst 0, 1) := by decide +kernel
theorem dX7_countOf_28 : decode cX7_countOf 28 = .ok (.iadd, 1) := by decide +kernel
theorem dX7_countOf_29 : decode cX7_countOf 29 = .ok (.istore_n 2, 1) := by decide +kernel
theorem dX7_countOf_30 : decode cX7_countOf 30 = .ok (.iinc 3 1, 3) := by decide +kernel
theorem dX7_countOf_33 : decode cX7_countOf 33 = .ok (.goto (-29), 3) := by decide +kernel
theorem dX7_countOf_36 : decode cX7_countOf 36 = .ok (.iload_n 2, 1) := by decide +kernel
theorem dX7_countOf_37 : decode cX7_countOf 37 = .ok (.ireturn, 1) := by decide +kernel
theorem dX7_fail_0 : decode cX7_fail 0 = .ok (.aload_n 0, 1) := by decide +kernel
theorem dX7_fail_1 : decode cX7_fail 1 = .ok (.getfield 63, 3) := by decide +kernel
theorem dX7_fail_4 : decode cX7_fail 4 = .ok (.iload_n 1, 1) := by decide +kernel
theorem dX7_fail_5 : decode cX7_fail 5 = .ok (.iconst 0, 1) := by decide +kernel
theorem dX7_fail_6 : decode cX7_fail 6 = .ok (.iastore, 1) := by decide +kernel
theorem dX7_fail_7 : decode cX7_fail 7 = .ok (.aload_n 0, 1) := by decide +kernel
theorem dX7_fail_8 : decode cX7_fail 8 = .ok (.getfield 108, 3) := by decide +kernel
theorem dX7_fail_11 : decode cX7_fail 11 = .ok (.iload_n 1, 1) := by decide +kernel
theorem dX7_fail_12 : decode cX7_fail 12 = .ok (.dup2, 1) := by decide +kernel
theorem dX7_fail_13 : decode cX7_fail 13 = .ok (.iaload, 1) := by decide +kernel
theorem dX7_fail_14 : decode cX7_fail 14 = .ok (.iconst 1, 1) := by decide +kernel
theorem dX7_fail_15 : decode cX7_fail 15 = .ok (.iadd, 1) := by decide +kernel
theorem dX7_fail_16 : decode cX7_fail 16 = .ok (.iastore, 1) := by decide +kernel
theorem dX7_fail_17 : decode cX7_fail 17 = .ok (.return_, 1) := by decide +kernel
theorem dX7_answer_0 : decode cX7_answer 0 = .ok (.aload_n 0, 1) := by decide +kernel
theorem dX7_answer_1 : decode cX7_answer 1 = .ok (.iload_n 1, 1) := by decide +kernel
theorem dX7_answer_2 : decode cX7_answer 2 = .ok (.iload_n 2, 1) := by decide +kernel
theorem dX7_answer_3 : decode cX7_answer 3 = .ok (.iload_n 3, 1) := by decide +kernel
theorem dX7_answer_4 : decode cX7_answer 4 = .ok (.iload 4, 2) := by decide +kernel
theorem dX7_answer_6 : decode cX7_answer 6 = .ok (.iload 5, 2) := by decide +kernel
theorem dX7_answer_8 : decode cX7_answer 8 = .ok (.invokevirtual 145, 3) := by decide +kernel
theorem dX7_answer_11 : decode cX7_answer 11 = .ok (.iconst 1, 1) := by decide +kernel
theorem dX7_answer_12 : decode cX7_answer 12 = .ok (.ireturn, 1) := by decide +kernel
theorem dX7_prepares_0 : decode cX7_prepares 0 = .ok (.iload_n 3, 1) := by decide +kernel
theorem dX7_prepares_1 : decode cX7_prepares 1 = .ok (.aload_n 0, 1) := by decide +kernel
theorem dX7_prepares_2 : decode cX7_prepares 2 = .ok (.getfield 57, 3) := by decide +kernel
theorem dX7_prepares_5 : decode cX7_prepares 5 = .ok (.iload_n 2, 1) := by decide +kernel
theorem dX7_prepares_6 : decode cX7_prepares 6 = .ok (.iaload, 1) := by decide +kernel
theorem dX7_prepares_7 : decode cX7_prepares 7 = .ok (.if_icmp .gt 18, 3) := by decide +kernel
theorem dX7_prepares_10 : decode cX7_prepares 10 = .ok (.aload_n 0, 1) := by decide +kernel
theorem dX7_prepares_11 : decode cX7_prepares 11 = .ok (.iconst 4, 1) := by decide +kernel
theorem dX7_prepares_12 : decode cX7_prepares 12 = .ok (.iload_n 1, 1) := by decide +kernel
theorem dX7_prepares_13 : decode cX7_prepares 13 = .ok (.iload_n 2, 1) := by decide +kernel
theorem dX7_prepares_14 : decode cX7_prepares 14 = .ok (.iload_n 3, 1) := by decide +kernel
theorem dX7_prepares_15 : decode cX7_prepares 15 = .ok (.aload_n 0, 1) := by decide +kernel
theorem dX7_prepares_16 : decode cX7_prepares 16 = .ok (.getfield 57, 3) := by decide +kernel
theorem dX7_prepares_19 : decode cX7_prepares 19 = .ok (.iload_n 2, 1) := by decide +kernel
theorem dX7_prepares_20 : decode cX7_prepares 20 = .ok (.iaload, 1) := by decide +kernel
theorem dX7_prepares_21 : decode cX7_prepares 21 = .ok (.invokevirtual 167, 3) := by decide +kernel
theorem dX7_prepares_24 : decode cX7_prepares 24 = .ok (.ireturn, 1) := by decide +kernel
theorem dX7_prepares_25 : decode cX7_prepares 25 = .ok (.aload_n 0, 1) := by decide +kernel
theorem dX7_prepares_26 : decode cX7_prepares 26 = .ok (.getfield 57, 3) := by decide +kernel
theorem dX7_prepares_29 : decode cX7_prepares 29 = .ok (.iload_n 2, 1) := by decide +kernel
theorem dX7_prepares_30 : decode cX7_prepares 30 = .ok (.iload_n 3, 1) := by decide +kernel
theorem dX7_prepares_31 : decode cX7_prepares 31 = .ok (.iastore, 1) := by decide +kernel
theorem dX7_prepares_32 : decode cX7_prepares 32 = .ok (.aload_n 0, 1) := by decide +kernel
theorem dX7_prepares_33 : decode cX7_prepares 33 = .ok (.iconst 1, 1) := by decide +kernel
theorem dX7_prepares_34 : decode cX7_prepares 34 = .ok (.iload_n 1, 1) := by decide +kernel
theorem dX7_prepares_35 : decode cX7_prepares 35 = .ok (.iload_n 2, 1) := by decide +kernel
theorem dX7_prepares_36 : decode cX7_prepares 36 = .ok (.iload_n 3, 1) := by decide +kernel
theorem dX7_prepares_37 : decode cX7_prepares 37 = .ok (.aload_n 0, 1) := by decide +kernel
theorem dX7_prepares_38 : decode cX7_prepares 38 = .ok (.getfield 171, 3) := by decide +kernel
theorem dX7_prepares_41 : decode cX7_prepares 41 = .ok (.invokevirtual 167, 3) := by decide +kernel
theorem dX7_prepares_44 : decode cX7_prepares 44 = .ok (.ireturn, 1) := by decide +kernel
theorem dX7_accepts_0 : decode cX7_accepts 0 = .ok (.aload_n 0, 1) := by decide +kernel
theorem dX7_accepts_1 : decode cX7_accepts 1 = .ok (.getfield 22, 3) := by decide +kernel
theorem dX7_accepts_4 : decode cX7_accepts 4 = .ok (.iload_n 1, 1) := by decide +kernel
theorem dX7_accepts_5 : decode cX7_accepts 5 = .ok (.iaload, 1) := by decide +kernel
theorem dX7_accepts_6 : decode cX7_accepts 6 = .ok (.istore 5, 2) := by decide +kernel
theorem dX7_accepts_8 : decode cX7_accepts 8 = .ok (.aload_n 0, 1) := by decide +kernel
theorem dX7_accepts_9 : decode cX7_accepts 9 = .ok (.getfield 25, 3) := by decide +kernel
theorem dX7_accepts_12 : decode cX7_accepts 12 = .ok (.iload_n 1, 1) := by decide +kernel
theorem dX7_accepts_13 : decode cX7_accepts 13 = .ok (.iaload, 1) := by decide +kernel
theorem dX7_accepts_14 : decode cX7_accepts 14 = .ok (.istore 6, 2) := by decide +kernel
theorem dX7_accepts_16 : decode cX7_accepts 16 = .ok (.aload_n 0, 1) := by decide +kernel
theorem dX7_accepts_17 : decode cX7_accepts 17 = .ok (.getfield 28, 3) := by decide +kernel
theorem dX7_accepts_20 : decode cX7_accepts 20 = .ok (.iload_n 1, 1) := by decide +kernel
theorem dX7_accepts_21 : decode cX7_accepts 21 = .ok (.laload, 1) := by decide +kernel
theorem dX7_accepts_22 : decode cX7_accepts 22 = .ok (.lstore 7, 2) := by decide +kernel
theorem dX7_accepts_24 : decode cX7_accepts 24 = .ok (.aload_n 0, 1) := by decide +kernel
theorem dX7_accepts_25 : decode cX7_accepts 25 = .ok (.iload_n 1, 1) := by decide +kernel
theorem dX7_accepts_26 : decode cX7_accepts 26 = .ok (.invokevirtual 134, 3) := by decide +kernel
theorem dX7_accepts_29 : decode cX7_accepts 29 = .ok (.iload 4, 2) := by decide +kernel
theorem dX7_accepts_31 : decode cX7_accepts 31 = .ok (.aload_n 0, 1) := by decide +kernel
theorem dX7_accepts_32 : decode cX7_accepts 32 = .ok (.getfield 57, 3) := by decide +kernel
theorem dX7_accepts_35 : decode cX7_accepts 35 = .ok (.iload_n 3, 1) := by decide +kernel
theorem dX7_accepts_36 : decode cX7_accepts 36 = .ok (.iaload, 1) := by decide +kernel
theorem dX7_accepts_37 : decode cX7_accepts 37 = .ok (.if_icmp .ge 19, 3) := by decide +kernel
theorem dX7_accepts_40 : decode cX7_accepts 40 = .ok (.aload_n 0, 1) := by decide +kernel
theorem dX7_accepts_41 : decode cX7_accepts 41 = .ok (.iconst 4, 1) := by decide +kernel
theorem dX7_accepts_42 : decode cX7_accepts 42 = .ok (.iload_n 2, 1) := by decide +kernel
theorem dX7_accepts_43 : decode cX7_accepts 43 = .ok (.iload_n 3, 1) := by decide +kernel
theorem dX7_accepts_44 : decode cX7_accepts 44 = .ok (.iload 4, 2) := by decide +kernel
theorem dX7_accepts_46 : decode cX7_accepts 46 = .ok (.aload_n 0, 1) := by decide +kernel
theorem dX7_accepts_47 : decode cX7_accepts 47 = .ok (.getfield 57, 3) := by decide +kernel
theorem dX7_accepts_50 : decode cX7_accepts 50 = .ok (.iload_n 3, 1) := by decide +kernel
theorem dX7_accepts_51 : decode cX7_accepts 51 = .ok (.iaload, 1) := by decide +kernel
theorem dX7_accepts_52 : decode cX7_accepts 52 = .ok (.invokevirtual 167, 3) := by decide +kernel
theorem dX7_accepts_55 : decode cX7_accepts 55 = .ok (.ireturn, 1) := by decide +kernel
theorem dX7_accepts_56 : decode cX7_accepts 56 = .ok (.aload_n 0, 1) := by decide +kernel
theorem dX7_accepts_57 : decode cX7_accepts 57 = .ok (.getfield 57, 3) := by decide +kernel
theorem dX7_accepts_60 : decode cX7_accepts 60 = .ok (.iload_n 3, 1) := by decide +kernel
theorem dX7_accepts_61 : decode cX7_accepts 61 = .ok (.iload 4, 2) := by decide +kernel
theorem dX7_accepts_63 : decode cX7_accepts 63 = .ok (.iastore, 1) := by decide +kernel
theorem dX7_accepts_64 : decode cX7_accepts 64 = .ok (.aload_n 0, 1) := by decide +kernel
theorem dX7_accepts_65 : decode cX7_accepts 65 = .ok (.getfield 35, 3) := by decide +kernel
theorem dX7_accepts_68 : decode cX7_accepts 68 = .ok (.aload_n 0, 1) := by decide +kernel
theorem dX7_accepts_69 : decode cX7_accepts 69 = .ok (.getfield 171, 3) := by decide +kernel
theorem dX7_accepts_72 : decode cX7_accepts 72 = .ok (.iload_n 3, 1) := by decide +kernel
theorem dX7_accepts_73 : decode cX7_accepts 73 = .ok (.iastore, 1) := by decide +kernel
theorem dX7_accepts_74 : decode cX7_accepts 74 = .ok (.aload_n 0, 1) := by decide +kernel
theorem dX7_accepts_75 : decode cX7_accepts 75 = .ok (.getfield 38, 3) := by decide +kernel
theorem dX7_accepts_78 : decode cX7_accepts 78 = .ok (.aload_n 0, 1) := by decide +kernel
theorem dX7_accepts_79 : decode cX7_accepts 79 = .ok (.getfield 171, 3) := by decide +kernel
theorem dX7_accepts_82 : decode cX7_accepts 82 = .ok (.iload 5, 2) := by decide +kernel
theorem dX7_accepts_84 : decode cX7_accepts 84 = .ok (.iastore, 1) := by decide +kernel
theorem dX7_accepts_85 : decode cX7_accepts 85 = .ok (.aload_n 0, 1) := by decide +kernel
theorem dX7_accepts_86 : decode cX7_accepts 86 = .ok (.getfield 41, 3) := by decide +kernel
theorem dX7_accepts_89 : decode cX7_accepts 89 = .ok (.aload_n 0, 1) := by decide +kernel
theorem dX7_accepts_90 : decode cX7_accepts 90 = .ok (.getfield 171, 3) := by decide +kernel
theorem dX7_accepts_93 : decode cX7_accepts 93 = .ok (.iload 4, 2) := by decide +kernel
theorem dX7_accepts_95 : decode cX7_accepts 95 = .ok (.iastore, 1) := by decide +kernel
theorem dX7_accepts_96 : decode cX7_accepts 96 = .ok (.aload_n 0, 1) := by decide +kernel
theorem dX7_accepts_97 : decode cX7_accepts 97 = .ok (.getfield 44, 3) := by decide +kernel
theorem dX7_accepts_100 : decode cX7_accepts 100 = .ok (.aload_n 0, 1) := by decide +kernel
theorem dX7_accepts_101 : decode cX7_accepts 101 = .ok (.getfield 171, 3) := by decide +kernel
theorem dX7_accepts_104 : decode cX7_accepts 104 = .ok (.iload_n 2, 1) := by decide +kernel
theorem dX7_accepts_105 : decode cX7_accepts 105 = .ok (.iastore, 1) := by decide +kernel
theorem dX7_accepts_106 : decode cX7_accepts 106 = .ok (.aload_n 0, 1) := by decide +kernel
theorem dX7_accepts_107 : decode cX7_accepts 107 = .ok (.getfield 47, 3) := by decide +kernel
theorem dX7_accepts_110 : decode cX7_accepts 110 = .ok (.aload_n 0, 1) := by decide +kernel
theorem dX7_accepts_111 : decode cX7_accepts 111 = .ok (.getfield 171, 3) := by decide +kernel
theorem dX7_accepts_114 : decode cX7_accepts 114 = .ok (.iload 6, 2) := by decide +kernel
theorem dX7_accepts_116 : decode cX7_accepts 116 = .ok (.iastore, 1) := by decide +kernel
theorem dX7_accepts_117 : decode cX7_accepts 117 = .ok (.aload_n 0, 1) := by decide +kernel
theorem dX7_accepts_118 : decode cX7_accepts 118 = .ok (.getfield 50, 3) := by decide +kernel
theorem dX7_accepts_121 : decode cX7_accepts 121 = .ok (.aload_n 0, 1) := by decide +kernel
theorem dX7_accepts_122 : decode cX7_accepts 122 = .ok (.getfield 171, 3) := by decide +kernel
theorem dX7_accepts_125 : decode cX7_accepts 125 = .ok (.lload 7, 2) := by decide +kernel
theorem dX7_accepts_127 : decode cX7_accepts 127 = .ok (.lastore, 1) := by decide +kernel
theorem dX7_accepts_128 : decode cX7_accepts 128 = .ok (.aload_n 0, 1) := by decide +kernel
theorem dX7_accepts_129 : decode cX7_accepts 129 = .ok (.dup, 1) := by decide +kernel
theorem dX7_accepts_130 : decode cX7_accepts 130 = .ok (.getfield 171, 3) := by decide +kernel
theorem dX7_accepts_133 : decode cX7_accepts 133 = .ok (.iconst 1, 1) := by decide +kernel
theorem dX7_accepts_134 : decode cX7_accepts 134 = .ok (.iadd, 1) := by decide +kernel
theorem dX7_accepts_135 : decode cX7_accepts 135 = .ok (.putfield 171, 3) := by decide +kernel
end
section
theorem dX7_accepts_138 : decode cX7_accepts 138 = .ok (.aload_n 0, 1) := by decide +kernel
theorem dX7_accepts_139 : decode cX7_accepts 139 = .ok (.iconst 3, 1) := by decide +kernel
theorem dX7_accepts_140 : decode cX7_accepts 140 = .ok (.iload_n 2, 1) := by decide +kernel
theorem dX7_accepts_141 : decode cX7_accepts 141 = .ok (.iload_n 3, 1) := by decide +kernel
theorem dX7_accepts_142 : decode cX7_accepts 142 = .ok (.iload 4, 2) := by decide +kernel
theorem dX7_accepts_144 : decode cX7_accepts 144 = .ok (.iconst 0, 1) := by decide +kernel
theorem dX7_accepts_145 : decode cX7_accepts 145 = .ok (.invokevirtual 167, 3) := by decide +kernel
theorem dX7_accepts_148 : decode cX7_accepts 148 = .ok (.ireturn, 1) := by decide +kernel
theorem dX7_promises_0 : decode cX7_promises 0 = .ok (.aload_n 0, 1) := by decide +kernel
theorem dX7_promises_1 : decode cX7_promises 1 = .ok (.getfield 63, 3) := by decide +kernel
theorem dX7_promises_4 : decode cX7_promises 4 = .ok (.iload_n 2, 1) := by decide +kernel
theorem dX7_promises_5 : decode cX7_promises 5 = .ok (.iaload, 1) := by decide +kernel
theorem dX7_promises_6 : decode cX7_promises 6 = .ok (.iconst 1, 1) := by decide +kernel
theorem dX7_promises_7 : decode cX7_promises 7 = .ok (.if_icmp .ne 30, 3) := by decide +kernel
theorem dX7_promises_10 : decode cX7_promises 10 = .ok (.iload 4, 2) := by decide +kernel
theorem dX7_promises_12 : decode cX7_promises 12 = .ok (.aload_n 0, 1) := by decide +kernel
theorem dX7_promises_13 : decode cX7_promises 13 = .ok (.iload_n 2, 1) := by decide +kernel
theorem dX7_promises_14 : decode cX7_promises 14 = .ok (.invokevirtual 141, 3) := by decide +kernel
theorem dX7_promises_17 : decode cX7_promises 17 = .ok (.if_icmp .ne 20, 3) := by decide +kernel
theorem dX7_promises_20 : decode cX7_promises 20 = .ok (.aload_n 0, 1) := by decide +kernel
theorem dX7_promises_21 : decode cX7_promises 21 = .ok (.getfield 75, 3) := by decide +kernel
theorem dX7_promises_24 : decode cX7_promises 24 = .ok (.iconst 5, 1) := by decide +kernel
theorem dX7_promises_25 : decode cX7_promises 25 = .ok (.iload_n 2, 1) := by decide +kernel
theorem dX7_promises_26 : decode cX7_promises 26 = .ok (.imul, 1) := by decide +kernel
theorem dX7_promises_27 : decode cX7_promises 27 = .ok (.iload_n 3, 1) := by decide +kernel
theorem dX7_promises_28 : decode cX7_promises 28 = .ok (.iadd, 1) := by decide +kernel
theorem dX7_promises_29 : decode cX7_promises 29 = .ok (.baload, 1) := by decide +kernel
theorem dX7_promises_30 : decode cX7_promises 30 = .ok (.ifCond .ne 7, 3) := by decide +kernel
theorem dX7_promises_33 : decode cX7_promises 33 = .ok (.iconst 1, 1) := by decide +kernel
theorem dX7_promises_34 : decode cX7_promises 34 = .ok (.goto 4, 3) := by decide +kernel
theorem dX7_promises_37 : decode cX7_promises 37 = .ok (.iconst 0, 1) := by decide +kernel
theorem dX7_promises_38 : decode cX7_promises 38 = .ok (.istore 5, 2) := by decide +kernel
theorem dX7_promises_40 : decode cX7_promises 40 = .ok (.iload 5, 2) := by decide +kernel
theorem dX7_promises_42 : decode cX7_promises 42 = .ok (.ifCond .eq 12, 3) := by decide +kernel
theorem dX7_promises_45 : decode cX7_promises 45 = .ok (.aload_n 0, 1) := by decide +kernel
theorem dX7_promises_46 : decode cX7_promises 46 = .ok (.iload_n 2, 1) := by decide +kernel
theorem dX7_promises_47 : decode cX7_promises 47 = .ok (.invokevirtual 174, 3) := by decide +kernel
theorem dX7_promises_50 : decode cX7_promises 50 = .ok (.iconst 2, 1) := by decide +kernel
theorem dX7_promises_51 : decode cX7_promises 51 = .ok (.if_icmp .ge 42, 3) := by decide +kernel
theorem dX7_promises_54 : decode cX7_promises 54 = .ok (.iload 5, 2) := by decide +kernel
theorem dX7_promises_56 : decode cX7_promises 56 = .ok (.ifCond .eq 30, 3) := by decide +kernel
theorem dX7_promises_59 : decode cX7_promises 59 = .ok (.aload_n 0, 1) := by decide +kernel
theorem dX7_promises_60 : decode cX7_promises 60 = .ok (.getfield 75, 3) := by decide +kernel
theorem dX7_promises_63 : decode cX7_promises 63 = .ok (.iconst 5, 1) := by decide +kernel
theorem dX7_promises_64 : decode cX7_promises 64 = .ok (.iload_n 2, 1) := by decide +kernel
theorem dX7_promises_65 : decode cX7_promises 65 = .ok (.imul, 1) := by decide +kernel
theorem dX7_promises_66 : decode cX7_promises 66 = .ok (.iload_n 3, 1) := by decide +kernel
theorem dX7_promises_67 : decode cX7_promises 67 = .ok (.iadd, 1) := by decide +kernel
theorem dX7_promises_68 : decode cX7_promises 68 = .ok (.iconst 1, 1) := by decide +kernel
theorem dX7_promises_69 : decode cX7_promises 69 = .ok (.bastore, 1) := by decide +kernel
theorem dX7_promises_70 : decode cX7_promises 70 = .ok (.aload_n 0, 1) := by decide +kernel
theorem dX7_promises_71 : decode cX7_promises 71 = .ok (.getfield 78, 3) := by decide +kernel
theorem dX7_promises_74 : decode cX7_promises 74 = .ok (.iconst 5, 1) := by decide +kernel
theorem dX7_promises_75 : decode cX7_promises 75 = .ok (.iload_n 2, 1) := by decide +kernel
theorem dX7_promises_76 : decode cX7_promises 76 = .ok (.imul, 1) := by decide +kernel
theorem dX7_promises_77 : decode cX7_promises 77 = .ok (.iload_n 3, 1) := by decide +kernel
theorem dX7_promises_78 : decode cX7_promises 78 = .ok (.iadd, 1) := by decide +kernel
theorem dX7_promises_79 : decode cX7_promises 79 = .ok (.aload_n 0, 1) := by decide +kernel
theorem dX7_promises_80 : decode cX7_promises 80 = .ok (.getfield 32, 3) := by decide +kernel
theorem dX7_promises_83 : decode cX7_promises 83 = .ok (.iload_n 1, 1) := by decide +kernel
theorem dX7_promises_84 : decode cX7_promises 84 = .ok (.iaload, 1) := by decide +kernel
theorem dX7_promises_85 : decode cX7_promises 85 = .ok (.iastore, 1) := by decide +kernel
theorem dX7_promises_86 : decode cX7_promises 86 = .ok (.aload_n 0, 1) := by decide +kernel
theorem dX7_promises_87 : decode cX7_promises 87 = .ok (.iload_n 1, 1) := by decide +kernel
theorem dX7_promises_88 : decode cX7_promises 88 = .ok (.invokevirtual 134, 3) := by decide +kernel
theorem dX7_promises_91 : decode cX7_promises 91 = .ok (.iconst 0, 1) := by decide +kernel
theorem dX7_promises_92 : decode cX7_promises 92 = .ok (.ireturn, 1) := by decide +kernel
theorem dX7_promises_93 : decode cX7_promises 93 = .ok (.aload_n 0, 1) := by decide +kernel
theorem dX7_promises_94 : decode cX7_promises 94 = .ok (.getfield 66, 3) := by decide +kernel
theorem dX7_promises_97 : decode cX7_promises 97 = .ok (.iload_n 2, 1) := by decide +kernel
theorem dX7_promises_98 : decode cX7_promises 98 = .ok (.baload, 1) := by decide +kernel
theorem dX7_promises_99 : decode cX7_promises 99 = .ok (.ifCond .eq 12, 3) := by decide +kernel
theorem dX7_promises_102 : decode cX7_promises 102 = .ok (.aload_n 0, 1) := by decide +kernel
theorem dX7_promises_103 : decode cX7_promises 103 = .ok (.getfield 93, 3) := by decide +kernel
theorem dX7_promises_106 : decode cX7_promises 106 = .ok (.iload_n 2, 1) := by decide +kernel
theorem dX7_promises_107 : decode cX7_promises 107 = .ok (.iaload, 1) := by decide +kernel
theorem dX7_promises_108 : decode cX7_promises 108 = .ok (.goto 15, 3) := by decide +kernel
theorem dX7_promises_111 : decode cX7_promises 111 = .ok (.aload_n 0, 1) := by decide +kernel
theorem dX7_promises_112 : decode cX7_promises 112 = .ok (.iload_n 2, 1) := by decide +kernel
theorem dX7_promises_113 : decode cX7_promises 113 = .ok (.iload_n 3, 1) := by decide +kernel
theorem dX7_promises_114 : decode cX7_promises 114 = .ok (.aload_n 0, 1) := by decide +kernel
theorem dX7_promises_115 : decode cX7_promises 115 = .ok (.getfield 32, 3) := by decide +kernel
theorem dX7_promises_118 : decode cX7_promises 118 = .ok (.iload_n 1, 1) := by decide +kernel
theorem dX7_promises_119 : decode cX7_promises 119 = .ok (.iaload, 1) := by decide +kernel
theorem dX7_promises_120 : decode cX7_promises 120 = .ok (.invokevirtual 177, 3) := by decide +kernel
theorem dX7_promises_123 : decode cX7_promises 123 = .ok (.istore 6, 2) := by decide +kernel
theorem dX7_promises_125 : decode cX7_promises 125 = .ok (.iload 6, 2) := by decide +kernel
theorem dX7_promises_127 : decode cX7_promises 127 = .ok (.ifCond .ge 7, 3) := by decide +kernel
theorem dX7_promises_130 : decode cX7_promises 130 = .ok (.iconst (-1), 1) := by decide +kernel
theorem dX7_promises_131 : decode cX7_promises 131 = .ok (.goto 17, 3) := by decide +kernel
theorem dX7_promises_134 : decode cX7_promises 134 = .ok (.aload_n 0, 1) := by decide +kernel
theorem dX7_promises_135 : decode cX7_promises 135 = .ok (.iload_n 2, 1) := by decide +kernel
theorem dX7_promises_136 : decode cX7_promises 136 = .ok (.iload 6, 2) := by decide +kernel
theorem dX7_promises_138 : decode cX7_promises 138 = .ok (.iload_n 3, 1) := by decide +kernel
theorem dX7_promises_139 : decode cX7_promises 139 = .ok (.aload_n 0, 1) := by decide +kernel
theorem dX7_promises_140 : decode cX7_promises 140 = .ok (.getfield 32, 3) := by decide +kernel
theorem dX7_promises_143 : decode cX7_promises 143 = .ok (.iload_n 1, 1) := by decide +kernel
theorem dX7_promises_144 : decode cX7_promises 144 = .ok (.iaload, 1) := by decide +kernel
theorem dX7_promises_145 : decode cX7_promises 145 = .ok (.invokevirtual 160, 3) := by decide +kernel
theorem dX7_promises_148 : decode cX7_promises 148 = .ok (.istore 7, 2) := by decide +kernel
theorem dX7_promises_150 : decode cX7_promises 150 = .ok (.aload_n 0, 1) := by decide +kernel
theorem dX7_promises_151 : decode cX7_promises 151 = .ok (.getfield 60, 3) := by decide +kernel
theorem dX7_promises_154 : decode cX7_promises 154 = .ok (.iload_n 2, 1) := by decide +kernel
theorem dX7_promises_155 : decode cX7_promises 155 = .ok (.laload, 1) := by decide +kernel
theorem dX7_promises_156 : decode cX7_promises 156 = .ok (.aload_n 0, 1) := by decide +kernel
theorem dX7_promises_157 : decode cX7_promises 157 = .ok (.iload 7, 2) := by decide +kernel
theorem dX7_promises_159 : decode cX7_promises 159 = .ok (.invokevirtual 180, 3) := by decide +kernel
theorem dX7_promises_162 : decode cX7_promises 162 = .ok (.lconst 1, 1) := by decide +kernel
theorem dX7_promises_163 : decode cX7_promises 163 = .ok (.ladd, 1) := by decide +kernel
theorem dX7_promises_164 : decode cX7_promises 164 = .ok (.lcmp, 1) := by decide +kernel
theorem dX7_promises_165 : decode cX7_promises 165 = .ok (.ifCond .le 12, 3) := by decide +kernel
theorem dX7_promises_168 : decode cX7_promises 168 = .ok (.aload_n 0, 1) := by decide +kernel
theorem dX7_promises_169 : decode cX7_promises 169 = .ok (.getfield 60, 3) := by decide +kernel
theorem dX7_promises_172 : decode cX7_promises 172 = .ok (.iload_n 2, 1) := by decide +kernel
theorem dX7_promises_173 : decode cX7_promises 173 = .ok (.laload, 1) := by decide +kernel
theorem dX7_promises_174 : decode cX7_promises 174 = .ok (.goto 11, 3) := by decide +kernel
theorem dX7_promises_177 : decode cX7_promises 177 = .ok (.aload_n 0, 1) := by decide +kernel
theorem dX7_promises_178 : decode cX7_promises 178 = .ok (.iload 7, 2) := by decide +kernel
theorem dX7_promises_180 : decode cX7_promises 180 = .ok (.invokevirtual 180, 3) := by decide +kernel
theorem dX7_promises_183 : decode cX7_promises 183 = .ok (.lconst 1, 1) := by decide +kernel
theorem dX7_promises_184 : decode cX7_promises 184 = .ok (.ladd, 1) := by decide +kernel
theorem dX7_promises_185 : decode cX7_promises 185 = .ok (.lstore 8, 2) := by decide +kernel
theorem dX7_promises_187 : decode cX7_promises 187 = .ok (.iload 6, 2) := by decide +kernel
theorem dX7_promises_189 : decode cX7_promises 189 = .ok (.ifCond .lt 16, 3) := by decide +kernel
theorem dX7_promises_192 : decode cX7_promises 192 = .ok (.lload 8, 2) := by decide +kernel
theorem dX7_promises_194 : decode cX7_promises 194 = .ok (.ldc2_w 184, 3) := by decide +kernel
theorem dX7_promises_197 : decode cX7_promises 197 = .ok (.ladd, 1) := by decide +kernel
theorem dX7_promises_198 : decode cX7_promises 198 = .ok (.ldc2_w 122, 3) := by decide +kernel
theorem dX7_promises_201 : decode cX7_promises 201 = .ok (.lcmp, 1) := by decide +kernel
theorem dX7_promises_202 : decode cX7_promises 202 = .ok (.ifCond .le 15, 3) := by decide +kernel
theorem dX7_promises_205 : decode cX7_promises 205 = .ok (.aload_n 0, 1) := by decide +kernel
theorem dX7_promises_206 : decode cX7_promises 206 = .ok (.iload_n 1, 1) := by decide +kernel
theorem dX7_promises_207 : decode cX7_promises 207 = .ok (.invokevirtual 134, 3) := by decide +kernel
theorem dX7_promises_210 : decode cX7_promises 210 = .ok (.aload_n 0, 1) := by decide +kernel
theorem dX7_promises_211 : decode cX7_promises 211 = .ok (.iload_n 2, 1) := by decide +kernel
theorem dX7_promises_212 : decode cX7_promises 212 = .ok (.invokevirtual 186, 3) := by decide +kernel
theorem dX7_promises_215 : decode cX7_promises 215 = .ok (.iconst 0, 1) := by decide +kernel
theorem dX7_promises_216 : decode cX7_promises 216 = .ok (.ireturn, 1) := by decide +kernel
theorem dX7_promises_217 : decode cX7_promises 217 = .ok (.aload_n 0, 1) := by decide +kernel
theorem dX7_promises_218 : decode cX7_promises 218 = .ok (.getfield 124, 3) := by decide +kernel
theorem dX7_promises_221 : decode cX7_promises 221 = .ok (.iconst 4, 1) := by decide +kernel
theorem dX7_promises_222 : decode cX7_promises 222 = .ok (.iadd, 1) := by decide +kernel
theorem dX7_promises_223 : decode cX7_promises 223 = .ok (.bipush 90, 2) := by decide +kernel
theorem dX7_promises_225 : decode cX7_promises 225 = .ok (.if_icmp .le 10, 3) := by decide +kernel
theorem dX7_promises_228 : decode cX7_promises 228 = .ok (.aload_n 0, 1) := by decide +kernel
theorem dX7_promises_229 : decode cX7_promises 229 = .ok (.iconst 2, 1) := by decide +kernel
theorem dX7_promises_230 : decode cX7_promises 230 = .ok (.putfield 114, 3) := by decide +kernel
theorem dX7_promises_233 : decode cX7_promises 233 = .ok (.iconst 0, 1) := by decide +kernel
theorem dX7_promises_234 : decode cX7_promises 234 = .ok (.ireturn, 1) := by decide +kernel
theorem dX7_promises_235 : decode cX7_promises 235 = .ok (.aload_n 0, 1) := by decide +kernel
theorem dX7_promises_236 : decode cX7_promises 236 = .ok (.getfield 66, 3) := by decide +kernel
theorem dX7_promises_239 : decode cX7_promises 239 = .ok (.iload_n 2, 1) := by decide +kernel
theorem dX7_promises_240 : decode cX7_promises 240 = .ok (.baload, 1) := by decide +kernel
theorem dX7_promises_241 : decode cX7_promises 241 = .ok (.ifCond .eq 12, 3) := by decide +kernel
theorem dX7_promises_244 : decode cX7_promises 244 = .ok (.aload_n 0, 1) := by decide +kernel
theorem dX7_promises_245 : decode cX7_promises 245 = .ok (.getfield 96, 3) := by decide +kernel
theorem dX7_promises_248 : decode cX7_promises 248 = .ok (.iload_n 2, 1) := by decide +kernel
theorem dX7_promises_249 : decode cX7_promises 249 = .ok (.iaload, 1) := by decide +kernel
theorem dX7_promises_250 : decode cX7_promises 250 = .ok (.goto 11, 3) := by decide +kernel
theorem dX7_promises_253 : decode cX7_promises 253 = .ok (.aload_n 0, 1) := by decide +kernel
theorem dX7_promises_254 : decode cX7_promises 254 = .ok (.iload 7, 2) := by decide +kernel
theorem dX7_promises_256 : decode cX7_promises 256 = .ok (.invokevirtual 189, 3) := by decide +kernel
theorem dX7_promises_259 : decode cX7_promises 259 = .ok (.iconst 1, 1) := by decide +kernel
theorem dX7_promises_260 : decode cX7_promises 260 = .ok (.iadd, 1) := by decide +kernel
theorem dX7_promises_261 : decode cX7_promises 261 = .ok (.istore 10, 2) := by decide +kernel
theorem dX7_promises_263 : decode cX7_promises 263 = .ok (.aload_n 0, 1) := by decide +kernel
theorem dX7_promises_264 : decode cX7_promises 264 = .ok (.iload_n 1, 1) := by decide +kernel
theorem dX7_promises_265 : decode cX7_promises 265 = .ok (.invokevirtual 134, 3) := by decide +kernel
theorem dX7_promises_268 : decode cX7_promises 268 = .ok (.aload_n 0, 1) := by decide +kernel
theorem dX7_promises_269 : decode cX7_promises 269 = .ok (.getfield 63, 3) := by decide +kernel
theorem dX7_promises_272 : decode cX7_promises 272 = .ok (.iload_n 2, 1) := by decide +kernel
theorem dX7_promises_273 : decode cX7_promises 273 = .ok (.iconst 2, 1) := by decide +kernel
theorem dX7_promises_274 : decode cX7_promises 274 = .ok (.iastore, 1) := by decide +kernel
theorem dX7_promises_275 : decode cX7_promises 275 = .ok (.aload_n 0, 1) := by decide +kernel
theorem dX7_promises_276 : decode cX7_promises 276 = .ok (.iload_n 2, 1) := by decide +kernel
theorem dX7_promises_277 : decode cX7_promises 277 = .ok (.invokevirtual 138, 3) := by decide +kernel
theorem dX7_promises_280 : decode cX7_promises 280 = .ok (.aload_n 0, 1) := by decide +kernel
theorem dX7_promises_281 : decode cX7_promises 281 = .ok (.getfield 81, 3) := by decide +kernel
theorem dX7_promises_284 : decode cX7_promises 284 = .ok (.iload_n 2, 1) := by decide +kernel
theorem dX7_promises_285 : decode cX7_promises 285 = .ok (.iload 6, 2) := by decide +kernel
theorem dX7_promises_287 : decode cX7_promises 287 = .ok (.iastore, 1) := by decide +kernel
theorem dX7_promises_288 : decode cX7_promises 288 = .ok (.aload_n 0, 1) := by decide +kernel
theorem dX7_promises_289 : decode cX7_promises 289 = .ok (.getfield 84, 3) := by decide +kernel
theorem dX7_promises_292 : decode cX7_promises 292 = .ok (.iload_n 2, 1) := by decide +kernel
theorem dX7_promises_293 : decode cX7_promises 293 = .ok (.iload 10, 2) := by decide +kernel
theorem dX7_promises_295 : decode cX7_promises 295 = .ok (.iastore, 1) := by decide +kernel
theorem dX7_promises_296 : decode cX7_promises 296 = .ok (.aload_n 0, 1) := by decide +kernel
theorem dX7_promises_297 : decode cX7_promises 297 = .ok (.getfield 87, 3) := by decide +kernel
theorem dX7_promises_300 : decode cX7_promises 300 = .ok (.iload_n 2, 1) := by decide +kernel
theorem dX7_promises_301 : decode cX7_promises 301 = .ok (.lload 8, 2) := by decide +kernel
theorem dX7_promises_303 : decode cX7_promises 303 = .ok (.lastore, 1) := by decide +kernel
theorem dX7_promises_304 : decode cX7_promises 304 = .ok (.iconst 0, 1) := by decide +kernel
theorem dX7_promises_305 : decode cX7_promises 305 = .ok (.istore 11, 2) := by decide +kernel
theorem dX7_promises_307 : decode cX7_promises 307 = .ok (.iload 11, 2) := by decide +kernel
theorem dX7_promises_309 : decode cX7_promises 309 = .ok (.iconst 5, 1) := by decide +kernel
theorem dX7_promises_310 : decode cX7_promises 310 = .ok (.if_icmp .ge 57, 3) := by decide +kernel
theorem dX7_promises_313 : decode cX7_promises 313 = .ok (.aload_n 0, 1) := by decide +kernel
theorem dX7_promises_314 : decode cX7_promises 314 = .ok (.getfield 22, 3) := by decide +kernel
theorem dX7_promises_317 : decode cX7_promises 317 = .ok (.aload_n 0, 1) := by decide +kernel
theorem dX7_promises_318 : decode cX7_promises 318 = .ok (.getfield 124, 3) := by decide +kernel
theorem dX7_promises_321 : decode cX7_promises 321 = .ok (.iload 6, 2) := by decide +kernel
theorem dX7_promises_323 : decode cX7_promises 323 = .ok (.iastore, 1) := by decide +kernel
theorem dX7_promises_324 : decode cX7_promises 324 = .ok (.aload_n 0, 1) := by decide +kernel
theorem dX7_promises_325 : decode cX7_promises 325 = .ok (.getfield 25, 3) := by decide +kernel
theorem dX7_promises_328 : decode cX7_promises 328 = .ok (.aload_n 0, 1) := by decide +kernel
theorem dX7_promises_329 : decode cX7_promises 329 = .ok (.getfield 124, 3) := by decide +kernel
theorem dX7_promises_332 : decode cX7_promises 332 = .ok (.iload 10, 2) := by decide +kernel
theorem dX7_promises_334 : decode cX7_promises 334 = .ok (.iastore, 1) := by decide +kernel
theorem dX7_promises_335 : decode cX7_promises 335 = .ok (.aload_n 0, 1) := by decide +kernel
theorem dX7_promises_336 : decode cX7_promises 336 = .ok (.getfield 28, 3) := by decide +kernel
theorem dX7_promises_339 : decode cX7_promises 339 = .ok (.aload_n 0, 1) := by decide +kernel
theorem dX7_promises_340 : decode cX7_promises 340 = .ok (.getfield 124, 3) := by decide +kernel
theorem dX7_promises_343 : decode cX7_promises 343 = .ok (.lload 8, 2) := by decide +kernel
theorem dX7_promises_345 : decode cX7_promises 345 = .ok (.ldc2_w 184, 3) := by decide +kernel
theorem dX7_promises_348 : decode cX7_promises 348 = .ok (.ladd, 1) := by decide +kernel
theorem dX7_promises_349 : decode cX7_promises 349 = .ok (.lastore, 1) := by decide +kernel
theorem dX7_promises_350 : decode cX7_promises 350 = .ok (.aload_n 0, 1) := by decide +kernel
theorem dX7_promises_351 : decode cX7_promises 351 = .ok (.iconst 2, 1) := by decide +kernel
theorem dX7_promises_352 : decode cX7_promises 352 = .ok (.iload_n 2, 1) := by decide +kernel
theorem dX7_promises_353 : decode cX7_promises 353 = .ok (.iload 11, 2) := by decide +kernel
theorem dX7_promises_355 : decode cX7_promises 355 = .ok (.iload 4, 2) := by decide +kernel
theorem dX7_promises_357 : decode cX7_promises 357 = .ok (.iconst 0, 1) := by decide +kernel
theorem dX7_promises_358 : decode cX7_promises 358 = .ok (.invokevirtual 145, 3) := by decide +kernel
theorem dX7_promises_361 : decode cX7_promises 361 = .ok (.iinc 11 1, 3) := by decide +kernel
theorem dX7_promises_364 : decode cX7_promises 364 = .ok (.goto (-57), 3) := by decide +kernel
theorem dX7_promises_367 : decode cX7_promises 367 = .ok (.iconst 5, 1) := by decide +kernel
theorem dX7_promises_368 : decode cX7_promises 368 = .ok (.ireturn, 1) := by decide +kernel
theorem dX7_agrees_0 : decode cX7_agrees 0 = .ok (.aload_n 0, 1) := by decide +kernel
theorem dX7_agrees_1 : decode cX7_agrees 1 = .ok (.getfield 63, 3) := by decide +kernel
theorem dX7_agrees_4 : decode cX7_agrees 4 = .ok (.iload_n 1, 1) := by decide +kernel
theorem dX7_agrees_5 : decode cX7_agrees 5 = .ok (.iaload, 1) := by decide +kernel
theorem dX7_agrees_6 : decode cX7_agrees 6 = .ok (.iconst 2, 1) := by decide +kernel
theorem dX7_agrees_7 : decode cX7_agrees 7 = .ok (.if_icmp .ne 25, 3) := by decide +kernel
theorem dX7_agrees_10 : decode cX7_agrees 10 = .ok (.iload_n 3, 1) := by decide +kernel
theorem dX7_agrees_11 : decode cX7_agrees 11 = .ok (.aload_n 0, 1) := by decide +kernel
theorem dX7_agrees_12 : decode cX7_agrees 12 = .ok (.iload_n 1, 1) := by decide +kernel
theorem dX7_agrees_13 : decode cX7_agrees 13 = .ok (.invokevirtual 141, 3) := by decide +kernel
theorem dX7_agrees_16 : decode cX7_agrees 16 = .ok (.if_icmp .ne 16, 3) := by decide +kernel
theorem dX7_agrees_19 : decode cX7_agrees 19 = .ok (.aload_n 0, 1) := by decide +kernel
theorem dX7_agrees_20 : decode cX7_agrees 20 = .ok (.getfield 75, 3) := by decide +kernel
theorem dX7_agrees_23 : decode cX7_agrees 23 = .ok (.iconst 5, 1) := by decide +kernel
theorem dX7_agrees_24 : decode cX7_agrees 24 = .ok (.iload_n 1, 1) := by decide +kernel
theorem dX7_agrees_25 : decode cX7_agrees 25 = .ok (.imul, 1) := by decide +kernel
theorem dX7_agrees_26 : decode cX7_agrees 26 = .ok (.iload_n 2, 1) := by decide +kernel
theorem dX7_agrees_27 : decode cX7_agrees 27 = .ok (.iadd, 1) := by decide +kernel
theorem dX7_agrees_28 : decode cX7_agrees 28 = .ok (.baload, 1) := by decide +kernel
theorem dX7_agrees_29 : decode cX7_agrees 29 = .ok (.ifCond .eq 5, 3) := by decide +kernel
theorem dX7_agrees_32 : decode cX7_agrees 32 = .ok (.iconst 0, 1) := by decide +kernel
theorem dX7_agrees_33 : decode cX7_agrees 33 = .ok (.ireturn, 1) := by decide +kernel
theorem dX7_agrees_34 : decode cX7_agrees 34 = .ok (.aload_n 0, 1) := by decide +kernel
theorem dX7_agrees_35 : decode cX7_agrees 35 = .ok (.getfield 75, 3) := by decide +kernel
theorem dX7_agrees_38 : decode cX7_agrees 38 = .ok (.iconst 5, 1) := by decide +kernel
theorem dX7_agrees_39 : decode cX7_agrees 39 = .ok (.iload_n 1, 1) := by decide +kernel
theorem dX7_agrees_40 : decode cX7_agrees 40 = .ok (.imul, 1) := by decide +kernel
theorem dX7_agrees_41 : decode cX7_agrees 41 = .ok (.iload_n 2, 1) := by decide +kernel
theorem dX7_agrees_42 : decode cX7_agrees 42 = .ok (.iadd, 1) := by decide +kernel
theorem dX7_agrees_43 : decode cX7_agrees 43 = .ok (.iconst 1, 1) := by decide +kernel
theorem dX7_agrees_44 : decode cX7_agrees 44 = .ok (.bastore, 1) := by decide +kernel
theorem dX7_agrees_45 : decode cX7_agrees 45 = .ok (.aload_n 0, 1) := by decide +kernel
theorem dX7_agrees_46 : decode cX7_agrees 46 = .ok (.iload_n 1, 1) := by decide +kernel
theorem dX7_agrees_47 : decode cX7_agrees 47 = .ok (.invokevirtual 174, 3) := by decide +kernel
theorem dX7_agrees_50 : decode cX7_agrees 50 = .ok (.iconst 3, 1) := by decide +kernel
theorem dX7_agrees_51 : decode cX7_agrees 51 = .ok (.if_icmp .ge 5, 3) := by decide +kernel
theorem dX7_agrees_54 : decode cX7_agrees 54 = .ok (.iconst 0, 1) := by decide +kernel
theorem dX7_agrees_55 : decode cX7_agrees 55 = .ok (.ireturn, 1) := by decide +kernel
theorem dX7_agrees_56 : decode cX7_agrees 56 = .ok (.aload_n 0, 1) := by decide +kernel
theorem dX7_agrees_57 : decode cX7_agrees 57 = .ok (.getfield 63, 3) := by decide +kernel
theorem dX7_agrees_60 : decode cX7_agrees 60 = .ok (.iload_n 1, 1) := by decide +kernel
theorem dX7_agrees_61 : decode cX7_agrees 61 = .ok (.iconst 0, 1) := by decide +kernel
theorem dX7_agrees_62 : decode cX7_agrees 62 = .ok (.iastore, 1) := by decide +kernel
theorem dX7_agrees_63 : decode cX7_agrees 63 = .ok (.aload_n 0, 1) := by decide +kernel
theorem dX7_agrees_64 : decode cX7_agrees 64 = .ok (.getfield 90, 3) := by decide +kernel
theorem dX7_agrees_67 : decode cX7_agrees 67 = .ok (.iload_n 1, 1) := by decide +kernel
theorem dX7_agrees_68 : decode cX7_agrees 68 = .ok (.iconst 1, 1) := by decide +kernel
theorem dX7_agrees_69 : decode cX7_agrees 69 = .ok (.bastore, 1) := by decide +kernel
theorem dX7_agrees_70 : decode cX7_agrees 70 = .ok (.aload_n 0, 1) := by decide +kernel
theorem dX7_agrees_71 : decode cX7_agrees 71 = .ok (.getfield 93, 3) := by decide +kernel
theorem dX7_agrees_74 : decode cX7_agrees 74 = .ok (.iload_n 1, 1) := by decide +kernel
theorem dX7_agrees_75 : decode cX7_agrees 75 = .ok (.aload_n 0, 1) := by decide +kernel
theorem dX7_agrees_76 : decode cX7_agrees 76 = .ok (.getfield 81, 3) := by decide +kernel
theorem dX7_agrees_79 : decode cX7_agrees 79 = .ok (.iload_n 1, 1) := by decide +kernel
theorem dX7_agrees_80 : decode cX7_agrees 80 = .ok (.iaload, 1) := by decide +kernel
theorem dX7_agrees_81 : decode cX7_agrees 81 = .ok (.iastore, 1) := by decide +kernel
theorem dX7_agrees_82 : decode cX7_agrees 82 = .ok (.aload_n 0, 1) := by decide +kernel
theorem dX7_agrees_83 : decode cX7_agrees 83 = .ok (.getfield 96, 3) := by decide +kernel
theorem dX7_agrees_86 : decode cX7_agrees 86 = .ok (.iload_n 1, 1) := by decide +kernel
theorem dX7_agrees_87 : decode cX7_agrees 87 = .ok (.aload_n 0, 1) := by decide +kernel
theorem dX7_agrees_88 : decode cX7_agrees 88 = .ok (.getfield 84, 3) := by decide +kernel
theorem dX7_agrees_91 : decode cX7_agrees 91 = .ok (.iload_n 1, 1) := by decide +kernel
theorem dX7_agrees_92 : decode cX7_agrees 92 = .ok (.iaload, 1) := by decide +kernel
theorem dX7_agrees_93 : decode cX7_agrees 93 = .ok (.iastore, 1) := by decide +kernel
theorem dX7_agrees_94 : decode cX7_agrees 94 = .ok (.aload_n 0, 1) := by decide +kernel
theorem dX7_agrees_95 : decode cX7_agrees 95 = .ok (.getfield 99, 3) := by decide +kernel
theorem dX7_agrees_98 : decode cX7_agrees 98 = .ok (.iload_n 1, 1) := by decide +kernel
theorem dX7_agrees_99 : decode cX7_agrees 99 = .ok (.aload_n 0, 1) := by decide +kernel
theorem dX7_agrees_100 : decode cX7_agrees 100 = .ok (.getfield 87, 3) := by decide +kernel
theorem dX7_agrees_103 : decode cX7_agrees 103 = .ok (.iload_n 1, 1) := by decide +kernel
theorem dX7_agrees_104 : decode cX7_agrees 104 = .ok (.laload, 1) := by decide +kernel
theorem dX7_agrees_105 : decode cX7_agrees 105 = .ok (.lastore, 1) := by decide +kernel
theorem dX7_agrees_106 : decode cX7_agrees 106 = .ok (.aload_n 0, 1) := by decide +kernel
theorem dX7_agrees_107 : decode cX7_agrees 107 = .ok (.getfield 102, 3) := by decide +kernel
theorem dX7_agrees_110 : decode cX7_agrees 110 = .ok (.iload_n 1, 1) := by decide +kernel
theorem dX7_agrees_111 : decode cX7_agrees 111 = .ok (.ldc2_w 192, 3) := by decide +kernel
theorem dX7_agrees_114 : decode cX7_agrees 114 = .ok (.lastore, 1) := by decide +kernel
theorem dX7_agrees_115 : decode cX7_agrees 115 = .ok (.iconst 0, 1) := by decide +kernel
theorem dX7_agrees_116 : decode cX7_agrees 116 = .ok (.ireturn, 1) := by decide +kernel
theorem dX7_refuses_0 : decode cX7_refuses 0 = .ok (.aload_n 0, 1) := by decide +kernel
theorem dX7_refuses_1 : decode cX7_refuses 1 = .ok (.getfield 63, 3) := by decide +kernel
theorem dX7_refuses_4 : decode cX7_refuses 4 = .ok (.iload_n 1, 1) := by decide +kernel
theorem dX7_refuses_5 : decode cX7_refuses 5 = .ok (.iaload, 1) := by decide +kernel
theorem dX7_refuses_6 : decode cX7_refuses 6 = .ok (.ifCond .eq 12, 3) := by decide +kernel
theorem dX7_refuses_9 : decode cX7_refuses 9 = .ok (.iload_n 2, 1) := by decide +kernel
theorem dX7_refuses_10 : decode cX7_refuses 10 = .ok (.aload_n 0, 1) := by decide +kernel
theorem dX7_refuses_11 : decode cX7_refuses 11 = .ok (.iload_n 1, 1) := by decide +kernel
theorem dX7_refuses_12 : decode cX7_refuses 12 = .ok (.invokevirtual 141, 3) := by decide +kernel
theorem dX7_refuses_15 : decode cX7_refuses 15 = .ok (.if_icmp .eq 5, 3) := by decide +kernel
theorem dX7_refuses_18 : decode cX7_refuses 18 = .ok (.iconst 0, 1) := by decide +kernel
theorem dX7_refuses_19 : decode cX7_refuses 19 = .ok (.ireturn, 1) := by decide +kernel
theorem dX7_refuses_20 : decode cX7_refuses 20 = .ok (.aload_n 0, 1) := by decide +kernel
theorem dX7_refuses_21 : decode cX7_refuses 21 = .ok (.iload_n 1, 1) := by decide +kernel
theorem dX7_refuses_22 : decode cX7_refuses 22 = .ok (.invokevirtual 186, 3) := by decide +kernel
theorem dX7_refuses_25 : decode cX7_refuses 25 = .ok (.aload_n 0, 1) := by decide +kernel
theorem dX7_refuses_26 : decode cX7_refuses 26 = .ok (.getfield 72, 3) := by decide +kernel
theorem dX7_refuses_29 : decode cX7_refuses 29 = .ok (.iload_n 1, 1) := by decide +kernel
theorem dX7_refuses_30 : decode cX7_refuses 30 = .ok (.iload_n 3, 1) := by decide +kernel
theorem dX7_refuses_31 : decode cX7_refuses 31 = .ok (.bipush 8, 2) := by decide +kernel
theorem dX7_refuses_33 : decode cX7_refuses 33 = .ok (.idiv, 1) := by decide +kernel
theorem dX7_refuses_34 : decode cX7_refuses 34 = .ok (.iastore, 1) := by decide +kernel
theorem dX7_refuses_35 : decode cX7_refuses 35 = .ok (.iconst 0, 1) := by decide +kernel
theorem dX7_refuses_36 : decode cX7_refuses 36 = .ok (.ireturn, 1) := by decide +kernel
theorem dX7_deliver_0 : decode cX7_deliver 0 = .ok (.aload_n 0, 1) := by decide +kernel
theorem dX7_deliver_1 : decode cX7_deliver 1 = .ok (.iload_n 1, 1) := by decide +kernel
theorem dX7_deliver_2 : decode cX7_deliver 2 = .ok (.invokevirtual 131, 3) := by decide +kernel
theorem dX7_deliver_5 : decode cX7_deliver 5 = .ok (.ifCond .ne 5, 3) := by decide +kernel
theorem dX7_deliver_8 : decode cX7_deliver 8 = .ok (.iconst 0, 1) := by decide +kernel
theorem dX7_deliver_9 : decode cX7_deliver 9 = .ok (.ireturn, 1) := by decide +kernel
theorem dX7_deliver_10 : decode cX7_deliver 10 = .ok (.aload_n 0, 1) := by decide +kernel
theorem dX7_deliver_11 : decode cX7_deliver 11 = .ok (.getfield 13, 3) := by decide +kernel
theorem dX7_deliver_14 : decode cX7_deliver 14 = .ok (.iload_n 1, 1) := by decide +kernel
theorem dX7_deliver_15 : decode cX7_deliver 15 = .ok (.iaload, 1) := by decide +kernel
theorem dX7_deliver_16 : decode cX7_deliver 16 = .ok (.istore_n 2, 1) := by decide +kernel
theorem dX7_deliver_17 : decode cX7_deliver 17 = .ok (.aload_n 0, 1) := by decide +kernel
theorem dX7_deliver_18 : decode cX7_deliver 18 = .ok (.getfield 16, 3) := by decide +kernel
theorem dX7_deliver_21 : decode cX7_deliver 21 = .ok (.iload_n 1, 1) := by decide +kernel
theorem dX7_deliver_22 : decode cX7_deliver 22 = .ok (.iaload, 1) := by decide +kernel
theorem dX7_deliver_23 : decode cX7_deliver 23 = .ok (.istore_n 3, 1) := by decide +kernel
theorem dX7_deliver_24 : decode cX7_deliver 24 = .ok (.aload_n 0, 1) := by decide +kernel
theorem dX7_deliver_25 : decode cX7_deliver 25 = .ok (.getfield 19, 3) := by decide +kernel
theorem dX7_deliver_28 : decode cX7_deliver 28 = .ok (.iload_n 1, 1) := by decide +kernel
theorem dX7_deliver_29 : decode cX7_deliver 29 = .ok (.iaload, 1) := by decide +kernel
theorem dX7_deliver_30 : decode cX7_deliver 30 = .ok (.istore 4, 2) := by decide +kernel
theorem dX7_deliver_32 : decode cX7_deliver 32 = .ok (.aload_n 0, 1) := by decide +kernel
theorem dX7_deliver_33 : decode cX7_deliver 33 = .ok (.getfield 7, 3) := by decide +kernel
theorem dX7_deliver_36 : decode cX7_deliver 36 = .ok (.iload_n 1, 1) := by decide +kernel
theorem dX7_deliver_37 : decode cX7_deliver 37 = .ok (.iaload, 1) := by decide +kernel
theorem dX7_deliver_38 : decode cX7_deliver 38 = .ok (.istore 5, 2) := by decide +kernel
theorem dX7_deliver_40 : decode cX7_deliver 40 = .ok (.aload_n 0, 1) := by decide +kernel
theorem dX7_deliver_41 : decode cX7_deliver 41 = .ok (.getfield 32, 3) := by decide +kernel
theorem dX7_deliver_44 : decode cX7_deliver 44 = .ok (.iload_n 1, 1) := by decide +kernel
theorem dX7_deliver_45 : decode cX7_deliver 45 = .ok (.iaload, 1) := by decide +kernel
theorem dX7_deliver_46 : decode cX7_deliver 46 = .ok (.istore 6, 2) := by decide +kernel
theorem dX7_deliver_48 : decode cX7_deliver 48 = .ok (.iload 5, 2) := by decide +kernel
theorem dX7_deliver_50 : decode cX7_deliver 50 = .ok (.iconst 1, 1) := by decide +kernel
theorem dX7_deliver_51 : decode cX7_deliver 51 = .ok (.if_icmp .ne 13, 3) := by decide +kernel
theorem dX7_deliver_54 : decode cX7_deliver 54 = .ok (.aload_n 0, 1) := by decide +kernel
theorem dX7_deliver_55 : decode cX7_deliver 55 = .ok (.iload_n 1, 1) := by decide +kernel
theorem dX7_deliver_56 : decode cX7_deliver 56 = .ok (.iload_n 2, 1) := by decide +kernel
theorem dX7_deliver_57 : decode cX7_deliver 57 = .ok (.iload_n 3, 1) := by decide +kernel
theorem dX7_deliver_58 : decode cX7_deliver 58 = .ok (.iload 4, 2) := by decide +kernel
theorem dX7_deliver_60 : decode cX7_deliver 60 = .ok (.invokevirtual 194, 3) := by decide +kernel
theorem dX7_deliver_63 : decode cX7_deliver 63 = .ok (.ireturn, 1) := by decide +kernel
theorem dX7_deliver_64 : decode cX7_deliver 64 = .ok (.iload 5, 2) := by decide +kernel
theorem dX7_deliver_66 : decode cX7_deliver 66 = .ok (.ifCond .eq 9, 3) := by decide +kernel
theorem dX7_deliver_69 : decode cX7_deliver 69 = .ok (.iload 5, 2) := by decide +kernel
theorem dX7_deliver_71 : decode cX7_deliver 71 = .ok (.iconst 2, 1) := by decide +kernel
theorem dX7_deliver_72 : decode cX7_deliver 72 = .ok (.if_icmp .ne 7, 3) := by decide +kernel
theorem dX7_deliver_75 : decode cX7_deliver 75 = .ok (.iconst 1, 1) := by decide +kernel
theorem dX7_deliver_76 : decode cX7_deliver 76 = .ok (.goto 4, 3) := by decide +kernel
theorem dX7_deliver_79 : decode cX7_deliver 79 = .ok (.iconst 0, 1) := by decide +kernel
theorem dX7_deliver_80 : decode cX7_deliver 80 = .ok (.istore 7, 2) := by decide +kernel
theorem dX7_deliver_82 : decode cX7_deliver 82 = .ok (.iload 5, 2) := by decide +kernel
theorem dX7_deliver_84 : decode cX7_deliver 84 = .ok (.iconst 2, 1) := by decide +kernel
theorem dX7_deliver_85 : decode cX7_deliver 85 = .ok (.if_icmp .ne 22, 3) := by decide +kernel
theorem dX7_deliver_88 : decode cX7_deliver 88 = .ok (.aload_n 0, 1) := by decide +kernel
theorem dX7_deliver_89 : decode cX7_deliver 89 = .ok (.getfield 53, 3) := by decide +kernel
theorem dX7_deliver_92 : decode cX7_deliver 92 = .ok (.iload_n 3, 1) := by decide +kernel
theorem dX7_deliver_93 : decode cX7_deliver 93 = .ok (.baload, 1) := by decide +kernel
theorem dX7_deliver_94 : decode cX7_deliver 94 = .ok (.ifCond .ne 13, 3) := by decide +kernel
theorem dX7_deliver_97 : decode cX7_deliver 97 = .ok (.aload_n 0, 1) := by decide +kernel
theorem dX7_deliver_98 : decode cX7_deliver 98 = .ok (.iload_n 1, 1) := by decide +kernel
theorem dX7_deliver_99 : decode cX7_deliver 99 = .ok (.iload_n 2, 1) := by decide +kernel
theorem dX7_deliver_100 : decode cX7_deliver 100 = .ok (.iload_n 3, 1) := by decide +kernel
theorem dX7_deliver_101 : decode cX7_deliver 101 = .ok (.iload 4, 2) := by decide +kernel
theorem dX7_deliver_103 : decode cX7_deliver 103 = .ok (.invokevirtual 197, 3) := by decide +kernel
theorem dX7_deliver_106 : decode cX7_deliver 106 = .ok (.ireturn, 1) := by decide +kernel
theorem dX7_deliver_107 : decode cX7_deliver 107 = .ok (.aload_n 0, 1) := by decide +kernel
theorem dX7_deliver_108 : decode cX7_deliver 108 = .ok (.iload_n 1, 1) := by decide +kernel
theorem dX7_deliver_109 : decode cX7_deliver 109 = .ok (.invokevirtual 134, 3) := by decide +kernel
theorem dX7_deliver_112 : decode cX7_deliver 112 = .ok (.iload 7, 2) := by decide +kernel
theorem dX7_deliver_114 : decode cX7_deliver 114 = .ok (.ifCond .eq 25, 3) := by decide +kernel
end
section
theorem dX7_deliver_117 : decode cX7_deliver 117 = .ok (.aload_n 0, 1) := by decide +kernel
theorem dX7_deliver_118 : decode cX7_deliver 118 = .ok (.getfield 53, 3) := by decide +kernel
theorem dX7_deliver_121 : decode cX7_deliver 121 = .ok (.iload_n 3, 1) := by decide +kernel
theorem dX7_deliver_122 : decode cX7_deliver 122 = .ok (.baload, 1) := by decide +kernel
theorem dX7_deliver_123 : decode cX7_deliver 123 = .ok (.ifCond .eq 7, 3) := by decide +kernel
theorem dX7_deliver_126 : decode cX7_deliver 126 = .ok (.iconst 0, 1) := by decide +kernel
theorem dX7_deliver_127 : decode cX7_deliver 127 = .ok (.goto 11, 3) := by decide +kernel
theorem dX7_deliver_130 : decode cX7_deliver 130 = .ok (.aload_n 0, 1) := by decide +kernel
theorem dX7_deliver_131 : decode cX7_deliver 131 = .ok (.iload_n 2, 1) := by decide +kernel
theorem dX7_deliver_132 : decode cX7_deliver 132 = .ok (.iload_n 3, 1) := by decide +kernel
theorem dX7_deliver_133 : decode cX7_deliver 133 = .ok (.iload 4, 2) := by decide +kernel
theorem dX7_deliver_135 : decode cX7_deliver 135 = .ok (.invokevirtual 200, 3) := by decide +kernel
theorem dX7_deliver_138 : decode cX7_deliver 138 = .ok (.ireturn, 1) := by decide +kernel
theorem dX7_deliver_139 : decode cX7_deliver 139 = .ok (.iload 5, 2) := by decide +kernel
theorem dX7_deliver_141 : decode cX7_deliver 141 = .ok (.iconst 3, 1) := by decide +kernel
theorem dX7_deliver_142 : decode cX7_deliver 142 = .ok (.if_icmp .ne 14, 3) := by decide +kernel
theorem dX7_deliver_145 : decode cX7_deliver 145 = .ok (.aload_n 0, 1) := by decide +kernel
theorem dX7_deliver_146 : decode cX7_deliver 146 = .ok (.iload_n 2, 1) := by decide +kernel
theorem dX7_deliver_147 : decode cX7_deliver 147 = .ok (.iload_n 3, 1) := by decide +kernel
theorem dX7_deliver_148 : decode cX7_deliver 148 = .ok (.iload 4, 2) := by decide +kernel
theorem dX7_deliver_150 : decode cX7_deliver 150 = .ok (.invokevirtual 203, 3) := by decide +kernel
theorem dX7_deliver_153 : decode cX7_deliver 153 = .ok (.goto 12, 3) := by decide +kernel
theorem dX7_deliver_156 : decode cX7_deliver 156 = .ok (.aload_n 0, 1) := by decide +kernel
theorem dX7_deliver_157 : decode cX7_deliver 157 = .ok (.iload_n 2, 1) := by decide +kernel
theorem dX7_deliver_158 : decode cX7_deliver 158 = .ok (.iload 4, 2) := by decide +kernel
theorem dX7_deliver_160 : decode cX7_deliver 160 = .ok (.iload 6, 2) := by decide +kernel
theorem dX7_deliver_162 : decode cX7_deliver 162 = .ok (.invokevirtual 206, 3) := by decide +kernel
theorem dX7_deliver_165 : decode cX7_deliver 165 = .ok (.ireturn, 1) := by decide +kernel
theorem dX7_issuer_0 : decode cX7_issuer 0 = .ok (.aload_n 0, 1) := by decide +kernel
theorem dX7_issuer_1 : decode cX7_issuer 1 = .ok (.iload_n 1, 1) := by decide +kernel
theorem dX7_issuer_2 : decode cX7_issuer 2 = .ok (.invokevirtual 118, 3) := by decide +kernel
theorem dX7_issuer_5 : decode cX7_issuer 5 = .ok (.ifCond .ne 5, 3) := by decide +kernel
theorem dX7_issuer_8 : decode cX7_issuer 8 = .ok (.lconst 0, 1) := by decide +kernel
theorem dX7_issuer_9 : decode cX7_issuer 9 = .ok (.lreturn, 1) := by decide +kernel
theorem dX7_issuer_10 : decode cX7_issuer 10 = .ok (.aload_n 0, 1) := by decide +kernel
theorem dX7_issuer_11 : decode cX7_issuer 11 = .ok (.iload_n 2, 1) := by decide +kernel
theorem dX7_issuer_12 : decode cX7_issuer 12 = .ok (.ifCond .lt 9, 3) := by decide +kernel
theorem dX7_issuer_15 : decode cX7_issuer 15 = .ok (.iload_n 2, 1) := by decide +kernel
theorem dX7_issuer_16 : decode cX7_issuer 16 = .ok (.bipush 7, 2) := by decide +kernel
theorem dX7_issuer_18 : decode cX7_issuer 18 = .ok (.if_icmp .le 7, 3) := by decide +kernel
theorem dX7_issuer_21 : decode cX7_issuer 21 = .ok (.iconst 1, 1) := by decide +kernel
theorem dX7_issuer_22 : decode cX7_issuer 22 = .ok (.goto 4, 3) := by decide +kernel
theorem dX7_issuer_25 : decode cX7_issuer 25 = .ok (.iconst 0, 1) := by decide +kernel
theorem dX7_issuer_26 : decode cX7_issuer 26 = .ok (.putfield 114, 3) := by decide +kernel
theorem dX7_issuer_29 : decode cX7_issuer 29 = .ok (.aload_n 0, 1) := by decide +kernel
theorem dX7_issuer_30 : decode cX7_issuer 30 = .ok (.getfield 114, 3) := by decide +kernel
theorem dX7_issuer_33 : decode cX7_issuer 33 = .ok (.ifCond .eq 5, 3) := by decide +kernel
theorem dX7_issuer_36 : decode cX7_issuer 36 = .ok (.lconst 0, 1) := by decide +kernel
theorem dX7_issuer_37 : decode cX7_issuer 37 = .ok (.lreturn, 1) := by decide +kernel
theorem dX7_issuer_38 : decode cX7_issuer 38 = .ok (.iload_n 2, 1) := by decide +kernel
theorem dX7_issuer_39 : decode cX7_issuer 39 = .ok (.ifCond .ne 18, 3) := by decide +kernel
theorem dX7_issuer_42 : decode cX7_issuer 42 = .ok (.aload_n 0, 1) := by decide +kernel
theorem dX7_issuer_43 : decode cX7_issuer 43 = .ok (.getfield 90, 3) := by decide +kernel
theorem dX7_issuer_46 : decode cX7_issuer 46 = .ok (.iload_n 1, 1) := by decide +kernel
theorem dX7_issuer_47 : decode cX7_issuer 47 = .ok (.baload, 1) := by decide +kernel
theorem dX7_issuer_48 : decode cX7_issuer 48 = .ok (.ifCond .eq 7, 3) := by decide +kernel
theorem dX7_issuer_51 : decode cX7_issuer 51 = .ok (.lconst 1, 1) := by decide +kernel
theorem dX7_issuer_52 : decode cX7_issuer 52 = .ok (.goto 4, 3) := by decide +kernel
theorem dX7_issuer_55 : decode cX7_issuer 55 = .ok (.lconst 0, 1) := by decide +kernel
theorem dX7_issuer_56 : decode cX7_issuer 56 = .ok (.lreturn, 1) := by decide +kernel
theorem dX7_issuer_57 : decode cX7_issuer 57 = .ok (.iload_n 2, 1) := by decide +kernel
theorem dX7_issuer_58 : decode cX7_issuer 58 = .ok (.iconst 1, 1) := by decide +kernel
theorem dX7_issuer_59 : decode cX7_issuer 59 = .ok (.if_icmp .ne 11, 3) := by decide +kernel
theorem dX7_issuer_62 : decode cX7_issuer 62 = .ok (.aload_n 0, 1) := by decide +kernel
theorem dX7_issuer_63 : decode cX7_issuer 63 = .ok (.getfield 63, 3) := by decide +kernel
theorem dX7_issuer_66 : decode cX7_issuer 66 = .ok (.iload_n 1, 1) := by decide +kernel
theorem dX7_issuer_67 : decode cX7_issuer 67 = .ok (.iaload, 1) := by decide +kernel
theorem dX7_issuer_68 : decode cX7_issuer 68 = .ok (.i2l, 1) := by decide +kernel
theorem dX7_issuer_69 : decode cX7_issuer 69 = .ok (.lreturn, 1) := by decide +kernel
theorem dX7_issuer_70 : decode cX7_issuer 70 = .ok (.iload_n 2, 1) := by decide +kernel
theorem dX7_issuer_71 : decode cX7_issuer 71 = .ok (.bipush 6, 2) := by decide +kernel
theorem dX7_issuer_73 : decode cX7_issuer 73 = .ok (.if_icmp .ne 11, 3) := by decide +kernel
theorem dX7_issuer_76 : decode cX7_issuer 76 = .ok (.aload_n 0, 1) := by decide +kernel
theorem dX7_issuer_77 : decode cX7_issuer 77 = .ok (.getfield 108, 3) := by decide +kernel
theorem dX7_issuer_80 : decode cX7_issuer 80 = .ok (.iload_n 1, 1) := by decide +kernel
theorem dX7_issuer_81 : decode cX7_issuer 81 = .ok (.iaload, 1) := by decide +kernel
theorem dX7_issuer_82 : decode cX7_issuer 82 = .ok (.i2l, 1) := by decide +kernel
theorem dX7_issuer_83 : decode cX7_issuer 83 = .ok (.lreturn, 1) := by decide +kernel
theorem dX7_issuer_84 : decode cX7_issuer 84 = .ok (.iload_n 2, 1) := by decide +kernel
theorem dX7_issuer_85 : decode cX7_issuer 85 = .ok (.bipush 7, 2) := by decide +kernel
theorem dX7_issuer_87 : decode cX7_issuer 87 = .ok (.if_icmp .ne 10, 3) := by decide +kernel
theorem dX7_issuer_90 : decode cX7_issuer 90 = .ok (.aload_n 0, 1) := by decide +kernel
theorem dX7_issuer_91 : decode cX7_issuer 91 = .ok (.getfield 111, 3) := by decide +kernel
theorem dX7_issuer_94 : decode cX7_issuer 94 = .ok (.iload_n 1, 1) := by decide +kernel
theorem dX7_issuer_95 : decode cX7_issuer 95 = .ok (.laload, 1) := by decide +kernel
theorem dX7_issuer_96 : decode cX7_issuer 96 = .ok (.lreturn, 1) := by decide +kernel
theorem dX7_issuer_97 : decode cX7_issuer 97 = .ok (.aload_n 0, 1) := by decide +kernel
theorem dX7_issuer_98 : decode cX7_issuer 98 = .ok (.getfield 90, 3) := by decide +kernel
theorem dX7_issuer_101 : decode cX7_issuer 101 = .ok (.iload_n 1, 1) := by decide +kernel
theorem dX7_issuer_102 : decode cX7_issuer 102 = .ok (.baload, 1) := by decide +kernel
theorem dX7_issuer_103 : decode cX7_issuer 103 = .ok (.ifCond .ne 7, 3) := by decide +kernel
theorem dX7_issuer_106 : decode cX7_issuer 106 = .ok (.ldc2_w 192, 3) := by decide +kernel
theorem dX7_issuer_109 : decode cX7_issuer 109 = .ok (.lreturn, 1) := by decide +kernel
theorem dX7_issuer_110 : decode cX7_issuer 110 = .ok (.iload_n 2, 1) := by decide +kernel
theorem dX7_issuer_111 : decode cX7_issuer 111 = .ok (.iconst 2, 1) := by decide +kernel
theorem dX7_issuer_112 : decode cX7_issuer 112 = .ok (.if_icmp .ne 13, 3) := by decide +kernel
theorem dX7_issuer_115 : decode cX7_issuer 115 = .ok (.aload_n 0, 1) := by decide +kernel
theorem dX7_issuer_116 : decode cX7_issuer 116 = .ok (.getfield 93, 3) := by decide +kernel
theorem dX7_issuer_119 : decode cX7_issuer 119 = .ok (.iload_n 1, 1) := by decide +kernel
theorem dX7_issuer_120 : decode cX7_issuer 120 = .ok (.iaload, 1) := by decide +kernel
theorem dX7_issuer_121 : decode cX7_issuer 121 = .ok (.i2l, 1) := by decide +kernel
theorem dX7_issuer_122 : decode cX7_issuer 122 = .ok (.goto 42, 3) := by decide +kernel
theorem dX7_issuer_125 : decode cX7_issuer 125 = .ok (.iload_n 2, 1) := by decide +kernel
theorem dX7_issuer_126 : decode cX7_issuer 126 = .ok (.iconst 3, 1) := by decide +kernel
theorem dX7_issuer_127 : decode cX7_issuer 127 = .ok (.if_icmp .ne 13, 3) := by decide +kernel
theorem dX7_issuer_130 : decode cX7_issuer 130 = .ok (.aload_n 0, 1) := by decide +kernel
theorem dX7_issuer_131 : decode cX7_issuer 131 = .ok (.getfield 96, 3) := by decide +kernel
theorem dX7_issuer_134 : decode cX7_issuer 134 = .ok (.iload_n 1, 1) := by decide +kernel
theorem dX7_issuer_135 : decode cX7_issuer 135 = .ok (.iaload, 1) := by decide +kernel
theorem dX7_issuer_136 : decode cX7_issuer 136 = .ok (.i2l, 1) := by decide +kernel
theorem dX7_issuer_137 : decode cX7_issuer 137 = .ok (.goto 27, 3) := by decide +kernel
theorem dX7_issuer_140 : decode cX7_issuer 140 = .ok (.iload_n 2, 1) := by decide +kernel
theorem dX7_issuer_141 : decode cX7_issuer 141 = .ok (.iconst 4, 1) := by decide +kernel
theorem dX7_issuer_142 : decode cX7_issuer 142 = .ok (.if_icmp .ne 16, 3) := by decide +kernel
theorem dX7_issuer_145 : decode cX7_issuer 145 = .ok (.aload_n 0, 1) := by decide +kernel
theorem dX7_issuer_146 : decode cX7_issuer 146 = .ok (.getfield 99, 3) := by decide +kernel
theorem dX7_issuer_149 : decode cX7_issuer 149 = .ok (.iload_n 1, 1) := by decide +kernel
theorem dX7_issuer_150 : decode cX7_issuer 150 = .ok (.laload, 1) := by decide +kernel
theorem dX7_issuer_151 : decode cX7_issuer 151 = .ok (.ldc2_w 184, 3) := by decide +kernel
theorem dX7_issuer_154 : decode cX7_issuer 154 = .ok (.ladd, 1) := by decide +kernel
theorem dX7_issuer_155 : decode cX7_issuer 155 = .ok (.goto 9, 3) := by decide +kernel
theorem dX7_issuer_158 : decode cX7_issuer 158 = .ok (.aload_n 0, 1) := by decide +kernel
theorem dX7_issuer_159 : decode cX7_issuer 159 = .ok (.getfield 102, 3) := by decide +kernel
theorem dX7_issuer_162 : decode cX7_issuer 162 = .ok (.iload_n 1, 1) := by decide +kernel
theorem dX7_issuer_163 : decode cX7_issuer 163 = .ok (.laload, 1) := by decide +kernel
theorem dX7_issuer_164 : decode cX7_issuer 164 = .ok (.lreturn, 1) := by decide +kernel
theorem dX7_give_0 : decode cX7_give 0 = .ok (.aload_n 0, 1) := by decide +kernel
theorem dX7_give_1 : decode cX7_give 1 = .ok (.getfield 90, 3) := by decide +kernel
theorem dX7_give_4 : decode cX7_give 4 = .ok (.iload_n 1, 1) := by decide +kernel
theorem dX7_give_5 : decode cX7_give 5 = .ok (.baload, 1) := by decide +kernel
theorem dX7_give_6 : decode cX7_give 6 = .ok (.ifCond .ne 5, 3) := by decide +kernel
theorem dX7_give_9 : decode cX7_give 9 = .ok (.lconst 0, 1) := by decide +kernel
theorem dX7_give_10 : decode cX7_give 10 = .ok (.lreturn, 1) := by decide +kernel
theorem dX7_give_11 : decode cX7_give 11 = .ok (.aload_n 0, 1) := by decide +kernel
theorem dX7_give_12 : decode cX7_give 12 = .ok (.getfield 60, 3) := by decide +kernel
theorem dX7_give_15 : decode cX7_give 15 = .ok (.iload_n 1, 1) := by decide +kernel
theorem dX7_give_16 : decode cX7_give 16 = .ok (.laload, 1) := by decide +kernel
theorem dX7_give_17 : decode cX7_give 17 = .ok (.lstore_n 3, 1) := by decide +kernel
theorem dX7_give_18 : decode cX7_give 18 = .ok (.aload_n 0, 1) := by decide +kernel
theorem dX7_give_19 : decode cX7_give 19 = .ok (.getfield 99, 3) := by decide +kernel
theorem dX7_give_22 : decode cX7_give 22 = .ok (.iload_n 1, 1) := by decide +kernel
theorem dX7_give_23 : decode cX7_give 23 = .ok (.laload, 1) := by decide +kernel
theorem dX7_give_24 : decode cX7_give 24 = .ok (.lload_n 3, 1) := by decide +kernel
theorem dX7_give_25 : decode cX7_give 25 = .ok (.lcmp, 1) := by decide +kernel
theorem dX7_give_26 : decode cX7_give 26 = .ok (.ifCond .le 12, 3) := by decide +kernel
theorem dX7_give_29 : decode cX7_give 29 = .ok (.aload_n 0, 1) := by decide +kernel
theorem dX7_give_30 : decode cX7_give 30 = .ok (.getfield 99, 3) := by decide +kernel
theorem dX7_give_33 : decode cX7_give 33 = .ok (.iload_n 1, 1) := by decide +kernel
theorem dX7_give_34 : decode cX7_give 34 = .ok (.laload, 1) := by decide +kernel
theorem dX7_give_35 : decode cX7_give 35 = .ok (.goto 4, 3) := by decide +kernel
theorem dX7_give_38 : decode cX7_give 38 = .ok (.lload_n 3, 1) := by decide +kernel
theorem dX7_give_39 : decode cX7_give 39 = .ok (.lstore_n 3, 1) := by decide +kernel
theorem dX7_give_40 : decode cX7_give 40 = .ok (.aload_n 0, 1) := by decide +kernel
theorem dX7_give_41 : decode cX7_give 41 = .ok (.getfield 102, 3) := by decide +kernel
theorem dX7_give_44 : decode cX7_give 44 = .ok (.iload_n 1, 1) := by decide +kernel
theorem dX7_give_45 : decode cX7_give 45 = .ok (.laload, 1) := by decide +kernel
theorem dX7_give_46 : decode cX7_give 46 = .ok (.lload_n 3, 1) := by decide +kernel
theorem dX7_give_47 : decode cX7_give 47 = .ok (.lcmp, 1) := by decide +kernel
theorem dX7_give_48 : decode cX7_give 48 = .ok (.ifCond .le 12, 3) := by decide +kernel
theorem dX7_give_51 : decode cX7_give 51 = .ok (.aload_n 0, 1) := by decide +kernel
theorem dX7_give_52 : decode cX7_give 52 = .ok (.getfield 102, 3) := by decide +kernel
theorem dX7_give_55 : decode cX7_give 55 = .ok (.iload_n 1, 1) := by decide +kernel
theorem dX7_give_56 : decode cX7_give 56 = .ok (.laload, 1) := by decide +kernel
theorem dX7_give_57 : decode cX7_give 57 = .ok (.goto 4, 3) := by decide +kernel
theorem dX7_give_60 : decode cX7_give 60 = .ok (.lload_n 3, 1) := by decide +kernel
theorem dX7_give_61 : decode cX7_give 61 = .ok (.lstore_n 3, 1) := by decide +kernel
theorem dX7_give_62 : decode cX7_give 62 = .ok (.aload_n 0, 1) := by decide +kernel
theorem dX7_give_63 : decode cX7_give 63 = .ok (.getfield 102, 3) := by decide +kernel
theorem dX7_give_66 : decode cX7_give 66 = .ok (.iload_n 1, 1) := by decide +kernel
theorem dX7_give_67 : decode cX7_give 67 = .ok (.laload, 1) := by decide +kernel
theorem dX7_give_68 : decode cX7_give 68 = .ok (.lload_n 3, 1) := by decide +kernel
theorem dX7_give_69 : decode cX7_give 69 = .ok (.lcmp, 1) := by decide +kernel
theorem dX7_give_70 : decode cX7_give 70 = .ok (.ifCond .ne 14, 3) := by decide +kernel
theorem dX7_give_73 : decode cX7_give 73 = .ok (.aload_n 0, 1) := by decide +kernel
theorem dX7_give_74 : decode cX7_give 74 = .ok (.getfield 105, 3) := by decide +kernel
theorem dX7_give_77 : decode cX7_give 77 = .ok (.iload_n 1, 1) := by decide +kernel
theorem dX7_give_78 : decode cX7_give 78 = .ok (.iaload, 1) := by decide +kernel
theorem dX7_give_79 : decode cX7_give 79 = .ok (.iconst 1, 1) := by decide +kernel
theorem dX7_give_80 : decode cX7_give 80 = .ok (.iadd, 1) := by decide +kernel
theorem dX7_give_81 : decode cX7_give 81 = .ok (.goto 4, 3) := by decide +kernel
theorem dX7_give_84 : decode cX7_give 84 = .ok (.iconst 0, 1) := by decide +kernel
theorem dX7_give_85 : decode cX7_give 85 = .ok (.istore 5, 2) := by decide +kernel
theorem dX7_give_87 : decode cX7_give 87 = .ok (.iload 5, 2) := by decide +kernel
theorem dX7_give_89 : decode cX7_give 89 = .ok (.iload_n 2, 1) := by decide +kernel
theorem dX7_give_90 : decode cX7_give 90 = .ok (.iadd, 1) := by decide +kernel
theorem dX7_give_91 : decode cX7_give 91 = .ok (.sipush 1024, 3) := by decide +kernel
theorem dX7_give_94 : decode cX7_give 94 = .ok (.if_icmp .le 10, 3) := by decide +kernel
theorem dX7_give_97 : decode cX7_give 97 = .ok (.lload_n 3, 1) := by decide +kernel
theorem dX7_give_98 : decode cX7_give 98 = .ok (.lconst 1, 1) := by decide +kernel
theorem dX7_give_99 : decode cX7_give 99 = .ok (.ladd, 1) := by decide +kernel
theorem dX7_give_100 : decode cX7_give 100 = .ok (.lstore_n 3, 1) := by decide +kernel
theorem dX7_give_101 : decode cX7_give 101 = .ok (.iconst 0, 1) := by decide +kernel
theorem dX7_give_102 : decode cX7_give 102 = .ok (.istore 5, 2) := by decide +kernel
theorem dX7_give_104 : decode cX7_give 104 = .ok (.lload_n 3, 1) := by decide +kernel
theorem dX7_give_105 : decode cX7_give 105 = .ok (.aload_n 0, 1) := by decide +kernel
theorem dX7_give_106 : decode cX7_give 106 = .ok (.getfield 99, 3) := by decide +kernel
theorem dX7_give_109 : decode cX7_give 109 = .ok (.iload_n 1, 1) := by decide +kernel
theorem dX7_give_110 : decode cX7_give 110 = .ok (.laload, 1) := by decide +kernel
theorem dX7_give_111 : decode cX7_give 111 = .ok (.ldc2_w 184, 3) := by decide +kernel
theorem dX7_give_114 : decode cX7_give 114 = .ok (.ladd, 1) := by decide +kernel
theorem dX7_give_115 : decode cX7_give 115 = .ok (.lcmp, 1) := by decide +kernel
theorem dX7_give_116 : decode cX7_give 116 = .ok (.ifCond .gt 18, 3) := by decide +kernel
theorem dX7_give_119 : decode cX7_give 119 = .ok (.lload_n 3, 1) := by decide +kernel
theorem dX7_give_120 : decode cX7_give 120 = .ok (.aload_n 0, 1) := by decide +kernel
theorem dX7_give_121 : decode cX7_give 121 = .ok (.getfield 60, 3) := by decide +kernel
theorem dX7_give_124 : decode cX7_give 124 = .ok (.iload_n 1, 1) := by decide +kernel
theorem dX7_give_125 : decode cX7_give 125 = .ok (.laload, 1) := by decide +kernel
theorem dX7_give_126 : decode cX7_give 126 = .ok (.lsub, 1) := by decide +kernel
theorem dX7_give_127 : decode cX7_give 127 = .ok (.ldc2_w 209, 3) := by decide +kernel
theorem dX7_give_130 : decode cX7_give 130 = .ok (.lcmp, 1) := by decide +kernel
theorem dX7_give_131 : decode cX7_give 131 = .ok (.ifCond .le 5, 3) := by decide +kernel
theorem dX7_give_134 : decode cX7_give 134 = .ok (.lconst 0, 1) := by decide +kernel
theorem dX7_give_135 : decode cX7_give 135 = .ok (.lreturn, 1) := by decide +kernel
theorem dX7_give_136 : decode cX7_give 136 = .ok (.aload_n 0, 1) := by decide +kernel
theorem dX7_give_137 : decode cX7_give 137 = .ok (.getfield 102, 3) := by decide +kernel
theorem dX7_give_140 : decode cX7_give 140 = .ok (.iload_n 1, 1) := by decide +kernel
theorem dX7_give_141 : decode cX7_give 141 = .ok (.lload_n 3, 1) := by decide +kernel
theorem dX7_give_142 : decode cX7_give 142 = .ok (.lastore, 1) := by decide +kernel
theorem dX7_give_143 : decode cX7_give 143 = .ok (.aload_n 0, 1) := by decide +kernel
theorem dX7_give_144 : decode cX7_give 144 = .ok (.getfield 105, 3) := by decide +kernel
theorem dX7_give_147 : decode cX7_give 147 = .ok (.iload_n 1, 1) := by decide +kernel
theorem dX7_give_148 : decode cX7_give 148 = .ok (.iload 5, 2) := by decide +kernel
theorem dX7_give_150 : decode cX7_give 150 = .ok (.iload_n 2, 1) := by decide +kernel
theorem dX7_give_151 : decode cX7_give 151 = .ok (.iadd, 1) := by decide +kernel
theorem dX7_give_152 : decode cX7_give 152 = .ok (.iconst 1, 1) := by decide +kernel
theorem dX7_give_153 : decode cX7_give 153 = .ok (.isub, 1) := by decide +kernel
theorem dX7_give_154 : decode cX7_give 154 = .ok (.iastore, 1) := by decide +kernel
theorem dX7_give_155 : decode cX7_give 155 = .ok (.aload_n 0, 1) := by decide +kernel
theorem dX7_give_156 : decode cX7_give 156 = .ok (.getfield 111, 3) := by decide +kernel
theorem dX7_give_159 : decode cX7_give 159 = .ok (.iload_n 1, 1) := by decide +kernel
theorem dX7_give_160 : decode cX7_give 160 = .ok (.dup2, 1) := by decide +kernel
theorem dX7_give_161 : decode cX7_give 161 = .ok (.laload, 1) := by decide +kernel
theorem dX7_give_162 : decode cX7_give 162 = .ok (.iload_n 2, 1) := by decide +kernel
theorem dX7_give_163 : decode cX7_give 163 = .ok (.i2l, 1) := by decide +kernel
theorem dX7_give_164 : decode cX7_give 164 = .ok (.ladd, 1) := by decide +kernel
theorem dX7_give_165 : decode cX7_give 165 = .ok (.lastore, 1) := by decide +kernel
theorem dX7_give_166 : decode cX7_give 166 = .ok (.lload_n 3, 1) := by decide +kernel
theorem dX7_give_167 : decode cX7_give 167 = .ok (.ldc2_w 211, 3) := by decide +kernel
theorem dX7_give_170 : decode cX7_give 170 = .ok (.lmul, 1) := by decide +kernel
theorem dX7_give_171 : decode cX7_give 171 = .ok (.aload_n 0, 1) := by decide +kernel
theorem dX7_give_172 : decode cX7_give 172 = .ok (.getfield 93, 3) := by decide +kernel
theorem dX7_give_175 : decode cX7_give 175 = .ok (.iload_n 1, 1) := by decide +kernel
theorem dX7_give_176 : decode cX7_give 176 = .ok (.iaload, 1) := by decide +kernel
theorem dX7_give_177 : decode cX7_give 177 = .ok (.i2l, 1) := by decide +kernel
theorem dX7_give_178 : decode cX7_give 178 = .ok (.ldc2_w 213, 3) := by decide +kernel
theorem dX7_give_181 : decode cX7_give 181 = .ok (.lmul, 1) := by decide +kernel
theorem dX7_give_182 : decode cX7_give 182 = .ok (.ladd, 1) := by decide +kernel
theorem dX7_give_183 : decode cX7_give 183 = .ok (.iload 5, 2) := by decide +kernel
theorem dX7_give_185 : decode cX7_give 185 = .ok (.i2l, 1) := by decide +kernel
theorem dX7_give_186 : decode cX7_give 186 = .ok (.ladd, 1) := by decide +kernel
theorem dX7_give_187 : decode cX7_give 187 = .ok (.lreturn, 1) := by decide +kernel
theorem dX7_next_0 : decode cX7_next 0 = .ok (.aload_n 0, 1) := by decide +kernel
theorem dX7_next_1 : decode cX7_next 1 = .ok (.iload_n 1, 1) := by decide +kernel
theorem dX7_next_2 : decode cX7_next 2 = .ok (.invokevirtual 118, 3) := by decide +kernel
theorem dX7_next_5 : decode cX7_next 5 = .ok (.ifCond .eq 12, 3) := by decide +kernel
theorem dX7_next_8 : decode cX7_next 8 = .ok (.aload_n 0, 1) := by decide +kernel
theorem dX7_next_9 : decode cX7_next 9 = .ok (.iload_n 1, 1) := by decide +kernel
theorem dX7_next_10 : decode cX7_next 10 = .ok (.iconst 1, 1) := by decide +kernel
theorem dX7_next_11 : decode cX7_next 11 = .ok (.invokevirtual 215, 3) := by decide +kernel
theorem dX7_next_14 : decode cX7_next 14 = .ok (.goto 4, 3) := by decide +kernel
theorem dX7_next_17 : decode cX7_next 17 = .ok (.lconst 0, 1) := by decide +kernel
theorem dX7_next_18 : decode cX7_next 18 = .ok (.lreturn, 1) := by decide +kernel
theorem dX7_batch_0 : decode cX7_batch 0 = .ok (.aload_n 0, 1) := by decide +kernel
theorem dX7_batch_1 : decode cX7_batch 1 = .ok (.iload_n 1, 1) := by decide +kernel
theorem dX7_batch_2 : decode cX7_batch 2 = .ok (.invokevirtual 118, 3) := by decide +kernel
theorem dX7_batch_5 : decode cX7_batch 5 = .ok (.ifCond .ne 5, 3) := by decide +kernel
theorem dX7_batch_8 : decode cX7_batch 8 = .ok (.lconst 0, 1) := by decide +kernel
theorem dX7_batch_9 : decode cX7_batch 9 = .ok (.lreturn, 1) := by decide +kernel
theorem dX7_batch_10 : decode cX7_batch 10 = .ok (.aload_n 0, 1) := by decide +kernel
theorem dX7_batch_11 : decode cX7_batch 11 = .ok (.iload_n 2, 1) := by decide +kernel
theorem dX7_batch_12 : decode cX7_batch 12 = .ok (.iconst 1, 1) := by decide +kernel
theorem dX7_batch_13 : decode cX7_batch 13 = .ok (.if_icmp .lt 10, 3) := by decide +kernel
theorem dX7_batch_16 : decode cX7_batch 16 = .ok (.iload_n 2, 1) := by decide +kernel
theorem dX7_batch_17 : decode cX7_batch 17 = .ok (.sipush 1024, 3) := by decide +kernel
theorem dX7_batch_20 : decode cX7_batch 20 = .ok (.if_icmp .le 7, 3) := by decide +kernel
theorem dX7_batch_23 : decode cX7_batch 23 = .ok (.iconst 2, 1) := by decide +kernel
theorem dX7_batch_24 : decode cX7_batch 24 = .ok (.goto 4, 3) := by decide +kernel
theorem dX7_batch_27 : decode cX7_batch 27 = .ok (.iconst 0, 1) := by decide +kernel
theorem dX7_batch_28 : decode cX7_batch 28 = .ok (.putfield 114, 3) := by decide +kernel
theorem dX7_batch_31 : decode cX7_batch 31 = .ok (.aload_n 0, 1) := by decide +kernel
theorem dX7_batch_32 : decode cX7_batch 32 = .ok (.getfield 114, 3) := by decide +kernel
theorem dX7_batch_35 : decode cX7_batch 35 = .ok (.ifCond .eq 7, 3) := by decide +kernel
theorem dX7_batch_38 : decode cX7_batch 38 = .ok (.lconst 0, 1) := by decide +kernel
theorem dX7_batch_39 : decode cX7_batch 39 = .ok (.goto 9, 3) := by decide +kernel
theorem dX7_batch_42 : decode cX7_batch 42 = .ok (.aload_n 0, 1) := by decide +kernel
theorem dX7_batch_43 : decode cX7_batch 43 = .ok (.iload_n 1, 1) := by decide +kernel
theorem dX7_batch_44 : decode cX7_batch 44 = .ok (.iload_n 2, 1) := by decide +kernel
theorem dX7_batch_45 : decode cX7_batch 45 = .ok (.invokevirtual 215, 3) := by decide +kernel
theorem dX7_batch_48 : decode cX7_batch 48 = .ok (.lreturn, 1) := by decide +kernel
theorem dX7_seat_0 : decode cX7_seat 0 = .ok (.aload_n 0, 1) := by decide +kernel
theorem dX7_seat_1 : decode cX7_seat 1 = .ok (.iload_n 1, 1) := by decide +kernel
theorem dX7_seat_2 : decode cX7_seat 2 = .ok (.ifCond .lt 18, 3) := by decide +kernel
theorem dX7_seat_5 : decode cX7_seat 5 = .ok (.iload_n 1, 1) := by decide +kernel
theorem dX7_seat_6 : decode cX7_seat 6 = .ok (.bipush 7, 2) := by decide +kernel
theorem dX7_seat_8 : decode cX7_seat 8 = .ok (.if_icmp .gt 12, 3) := by decide +kernel
theorem dX7_seat_11 : decode cX7_seat 11 = .ok (.iload_n 2, 1) := by decide +kernel
theorem dX7_seat_12 : decode cX7_seat 12 = .ok (.ifCond .lt 8, 3) := by decide +kernel
theorem dX7_seat_15 : decode cX7_seat 15 = .ok (.iload_n 2, 1) := by decide +kernel
theorem dX7_seat_16 : decode cX7_seat 16 = .ok (.iconst 2, 1) := by decide +kernel
theorem dX7_seat_17 : decode cX7_seat 17 = .ok (.if_icmp .le 7, 3) := by decide +kernel
theorem dX7_seat_20 : decode cX7_seat 20 = .ok (.iconst 1, 1) := by decide +kernel
theorem dX7_seat_21 : decode cX7_seat 21 = .ok (.goto 4, 3) := by decide +kernel
theorem dX7_seat_24 : decode cX7_seat 24 = .ok (.iconst 0, 1) := by decide +kernel
theorem dX7_seat_25 : decode cX7_seat 25 = .ok (.putfield 114, 3) := by decide +kernel
theorem dX7_seat_28 : decode cX7_seat 28 = .ok (.aload_n 0, 1) := by decide +kernel
theorem dX7_seat_29 : decode cX7_seat 29 = .ok (.getfield 114, 3) := by decide +kernel
theorem dX7_seat_32 : decode cX7_seat 32 = .ok (.ifCond .eq 5, 3) := by decide +kernel
theorem dX7_seat_35 : decode cX7_seat 35 = .ok (.lconst 0, 1) := by decide +kernel
theorem dX7_seat_36 : decode cX7_seat 36 = .ok (.lreturn, 1) := by decide +kernel
theorem dX7_seat_37 : decode cX7_seat 37 = .ok (.iconst 0, 1) := by decide +kernel
theorem dX7_seat_38 : decode cX7_seat 38 = .ok (.istore_n 3, 1) := by decide +kernel
theorem dX7_seat_39 : decode cX7_seat 39 = .ok (.iconst (-1), 1) := by decide +kernel
theorem dX7_seat_40 : decode cX7_seat 40 = .ok (.istore 4, 2) := by decide +kernel
theorem dX7_seat_42 : decode cX7_seat 42 = .ok (.iconst 0, 1) := by decide +kernel
theorem dX7_seat_43 : decode cX7_seat 43 = .ok (.istore 5, 2) := by decide +kernel
theorem dX7_seat_45 : decode cX7_seat 45 = .ok (.iload 5, 2) := by decide +kernel
theorem dX7_seat_47 : decode cX7_seat 47 = .ok (.iconst 5, 1) := by decide +kernel
theorem dX7_seat_48 : decode cX7_seat 48 = .ok (.if_icmp .ge 62, 3) := by decide +kernel
theorem dX7_seat_51 : decode cX7_seat 51 = .ok (.aload_n 0, 1) := by decide +kernel
theorem dX7_seat_52 : decode cX7_seat 52 = .ok (.getfield 53, 3) := by decide +kernel
theorem dX7_seat_55 : decode cX7_seat 55 = .ok (.iload 5, 2) := by decide +kernel
theorem dX7_seat_57 : decode cX7_seat 57 = .ok (.baload, 1) := by decide +kernel
theorem dX7_seat_58 : decode cX7_seat 58 = .ok (.ifCond .eq 6, 3) := by decide +kernel
theorem dX7_seat_61 : decode cX7_seat 61 = .ok (.goto 43, 3) := by decide +kernel
theorem dX7_seat_64 : decode cX7_seat 64 = .ok (.iinc 3 1, 3) := by decide +kernel
theorem dX7_seat_67 : decode cX7_seat 67 = .ok (.aload_n 0, 1) := by decide +kernel
theorem dX7_seat_68 : decode cX7_seat 68 = .ok (.iload 5, 2) := by decide +kernel
theorem dX7_seat_70 : decode cX7_seat 70 = .ok (.iload_n 1, 1) := by decide +kernel
theorem dX7_seat_71 : decode cX7_seat 71 = .ok (.aload_n 0, 1) := by decide +kernel
theorem dX7_seat_72 : decode cX7_seat 72 = .ok (.getfield 171, 3) := by decide +kernel
theorem dX7_seat_75 : decode cX7_seat 75 = .ok (.invokevirtual 153, 3) := by decide +kernel
theorem dX7_seat_78 : decode cX7_seat 78 = .ok (.istore 6, 2) := by decide +kernel
theorem dX7_seat_80 : decode cX7_seat 80 = .ok (.aload_n 0, 1) := by decide +kernel
theorem dX7_seat_81 : decode cX7_seat 81 = .ok (.iload 6, 2) := by decide +kernel
theorem dX7_seat_83 : decode cX7_seat 83 = .ok (.invokevirtual 157, 3) := by decide +kernel
theorem dX7_seat_86 : decode cX7_seat 86 = .ok (.aload_n 0, 1) := by decide +kernel
theorem dX7_seat_87 : decode cX7_seat 87 = .ok (.iload 4, 2) := by decide +kernel
theorem dX7_seat_89 : decode cX7_seat 89 = .ok (.invokevirtual 157, 3) := by decide +kernel
theorem dX7_seat_92 : decode cX7_seat 92 = .ok (.if_icmp .le 8, 3) := by decide +kernel
theorem dX7_seat_95 : decode cX7_seat 95 = .ok (.iload 6, 2) := by decide +kernel
theorem dX7_seat_97 : decode cX7_seat 97 = .ok (.goto 5, 3) := by decide +kernel
theorem dX7_seat_100 : decode cX7_seat 100 = .ok (.iload 4, 2) := by decide +kernel
theorem dX7_seat_102 : decode cX7_seat 102 = .ok (.istore 4, 2) := by decide +kernel
theorem dX7_seat_104 : decode cX7_seat 104 = .ok (.iinc 5 1, 3) := by decide +kernel
theorem dX7_seat_107 : decode cX7_seat 107 = .ok (.goto (-62), 3) := by decide +kernel
theorem dX7_seat_110 : decode cX7_seat 110 = .ok (.iload_n 3, 1) := by decide +kernel
theorem dX7_seat_111 : decode cX7_seat 111 = .ok (.iconst 3, 1) := by decide +kernel
theorem dX7_seat_112 : decode cX7_seat 112 = .ok (.if_icmp .lt 8, 3) := by decide +kernel
theorem dX7_seat_115 : decode cX7_seat 115 = .ok (.iload 4, 2) := by decide +kernel
theorem dX7_seat_117 : decode cX7_seat 117 = .ok (.ifCond .ge 7, 3) := by decide +kernel
theorem dX7_seat_120 : decode cX7_seat 120 = .ok (.ldc2_w 192, 3) := by decide +kernel
theorem dX7_seat_123 : decode cX7_seat 123 = .ok (.lreturn, 1) := by decide +kernel
theorem dX7_seat_124 : decode cX7_seat 124 = .ok (.iload_n 2, 1) := by decide +kernel
theorem dX7_seat_125 : decode cX7_seat 125 = .ok (.ifCond .ne 13, 3) := by decide +kernel
theorem dX7_seat_128 : decode cX7_seat 128 = .ok (.aload_n 0, 1) := by decide +kernel
theorem dX7_seat_129 : decode cX7_seat 129 = .ok (.iload 4, 2) := by decide +kernel
theorem dX7_seat_131 : decode cX7_seat 131 = .ok (.invokevirtual 164, 3) := by decide +kernel
theorem dX7_seat_134 : decode cX7_seat 134 = .ok (.i2l, 1) := by decide +kernel
theorem dX7_seat_135 : decode cX7_seat 135 = .ok (.goto 24, 3) := by decide +kernel
theorem dX7_seat_138 : decode cX7_seat 138 = .ok (.iload_n 2, 1) := by decide +kernel
theorem dX7_seat_139 : decode cX7_seat 139 = .ok (.iconst 1, 1) := by decide +kernel
theorem dX7_seat_140 : decode cX7_seat 140 = .ok (.if_icmp .ne 13, 3) := by decide +kernel
theorem dX7_seat_143 : decode cX7_seat 143 = .ok (.aload_n 0, 1) := by decide +kernel
theorem dX7_seat_144 : decode cX7_seat 144 = .ok (.iload 4, 2) := by decide +kernel
theorem dX7_seat_146 : decode cX7_seat 146 = .ok (.invokevirtual 189, 3) := by decide +kernel
theorem dX7_seat_149 : decode cX7_seat 149 = .ok (.i2l, 1) := by decide +kernel
theorem dX7_seat_150 : decode cX7_seat 150 = .ok (.goto 9, 3) := by decide +kernel
theorem dX7_seat_153 : decode cX7_seat 153 = .ok (.aload_n 0, 1) := by decide +kernel
theorem dX7_seat_154 : decode cX7_seat 154 = .ok (.iload 4, 2) := by decide +kernel
theorem dX7_seat_156 : decode cX7_seat 156 = .ok (.invokevirtual 180, 3) := by decide +kernel
theorem dX7_seat_159 : decode cX7_seat 159 = .ok (.lreturn, 1) := by decide +kernel
theorem dX7_part_0 : decode cX7_part 0 = .ok (.aload_n 0, 1) := by decide +kernel
theorem dX7_part_1 : decode cX7_part 1 = .ok (.lload_n 1, 1) := by decide +kernel
theorem dX7_part_2 : decode cX7_part 2 = .ok (.lconst 0, 1) := by decide +kernel
theorem dX7_part_3 : decode cX7_part 3 = .ok (.lcmp, 1) := by decide +kernel
theorem dX7_part_4 : decode cX7_part 4 = .ok (.ifCond .lt 12, 3) := by decide +kernel
theorem dX7_part_7 : decode cX7_part 7 = .ok (.iload_n 3, 1) := by decide +kernel
theorem dX7_part_8 : decode cX7_part 8 = .ok (.ifCond .lt 8, 3) := by decide +kernel
theorem dX7_part_11 : decode cX7_part 11 = .ok (.iload_n 3, 1) := by decide +kernel
theorem dX7_part_12 : decode cX7_part 12 = .ok (.iconst 2, 1) := by decide +kernel
theorem dX7_part_13 : decode cX7_part 13 = .ok (.if_icmp .le 7, 3) := by decide +kernel
theorem dX7_part_16 : decode cX7_part 16 = .ok (.iconst 1, 1) := by decide +kernel
theorem dX7_part_17 : decode cX7_part 17 = .ok (.goto 4, 3) := by decide +kernel
theorem dX7_part_20 : decode cX7_part 20 = .ok (.iconst 0, 1) := by decide +kernel
theorem dX7_part_21 : decode cX7_part 21 = .ok (.putfield 114, 3) := by decide +kernel
theorem dX7_part_24 : decode cX7_part 24 = .ok (.aload_n 0, 1) := by decide +kernel
theorem dX7_part_25 : decode cX7_part 25 = .ok (.getfield 114, 3) := by decide +kernel
theorem dX7_part_28 : decode cX7_part 28 = .ok (.ifCond .eq 5, 3) := by decide +kernel
theorem dX7_part_31 : decode cX7_part 31 = .ok (.lconst 0, 1) := by decide +kernel
theorem dX7_part_32 : decode cX7_part 32 = .ok (.lreturn, 1) := by decide +kernel
theorem dX7_part_33 : decode cX7_part 33 = .ok (.lload_n 1, 1) := by decide +kernel
theorem dX7_part_34 : decode cX7_part 34 = .ok (.ldc2_w 211, 3) := by decide +kernel
theorem dX7_part_37 : decode cX7_part 37 = .ok (.lrem, 1) := by decide +kernel
theorem dX7_part_38 : decode cX7_part 38 = .ok (.lstore 4, 2) := by decide +kernel
theorem dX7_part_40 : decode cX7_part 40 = .ok (.iload_n 3, 1) := by decide +kernel
theorem dX7_part_41 : decode cX7_part 41 = .ok (.ifCond .ne 11, 3) := by decide +kernel
theorem dX7_part_44 : decode cX7_part 44 = .ok (.lload_n 1, 1) := by decide +kernel
theorem dX7_part_45 : decode cX7_part 45 = .ok (.ldc2_w 211, 3) := by decide +kernel
theorem dX7_part_48 : decode cX7_part 48 = .ok (.ldiv, 1) := by decide +kernel
theorem dX7_part_49 : decode cX7_part 49 = .ok (.goto 23, 3) := by decide +kernel
end
section
theorem dX7_part_52 : decode cX7_part 52 = .ok (.iload_n 3, 1) := by decide +kernel
theorem dX7_part_53 : decode cX7_part 53 = .ok (.iconst 1, 1) := by decide +kernel
theorem dX7_part_54 : decode cX7_part 54 = .ok (.if_icmp .ne 12, 3) := by decide +kernel
theorem dX7_part_57 : decode cX7_part 57 = .ok (.lload 4, 2) := by decide +kernel
theorem dX7_part_59 : decode cX7_part 59 = .ok (.ldc2_w 213, 3) := by decide +kernel
theorem dX7_part_62 : decode cX7_part 62 = .ok (.ldiv, 1) := by decide +kernel
theorem dX7_part_63 : decode cX7_part 63 = .ok (.goto 9, 3) := by decide +kernel
theorem dX7_part_66 : decode cX7_part 66 = .ok (.lload 4, 2) := by decide +kernel
theorem dX7_part_68 : decode cX7_part 68 = .ok (.ldc2_w 213, 3) := by decide +kernel
theorem dX7_part_71 : decode cX7_part 71 = .ok (.lrem, 1) := by decide +kernel
theorem dX7_part_72 : decode cX7_part 72 = .ok (.lreturn, 1) := by decide +kernel
theorem dJ6_bitCount_0f7a4_0 : decode cJ6_bitCount_0f7a4 0 = .ok (.iload_n 0, 1) := by decide +kernel
theorem dJ6_bitCount_0f7a4_1 : decode cJ6_bitCount_0f7a4 1 = .ok (.iload_n 0, 1) := by decide +kernel
theorem dJ6_bitCount_0f7a4_2 : decode cJ6_bitCount_0f7a4 2 = .ok (.iconst 1, 1) := by decide +kernel
theorem dJ6_bitCount_0f7a4_3 : decode cJ6_bitCount_0f7a4 3 = .ok (.iushr, 1) := by decide +kernel
theorem dJ6_bitCount_0f7a4_4 : decode cJ6_bitCount_0f7a4 4 = .ok (.ldc_w 265, 3) := by decide +kernel
theorem dJ6_bitCount_0f7a4_7 : decode cJ6_bitCount_0f7a4 7 = .ok (.iand, 1) := by decide +kernel
theorem dJ6_bitCount_0f7a4_8 : decode cJ6_bitCount_0f7a4 8 = .ok (.isub, 1) := by decide +kernel
theorem dJ6_bitCount_0f7a4_9 : decode cJ6_bitCount_0f7a4 9 = .ok (.istore_n 0, 1) := by decide +kernel
theorem dJ6_bitCount_0f7a4_10 : decode cJ6_bitCount_0f7a4 10 = .ok (.iload_n 0, 1) := by decide +kernel
theorem dJ6_bitCount_0f7a4_11 : decode cJ6_bitCount_0f7a4 11 = .ok (.ldc_w 266, 3) := by decide +kernel
theorem dJ6_bitCount_0f7a4_14 : decode cJ6_bitCount_0f7a4 14 = .ok (.iand, 1) := by decide +kernel
theorem dJ6_bitCount_0f7a4_15 : decode cJ6_bitCount_0f7a4 15 = .ok (.iload_n 0, 1) := by decide +kernel
theorem dJ6_bitCount_0f7a4_16 : decode cJ6_bitCount_0f7a4 16 = .ok (.iconst 2, 1) := by decide +kernel
theorem dJ6_bitCount_0f7a4_17 : decode cJ6_bitCount_0f7a4 17 = .ok (.iushr, 1) := by decide +kernel
theorem dJ6_bitCount_0f7a4_18 : decode cJ6_bitCount_0f7a4 18 = .ok (.ldc_w 266, 3) := by decide +kernel
theorem dJ6_bitCount_0f7a4_21 : decode cJ6_bitCount_0f7a4 21 = .ok (.iand, 1) := by decide +kernel
theorem dJ6_bitCount_0f7a4_22 : decode cJ6_bitCount_0f7a4 22 = .ok (.iadd, 1) := by decide +kernel
theorem dJ6_bitCount_0f7a4_23 : decode cJ6_bitCount_0f7a4 23 = .ok (.istore_n 0, 1) := by decide +kernel
theorem dJ6_bitCount_0f7a4_24 : decode cJ6_bitCount_0f7a4 24 = .ok (.iload_n 0, 1) := by decide +kernel
theorem dJ6_bitCount_0f7a4_25 : decode cJ6_bitCount_0f7a4 25 = .ok (.iload_n 0, 1) := by decide +kernel
theorem dJ6_bitCount_0f7a4_26 : decode cJ6_bitCount_0f7a4 26 = .ok (.iconst 4, 1) := by decide +kernel
theorem dJ6_bitCount_0f7a4_27 : decode cJ6_bitCount_0f7a4 27 = .ok (.iushr, 1) := by decide +kernel
theorem dJ6_bitCount_0f7a4_28 : decode cJ6_bitCount_0f7a4 28 = .ok (.iadd, 1) := by decide +kernel
theorem dJ6_bitCount_0f7a4_29 : decode cJ6_bitCount_0f7a4 29 = .ok (.ldc_w 267, 3) := by decide +kernel
theorem dJ6_bitCount_0f7a4_32 : decode cJ6_bitCount_0f7a4 32 = .ok (.iand, 1) := by decide +kernel
theorem dJ6_bitCount_0f7a4_33 : decode cJ6_bitCount_0f7a4 33 = .ok (.istore_n 0, 1) := by decide +kernel
theorem dJ6_bitCount_0f7a4_34 : decode cJ6_bitCount_0f7a4 34 = .ok (.iload_n 0, 1) := by decide +kernel
theorem dJ6_bitCount_0f7a4_35 : decode cJ6_bitCount_0f7a4 35 = .ok (.iload_n 0, 1) := by decide +kernel
theorem dJ6_bitCount_0f7a4_36 : decode cJ6_bitCount_0f7a4 36 = .ok (.bipush 8, 2) := by decide +kernel
theorem dJ6_bitCount_0f7a4_38 : decode cJ6_bitCount_0f7a4 38 = .ok (.iushr, 1) := by decide +kernel
theorem dJ6_bitCount_0f7a4_39 : decode cJ6_bitCount_0f7a4 39 = .ok (.iadd, 1) := by decide +kernel
theorem dJ6_bitCount_0f7a4_40 : decode cJ6_bitCount_0f7a4 40 = .ok (.istore_n 0, 1) := by decide +kernel
theorem dJ6_bitCount_0f7a4_41 : decode cJ6_bitCount_0f7a4 41 = .ok (.iload_n 0, 1) := by decide +kernel
theorem dJ6_bitCount_0f7a4_42 : decode cJ6_bitCount_0f7a4 42 = .ok (.iload_n 0, 1) := by decide +kernel
theorem dJ6_bitCount_0f7a4_43 : decode cJ6_bitCount_0f7a4 43 = .ok (.bipush 16, 2) := by decide +kernel
theorem dJ6_bitCount_0f7a4_45 : decode cJ6_bitCount_0f7a4 45 = .ok (.iushr, 1) := by decide +kernel
theorem dJ6_bitCount_0f7a4_46 : decode cJ6_bitCount_0f7a4 46 = .ok (.iadd, 1) := by decide +kernel
theorem dJ6_bitCount_0f7a4_47 : decode cJ6_bitCount_0f7a4 47 = .ok (.istore_n 0, 1) := by decide +kernel
theorem dJ6_bitCount_0f7a4_48 : decode cJ6_bitCount_0f7a4 48 = .ok (.iload_n 0, 1) := by decide +kernel
theorem dJ6_bitCount_0f7a4_49 : decode cJ6_bitCount_0f7a4 49 = .ok (.bipush 63, 2) := by decide +kernel
theorem dJ6_bitCount_0f7a4_51 : decode cJ6_bitCount_0f7a4 51 = .ok (.iand, 1) := by decide +kernel
theorem dJ6_bitCount_0f7a4_52 : decode cJ6_bitCount_0f7a4 52 = .ok (.ireturn, 1) := by decide +kernel
theorem dJ9_max_7cf53_0 : decode cJ9_max_7cf53 0 = .ok (.iload_n 0, 1) := by decide +kernel
theorem dJ9_max_7cf53_1 : decode cJ9_max_7cf53 1 = .ok (.iload_n 1, 1) := by decide +kernel
theorem dJ9_max_7cf53_2 : decode cJ9_max_7cf53 2 = .ok (.if_icmp .lt 7, 3) := by decide +kernel
theorem dJ9_max_7cf53_5 : decode cJ9_max_7cf53 5 = .ok (.iload_n 0, 1) := by decide +kernel
theorem dJ9_max_7cf53_6 : decode cJ9_max_7cf53 6 = .ok (.goto 4, 3) := by decide +kernel
theorem dJ9_max_7cf53_9 : decode cJ9_max_7cf53 9 = .ok (.iload_n 1, 1) := by decide +kernel
theorem dJ9_max_7cf53_10 : decode cJ9_max_7cf53 10 = .ok (.ireturn, 1) := by decide +kernel
theorem dJ9_max_f86c9_0 : decode cJ9_max_f86c9 0 = .ok (.lload_n 0, 1) := by decide +kernel
theorem dJ9_max_f86c9_1 : decode cJ9_max_f86c9 1 = .ok (.lload_n 2, 1) := by decide +kernel
theorem dJ9_max_f86c9_2 : decode cJ9_max_f86c9 2 = .ok (.lcmp, 1) := by decide +kernel
theorem dJ9_max_f86c9_3 : decode cJ9_max_f86c9 3 = .ok (.ifCond .lt 7, 3) := by decide +kernel
theorem dJ9_max_f86c9_6 : decode cJ9_max_f86c9 6 = .ok (.lload_n 0, 1) := by decide +kernel
theorem dJ9_max_f86c9_7 : decode cJ9_max_f86c9 7 = .ok (.goto 4, 3) := by decide +kernel
theorem dJ9_max_f86c9_10 : decode cJ9_max_f86c9 10 = .ok (.lload_n 2, 1) := by decide +kernel
theorem dJ9_max_f86c9_11 : decode cJ9_max_f86c9 11 = .ok (.lreturn, 1) := by decide +kernel
theorem dL_clock_0 : decode cL_clock 0 = .ok (.aload_n 0, 1) := by decide +kernel
theorem dL_clock_1 : decode cL_clock 1 = .ok (.iload_n 1, 1) := by decide +kernel
theorem dL_clock_2 : decode cL_clock 2 = .ok (.lload_n 2, 1) := by decide +kernel
theorem dL_clock_3 : decode cL_clock 3 = .ok (.invokevirtual 7, 3) := by decide +kernel
theorem dL_clock_6 : decode cL_clock 6 = .ok (.goto 11, 3) := by decide +kernel
theorem dL_clock_9 : decode cL_clock 9 = .ok (.astore 4, 2) := by decide +kernel
theorem dL_clock_11 : decode cL_clock 11 = .ok (.iconst 1, 1) := by decide +kernel
theorem dL_clock_12 : decode cL_clock 12 = .ok (.ireturn, 1) := by decide +kernel
theorem dL_clock_13 : decode cL_clock 13 = .ok (.astore 4, 2) := by decide +kernel
theorem dL_clock_15 : decode cL_clock 15 = .ok (.iconst 2, 1) := by decide +kernel
theorem dL_clock_16 : decode cL_clock 16 = .ok (.ireturn, 1) := by decide +kernel
theorem dL_clock_17 : decode cL_clock 17 = .ok (.iconst 0, 1) := by decide +kernel
theorem dL_clock_18 : decode cL_clock 18 = .ok (.ireturn, 1) := by decide +kernel
theorem dL_start_0 : decode cL_start 0 = .ok (.aload_n 0, 1) := by decide +kernel
theorem dL_start_1 : decode cL_start 1 = .ok (.iload_n 1, 1) := by decide +kernel
theorem dL_start_2 : decode cL_start 2 = .ok (.invokevirtual 17, 3) := by decide +kernel
theorem dL_start_5 : decode cL_start 5 = .ok (.goto 9, 3) := by decide +kernel
theorem dL_start_8 : decode cL_start 8 = .ok (.astore_n 2, 1) := by decide +kernel
theorem dL_start_9 : decode cL_start 9 = .ok (.iconst 1, 1) := by decide +kernel
theorem dL_start_10 : decode cL_start 10 = .ok (.ireturn, 1) := by decide +kernel
theorem dL_start_11 : decode cL_start 11 = .ok (.astore_n 2, 1) := by decide +kernel
theorem dL_start_12 : decode cL_start 12 = .ok (.iconst 2, 1) := by decide +kernel
theorem dL_start_13 : decode cL_start 13 = .ok (.ireturn, 1) := by decide +kernel
theorem dL_start_14 : decode cL_start 14 = .ok (.iconst 0, 1) := by decide +kernel
theorem dL_start_15 : decode cL_start 15 = .ok (.ireturn, 1) := by decide +kernel
theorem dL_prolong_0 : decode cL_prolong 0 = .ok (.aload_n 0, 1) := by decide +kernel
theorem dL_prolong_1 : decode cL_prolong 1 = .ok (.iload_n 1, 1) := by decide +kernel
theorem dL_prolong_2 : decode cL_prolong 2 = .ok (.invokevirtual 23, 3) := by decide +kernel
theorem dL_prolong_5 : decode cL_prolong 5 = .ok (.goto 9, 3) := by decide +kernel
theorem dL_prolong_8 : decode cL_prolong 8 = .ok (.astore_n 2, 1) := by decide +kernel
theorem dL_prolong_9 : decode cL_prolong 9 = .ok (.iconst 1, 1) := by decide +kernel
theorem dL_prolong_10 : decode cL_prolong 10 = .ok (.ireturn, 1) := by decide +kernel
theorem dL_prolong_11 : decode cL_prolong 11 = .ok (.astore_n 2, 1) := by decide +kernel
theorem dL_prolong_12 : decode cL_prolong 12 = .ok (.iconst 2, 1) := by decide +kernel
theorem dL_prolong_13 : decode cL_prolong 13 = .ok (.ireturn, 1) := by decide +kernel
theorem dL_prolong_14 : decode cL_prolong 14 = .ok (.iconst 0, 1) := by decide +kernel
theorem dL_prolong_15 : decode cL_prolong 15 = .ok (.ireturn, 1) := by decide +kernel
theorem dL_crash_0 : decode cL_crash 0 = .ok (.aload_n 0, 1) := by decide +kernel
theorem dL_crash_1 : decode cL_crash 1 = .ok (.iload_n 1, 1) := by decide +kernel
theorem dL_crash_2 : decode cL_crash 2 = .ok (.invokevirtual 26, 3) := by decide +kernel
theorem dL_crash_5 : decode cL_crash 5 = .ok (.goto 6, 3) := by decide +kernel
theorem dL_crash_8 : decode cL_crash 8 = .ok (.astore_n 2, 1) := by decide +kernel
theorem dL_crash_9 : decode cL_crash 9 = .ok (.iconst 1, 1) := by decide +kernel
theorem dL_crash_10 : decode cL_crash 10 = .ok (.ireturn, 1) := by decide +kernel
theorem dL_crash_11 : decode cL_crash 11 = .ok (.iconst 0, 1) := by decide +kernel
theorem dL_crash_12 : decode cL_crash 12 = .ok (.ireturn, 1) := by decide +kernel
theorem dL_node_0 : decode cL_node 0 = .ok (.aload_n 0, 1) := by decide +kernel
theorem dL_node_1 : decode cL_node 1 = .ok (.iload_n 1, 1) := by decide +kernel
theorem dL_node_2 : decode cL_node 2 = .ok (.iload_n 2, 1) := by decide +kernel
theorem dL_node_3 : decode cL_node 3 = .ok (.invokevirtual 29, 3) := by decide +kernel
theorem dL_node_6 : decode cL_node 6 = .ok (.goto 6, 3) := by decide +kernel
theorem dL_node_9 : decode cL_node 9 = .ok (.astore_n 3, 1) := by decide +kernel
theorem dL_node_10 : decode cL_node 10 = .ok (.iconst 1, 1) := by decide +kernel
theorem dL_node_11 : decode cL_node 11 = .ok (.ireturn, 1) := by decide +kernel
theorem dL_node_12 : decode cL_node 12 = .ok (.iconst 0, 1) := by decide +kernel
theorem dL_node_13 : decode cL_node 13 = .ok (.ireturn, 1) := by decide +kernel
theorem dL_deliver_0 : decode cL_deliver 0 = .ok (.aload_n 2, 1) := by decide +kernel
theorem dL_deliver_1 : decode cL_deliver 1 = .ok (.iconst 0, 1) := by decide +kernel
theorem dL_deliver_2 : decode cL_deliver 2 = .ok (.aload_n 0, 1) := by decide +kernel
theorem dL_deliver_3 : decode cL_deliver 3 = .ok (.iload_n 1, 1) := by decide +kernel
theorem dL_deliver_4 : decode cL_deliver 4 = .ok (.invokevirtual 33, 3) := by decide +kernel
theorem dL_deliver_7 : decode cL_deliver 7 = .ok (.i2l, 1) := by decide +kernel
theorem dL_deliver_8 : decode cL_deliver 8 = .ok (.lastore, 1) := by decide +kernel
theorem dL_deliver_9 : decode cL_deliver 9 = .ok (.goto 9, 3) := by decide +kernel
theorem dL_deliver_12 : decode cL_deliver 12 = .ok (.astore_n 3, 1) := by decide +kernel
theorem dL_deliver_13 : decode cL_deliver 13 = .ok (.iconst 1, 1) := by decide +kernel
theorem dL_deliver_14 : decode cL_deliver 14 = .ok (.ireturn, 1) := by decide +kernel
theorem dL_deliver_15 : decode cL_deliver 15 = .ok (.astore_n 3, 1) := by decide +kernel
theorem dL_deliver_16 : decode cL_deliver 16 = .ok (.iconst 2, 1) := by decide +kernel
theorem dL_deliver_17 : decode cL_deliver 17 = .ok (.ireturn, 1) := by decide +kernel
theorem dL_deliver_18 : decode cL_deliver 18 = .ok (.iconst 0, 1) := by decide +kernel
theorem dL_deliver_19 : decode cL_deliver 19 = .ok (.ireturn, 1) := by decide +kernel
theorem dL_lose_0 : decode cL_lose 0 = .ok (.aload_n 0, 1) := by decide +kernel
theorem dL_lose_1 : decode cL_lose 1 = .ok (.iload_n 1, 1) := by decide +kernel
theorem dL_lose_2 : decode cL_lose 2 = .ok (.invokevirtual 37, 3) := by decide +kernel
theorem dL_lose_5 : decode cL_lose 5 = .ok (.goto 6, 3) := by decide +kernel
theorem dL_lose_8 : decode cL_lose 8 = .ok (.astore_n 2, 1) := by decide +kernel
theorem dL_lose_9 : decode cL_lose 9 = .ok (.iconst 1, 1) := by decide +kernel
theorem dL_lose_10 : decode cL_lose 10 = .ok (.ireturn, 1) := by decide +kernel
theorem dL_lose_11 : decode cL_lose 11 = .ok (.iconst 0, 1) := by decide +kernel
theorem dL_lose_12 : decode cL_lose 12 = .ok (.ireturn, 1) := by decide +kernel
theorem dL_twin_0 : decode cL_twin 0 = .ok (.aload_n 0, 1) := by decide +kernel
theorem dL_twin_1 : decode cL_twin 1 = .ok (.iload_n 1, 1) := by decide +kernel
theorem dL_twin_2 : decode cL_twin 2 = .ok (.invokevirtual 40, 3) := by decide +kernel
theorem dL_twin_5 : decode cL_twin 5 = .ok (.goto 9, 3) := by decide +kernel
theorem dL_twin_8 : decode cL_twin 8 = .ok (.astore_n 2, 1) := by decide +kernel
theorem dL_twin_9 : decode cL_twin 9 = .ok (.iconst 1, 1) := by decide +kernel
theorem dL_twin_10 : decode cL_twin 10 = .ok (.ireturn, 1) := by decide +kernel
theorem dL_twin_11 : decode cL_twin 11 = .ok (.astore_n 2, 1) := by decide +kernel
theorem dL_twin_12 : decode cL_twin 12 = .ok (.iconst 2, 1) := by decide +kernel
theorem dL_twin_13 : decode cL_twin 13 = .ok (.ireturn, 1) := by decide +kernel
theorem dL_twin_14 : decode cL_twin 14 = .ok (.iconst 0, 1) := by decide +kernel
theorem dL_twin_15 : decode cL_twin 15 = .ok (.ireturn, 1) := by decide +kernel
theorem dL_letter_0 : decode cL_letter 0 = .ok (.aload_n 3, 1) := by decide +kernel
theorem dL_letter_1 : decode cL_letter 1 = .ok (.iconst 0, 1) := by decide +kernel
theorem dL_letter_2 : decode cL_letter 2 = .ok (.aload_n 0, 1) := by decide +kernel
theorem dL_letter_3 : decode cL_letter 3 = .ok (.iload_n 1, 1) := by decide +kernel
theorem dL_letter_4 : decode cL_letter 4 = .ok (.iload_n 2, 1) := by decide +kernel
theorem dL_letter_5 : decode cL_letter 5 = .ok (.invokevirtual 43, 3) := by decide +kernel
theorem dL_letter_8 : decode cL_letter 8 = .ok (.i2l, 1) := by decide +kernel
theorem dL_letter_9 : decode cL_letter 9 = .ok (.lastore, 1) := by decide +kernel
theorem dL_letter_10 : decode cL_letter 10 = .ok (.goto 7, 3) := by decide +kernel
theorem dL_letter_13 : decode cL_letter 13 = .ok (.astore 4, 2) := by decide +kernel
theorem dL_letter_15 : decode cL_letter 15 = .ok (.iconst 1, 1) := by decide +kernel
theorem dL_letter_16 : decode cL_letter 16 = .ok (.ireturn, 1) := by decide +kernel
theorem dL_letter_17 : decode cL_letter 17 = .ok (.iconst 0, 1) := by decide +kernel
theorem dL_letter_18 : decode cL_letter 18 = .ok (.ireturn, 1) := by decide +kernel
theorem dL_issuer_0 : decode cL_issuer 0 = .ok (.aload_n 3, 1) := by decide +kernel
theorem dL_issuer_1 : decode cL_issuer 1 = .ok (.iconst 0, 1) := by decide +kernel
theorem dL_issuer_2 : decode cL_issuer 2 = .ok (.aload_n 0, 1) := by decide +kernel
theorem dL_issuer_3 : decode cL_issuer 3 = .ok (.iload_n 1, 1) := by decide +kernel
theorem dL_issuer_4 : decode cL_issuer 4 = .ok (.iload_n 2, 1) := by decide +kernel
theorem dL_issuer_5 : decode cL_issuer 5 = .ok (.invokevirtual 47, 3) := by decide +kernel
theorem dL_issuer_8 : decode cL_issuer 8 = .ok (.lastore, 1) := by decide +kernel
theorem dL_issuer_9 : decode cL_issuer 9 = .ok (.goto 7, 3) := by decide +kernel
theorem dL_issuer_12 : decode cL_issuer 12 = .ok (.astore 4, 2) := by decide +kernel
theorem dL_issuer_14 : decode cL_issuer 14 = .ok (.iconst 1, 1) := by decide +kernel
theorem dL_issuer_15 : decode cL_issuer 15 = .ok (.ireturn, 1) := by decide +kernel
theorem dL_issuer_16 : decode cL_issuer 16 = .ok (.iconst 0, 1) := by decide +kernel
theorem dL_issuer_17 : decode cL_issuer 17 = .ok (.ireturn, 1) := by decide +kernel
theorem dL_next_0 : decode cL_next 0 = .ok (.aload_n 2, 1) := by decide +kernel
theorem dL_next_1 : decode cL_next 1 = .ok (.iconst 0, 1) := by decide +kernel
theorem dL_next_2 : decode cL_next 2 = .ok (.aload_n 0, 1) := by decide +kernel
theorem dL_next_3 : decode cL_next 3 = .ok (.iload_n 1, 1) := by decide +kernel
theorem dL_next_4 : decode cL_next 4 = .ok (.invokevirtual 51, 3) := by decide +kernel
theorem dL_next_7 : decode cL_next 7 = .ok (.lastore, 1) := by decide +kernel
theorem dL_next_8 : decode cL_next 8 = .ok (.goto 6, 3) := by decide +kernel
theorem dL_next_11 : decode cL_next 11 = .ok (.astore_n 3, 1) := by decide +kernel
theorem dL_next_12 : decode cL_next 12 = .ok (.iconst 1, 1) := by decide +kernel
theorem dL_next_13 : decode cL_next 13 = .ok (.ireturn, 1) := by decide +kernel
theorem dL_next_14 : decode cL_next 14 = .ok (.iconst 0, 1) := by decide +kernel
theorem dL_next_15 : decode cL_next 15 = .ok (.ireturn, 1) := by decide +kernel
theorem dL_batch_0 : decode cL_batch 0 = .ok (.aload_n 3, 1) := by decide +kernel
theorem dL_batch_1 : decode cL_batch 1 = .ok (.iconst 0, 1) := by decide +kernel
theorem dL_batch_2 : decode cL_batch 2 = .ok (.aload_n 0, 1) := by decide +kernel
theorem dL_batch_3 : decode cL_batch 3 = .ok (.iload_n 1, 1) := by decide +kernel
theorem dL_batch_4 : decode cL_batch 4 = .ok (.iload_n 2, 1) := by decide +kernel
theorem dL_batch_5 : decode cL_batch 5 = .ok (.invokevirtual 55, 3) := by decide +kernel
theorem dL_batch_8 : decode cL_batch 8 = .ok (.lastore, 1) := by decide +kernel
theorem dL_batch_9 : decode cL_batch 9 = .ok (.goto 11, 3) := by decide +kernel
theorem dL_batch_12 : decode cL_batch 12 = .ok (.astore 4, 2) := by decide +kernel
theorem dL_batch_14 : decode cL_batch 14 = .ok (.iconst 1, 1) := by decide +kernel
theorem dL_batch_15 : decode cL_batch 15 = .ok (.ireturn, 1) := by decide +kernel
theorem dL_batch_16 : decode cL_batch 16 = .ok (.astore 4, 2) := by decide +kernel
theorem dL_batch_18 : decode cL_batch 18 = .ok (.iconst 2, 1) := by decide +kernel
theorem dL_batch_19 : decode cL_batch 19 = .ok (.ireturn, 1) := by decide +kernel
theorem dL_batch_20 : decode cL_batch 20 = .ok (.iconst 0, 1) := by decide +kernel
theorem dL_batch_21 : decode cL_batch 21 = .ok (.ireturn, 1) := by decide +kernel
theorem dL_seat_0 : decode cL_seat 0 = .ok (.aload_n 3, 1) := by decide +kernel
theorem dL_seat_1 : decode cL_seat 1 = .ok (.iconst 0, 1) := by decide +kernel
theorem dL_seat_2 : decode cL_seat 2 = .ok (.aload_n 0, 1) := by decide +kernel
theorem dL_seat_3 : decode cL_seat 3 = .ok (.iload_n 1, 1) := by decide +kernel
theorem dL_seat_4 : decode cL_seat 4 = .ok (.iload_n 2, 1) := by decide +kernel
theorem dL_seat_5 : decode cL_seat 5 = .ok (.invokevirtual 58, 3) := by decide +kernel
theorem dL_seat_8 : decode cL_seat 8 = .ok (.lastore, 1) := by decide +kernel
theorem dL_seat_9 : decode cL_seat 9 = .ok (.goto 7, 3) := by decide +kernel
theorem dL_seat_12 : decode cL_seat 12 = .ok (.astore 4, 2) := by decide +kernel
theorem dL_seat_14 : decode cL_seat 14 = .ok (.iconst 1, 1) := by decide +kernel
theorem dL_seat_15 : decode cL_seat 15 = .ok (.ireturn, 1) := by decide +kernel
theorem dL_seat_16 : decode cL_seat 16 = .ok (.iconst 0, 1) := by decide +kernel
theorem dL_seat_17 : decode cL_seat 17 = .ok (.ireturn, 1) := by decide +kernel
theorem dL_part_0 : decode cL_part 0 = .ok (.aload 4, 2) := by decide +kernel
theorem dL_part_2 : decode cL_part 2 = .ok (.iconst 0, 1) := by decide +kernel
theorem dL_part_3 : decode cL_part 3 = .ok (.aload_n 0, 1) := by decide +kernel
theorem dL_part_4 : decode cL_part 4 = .ok (.lload_n 1, 1) := by decide +kernel
theorem dL_part_5 : decode cL_part 5 = .ok (.iload_n 3, 1) := by decide +kernel
theorem dL_part_6 : decode cL_part 6 = .ok (.invokevirtual 61, 3) := by decide +kernel
theorem dL_part_9 : decode cL_part 9 = .ok (.lastore, 1) := by decide +kernel
theorem dL_part_10 : decode cL_part 10 = .ok (.goto 7, 3) := by decide +kernel
theorem dL_part_13 : decode cL_part 13 = .ok (.astore 5, 2) := by decide +kernel
theorem dL_part_15 : decode cL_part 15 = .ok (.iconst 1, 1) := by decide +kernel
theorem dL_part_16 : decode cL_part 16 = .ok (.ireturn, 1) := by decide +kernel
theorem dL_part_17 : decode cL_part 17 = .ok (.iconst 0, 1) := by decide +kernel
theorem dL_part_18 : decode cL_part 18 = .ok (.ireturn, 1) := by decide +kernel
theorem dL_law_0 : decode cL_law 0 = .ok (.new 8, 3) := by decide +kernel
theorem dL_law_3 : decode cL_law 3 = .ok (.dup, 1) := by decide +kernel
theorem dL_law_4 : decode cL_law 4 = .ok (.invokespecial 65, 3) := by decide +kernel
theorem dL_law_7 : decode cL_law 7 = .ok (.astore_n 1, 1) := by decide +kernel
theorem dL_law_8 : decode cL_law 8 = .ok (.new 66, 3) := by decide +kernel
theorem dL_law_11 : decode cL_law 11 = .ok (.dup, 1) := by decide +kernel
theorem dL_law_12 : decode cL_law 12 = .ok (.invokespecial 68, 3) := by decide +kernel
theorem dL_law_15 : decode cL_law 15 = .ok (.astore_n 2, 1) := by decide +kernel
theorem dL_law_16 : decode cL_law 16 = .ok (.iconst 1, 1) := by decide +kernel
theorem dL_law_17 : decode cL_law 17 = .ok (.newarray .long, 2) := by decide +kernel
theorem dL_law_19 : decode cL_law 19 = .ok (.astore_n 3, 1) := by decide +kernel
theorem dL_law_20 : decode cL_law 20 = .ok (.iconst 0, 1) := by decide +kernel
theorem dL_law_21 : decode cL_law 21 = .ok (.istore 4, 2) := by decide +kernel
theorem dL_law_23 : decode cL_law 23 = .ok (.iload 4, 2) := by decide +kernel
theorem dL_law_25 : decode cL_law 25 = .ok (.aload_n 0, 1) := by decide +kernel
theorem dL_law_26 : decode cL_law 26 = .ok (.arraylength, 1) := by decide +kernel
theorem dL_law_27 : decode cL_law 27 = .ok (.iconst 4, 1) := by decide +kernel
theorem dL_law_28 : decode cL_law 28 = .ok (.isub, 1) := by decide +kernel
theorem dL_law_29 : decode cL_law 29 = .ok (.if_icmp .gt 905, 3) := by decide +kernel
theorem dL_law_32 : decode cL_law 32 = .ok (.aload_n 0, 1) := by decide +kernel
theorem dL_law_33 : decode cL_law 33 = .ok (.iload 4, 2) := by decide +kernel
theorem dL_law_35 : decode cL_law 35 = .ok (.iaload, 1) := by decide +kernel
theorem dL_law_36 : decode cL_law 36 = .ok (.bipush 15, 2) := by decide +kernel
theorem dL_law_38 : decode cL_law 38 = .ok (.iand, 1) := by decide +kernel
theorem dL_law_39 : decode cL_law 39 = .ok (.tableswitch 889 0 14 #[73, 153, 189, 225, 261, 325, 338, 394, 430, 466, 534, 601, 656, 723, 790], 73) := by decide +kernel
theorem dL_law_112 : decode cL_law 112 = .ok (.aload_n 1, 1) := by decide +kernel
theorem dL_law_113 : decode cL_law 113 = .ok (.aload_n 0, 1) := by decide +kernel
theorem dL_law_114 : decode cL_law 114 = .ok (.iload 4, 2) := by decide +kernel
theorem dL_law_116 : decode cL_law 116 = .ok (.iconst 1, 1) := by decide +kernel
theorem dL_law_117 : decode cL_law 117 = .ok (.iadd, 1) := by decide +kernel
theorem dL_law_118 : decode cL_law 118 = .ok (.iaload, 1) := by decide +kernel
theorem dL_law_119 : decode cL_law 119 = .ok (.aload_n 0, 1) := by decide +kernel
theorem dL_law_120 : decode cL_law 120 = .ok (.iload 4, 2) := by decide +kernel
theorem dL_law_122 : decode cL_law 122 = .ok (.iconst 2, 1) := by decide +kernel
theorem dL_law_123 : decode cL_law 123 = .ok (.iadd, 1) := by decide +kernel
theorem dL_law_124 : decode cL_law 124 = .ok (.iaload, 1) := by decide +kernel
theorem dL_law_125 : decode cL_law 125 = .ok (.i2l, 1) := by decide +kernel
theorem dL_law_126 : decode cL_law 126 = .ok (.bipush 32, 2) := by decide +kernel
theorem dL_law_128 : decode cL_law 128 = .ok (.lshl, 1) := by decide +kernel
theorem dL_law_129 : decode cL_law 129 = .ok (.aload_n 0, 1) := by decide +kernel
theorem dL_law_130 : decode cL_law 130 = .ok (.iload 4, 2) := by decide +kernel
theorem dL_law_132 : decode cL_law 132 = .ok (.iconst 3, 1) := by decide +kernel
theorem dL_law_133 : decode cL_law 133 = .ok (.iadd, 1) := by decide +kernel
theorem dL_law_134 : decode cL_law 134 = .ok (.iaload, 1) := by decide +kernel
theorem dL_law_135 : decode cL_law 135 = .ok (.i2l, 1) := by decide +kernel
theorem dL_law_136 : decode cL_law 136 = .ok (.ldc2_w 69, 3) := by decide +kernel
theorem dL_law_139 : decode cL_law 139 = .ok (.land, 1) := by decide +kernel
theorem dL_law_140 : decode cL_law 140 = .ok (.lor, 1) := by decide +kernel
theorem dL_law_141 : decode cL_law 141 = .ok (.invokestatic 71, 3) := by decide +kernel
theorem dL_law_144 : decode cL_law 144 = .ok (.istore 5, 2) := by decide +kernel
theorem dL_law_146 : decode cL_law 146 = .ok (.aload_n 2, 1) := by decide +kernel
theorem dL_law_147 : decode cL_law 147 = .ok (.aload_n 0, 1) := by decide +kernel
theorem dL_law_148 : decode cL_law 148 = .ok (.iload 4, 2) := by decide +kernel
theorem dL_law_150 : decode cL_law 150 = .ok (.iconst 1, 1) := by decide +kernel
theorem dL_law_151 : decode cL_law 151 = .ok (.iadd, 1) := by decide +kernel
theorem dL_law_152 : decode cL_law 152 = .ok (.iaload, 1) := by decide +kernel
theorem dL_law_153 : decode cL_law 153 = .ok (.aload_n 0, 1) := by decide +kernel
theorem dL_law_154 : decode cL_law 154 = .ok (.iload 4, 2) := by decide +kernel
theorem dL_law_156 : decode cL_law 156 = .ok (.iconst 2, 1) := by decide +kernel
theorem dL_law_157 : decode cL_law 157 = .ok (.iadd, 1) := by decide +kernel
theorem dL_law_158 : decode cL_law 158 = .ok (.iaload, 1) := by decide +kernel
theorem dL_law_159 : decode cL_law 159 = .ok (.i2l, 1) := by decide +kernel
theorem dL_law_160 : decode cL_law 160 = .ok (.bipush 32, 2) := by decide +kernel
theorem dL_law_162 : decode cL_law 162 = .ok (.lshl, 1) := by decide +kernel
theorem dL_law_163 : decode cL_law 163 = .ok (.aload_n 0, 1) := by decide +kernel
theorem dL_law_164 : decode cL_law 164 = .ok (.iload 4, 2) := by decide +kernel
theorem dL_law_166 : decode cL_law 166 = .ok (.iconst 3, 1) := by decide +kernel
theorem dL_law_167 : decode cL_law 167 = .ok (.iadd, 1) := by decide +kernel
theorem dL_law_168 : decode cL_law 168 = .ok (.iaload, 1) := by decide +kernel
theorem dL_law_169 : decode cL_law 169 = .ok (.i2l, 1) := by decide +kernel
theorem dL_law_170 : decode cL_law 170 = .ok (.ldc2_w 69, 3) := by decide +kernel
theorem dL_law_173 : decode cL_law 173 = .ok (.land, 1) := by decide +kernel
theorem dL_law_174 : decode cL_law 174 = .ok (.lor, 1) := by decide +kernel
theorem dL_law_175 : decode cL_law 175 = .ok (.invokevirtual 76, 3) := by decide +kernel
theorem dL_law_178 : decode cL_law 178 = .ok (.aload_n 2, 1) := by decide +kernel
theorem dL_law_179 : decode cL_law 179 = .ok (.invokevirtual 77, 3) := by decide +kernel
theorem dL_law_182 : decode cL_law 182 = .ok (.iload 5, 2) := by decide +kernel
theorem dL_law_184 : decode cL_law 184 = .ok (.if_icmp .eq 5, 3) := by decide +kernel
theorem dL_law_187 : decode cL_law 187 = .ok (.iconst 0, 1) := by decide +kernel
theorem dL_law_188 : decode cL_law 188 = .ok (.ireturn, 1) := by decide +kernel
theorem dL_law_189 : decode cL_law 189 = .ok (.goto 739, 3) := by decide +kernel
theorem dL_law_192 : decode cL_law 192 = .ok (.aload_n 1, 1) := by decide +kernel
theorem dL_law_193 : decode cL_law 193 = .ok (.aload_n 0, 1) := by decide +kernel
theorem dL_law_194 : decode cL_law 194 = .ok (.iload 4, 2) := by decide +kernel
theorem dL_law_196 : decode cL_law 196 = .ok (.iconst 1, 1) := by decide +kernel
theorem dL_law_197 : decode cL_law 197 = .ok (.iadd, 1) := by decide +kernel
theorem dL_law_198 : decode cL_law 198 = .ok (.iaload, 1) := by decide +kernel
theorem dL_law_199 : decode cL_law 199 = .ok (.invokestatic 81, 3) := by decide +kernel
theorem dL_law_202 : decode cL_law 202 = .ok (.istore 5, 2) := by decide +kernel
theorem dL_law_204 : decode cL_law 204 = .ok (.aload_n 2, 1) := by decide +kernel
theorem dL_law_205 : decode cL_law 205 = .ok (.aload_n 0, 1) := by decide +kernel
theorem dL_law_206 : decode cL_law 206 = .ok (.iload 4, 2) := by decide +kernel
theorem dL_law_208 : decode cL_law 208 = .ok (.iconst 1, 1) := by decide +kernel
theorem dL_law_209 : decode cL_law 209 = .ok (.iadd, 1) := by decide +kernel
theorem dL_law_210 : decode cL_law 210 = .ok (.iaload, 1) := by decide +kernel
theorem dL_law_211 : decode cL_law 211 = .ok (.invokevirtual 84, 3) := by decide +kernel
theorem dL_law_214 : decode cL_law 214 = .ok (.aload_n 2, 1) := by decide +kernel
theorem dL_law_215 : decode cL_law 215 = .ok (.invokevirtual 77, 3) := by decide +kernel
theorem dL_law_218 : decode cL_law 218 = .ok (.iload 5, 2) := by decide +kernel
theorem dL_law_220 : decode cL_law 220 = .ok (.if_icmp .eq 5, 3) := by decide +kernel
theorem dL_law_223 : decode cL_law 223 = .ok (.iconst 0, 1) := by decide +kernel
theorem dL_law_224 : decode cL_law 224 = .ok (.ireturn, 1) := by decide +kernel
theorem dL_law_225 : decode cL_law 225 = .ok (.goto 703, 3) := by decide +kernel
theorem dL_law_228 : decode cL_law 228 = .ok (.aload_n 1, 1) := by decide +kernel
theorem dL_law_229 : decode cL_law 229 = .ok (.aload_n 0, 1) := by decide +kernel
theorem dL_law_230 : decode cL_law 230 = .ok (.iload 4, 2) := by decide +kernel
theorem dL_law_232 : decode cL_law 232 = .ok (.iconst 1, 1) := by decide +kernel
theorem dL_law_233 : decode cL_law 233 = .ok (.iadd, 1) := by decide +kernel
theorem dL_law_234 : decode cL_law 234 = .ok (.iaload, 1) := by decide +kernel
theorem dL_law_235 : decode cL_law 235 = .ok (.invokestatic 85, 3) := by decide +kernel
theorem dL_law_238 : decode cL_law 238 = .ok (.istore 5, 2) := by decide +kernel
theorem dL_law_240 : decode cL_law 240 = .ok (.aload_n 2, 1) := by decide +kernel
theorem dL_law_241 : decode cL_law 241 = .ok (.aload_n 0, 1) := by decide +kernel
theorem dL_law_242 : decode cL_law 242 = .ok (.iload 4, 2) := by decide +kernel
theorem dL_law_244 : decode cL_law 244 = .ok (.iconst 1, 1) := by decide +kernel
theorem dL_law_245 : decode cL_law 245 = .ok (.iadd, 1) := by decide +kernel
theorem dL_law_246 : decode cL_law 246 = .ok (.iaload, 1) := by decide +kernel
theorem dL_law_247 : decode cL_law 247 = .ok (.invokevirtual 87, 3) := by decide +kernel
theorem dL_law_250 : decode cL_law 250 = .ok (.aload_n 2, 1) := by decide +kernel
theorem dL_law_251 : decode cL_law 251 = .ok (.invokevirtual 77, 3) := by decide +kernel
theorem dL_law_254 : decode cL_law 254 = .ok (.iload 5, 2) := by decide +kernel
theorem dL_law_256 : decode cL_law 256 = .ok (.if_icmp .eq 5, 3) := by decide +kernel
theorem dL_law_259 : decode cL_law 259 = .ok (.iconst 0, 1) := by decide +kernel
theorem dL_law_260 : decode cL_law 260 = .ok (.ireturn, 1) := by decide +kernel
theorem dL_law_261 : decode cL_law 261 = .ok (.goto 667, 3) := by decide +kernel
theorem dL_law_264 : decode cL_law 264 = .ok (.aload_n 1, 1) := by decide +kernel
theorem dL_law_265 : decode cL_law 265 = .ok (.aload_n 0, 1) := by decide +kernel
theorem dL_law_266 : decode cL_law 266 = .ok (.iload 4, 2) := by decide +kernel
theorem dL_law_268 : decode cL_law 268 = .ok (.iconst 1, 1) := by decide +kernel
theorem dL_law_269 : decode cL_law 269 = .ok (.iadd, 1) := by decide +kernel
theorem dL_law_270 : decode cL_law 270 = .ok (.iaload, 1) := by decide +kernel
theorem dL_law_271 : decode cL_law 271 = .ok (.invokestatic 88, 3) := by decide +kernel
theorem dL_law_274 : decode cL_law 274 = .ok (.istore 5, 2) := by decide +kernel
theorem dL_law_276 : decode cL_law 276 = .ok (.aload_n 2, 1) := by decide +kernel
theorem dL_law_277 : decode cL_law 277 = .ok (.aload_n 0, 1) := by decide +kernel
theorem dL_law_278 : decode cL_law 278 = .ok (.iload 4, 2) := by decide +kernel
theorem dL_law_280 : decode cL_law 280 = .ok (.iconst 1, 1) := by decide +kernel
theorem dL_law_281 : decode cL_law 281 = .ok (.iadd, 1) := by decide +kernel
theorem dL_law_282 : decode cL_law 282 = .ok (.iaload, 1) := by decide +kernel
theorem dL_law_283 : decode cL_law 283 = .ok (.invokevirtual 90, 3) := by decide +kernel
theorem dL_law_286 : decode cL_law 286 = .ok (.aload_n 2, 1) := by decide +kernel
theorem dL_law_287 : decode cL_law 287 = .ok (.invokevirtual 77, 3) := by decide +kernel
theorem dL_law_290 : decode cL_law 290 = .ok (.iload 5, 2) := by decide +kernel
theorem dL_law_292 : decode cL_law 292 = .ok (.if_icmp .eq 5, 3) := by decide +kernel
theorem dL_law_295 : decode cL_law 295 = .ok (.iconst 0, 1) := by decide +kernel
theorem dL_law_296 : decode cL_law 296 = .ok (.ireturn, 1) := by decide +kernel
theorem dL_law_297 : decode cL_law 297 = .ok (.goto 631, 3) := by decide +kernel
theorem dL_law_300 : decode cL_law 300 = .ok (.aload_n 1, 1) := by decide +kernel
theorem dL_law_301 : decode cL_law 301 = .ok (.aload_n 0, 1) := by decide +kernel
theorem dL_law_302 : decode cL_law 302 = .ok (.iload 4, 2) := by decide +kernel
theorem dL_law_304 : decode cL_law 304 = .ok (.iconst 1, 1) := by decide +kernel
theorem dL_law_305 : decode cL_law 305 = .ok (.iadd, 1) := by decide +kernel
theorem dL_law_306 : decode cL_law 306 = .ok (.iaload, 1) := by decide +kernel
theorem dL_law_307 : decode cL_law 307 = .ok (.aload_n 0, 1) := by decide +kernel
theorem dL_law_308 : decode cL_law 308 = .ok (.iload 4, 2) := by decide +kernel
theorem dL_law_310 : decode cL_law 310 = .ok (.iconst 2, 1) := by decide +kernel
theorem dL_law_311 : decode cL_law 311 = .ok (.iadd, 1) := by decide +kernel
theorem dL_law_312 : decode cL_law 312 = .ok (.iaload, 1) := by decide +kernel
end
section
theorem dL_law_313 : decode cL_law 313 = .ok (.ifCond .eq 7, 3) := by decide +kernel
theorem dL_law_316 : decode cL_law 316 = .ok (.iconst 1, 1) := by decide +kernel
theorem dL_law_317 : decode cL_law 317 = .ok (.goto 4, 3) := by decide +kernel
theorem dL_law_320 : decode cL_law 320 = .ok (.iconst 0, 1) := by decide +kernel
theorem dL_law_321 : decode cL_law 321 = .ok (.invokestatic 91, 3) := by decide +kernel
theorem dL_law_324 : decode cL_law 324 = .ok (.istore 5, 2) := by decide +kernel
theorem dL_law_326 : decode cL_law 326 = .ok (.aload_n 2, 1) := by decide +kernel
theorem dL_law_327 : decode cL_law 327 = .ok (.aload_n 0, 1) := by decide +kernel
theorem dL_law_328 : decode cL_law 328 = .ok (.iload 4, 2) := by decide +kernel
theorem dL_law_330 : decode cL_law 330 = .ok (.iconst 1, 1) := by decide +kernel
theorem dL_law_331 : decode cL_law 331 = .ok (.iadd, 1) := by decide +kernel
theorem dL_law_332 : decode cL_law 332 = .ok (.iaload, 1) := by decide +kernel
theorem dL_law_333 : decode cL_law 333 = .ok (.aload_n 0, 1) := by decide +kernel
theorem dL_law_334 : decode cL_law 334 = .ok (.iload 4, 2) := by decide +kernel
theorem dL_law_336 : decode cL_law 336 = .ok (.iconst 2, 1) := by decide +kernel
theorem dL_law_337 : decode cL_law 337 = .ok (.iadd, 1) := by decide +kernel
theorem dL_law_338 : decode cL_law 338 = .ok (.iaload, 1) := by decide +kernel
theorem dL_law_339 : decode cL_law 339 = .ok (.ifCond .eq 7, 3) := by decide +kernel
theorem dL_law_342 : decode cL_law 342 = .ok (.iconst 1, 1) := by decide +kernel
theorem dL_law_343 : decode cL_law 343 = .ok (.goto 4, 3) := by decide +kernel
theorem dL_law_346 : decode cL_law 346 = .ok (.iconst 0, 1) := by decide +kernel
theorem dL_law_347 : decode cL_law 347 = .ok (.invokevirtual 94, 3) := by decide +kernel
theorem dL_law_350 : decode cL_law 350 = .ok (.aload_n 2, 1) := by decide +kernel
theorem dL_law_351 : decode cL_law 351 = .ok (.invokevirtual 77, 3) := by decide +kernel
theorem dL_law_354 : decode cL_law 354 = .ok (.iload 5, 2) := by decide +kernel
theorem dL_law_356 : decode cL_law 356 = .ok (.if_icmp .eq 5, 3) := by decide +kernel
theorem dL_law_359 : decode cL_law 359 = .ok (.iconst 0, 1) := by decide +kernel
theorem dL_law_360 : decode cL_law 360 = .ok (.ireturn, 1) := by decide +kernel
theorem dL_law_361 : decode cL_law 361 = .ok (.goto 567, 3) := by decide +kernel
theorem dL_law_364 : decode cL_law 364 = .ok (.aload_n 1, 1) := by decide +kernel
theorem dL_law_365 : decode cL_law 365 = .ok (.invokevirtual 95, 3) := by decide +kernel
theorem dL_law_368 : decode cL_law 368 = .ok (.aload_n 2, 1) := by decide +kernel
theorem dL_law_369 : decode cL_law 369 = .ok (.invokevirtual 98, 3) := by decide +kernel
theorem dL_law_372 : decode cL_law 372 = .ok (.if_icmp .eq 556, 3) := by decide +kernel
theorem dL_law_375 : decode cL_law 375 = .ok (.iconst 0, 1) := by decide +kernel
theorem dL_law_376 : decode cL_law 376 = .ok (.ireturn, 1) := by decide +kernel
theorem dL_law_377 : decode cL_law 377 = .ok (.aload_n 1, 1) := by decide +kernel
theorem dL_law_378 : decode cL_law 378 = .ok (.aload_n 0, 1) := by decide +kernel
theorem dL_law_379 : decode cL_law 379 = .ok (.iload 4, 2) := by decide +kernel
theorem dL_law_381 : decode cL_law 381 = .ok (.iconst 1, 1) := by decide +kernel
theorem dL_law_382 : decode cL_law 382 = .ok (.iadd, 1) := by decide +kernel
theorem dL_law_383 : decode cL_law 383 = .ok (.iaload, 1) := by decide +kernel
theorem dL_law_384 : decode cL_law 384 = .ok (.aload_n 3, 1) := by decide +kernel
theorem dL_law_385 : decode cL_law 385 = .ok (.invokestatic 99, 3) := by decide +kernel
theorem dL_law_388 : decode cL_law 388 = .ok (.istore 5, 2) := by decide +kernel
theorem dL_law_390 : decode cL_law 390 = .ok (.aload_n 2, 1) := by decide +kernel
theorem dL_law_391 : decode cL_law 391 = .ok (.aload_n 0, 1) := by decide +kernel
theorem dL_law_392 : decode cL_law 392 = .ok (.iload 4, 2) := by decide +kernel
theorem dL_law_394 : decode cL_law 394 = .ok (.iconst 1, 1) := by decide +kernel
theorem dL_law_395 : decode cL_law 395 = .ok (.iadd, 1) := by decide +kernel
theorem dL_law_396 : decode cL_law 396 = .ok (.iaload, 1) := by decide +kernel
theorem dL_law_397 : decode cL_law 397 = .ok (.invokevirtual 102, 3) := by decide +kernel
theorem dL_law_400 : decode cL_law 400 = .ok (.istore 6, 2) := by decide +kernel
theorem dL_law_402 : decode cL_law 402 = .ok (.aload_n 2, 1) := by decide +kernel
theorem dL_law_403 : decode cL_law 403 = .ok (.invokevirtual 77, 3) := by decide +kernel
theorem dL_law_406 : decode cL_law 406 = .ok (.iload 5, 2) := by decide +kernel
theorem dL_law_408 : decode cL_law 408 = .ok (.if_icmp .eq 5, 3) := by decide +kernel
theorem dL_law_411 : decode cL_law 411 = .ok (.iconst 0, 1) := by decide +kernel
theorem dL_law_412 : decode cL_law 412 = .ok (.ireturn, 1) := by decide +kernel
theorem dL_law_413 : decode cL_law 413 = .ok (.iload 5, 2) := by decide +kernel
theorem dL_law_415 : decode cL_law 415 = .ok (.ifCond .ne 15, 3) := by decide +kernel
theorem dL_law_418 : decode cL_law 418 = .ok (.aload_n 3, 1) := by decide +kernel
theorem dL_law_419 : decode cL_law 419 = .ok (.iconst 0, 1) := by decide +kernel
theorem dL_law_420 : decode cL_law 420 = .ok (.laload, 1) := by decide +kernel
theorem dL_law_421 : decode cL_law 421 = .ok (.iload 6, 2) := by decide +kernel
theorem dL_law_423 : decode cL_law 423 = .ok (.i2l, 1) := by decide +kernel
theorem dL_law_424 : decode cL_law 424 = .ok (.lcmp, 1) := by decide +kernel
theorem dL_law_425 : decode cL_law 425 = .ok (.ifCond .eq 5, 3) := by decide +kernel
theorem dL_law_428 : decode cL_law 428 = .ok (.iconst 0, 1) := by decide +kernel
theorem dL_law_429 : decode cL_law 429 = .ok (.ireturn, 1) := by decide +kernel
theorem dL_law_430 : decode cL_law 430 = .ok (.goto 498, 3) := by decide +kernel
theorem dL_law_433 : decode cL_law 433 = .ok (.aload_n 1, 1) := by decide +kernel
theorem dL_law_434 : decode cL_law 434 = .ok (.aload_n 0, 1) := by decide +kernel
theorem dL_law_435 : decode cL_law 435 = .ok (.iload 4, 2) := by decide +kernel
theorem dL_law_437 : decode cL_law 437 = .ok (.iconst 1, 1) := by decide +kernel
theorem dL_law_438 : decode cL_law 438 = .ok (.iadd, 1) := by decide +kernel
theorem dL_law_439 : decode cL_law 439 = .ok (.iaload, 1) := by decide +kernel
theorem dL_law_440 : decode cL_law 440 = .ok (.invokestatic 103, 3) := by decide +kernel
theorem dL_law_443 : decode cL_law 443 = .ok (.istore 5, 2) := by decide +kernel
theorem dL_law_445 : decode cL_law 445 = .ok (.aload_n 2, 1) := by decide +kernel
theorem dL_law_446 : decode cL_law 446 = .ok (.aload_n 0, 1) := by decide +kernel
theorem dL_law_447 : decode cL_law 447 = .ok (.iload 4, 2) := by decide +kernel
theorem dL_law_449 : decode cL_law 449 = .ok (.iconst 1, 1) := by decide +kernel
theorem dL_law_450 : decode cL_law 450 = .ok (.iadd, 1) := by decide +kernel
theorem dL_law_451 : decode cL_law 451 = .ok (.iaload, 1) := by decide +kernel
theorem dL_law_452 : decode cL_law 452 = .ok (.invokevirtual 105, 3) := by decide +kernel
theorem dL_law_455 : decode cL_law 455 = .ok (.aload_n 2, 1) := by decide +kernel
theorem dL_law_456 : decode cL_law 456 = .ok (.invokevirtual 77, 3) := by decide +kernel
theorem dL_law_459 : decode cL_law 459 = .ok (.iload 5, 2) := by decide +kernel
theorem dL_law_461 : decode cL_law 461 = .ok (.if_icmp .eq 5, 3) := by decide +kernel
theorem dL_law_464 : decode cL_law 464 = .ok (.iconst 0, 1) := by decide +kernel
theorem dL_law_465 : decode cL_law 465 = .ok (.ireturn, 1) := by decide +kernel
theorem dL_law_466 : decode cL_law 466 = .ok (.goto 462, 3) := by decide +kernel
theorem dL_law_469 : decode cL_law 469 = .ok (.aload_n 1, 1) := by decide +kernel
theorem dL_law_470 : decode cL_law 470 = .ok (.aload_n 0, 1) := by decide +kernel
theorem dL_law_471 : decode cL_law 471 = .ok (.iload 4, 2) := by decide +kernel
theorem dL_law_473 : decode cL_law 473 = .ok (.iconst 1, 1) := by decide +kernel
theorem dL_law_474 : decode cL_law 474 = .ok (.iadd, 1) := by decide +kernel
theorem dL_law_475 : decode cL_law 475 = .ok (.iaload, 1) := by decide +kernel
theorem dL_law_476 : decode cL_law 476 = .ok (.invokestatic 106, 3) := by decide +kernel
theorem dL_law_479 : decode cL_law 479 = .ok (.istore 5, 2) := by decide +kernel
theorem dL_law_481 : decode cL_law 481 = .ok (.aload_n 2, 1) := by decide +kernel
theorem dL_law_482 : decode cL_law 482 = .ok (.aload_n 0, 1) := by decide +kernel
theorem dL_law_483 : decode cL_law 483 = .ok (.iload 4, 2) := by decide +kernel
theorem dL_law_485 : decode cL_law 485 = .ok (.iconst 1, 1) := by decide +kernel
theorem dL_law_486 : decode cL_law 486 = .ok (.iadd, 1) := by decide +kernel
theorem dL_law_487 : decode cL_law 487 = .ok (.iaload, 1) := by decide +kernel
theorem dL_law_488 : decode cL_law 488 = .ok (.invokevirtual 108, 3) := by decide +kernel
theorem dL_law_491 : decode cL_law 491 = .ok (.aload_n 2, 1) := by decide +kernel
theorem dL_law_492 : decode cL_law 492 = .ok (.invokevirtual 77, 3) := by decide +kernel
theorem dL_law_495 : decode cL_law 495 = .ok (.iload 5, 2) := by decide +kernel
theorem dL_law_497 : decode cL_law 497 = .ok (.if_icmp .eq 5, 3) := by decide +kernel
theorem dL_law_500 : decode cL_law 500 = .ok (.iconst 0, 1) := by decide +kernel
theorem dL_law_501 : decode cL_law 501 = .ok (.ireturn, 1) := by decide +kernel
theorem dL_law_502 : decode cL_law 502 = .ok (.goto 426, 3) := by decide +kernel
theorem dL_law_505 : decode cL_law 505 = .ok (.aload_n 1, 1) := by decide +kernel
theorem dL_law_506 : decode cL_law 506 = .ok (.aload_n 0, 1) := by decide +kernel
theorem dL_law_507 : decode cL_law 507 = .ok (.iload 4, 2) := by decide +kernel
theorem dL_law_509 : decode cL_law 509 = .ok (.iconst 1, 1) := by decide +kernel
theorem dL_law_510 : decode cL_law 510 = .ok (.iadd, 1) := by decide +kernel
theorem dL_law_511 : decode cL_law 511 = .ok (.iaload, 1) := by decide +kernel
theorem dL_law_512 : decode cL_law 512 = .ok (.aload_n 0, 1) := by decide +kernel
theorem dL_law_513 : decode cL_law 513 = .ok (.iload 4, 2) := by decide +kernel
theorem dL_law_515 : decode cL_law 515 = .ok (.iconst 2, 1) := by decide +kernel
theorem dL_law_516 : decode cL_law 516 = .ok (.iadd, 1) := by decide +kernel
theorem dL_law_517 : decode cL_law 517 = .ok (.iaload, 1) := by decide +kernel
theorem dL_law_518 : decode cL_law 518 = .ok (.aload_n 3, 1) := by decide +kernel
theorem dL_law_519 : decode cL_law 519 = .ok (.invokestatic 109, 3) := by decide +kernel
theorem dL_law_522 : decode cL_law 522 = .ok (.istore 5, 2) := by decide +kernel
theorem dL_law_524 : decode cL_law 524 = .ok (.aload_n 2, 1) := by decide +kernel
theorem dL_law_525 : decode cL_law 525 = .ok (.aload_n 0, 1) := by decide +kernel
theorem dL_law_526 : decode cL_law 526 = .ok (.iload 4, 2) := by decide +kernel
theorem dL_law_528 : decode cL_law 528 = .ok (.iconst 1, 1) := by decide +kernel
theorem dL_law_529 : decode cL_law 529 = .ok (.iadd, 1) := by decide +kernel
theorem dL_law_530 : decode cL_law 530 = .ok (.iaload, 1) := by decide +kernel
theorem dL_law_531 : decode cL_law 531 = .ok (.aload_n 0, 1) := by decide +kernel
theorem dL_law_532 : decode cL_law 532 = .ok (.iload 4, 2) := by decide +kernel
theorem dL_law_534 : decode cL_law 534 = .ok (.iconst 2, 1) := by decide +kernel
theorem dL_law_535 : decode cL_law 535 = .ok (.iadd, 1) := by decide +kernel
theorem dL_law_536 : decode cL_law 536 = .ok (.iaload, 1) := by decide +kernel
theorem dL_law_537 : decode cL_law 537 = .ok (.invokevirtual 112, 3) := by decide +kernel
theorem dL_law_540 : decode cL_law 540 = .ok (.istore 6, 2) := by decide +kernel
theorem dL_law_542 : decode cL_law 542 = .ok (.aload_n 2, 1) := by decide +kernel
theorem dL_law_543 : decode cL_law 543 = .ok (.invokevirtual 77, 3) := by decide +kernel
theorem dL_law_546 : decode cL_law 546 = .ok (.iload 5, 2) := by decide +kernel
theorem dL_law_548 : decode cL_law 548 = .ok (.if_icmp .eq 5, 3) := by decide +kernel
theorem dL_law_551 : decode cL_law 551 = .ok (.iconst 0, 1) := by decide +kernel
theorem dL_law_552 : decode cL_law 552 = .ok (.ireturn, 1) := by decide +kernel
theorem dL_law_553 : decode cL_law 553 = .ok (.iload 5, 2) := by decide +kernel
theorem dL_law_555 : decode cL_law 555 = .ok (.ifCond .ne 15, 3) := by decide +kernel
theorem dL_law_558 : decode cL_law 558 = .ok (.aload_n 3, 1) := by decide +kernel
theorem dL_law_559 : decode cL_law 559 = .ok (.iconst 0, 1) := by decide +kernel
theorem dL_law_560 : decode cL_law 560 = .ok (.laload, 1) := by decide +kernel
theorem dL_law_561 : decode cL_law 561 = .ok (.iload 6, 2) := by decide +kernel
theorem dL_law_563 : decode cL_law 563 = .ok (.i2l, 1) := by decide +kernel
theorem dL_law_564 : decode cL_law 564 = .ok (.lcmp, 1) := by decide +kernel
theorem dL_law_565 : decode cL_law 565 = .ok (.ifCond .eq 5, 3) := by decide +kernel
theorem dL_law_568 : decode cL_law 568 = .ok (.iconst 0, 1) := by decide +kernel
theorem dL_law_569 : decode cL_law 569 = .ok (.ireturn, 1) := by decide +kernel
theorem dL_law_570 : decode cL_law 570 = .ok (.goto 358, 3) := by decide +kernel
theorem dL_law_573 : decode cL_law 573 = .ok (.aload_n 1, 1) := by decide +kernel
theorem dL_law_574 : decode cL_law 574 = .ok (.aload_n 0, 1) := by decide +kernel
theorem dL_law_575 : decode cL_law 575 = .ok (.iload 4, 2) := by decide +kernel
theorem dL_law_577 : decode cL_law 577 = .ok (.iconst 1, 1) := by decide +kernel
theorem dL_law_578 : decode cL_law 578 = .ok (.iadd, 1) := by decide +kernel
theorem dL_law_579 : decode cL_law 579 = .ok (.iaload, 1) := by decide +kernel
theorem dL_law_580 : decode cL_law 580 = .ok (.aload_n 0, 1) := by decide +kernel
theorem dL_law_581 : decode cL_law 581 = .ok (.iload 4, 2) := by decide +kernel
theorem dL_law_583 : decode cL_law 583 = .ok (.iconst 2, 1) := by decide +kernel
theorem dL_law_584 : decode cL_law 584 = .ok (.iadd, 1) := by decide +kernel
theorem dL_law_585 : decode cL_law 585 = .ok (.iaload, 1) := by decide +kernel
theorem dL_law_586 : decode cL_law 586 = .ok (.aload_n 3, 1) := by decide +kernel
theorem dL_law_587 : decode cL_law 587 = .ok (.invokestatic 113, 3) := by decide +kernel
theorem dL_law_590 : decode cL_law 590 = .ok (.istore 5, 2) := by decide +kernel
theorem dL_law_592 : decode cL_law 592 = .ok (.aload_n 2, 1) := by decide +kernel
theorem dL_law_593 : decode cL_law 593 = .ok (.aload_n 0, 1) := by decide +kernel
theorem dL_law_594 : decode cL_law 594 = .ok (.iload 4, 2) := by decide +kernel
theorem dL_law_596 : decode cL_law 596 = .ok (.iconst 1, 1) := by decide +kernel
theorem dL_law_597 : decode cL_law 597 = .ok (.iadd, 1) := by decide +kernel
theorem dL_law_598 : decode cL_law 598 = .ok (.iaload, 1) := by decide +kernel
theorem dL_law_599 : decode cL_law 599 = .ok (.aload_n 0, 1) := by decide +kernel
theorem dL_law_600 : decode cL_law 600 = .ok (.iload 4, 2) := by decide +kernel
theorem dL_law_602 : decode cL_law 602 = .ok (.iconst 2, 1) := by decide +kernel
theorem dL_law_603 : decode cL_law 603 = .ok (.iadd, 1) := by decide +kernel
theorem dL_law_604 : decode cL_law 604 = .ok (.iaload, 1) := by decide +kernel
theorem dL_law_605 : decode cL_law 605 = .ok (.invokevirtual 115, 3) := by decide +kernel
theorem dL_law_608 : decode cL_law 608 = .ok (.lstore 6, 2) := by decide +kernel
theorem dL_law_610 : decode cL_law 610 = .ok (.aload_n 2, 1) := by decide +kernel
theorem dL_law_611 : decode cL_law 611 = .ok (.invokevirtual 77, 3) := by decide +kernel
theorem dL_law_614 : decode cL_law 614 = .ok (.iload 5, 2) := by decide +kernel
theorem dL_law_616 : decode cL_law 616 = .ok (.if_icmp .eq 5, 3) := by decide +kernel
theorem dL_law_619 : decode cL_law 619 = .ok (.iconst 0, 1) := by decide +kernel
theorem dL_law_620 : decode cL_law 620 = .ok (.ireturn, 1) := by decide +kernel
theorem dL_law_621 : decode cL_law 621 = .ok (.iload 5, 2) := by decide +kernel
theorem dL_law_623 : decode cL_law 623 = .ok (.ifCond .ne 14, 3) := by decide +kernel
theorem dL_law_626 : decode cL_law 626 = .ok (.aload_n 3, 1) := by decide +kernel
theorem dL_law_627 : decode cL_law 627 = .ok (.iconst 0, 1) := by decide +kernel
theorem dL_law_628 : decode cL_law 628 = .ok (.laload, 1) := by decide +kernel
theorem dL_law_629 : decode cL_law 629 = .ok (.lload 6, 2) := by decide +kernel
theorem dL_law_631 : decode cL_law 631 = .ok (.lcmp, 1) := by decide +kernel
theorem dL_law_632 : decode cL_law 632 = .ok (.ifCond .eq 5, 3) := by decide +kernel
theorem dL_law_635 : decode cL_law 635 = .ok (.iconst 0, 1) := by decide +kernel
theorem dL_law_636 : decode cL_law 636 = .ok (.ireturn, 1) := by decide +kernel
theorem dL_law_637 : decode cL_law 637 = .ok (.goto 291, 3) := by decide +kernel
theorem dL_law_640 : decode cL_law 640 = .ok (.aload_n 1, 1) := by decide +kernel
theorem dL_law_641 : decode cL_law 641 = .ok (.aload_n 0, 1) := by decide +kernel
theorem dL_law_642 : decode cL_law 642 = .ok (.iload 4, 2) := by decide +kernel
theorem dL_law_644 : decode cL_law 644 = .ok (.iconst 1, 1) := by decide +kernel
theorem dL_law_645 : decode cL_law 645 = .ok (.iadd, 1) := by decide +kernel
theorem dL_law_646 : decode cL_law 646 = .ok (.iaload, 1) := by decide +kernel
theorem dL_law_647 : decode cL_law 647 = .ok (.aload_n 3, 1) := by decide +kernel
theorem dL_law_648 : decode cL_law 648 = .ok (.invokestatic 116, 3) := by decide +kernel
theorem dL_law_651 : decode cL_law 651 = .ok (.istore 5, 2) := by decide +kernel
theorem dL_law_653 : decode cL_law 653 = .ok (.aload_n 2, 1) := by decide +kernel
theorem dL_law_654 : decode cL_law 654 = .ok (.aload_n 0, 1) := by decide +kernel
theorem dL_law_655 : decode cL_law 655 = .ok (.iload 4, 2) := by decide +kernel
theorem dL_law_657 : decode cL_law 657 = .ok (.iconst 1, 1) := by decide +kernel
theorem dL_law_658 : decode cL_law 658 = .ok (.iadd, 1) := by decide +kernel
theorem dL_law_659 : decode cL_law 659 = .ok (.iaload, 1) := by decide +kernel
theorem dL_law_660 : decode cL_law 660 = .ok (.invokevirtual 118, 3) := by decide +kernel
theorem dL_law_663 : decode cL_law 663 = .ok (.lstore 6, 2) := by decide +kernel
theorem dL_law_665 : decode cL_law 665 = .ok (.aload_n 2, 1) := by decide +kernel
theorem dL_law_666 : decode cL_law 666 = .ok (.invokevirtual 77, 3) := by decide +kernel
theorem dL_law_669 : decode cL_law 669 = .ok (.iload 5, 2) := by decide +kernel
theorem dL_law_671 : decode cL_law 671 = .ok (.if_icmp .eq 5, 3) := by decide +kernel
theorem dL_law_674 : decode cL_law 674 = .ok (.iconst 0, 1) := by decide +kernel
theorem dL_law_675 : decode cL_law 675 = .ok (.ireturn, 1) := by decide +kernel
theorem dL_law_676 : decode cL_law 676 = .ok (.iload 5, 2) := by decide +kernel
theorem dL_law_678 : decode cL_law 678 = .ok (.ifCond .ne 14, 3) := by decide +kernel
theorem dL_law_681 : decode cL_law 681 = .ok (.aload_n 3, 1) := by decide +kernel
theorem dL_law_682 : decode cL_law 682 = .ok (.iconst 0, 1) := by decide +kernel
theorem dL_law_683 : decode cL_law 683 = .ok (.laload, 1) := by decide +kernel
theorem dL_law_684 : decode cL_law 684 = .ok (.lload 6, 2) := by decide +kernel
theorem dL_law_686 : decode cL_law 686 = .ok (.lcmp, 1) := by decide +kernel
theorem dL_law_687 : decode cL_law 687 = .ok (.ifCond .eq 5, 3) := by decide +kernel
theorem dL_law_690 : decode cL_law 690 = .ok (.iconst 0, 1) := by decide +kernel
theorem dL_law_691 : decode cL_law 691 = .ok (.ireturn, 1) := by decide +kernel
theorem dL_law_692 : decode cL_law 692 = .ok (.goto 236, 3) := by decide +kernel
theorem dL_law_695 : decode cL_law 695 = .ok (.aload_n 1, 1) := by decide +kernel
theorem dL_law_696 : decode cL_law 696 = .ok (.aload_n 0, 1) := by decide +kernel
theorem dL_law_697 : decode cL_law 697 = .ok (.iload 4, 2) := by decide +kernel
theorem dL_law_699 : decode cL_law 699 = .ok (.iconst 1, 1) := by decide +kernel
theorem dL_law_700 : decode cL_law 700 = .ok (.iadd, 1) := by decide +kernel
theorem dL_law_701 : decode cL_law 701 = .ok (.iaload, 1) := by decide +kernel
theorem dL_law_702 : decode cL_law 702 = .ok (.aload_n 0, 1) := by decide +kernel
theorem dL_law_703 : decode cL_law 703 = .ok (.iload 4, 2) := by decide +kernel
theorem dL_law_705 : decode cL_law 705 = .ok (.iconst 2, 1) := by decide +kernel
theorem dL_law_706 : decode cL_law 706 = .ok (.iadd, 1) := by decide +kernel
theorem dL_law_707 : decode cL_law 707 = .ok (.iaload, 1) := by decide +kernel
theorem dL_law_708 : decode cL_law 708 = .ok (.aload_n 3, 1) := by decide +kernel
theorem dL_law_709 : decode cL_law 709 = .ok (.invokestatic 119, 3) := by decide +kernel
theorem dL_law_712 : decode cL_law 712 = .ok (.istore 5, 2) := by decide +kernel
theorem dL_law_714 : decode cL_law 714 = .ok (.aload_n 2, 1) := by decide +kernel
theorem dL_law_715 : decode cL_law 715 = .ok (.aload_n 0, 1) := by decide +kernel
theorem dL_law_716 : decode cL_law 716 = .ok (.iload 4, 2) := by decide +kernel
theorem dL_law_718 : decode cL_law 718 = .ok (.iconst 1, 1) := by decide +kernel
theorem dL_law_719 : decode cL_law 719 = .ok (.iadd, 1) := by decide +kernel
theorem dL_law_720 : decode cL_law 720 = .ok (.iaload, 1) := by decide +kernel
theorem dL_law_721 : decode cL_law 721 = .ok (.aload_n 0, 1) := by decide +kernel
theorem dL_law_722 : decode cL_law 722 = .ok (.iload 4, 2) := by decide +kernel
theorem dL_law_724 : decode cL_law 724 = .ok (.iconst 2, 1) := by decide +kernel
theorem dL_law_725 : decode cL_law 725 = .ok (.iadd, 1) := by decide +kernel
theorem dL_law_726 : decode cL_law 726 = .ok (.iaload, 1) := by decide +kernel
theorem dL_law_727 : decode cL_law 727 = .ok (.invokevirtual 121, 3) := by decide +kernel
theorem dL_law_730 : decode cL_law 730 = .ok (.lstore 6, 2) := by decide +kernel
theorem dL_law_732 : decode cL_law 732 = .ok (.aload_n 2, 1) := by decide +kernel
theorem dL_law_733 : decode cL_law 733 = .ok (.invokevirtual 77, 3) := by decide +kernel
theorem dL_law_736 : decode cL_law 736 = .ok (.iload 5, 2) := by decide +kernel
theorem dL_law_738 : decode cL_law 738 = .ok (.if_icmp .eq 5, 3) := by decide +kernel
theorem dL_law_741 : decode cL_law 741 = .ok (.iconst 0, 1) := by decide +kernel
theorem dL_law_742 : decode cL_law 742 = .ok (.ireturn, 1) := by decide +kernel
theorem dL_law_743 : decode cL_law 743 = .ok (.iload 5, 2) := by decide +kernel
theorem dL_law_745 : decode cL_law 745 = .ok (.ifCond .ne 14, 3) := by decide +kernel
theorem dL_law_748 : decode cL_law 748 = .ok (.aload_n 3, 1) := by decide +kernel
theorem dL_law_749 : decode cL_law 749 = .ok (.iconst 0, 1) := by decide +kernel
theorem dL_law_750 : decode cL_law 750 = .ok (.laload, 1) := by decide +kernel
theorem dL_law_751 : decode cL_law 751 = .ok (.lload 6, 2) := by decide +kernel
theorem dL_law_753 : decode cL_law 753 = .ok (.lcmp, 1) := by decide +kernel
theorem dL_law_754 : decode cL_law 754 = .ok (.ifCond .eq 5, 3) := by decide +kernel
theorem dL_law_757 : decode cL_law 757 = .ok (.iconst 0, 1) := by decide +kernel
theorem dL_law_758 : decode cL_law 758 = .ok (.ireturn, 1) := by decide +kernel
theorem dL_law_759 : decode cL_law 759 = .ok (.goto 169, 3) := by decide +kernel
theorem dL_law_762 : decode cL_law 762 = .ok (.aload_n 1, 1) := by decide +kernel
theorem dL_law_763 : decode cL_law 763 = .ok (.aload_n 0, 1) := by decide +kernel
theorem dL_law_764 : decode cL_law 764 = .ok (.iload 4, 2) := by decide +kernel
theorem dL_law_766 : decode cL_law 766 = .ok (.iconst 1, 1) := by decide +kernel
theorem dL_law_767 : decode cL_law 767 = .ok (.iadd, 1) := by decide +kernel
theorem dL_law_768 : decode cL_law 768 = .ok (.iaload, 1) := by decide +kernel
theorem dL_law_769 : decode cL_law 769 = .ok (.aload_n 0, 1) := by decide +kernel
theorem dL_law_770 : decode cL_law 770 = .ok (.iload 4, 2) := by decide +kernel
theorem dL_law_772 : decode cL_law 772 = .ok (.iconst 2, 1) := by decide +kernel
theorem dL_law_773 : decode cL_law 773 = .ok (.iadd, 1) := by decide +kernel
theorem dL_law_774 : decode cL_law 774 = .ok (.iaload, 1) := by decide +kernel
theorem dL_law_775 : decode cL_law 775 = .ok (.aload_n 3, 1) := by decide +kernel
theorem dL_law_776 : decode cL_law 776 = .ok (.invokestatic 122, 3) := by decide +kernel
theorem dL_law_779 : decode cL_law 779 = .ok (.istore 5, 2) := by decide +kernel
theorem dL_law_781 : decode cL_law 781 = .ok (.aload_n 2, 1) := by decide +kernel
theorem dL_law_782 : decode cL_law 782 = .ok (.aload_n 0, 1) := by decide +kernel
theorem dL_law_783 : decode cL_law 783 = .ok (.iload 4, 2) := by decide +kernel
theorem dL_law_785 : decode cL_law 785 = .ok (.iconst 1, 1) := by decide +kernel
theorem dL_law_786 : decode cL_law 786 = .ok (.iadd, 1) := by decide +kernel
theorem dL_law_787 : decode cL_law 787 = .ok (.iaload, 1) := by decide +kernel
theorem dL_law_788 : decode cL_law 788 = .ok (.aload_n 0, 1) := by decide +kernel
theorem dL_law_789 : decode cL_law 789 = .ok (.iload 4, 2) := by decide +kernel
theorem dL_law_791 : decode cL_law 791 = .ok (.iconst 2, 1) := by decide +kernel
theorem dL_law_792 : decode cL_law 792 = .ok (.iadd, 1) := by decide +kernel
theorem dL_law_793 : decode cL_law 793 = .ok (.iaload, 1) := by decide +kernel
theorem dL_law_794 : decode cL_law 794 = .ok (.invokevirtual 124, 3) := by decide +kernel
theorem dL_law_797 : decode cL_law 797 = .ok (.lstore 6, 2) := by decide +kernel
theorem dL_law_799 : decode cL_law 799 = .ok (.aload_n 2, 1) := by decide +kernel
theorem dL_law_800 : decode cL_law 800 = .ok (.invokevirtual 77, 3) := by decide +kernel
theorem dL_law_803 : decode cL_law 803 = .ok (.iload 5, 2) := by decide +kernel
theorem dL_law_805 : decode cL_law 805 = .ok (.if_icmp .eq 5, 3) := by decide +kernel
theorem dL_law_808 : decode cL_law 808 = .ok (.iconst 0, 1) := by decide +kernel
theorem dL_law_809 : decode cL_law 809 = .ok (.ireturn, 1) := by decide +kernel
theorem dL_law_810 : decode cL_law 810 = .ok (.iload 5, 2) := by decide +kernel
theorem dL_law_812 : decode cL_law 812 = .ok (.ifCond .ne 14, 3) := by decide +kernel
theorem dL_law_815 : decode cL_law 815 = .ok (.aload_n 3, 1) := by decide +kernel
theorem dL_law_816 : decode cL_law 816 = .ok (.iconst 0, 1) := by decide +kernel
theorem dL_law_817 : decode cL_law 817 = .ok (.laload, 1) := by decide +kernel
theorem dL_law_818 : decode cL_law 818 = .ok (.lload 6, 2) := by decide +kernel
theorem dL_law_820 : decode cL_law 820 = .ok (.lcmp, 1) := by decide +kernel
theorem dL_law_821 : decode cL_law 821 = .ok (.ifCond .eq 5, 3) := by decide +kernel
theorem dL_law_824 : decode cL_law 824 = .ok (.iconst 0, 1) := by decide +kernel
theorem dL_law_825 : decode cL_law 825 = .ok (.ireturn, 1) := by decide +kernel
theorem dL_law_826 : decode cL_law 826 = .ok (.goto 102, 3) := by decide +kernel
theorem dL_law_829 : decode cL_law 829 = .ok (.aload_n 1, 1) := by decide +kernel
theorem dL_law_830 : decode cL_law 830 = .ok (.aload_n 0, 1) := by decide +kernel
theorem dL_law_831 : decode cL_law 831 = .ok (.iload 4, 2) := by decide +kernel
theorem dL_law_833 : decode cL_law 833 = .ok (.iconst 1, 1) := by decide +kernel
theorem dL_law_834 : decode cL_law 834 = .ok (.iadd, 1) := by decide +kernel
theorem dL_law_835 : decode cL_law 835 = .ok (.iaload, 1) := by decide +kernel
theorem dL_law_836 : decode cL_law 836 = .ok (.i2l, 1) := by decide +kernel
theorem dL_law_837 : decode cL_law 837 = .ok (.bipush 32, 2) := by decide +kernel
theorem dL_law_839 : decode cL_law 839 = .ok (.lshl, 1) := by decide +kernel
theorem dL_law_840 : decode cL_law 840 = .ok (.aload_n 0, 1) := by decide +kernel
theorem dL_law_841 : decode cL_law 841 = .ok (.iload 4, 2) := by decide +kernel
theorem dL_law_843 : decode cL_law 843 = .ok (.iconst 2, 1) := by decide +kernel
theorem dL_law_844 : decode cL_law 844 = .ok (.iadd, 1) := by decide +kernel
theorem dL_law_845 : decode cL_law 845 = .ok (.iaload, 1) := by decide +kernel
theorem dL_law_846 : decode cL_law 846 = .ok (.i2l, 1) := by decide +kernel
theorem dL_law_847 : decode cL_law 847 = .ok (.ldc2_w 69, 3) := by decide +kernel
theorem dL_law_850 : decode cL_law 850 = .ok (.land, 1) := by decide +kernel
theorem dL_law_851 : decode cL_law 851 = .ok (.lor, 1) := by decide +kernel
theorem dL_law_852 : decode cL_law 852 = .ok (.aload_n 0, 1) := by decide +kernel
theorem dL_law_853 : decode cL_law 853 = .ok (.iload 4, 2) := by decide +kernel
theorem dL_law_855 : decode cL_law 855 = .ok (.iconst 3, 1) := by decide +kernel
theorem dL_law_856 : decode cL_law 856 = .ok (.iadd, 1) := by decide +kernel
theorem dL_law_857 : decode cL_law 857 = .ok (.iaload, 1) := by decide +kernel
theorem dL_law_858 : decode cL_law 858 = .ok (.aload_n 3, 1) := by decide +kernel
theorem dL_law_859 : decode cL_law 859 = .ok (.invokestatic 125, 3) := by decide +kernel
theorem dL_law_862 : decode cL_law 862 = .ok (.istore 5, 2) := by decide +kernel
theorem dL_law_864 : decode cL_law 864 = .ok (.aload_n 2, 1) := by decide +kernel
theorem dL_law_865 : decode cL_law 865 = .ok (.aload_n 0, 1) := by decide +kernel
theorem dL_law_866 : decode cL_law 866 = .ok (.iload 4, 2) := by decide +kernel
theorem dL_law_868 : decode cL_law 868 = .ok (.iconst 1, 1) := by decide +kernel
theorem dL_law_869 : decode cL_law 869 = .ok (.iadd, 1) := by decide +kernel
theorem dL_law_870 : decode cL_law 870 = .ok (.iaload, 1) := by decide +kernel
theorem dL_law_871 : decode cL_law 871 = .ok (.i2l, 1) := by decide +kernel
theorem dL_law_872 : decode cL_law 872 = .ok (.bipush 32, 2) := by decide +kernel
theorem dL_law_874 : decode cL_law 874 = .ok (.lshl, 1) := by decide +kernel
theorem dL_law_875 : decode cL_law 875 = .ok (.aload_n 0, 1) := by decide +kernel
theorem dL_law_876 : decode cL_law 876 = .ok (.iload 4, 2) := by decide +kernel
theorem dL_law_878 : decode cL_law 878 = .ok (.iconst 2, 1) := by decide +kernel
theorem dL_law_879 : decode cL_law 879 = .ok (.iadd, 1) := by decide +kernel
theorem dL_law_880 : decode cL_law 880 = .ok (.iaload, 1) := by decide +kernel
theorem dL_law_881 : decode cL_law 881 = .ok (.i2l, 1) := by decide +kernel
theorem dL_law_882 : decode cL_law 882 = .ok (.ldc2_w 69, 3) := by decide +kernel
theorem dL_law_885 : decode cL_law 885 = .ok (.land, 1) := by decide +kernel
theorem dL_law_886 : decode cL_law 886 = .ok (.lor, 1) := by decide +kernel
theorem dL_law_887 : decode cL_law 887 = .ok (.aload_n 0, 1) := by decide +kernel
theorem dL_law_888 : decode cL_law 888 = .ok (.iload 4, 2) := by decide +kernel
theorem dL_law_890 : decode cL_law 890 = .ok (.iconst 3, 1) := by decide +kernel
theorem dL_law_891 : decode cL_law 891 = .ok (.iadd, 1) := by decide +kernel
theorem dL_law_892 : decode cL_law 892 = .ok (.iaload, 1) := by decide +kernel
theorem dL_law_893 : decode cL_law 893 = .ok (.invokevirtual 128, 3) := by decide +kernel
theorem dL_law_896 : decode cL_law 896 = .ok (.lstore 6, 2) := by decide +kernel
theorem dL_law_898 : decode cL_law 898 = .ok (.aload_n 2, 1) := by decide +kernel
theorem dL_law_899 : decode cL_law 899 = .ok (.invokevirtual 77, 3) := by decide +kernel
theorem dL_law_902 : decode cL_law 902 = .ok (.iload 5, 2) := by decide +kernel
theorem dL_law_904 : decode cL_law 904 = .ok (.if_icmp .eq 5, 3) := by decide +kernel
theorem dL_law_907 : decode cL_law 907 = .ok (.iconst 0, 1) := by decide +kernel
theorem dL_law_908 : decode cL_law 908 = .ok (.ireturn, 1) := by decide +kernel
theorem dL_law_909 : decode cL_law 909 = .ok (.iload 5, 2) := by decide +kernel
theorem dL_law_911 : decode cL_law 911 = .ok (.ifCond .ne 14, 3) := by decide +kernel
theorem dL_law_914 : decode cL_law 914 = .ok (.aload_n 3, 1) := by decide +kernel
theorem dL_law_915 : decode cL_law 915 = .ok (.iconst 0, 1) := by decide +kernel
theorem dL_law_916 : decode cL_law 916 = .ok (.laload, 1) := by decide +kernel
theorem dL_law_917 : decode cL_law 917 = .ok (.lload 6, 2) := by decide +kernel
theorem dL_law_919 : decode cL_law 919 = .ok (.lcmp, 1) := by decide +kernel
theorem dL_law_920 : decode cL_law 920 = .ok (.ifCond .eq 5, 3) := by decide +kernel
theorem dL_law_923 : decode cL_law 923 = .ok (.iconst 0, 1) := by decide +kernel
theorem dL_law_924 : decode cL_law 924 = .ok (.ireturn, 1) := by decide +kernel
theorem dL_law_925 : decode cL_law 925 = .ok (.goto 3, 3) := by decide +kernel
theorem dL_law_928 : decode cL_law 928 = .ok (.iinc 4 4, 3) := by decide +kernel
theorem dL_law_931 : decode cL_law 931 = .ok (.goto (-908), 3) := by decide +kernel
theorem dL_law_934 : decode cL_law 934 = .ok (.iconst 1, 1) := by decide +kernel
theorem dL_law_935 : decode cL_law 935 = .ok (.ireturn, 1) := by decide +kernel
end
section
def wsAll : List Cond := lw_tbl.filter goodWord
theorem wsAll_good {w : Cond} (h : w ∈ wsAll) : (w.onTables && w.keeps) = true ∨ ∃ ty, w = .arrayClass ty := good_of_word (List.mem_filter.mp h).2
theorem wsAll_tbl {w : Cond} (h : w ∈ wsAll) : w ∈ lw_tbl := (List.mem_filter.mp h).1
theorem wsAll_of {w : Cond} (h : w ∈ lw_tbl) (hg : goodWord w = true) : w ∈ wsAll := List.mem_filter.mpr ⟨h, hg⟩
theorem sL_X6_attempt : Cond.selects yX6_attempt.cls yX6_attempt yX6_attempt ∈ wsAll := wsAll_of (List.mem_append_left _ (List.mem_of_getElem? (i := 1) (by decide +kernel))) rfl
theorem sL_X6_handToNode : Cond.selects yX6_handToNode.cls yX6_handToNode yX6_handToNode ∈ wsAll := wsAll_of (List.mem_append_left _ (List.mem_of_getElem? (i := 2) (by decide +kernel))) rfl
theorem sL_X6_decide : Cond.selects yX6_decide.cls yX6_decide yX6_decide ∈ wsAll := wsAll_of (List.mem_append_left _ (List.mem_of_getElem? (i := 3) (by decide +kernel))) rfl
theorem sL_X6_nodesUp : Cond.selects yX6_nodesUp.cls yX6_nodesUp yX6_nodesUp ∈ wsAll := wsAll_of (List.mem_append_left _ (List.mem_of_getElem? (i := 4) (by decide +kernel))) rfl
theorem sL_X6_newestRow : Cond.selects yX6_newestRow.cls yX6_newestRow yX6_newestRow ∈ wsAll := wsAll_of (List.mem_append_left _ (List.mem_of_getElem? (i := 5) (by decide +kernel))) rfl
theorem sL_X7_isIssuer : Cond.selects yX7_isIssuer.cls yX7_isIssuer yX7_isIssuer ∈ wsAll := wsAll_of (List.mem_append_left _ (List.mem_of_getElem? (i := 6) (by decide +kernel))) rfl
theorem sL_X7_isLetter : Cond.selects yX7_isLetter.cls yX7_isLetter yX7_isLetter ∈ wsAll := wsAll_of (List.mem_append_left _ (List.mem_of_getElem? (i := 7) (by decide +kernel))) rfl
theorem sL_X7_remove : Cond.selects yX7_remove.cls yX7_remove yX7_remove ∈ wsAll := wsAll_of (List.mem_append_left _ (List.mem_of_getElem? (i := 8) (by decide +kernel))) rfl
theorem sL_X7_copy : Cond.selects yX7_copy.cls yX7_copy yX7_copy ∈ wsAll := wsAll_of (List.mem_append_left _ (List.mem_of_getElem? (i := 9) (by decide +kernel))) rfl
theorem sL_X7_attempt : Cond.selects yX7_attempt.cls yX7_attempt yX7_attempt ∈ wsAll := wsAll_of (List.mem_append_left _ (List.mem_of_getElem? (i := 10) (by decide +kernel))) rfl
theorem sL_X7_forgetCounts : Cond.selects yX7_forgetCounts.cls yX7_forgetCounts yX7_forgetCounts ∈ wsAll := wsAll_of (List.mem_append_left _ (List.mem_of_getElem? (i := 11) (by decide +kernel))) rfl
theorem sL_X7_ballotOf : Cond.selects yX7_ballotOf.cls yX7_ballotOf yX7_ballotOf ∈ wsAll := wsAll_of (List.mem_append_left _ (List.mem_of_getElem? (i := 12) (by decide +kernel))) rfl
theorem sL_X7_send : Cond.selects yX7_send.cls yX7_send yX7_send ∈ wsAll := wsAll_of (List.mem_append_left _ (List.mem_of_getElem? (i := 13) (by decide +kernel))) rfl
theorem sL_X7_promises : Cond.selects yX7_promises.cls yX7_promises yX7_promises ∈ wsAll := wsAll_of (List.mem_append_left _ (List.mem_of_getElem? (i := 14) (by decide +kernel))) rfl
theorem sL_X7_countOf : Cond.selects yX7_countOf.cls yX7_countOf yX7_countOf ∈ wsAll := wsAll_of (List.mem_append_left _ (List.mem_of_getElem? (i := 15) (by decide +kernel))) rfl
theorem sL_X7_seatToStart : Cond.selects yX7_seatToStart.cls yX7_seatToStart yX7_seatToStart ∈ wsAll := wsAll_of (List.mem_append_left _ (List.mem_of_getElem? (i := 16) (by decide +kernel))) rfl
theorem sL_X7_agreed : Cond.selects yX7_agreed.cls yX7_agreed yX7_agreed ∈ wsAll := wsAll_of (List.mem_append_left _ (List.mem_of_getElem? (i := 17) (by decide +kernel))) rfl
theorem sL_X7_rowOf : Cond.selects yX7_rowOf.cls yX7_rowOf yX7_rowOf ∈ wsAll := wsAll_of (List.mem_append_left _ (List.mem_of_getElem? (i := 18) (by decide +kernel))) rfl
theorem sL_X7_ballotAt : Cond.selects yX7_ballotAt.cls yX7_ballotAt yX7_ballotAt ∈ wsAll := wsAll_of (List.mem_append_left _ (List.mem_of_getElem? (i := 19) (by decide +kernel))) rfl
theorem sL_X7_holderAt : Cond.selects yX7_holderAt.cls yX7_holderAt yX7_holderAt ∈ wsAll := wsAll_of (List.mem_append_left _ (List.mem_of_getElem? (i := 20) (by decide +kernel))) rfl
theorem sL_X7_markAt : Cond.selects yX7_markAt.cls yX7_markAt yX7_markAt ∈ wsAll := wsAll_of (List.mem_append_left _ (List.mem_of_getElem? (i := 21) (by decide +kernel))) rfl
theorem sL_X7_fail : Cond.selects yX7_fail.cls yX7_fail yX7_fail ∈ wsAll := wsAll_of (List.mem_append_left _ (List.mem_of_getElem? (i := 22) (by decide +kernel))) rfl
theorem sL_X7_termAt : Cond.selects yX7_termAt.cls yX7_termAt yX7_termAt ∈ wsAll := wsAll_of (List.mem_append_left _ (List.mem_of_getElem? (i := 23) (by decide +kernel))) rfl
theorem sL_X7_accepts : Cond.selects yX7_accepts.cls yX7_accepts yX7_accepts ∈ wsAll := wsAll_of (List.mem_append_left _ (List.mem_of_getElem? (i := 24) (by decide +kernel))) rfl
theorem sL_X7_answer : Cond.selects yX7_answer.cls yX7_answer yX7_answer ∈ wsAll := wsAll_of (List.mem_append_left _ (List.mem_of_getElem? (i := 25) (by decide +kernel))) rfl
theorem sL_X7_prepares : Cond.selects yX7_prepares.cls yX7_prepares yX7_prepares ∈ wsAll := wsAll_of (List.mem_append_left _ (List.mem_of_getElem? (i := 26) (by decide +kernel))) rfl
theorem sL_X7_agrees : Cond.selects yX7_agrees.cls yX7_agrees yX7_agrees ∈ wsAll := wsAll_of (List.mem_append_left _ (List.mem_of_getElem? (i := 27) (by decide +kernel))) rfl
theorem sL_X7_refuses : Cond.selects yX7_refuses.cls yX7_refuses yX7_refuses ∈ wsAll := wsAll_of (List.mem_append_left _ (List.mem_of_getElem? (i := 28) (by decide +kernel))) rfl
theorem sL_X7_give : Cond.selects yX7_give.cls yX7_give yX7_give ∈ wsAll := wsAll_of (List.mem_append_left _ (List.mem_of_getElem? (i := 29) (by decide +kernel))) rfl
theorem iN_L : Cond.initialized RL ∈ wsAll := wsAll_of (List.mem_append_right _ (List.mem_append_left _ (List.mem_of_getElem? (i := 0) (by decide +kernel)))) rfl
theorem iN_X6 : Cond.initialized RX6 ∈ wsAll := wsAll_of (List.mem_append_right _ (List.mem_append_left _ (List.mem_of_getElem? (i := 1) (by decide +kernel)))) rfl
theorem iN_X5 : Cond.initialized RX5 ∈ wsAll := wsAll_of (List.mem_append_right _ (List.mem_append_left _ (List.mem_of_getElem? (i := 2) (by decide +kernel)))) rfl
theorem iN_X4 : Cond.initialized RX4 ∈ wsAll := wsAll_of (List.mem_append_right _ (List.mem_append_left _ (List.mem_of_getElem? (i := 3) (by decide +kernel)))) rfl
theorem iN_X2 : Cond.initialized RX2 ∈ wsAll := wsAll_of (List.mem_append_right _ (List.mem_append_left _ (List.mem_of_getElem? (i := 4) (by decide +kernel)))) rfl
theorem iN_X1 : Cond.initialized RX1 ∈ wsAll := wsAll_of (List.mem_append_right _ (List.mem_append_left _ (List.mem_of_getElem? (i := 5) (by decide +kernel)))) rfl
theorem iN_X3 : Cond.initialized RX3 ∈ wsAll := wsAll_of (List.mem_append_right _ (List.mem_append_left _ (List.mem_of_getElem? (i := 6) (by decide +kernel)))) rfl
theorem iN_X7 : Cond.initialized RX7 ∈ wsAll := wsAll_of (List.mem_append_right _ (List.mem_append_left _ (List.mem_of_getElem? (i := 7) (by decide +kernel)))) rfl
theorem iN_Throwable : Cond.initialized "java/lang/Throwable" ∈ wsAll := wsAll_of (List.mem_append_right _ (List.mem_append_left _ (List.mem_of_getElem? (i := 8) (by decide +kernel)))) rfl
theorem iN_Exception : Cond.initialized "java/lang/Exception" ∈ wsAll := wsAll_of (List.mem_append_right _ (List.mem_append_left _ (List.mem_of_getElem? (i := 9) (by decide +kernel)))) rfl
theorem iN_RuntimeException : Cond.initialized "java/lang/RuntimeException" ∈ wsAll := wsAll_of (List.mem_append_right _ (List.mem_append_left _ (List.mem_of_getElem? (i := 10) (by decide +kernel)))) rfl
theorem iN_IndexOutOfBoundsException : Cond.initialized "java/lang/IndexOutOfBoundsException" ∈ wsAll := wsAll_of (List.mem_append_right _ (List.mem_append_left _ (List.mem_of_getElem? (i := 11) (by decide +kernel)))) rfl
theorem iN_IllegalArgumentException : Cond.initialized "java/lang/IllegalArgumentException" ∈ wsAll := wsAll_of (List.mem_append_right _ (List.mem_append_left _ (List.mem_of_getElem? (i := 12) (by decide +kernel)))) rfl
theorem iN_IllegalStateException : Cond.initialized "java/lang/IllegalStateException" ∈ wsAll := wsAll_of (List.mem_append_right _ (List.mem_append_left _ (List.mem_of_getElem? (i := 13) (by decide +kernel)))) rfl
theorem iN_J9 : Cond.initialized RJ9 ∈ wsAll := wsAll_of (List.mem_append_right _ (List.mem_append_left _ (List.mem_of_getElem? (i := 14) (by decide +kernel)))) rfl
theorem iN_J6 : Cond.initialized RJ6 ∈ wsAll := wsAll_of (List.mem_append_right _ (List.mem_append_left _ (List.mem_of_getElem? (i := 15) (by decide +kernel)))) rfl
theorem iN_X0 : Cond.initialized RX0 ∈ wsAll := wsAll_of (List.mem_append_right _ (List.mem_append_left _ (List.mem_of_getElem? (i := 16) (by decide +kernel)))) rfl
theorem kL_L_8 : Cond.classLink RL 8 RX6 ∈ wsAll := wsAll_of (List.mem_append_right _ (List.mem_append_left _ (List.mem_of_getElem? (i := 17) (by decide +kernel)))) rfl
theorem iB_X6 : Cond.instantiable RX6 4 ∈ wsAll := wsAll_of (List.mem_append_right _ (List.mem_append_left _ (List.mem_of_getElem? (i := 18) (by decide +kernel)))) rfl
theorem mL_L_65 : Cond.methodLink RL 65 yX6_init ∈ wsAll := wsAll_of (List.mem_append_right _ (List.mem_append_left _ (List.mem_of_getElem? (i := 19) (by decide +kernel)))) rfl
theorem iM_X6_init : Cond.instanceMethod yX6_init ∈ wsAll := wsAll_of (List.mem_append_right _ (List.mem_append_left _ (List.mem_of_getElem? (i := 20) (by decide +kernel)))) rfl
theorem cD_X6_init : Cond.code yX6_init cX6_init 2 (none : Option FieldType) ∈ wsAll := wsAll_of (List.mem_append_right _ (List.mem_append_left _ (List.mem_of_getElem? (i := 21) rfl))) rfl
theorem mL_X6_3 : Cond.methodLink RX6 3 (⟨"java/lang/Object", "<init>", "()V"⟩ : MethodName) ∈ wsAll := wsAll_of (List.mem_append_right _ (List.mem_append_left _ (List.mem_of_getElem? (i := 22) (by decide +kernel)))) rfl
theorem iM_obj : Cond.instanceMethod objectInit ∈ wsAll := wsAll_of (List.mem_append_right _ (List.mem_append_left _ (List.mem_of_getElem? (i := 23) (by decide +kernel)))) rfl
theorem cD_obj : Cond.code objectInit ⟨#[0xb1]⟩ 1 none ∈ wsAll := wsAll_of (List.mem_append_right _ (List.mem_append_left _ (List.mem_of_getElem? (i := 24) rfl))) rfl
theorem kL_X6_9 : Cond.classLink RX6 9 RX1 ∈ wsAll := wsAll_of (List.mem_append_right _ (List.mem_append_left _ (List.mem_of_getElem? (i := 25) (by decide +kernel)))) rfl
theorem kL_X6_15 : Cond.classLink RX6 15 RX3 ∈ wsAll := wsAll_of (List.mem_append_right _ (List.mem_append_left _ (List.mem_of_getElem? (i := 27) (by decide +kernel)))) rfl
theorem kL_X6_21 : Cond.classLink RX6 21 RX5 ∈ wsAll := wsAll_of (List.mem_append_right _ (List.mem_append_left _ (List.mem_of_getElem? (i := 29) (by decide +kernel)))) rfl
theorem iB_X5 : Cond.instantiable RX5 4 ∈ wsAll := wsAll_of (List.mem_append_right _ (List.mem_append_left _ (List.mem_of_getElem? (i := 30) (by decide +kernel)))) rfl
theorem mL_X6_23 : Cond.methodLink RX6 23 yX5_init ∈ wsAll := wsAll_of (List.mem_append_right _ (List.mem_append_left _ (List.mem_of_getElem? (i := 31) (by decide +kernel)))) rfl
theorem iM_X5_init : Cond.instanceMethod yX5_init ∈ wsAll := wsAll_of (List.mem_append_right _ (List.mem_append_left _ (List.mem_of_getElem? (i := 32) (by decide +kernel)))) rfl
theorem cD_X5_init : Cond.code yX5_init cX5_init 6 (none : Option FieldType) ∈ wsAll := wsAll_of (List.mem_append_right _ (List.mem_append_left _ (List.mem_of_getElem? (i := 33) rfl))) rfl
theorem mL_X5_1 : Cond.methodLink RX5 1 (⟨"java/lang/Object", "<init>", "()V"⟩ : MethodName) ∈ wsAll := wsAll_of (List.mem_append_right _ (List.mem_append_left _ (List.mem_of_getElem? (i := 34) (by decide +kernel)))) rfl
theorem fL_X5_7 : Cond.fieldLink RX5 7 "IssueHouse$Row" "ballot" "I" ∈ wsAll := wsAll_of (List.mem_append_right _ (List.mem_append_left _ (List.mem_of_getElem? (i := 35) (by decide +kernel)))) rfl
theorem fL_X5_13 : Cond.fieldLink RX5 13 "IssueHouse$Row" "holder" "I" ∈ wsAll := wsAll_of (List.mem_append_right _ (List.mem_append_left _ (List.mem_of_getElem? (i := 36) (by decide +kernel)))) rfl
theorem fL_X6_185 : Cond.fieldLink RX6 185 "IssueHouse$Row" "holder" "I" ∈ wsAll := wsAll_of (List.mem_append_right _ (List.mem_append_left _ (List.mem_of_getElem? (i := 37) (by decide +kernel)))) rfl
theorem fL_X1_150 : Cond.fieldLink RX1 150 "IssueHouse$Row" "holder" "I" ∈ wsAll := wsAll_of (List.mem_append_right _ (List.mem_append_left _ (List.mem_of_getElem? (i := 38) (by decide +kernel)))) rfl
theorem fL_X5_16 : Cond.fieldLink RX5 16 "IssueHouse$Row" "term" "I" ∈ wsAll := wsAll_of (List.mem_append_right _ (List.mem_append_left _ (List.mem_of_getElem? (i := 39) (by decide +kernel)))) rfl
theorem fL_X1_137 : Cond.fieldLink RX1 137 "IssueHouse$Row" "term" "I" ∈ wsAll := wsAll_of (List.mem_append_right _ (List.mem_append_left _ (List.mem_of_getElem? (i := 40) (by decide +kernel)))) rfl
theorem fL_X6_188 : Cond.fieldLink RX6 188 "IssueHouse$Row" "term" "I" ∈ wsAll := wsAll_of (List.mem_append_right _ (List.mem_append_left _ (List.mem_of_getElem? (i := 41) (by decide +kernel)))) rfl
theorem fL_X5_19 : Cond.fieldLink RX5 19 "IssueHouse$Row" "mark" "J" ∈ wsAll := wsAll_of (List.mem_append_right _ (List.mem_append_left _ (List.mem_of_getElem? (i := 42) (by decide +kernel)))) rfl
theorem fL_X1_124 : Cond.fieldLink RX1 124 "IssueHouse$Row" "mark" "J" ∈ wsAll := wsAll_of (List.mem_append_right _ (List.mem_append_left _ (List.mem_of_getElem? (i := 43) (by decide +kernel)))) rfl
theorem fL_X6_191 : Cond.fieldLink RX6 191 "IssueHouse$Row" "mark" "J" ∈ wsAll := wsAll_of (List.mem_append_right _ (List.mem_append_left _ (List.mem_of_getElem? (i := 44) (by decide +kernel)))) rfl
theorem kL_X6_30 : Cond.classLink RX6 30 RX4 ∈ wsAll := wsAll_of (List.mem_append_right _ (List.mem_append_left _ (List.mem_of_getElem? (i := 54) (by decide +kernel)))) rfl
theorem iB_X4 : Cond.instantiable RX4 2 ∈ wsAll := wsAll_of (List.mem_append_right _ (List.mem_append_left _ (List.mem_of_getElem? (i := 55) (by decide +kernel)))) rfl
theorem mL_X6_32 : Cond.methodLink RX6 32 yX4_init ∈ wsAll := wsAll_of (List.mem_append_right _ (List.mem_append_left _ (List.mem_of_getElem? (i := 56) (by decide +kernel)))) rfl
theorem iM_X4_init : Cond.instanceMethod yX4_init ∈ wsAll := wsAll_of (List.mem_append_right _ (List.mem_append_left _ (List.mem_of_getElem? (i := 57) (by decide +kernel)))) rfl
theorem cD_X4_init : Cond.code yX4_init cX4_init 3 (none : Option FieldType) ∈ wsAll := wsAll_of (List.mem_append_right _ (List.mem_append_left _ (List.mem_of_getElem? (i := 58) rfl))) rfl
theorem mL_X4_3 : Cond.methodLink RX4 3 (⟨"java/lang/Object", "<init>", "()V"⟩ : MethodName) ∈ wsAll := wsAll_of (List.mem_append_right _ (List.mem_append_left _ (List.mem_of_getElem? (i := 59) (by decide +kernel)))) rfl
theorem kL_X4_9 : Cond.classLink RX4 9 RX2 ∈ wsAll := wsAll_of (List.mem_append_right _ (List.mem_append_left _ (List.mem_of_getElem? (i := 60) (by decide +kernel)))) rfl
theorem iB_X2 : Cond.instantiable RX2 8 ∈ wsAll := wsAll_of (List.mem_append_right _ (List.mem_append_left _ (List.mem_of_getElem? (i := 62) (by decide +kernel)))) rfl
theorem mL_X4_17 : Cond.methodLink RX4 17 yX2_init ∈ wsAll := wsAll_of (List.mem_append_right _ (List.mem_append_left _ (List.mem_of_getElem? (i := 63) (by decide +kernel)))) rfl
theorem iM_X2_init : Cond.instanceMethod yX2_init ∈ wsAll := wsAll_of (List.mem_append_right _ (List.mem_append_left _ (List.mem_of_getElem? (i := 64) (by decide +kernel)))) rfl
theorem cD_X2_init : Cond.code yX2_init cX2_init 3 (none : Option FieldType) ∈ wsAll := wsAll_of (List.mem_append_right _ (List.mem_append_left _ (List.mem_of_getElem? (i := 65) rfl))) rfl
theorem mL_X2_3 : Cond.methodLink RX2 3 (⟨"java/lang/Object", "<init>", "()V"⟩ : MethodName) ∈ wsAll := wsAll_of (List.mem_append_right _ (List.mem_append_left _ (List.mem_of_getElem? (i := 66) (by decide +kernel)))) rfl
theorem kL_X2_9 : Cond.classLink RX2 9 RX5 ∈ wsAll := wsAll_of (List.mem_append_right _ (List.mem_append_left _ (List.mem_of_getElem? (i := 67) (by decide +kernel)))) rfl
theorem fL_X2_21 : Cond.fieldLink RX2 21 "IssueHouse$Letter" "kind" "I" ∈ wsAll := wsAll_of (List.mem_append_right _ (List.mem_append_left _ (List.mem_of_getElem? (i := 69) (by decide +kernel)))) rfl
theorem fL_X4_24 : Cond.fieldLink RX4 24 "IssueHouse$Letter" "kind" "I" ∈ wsAll := wsAll_of (List.mem_append_right _ (List.mem_append_left _ (List.mem_of_getElem? (i := 70) (by decide +kernel)))) rfl
theorem fL_X1_69 : Cond.fieldLink RX1 69 "IssueHouse$Letter" "kind" "I" ∈ wsAll := wsAll_of (List.mem_append_right _ (List.mem_append_left _ (List.mem_of_getElem? (i := 71) (by decide +kernel)))) rfl
theorem fL_X6_141 : Cond.fieldLink RX6 141 "IssueHouse$Letter" "kind" "I" ∈ wsAll := wsAll_of (List.mem_append_right _ (List.mem_append_left _ (List.mem_of_getElem? (i := 72) (by decide +kernel)))) rfl
theorem fL_X3_34 : Cond.fieldLink RX3 34 "IssueHouse$Letter" "issuer" "I" ∈ wsAll := wsAll_of (List.mem_append_right _ (List.mem_append_left _ (List.mem_of_getElem? (i := 73) (by decide +kernel)))) rfl
theorem fL_X4_27 : Cond.fieldLink RX4 27 "IssueHouse$Letter" "issuer" "I" ∈ wsAll := wsAll_of (List.mem_append_right _ (List.mem_append_left _ (List.mem_of_getElem? (i := 74) (by decide +kernel)))) rfl
theorem fL_X6_119 : Cond.fieldLink RX6 119 "IssueHouse$Letter" "issuer" "I" ∈ wsAll := wsAll_of (List.mem_append_right _ (List.mem_append_left _ (List.mem_of_getElem? (i := 75) (by decide +kernel)))) rfl
theorem fL_X3_37 : Cond.fieldLink RX3 37 "IssueHouse$Letter" "node" "I" ∈ wsAll := wsAll_of (List.mem_append_right _ (List.mem_append_left _ (List.mem_of_getElem? (i := 76) (by decide +kernel)))) rfl
theorem fL_X4_30 : Cond.fieldLink RX4 30 "IssueHouse$Letter" "node" "I" ∈ wsAll := wsAll_of (List.mem_append_right _ (List.mem_append_left _ (List.mem_of_getElem? (i := 77) (by decide +kernel)))) rfl
theorem fL_X1_96 : Cond.fieldLink RX1 96 "IssueHouse$Letter" "node" "I" ∈ wsAll := wsAll_of (List.mem_append_right _ (List.mem_append_left _ (List.mem_of_getElem? (i := 78) (by decide +kernel)))) rfl
theorem fL_X6_144 : Cond.fieldLink RX6 144 "IssueHouse$Letter" "node" "I" ∈ wsAll := wsAll_of (List.mem_append_right _ (List.mem_append_left _ (List.mem_of_getElem? (i := 79) (by decide +kernel)))) rfl
theorem fL_X3_21 : Cond.fieldLink RX3 21 "IssueHouse$Letter" "ballot" "I" ∈ wsAll := wsAll_of (List.mem_append_right _ (List.mem_append_left _ (List.mem_of_getElem? (i := 80) (by decide +kernel)))) rfl
theorem fL_X4_33 : Cond.fieldLink RX4 33 "IssueHouse$Letter" "ballot" "I" ∈ wsAll := wsAll_of (List.mem_append_right _ (List.mem_append_left _ (List.mem_of_getElem? (i := 81) (by decide +kernel)))) rfl
theorem fL_X1_89 : Cond.fieldLink RX1 89 "IssueHouse$Letter" "ballot" "I" ∈ wsAll := wsAll_of (List.mem_append_right _ (List.mem_append_left _ (List.mem_of_getElem? (i := 82) (by decide +kernel)))) rfl
theorem fL_X6_147 : Cond.fieldLink RX6 147 "IssueHouse$Letter" "ballot" "I" ∈ wsAll := wsAll_of (List.mem_append_right _ (List.mem_append_left _ (List.mem_of_getElem? (i := 83) (by decide +kernel)))) rfl
theorem fL_X3_50 : Cond.fieldLink RX3 50 "IssueHouse$Letter" "seat" "I" ∈ wsAll := wsAll_of (List.mem_append_right _ (List.mem_append_left _ (List.mem_of_getElem? (i := 84) (by decide +kernel)))) rfl
theorem fL_X4_36 : Cond.fieldLink RX4 36 "IssueHouse$Letter" "seat" "I" ∈ wsAll := wsAll_of (List.mem_append_right _ (List.mem_append_left _ (List.mem_of_getElem? (i := 85) (by decide +kernel)))) rfl
theorem fL_X6_150 : Cond.fieldLink RX6 150 "IssueHouse$Letter" "seat" "I" ∈ wsAll := wsAll_of (List.mem_append_right _ (List.mem_append_left _ (List.mem_of_getElem? (i := 86) (by decide +kernel)))) rfl
theorem fL_X3_57 : Cond.fieldLink RX3 57 "IssueHouse$Letter" "promised" "I" ∈ wsAll := wsAll_of (List.mem_append_right _ (List.mem_append_left _ (List.mem_of_getElem? (i := 87) (by decide +kernel)))) rfl
theorem fL_X4_39 : Cond.fieldLink RX4 39 "IssueHouse$Letter" "promised" "I" ∈ wsAll := wsAll_of (List.mem_append_right _ (List.mem_append_left _ (List.mem_of_getElem? (i := 88) (by decide +kernel)))) rfl
theorem fL_X1_90 : Cond.fieldLink RX1 90 "IssueHouse$Letter" "promised" "I" ∈ wsAll := wsAll_of (List.mem_append_right _ (List.mem_append_left _ (List.mem_of_getElem? (i := 89) (by decide +kernel)))) rfl
theorem fL_X6_153 : Cond.fieldLink RX6 153 "IssueHouse$Letter" "promised" "I" ∈ wsAll := wsAll_of (List.mem_append_right _ (List.mem_append_left _ (List.mem_of_getElem? (i := 90) (by decide +kernel)))) rfl
theorem fL_X2_17 : Cond.fieldLink RX2 17 "IssueHouse$Letter" "row" "LIssueHouse$Row;" ∈ wsAll := wsAll_of (List.mem_append_right _ (List.mem_append_left _ (List.mem_of_getElem? (i := 91) (by decide +kernel)))) rfl
theorem fL_X3_53 : Cond.fieldLink RX3 53 "IssueHouse$Letter" "row" "LIssueHouse$Row;" ∈ wsAll := wsAll_of (List.mem_append_right _ (List.mem_append_left _ (List.mem_of_getElem? (i := 92) (by decide +kernel)))) rfl
theorem fL_X4_46 : Cond.fieldLink RX4 46 "IssueHouse$Letter" "row" "LIssueHouse$Row;" ∈ wsAll := wsAll_of (List.mem_append_right _ (List.mem_append_left _ (List.mem_of_getElem? (i := 93) (by decide +kernel)))) rfl
theorem fL_X6_235 : Cond.fieldLink RX6 235 "IssueHouse$Letter" "row" "LIssueHouse$Row;" ∈ wsAll := wsAll_of (List.mem_append_right _ (List.mem_append_left _ (List.mem_of_getElem? (i := 94) (by decide +kernel)))) rfl
theorem fL_X2_11 : Cond.fieldLink RX2 11 "IssueHouse$Letter" "rows" "[LIssueHouse$Row;" ∈ wsAll := wsAll_of (List.mem_append_right _ (List.mem_append_left _ (List.mem_of_getElem? (i := 95) (by decide +kernel)))) rfl
theorem fL_X4_50 : Cond.fieldLink RX4 50 "IssueHouse$Letter" "rows" "[LIssueHouse$Row;" ∈ wsAll := wsAll_of (List.mem_append_right _ (List.mem_append_left _ (List.mem_of_getElem? (i := 96) (by decide +kernel)))) rfl
theorem fL_X1_105 : Cond.fieldLink RX1 105 "IssueHouse$Letter" "rows" "[LIssueHouse$Row;" ∈ wsAll := wsAll_of (List.mem_append_right _ (List.mem_append_left _ (List.mem_of_getElem? (i := 97) (by decide +kernel)))) rfl
theorem fL_X4_11 : Cond.fieldLink RX4 11 "IssueHouse$Post" "places" "[LIssueHouse$Letter;" ∈ wsAll := wsAll_of (List.mem_append_right _ (List.mem_append_left _ (List.mem_of_getElem? (i := 115) (by decide +kernel)))) rfl
theorem fL_X4_20 : Cond.fieldLink RX4 20 "IssueHouse$Post" "size" "I" ∈ wsAll := wsAll_of (List.mem_append_right _ (List.mem_append_left _ (List.mem_of_getElem? (i := 116) (by decide +kernel)))) rfl
theorem fL_X6_97 : Cond.fieldLink RX6 97 "IssueHouse$Post" "size" "I" ∈ wsAll := wsAll_of (List.mem_append_right _ (List.mem_append_left _ (List.mem_of_getElem? (i := 117) (by decide +kernel)))) rfl
theorem iB_X1 : Cond.instantiable RX1 15 ∈ wsAll := wsAll_of (List.mem_append_right _ (List.mem_append_left _ (List.mem_of_getElem? (i := 123) (by decide +kernel)))) rfl
theorem mL_X6_39 : Cond.methodLink RX6 39 yX1_init ∈ wsAll := wsAll_of (List.mem_append_right _ (List.mem_append_left _ (List.mem_of_getElem? (i := 124) (by decide +kernel)))) rfl
theorem iM_X1_init : Cond.instanceMethod yX1_init ∈ wsAll := wsAll_of (List.mem_append_right _ (List.mem_append_left _ (List.mem_of_getElem? (i := 125) (by decide +kernel)))) rfl
theorem cD_X1_init : Cond.code yX1_init cX1_init 4 (none : Option FieldType) ∈ wsAll := wsAll_of (List.mem_append_right _ (List.mem_append_left _ (List.mem_of_getElem? (i := 126) rfl))) rfl
theorem mL_X1_3 : Cond.methodLink RX1 3 (⟨"java/lang/Object", "<init>", "()V"⟩ : MethodName) ∈ wsAll := wsAll_of (List.mem_append_right _ (List.mem_append_left _ (List.mem_of_getElem? (i := 127) (by decide +kernel)))) rfl
theorem kL_X1_15 : Cond.classLink RX1 15 RX5 ∈ wsAll := wsAll_of (List.mem_append_right _ (List.mem_append_left _ (List.mem_of_getElem? (i := 128) (by decide +kernel)))) rfl
theorem kJ_X1_21 : Cond.constantLong RX1 21 (-1) ∈ wsAll := wsAll_of (List.mem_append_right _ (List.mem_append_left _ (List.mem_of_getElem? (i := 129) (by decide +kernel)))) rfl
theorem fL_X1_27 : Cond.fieldLink RX1 27 "IssueHouse$Issuer" "self" "I" ∈ wsAll := wsAll_of (List.mem_append_right _ (List.mem_append_left _ (List.mem_of_getElem? (i := 130) (by decide +kernel)))) rfl
theorem fL_X6_203 : Cond.fieldLink RX6 203 "IssueHouse$Issuer" "self" "I" ∈ wsAll := wsAll_of (List.mem_append_right _ (List.mem_append_left _ (List.mem_of_getElem? (i := 131) (by decide +kernel)))) rfl
theorem fL_X1_30 : Cond.fieldLink RX1 30 "IssueHouse$Issuer" "unheld" "LIssueHouse$Row;" ∈ wsAll := wsAll_of (List.mem_append_right _ (List.mem_append_left _ (List.mem_of_getElem? (i := 132) (by decide +kernel)))) rfl
theorem fL_X6_61 : Cond.fieldLink RX6 61 "IssueHouse$Issuer" "clock" "J" ∈ wsAll := wsAll_of (List.mem_append_right _ (List.mem_append_left _ (List.mem_of_getElem? (i := 133) (by decide +kernel)))) rfl
theorem fL_X1_121 : Cond.fieldLink RX1 121 "IssueHouse$Issuer" "clock" "J" ∈ wsAll := wsAll_of (List.mem_append_right _ (List.mem_append_left _ (List.mem_of_getElem? (i := 134) (by decide +kernel)))) rfl
theorem fL_X1_9 : Cond.fieldLink RX1 9 "IssueHouse$Issuer" "phase" "I" ∈ wsAll := wsAll_of (List.mem_append_right _ (List.mem_append_left _ (List.mem_of_getElem? (i := 135) (by decide +kernel)))) rfl
theorem fL_X6_69 : Cond.fieldLink RX6 69 "IssueHouse$Issuer" "phase" "I" ∈ wsAll := wsAll_of (List.mem_append_right _ (List.mem_append_left _ (List.mem_of_getElem? (i := 136) (by decide +kernel)))) rfl
theorem fL_X1_38 : Cond.fieldLink RX1 38 "IssueHouse$Issuer" "round" "I" ∈ wsAll := wsAll_of (List.mem_append_right _ (List.mem_append_left _ (List.mem_of_getElem? (i := 137) (by decide +kernel)))) rfl
theorem fL_X1_41 : Cond.fieldLink RX1 41 "IssueHouse$Issuer" "leastRound" "I" ∈ wsAll := wsAll_of (List.mem_append_right _ (List.mem_append_left _ (List.mem_of_getElem? (i := 138) (by decide +kernel)))) rfl
theorem fL_X1_50 : Cond.fieldLink RX1 50 "IssueHouse$Issuer" "ballot" "I" ∈ wsAll := wsAll_of (List.mem_append_right _ (List.mem_append_left _ (List.mem_of_getElem? (i := 139) (by decide +kernel)))) rfl
theorem fL_X6_206 : Cond.fieldLink RX6 206 "IssueHouse$Issuer" "ballot" "I" ∈ wsAll := wsAll_of (List.mem_append_right _ (List.mem_append_left _ (List.mem_of_getElem? (i := 140) (by decide +kernel)))) rfl
theorem fL_X1_53 : Cond.fieldLink RX1 53 "IssueHouse$Issuer" "countedNodes" "I" ∈ wsAll := wsAll_of (List.mem_append_right _ (List.mem_append_left _ (List.mem_of_getElem? (i := 141) (by decide +kernel)))) rfl
theorem fL_X1_17 : Cond.fieldLink RX1 17 "IssueHouse$Issuer" "seen" "[LIssueHouse$Row;" ∈ wsAll := wsAll_of (List.mem_append_right _ (List.mem_append_left _ (List.mem_of_getElem? (i := 142) (by decide +kernel)))) rfl
theorem fL_X1_56 : Cond.fieldLink RX1 56 "IssueHouse$Issuer" "wished" "LIssueHouse$Grant;" ∈ wsAll := wsAll_of (List.mem_append_right _ (List.mem_append_left _ (List.mem_of_getElem? (i := 143) (by decide +kernel)))) rfl
theorem fL_X1_59 : Cond.fieldLink RX1 59 "IssueHouse$Issuer" "failed" "I" ∈ wsAll := wsAll_of (List.mem_append_right _ (List.mem_append_left _ (List.mem_of_getElem? (i := 144) (by decide +kernel)))) rfl
theorem fL_X6_158 : Cond.fieldLink RX6 158 "IssueHouse$Issuer" "failed" "I" ∈ wsAll := wsAll_of (List.mem_append_right _ (List.mem_append_left _ (List.mem_of_getElem? (i := 145) (by decide +kernel)))) rfl
theorem fL_X1_34 : Cond.fieldLink RX1 34 "IssueHouse$Issuer" "held" "LIssueHouse$Grant;" ∈ wsAll := wsAll_of (List.mem_append_right _ (List.mem_append_left _ (List.mem_of_getElem? (i := 146) (by decide +kernel)))) rfl
theorem fL_X1_23 : Cond.fieldLink RX1 23 "IssueHouse$Issuer" "lastTime" "J" ∈ wsAll := wsAll_of (List.mem_append_right _ (List.mem_append_left _ (List.mem_of_getElem? (i := 147) (by decide +kernel)))) rfl
theorem fL_X1_66 : Cond.fieldLink RX1 66 "IssueHouse$Issuer" "lastCounter" "I" ∈ wsAll := wsAll_of (List.mem_append_right _ (List.mem_append_left _ (List.mem_of_getElem? (i := 148) (by decide +kernel)))) rfl
theorem fL_X6_161 : Cond.fieldLink RX6 161 "IssueHouse$Issuer" "given" "J" ∈ wsAll := wsAll_of (List.mem_append_right _ (List.mem_append_left _ (List.mem_of_getElem? (i := 149) (by decide +kernel)))) rfl
theorem fL_X1_158 : Cond.fieldLink RX1 158 "IssueHouse$Issuer" "given" "J" ∈ wsAll := wsAll_of (List.mem_append_right _ (List.mem_append_left _ (List.mem_of_getElem? (i := 150) (by decide +kernel)))) rfl
theorem iB_X3 : Cond.instantiable RX3 3 ∈ wsAll := wsAll_of (List.mem_append_right _ (List.mem_append_left _ (List.mem_of_getElem? (i := 182) (by decide +kernel)))) rfl
theorem mL_X6_42 : Cond.methodLink RX6 42 yX3_init ∈ wsAll := wsAll_of (List.mem_append_right _ (List.mem_append_left _ (List.mem_of_getElem? (i := 183) (by decide +kernel)))) rfl
theorem iM_X3_init : Cond.instanceMethod yX3_init ∈ wsAll := wsAll_of (List.mem_append_right _ (List.mem_append_left _ (List.mem_of_getElem? (i := 184) (by decide +kernel)))) rfl
theorem cD_X3_init : Cond.code yX3_init cX3_init 3 (none : Option FieldType) ∈ wsAll := wsAll_of (List.mem_append_right _ (List.mem_append_left _ (List.mem_of_getElem? (i := 185) rfl))) rfl
theorem mL_X3_3 : Cond.methodLink RX3 3 (⟨"java/lang/Object", "<init>", "()V"⟩ : MethodName) ∈ wsAll := wsAll_of (List.mem_append_right _ (List.mem_append_left _ (List.mem_of_getElem? (i := 186) (by decide +kernel)))) rfl
theorem kL_X3_15 : Cond.classLink RX3 15 RX5 ∈ wsAll := wsAll_of (List.mem_append_right _ (List.mem_append_left _ (List.mem_of_getElem? (i := 187) (by decide +kernel)))) rfl
theorem fL_X3_9 : Cond.fieldLink RX3 9 "IssueHouse$Node" "up" "Z" ∈ wsAll := wsAll_of (List.mem_append_right _ (List.mem_append_left _ (List.mem_of_getElem? (i := 188) (by decide +kernel)))) rfl
theorem fL_X6_93 : Cond.fieldLink RX6 93 "IssueHouse$Node" "up" "Z" ∈ wsAll := wsAll_of (List.mem_append_right _ (List.mem_append_left _ (List.mem_of_getElem? (i := 189) (by decide +kernel)))) rfl
theorem fL_X3_27 : Cond.fieldLink RX3 27 "IssueHouse$Node" "promised" "I" ∈ wsAll := wsAll_of (List.mem_append_right _ (List.mem_append_left _ (List.mem_of_getElem? (i := 190) (by decide +kernel)))) rfl
theorem fL_X3_17 : Cond.fieldLink RX3 17 "IssueHouse$Node" "rows" "[LIssueHouse$Row;" ∈ wsAll := wsAll_of (List.mem_append_right _ (List.mem_append_left _ (List.mem_of_getElem? (i := 191) (by decide +kernel)))) rfl
theorem fL_X6_236 : Cond.fieldLink RX6 236 "IssueHouse$Node" "rows" "[LIssueHouse$Row;" ∈ wsAll := wsAll_of (List.mem_append_right _ (List.mem_append_left _ (List.mem_of_getElem? (i := 192) (by decide +kernel)))) rfl
theorem fL_X6_11 : Cond.fieldLink RX6 11 "IssueHouse" "issuers" "[LIssueHouse$Issuer;" ∈ wsAll := wsAll_of (List.mem_append_right _ (List.mem_append_left _ (List.mem_of_getElem? (i := 200) (by decide +kernel)))) rfl
theorem fL_X6_17 : Cond.fieldLink RX6 17 "IssueHouse" "nodes" "[LIssueHouse$Node;" ∈ wsAll := wsAll_of (List.mem_append_right _ (List.mem_append_left _ (List.mem_of_getElem? (i := 201) (by decide +kernel)))) rfl
theorem fL_X6_26 : Cond.fieldLink RX6 26 "IssueHouse" "unheld" "LIssueHouse$Row;" ∈ wsAll := wsAll_of (List.mem_append_right _ (List.mem_append_left _ (List.mem_of_getElem? (i := 202) (by decide +kernel)))) rfl
theorem fL_X6_35 : Cond.fieldLink RX6 35 "IssueHouse" "post" "LIssueHouse$Post;" ∈ wsAll := wsAll_of (List.mem_append_right _ (List.mem_append_left _ (List.mem_of_getElem? (i := 203) (by decide +kernel)))) rfl
theorem mL_L_95 : Cond.methodLink RL 95 yX6_letters ∈ wsAll := wsAll_of (List.mem_append_right _ (List.mem_append_left _ (List.mem_of_getElem? (i := 213) (by decide +kernel)))) rfl
theorem iM_X6_letters : Cond.instanceMethod yX6_letters ∈ wsAll := wsAll_of (List.mem_append_right _ (List.mem_append_left _ (List.mem_of_getElem? (i := 214) (by decide +kernel)))) rfl
theorem sL_X6_letters : Cond.selects yX6_letters.cls yX6_letters yX6_letters ∈ wsAll := wsAll_of (List.mem_append_right _ (List.mem_append_left _ (List.mem_of_getElem? (i := 215) (by decide +kernel)))) rfl
theorem cD_X6_letters : Cond.code yX6_letters cX6_letters 1 (some FieldType.int) ∈ wsAll := wsAll_of (List.mem_append_right _ (List.mem_append_left _ (List.mem_of_getElem? (i := 216) rfl))) rfl
theorem mL_L_71 : Cond.methodLink RL 71 yL_clock ∈ wsAll := wsAll_of (List.mem_append_right _ (List.mem_append_left _ (List.mem_of_getElem? (i := 217) (by decide +kernel)))) rfl
theorem sT_L_clock : Cond.static yL_clock ∈ wsAll := wsAll_of (List.mem_append_right _ (List.mem_append_left _ (List.mem_of_getElem? (i := 218) (by decide +kernel)))) rfl
theorem cW_L_clock : Cond.codeWith yL_clock cL_clock 5 (some FieldType.int) [(0, 6, 9, 13), (0, 6, 13, 15)] ∈ wsAll := wsAll_of (List.mem_append_right _ (List.mem_append_left _ (List.mem_of_getElem? (i := 219) rfl))) rfl
theorem kL_L_13 : Cond.classLink RL 13 "java/lang/IndexOutOfBoundsException" ∈ wsAll := wsAll_of (List.mem_append_right _ (List.mem_append_left _ (List.mem_of_getElem? (i := 220) (by decide +kernel)))) rfl
theorem kL_L_15 : Cond.classLink RL 15 "java/lang/IllegalArgumentException" ∈ wsAll := wsAll_of (List.mem_append_right _ (List.mem_append_left _ (List.mem_of_getElem? (i := 221) (by decide +kernel)))) rfl
theorem mL_L_7 : Cond.methodLink RL 7 yX6_clock ∈ wsAll := wsAll_of (List.mem_append_right _ (List.mem_append_left _ (List.mem_of_getElem? (i := 222) (by decide +kernel)))) rfl
theorem iM_X6_clock : Cond.instanceMethod yX6_clock ∈ wsAll := wsAll_of (List.mem_append_right _ (List.mem_append_left _ (List.mem_of_getElem? (i := 223) (by decide +kernel)))) rfl
theorem sL_X6_clock : Cond.selects yX6_clock.cls yX6_clock yX6_clock ∈ wsAll := wsAll_of (List.mem_append_right _ (List.mem_append_left _ (List.mem_of_getElem? (i := 224) (by decide +kernel)))) rfl
theorem cD_X6_clock : Cond.code yX6_clock cX6_clock 4 (none : Option FieldType) ∈ wsAll := wsAll_of (List.mem_append_right _ (List.mem_append_left _ (List.mem_of_getElem? (i := 225) rfl))) rfl
theorem mL_X6_43 : Cond.methodLink RX6 43 yX6_isWithin ∈ wsAll := wsAll_of (List.mem_append_right _ (List.mem_append_left _ (List.mem_of_getElem? (i := 226) (by decide +kernel)))) rfl
theorem sT_X6_isWithin : Cond.static yX6_isWithin ∈ wsAll := wsAll_of (List.mem_append_right _ (List.mem_append_left _ (List.mem_of_getElem? (i := 227) (by decide +kernel)))) rfl
theorem cD_X6_isWithin : Cond.code yX6_isWithin cX6_isWithin 2 (some FieldType.boolean) ∈ wsAll := wsAll_of (List.mem_append_right _ (List.mem_append_left _ (List.mem_of_getElem? (i := 228) rfl))) rfl
theorem kL_X6_47 : Cond.classLink RX6 47 "java/lang/IndexOutOfBoundsException" ∈ wsAll := wsAll_of (List.mem_append_right _ (List.mem_append_left _ (List.mem_of_getElem? (i := 229) (by decide +kernel)))) rfl
theorem iB_IndexOutOfBoundsException : Cond.instantiable "java/lang/IndexOutOfBoundsException" 6 ∈ wsAll := wsAll_of (List.mem_append_right _ (List.mem_append_left _ (List.mem_of_getElem? (i := 230) (by decide +kernel)))) rfl
theorem iB_Throwable : Cond.instantiable "java/lang/Throwable" 6 ∈ wsAll := wsAll_of (List.mem_append_right _ (List.mem_append_right _ (List.mem_append_left _ (List.mem_of_getElem? (i := 28) (by decide +kernel))))) rfl
theorem mL_X6_51 : Cond.methodLink RX6 51 (⟨"java/lang/IndexOutOfBoundsException", "<init>", "(Ljava/lang/String;)V"⟩ : MethodName) ∈ wsAll := wsAll_of (List.mem_append_right _ (List.mem_append_right _ (List.mem_append_left _ (List.mem_of_getElem? (i := 31) (by decide +kernel))))) rfl
theorem aC_byte : Cond.arrayClass .byte ∈ wsAll := wsAll_of (List.mem_append_right _ (List.mem_append_right _ (List.mem_append_left _ (List.mem_of_getElem? (i := 56) (by decide +kernel))))) rfl
theorem kJ_X6_54 : Cond.constantLong RX6 54 (2199023255551) ∈ wsAll := wsAll_of (List.mem_append_right _ (List.mem_append_right _ (List.mem_append_left _ (List.mem_of_getElem? (i := 57) (by decide +kernel))))) rfl
theorem kL_X6_56 : Cond.classLink RX6 56 "java/lang/IllegalArgumentException" ∈ wsAll := wsAll_of (List.mem_append_right _ (List.mem_append_right _ (List.mem_append_left _ (List.mem_of_getElem? (i := 58) (by decide +kernel))))) rfl
theorem iB_IllegalArgumentException : Cond.instantiable "java/lang/IllegalArgumentException" 6 ∈ wsAll := wsAll_of (List.mem_append_right _ (List.mem_append_right _ (List.mem_append_left _ (List.mem_of_getElem? (i := 59) (by decide +kernel))))) rfl
theorem mL_X6_60 : Cond.methodLink RX6 60 (⟨"java/lang/IllegalArgumentException", "<init>", "(Ljava/lang/String;)V"⟩ : MethodName) ∈ wsAll := wsAll_of (List.mem_append_right _ (List.mem_append_right _ (List.mem_append_left _ (List.mem_of_getElem? (i := 68) (by decide +kernel))))) rfl
theorem mL_L_81 : Cond.methodLink RL 81 yL_start ∈ wsAll := wsAll_of (List.mem_append_right _ (List.mem_append_right _ (List.mem_append_left _ (List.mem_of_getElem? (i := 74) (by decide +kernel))))) rfl
theorem sT_L_start : Cond.static yL_start ∈ wsAll := wsAll_of (List.mem_append_right _ (List.mem_append_right _ (List.mem_append_left _ (List.mem_of_getElem? (i := 75) (by decide +kernel))))) rfl
theorem cW_L_start : Cond.codeWith yL_start cL_start 3 (some FieldType.int) [(0, 5, 8, 13), (0, 5, 11, 21)] ∈ wsAll := wsAll_of (List.mem_append_right _ (List.mem_append_right _ (List.mem_append_left _ (List.mem_of_getElem? (i := 76) rfl)))) rfl
theorem kL_L_21 : Cond.classLink RL 21 "java/lang/IllegalStateException" ∈ wsAll := wsAll_of (List.mem_append_right _ (List.mem_append_right _ (List.mem_append_left _ (List.mem_of_getElem? (i := 77) (by decide +kernel))))) rfl
theorem mL_L_17 : Cond.methodLink RL 17 yX6_start ∈ wsAll := wsAll_of (List.mem_append_right _ (List.mem_append_right _ (List.mem_append_left _ (List.mem_of_getElem? (i := 78) (by decide +kernel))))) rfl
theorem iM_X6_start : Cond.instanceMethod yX6_start ∈ wsAll := wsAll_of (List.mem_append_right _ (List.mem_append_right _ (List.mem_append_left _ (List.mem_of_getElem? (i := 79) (by decide +kernel))))) rfl
theorem sL_X6_start : Cond.selects yX6_start.cls yX6_start yX6_start ∈ wsAll := wsAll_of (List.mem_append_right _ (List.mem_append_right _ (List.mem_append_left _ (List.mem_of_getElem? (i := 80) (by decide +kernel))))) rfl
theorem cD_X6_start : Cond.code yX6_start cX6_start 3 (none : Option FieldType) ∈ wsAll := wsAll_of (List.mem_append_right _ (List.mem_append_right _ (List.mem_append_left _ (List.mem_of_getElem? (i := 81) rfl)))) rfl
theorem mL_X6_65 : Cond.methodLink RX6 65 yX1_isReady ∈ wsAll := wsAll_of (List.mem_append_right _ (List.mem_append_right _ (List.mem_append_left _ (List.mem_of_getElem? (i := 82) (by decide +kernel))))) rfl
theorem iM_X1_isReady : Cond.instanceMethod yX1_isReady ∈ wsAll := wsAll_of (List.mem_append_right _ (List.mem_append_right _ (List.mem_append_left _ (List.mem_of_getElem? (i := 83) (by decide +kernel))))) rfl
theorem sL_X1_isReady : Cond.selects yX1_isReady.cls yX1_isReady yX1_isReady ∈ wsAll := wsAll_of (List.mem_append_right _ (List.mem_append_right _ (List.mem_append_left _ (List.mem_of_getElem? (i := 84) (by decide +kernel))))) rfl
theorem cD_X1_isReady : Cond.code yX1_isReady cX1_isReady 1 (some FieldType.boolean) ∈ wsAll := wsAll_of (List.mem_append_right _ (List.mem_append_right _ (List.mem_append_left _ (List.mem_of_getElem? (i := 85) rfl)))) rfl
theorem mL_X6_73 : Cond.methodLink RX6 73 yX4_hasRoomFor ∈ wsAll := wsAll_of (List.mem_append_right _ (List.mem_append_right _ (List.mem_append_left _ (List.mem_of_getElem? (i := 86) (by decide +kernel))))) rfl
theorem iM_X4_hasRoomFor : Cond.instanceMethod yX4_hasRoomFor ∈ wsAll := wsAll_of (List.mem_append_right _ (List.mem_append_right _ (List.mem_append_left _ (List.mem_of_getElem? (i := 87) (by decide +kernel))))) rfl
theorem sL_X4_hasRoomFor : Cond.selects yX4_hasRoomFor.cls yX4_hasRoomFor yX4_hasRoomFor ∈ wsAll := wsAll_of (List.mem_append_right _ (List.mem_append_right _ (List.mem_append_left _ (List.mem_of_getElem? (i := 88) (by decide +kernel))))) rfl
theorem cD_X4_hasRoomFor : Cond.code yX4_hasRoomFor cX4_hasRoomFor 2 (some FieldType.boolean) ∈ wsAll := wsAll_of (List.mem_append_right _ (List.mem_append_right _ (List.mem_append_left _ (List.mem_of_getElem? (i := 89) rfl)))) rfl
theorem kL_X6_77 : Cond.classLink RX6 77 "java/lang/IllegalStateException" ∈ wsAll := wsAll_of (List.mem_append_right _ (List.mem_append_right _ (List.mem_append_left _ (List.mem_of_getElem? (i := 90) (by decide +kernel))))) rfl
theorem iB_IllegalStateException : Cond.instantiable "java/lang/IllegalStateException" 6 ∈ wsAll := wsAll_of (List.mem_append_right _ (List.mem_append_right _ (List.mem_append_left _ (List.mem_of_getElem? (i := 91) (by decide +kernel))))) rfl
theorem mL_X6_81 : Cond.methodLink RX6 81 (⟨"java/lang/IllegalStateException", "<init>", "(Ljava/lang/String;)V"⟩ : MethodName) ∈ wsAll := wsAll_of (List.mem_append_right _ (List.mem_append_right _ (List.mem_append_left _ (List.mem_of_getElem? (i := 100) (by decide +kernel))))) rfl
theorem mL_X6_82 : Cond.methodLink RX6 82 yX6_attempt ∈ wsAll := wsAll_of (List.mem_append_right _ (List.mem_append_right _ (List.mem_append_left _ (List.mem_of_getElem? (i := 106) (by decide +kernel))))) rfl
theorem iM_X6_attempt : Cond.instanceMethod yX6_attempt ∈ wsAll := wsAll_of (List.mem_append_right _ (List.mem_append_right _ (List.mem_append_left _ (List.mem_of_getElem? (i := 108) (by decide +kernel))))) rfl
theorem cD_X6_attempt : Cond.code yX6_attempt cX6_attempt 3 (none : Option FieldType) ∈ wsAll := wsAll_of (List.mem_append_right _ (List.mem_append_right _ (List.mem_append_left _ (List.mem_of_getElem? (i := 109) rfl)))) rfl
theorem mL_X6_200 : Cond.methodLink RX6 200 yX1_prepare ∈ wsAll := wsAll_of (List.mem_append_right _ (List.mem_append_right _ (List.mem_append_left _ (List.mem_of_getElem? (i := 110) (by decide +kernel))))) rfl
theorem iM_X1_prepare : Cond.instanceMethod yX1_prepare ∈ wsAll := wsAll_of (List.mem_append_right _ (List.mem_append_right _ (List.mem_append_left _ (List.mem_of_getElem? (i := 111) (by decide +kernel))))) rfl
theorem sL_X1_prepare : Cond.selects yX1_prepare.cls yX1_prepare yX1_prepare ∈ wsAll := wsAll_of (List.mem_append_right _ (List.mem_append_right _ (List.mem_append_left _ (List.mem_of_getElem? (i := 112) (by decide +kernel))))) rfl
theorem cD_X1_prepare : Cond.code yX1_prepare cX1_prepare 2 (none : Option FieldType) ∈ wsAll := wsAll_of (List.mem_append_right _ (List.mem_append_right _ (List.mem_append_left _ (List.mem_of_getElem? (i := 113) rfl)))) rfl
theorem mL_X1_44 : Cond.methodLink RX1 44 yJ9_max_7cf53 ∈ wsAll := wsAll_of (List.mem_append_right _ (List.mem_append_right _ (List.mem_append_left _ (List.mem_of_getElem? (i := 114) (by decide +kernel))))) rfl
theorem sT_J9_max_7cf53 : Cond.static yJ9_max_7cf53 ∈ wsAll := wsAll_of (List.mem_append_right _ (List.mem_append_right _ (List.mem_append_left _ (List.mem_of_getElem? (i := 115) (by decide +kernel))))) rfl
theorem cD_J9_max_7cf53 : Cond.code yJ9_max_7cf53 cJ9_max_7cf53 2 (some FieldType.int) ∈ wsAll := wsAll_of (List.mem_append_right _ (List.mem_append_right _ (List.mem_append_left _ (List.mem_of_getElem? (i := 116) rfl)))) rfl
theorem mL_X6_207 : Cond.methodLink RX6 207 yX4_send ∈ wsAll := wsAll_of (List.mem_append_right _ (List.mem_append_right _ (List.mem_append_left _ (List.mem_of_getElem? (i := 117) (by decide +kernel))))) rfl
theorem iM_X4_send : Cond.instanceMethod yX4_send ∈ wsAll := wsAll_of (List.mem_append_right _ (List.mem_append_right _ (List.mem_append_left _ (List.mem_of_getElem? (i := 118) (by decide +kernel))))) rfl
theorem sL_X4_send : Cond.selects yX4_send.cls yX4_send yX4_send ∈ wsAll := wsAll_of (List.mem_append_right _ (List.mem_append_right _ (List.mem_append_left _ (List.mem_of_getElem? (i := 119) (by decide +kernel))))) rfl
theorem cD_X4_send : Cond.code yX4_send cX4_send 6 (some (FieldType.object "IssueHouse$Letter")) ∈ wsAll := wsAll_of (List.mem_append_right _ (List.mem_append_right _ (List.mem_append_left _ (List.mem_of_getElem? (i := 120) rfl)))) rfl
theorem mL_L_85 : Cond.methodLink RL 85 yL_prolong ∈ wsAll := wsAll_of (List.mem_append_right _ (List.mem_append_right _ (List.mem_append_left _ (List.mem_of_getElem? (i := 121) (by decide +kernel))))) rfl
theorem sT_L_prolong : Cond.static yL_prolong ∈ wsAll := wsAll_of (List.mem_append_right _ (List.mem_append_right _ (List.mem_append_left _ (List.mem_of_getElem? (i := 122) (by decide +kernel))))) rfl
theorem cW_L_prolong : Cond.codeWith yL_prolong cL_prolong 3 (some FieldType.int) [(0, 5, 8, 13), (0, 5, 11, 21)] ∈ wsAll := wsAll_of (List.mem_append_right _ (List.mem_append_right _ (List.mem_append_left _ (List.mem_of_getElem? (i := 123) rfl)))) rfl
theorem mL_L_23 : Cond.methodLink RL 23 yX6_prolong ∈ wsAll := wsAll_of (List.mem_append_right _ (List.mem_append_right _ (List.mem_append_left _ (List.mem_of_getElem? (i := 124) (by decide +kernel))))) rfl
theorem iM_X6_prolong : Cond.instanceMethod yX6_prolong ∈ wsAll := wsAll_of (List.mem_append_right _ (List.mem_append_right _ (List.mem_append_left _ (List.mem_of_getElem? (i := 125) (by decide +kernel))))) rfl
theorem sL_X6_prolong : Cond.selects yX6_prolong.cls yX6_prolong yX6_prolong ∈ wsAll := wsAll_of (List.mem_append_right _ (List.mem_append_right _ (List.mem_append_left _ (List.mem_of_getElem? (i := 126) (by decide +kernel))))) rfl
theorem cD_X6_prolong : Cond.code yX6_prolong cX6_prolong 3 (none : Option FieldType) ∈ wsAll := wsAll_of (List.mem_append_right _ (List.mem_append_right _ (List.mem_append_left _ (List.mem_of_getElem? (i := 127) rfl)))) rfl
theorem mL_L_88 : Cond.methodLink RL 88 yL_crash ∈ wsAll := wsAll_of (List.mem_append_right _ (List.mem_append_right _ (List.mem_append_left _ (List.mem_of_getElem? (i := 129) (by decide +kernel))))) rfl
theorem sT_L_crash : Cond.static yL_crash ∈ wsAll := wsAll_of (List.mem_append_right _ (List.mem_append_right _ (List.mem_append_left _ (List.mem_of_getElem? (i := 130) (by decide +kernel))))) rfl
theorem cW_L_crash : Cond.codeWith yL_crash cL_crash 3 (some FieldType.int) [(0, 5, 8, 13)] ∈ wsAll := wsAll_of (List.mem_append_right _ (List.mem_append_right _ (List.mem_append_left _ (List.mem_of_getElem? (i := 131) rfl)))) rfl
theorem mL_L_26 : Cond.methodLink RL 26 yX6_crash ∈ wsAll := wsAll_of (List.mem_append_right _ (List.mem_append_right _ (List.mem_append_left _ (List.mem_of_getElem? (i := 132) (by decide +kernel))))) rfl
theorem iM_X6_crash : Cond.instanceMethod yX6_crash ∈ wsAll := wsAll_of (List.mem_append_right _ (List.mem_append_right _ (List.mem_append_left _ (List.mem_of_getElem? (i := 133) (by decide +kernel))))) rfl
theorem sL_X6_crash : Cond.selects yX6_crash.cls yX6_crash yX6_crash ∈ wsAll := wsAll_of (List.mem_append_right _ (List.mem_append_right _ (List.mem_append_left _ (List.mem_of_getElem? (i := 134) (by decide +kernel))))) rfl
theorem cD_X6_crash : Cond.code yX6_crash cX6_crash 2 (none : Option FieldType) ∈ wsAll := wsAll_of (List.mem_append_right _ (List.mem_append_right _ (List.mem_append_left _ (List.mem_of_getElem? (i := 135) rfl)))) rfl
theorem mL_X6_88 : Cond.methodLink RX6 88 yX1_breakDown ∈ wsAll := wsAll_of (List.mem_append_right _ (List.mem_append_right _ (List.mem_append_left _ (List.mem_of_getElem? (i := 136) (by decide +kernel))))) rfl
theorem iM_X1_breakDown : Cond.instanceMethod yX1_breakDown ∈ wsAll := wsAll_of (List.mem_append_right _ (List.mem_append_right _ (List.mem_append_left _ (List.mem_of_getElem? (i := 137) (by decide +kernel))))) rfl
theorem sL_X1_breakDown : Cond.selects yX1_breakDown.cls yX1_breakDown yX1_breakDown ∈ wsAll := wsAll_of (List.mem_append_right _ (List.mem_append_right _ (List.mem_append_left _ (List.mem_of_getElem? (i := 138) (by decide +kernel))))) rfl
theorem cD_X1_breakDown : Cond.code yX1_breakDown cX1_breakDown 1 (none : Option FieldType) ∈ wsAll := wsAll_of (List.mem_append_right _ (List.mem_append_right _ (List.mem_append_left _ (List.mem_of_getElem? (i := 139) rfl)))) rfl
theorem mL_X1_62 : Cond.methodLink RX1 62 yX1_hold ∈ wsAll := wsAll_of (List.mem_append_right _ (List.mem_append_right _ (List.mem_append_left _ (List.mem_of_getElem? (i := 140) (by decide +kernel))))) rfl
theorem iM_X1_hold : Cond.instanceMethod yX1_hold ∈ wsAll := wsAll_of (List.mem_append_right _ (List.mem_append_right _ (List.mem_append_left _ (List.mem_of_getElem? (i := 141) (by decide +kernel))))) rfl
theorem sL_X1_hold : Cond.selects yX1_hold.cls yX1_hold yX1_hold ∈ wsAll := wsAll_of (List.mem_append_right _ (List.mem_append_right _ (List.mem_append_left _ (List.mem_of_getElem? (i := 142) (by decide +kernel))))) rfl
theorem cD_X1_hold : Cond.code yX1_hold cX1_hold 2 (none : Option FieldType) ∈ wsAll := wsAll_of (List.mem_append_right _ (List.mem_append_right _ (List.mem_append_left _ (List.mem_of_getElem? (i := 143) rfl)))) rfl
theorem mL_L_91 : Cond.methodLink RL 91 yL_node ∈ wsAll := wsAll_of (List.mem_append_right _ (List.mem_append_right _ (List.mem_append_left _ (List.mem_of_getElem? (i := 144) (by decide +kernel))))) rfl
theorem sT_L_node : Cond.static yL_node ∈ wsAll := wsAll_of (List.mem_append_right _ (List.mem_append_right _ (List.mem_append_left _ (List.mem_of_getElem? (i := 145) (by decide +kernel))))) rfl
theorem cW_L_node : Cond.codeWith yL_node cL_node 4 (some FieldType.int) [(0, 6, 9, 13)] ∈ wsAll := wsAll_of (List.mem_append_right _ (List.mem_append_right _ (List.mem_append_left _ (List.mem_of_getElem? (i := 146) rfl)))) rfl
theorem mL_L_29 : Cond.methodLink RL 29 yX6_node ∈ wsAll := wsAll_of (List.mem_append_right _ (List.mem_append_right _ (List.mem_append_left _ (List.mem_of_getElem? (i := 147) (by decide +kernel))))) rfl
theorem iM_X6_node : Cond.instanceMethod yX6_node ∈ wsAll := wsAll_of (List.mem_append_right _ (List.mem_append_right _ (List.mem_append_left _ (List.mem_of_getElem? (i := 148) (by decide +kernel))))) rfl
theorem sL_X6_node : Cond.selects yX6_node.cls yX6_node yX6_node ∈ wsAll := wsAll_of (List.mem_append_right _ (List.mem_append_right _ (List.mem_append_left _ (List.mem_of_getElem? (i := 149) (by decide +kernel))))) rfl
theorem cD_X6_node : Cond.code yX6_node cX6_node 3 (none : Option FieldType) ∈ wsAll := wsAll_of (List.mem_append_right _ (List.mem_append_right _ (List.mem_append_left _ (List.mem_of_getElem? (i := 150) rfl)))) rfl
theorem mL_L_99 : Cond.methodLink RL 99 yL_deliver ∈ wsAll := wsAll_of (List.mem_append_right _ (List.mem_append_right _ (List.mem_append_left _ (List.mem_of_getElem? (i := 152) (by decide +kernel))))) rfl
theorem sT_L_deliver : Cond.static yL_deliver ∈ wsAll := wsAll_of (List.mem_append_right _ (List.mem_append_right _ (List.mem_append_left _ (List.mem_of_getElem? (i := 153) (by decide +kernel))))) rfl
theorem cW_L_deliver : Cond.codeWith yL_deliver cL_deliver 4 (some FieldType.int) [(0, 9, 12, 13), (0, 9, 15, 21)] ∈ wsAll := wsAll_of (List.mem_append_right _ (List.mem_append_right _ (List.mem_append_left _ (List.mem_of_getElem? (i := 154) rfl)))) rfl
theorem mL_L_33 : Cond.methodLink RL 33 yX6_deliver ∈ wsAll := wsAll_of (List.mem_append_right _ (List.mem_append_right _ (List.mem_append_left _ (List.mem_of_getElem? (i := 155) (by decide +kernel))))) rfl
theorem iM_X6_deliver : Cond.instanceMethod yX6_deliver ∈ wsAll := wsAll_of (List.mem_append_right _ (List.mem_append_right _ (List.mem_append_left _ (List.mem_of_getElem? (i := 156) (by decide +kernel))))) rfl
theorem sL_X6_deliver : Cond.selects yX6_deliver.cls yX6_deliver yX6_deliver ∈ wsAll := wsAll_of (List.mem_append_right _ (List.mem_append_right _ (List.mem_append_left _ (List.mem_of_getElem? (i := 157) (by decide +kernel))))) rfl
theorem cD_X6_deliver : Cond.code yX6_deliver cX6_deliver 4 (some FieldType.int) ∈ wsAll := wsAll_of (List.mem_append_right _ (List.mem_append_right _ (List.mem_append_left _ (List.mem_of_getElem? (i := 158) rfl)))) rfl
theorem mL_X6_102 : Cond.methodLink RX6 102 yX4_at ∈ wsAll := wsAll_of (List.mem_append_right _ (List.mem_append_right _ (List.mem_append_left _ (List.mem_of_getElem? (i := 160) (by decide +kernel))))) rfl
theorem iM_X4_at : Cond.instanceMethod yX4_at ∈ wsAll := wsAll_of (List.mem_append_right _ (List.mem_append_right _ (List.mem_append_left _ (List.mem_of_getElem? (i := 161) (by decide +kernel))))) rfl
theorem sL_X4_at : Cond.selects yX4_at.cls yX4_at yX4_at ∈ wsAll := wsAll_of (List.mem_append_right _ (List.mem_append_right _ (List.mem_append_left _ (List.mem_of_getElem? (i := 162) (by decide +kernel))))) rfl
theorem cD_X4_at : Cond.code yX4_at cX4_at 2 (some (FieldType.object "IssueHouse$Letter")) ∈ wsAll := wsAll_of (List.mem_append_right _ (List.mem_append_right _ (List.mem_append_left _ (List.mem_of_getElem? (i := 163) rfl)))) rfl
theorem mL_X6_106 : Cond.methodLink RX6 106 yX2_isToNode ∈ wsAll := wsAll_of (List.mem_append_right _ (List.mem_append_right _ (List.mem_append_left _ (List.mem_of_getElem? (i := 164) (by decide +kernel))))) rfl
theorem iM_X2_isToNode : Cond.instanceMethod yX2_isToNode ∈ wsAll := wsAll_of (List.mem_append_right _ (List.mem_append_right _ (List.mem_append_left _ (List.mem_of_getElem? (i := 165) (by decide +kernel))))) rfl
theorem sL_X2_isToNode : Cond.selects yX2_isToNode.cls yX2_isToNode yX2_isToNode ∈ wsAll := wsAll_of (List.mem_append_right _ (List.mem_append_right _ (List.mem_append_left _ (List.mem_of_getElem? (i := 166) (by decide +kernel))))) rfl
theorem cD_X2_isToNode : Cond.code yX2_isToNode cX2_isToNode 1 (some FieldType.boolean) ∈ wsAll := wsAll_of (List.mem_append_right _ (List.mem_append_right _ (List.mem_append_left _ (List.mem_of_getElem? (i := 167) rfl)))) rfl
theorem mL_X6_111 : Cond.methodLink RX6 111 yX4_take ∈ wsAll := wsAll_of (List.mem_append_right _ (List.mem_append_right _ (List.mem_append_left _ (List.mem_of_getElem? (i := 168) (by decide +kernel))))) rfl
theorem iM_X4_take : Cond.instanceMethod yX4_take ∈ wsAll := wsAll_of (List.mem_append_right _ (List.mem_append_right _ (List.mem_append_left _ (List.mem_of_getElem? (i := 169) (by decide +kernel))))) rfl
theorem sL_X4_take : Cond.selects yX4_take.cls yX4_take yX4_take ∈ wsAll := wsAll_of (List.mem_append_right _ (List.mem_append_right _ (List.mem_append_left _ (List.mem_of_getElem? (i := 170) (by decide +kernel))))) rfl
theorem cD_X4_take : Cond.code yX4_take cX4_take 4 (none : Option FieldType) ∈ wsAll := wsAll_of (List.mem_append_right _ (List.mem_append_right _ (List.mem_append_left _ (List.mem_of_getElem? (i := 171) rfl)))) rfl
theorem mL_X6_115 : Cond.methodLink RX6 115 yX6_handToNode ∈ wsAll := wsAll_of (List.mem_append_right _ (List.mem_append_right _ (List.mem_append_left _ (List.mem_of_getElem? (i := 172) (by decide +kernel))))) rfl
theorem iM_X6_handToNode : Cond.instanceMethod yX6_handToNode ∈ wsAll := wsAll_of (List.mem_append_right _ (List.mem_append_right _ (List.mem_append_left _ (List.mem_of_getElem? (i := 174) (by decide +kernel))))) rfl
theorem cD_X6_handToNode : Cond.code yX6_handToNode cX6_handToNode 3 (some FieldType.int) ∈ wsAll := wsAll_of (List.mem_append_right _ (List.mem_append_right _ (List.mem_append_left _ (List.mem_of_getElem? (i := 175) rfl)))) rfl
theorem mL_X6_211 : Cond.methodLink RX6 211 yX3_answerPrepare ∈ wsAll := wsAll_of (List.mem_append_right _ (List.mem_append_right _ (List.mem_append_left _ (List.mem_of_getElem? (i := 176) (by decide +kernel))))) rfl
theorem iM_X3_answerPrepare : Cond.instanceMethod yX3_answerPrepare ∈ wsAll := wsAll_of (List.mem_append_right _ (List.mem_append_right _ (List.mem_append_left _ (List.mem_of_getElem? (i := 177) (by decide +kernel))))) rfl
theorem sL_X3_answerPrepare : Cond.selects yX3_answerPrepare.cls yX3_answerPrepare yX3_answerPrepare ∈ wsAll := wsAll_of (List.mem_append_right _ (List.mem_append_right _ (List.mem_append_left _ (List.mem_of_getElem? (i := 178) (by decide +kernel))))) rfl
theorem cD_X3_answerPrepare : Cond.code yX3_answerPrepare cX3_answerPrepare 3 (none : Option FieldType) ∈ wsAll := wsAll_of (List.mem_append_right _ (List.mem_append_right _ (List.mem_append_left _ (List.mem_of_getElem? (i := 179) rfl)))) rfl
theorem mL_X3_30 : Cond.methodLink RX3 30 yX3_refuse ∈ wsAll := wsAll_of (List.mem_append_right _ (List.mem_append_right _ (List.mem_append_left _ (List.mem_of_getElem? (i := 180) (by decide +kernel))))) rfl
theorem iM_X3_refuse : Cond.instanceMethod yX3_refuse ∈ wsAll := wsAll_of (List.mem_append_right _ (List.mem_append_right _ (List.mem_append_left _ (List.mem_of_getElem? (i := 181) (by decide +kernel))))) rfl
theorem sL_X3_refuse : Cond.selects yX3_refuse.cls yX3_refuse yX3_refuse ∈ wsAll := wsAll_of (List.mem_append_right _ (List.mem_append_right _ (List.mem_append_left _ (List.mem_of_getElem? (i := 182) (by decide +kernel))))) rfl
theorem cD_X3_refuse : Cond.code yX3_refuse cX3_refuse 3 (none : Option FieldType) ∈ wsAll := wsAll_of (List.mem_append_right _ (List.mem_append_right _ (List.mem_append_left _ (List.mem_of_getElem? (i := 183) rfl)))) rfl
theorem mL_X3_40 : Cond.methodLink RX3 40 yX4_send ∈ wsAll := wsAll_of (List.mem_append_right _ (List.mem_append_right _ (List.mem_append_left _ (List.mem_of_getElem? (i := 184) (by decide +kernel))))) rfl
theorem mL_X3_46 : Cond.methodLink RX3 46 yX2_copyRows ∈ wsAll := wsAll_of (List.mem_append_right _ (List.mem_append_right _ (List.mem_append_left _ (List.mem_of_getElem? (i := 185) (by decide +kernel))))) rfl
theorem iM_X2_copyRows : Cond.instanceMethod yX2_copyRows ∈ wsAll := wsAll_of (List.mem_append_right _ (List.mem_append_right _ (List.mem_append_left _ (List.mem_of_getElem? (i := 186) (by decide +kernel))))) rfl
theorem sL_X2_copyRows : Cond.selects yX2_copyRows.cls yX2_copyRows yX2_copyRows ∈ wsAll := wsAll_of (List.mem_append_right _ (List.mem_append_right _ (List.mem_append_left _ (List.mem_of_getElem? (i := 187) (by decide +kernel))))) rfl
theorem cD_X2_copyRows : Cond.code yX2_copyRows cX2_copyRows 3 (none : Option FieldType) ∈ wsAll := wsAll_of (List.mem_append_right _ (List.mem_append_right _ (List.mem_append_left _ (List.mem_of_getElem? (i := 188) rfl)))) rfl
theorem mL_X6_215 : Cond.methodLink RX6 215 yX3_answerAccept ∈ wsAll := wsAll_of (List.mem_append_right _ (List.mem_append_right _ (List.mem_append_left _ (List.mem_of_getElem? (i := 189) (by decide +kernel))))) rfl
theorem iM_X3_answerAccept : Cond.instanceMethod yX3_answerAccept ∈ wsAll := wsAll_of (List.mem_append_right _ (List.mem_append_right _ (List.mem_append_left _ (List.mem_of_getElem? (i := 190) (by decide +kernel))))) rfl
theorem sL_X3_answerAccept : Cond.selects yX3_answerAccept.cls yX3_answerAccept yX3_answerAccept ∈ wsAll := wsAll_of (List.mem_append_right _ (List.mem_append_right _ (List.mem_append_left _ (List.mem_of_getElem? (i := 191) (by decide +kernel))))) rfl
theorem cD_X3_answerAccept : Cond.code yX3_answerAccept cX3_answerAccept 3 (none : Option FieldType) ∈ wsAll := wsAll_of (List.mem_append_right _ (List.mem_append_right _ (List.mem_append_left _ (List.mem_of_getElem? (i := 192) rfl)))) rfl
theorem mL_X6_122 : Cond.methodLink RX6 122 yX1_isDecidedBy ∈ wsAll := wsAll_of (List.mem_append_right _ (List.mem_append_right _ (List.mem_append_left _ (List.mem_of_getElem? (i := 193) (by decide +kernel))))) rfl
theorem iM_X1_isDecidedBy : Cond.instanceMethod yX1_isDecidedBy ∈ wsAll := wsAll_of (List.mem_append_right _ (List.mem_append_right _ (List.mem_append_left _ (List.mem_of_getElem? (i := 194) (by decide +kernel))))) rfl
theorem sL_X1_isDecidedBy : Cond.selects yX1_isDecidedBy.cls yX1_isDecidedBy yX1_isDecidedBy ∈ wsAll := wsAll_of (List.mem_append_right _ (List.mem_append_right _ (List.mem_append_left _ (List.mem_of_getElem? (i := 195) (by decide +kernel))))) rfl
theorem cD_X1_isDecidedBy : Cond.code yX1_isDecidedBy cX1_isDecidedBy 2 (some FieldType.boolean) ∈ wsAll := wsAll_of (List.mem_append_right _ (List.mem_append_right _ (List.mem_append_left _ (List.mem_of_getElem? (i := 196) rfl)))) rfl
theorem mL_X1_74 : Cond.methodLink RX1 74 yX1_counts ∈ wsAll := wsAll_of (List.mem_append_right _ (List.mem_append_right _ (List.mem_append_left _ (List.mem_of_getElem? (i := 197) (by decide +kernel))))) rfl
theorem iM_X1_counts : Cond.instanceMethod yX1_counts ∈ wsAll := wsAll_of (List.mem_append_right _ (List.mem_append_right _ (List.mem_append_left _ (List.mem_of_getElem? (i := 198) (by decide +kernel))))) rfl
theorem sL_X1_counts : Cond.selects yX1_counts.cls yX1_counts yX1_counts ∈ wsAll := wsAll_of (List.mem_append_right _ (List.mem_append_right _ (List.mem_append_left _ (List.mem_of_getElem? (i := 199) (by decide +kernel))))) rfl
theorem cD_X1_counts : Cond.code yX1_counts cX1_counts 3 (some FieldType.boolean) ∈ wsAll := wsAll_of (List.mem_append_right _ (List.mem_append_right _ (List.mem_append_left _ (List.mem_of_getElem? (i := 200) rfl)))) rfl
theorem mL_X1_78 : Cond.methodLink RX1 78 yX1_isMajorityWith ∈ wsAll := wsAll_of (List.mem_append_right _ (List.mem_append_right _ (List.mem_append_left _ (List.mem_of_getElem? (i := 201) (by decide +kernel))))) rfl
theorem iM_X1_isMajorityWith : Cond.instanceMethod yX1_isMajorityWith ∈ wsAll := wsAll_of (List.mem_append_right _ (List.mem_append_right _ (List.mem_append_left _ (List.mem_of_getElem? (i := 202) (by decide +kernel))))) rfl
theorem sL_X1_isMajorityWith : Cond.selects yX1_isMajorityWith.cls yX1_isMajorityWith yX1_isMajorityWith ∈ wsAll := wsAll_of (List.mem_append_right _ (List.mem_append_right _ (List.mem_append_left _ (List.mem_of_getElem? (i := 203) (by decide +kernel))))) rfl
theorem cD_X1_isMajorityWith : Cond.code yX1_isMajorityWith cX1_isMajorityWith 2 (some FieldType.boolean) ∈ wsAll := wsAll_of (List.mem_append_right _ (List.mem_append_right _ (List.mem_append_left _ (List.mem_of_getElem? (i := 204) rfl)))) rfl
theorem mL_X1_99 : Cond.methodLink RX1 99 yJ6_bitCount_0f7a4 ∈ wsAll := wsAll_of (List.mem_append_right _ (List.mem_append_right _ (List.mem_append_left _ (List.mem_of_getElem? (i := 205) (by decide +kernel))))) rfl
theorem sT_J6_bitCount_0f7a4 : Cond.static yJ6_bitCount_0f7a4 ∈ wsAll := wsAll_of (List.mem_append_right _ (List.mem_append_right _ (List.mem_append_left _ (List.mem_of_getElem? (i := 206) (by decide +kernel))))) rfl
theorem cD_J6_bitCount_0f7a4 : Cond.code yJ6_bitCount_0f7a4 cJ6_bitCount_0f7a4 1 (some FieldType.int) ∈ wsAll := wsAll_of (List.mem_append_right _ (List.mem_append_right _ (List.mem_append_left _ (List.mem_of_getElem? (i := 207) rfl)))) rfl
theorem kI_J6_265 : Cond.constant RJ6 265 (1431655765) ∈ wsAll := wsAll_of (List.mem_append_right _ (List.mem_append_right _ (List.mem_append_left _ (List.mem_of_getElem? (i := 208) (by decide +kernel))))) rfl
theorem kI_J6_266 : Cond.constant RJ6 266 (858993459) ∈ wsAll := wsAll_of (List.mem_append_right _ (List.mem_append_right _ (List.mem_append_left _ (List.mem_of_getElem? (i := 209) (by decide +kernel))))) rfl
theorem kI_J6_267 : Cond.constant RJ6 267 (252645135) ∈ wsAll := wsAll_of (List.mem_append_right _ (List.mem_append_right _ (List.mem_append_left _ (List.mem_of_getElem? (i := 210) (by decide +kernel))))) rfl
theorem mL_X6_126 : Cond.methodLink RX6 126 yX6_decide ∈ wsAll := wsAll_of (List.mem_append_right _ (List.mem_append_right _ (List.mem_append_left _ (List.mem_of_getElem? (i := 211) (by decide +kernel))))) rfl
theorem iM_X6_decide : Cond.instanceMethod yX6_decide ∈ wsAll := wsAll_of (List.mem_append_right _ (List.mem_append_right _ (List.mem_append_left _ (List.mem_of_getElem? (i := 213) (by decide +kernel))))) rfl
theorem cD_X6_decide : Cond.code yX6_decide cX6_decide 6 (some FieldType.int) ∈ wsAll := wsAll_of (List.mem_append_right _ (List.mem_append_right _ (List.mem_append_left _ (List.mem_of_getElem? (i := 214) rfl)))) rfl
theorem mL_X6_218 : Cond.methodLink RX6 218 yX1_wishWith ∈ wsAll := wsAll_of (List.mem_append_right _ (List.mem_append_right _ (List.mem_append_left _ (List.mem_of_getElem? (i := 215) (by decide +kernel))))) rfl
theorem iM_X1_wishWith : Cond.instanceMethod yX1_wishWith ∈ wsAll := wsAll_of (List.mem_append_right _ (List.mem_append_right _ (List.mem_append_left _ (List.mem_of_getElem? (i := 216) (by decide +kernel))))) rfl
theorem sL_X1_wishWith : Cond.selects yX1_wishWith.cls yX1_wishWith yX1_wishWith ∈ wsAll := wsAll_of (List.mem_append_right _ (List.mem_append_right _ (List.mem_append_left _ (List.mem_of_getElem? (i := 217) (by decide +kernel))))) rfl
theorem cD_X1_wishWith : Cond.code yX1_wishWith cX1_wishWith 9 (some (FieldType.object "IssueHouse$Grant")) ∈ wsAll := wsAll_of (List.mem_append_right _ (List.mem_append_right _ (List.mem_append_left _ (List.mem_of_getElem? (i := 218) rfl)))) rfl
theorem mL_X1_117 : Cond.methodLink RX1 117 yX1_chooseSeat ∈ wsAll := wsAll_of (List.mem_append_right _ (List.mem_append_right _ (List.mem_append_left _ (List.mem_of_getElem? (i := 219) (by decide +kernel))))) rfl
theorem iM_X1_chooseSeat : Cond.instanceMethod yX1_chooseSeat ∈ wsAll := wsAll_of (List.mem_append_right _ (List.mem_append_right _ (List.mem_append_left _ (List.mem_of_getElem? (i := 220) (by decide +kernel))))) rfl
theorem sL_X1_chooseSeat : Cond.selects yX1_chooseSeat.cls yX1_chooseSeat yX1_chooseSeat ∈ wsAll := wsAll_of (List.mem_append_right _ (List.mem_append_right _ (List.mem_append_left _ (List.mem_of_getElem? (i := 221) (by decide +kernel))))) rfl
theorem cD_X1_chooseSeat : Cond.code yX1_chooseSeat cX1_chooseSeat 3 (some FieldType.int) ∈ wsAll := wsAll_of (List.mem_append_right _ (List.mem_append_right _ (List.mem_append_left _ (List.mem_of_getElem? (i := 222) rfl)))) rfl
theorem mL_X1_146 : Cond.methodLink RX1 146 yX1_lowestSeatOf ∈ wsAll := wsAll_of (List.mem_append_right _ (List.mem_append_right _ (List.mem_append_left _ (List.mem_of_getElem? (i := 223) (by decide +kernel))))) rfl
theorem iM_X1_lowestSeatOf : Cond.instanceMethod yX1_lowestSeatOf ∈ wsAll := wsAll_of (List.mem_append_right _ (List.mem_append_right _ (List.mem_append_left _ (List.mem_of_getElem? (i := 224) (by decide +kernel))))) rfl
theorem sL_X1_lowestSeatOf : Cond.selects yX1_lowestSeatOf.cls yX1_lowestSeatOf yX1_lowestSeatOf ∈ wsAll := wsAll_of (List.mem_append_right _ (List.mem_append_right _ (List.mem_append_left _ (List.mem_of_getElem? (i := 225) (by decide +kernel))))) rfl
theorem cD_X1_lowestSeatOf : Cond.code yX1_lowestSeatOf cX1_lowestSeatOf 4 (some FieldType.int) ∈ wsAll := wsAll_of (List.mem_append_right _ (List.mem_append_right _ (List.mem_append_left _ (List.mem_of_getElem? (i := 226) rfl)))) rfl
theorem mL_X1_108 : Cond.methodLink RX1 108 yX5_orNewer ∈ wsAll := wsAll_of (List.mem_append_right _ (List.mem_append_right _ (List.mem_append_left _ (List.mem_of_getElem? (i := 227) (by decide +kernel))))) rfl
theorem iM_X5_orNewer : Cond.instanceMethod yX5_orNewer ∈ wsAll := wsAll_of (List.mem_append_right _ (List.mem_append_right _ (List.mem_append_left _ (List.mem_of_getElem? (i := 228) (by decide +kernel))))) rfl
theorem sL_X5_orNewer : Cond.selects yX5_orNewer.cls yX5_orNewer yX5_orNewer ∈ wsAll := wsAll_of (List.mem_append_right _ (List.mem_append_right _ (List.mem_append_left _ (List.mem_of_getElem? (i := 229) (by decide +kernel))))) rfl
theorem cD_X5_orNewer : Cond.code yX5_orNewer cX5_orNewer 2 (some (FieldType.object "IssueHouse$Row")) ∈ wsAll := wsAll_of (List.mem_append_right _ (List.mem_append_right _ (List.mem_append_left _ (List.mem_of_getElem? (i := 230) rfl)))) rfl
theorem mL_X1_127 : Cond.methodLink RX1 127 yJ9_max_f86c9 ∈ wsAll := wsAll_of (List.mem_append_right _ (List.mem_append_right _ (List.mem_append_left _ (List.mem_of_getElem? (i := 231) (by decide +kernel))))) rfl
theorem sT_J9_max_f86c9 : Cond.static yJ9_max_f86c9 ∈ wsAll := wsAll_of (List.mem_append_right _ (List.mem_append_right _ (List.mem_append_left _ (List.mem_of_getElem? (i := 232) (by decide +kernel))))) rfl
theorem cD_J9_max_f86c9 : Cond.code yJ9_max_f86c9 cJ9_max_f86c9 4 (some FieldType.long) ∈ wsAll := wsAll_of (List.mem_append_right _ (List.mem_append_right _ (List.mem_append_left _ (List.mem_of_getElem? (i := 233) rfl)))) rfl
theorem kJ_X1_130 : Cond.constantLong RX1 130 (60000) ∈ wsAll := wsAll_of (List.mem_append_right _ (List.mem_append_right _ (List.mem_append_left _ (List.mem_of_getElem? (i := 234) (by decide +kernel))))) rfl
theorem kJ_X1_132 : Cond.constantLong RX1 132 (2199023255551) ∈ wsAll := wsAll_of (List.mem_append_right _ (List.mem_append_right _ (List.mem_append_left _ (List.mem_of_getElem? (i := 235) (by decide +kernel))))) rfl
theorem kL_X1_113 : Cond.classLink RX1 113 RX0 ∈ wsAll := wsAll_of (List.mem_append_right _ (List.mem_append_right _ (List.mem_append_left _ (List.mem_of_getElem? (i := 236) (by decide +kernel))))) rfl
theorem iB_X0 : Cond.instantiable RX0 3 ∈ wsAll := wsAll_of (List.mem_append_right _ (List.mem_append_right _ (List.mem_append_left _ (List.mem_of_getElem? (i := 237) (by decide +kernel))))) rfl
theorem mL_X1_140 : Cond.methodLink RX1 140 yX5_init ∈ wsAll := wsAll_of (List.mem_append_right _ (List.mem_append_right _ (List.mem_append_left _ (List.mem_of_getElem? (i := 238) (by decide +kernel))))) rfl
theorem mL_X1_143 : Cond.methodLink RX1 143 yX0_init ∈ wsAll := wsAll_of (List.mem_append_right _ (List.mem_append_right _ (List.mem_append_left _ (List.mem_of_getElem? (i := 239) (by decide +kernel))))) rfl
theorem iM_X0_init : Cond.instanceMethod yX0_init ∈ wsAll := wsAll_of (List.mem_append_right _ (List.mem_append_right _ (List.mem_append_right _ (List.mem_append_left _ (List.mem_of_getElem? (i := 0) (by decide +kernel)))))) rfl
theorem cD_X0_init : Cond.code yX0_init cX0_init 5 (none : Option FieldType) ∈ wsAll := wsAll_of (List.mem_append_right _ (List.mem_append_right _ (List.mem_append_right _ (List.mem_append_left _ (List.mem_of_getElem? (i := 1) rfl))))) rfl
theorem mL_X0_1 : Cond.methodLink RX0 1 (⟨"java/lang/Object", "<init>", "()V"⟩ : MethodName) ∈ wsAll := wsAll_of (List.mem_append_right _ (List.mem_append_right _ (List.mem_append_right _ (List.mem_append_left _ (List.mem_of_getElem? (i := 2) (by decide +kernel)))))) rfl
theorem fL_X0_7 : Cond.fieldLink RX0 7 "IssueHouse$Grant" "seat" "I" ∈ wsAll := wsAll_of (List.mem_append_right _ (List.mem_append_right _ (List.mem_append_right _ (List.mem_append_left _ (List.mem_of_getElem? (i := 3) (by decide +kernel)))))) rfl
theorem fL_X1_112 : Cond.fieldLink RX1 112 "IssueHouse$Grant" "seat" "I" ∈ wsAll := wsAll_of (List.mem_append_right _ (List.mem_append_right _ (List.mem_append_right _ (List.mem_append_left _ (List.mem_of_getElem? (i := 4) (by decide +kernel)))))) rfl
theorem fL_X6_229 : Cond.fieldLink RX6 229 "IssueHouse$Grant" "seat" "I" ∈ wsAll := wsAll_of (List.mem_append_right _ (List.mem_append_right _ (List.mem_append_right _ (List.mem_append_left _ (List.mem_of_getElem? (i := 5) (by decide +kernel)))))) rfl
theorem fL_X0_13 : Cond.fieldLink RX0 13 "IssueHouse$Grant" "first" "J" ∈ wsAll := wsAll_of (List.mem_append_right _ (List.mem_append_right _ (List.mem_append_right _ (List.mem_append_left _ (List.mem_of_getElem? (i := 6) (by decide +kernel)))))) rfl
theorem fL_X1_153 : Cond.fieldLink RX1 153 "IssueHouse$Grant" "first" "J" ∈ wsAll := wsAll_of (List.mem_append_right _ (List.mem_append_right _ (List.mem_append_right _ (List.mem_append_left _ (List.mem_of_getElem? (i := 7) (by decide +kernel)))))) rfl
theorem fL_X0_17 : Cond.fieldLink RX0 17 "IssueHouse$Grant" "row" "LIssueHouse$Row;" ∈ wsAll := wsAll_of (List.mem_append_right _ (List.mem_append_right _ (List.mem_append_right _ (List.mem_append_left _ (List.mem_of_getElem? (i := 8) (by decide +kernel)))))) rfl
theorem fL_X1_134 : Cond.fieldLink RX1 134 "IssueHouse$Grant" "row" "LIssueHouse$Row;" ∈ wsAll := wsAll_of (List.mem_append_right _ (List.mem_append_right _ (List.mem_append_right _ (List.mem_append_left _ (List.mem_of_getElem? (i := 9) (by decide +kernel)))))) rfl
theorem fL_X6_232 : Cond.fieldLink RX6 232 "IssueHouse$Grant" "row" "LIssueHouse$Row;" ∈ wsAll := wsAll_of (List.mem_append_right _ (List.mem_append_right _ (List.mem_append_right _ (List.mem_append_left _ (List.mem_of_getElem? (i := 10) (by decide +kernel)))))) rfl
theorem mL_X6_222 : Cond.methodLink RX6 222 yX1_fail ∈ wsAll := wsAll_of (List.mem_append_right _ (List.mem_append_right _ (List.mem_append_right _ (List.mem_append_left _ (List.mem_of_getElem? (i := 19) (by decide +kernel)))))) rfl
theorem iM_X1_fail : Cond.instanceMethod yX1_fail ∈ wsAll := wsAll_of (List.mem_append_right _ (List.mem_append_right _ (List.mem_append_right _ (List.mem_append_left _ (List.mem_of_getElem? (i := 20) (by decide +kernel)))))) rfl
theorem sL_X1_fail : Cond.selects yX1_fail.cls yX1_fail yX1_fail ∈ wsAll := wsAll_of (List.mem_append_right _ (List.mem_append_right _ (List.mem_append_right _ (List.mem_append_left _ (List.mem_of_getElem? (i := 21) (by decide +kernel)))))) rfl
theorem cD_X1_fail : Cond.code yX1_fail cX1_fail 1 (none : Option FieldType) ∈ wsAll := wsAll_of (List.mem_append_right _ (List.mem_append_right _ (List.mem_append_right _ (List.mem_append_left _ (List.mem_of_getElem? (i := 22) rfl))))) rfl
theorem mL_X6_225 : Cond.methodLink RX6 225 yX1_accept ∈ wsAll := wsAll_of (List.mem_append_right _ (List.mem_append_right _ (List.mem_append_right _ (List.mem_append_left _ (List.mem_of_getElem? (i := 23) (by decide +kernel)))))) rfl
theorem iM_X1_accept : Cond.instanceMethod yX1_accept ∈ wsAll := wsAll_of (List.mem_append_right _ (List.mem_append_right _ (List.mem_append_right _ (List.mem_append_left _ (List.mem_of_getElem? (i := 24) (by decide +kernel)))))) rfl
theorem sL_X1_accept : Cond.selects yX1_accept.cls yX1_accept yX1_accept ∈ wsAll := wsAll_of (List.mem_append_right _ (List.mem_append_right _ (List.mem_append_right _ (List.mem_append_left _ (List.mem_of_getElem? (i := 25) (by decide +kernel)))))) rfl
theorem cD_X1_accept : Cond.code yX1_accept cX1_accept 2 (none : Option FieldType) ∈ wsAll := wsAll_of (List.mem_append_right _ (List.mem_append_right _ (List.mem_append_right _ (List.mem_append_left _ (List.mem_of_getElem? (i := 26) rfl))))) rfl
theorem mL_X6_130 : Cond.methodLink RX6 130 yX1_receive ∈ wsAll := wsAll_of (List.mem_append_right _ (List.mem_append_right _ (List.mem_append_right _ (List.mem_append_left _ (List.mem_of_getElem? (i := 27) (by decide +kernel)))))) rfl
theorem iM_X1_receive : Cond.instanceMethod yX1_receive ∈ wsAll := wsAll_of (List.mem_append_right _ (List.mem_append_right _ (List.mem_append_right _ (List.mem_append_left _ (List.mem_of_getElem? (i := 28) (by decide +kernel)))))) rfl
theorem sL_X1_receive : Cond.selects yX1_receive.cls yX1_receive yX1_receive ∈ wsAll := wsAll_of (List.mem_append_right _ (List.mem_append_right _ (List.mem_append_right _ (List.mem_append_left _ (List.mem_of_getElem? (i := 29) (by decide +kernel)))))) rfl
theorem cD_X1_receive : Cond.code yX1_receive cX1_receive 2 (none : Option FieldType) ∈ wsAll := wsAll_of (List.mem_append_right _ (List.mem_append_right _ (List.mem_append_right _ (List.mem_append_left _ (List.mem_of_getElem? (i := 30) rfl))))) rfl
theorem mL_X1_82 : Cond.methodLink RX1 82 yX1_countPromise ∈ wsAll := wsAll_of (List.mem_append_right _ (List.mem_append_right _ (List.mem_append_right _ (List.mem_append_left _ (List.mem_of_getElem? (i := 31) (by decide +kernel)))))) rfl
theorem iM_X1_countPromise : Cond.instanceMethod yX1_countPromise ∈ wsAll := wsAll_of (List.mem_append_right _ (List.mem_append_right _ (List.mem_append_right _ (List.mem_append_left _ (List.mem_of_getElem? (i := 32) (by decide +kernel)))))) rfl
theorem sL_X1_countPromise : Cond.selects yX1_countPromise.cls yX1_countPromise yX1_countPromise ∈ wsAll := wsAll_of (List.mem_append_right _ (List.mem_append_right _ (List.mem_append_right _ (List.mem_append_left _ (List.mem_of_getElem? (i := 33) (by decide +kernel)))))) rfl
theorem cD_X1_countPromise : Cond.code yX1_countPromise cX1_countPromise 3 (none : Option FieldType) ∈ wsAll := wsAll_of (List.mem_append_right _ (List.mem_append_right _ (List.mem_append_right _ (List.mem_append_left _ (List.mem_of_getElem? (i := 34) rfl))))) rfl
theorem mL_X1_86 : Cond.methodLink RX1 86 yX1_countYes ∈ wsAll := wsAll_of (List.mem_append_right _ (List.mem_append_right _ (List.mem_append_right _ (List.mem_append_left _ (List.mem_of_getElem? (i := 35) (by decide +kernel)))))) rfl
theorem iM_X1_countYes : Cond.instanceMethod yX1_countYes ∈ wsAll := wsAll_of (List.mem_append_right _ (List.mem_append_right _ (List.mem_append_right _ (List.mem_append_left _ (List.mem_of_getElem? (i := 36) (by decide +kernel)))))) rfl
theorem sL_X1_countYes : Cond.selects yX1_countYes.cls yX1_countYes yX1_countYes ∈ wsAll := wsAll_of (List.mem_append_right _ (List.mem_append_right _ (List.mem_append_right _ (List.mem_append_left _ (List.mem_of_getElem? (i := 37) (by decide +kernel)))))) rfl
theorem cD_X1_countYes : Cond.code yX1_countYes cX1_countYes 2 (none : Option FieldType) ∈ wsAll := wsAll_of (List.mem_append_right _ (List.mem_append_right _ (List.mem_append_right _ (List.mem_append_left _ (List.mem_of_getElem? (i := 38) rfl))))) rfl
theorem mL_X1_93 : Cond.methodLink RX1 93 yX1_fail ∈ wsAll := wsAll_of (List.mem_append_right _ (List.mem_append_right _ (List.mem_append_right _ (List.mem_append_left _ (List.mem_of_getElem? (i := 39) (by decide +kernel)))))) rfl
theorem mL_L_103 : Cond.methodLink RL 103 yL_lose ∈ wsAll := wsAll_of (List.mem_append_right _ (List.mem_append_right _ (List.mem_append_right _ (List.mem_append_left _ (List.mem_of_getElem? (i := 40) (by decide +kernel)))))) rfl
theorem sT_L_lose : Cond.static yL_lose ∈ wsAll := wsAll_of (List.mem_append_right _ (List.mem_append_right _ (List.mem_append_right _ (List.mem_append_left _ (List.mem_of_getElem? (i := 41) (by decide +kernel)))))) rfl
theorem cW_L_lose : Cond.codeWith yL_lose cL_lose 3 (some FieldType.int) [(0, 5, 8, 13)] ∈ wsAll := wsAll_of (List.mem_append_right _ (List.mem_append_right _ (List.mem_append_right _ (List.mem_append_left _ (List.mem_of_getElem? (i := 42) rfl))))) rfl
theorem mL_L_37 : Cond.methodLink RL 37 yX6_lose ∈ wsAll := wsAll_of (List.mem_append_right _ (List.mem_append_right _ (List.mem_append_right _ (List.mem_append_left _ (List.mem_of_getElem? (i := 43) (by decide +kernel)))))) rfl
theorem iM_X6_lose : Cond.instanceMethod yX6_lose ∈ wsAll := wsAll_of (List.mem_append_right _ (List.mem_append_right _ (List.mem_append_right _ (List.mem_append_left _ (List.mem_of_getElem? (i := 44) (by decide +kernel)))))) rfl
theorem sL_X6_lose : Cond.selects yX6_lose.cls yX6_lose yX6_lose ∈ wsAll := wsAll_of (List.mem_append_right _ (List.mem_append_right _ (List.mem_append_right _ (List.mem_append_left _ (List.mem_of_getElem? (i := 45) (by decide +kernel)))))) rfl
theorem cD_X6_lose : Cond.code yX6_lose cX6_lose 2 (none : Option FieldType) ∈ wsAll := wsAll_of (List.mem_append_right _ (List.mem_append_right _ (List.mem_append_right _ (List.mem_append_left _ (List.mem_of_getElem? (i := 46) rfl))))) rfl
theorem mL_L_106 : Cond.methodLink RL 106 yL_twin ∈ wsAll := wsAll_of (List.mem_append_right _ (List.mem_append_right _ (List.mem_append_right _ (List.mem_append_left _ (List.mem_of_getElem? (i := 47) (by decide +kernel)))))) rfl
theorem sT_L_twin : Cond.static yL_twin ∈ wsAll := wsAll_of (List.mem_append_right _ (List.mem_append_right _ (List.mem_append_right _ (List.mem_append_left _ (List.mem_of_getElem? (i := 48) (by decide +kernel)))))) rfl
theorem cW_L_twin : Cond.codeWith yL_twin cL_twin 3 (some FieldType.int) [(0, 5, 8, 13), (0, 5, 11, 21)] ∈ wsAll := wsAll_of (List.mem_append_right _ (List.mem_append_right _ (List.mem_append_right _ (List.mem_append_left _ (List.mem_of_getElem? (i := 49) rfl))))) rfl
theorem mL_L_40 : Cond.methodLink RL 40 yX6_twin ∈ wsAll := wsAll_of (List.mem_append_right _ (List.mem_append_right _ (List.mem_append_right _ (List.mem_append_left _ (List.mem_of_getElem? (i := 50) (by decide +kernel)))))) rfl
theorem iM_X6_twin : Cond.instanceMethod yX6_twin ∈ wsAll := wsAll_of (List.mem_append_right _ (List.mem_append_right _ (List.mem_append_right _ (List.mem_append_left _ (List.mem_of_getElem? (i := 51) (by decide +kernel)))))) rfl
theorem sL_X6_twin : Cond.selects yX6_twin.cls yX6_twin yX6_twin ∈ wsAll := wsAll_of (List.mem_append_right _ (List.mem_append_right _ (List.mem_append_right _ (List.mem_append_left _ (List.mem_of_getElem? (i := 52) (by decide +kernel)))))) rfl
theorem cD_X6_twin : Cond.code yX6_twin cX6_twin 2 (none : Option FieldType) ∈ wsAll := wsAll_of (List.mem_append_right _ (List.mem_append_right _ (List.mem_append_right _ (List.mem_append_left _ (List.mem_of_getElem? (i := 53) rfl))))) rfl
theorem mL_X6_136 : Cond.methodLink RX6 136 yX4_sendAgain ∈ wsAll := wsAll_of (List.mem_append_right _ (List.mem_append_right _ (List.mem_append_right _ (List.mem_append_left _ (List.mem_of_getElem? (i := 54) (by decide +kernel)))))) rfl
theorem iM_X4_sendAgain : Cond.instanceMethod yX4_sendAgain ∈ wsAll := wsAll_of (List.mem_append_right _ (List.mem_append_right _ (List.mem_append_right _ (List.mem_append_left _ (List.mem_of_getElem? (i := 55) (by decide +kernel)))))) rfl
theorem sL_X4_sendAgain : Cond.selects yX4_sendAgain.cls yX4_sendAgain yX4_sendAgain ∈ wsAll := wsAll_of (List.mem_append_right _ (List.mem_append_right _ (List.mem_append_right _ (List.mem_append_left _ (List.mem_of_getElem? (i := 56) (by decide +kernel)))))) rfl
theorem cD_X4_sendAgain : Cond.code yX4_sendAgain cX4_sendAgain 4 (none : Option FieldType) ∈ wsAll := wsAll_of (List.mem_append_right _ (List.mem_append_right _ (List.mem_append_right _ (List.mem_append_left _ (List.mem_of_getElem? (i := 57) rfl))))) rfl
theorem mL_X4_42 : Cond.methodLink RX4 42 yX4_send ∈ wsAll := wsAll_of (List.mem_append_right _ (List.mem_append_right _ (List.mem_append_right _ (List.mem_append_left _ (List.mem_of_getElem? (i := 58) (by decide +kernel)))))) rfl
theorem mL_X4_54 : Cond.methodLink RX4 54 yX2_copyRows ∈ wsAll := wsAll_of (List.mem_append_right _ (List.mem_append_right _ (List.mem_append_right _ (List.mem_append_left _ (List.mem_of_getElem? (i := 59) (by decide +kernel)))))) rfl
theorem mL_L_109 : Cond.methodLink RL 109 yL_letter ∈ wsAll := wsAll_of (List.mem_append_right _ (List.mem_append_right _ (List.mem_append_right _ (List.mem_append_left _ (List.mem_of_getElem? (i := 60) (by decide +kernel)))))) rfl
theorem sT_L_letter : Cond.static yL_letter ∈ wsAll := wsAll_of (List.mem_append_right _ (List.mem_append_right _ (List.mem_append_right _ (List.mem_append_left _ (List.mem_of_getElem? (i := 61) (by decide +kernel)))))) rfl
theorem cW_L_letter : Cond.codeWith yL_letter cL_letter 5 (some FieldType.int) [(0, 10, 13, 13)] ∈ wsAll := wsAll_of (List.mem_append_right _ (List.mem_append_right _ (List.mem_append_right _ (List.mem_append_left _ (List.mem_of_getElem? (i := 62) rfl))))) rfl
theorem mL_L_43 : Cond.methodLink RL 43 yX6_letter ∈ wsAll := wsAll_of (List.mem_append_right _ (List.mem_append_right _ (List.mem_append_right _ (List.mem_append_left _ (List.mem_of_getElem? (i := 63) (by decide +kernel)))))) rfl
theorem iM_X6_letter : Cond.instanceMethod yX6_letter ∈ wsAll := wsAll_of (List.mem_append_right _ (List.mem_append_right _ (List.mem_append_right _ (List.mem_append_left _ (List.mem_of_getElem? (i := 64) (by decide +kernel)))))) rfl
theorem sL_X6_letter : Cond.selects yX6_letter.cls yX6_letter yX6_letter ∈ wsAll := wsAll_of (List.mem_append_right _ (List.mem_append_right _ (List.mem_append_right _ (List.mem_append_left _ (List.mem_of_getElem? (i := 65) (by decide +kernel)))))) rfl
theorem cD_X6_letter : Cond.code yX6_letter cX6_letter 4 (some FieldType.int) ∈ wsAll := wsAll_of (List.mem_append_right _ (List.mem_append_right _ (List.mem_append_right _ (List.mem_append_left _ (List.mem_of_getElem? (i := 66) rfl))))) rfl
theorem mL_L_113 : Cond.methodLink RL 113 yL_issuer ∈ wsAll := wsAll_of (List.mem_append_right _ (List.mem_append_right _ (List.mem_append_right _ (List.mem_append_left _ (List.mem_of_getElem? (i := 68) (by decide +kernel)))))) rfl
theorem sT_L_issuer : Cond.static yL_issuer ∈ wsAll := wsAll_of (List.mem_append_right _ (List.mem_append_right _ (List.mem_append_right _ (List.mem_append_left _ (List.mem_of_getElem? (i := 69) (by decide +kernel)))))) rfl
theorem cW_L_issuer : Cond.codeWith yL_issuer cL_issuer 5 (some FieldType.int) [(0, 9, 12, 13)] ∈ wsAll := wsAll_of (List.mem_append_right _ (List.mem_append_right _ (List.mem_append_right _ (List.mem_append_left _ (List.mem_of_getElem? (i := 70) rfl))))) rfl
theorem mL_L_47 : Cond.methodLink RL 47 yX6_issuer ∈ wsAll := wsAll_of (List.mem_append_right _ (List.mem_append_right _ (List.mem_append_right _ (List.mem_append_left _ (List.mem_of_getElem? (i := 71) (by decide +kernel)))))) rfl
theorem iM_X6_issuer : Cond.instanceMethod yX6_issuer ∈ wsAll := wsAll_of (List.mem_append_right _ (List.mem_append_right _ (List.mem_append_right _ (List.mem_append_left _ (List.mem_of_getElem? (i := 72) (by decide +kernel)))))) rfl
theorem sL_X6_issuer : Cond.selects yX6_issuer.cls yX6_issuer yX6_issuer ∈ wsAll := wsAll_of (List.mem_append_right _ (List.mem_append_right _ (List.mem_append_right _ (List.mem_append_left _ (List.mem_of_getElem? (i := 73) (by decide +kernel)))))) rfl
theorem cD_X6_issuer : Cond.code yX6_issuer cX6_issuer 4 (some FieldType.long) ∈ wsAll := wsAll_of (List.mem_append_right _ (List.mem_append_right _ (List.mem_append_right _ (List.mem_append_left _ (List.mem_of_getElem? (i := 74) rfl))))) rfl
theorem mL_X6_164 : Cond.methodLink RX6 164 yX1_tellHeld ∈ wsAll := wsAll_of (List.mem_append_right _ (List.mem_append_right _ (List.mem_append_right _ (List.mem_append_left _ (List.mem_of_getElem? (i := 76) (by decide +kernel)))))) rfl
theorem iM_X1_tellHeld : Cond.instanceMethod yX1_tellHeld ∈ wsAll := wsAll_of (List.mem_append_right _ (List.mem_append_right _ (List.mem_append_right _ (List.mem_append_left _ (List.mem_of_getElem? (i := 77) (by decide +kernel)))))) rfl
theorem sL_X1_tellHeld : Cond.selects yX1_tellHeld.cls yX1_tellHeld yX1_tellHeld ∈ wsAll := wsAll_of (List.mem_append_right _ (List.mem_append_right _ (List.mem_append_right _ (List.mem_append_left _ (List.mem_of_getElem? (i := 78) (by decide +kernel)))))) rfl
theorem cD_X1_tellHeld : Cond.code yX1_tellHeld cX1_tellHeld 2 (some FieldType.long) ∈ wsAll := wsAll_of (List.mem_append_right _ (List.mem_append_right _ (List.mem_append_right _ (List.mem_append_left _ (List.mem_of_getElem? (i := 79) rfl))))) rfl
theorem mL_L_116 : Cond.methodLink RL 116 yL_next ∈ wsAll := wsAll_of (List.mem_append_right _ (List.mem_append_right _ (List.mem_append_right _ (List.mem_append_left _ (List.mem_of_getElem? (i := 80) (by decide +kernel)))))) rfl
theorem sT_L_next : Cond.static yL_next ∈ wsAll := wsAll_of (List.mem_append_right _ (List.mem_append_right _ (List.mem_append_right _ (List.mem_append_left _ (List.mem_of_getElem? (i := 81) (by decide +kernel)))))) rfl
theorem cW_L_next : Cond.codeWith yL_next cL_next 4 (some FieldType.int) [(0, 8, 11, 13)] ∈ wsAll := wsAll_of (List.mem_append_right _ (List.mem_append_right _ (List.mem_append_right _ (List.mem_append_left _ (List.mem_of_getElem? (i := 82) rfl))))) rfl
theorem mL_L_51 : Cond.methodLink RL 51 yX6_next ∈ wsAll := wsAll_of (List.mem_append_right _ (List.mem_append_right _ (List.mem_append_right _ (List.mem_append_left _ (List.mem_of_getElem? (i := 83) (by decide +kernel)))))) rfl
theorem iM_X6_next : Cond.instanceMethod yX6_next ∈ wsAll := wsAll_of (List.mem_append_right _ (List.mem_append_right _ (List.mem_append_right _ (List.mem_append_left _ (List.mem_of_getElem? (i := 84) (by decide +kernel)))))) rfl
theorem sL_X6_next : Cond.selects yX6_next.cls yX6_next yX6_next ∈ wsAll := wsAll_of (List.mem_append_right _ (List.mem_append_right _ (List.mem_append_right _ (List.mem_append_left _ (List.mem_of_getElem? (i := 85) (by decide +kernel)))))) rfl
theorem cD_X6_next : Cond.code yX6_next cX6_next 2 (some FieldType.long) ∈ wsAll := wsAll_of (List.mem_append_right _ (List.mem_append_right _ (List.mem_append_right _ (List.mem_append_left _ (List.mem_of_getElem? (i := 86) rfl))))) rfl
theorem mL_X6_168 : Cond.methodLink RX6 168 yX1_give ∈ wsAll := wsAll_of (List.mem_append_right _ (List.mem_append_right _ (List.mem_append_right _ (List.mem_append_left _ (List.mem_of_getElem? (i := 87) (by decide +kernel)))))) rfl
theorem iM_X1_give : Cond.instanceMethod yX1_give ∈ wsAll := wsAll_of (List.mem_append_right _ (List.mem_append_right _ (List.mem_append_right _ (List.mem_append_left _ (List.mem_of_getElem? (i := 88) (by decide +kernel)))))) rfl
theorem sL_X1_give : Cond.selects yX1_give.cls yX1_give yX1_give ∈ wsAll := wsAll_of (List.mem_append_right _ (List.mem_append_right _ (List.mem_append_right _ (List.mem_append_left _ (List.mem_of_getElem? (i := 89) (by decide +kernel)))))) rfl
theorem cD_X1_give : Cond.code yX1_give cX1_give 5 (some FieldType.long) ∈ wsAll := wsAll_of (List.mem_append_right _ (List.mem_append_right _ (List.mem_append_right _ (List.mem_append_left _ (List.mem_of_getElem? (i := 90) rfl))))) rfl
theorem kJ_X1_156 : Cond.constantLong RX1 156 (5000) ∈ wsAll := wsAll_of (List.mem_append_right _ (List.mem_append_right _ (List.mem_append_right _ (List.mem_append_left _ (List.mem_of_getElem? (i := 91) (by decide +kernel)))))) rfl
theorem mL_L_119 : Cond.methodLink RL 119 yL_batch ∈ wsAll := wsAll_of (List.mem_append_right _ (List.mem_append_right _ (List.mem_append_right _ (List.mem_append_left _ (List.mem_of_getElem? (i := 92) (by decide +kernel)))))) rfl
theorem sT_L_batch : Cond.static yL_batch ∈ wsAll := wsAll_of (List.mem_append_right _ (List.mem_append_right _ (List.mem_append_right _ (List.mem_append_left _ (List.mem_of_getElem? (i := 93) (by decide +kernel)))))) rfl
theorem cW_L_batch : Cond.codeWith yL_batch cL_batch 5 (some FieldType.int) [(0, 9, 12, 13), (0, 9, 16, 15)] ∈ wsAll := wsAll_of (List.mem_append_right _ (List.mem_append_right _ (List.mem_append_right _ (List.mem_append_left _ (List.mem_of_getElem? (i := 94) rfl))))) rfl
theorem mL_L_55 : Cond.methodLink RL 55 yX6_batch ∈ wsAll := wsAll_of (List.mem_append_right _ (List.mem_append_right _ (List.mem_append_right _ (List.mem_append_left _ (List.mem_of_getElem? (i := 95) (by decide +kernel)))))) rfl
theorem iM_X6_batch : Cond.instanceMethod yX6_batch ∈ wsAll := wsAll_of (List.mem_append_right _ (List.mem_append_right _ (List.mem_append_right _ (List.mem_append_left _ (List.mem_of_getElem? (i := 96) (by decide +kernel)))))) rfl
theorem sL_X6_batch : Cond.selects yX6_batch.cls yX6_batch yX6_batch ∈ wsAll := wsAll_of (List.mem_append_right _ (List.mem_append_right _ (List.mem_append_right _ (List.mem_append_left _ (List.mem_of_getElem? (i := 97) (by decide +kernel)))))) rfl
theorem cD_X6_batch : Cond.code yX6_batch cX6_batch 3 (some FieldType.long) ∈ wsAll := wsAll_of (List.mem_append_right _ (List.mem_append_right _ (List.mem_append_right _ (List.mem_append_left _ (List.mem_of_getElem? (i := 98) rfl))))) rfl
theorem mL_L_122 : Cond.methodLink RL 122 yL_seat ∈ wsAll := wsAll_of (List.mem_append_right _ (List.mem_append_right _ (List.mem_append_right _ (List.mem_append_left _ (List.mem_of_getElem? (i := 100) (by decide +kernel)))))) rfl
theorem sT_L_seat : Cond.static yL_seat ∈ wsAll := wsAll_of (List.mem_append_right _ (List.mem_append_right _ (List.mem_append_right _ (List.mem_append_left _ (List.mem_of_getElem? (i := 101) (by decide +kernel)))))) rfl
theorem cW_L_seat : Cond.codeWith yL_seat cL_seat 5 (some FieldType.int) [(0, 9, 12, 13)] ∈ wsAll := wsAll_of (List.mem_append_right _ (List.mem_append_right _ (List.mem_append_right _ (List.mem_append_left _ (List.mem_of_getElem? (i := 102) rfl))))) rfl
theorem mL_L_58 : Cond.methodLink RL 58 yX6_seat ∈ wsAll := wsAll_of (List.mem_append_right _ (List.mem_append_right _ (List.mem_append_right _ (List.mem_append_left _ (List.mem_of_getElem? (i := 103) (by decide +kernel)))))) rfl
theorem iM_X6_seat : Cond.instanceMethod yX6_seat ∈ wsAll := wsAll_of (List.mem_append_right _ (List.mem_append_right _ (List.mem_append_right _ (List.mem_append_left _ (List.mem_of_getElem? (i := 104) (by decide +kernel)))))) rfl
theorem sL_X6_seat : Cond.selects yX6_seat.cls yX6_seat yX6_seat ∈ wsAll := wsAll_of (List.mem_append_right _ (List.mem_append_right _ (List.mem_append_right _ (List.mem_append_left _ (List.mem_of_getElem? (i := 105) (by decide +kernel)))))) rfl
theorem cD_X6_seat : Cond.code yX6_seat cX6_seat 4 (some FieldType.long) ∈ wsAll := wsAll_of (List.mem_append_right _ (List.mem_append_right _ (List.mem_append_right _ (List.mem_append_left _ (List.mem_of_getElem? (i := 106) rfl))))) rfl
theorem mL_X6_175 : Cond.methodLink RX6 175 yX6_nodesUp ∈ wsAll := wsAll_of (List.mem_append_right _ (List.mem_append_right _ (List.mem_append_right _ (List.mem_append_left _ (List.mem_of_getElem? (i := 108) (by decide +kernel)))))) rfl
theorem iM_X6_nodesUp : Cond.instanceMethod yX6_nodesUp ∈ wsAll := wsAll_of (List.mem_append_right _ (List.mem_append_right _ (List.mem_append_right _ (List.mem_append_left _ (List.mem_of_getElem? (i := 110) (by decide +kernel)))))) rfl
theorem cD_X6_nodesUp : Cond.code yX6_nodesUp cX6_nodesUp 3 (some FieldType.int) ∈ wsAll := wsAll_of (List.mem_append_right _ (List.mem_append_right _ (List.mem_append_right _ (List.mem_append_left _ (List.mem_of_getElem? (i := 111) rfl))))) rfl
theorem kJ_X6_179 : Cond.constantLong RX6 179 (-1) ∈ wsAll := wsAll_of (List.mem_append_right _ (List.mem_append_right _ (List.mem_append_right _ (List.mem_append_left _ (List.mem_of_getElem? (i := 112) (by decide +kernel)))))) rfl
theorem mL_X6_181 : Cond.methodLink RX6 181 yX6_newestRow ∈ wsAll := wsAll_of (List.mem_append_right _ (List.mem_append_right _ (List.mem_append_right _ (List.mem_append_left _ (List.mem_of_getElem? (i := 113) (by decide +kernel)))))) rfl
theorem iM_X6_newestRow : Cond.instanceMethod yX6_newestRow ∈ wsAll := wsAll_of (List.mem_append_right _ (List.mem_append_right _ (List.mem_append_right _ (List.mem_append_left _ (List.mem_of_getElem? (i := 115) (by decide +kernel)))))) rfl
theorem cD_X6_newestRow : Cond.code yX6_newestRow cX6_newestRow 4 (some (FieldType.object "IssueHouse$Row")) ∈ wsAll := wsAll_of (List.mem_append_right _ (List.mem_append_right _ (List.mem_append_right _ (List.mem_append_left _ (List.mem_of_getElem? (i := 116) rfl))))) rfl
theorem mL_X6_240 : Cond.methodLink RX6 240 yX5_orNewer ∈ wsAll := wsAll_of (List.mem_append_right _ (List.mem_append_right _ (List.mem_append_right _ (List.mem_append_left _ (List.mem_of_getElem? (i := 117) (by decide +kernel)))))) rfl
theorem mL_L_125 : Cond.methodLink RL 125 yL_part ∈ wsAll := wsAll_of (List.mem_append_right _ (List.mem_append_right _ (List.mem_append_right _ (List.mem_append_left _ (List.mem_of_getElem? (i := 118) (by decide +kernel)))))) rfl
theorem sT_L_part : Cond.static yL_part ∈ wsAll := wsAll_of (List.mem_append_right _ (List.mem_append_right _ (List.mem_append_right _ (List.mem_append_left _ (List.mem_of_getElem? (i := 119) (by decide +kernel)))))) rfl
theorem cW_L_part : Cond.codeWith yL_part cL_part 6 (some FieldType.int) [(0, 10, 13, 15)] ∈ wsAll := wsAll_of (List.mem_append_right _ (List.mem_append_right _ (List.mem_append_right _ (List.mem_append_left _ (List.mem_of_getElem? (i := 120) rfl))))) rfl
theorem mL_L_61 : Cond.methodLink RL 61 yX6_part ∈ wsAll := wsAll_of (List.mem_append_right _ (List.mem_append_right _ (List.mem_append_right _ (List.mem_append_left _ (List.mem_of_getElem? (i := 121) (by decide +kernel)))))) rfl
theorem iM_X6_part : Cond.instanceMethod yX6_part ∈ wsAll := wsAll_of (List.mem_append_right _ (List.mem_append_right _ (List.mem_append_right _ (List.mem_append_left _ (List.mem_of_getElem? (i := 122) (by decide +kernel)))))) rfl
theorem sL_X6_part : Cond.selects yX6_part.cls yX6_part yX6_part ∈ wsAll := wsAll_of (List.mem_append_right _ (List.mem_append_right _ (List.mem_append_right _ (List.mem_append_left _ (List.mem_of_getElem? (i := 123) (by decide +kernel)))))) rfl
theorem cD_X6_part : Cond.code yX6_part cX6_part 4 (some FieldType.long) ∈ wsAll := wsAll_of (List.mem_append_right _ (List.mem_append_right _ (List.mem_append_right _ (List.mem_append_left _ (List.mem_of_getElem? (i := 124) rfl))))) rfl
theorem kJ_X6_196 : Cond.constantLong RX6 196 (8191) ∈ wsAll := wsAll_of (List.mem_append_right _ (List.mem_append_right _ (List.mem_append_right _ (List.mem_append_left _ (List.mem_of_getElem? (i := 126) (by decide +kernel)))))) rfl
theorem kJ_X6_198 : Cond.constantLong RX6 198 (1023) ∈ wsAll := wsAll_of (List.mem_append_right _ (List.mem_append_right _ (List.mem_append_right _ (List.mem_append_left _ (List.mem_of_getElem? (i := 127) (by decide +kernel)))))) rfl
theorem kL_L_66 : Cond.classLink RL 66 RX7 ∈ wsAll := wsAll_of (List.mem_append_right _ (List.mem_append_right _ (List.mem_append_right _ (List.mem_append_left _ (List.mem_of_getElem? (i := 128) (by decide +kernel)))))) rfl
theorem iB_X7 : Cond.instantiable RX7 37 ∈ wsAll := wsAll_of (List.mem_append_right _ (List.mem_append_right _ (List.mem_append_right _ (List.mem_append_left _ (List.mem_of_getElem? (i := 129) (by decide +kernel)))))) rfl
theorem mL_L_68 : Cond.methodLink RL 68 yX7_init ∈ wsAll := wsAll_of (List.mem_append_right _ (List.mem_append_right _ (List.mem_append_right _ (List.mem_append_left _ (List.mem_of_getElem? (i := 130) (by decide +kernel)))))) rfl
theorem iM_X7_init : Cond.instanceMethod yX7_init ∈ wsAll := wsAll_of (List.mem_append_right _ (List.mem_append_right _ (List.mem_append_right _ (List.mem_append_left _ (List.mem_of_getElem? (i := 131) (by decide +kernel)))))) rfl
theorem cD_X7_init : Cond.code yX7_init cX7_init 1 (none : Option FieldType) ∈ wsAll := wsAll_of (List.mem_append_right _ (List.mem_append_right _ (List.mem_append_right _ (List.mem_append_left _ (List.mem_of_getElem? (i := 132) rfl))))) rfl
theorem mL_X7_1 : Cond.methodLink RX7 1 (⟨"java/lang/Object", "<init>", "()V"⟩ : MethodName) ∈ wsAll := wsAll_of (List.mem_append_right _ (List.mem_append_right _ (List.mem_append_right _ (List.mem_append_left _ (List.mem_of_getElem? (i := 133) (by decide +kernel)))))) rfl
theorem fL_X7_114 : Cond.fieldLink RX7 114 "IssueHouseModel" "thrown" "I" ∈ wsAll := wsAll_of (List.mem_append_right _ (List.mem_append_right _ (List.mem_append_right _ (List.mem_append_left _ (List.mem_of_getElem? (i := 134) (by decide +kernel)))))) rfl
theorem fL_X7_124 : Cond.fieldLink RX7 124 "IssueHouseModel" "letters" "I" ∈ wsAll := wsAll_of (List.mem_append_right _ (List.mem_append_right _ (List.mem_append_right _ (List.mem_append_left _ (List.mem_of_getElem? (i := 135) (by decide +kernel)))))) rfl
theorem fL_X7_7 : Cond.fieldLink RX7 7 "IssueHouseModel" "kinds" "[I" ∈ wsAll := wsAll_of (List.mem_append_right _ (List.mem_append_right _ (List.mem_append_right _ (List.mem_append_left _ (List.mem_of_getElem? (i := 136) (by decide +kernel)))))) rfl
theorem fL_X7_13 : Cond.fieldLink RX7 13 "IssueHouseModel" "issuers" "[I" ∈ wsAll := wsAll_of (List.mem_append_right _ (List.mem_append_right _ (List.mem_append_right _ (List.mem_append_left _ (List.mem_of_getElem? (i := 137) (by decide +kernel)))))) rfl
theorem fL_X7_16 : Cond.fieldLink RX7 16 "IssueHouseModel" "nodes" "[I" ∈ wsAll := wsAll_of (List.mem_append_right _ (List.mem_append_right _ (List.mem_append_right _ (List.mem_append_left _ (List.mem_of_getElem? (i := 138) (by decide +kernel)))))) rfl
theorem fL_X7_19 : Cond.fieldLink RX7 19 "IssueHouseModel" "ballots" "[I" ∈ wsAll := wsAll_of (List.mem_append_right _ (List.mem_append_right _ (List.mem_append_right _ (List.mem_append_left _ (List.mem_of_getElem? (i := 139) (by decide +kernel)))))) rfl
theorem fL_X7_22 : Cond.fieldLink RX7 22 "IssueHouseModel" "seats" "[I" ∈ wsAll := wsAll_of (List.mem_append_right _ (List.mem_append_right _ (List.mem_append_right _ (List.mem_append_left _ (List.mem_of_getElem? (i := 140) (by decide +kernel)))))) rfl
theorem fL_X7_25 : Cond.fieldLink RX7 25 "IssueHouseModel" "terms" "[I" ∈ wsAll := wsAll_of (List.mem_append_right _ (List.mem_append_right _ (List.mem_append_right _ (List.mem_append_left _ (List.mem_of_getElem? (i := 141) (by decide +kernel)))))) rfl
theorem fL_X7_28 : Cond.fieldLink RX7 28 "IssueHouseModel" "marks" "[J" ∈ wsAll := wsAll_of (List.mem_append_right _ (List.mem_append_right _ (List.mem_append_right _ (List.mem_append_left _ (List.mem_of_getElem? (i := 142) (by decide +kernel)))))) rfl
theorem fL_X7_32 : Cond.fieldLink RX7 32 "IssueHouseModel" "extras" "[I" ∈ wsAll := wsAll_of (List.mem_append_right _ (List.mem_append_right _ (List.mem_append_right _ (List.mem_append_left _ (List.mem_of_getElem? (i := 143) (by decide +kernel)))))) rfl
theorem fL_X7_171 : Cond.fieldLink RX7 171 "IssueHouseModel" "story" "I" ∈ wsAll := wsAll_of (List.mem_append_right _ (List.mem_append_right _ (List.mem_append_right _ (List.mem_append_left _ (List.mem_of_getElem? (i := 144) (by decide +kernel)))))) rfl
theorem fL_X7_35 : Cond.fieldLink RX7 35 "IssueHouseModel" "byNode" "[I" ∈ wsAll := wsAll_of (List.mem_append_right _ (List.mem_append_right _ (List.mem_append_right _ (List.mem_append_left _ (List.mem_of_getElem? (i := 145) (by decide +kernel)))))) rfl
theorem fL_X7_38 : Cond.fieldLink RX7 38 "IssueHouseModel" "ofSeat" "[I" ∈ wsAll := wsAll_of (List.mem_append_right _ (List.mem_append_right _ (List.mem_append_right _ (List.mem_append_left _ (List.mem_of_getElem? (i := 146) (by decide +kernel)))))) rfl
theorem fL_X7_41 : Cond.fieldLink RX7 41 "IssueHouseModel" "withBallot" "[I" ∈ wsAll := wsAll_of (List.mem_append_right _ (List.mem_append_right _ (List.mem_append_right _ (List.mem_append_left _ (List.mem_of_getElem? (i := 147) (by decide +kernel)))))) rfl
theorem fL_X7_44 : Cond.fieldLink RX7 44 "IssueHouseModel" "byHolder" "[I" ∈ wsAll := wsAll_of (List.mem_append_right _ (List.mem_append_right _ (List.mem_append_right _ (List.mem_append_left _ (List.mem_of_getElem? (i := 148) (by decide +kernel)))))) rfl
theorem fL_X7_47 : Cond.fieldLink RX7 47 "IssueHouseModel" "withTerm" "[I" ∈ wsAll := wsAll_of (List.mem_append_right _ (List.mem_append_right _ (List.mem_append_right _ (List.mem_append_left _ (List.mem_of_getElem? (i := 149) (by decide +kernel)))))) rfl
theorem fL_X7_50 : Cond.fieldLink RX7 50 "IssueHouseModel" "withMark" "[J" ∈ wsAll := wsAll_of (List.mem_append_right _ (List.mem_append_right _ (List.mem_append_right _ (List.mem_append_left _ (List.mem_of_getElem? (i := 150) (by decide +kernel)))))) rfl
theorem fL_X7_53 : Cond.fieldLink RX7 53 "IssueHouseModel" "down" "[Z" ∈ wsAll := wsAll_of (List.mem_append_right _ (List.mem_append_right _ (List.mem_append_right _ (List.mem_append_left _ (List.mem_of_getElem? (i := 151) (by decide +kernel)))))) rfl
theorem fL_X7_57 : Cond.fieldLink RX7 57 "IssueHouseModel" "promised" "[I" ∈ wsAll := wsAll_of (List.mem_append_right _ (List.mem_append_right _ (List.mem_append_right _ (List.mem_append_left _ (List.mem_of_getElem? (i := 152) (by decide +kernel)))))) rfl
theorem fL_X7_60 : Cond.fieldLink RX7 60 "IssueHouseModel" "clocks" "[J" ∈ wsAll := wsAll_of (List.mem_append_right _ (List.mem_append_right _ (List.mem_append_right _ (List.mem_append_left _ (List.mem_of_getElem? (i := 153) (by decide +kernel)))))) rfl
theorem fL_X7_63 : Cond.fieldLink RX7 63 "IssueHouseModel" "doing" "[I" ∈ wsAll := wsAll_of (List.mem_append_right _ (List.mem_append_right _ (List.mem_append_right _ (List.mem_append_left _ (List.mem_of_getElem? (i := 154) (by decide +kernel)))))) rfl
theorem fL_X7_66 : Cond.fieldLink RX7 66 "IssueHouseModel" "prolongs" "[Z" ∈ wsAll := wsAll_of (List.mem_append_right _ (List.mem_append_right _ (List.mem_append_right _ (List.mem_append_left _ (List.mem_of_getElem? (i := 155) (by decide +kernel)))))) rfl
theorem fL_X7_69 : Cond.fieldLink RX7 69 "IssueHouseModel" "attempts" "[I" ∈ wsAll := wsAll_of (List.mem_append_right _ (List.mem_append_right _ (List.mem_append_right _ (List.mem_append_left _ (List.mem_of_getElem? (i := 156) (by decide +kernel)))))) rfl
theorem fL_X7_72 : Cond.fieldLink RX7 72 "IssueHouseModel" "told" "[I" ∈ wsAll := wsAll_of (List.mem_append_right _ (List.mem_append_right _ (List.mem_append_right _ (List.mem_append_left _ (List.mem_of_getElem? (i := 157) (by decide +kernel)))))) rfl
theorem fL_X7_75 : Cond.fieldLink RX7 75 "IssueHouseModel" "counted" "[Z" ∈ wsAll := wsAll_of (List.mem_append_right _ (List.mem_append_right _ (List.mem_append_right _ (List.mem_append_left _ (List.mem_of_getElem? (i := 158) (by decide +kernel)))))) rfl
theorem fL_X7_78 : Cond.fieldLink RX7 78 "IssueHouseModel" "reach" "[I" ∈ wsAll := wsAll_of (List.mem_append_right _ (List.mem_append_right _ (List.mem_append_right _ (List.mem_append_left _ (List.mem_of_getElem? (i := 159) (by decide +kernel)))))) rfl
theorem fL_X7_81 : Cond.fieldLink RX7 81 "IssueHouseModel" "wishSeat" "[I" ∈ wsAll := wsAll_of (List.mem_append_right _ (List.mem_append_right _ (List.mem_append_right _ (List.mem_append_left _ (List.mem_of_getElem? (i := 160) (by decide +kernel)))))) rfl
theorem fL_X7_84 : Cond.fieldLink RX7 84 "IssueHouseModel" "wishTerm" "[I" ∈ wsAll := wsAll_of (List.mem_append_right _ (List.mem_append_right _ (List.mem_append_right _ (List.mem_append_left _ (List.mem_of_getElem? (i := 161) (by decide +kernel)))))) rfl
theorem fL_X7_87 : Cond.fieldLink RX7 87 "IssueHouseModel" "wishFirst" "[J" ∈ wsAll := wsAll_of (List.mem_append_right _ (List.mem_append_right _ (List.mem_append_right _ (List.mem_append_left _ (List.mem_of_getElem? (i := 162) (by decide +kernel)))))) rfl
theorem fL_X7_90 : Cond.fieldLink RX7 90 "IssueHouseModel" "ready" "[Z" ∈ wsAll := wsAll_of (List.mem_append_right _ (List.mem_append_right _ (List.mem_append_right _ (List.mem_append_left _ (List.mem_of_getElem? (i := 163) (by decide +kernel)))))) rfl
theorem fL_X7_93 : Cond.fieldLink RX7 93 "IssueHouseModel" "hasSeat" "[I" ∈ wsAll := wsAll_of (List.mem_append_right _ (List.mem_append_right _ (List.mem_append_right _ (List.mem_append_left _ (List.mem_of_getElem? (i := 164) (by decide +kernel)))))) rfl
theorem fL_X7_96 : Cond.fieldLink RX7 96 "IssueHouseModel" "hasTerm" "[I" ∈ wsAll := wsAll_of (List.mem_append_right _ (List.mem_append_right _ (List.mem_append_right _ (List.mem_append_left _ (List.mem_of_getElem? (i := 165) (by decide +kernel)))))) rfl
theorem fL_X7_99 : Cond.fieldLink RX7 99 "IssueHouseModel" "firsts" "[J" ∈ wsAll := wsAll_of (List.mem_append_right _ (List.mem_append_right _ (List.mem_append_right _ (List.mem_append_left _ (List.mem_of_getElem? (i := 166) (by decide +kernel)))))) rfl
theorem fL_X7_102 : Cond.fieldLink RX7 102 "IssueHouseModel" "gaveTime" "[J" ∈ wsAll := wsAll_of (List.mem_append_right _ (List.mem_append_right _ (List.mem_append_right _ (List.mem_append_left _ (List.mem_of_getElem? (i := 167) (by decide +kernel)))))) rfl
theorem fL_X7_105 : Cond.fieldLink RX7 105 "IssueHouseModel" "gaveCount" "[I" ∈ wsAll := wsAll_of (List.mem_append_right _ (List.mem_append_right _ (List.mem_append_right _ (List.mem_append_left _ (List.mem_of_getElem? (i := 168) (by decide +kernel)))))) rfl
theorem fL_X7_108 : Cond.fieldLink RX7 108 "IssueHouseModel" "failed" "[I" ∈ wsAll := wsAll_of (List.mem_append_right _ (List.mem_append_right _ (List.mem_append_right _ (List.mem_append_left _ (List.mem_of_getElem? (i := 169) (by decide +kernel)))))) rfl
theorem fL_X7_111 : Cond.fieldLink RX7 111 "IssueHouseModel" "gave" "[J" ∈ wsAll := wsAll_of (List.mem_append_right _ (List.mem_append_right _ (List.mem_append_right _ (List.mem_append_left _ (List.mem_of_getElem? (i := 170) (by decide +kernel)))))) rfl
theorem aC_int : Cond.arrayClass .int ∈ wsAll := wsAll_of (List.mem_append_right _ (List.mem_append_right _ (List.mem_append_right _ (List.mem_append_right _ (List.mem_of_getElem? (i := 6) (by decide +kernel)))))) rfl
theorem aC_long : Cond.arrayClass .long ∈ wsAll := wsAll_of (List.mem_append_right _ (List.mem_append_right _ (List.mem_append_right _ (List.mem_append_right _ (List.mem_of_getElem? (i := 7) (by decide +kernel)))))) rfl
theorem aC_boolean : Cond.arrayClass .boolean ∈ wsAll := wsAll_of (List.mem_append_right _ (List.mem_append_right _ (List.mem_append_right _ (List.mem_append_right _ (List.mem_of_getElem? (i := 8) (by decide +kernel)))))) rfl
theorem mL_L_77 : Cond.methodLink RL 77 yX7_thrown ∈ wsAll := wsAll_of (List.mem_append_right _ (List.mem_append_right _ (List.mem_append_right _ (List.mem_append_right _ (List.mem_of_getElem? (i := 9) (by decide +kernel)))))) rfl
theorem iM_X7_thrown : Cond.instanceMethod yX7_thrown ∈ wsAll := wsAll_of (List.mem_append_right _ (List.mem_append_right _ (List.mem_append_right _ (List.mem_append_right _ (List.mem_of_getElem? (i := 10) (by decide +kernel)))))) rfl
theorem sL_X7_thrown : Cond.selects yX7_thrown.cls yX7_thrown yX7_thrown ∈ wsAll := wsAll_of (List.mem_append_right _ (List.mem_append_right _ (List.mem_append_right _ (List.mem_append_right _ (List.mem_of_getElem? (i := 11) (by decide +kernel)))))) rfl
theorem cD_X7_thrown : Cond.code yX7_thrown cX7_thrown 1 (some FieldType.int) ∈ wsAll := wsAll_of (List.mem_append_right _ (List.mem_append_right _ (List.mem_append_right _ (List.mem_append_right _ (List.mem_of_getElem? (i := 12) rfl))))) rfl
theorem mL_L_76 : Cond.methodLink RL 76 yX7_clock ∈ wsAll := wsAll_of (List.mem_append_right _ (List.mem_append_right _ (List.mem_append_right _ (List.mem_append_right _ (List.mem_of_getElem? (i := 13) (by decide +kernel)))))) rfl
theorem iM_X7_clock : Cond.instanceMethod yX7_clock ∈ wsAll := wsAll_of (List.mem_append_right _ (List.mem_append_right _ (List.mem_append_right _ (List.mem_append_right _ (List.mem_of_getElem? (i := 14) (by decide +kernel)))))) rfl
theorem sL_X7_clock : Cond.selects yX7_clock.cls yX7_clock yX7_clock ∈ wsAll := wsAll_of (List.mem_append_right _ (List.mem_append_right _ (List.mem_append_right _ (List.mem_append_right _ (List.mem_of_getElem? (i := 15) (by decide +kernel)))))) rfl
theorem cD_X7_clock : Cond.code yX7_clock cX7_clock 4 (none : Option FieldType) ∈ wsAll := wsAll_of (List.mem_append_right _ (List.mem_append_right _ (List.mem_append_right _ (List.mem_append_right _ (List.mem_of_getElem? (i := 16) rfl))))) rfl
theorem mL_X7_118 : Cond.methodLink RX7 118 yX7_isIssuer ∈ wsAll := wsAll_of (List.mem_append_right _ (List.mem_append_right _ (List.mem_append_right _ (List.mem_append_right _ (List.mem_of_getElem? (i := 17) (by decide +kernel)))))) rfl
theorem iM_X7_isIssuer : Cond.instanceMethod yX7_isIssuer ∈ wsAll := wsAll_of (List.mem_append_right _ (List.mem_append_right _ (List.mem_append_right _ (List.mem_append_right _ (List.mem_of_getElem? (i := 19) (by decide +kernel)))))) rfl
theorem cD_X7_isIssuer : Cond.code yX7_isIssuer cX7_isIssuer 3 (some FieldType.boolean) ∈ wsAll := wsAll_of (List.mem_append_right _ (List.mem_append_right _ (List.mem_append_right _ (List.mem_append_right _ (List.mem_of_getElem? (i := 20) rfl))))) rfl
theorem kJ_X7_122 : Cond.constantLong RX7 122 (2199023255551) ∈ wsAll := wsAll_of (List.mem_append_right _ (List.mem_append_right _ (List.mem_append_right _ (List.mem_append_right _ (List.mem_of_getElem? (i := 21) (by decide +kernel)))))) rfl
theorem mL_L_98 : Cond.methodLink RL 98 yX7_letters ∈ wsAll := wsAll_of (List.mem_append_right _ (List.mem_append_right _ (List.mem_append_right _ (List.mem_append_right _ (List.mem_of_getElem? (i := 22) (by decide +kernel)))))) rfl
theorem iM_X7_letters : Cond.instanceMethod yX7_letters ∈ wsAll := wsAll_of (List.mem_append_right _ (List.mem_append_right _ (List.mem_append_right _ (List.mem_append_right _ (List.mem_of_getElem? (i := 23) (by decide +kernel)))))) rfl
theorem sL_X7_letters : Cond.selects yX7_letters.cls yX7_letters yX7_letters ∈ wsAll := wsAll_of (List.mem_append_right _ (List.mem_append_right _ (List.mem_append_right _ (List.mem_append_right _ (List.mem_of_getElem? (i := 24) (by decide +kernel)))))) rfl
theorem cD_X7_letters : Cond.code yX7_letters cX7_letters 1 (some FieldType.int) ∈ wsAll := wsAll_of (List.mem_append_right _ (List.mem_append_right _ (List.mem_append_right _ (List.mem_append_right _ (List.mem_of_getElem? (i := 25) rfl))))) rfl
theorem mL_L_105 : Cond.methodLink RL 105 yX7_lose ∈ wsAll := wsAll_of (List.mem_append_right _ (List.mem_append_right _ (List.mem_append_right _ (List.mem_append_right _ (List.mem_of_getElem? (i := 26) (by decide +kernel)))))) rfl
theorem iM_X7_lose : Cond.instanceMethod yX7_lose ∈ wsAll := wsAll_of (List.mem_append_right _ (List.mem_append_right _ (List.mem_append_right _ (List.mem_append_right _ (List.mem_of_getElem? (i := 27) (by decide +kernel)))))) rfl
theorem sL_X7_lose : Cond.selects yX7_lose.cls yX7_lose yX7_lose ∈ wsAll := wsAll_of (List.mem_append_right _ (List.mem_append_right _ (List.mem_append_right _ (List.mem_append_right _ (List.mem_of_getElem? (i := 28) (by decide +kernel)))))) rfl
theorem cD_X7_lose : Cond.code yX7_lose cX7_lose 2 (none : Option FieldType) ∈ wsAll := wsAll_of (List.mem_append_right _ (List.mem_append_right _ (List.mem_append_right _ (List.mem_append_right _ (List.mem_of_getElem? (i := 29) rfl))))) rfl
theorem mL_X7_131 : Cond.methodLink RX7 131 yX7_isLetter ∈ wsAll := wsAll_of (List.mem_append_right _ (List.mem_append_right _ (List.mem_append_right _ (List.mem_append_right _ (List.mem_of_getElem? (i := 30) (by decide +kernel)))))) rfl
theorem iM_X7_isLetter : Cond.instanceMethod yX7_isLetter ∈ wsAll := wsAll_of (List.mem_append_right _ (List.mem_append_right _ (List.mem_append_right _ (List.mem_append_right _ (List.mem_of_getElem? (i := 32) (by decide +kernel)))))) rfl
theorem cD_X7_isLetter : Cond.code yX7_isLetter cX7_isLetter 3 (some FieldType.boolean) ∈ wsAll := wsAll_of (List.mem_append_right _ (List.mem_append_right _ (List.mem_append_right _ (List.mem_append_right _ (List.mem_of_getElem? (i := 33) rfl))))) rfl
theorem mL_X7_134 : Cond.methodLink RX7 134 yX7_remove ∈ wsAll := wsAll_of (List.mem_append_right _ (List.mem_append_right _ (List.mem_append_right _ (List.mem_append_right _ (List.mem_of_getElem? (i := 34) (by decide +kernel)))))) rfl
theorem iM_X7_remove : Cond.instanceMethod yX7_remove ∈ wsAll := wsAll_of (List.mem_append_right _ (List.mem_append_right _ (List.mem_append_right _ (List.mem_append_right _ (List.mem_of_getElem? (i := 36) (by decide +kernel)))))) rfl
theorem cD_X7_remove : Cond.code yX7_remove cX7_remove 3 (none : Option FieldType) ∈ wsAll := wsAll_of (List.mem_append_right _ (List.mem_append_right _ (List.mem_append_right _ (List.mem_append_right _ (List.mem_of_getElem? (i := 37) rfl))))) rfl
theorem mL_X7_127 : Cond.methodLink RX7 127 yX7_copy ∈ wsAll := wsAll_of (List.mem_append_right _ (List.mem_append_right _ (List.mem_append_right _ (List.mem_append_right _ (List.mem_of_getElem? (i := 38) (by decide +kernel)))))) rfl
theorem iM_X7_copy : Cond.instanceMethod yX7_copy ∈ wsAll := wsAll_of (List.mem_append_right _ (List.mem_append_right _ (List.mem_append_right _ (List.mem_append_right _ (List.mem_of_getElem? (i := 40) (by decide +kernel)))))) rfl
theorem cD_X7_copy : Cond.code yX7_copy cX7_copy 3 (none : Option FieldType) ∈ wsAll := wsAll_of (List.mem_append_right _ (List.mem_append_right _ (List.mem_append_right _ (List.mem_append_right _ (List.mem_of_getElem? (i := 41) rfl))))) rfl
theorem mL_L_108 : Cond.methodLink RL 108 yX7_twin ∈ wsAll := wsAll_of (List.mem_append_right _ (List.mem_append_right _ (List.mem_append_right _ (List.mem_append_right _ (List.mem_of_getElem? (i := 42) (by decide +kernel)))))) rfl
theorem iM_X7_twin : Cond.instanceMethod yX7_twin ∈ wsAll := wsAll_of (List.mem_append_right _ (List.mem_append_right _ (List.mem_append_right _ (List.mem_append_right _ (List.mem_of_getElem? (i := 43) (by decide +kernel)))))) rfl
theorem sL_X7_twin : Cond.selects yX7_twin.cls yX7_twin yX7_twin ∈ wsAll := wsAll_of (List.mem_append_right _ (List.mem_append_right _ (List.mem_append_right _ (List.mem_append_right _ (List.mem_of_getElem? (i := 44) (by decide +kernel)))))) rfl
theorem cD_X7_twin : Cond.code yX7_twin cX7_twin 2 (none : Option FieldType) ∈ wsAll := wsAll_of (List.mem_append_right _ (List.mem_append_right _ (List.mem_append_right _ (List.mem_append_right _ (List.mem_of_getElem? (i := 45) rfl))))) rfl
theorem mL_L_112 : Cond.methodLink RL 112 yX7_letter ∈ wsAll := wsAll_of (List.mem_append_right _ (List.mem_append_right _ (List.mem_append_right _ (List.mem_append_right _ (List.mem_of_getElem? (i := 46) (by decide +kernel)))))) rfl
theorem iM_X7_letter : Cond.instanceMethod yX7_letter ∈ wsAll := wsAll_of (List.mem_append_right _ (List.mem_append_right _ (List.mem_append_right _ (List.mem_append_right _ (List.mem_of_getElem? (i := 47) (by decide +kernel)))))) rfl
theorem sL_X7_letter : Cond.selects yX7_letter.cls yX7_letter yX7_letter ∈ wsAll := wsAll_of (List.mem_append_right _ (List.mem_append_right _ (List.mem_append_right _ (List.mem_append_right _ (List.mem_of_getElem? (i := 48) (by decide +kernel)))))) rfl
theorem cD_X7_letter : Cond.code yX7_letter cX7_letter 3 (some FieldType.int) ∈ wsAll := wsAll_of (List.mem_append_right _ (List.mem_append_right _ (List.mem_append_right _ (List.mem_append_right _ (List.mem_of_getElem? (i := 49) rfl))))) rfl
theorem mL_L_84 : Cond.methodLink RL 84 yX7_start ∈ wsAll := wsAll_of (List.mem_append_right _ (List.mem_append_right _ (List.mem_append_right _ (List.mem_append_right _ (List.mem_of_getElem? (i := 50) (by decide +kernel)))))) rfl
theorem iM_X7_start : Cond.instanceMethod yX7_start ∈ wsAll := wsAll_of (List.mem_append_right _ (List.mem_append_right _ (List.mem_append_right _ (List.mem_append_right _ (List.mem_of_getElem? (i := 51) (by decide +kernel)))))) rfl
theorem sL_X7_start : Cond.selects yX7_start.cls yX7_start yX7_start ∈ wsAll := wsAll_of (List.mem_append_right _ (List.mem_append_right _ (List.mem_append_right _ (List.mem_append_right _ (List.mem_of_getElem? (i := 52) (by decide +kernel)))))) rfl
theorem cD_X7_start : Cond.code yX7_start cX7_start 2 (none : Option FieldType) ∈ wsAll := wsAll_of (List.mem_append_right _ (List.mem_append_right _ (List.mem_append_right _ (List.mem_append_right _ (List.mem_of_getElem? (i := 53) rfl))))) rfl
theorem mL_X7_149 : Cond.methodLink RX7 149 yX7_attempt ∈ wsAll := wsAll_of (List.mem_append_right _ (List.mem_append_right _ (List.mem_append_right _ (List.mem_append_right _ (List.mem_of_getElem? (i := 54) (by decide +kernel)))))) rfl
theorem iM_X7_attempt : Cond.instanceMethod yX7_attempt ∈ wsAll := wsAll_of (List.mem_append_right _ (List.mem_append_right _ (List.mem_append_right _ (List.mem_append_right _ (List.mem_of_getElem? (i := 56) (by decide +kernel)))))) rfl
theorem cD_X7_attempt : Cond.code yX7_attempt cX7_attempt 5 (none : Option FieldType) ∈ wsAll := wsAll_of (List.mem_append_right _ (List.mem_append_right _ (List.mem_append_right _ (List.mem_append_right _ (List.mem_of_getElem? (i := 57) rfl))))) rfl
theorem mL_X7_138 : Cond.methodLink RX7 138 yX7_forgetCounts ∈ wsAll := wsAll_of (List.mem_append_right _ (List.mem_append_right _ (List.mem_append_right _ (List.mem_append_right _ (List.mem_of_getElem? (i := 58) (by decide +kernel)))))) rfl
theorem iM_X7_forgetCounts : Cond.instanceMethod yX7_forgetCounts ∈ wsAll := wsAll_of (List.mem_append_right _ (List.mem_append_right _ (List.mem_append_right _ (List.mem_append_right _ (List.mem_of_getElem? (i := 60) (by decide +kernel)))))) rfl
theorem cD_X7_forgetCounts : Cond.code yX7_forgetCounts cX7_forgetCounts 3 (none : Option FieldType) ∈ wsAll := wsAll_of (List.mem_append_right _ (List.mem_append_right _ (List.mem_append_right _ (List.mem_append_right _ (List.mem_of_getElem? (i := 61) rfl))))) rfl
theorem mL_X7_141 : Cond.methodLink RX7 141 yX7_ballotOf ∈ wsAll := wsAll_of (List.mem_append_right _ (List.mem_append_right _ (List.mem_append_right _ (List.mem_append_right _ (List.mem_of_getElem? (i := 62) (by decide +kernel)))))) rfl
theorem iM_X7_ballotOf : Cond.instanceMethod yX7_ballotOf ∈ wsAll := wsAll_of (List.mem_append_right _ (List.mem_append_right _ (List.mem_append_right _ (List.mem_append_right _ (List.mem_of_getElem? (i := 64) (by decide +kernel)))))) rfl
theorem cD_X7_ballotOf : Cond.code yX7_ballotOf cX7_ballotOf 2 (some FieldType.int) ∈ wsAll := wsAll_of (List.mem_append_right _ (List.mem_append_right _ (List.mem_append_right _ (List.mem_append_right _ (List.mem_of_getElem? (i := 65) rfl))))) rfl
theorem mL_X7_145 : Cond.methodLink RX7 145 yX7_send ∈ wsAll := wsAll_of (List.mem_append_right _ (List.mem_append_right _ (List.mem_append_right _ (List.mem_append_right _ (List.mem_of_getElem? (i := 66) (by decide +kernel)))))) rfl
theorem iM_X7_send : Cond.instanceMethod yX7_send ∈ wsAll := wsAll_of (List.mem_append_right _ (List.mem_append_right _ (List.mem_append_right _ (List.mem_append_right _ (List.mem_of_getElem? (i := 68) (by decide +kernel)))))) rfl
theorem cD_X7_send : Cond.code yX7_send cX7_send 6 (none : Option FieldType) ∈ wsAll := wsAll_of (List.mem_append_right _ (List.mem_append_right _ (List.mem_append_right _ (List.mem_append_right _ (List.mem_of_getElem? (i := 69) rfl))))) rfl
theorem mL_L_87 : Cond.methodLink RL 87 yX7_prolong ∈ wsAll := wsAll_of (List.mem_append_right _ (List.mem_append_right _ (List.mem_append_right _ (List.mem_append_right _ (List.mem_of_getElem? (i := 70) (by decide +kernel)))))) rfl
theorem iM_X7_prolong : Cond.instanceMethod yX7_prolong ∈ wsAll := wsAll_of (List.mem_append_right _ (List.mem_append_right _ (List.mem_append_right _ (List.mem_append_right _ (List.mem_of_getElem? (i := 71) (by decide +kernel)))))) rfl
theorem sL_X7_prolong : Cond.selects yX7_prolong.cls yX7_prolong yX7_prolong ∈ wsAll := wsAll_of (List.mem_append_right _ (List.mem_append_right _ (List.mem_append_right _ (List.mem_append_right _ (List.mem_of_getElem? (i := 72) (by decide +kernel)))))) rfl
theorem cD_X7_prolong : Cond.code yX7_prolong cX7_prolong 2 (none : Option FieldType) ∈ wsAll := wsAll_of (List.mem_append_right _ (List.mem_append_right _ (List.mem_append_right _ (List.mem_append_right _ (List.mem_of_getElem? (i := 73) rfl))))) rfl
theorem mL_L_90 : Cond.methodLink RL 90 yX7_crash ∈ wsAll := wsAll_of (List.mem_append_right _ (List.mem_append_right _ (List.mem_append_right _ (List.mem_append_right _ (List.mem_of_getElem? (i := 74) (by decide +kernel)))))) rfl
theorem iM_X7_crash : Cond.instanceMethod yX7_crash ∈ wsAll := wsAll_of (List.mem_append_right _ (List.mem_append_right _ (List.mem_append_right _ (List.mem_append_right _ (List.mem_of_getElem? (i := 75) (by decide +kernel)))))) rfl
theorem sL_X7_crash : Cond.selects yX7_crash.cls yX7_crash yX7_crash ∈ wsAll := wsAll_of (List.mem_append_right _ (List.mem_append_right _ (List.mem_append_right _ (List.mem_append_right _ (List.mem_of_getElem? (i := 76) (by decide +kernel)))))) rfl
theorem cD_X7_crash : Cond.code yX7_crash cX7_crash 2 (none : Option FieldType) ∈ wsAll := wsAll_of (List.mem_append_right _ (List.mem_append_right _ (List.mem_append_right _ (List.mem_append_right _ (List.mem_of_getElem? (i := 77) rfl))))) rfl
theorem mL_L_94 : Cond.methodLink RL 94 yX7_node ∈ wsAll := wsAll_of (List.mem_append_right _ (List.mem_append_right _ (List.mem_append_right _ (List.mem_append_right _ (List.mem_of_getElem? (i := 78) (by decide +kernel)))))) rfl
theorem iM_X7_node : Cond.instanceMethod yX7_node ∈ wsAll := wsAll_of (List.mem_append_right _ (List.mem_append_right _ (List.mem_append_right _ (List.mem_append_right _ (List.mem_of_getElem? (i := 79) (by decide +kernel)))))) rfl
theorem sL_X7_node : Cond.selects yX7_node.cls yX7_node yX7_node ∈ wsAll := wsAll_of (List.mem_append_right _ (List.mem_append_right _ (List.mem_append_right _ (List.mem_append_right _ (List.mem_of_getElem? (i := 80) (by decide +kernel)))))) rfl
theorem cD_X7_node : Cond.code yX7_node cX7_node 3 (none : Option FieldType) ∈ wsAll := wsAll_of (List.mem_append_right _ (List.mem_append_right _ (List.mem_append_right _ (List.mem_append_right _ (List.mem_of_getElem? (i := 81) rfl))))) rfl
theorem mL_L_102 : Cond.methodLink RL 102 yX7_deliver ∈ wsAll := wsAll_of (List.mem_append_right _ (List.mem_append_right _ (List.mem_append_right _ (List.mem_append_right _ (List.mem_of_getElem? (i := 82) (by decide +kernel)))))) rfl
theorem iM_X7_deliver : Cond.instanceMethod yX7_deliver ∈ wsAll := wsAll_of (List.mem_append_right _ (List.mem_append_right _ (List.mem_append_right _ (List.mem_append_right _ (List.mem_of_getElem? (i := 83) (by decide +kernel)))))) rfl
theorem sL_X7_deliver : Cond.selects yX7_deliver.cls yX7_deliver yX7_deliver ∈ wsAll := wsAll_of (List.mem_append_right _ (List.mem_append_right _ (List.mem_append_right _ (List.mem_append_right _ (List.mem_of_getElem? (i := 84) (by decide +kernel)))))) rfl
theorem cD_X7_deliver : Cond.code yX7_deliver cX7_deliver 8 (some FieldType.int) ∈ wsAll := wsAll_of (List.mem_append_right _ (List.mem_append_right _ (List.mem_append_right _ (List.mem_append_right _ (List.mem_of_getElem? (i := 85) rfl))))) rfl
theorem mL_X7_194 : Cond.methodLink RX7 194 yX7_promises ∈ wsAll := wsAll_of (List.mem_append_right _ (List.mem_append_right _ (List.mem_append_right _ (List.mem_append_right _ (List.mem_of_getElem? (i := 86) (by decide +kernel)))))) rfl
theorem iM_X7_promises : Cond.instanceMethod yX7_promises ∈ wsAll := wsAll_of (List.mem_append_right _ (List.mem_append_right _ (List.mem_append_right _ (List.mem_append_right _ (List.mem_of_getElem? (i := 88) (by decide +kernel)))))) rfl
theorem cD_X7_promises : Cond.code yX7_promises cX7_promises 12 (some FieldType.int) ∈ wsAll := wsAll_of (List.mem_append_right _ (List.mem_append_right _ (List.mem_append_right _ (List.mem_append_right _ (List.mem_of_getElem? (i := 89) rfl))))) rfl
theorem mL_X7_174 : Cond.methodLink RX7 174 yX7_countOf ∈ wsAll := wsAll_of (List.mem_append_right _ (List.mem_append_right _ (List.mem_append_right _ (List.mem_append_right _ (List.mem_of_getElem? (i := 90) (by decide +kernel)))))) rfl
theorem iM_X7_countOf : Cond.instanceMethod yX7_countOf ∈ wsAll := wsAll_of (List.mem_append_right _ (List.mem_append_right _ (List.mem_append_right _ (List.mem_append_right _ (List.mem_of_getElem? (i := 92) (by decide +kernel)))))) rfl
theorem cD_X7_countOf : Cond.code yX7_countOf cX7_countOf 4 (some FieldType.int) ∈ wsAll := wsAll_of (List.mem_append_right _ (List.mem_append_right _ (List.mem_append_right _ (List.mem_append_right _ (List.mem_of_getElem? (i := 93) rfl))))) rfl
theorem mL_X7_177 : Cond.methodLink RX7 177 yX7_seatToStart ∈ wsAll := wsAll_of (List.mem_append_right _ (List.mem_append_right _ (List.mem_append_right _ (List.mem_append_right _ (List.mem_of_getElem? (i := 94) (by decide +kernel)))))) rfl
theorem iM_X7_seatToStart : Cond.instanceMethod yX7_seatToStart ∈ wsAll := wsAll_of (List.mem_append_right _ (List.mem_append_right _ (List.mem_append_right _ (List.mem_append_right _ (List.mem_of_getElem? (i := 96) (by decide +kernel)))))) rfl
theorem cD_X7_seatToStart : Cond.code yX7_seatToStart cX7_seatToStart 7 (some FieldType.int) ∈ wsAll := wsAll_of (List.mem_append_right _ (List.mem_append_right _ (List.mem_append_right _ (List.mem_append_right _ (List.mem_of_getElem? (i := 97) rfl))))) rfl
theorem mL_X7_160 : Cond.methodLink RX7 160 yX7_agreed ∈ wsAll := wsAll_of (List.mem_append_right _ (List.mem_append_right _ (List.mem_append_right _ (List.mem_append_right _ (List.mem_of_getElem? (i := 98) (by decide +kernel)))))) rfl
theorem iM_X7_agreed : Cond.instanceMethod yX7_agreed ∈ wsAll := wsAll_of (List.mem_append_right _ (List.mem_append_right _ (List.mem_append_right _ (List.mem_append_right _ (List.mem_of_getElem? (i := 100) (by decide +kernel)))))) rfl
theorem cD_X7_agreed : Cond.code yX7_agreed cX7_agreed 8 (some FieldType.int) ∈ wsAll := wsAll_of (List.mem_append_right _ (List.mem_append_right _ (List.mem_append_right _ (List.mem_append_right _ (List.mem_of_getElem? (i := 101) rfl))))) rfl
theorem mL_X7_153 : Cond.methodLink RX7 153 yX7_rowOf ∈ wsAll := wsAll_of (List.mem_append_right _ (List.mem_append_right _ (List.mem_append_right _ (List.mem_append_right _ (List.mem_of_getElem? (i := 102) (by decide +kernel)))))) rfl
theorem iM_X7_rowOf : Cond.instanceMethod yX7_rowOf ∈ wsAll := wsAll_of (List.mem_append_right _ (List.mem_append_right _ (List.mem_append_right _ (List.mem_append_right _ (List.mem_of_getElem? (i := 104) (by decide +kernel)))))) rfl
theorem cD_X7_rowOf : Cond.code yX7_rowOf cX7_rowOf 5 (some FieldType.int) ∈ wsAll := wsAll_of (List.mem_append_right _ (List.mem_append_right _ (List.mem_append_right _ (List.mem_append_right _ (List.mem_of_getElem? (i := 105) rfl))))) rfl
theorem mL_X7_157 : Cond.methodLink RX7 157 yX7_ballotAt ∈ wsAll := wsAll_of (List.mem_append_right _ (List.mem_append_right _ (List.mem_append_right _ (List.mem_append_right _ (List.mem_of_getElem? (i := 106) (by decide +kernel)))))) rfl
theorem iM_X7_ballotAt : Cond.instanceMethod yX7_ballotAt ∈ wsAll := wsAll_of (List.mem_append_right _ (List.mem_append_right _ (List.mem_append_right _ (List.mem_append_right _ (List.mem_of_getElem? (i := 108) (by decide +kernel)))))) rfl
theorem cD_X7_ballotAt : Cond.code yX7_ballotAt cX7_ballotAt 2 (some FieldType.int) ∈ wsAll := wsAll_of (List.mem_append_right _ (List.mem_append_right _ (List.mem_append_right _ (List.mem_append_right _ (List.mem_of_getElem? (i := 109) rfl))))) rfl
theorem mL_X7_164 : Cond.methodLink RX7 164 yX7_holderAt ∈ wsAll := wsAll_of (List.mem_append_right _ (List.mem_append_right _ (List.mem_append_right _ (List.mem_append_right _ (List.mem_of_getElem? (i := 110) (by decide +kernel)))))) rfl
theorem iM_X7_holderAt : Cond.instanceMethod yX7_holderAt ∈ wsAll := wsAll_of (List.mem_append_right _ (List.mem_append_right _ (List.mem_append_right _ (List.mem_append_right _ (List.mem_of_getElem? (i := 112) (by decide +kernel)))))) rfl
theorem cD_X7_holderAt : Cond.code yX7_holderAt cX7_holderAt 2 (some FieldType.int) ∈ wsAll := wsAll_of (List.mem_append_right _ (List.mem_append_right _ (List.mem_append_right _ (List.mem_append_right _ (List.mem_of_getElem? (i := 113) rfl))))) rfl
theorem mL_X7_180 : Cond.methodLink RX7 180 yX7_markAt ∈ wsAll := wsAll_of (List.mem_append_right _ (List.mem_append_right _ (List.mem_append_right _ (List.mem_append_right _ (List.mem_of_getElem? (i := 114) (by decide +kernel)))))) rfl
theorem iM_X7_markAt : Cond.instanceMethod yX7_markAt ∈ wsAll := wsAll_of (List.mem_append_right _ (List.mem_append_right _ (List.mem_append_right _ (List.mem_append_right _ (List.mem_of_getElem? (i := 116) (by decide +kernel)))))) rfl
theorem cD_X7_markAt : Cond.code yX7_markAt cX7_markAt 2 (some FieldType.long) ∈ wsAll := wsAll_of (List.mem_append_right _ (List.mem_append_right _ (List.mem_append_right _ (List.mem_append_right _ (List.mem_of_getElem? (i := 117) rfl))))) rfl
theorem kJ_X7_184 : Cond.constantLong RX7 184 (59999) ∈ wsAll := wsAll_of (List.mem_append_right _ (List.mem_append_right _ (List.mem_append_right _ (List.mem_append_right _ (List.mem_of_getElem? (i := 118) (by decide +kernel)))))) rfl
theorem mL_X7_186 : Cond.methodLink RX7 186 yX7_fail ∈ wsAll := wsAll_of (List.mem_append_right _ (List.mem_append_right _ (List.mem_append_right _ (List.mem_append_right _ (List.mem_of_getElem? (i := 119) (by decide +kernel)))))) rfl
theorem iM_X7_fail : Cond.instanceMethod yX7_fail ∈ wsAll := wsAll_of (List.mem_append_right _ (List.mem_append_right _ (List.mem_append_right _ (List.mem_append_right _ (List.mem_of_getElem? (i := 121) (by decide +kernel)))))) rfl
theorem cD_X7_fail : Cond.code yX7_fail cX7_fail 2 (none : Option FieldType) ∈ wsAll := wsAll_of (List.mem_append_right _ (List.mem_append_right _ (List.mem_append_right _ (List.mem_append_right _ (List.mem_of_getElem? (i := 122) rfl))))) rfl
theorem mL_X7_189 : Cond.methodLink RX7 189 yX7_termAt ∈ wsAll := wsAll_of (List.mem_append_right _ (List.mem_append_right _ (List.mem_append_right _ (List.mem_append_right _ (List.mem_of_getElem? (i := 123) (by decide +kernel)))))) rfl
theorem iM_X7_termAt : Cond.instanceMethod yX7_termAt ∈ wsAll := wsAll_of (List.mem_append_right _ (List.mem_append_right _ (List.mem_append_right _ (List.mem_append_right _ (List.mem_of_getElem? (i := 125) (by decide +kernel)))))) rfl
theorem cD_X7_termAt : Cond.code yX7_termAt cX7_termAt 2 (some FieldType.int) ∈ wsAll := wsAll_of (List.mem_append_right _ (List.mem_append_right _ (List.mem_append_right _ (List.mem_append_right _ (List.mem_of_getElem? (i := 126) rfl))))) rfl
theorem mL_X7_197 : Cond.methodLink RX7 197 yX7_accepts ∈ wsAll := wsAll_of (List.mem_append_right _ (List.mem_append_right _ (List.mem_append_right _ (List.mem_append_right _ (List.mem_of_getElem? (i := 127) (by decide +kernel)))))) rfl
theorem iM_X7_accepts : Cond.instanceMethod yX7_accepts ∈ wsAll := wsAll_of (List.mem_append_right _ (List.mem_append_right _ (List.mem_append_right _ (List.mem_append_right _ (List.mem_of_getElem? (i := 129) (by decide +kernel)))))) rfl
theorem cD_X7_accepts : Cond.code yX7_accepts cX7_accepts 9 (some FieldType.int) ∈ wsAll := wsAll_of (List.mem_append_right _ (List.mem_append_right _ (List.mem_append_right _ (List.mem_append_right _ (List.mem_of_getElem? (i := 130) rfl))))) rfl
theorem mL_X7_167 : Cond.methodLink RX7 167 yX7_answer ∈ wsAll := wsAll_of (List.mem_append_right _ (List.mem_append_right _ (List.mem_append_right _ (List.mem_append_right _ (List.mem_of_getElem? (i := 131) (by decide +kernel)))))) rfl
theorem iM_X7_answer : Cond.instanceMethod yX7_answer ∈ wsAll := wsAll_of (List.mem_append_right _ (List.mem_append_right _ (List.mem_append_right _ (List.mem_append_right _ (List.mem_of_getElem? (i := 133) (by decide +kernel)))))) rfl
theorem cD_X7_answer : Cond.code yX7_answer cX7_answer 6 (some FieldType.int) ∈ wsAll := wsAll_of (List.mem_append_right _ (List.mem_append_right _ (List.mem_append_right _ (List.mem_append_right _ (List.mem_of_getElem? (i := 134) rfl))))) rfl
theorem mL_X7_200 : Cond.methodLink RX7 200 yX7_prepares ∈ wsAll := wsAll_of (List.mem_append_right _ (List.mem_append_right _ (List.mem_append_right _ (List.mem_append_right _ (List.mem_of_getElem? (i := 135) (by decide +kernel)))))) rfl
theorem iM_X7_prepares : Cond.instanceMethod yX7_prepares ∈ wsAll := wsAll_of (List.mem_append_right _ (List.mem_append_right _ (List.mem_append_right _ (List.mem_append_right _ (List.mem_of_getElem? (i := 137) (by decide +kernel)))))) rfl
theorem cD_X7_prepares : Cond.code yX7_prepares cX7_prepares 4 (some FieldType.int) ∈ wsAll := wsAll_of (List.mem_append_right _ (List.mem_append_right _ (List.mem_append_right _ (List.mem_append_right _ (List.mem_of_getElem? (i := 138) rfl))))) rfl
theorem mL_X7_203 : Cond.methodLink RX7 203 yX7_agrees ∈ wsAll := wsAll_of (List.mem_append_right _ (List.mem_append_right _ (List.mem_append_right _ (List.mem_append_right _ (List.mem_of_getElem? (i := 139) (by decide +kernel)))))) rfl
theorem iM_X7_agrees : Cond.instanceMethod yX7_agrees ∈ wsAll := wsAll_of (List.mem_append_right _ (List.mem_append_right _ (List.mem_append_right _ (List.mem_append_right _ (List.mem_of_getElem? (i := 141) (by decide +kernel)))))) rfl
theorem cD_X7_agrees : Cond.code yX7_agrees cX7_agrees 4 (some FieldType.int) ∈ wsAll := wsAll_of (List.mem_append_right _ (List.mem_append_right _ (List.mem_append_right _ (List.mem_append_right _ (List.mem_of_getElem? (i := 142) rfl))))) rfl
theorem kJ_X7_192 : Cond.constantLong RX7 192 (-1) ∈ wsAll := wsAll_of (List.mem_append_right _ (List.mem_append_right _ (List.mem_append_right _ (List.mem_append_right _ (List.mem_of_getElem? (i := 143) (by decide +kernel)))))) rfl
theorem mL_X7_206 : Cond.methodLink RX7 206 yX7_refuses ∈ wsAll := wsAll_of (List.mem_append_right _ (List.mem_append_right _ (List.mem_append_right _ (List.mem_append_right _ (List.mem_of_getElem? (i := 144) (by decide +kernel)))))) rfl
theorem iM_X7_refuses : Cond.instanceMethod yX7_refuses ∈ wsAll := wsAll_of (List.mem_append_right _ (List.mem_append_right _ (List.mem_append_right _ (List.mem_append_right _ (List.mem_of_getElem? (i := 146) (by decide +kernel)))))) rfl
theorem cD_X7_refuses : Cond.code yX7_refuses cX7_refuses 4 (some FieldType.int) ∈ wsAll := wsAll_of (List.mem_append_right _ (List.mem_append_right _ (List.mem_append_right _ (List.mem_append_right _ (List.mem_of_getElem? (i := 147) rfl))))) rfl
theorem mL_L_115 : Cond.methodLink RL 115 yX7_issuer ∈ wsAll := wsAll_of (List.mem_append_right _ (List.mem_append_right _ (List.mem_append_right _ (List.mem_append_right _ (List.mem_of_getElem? (i := 148) (by decide +kernel)))))) rfl
theorem iM_X7_issuer : Cond.instanceMethod yX7_issuer ∈ wsAll := wsAll_of (List.mem_append_right _ (List.mem_append_right _ (List.mem_append_right _ (List.mem_append_right _ (List.mem_of_getElem? (i := 149) (by decide +kernel)))))) rfl
theorem sL_X7_issuer : Cond.selects yX7_issuer.cls yX7_issuer yX7_issuer ∈ wsAll := wsAll_of (List.mem_append_right _ (List.mem_append_right _ (List.mem_append_right _ (List.mem_append_right _ (List.mem_of_getElem? (i := 150) (by decide +kernel)))))) rfl
theorem cD_X7_issuer : Cond.code yX7_issuer cX7_issuer 3 (some FieldType.long) ∈ wsAll := wsAll_of (List.mem_append_right _ (List.mem_append_right _ (List.mem_append_right _ (List.mem_append_right _ (List.mem_of_getElem? (i := 151) rfl))))) rfl
theorem mL_L_118 : Cond.methodLink RL 118 yX7_next ∈ wsAll := wsAll_of (List.mem_append_right _ (List.mem_append_right _ (List.mem_append_right _ (List.mem_append_right _ (List.mem_of_getElem? (i := 152) (by decide +kernel)))))) rfl
theorem iM_X7_next : Cond.instanceMethod yX7_next ∈ wsAll := wsAll_of (List.mem_append_right _ (List.mem_append_right _ (List.mem_append_right _ (List.mem_append_right _ (List.mem_of_getElem? (i := 153) (by decide +kernel)))))) rfl
theorem sL_X7_next : Cond.selects yX7_next.cls yX7_next yX7_next ∈ wsAll := wsAll_of (List.mem_append_right _ (List.mem_append_right _ (List.mem_append_right _ (List.mem_append_right _ (List.mem_of_getElem? (i := 154) (by decide +kernel)))))) rfl
theorem cD_X7_next : Cond.code yX7_next cX7_next 2 (some FieldType.long) ∈ wsAll := wsAll_of (List.mem_append_right _ (List.mem_append_right _ (List.mem_append_right _ (List.mem_append_right _ (List.mem_of_getElem? (i := 155) rfl))))) rfl
theorem mL_X7_215 : Cond.methodLink RX7 215 yX7_give ∈ wsAll := wsAll_of (List.mem_append_right _ (List.mem_append_right _ (List.mem_append_right _ (List.mem_append_right _ (List.mem_of_getElem? (i := 156) (by decide +kernel)))))) rfl
theorem iM_X7_give : Cond.instanceMethod yX7_give ∈ wsAll := wsAll_of (List.mem_append_right _ (List.mem_append_right _ (List.mem_append_right _ (List.mem_append_right _ (List.mem_of_getElem? (i := 158) (by decide +kernel)))))) rfl
theorem cD_X7_give : Cond.code yX7_give cX7_give 6 (some FieldType.long) ∈ wsAll := wsAll_of (List.mem_append_right _ (List.mem_append_right _ (List.mem_append_right _ (List.mem_append_right _ (List.mem_of_getElem? (i := 159) rfl))))) rfl
theorem kJ_X7_209 : Cond.constantLong RX7 209 (5000) ∈ wsAll := wsAll_of (List.mem_append_right _ (List.mem_append_right _ (List.mem_append_right _ (List.mem_append_right _ (List.mem_of_getElem? (i := 160) (by decide +kernel)))))) rfl
theorem kJ_X7_211 : Cond.constantLong RX7 211 (8388608) ∈ wsAll := wsAll_of (List.mem_append_right _ (List.mem_append_right _ (List.mem_append_right _ (List.mem_append_right _ (List.mem_of_getElem? (i := 161) (by decide +kernel)))))) rfl
theorem kJ_X7_213 : Cond.constantLong RX7 213 (1024) ∈ wsAll := wsAll_of (List.mem_append_right _ (List.mem_append_right _ (List.mem_append_right _ (List.mem_append_right _ (List.mem_of_getElem? (i := 162) (by decide +kernel)))))) rfl
theorem mL_L_121 : Cond.methodLink RL 121 yX7_batch ∈ wsAll := wsAll_of (List.mem_append_right _ (List.mem_append_right _ (List.mem_append_right _ (List.mem_append_right _ (List.mem_of_getElem? (i := 163) (by decide +kernel)))))) rfl
theorem iM_X7_batch : Cond.instanceMethod yX7_batch ∈ wsAll := wsAll_of (List.mem_append_right _ (List.mem_append_right _ (List.mem_append_right _ (List.mem_append_right _ (List.mem_of_getElem? (i := 164) (by decide +kernel)))))) rfl
theorem sL_X7_batch : Cond.selects yX7_batch.cls yX7_batch yX7_batch ∈ wsAll := wsAll_of (List.mem_append_right _ (List.mem_append_right _ (List.mem_append_right _ (List.mem_append_right _ (List.mem_of_getElem? (i := 165) (by decide +kernel)))))) rfl
theorem cD_X7_batch : Cond.code yX7_batch cX7_batch 3 (some FieldType.long) ∈ wsAll := wsAll_of (List.mem_append_right _ (List.mem_append_right _ (List.mem_append_right _ (List.mem_append_right _ (List.mem_of_getElem? (i := 166) rfl))))) rfl
theorem mL_L_124 : Cond.methodLink RL 124 yX7_seat ∈ wsAll := wsAll_of (List.mem_append_right _ (List.mem_append_right _ (List.mem_append_right _ (List.mem_append_right _ (List.mem_of_getElem? (i := 167) (by decide +kernel)))))) rfl
theorem iM_X7_seat : Cond.instanceMethod yX7_seat ∈ wsAll := wsAll_of (List.mem_append_right _ (List.mem_append_right _ (List.mem_append_right _ (List.mem_append_right _ (List.mem_of_getElem? (i := 168) (by decide +kernel)))))) rfl
theorem sL_X7_seat : Cond.selects yX7_seat.cls yX7_seat yX7_seat ∈ wsAll := wsAll_of (List.mem_append_right _ (List.mem_append_right _ (List.mem_append_right _ (List.mem_append_right _ (List.mem_of_getElem? (i := 169) (by decide +kernel)))))) rfl
theorem cD_X7_seat : Cond.code yX7_seat cX7_seat 7 (some FieldType.long) ∈ wsAll := wsAll_of (List.mem_append_right _ (List.mem_append_right _ (List.mem_append_right _ (List.mem_append_right _ (List.mem_of_getElem? (i := 170) rfl))))) rfl
theorem mL_L_128 : Cond.methodLink RL 128 yX7_part ∈ wsAll := wsAll_of (List.mem_append_right _ (List.mem_append_right _ (List.mem_append_right _ (List.mem_append_right _ (List.mem_of_getElem? (i := 171) (by decide +kernel)))))) rfl
theorem iM_X7_part : Cond.instanceMethod yX7_part ∈ wsAll := wsAll_of (List.mem_append_right _ (List.mem_append_right _ (List.mem_append_right _ (List.mem_append_right _ (List.mem_of_getElem? (i := 172) (by decide +kernel)))))) rfl
theorem sL_X7_part : Cond.selects yX7_part.cls yX7_part yX7_part ∈ wsAll := wsAll_of (List.mem_append_right _ (List.mem_append_right _ (List.mem_append_right _ (List.mem_append_right _ (List.mem_of_getElem? (i := 173) (by decide +kernel)))))) rfl
theorem cD_X7_part : Cond.code yX7_part cX7_part 6 (some FieldType.long) ∈ wsAll := wsAll_of (List.mem_append_right _ (List.mem_append_right _ (List.mem_append_right _ (List.mem_append_right _ (List.mem_of_getElem? (i := 174) rfl))))) rfl
theorem kJ_L_69 : Cond.constantLong RL 69 (4294967295) ∈ wsAll := wsAll_of (List.mem_append_right _ (List.mem_append_right _ (List.mem_append_right _ (List.mem_append_right _ (List.mem_of_getElem? (i := 175) (by decide +kernel)))))) rfl
theorem uW_X0 : ∀ w ∈ u_ws RX0 TX0 3, w ∈ wsAll := fun w h => wsAll_of ((show ∀ w ∈ u_ws RX0 TX0 3, w ∈ lw_tbl by decide +kernel) w h) ((show ∀ w ∈ u_ws RX0 TX0 3, goodWord w = true by decide +kernel) w h)
theorem uW_X1 : ∀ w ∈ u_ws RX1 TX1 15, w ∈ wsAll := fun w h => wsAll_of ((show ∀ w ∈ u_ws RX1 TX1 15, w ∈ lw_tbl by decide +kernel) w h) ((show ∀ w ∈ u_ws RX1 TX1 15, goodWord w = true by decide +kernel) w h)
theorem uW_X2 : ∀ w ∈ u_ws RX2 TX2 8, w ∈ wsAll := fun w h => wsAll_of ((show ∀ w ∈ u_ws RX2 TX2 8, w ∈ lw_tbl by decide +kernel) w h) ((show ∀ w ∈ u_ws RX2 TX2 8, goodWord w = true by decide +kernel) w h)
theorem uW_X3 : ∀ w ∈ u_ws RX3 TX3 3, w ∈ wsAll := fun w h => wsAll_of ((show ∀ w ∈ u_ws RX3 TX3 3, w ∈ lw_tbl by decide +kernel) w h) ((show ∀ w ∈ u_ws RX3 TX3 3, goodWord w = true by decide +kernel) w h)
theorem uW_X4 : ∀ w ∈ u_ws RX4 TX4 2, w ∈ wsAll := fun w h => wsAll_of ((show ∀ w ∈ u_ws RX4 TX4 2, w ∈ lw_tbl by decide +kernel) w h) ((show ∀ w ∈ u_ws RX4 TX4 2, goodWord w = true by decide +kernel) w h)
theorem uW_X5 : ∀ w ∈ u_ws RX5 TX5 4, w ∈ wsAll := fun w h => wsAll_of ((show ∀ w ∈ u_ws RX5 TX5 4, w ∈ lw_tbl by decide +kernel) w h) ((show ∀ w ∈ u_ws RX5 TX5 4, goodWord w = true by decide +kernel) w h)
theorem uW_X6 : ∀ w ∈ u_ws RX6 TX6 4, w ∈ wsAll := fun w h => wsAll_of ((show ∀ w ∈ u_ws RX6 TX6 4, w ∈ lw_tbl by decide +kernel) w h) ((show ∀ w ∈ u_ws RX6 TX6 4, goodWord w = true by decide +kernel) w h)
theorem uW_X7 : ∀ w ∈ u_ws RX7 TX7 37, w ∈ wsAll := fun w h => wsAll_of ((show ∀ w ∈ u_ws RX7 TX7 37, w ∈ lw_tbl by decide +kernel) w h) ((show ∀ w ∈ u_ws RX7 TX7 37, goodWord w = true by decide +kernel) w h)
end
section
/-! The store: the system's cells as five functions of the address: kind, length, ints, longs, references. -/
abbrev gS : Type := (Nat → Nat) × (Nat → Nat) × (Nat → Nat → Int32) × (Nat → Nat → Int64) × (Nat → Nat → Option Nat)
def gK (S : gS) : Nat → Nat := S.1
def gn (S : gS) : Nat → Nat := S.2.1
def gI (S : gS) : Nat → Nat → Int32 := S.2.2.1
def gJ (S : gS) : Nat → Nat → Int64 := S.2.2.2.1
def gR (S : gS) : Nat → Nat → Option Nat := S.2.2.2.2
def up2 {α : Type} (f : Nat → Nat → α) (a k : Nat) (v : α) : Nat → Nat → α := fun b j => if j = k then (if b = a then v else f b j) else f b j
def sI (S : gS) (a k : Nat) (v : Int32) : gS := (gK S, gn S, up2 (gI S) a k v, gJ S, gR S)
def sJ (S : gS) (a k : Nat) (v : Int64) : gS := (gK S, gn S, gI S, up2 (gJ S) a k v, gR S)
def sR (S : gS) (a k : Nat) (v : Option Nat) : gS := (gK S, gn S, gI S, gJ S, up2 (gR S) a k v)
/-- a new cell of kind kd at a -/
def sN (S : gS) (a kd len : Nat) : gS := (va_up (gK S) a kd, va_up (gn S) a len, va_up (gI S) a (fun _ => 0), va_up (gJ S) a (fun _ => 0), va_up (gR S) a (fun _ => none))
def gS0 : gS := (fun _ => 0, fun _ => 0, fun _ _ => 0, fun _ _ => 0, fun _ _ => none)
theorem up2_s {α : Type} {f : Nat → Nat → α} {a k : Nat} {v : α} : up2 f a k v a k = v := by simp [up2]
theorem up2_a {α : Type} {f : Nat → Nat → α} {a k b j : Nat} {v : α} (h : b ≠ a) : up2 f a k v b j = f b j := by simp [up2, h]
theorem up2_k {α : Type} {f : Nat → Nat → α} {a k b j : Nat} {v : α} (h : j ≠ k) : up2 f a k v b j = f b j := by simp [up2, h]
theorem up2_row {α : Type} {f : Nat → Nat → α} {a k : Nat} {v : α} (b : Nat) : up2 f a k v b = if b = a then va_up (f a) k v else f b := by
  funext j
  by_cases h : b = a
  · subst h; simp [up2, va_up]
  · simp [up2, h]
def gT (ci k : Nat) : FieldType := match ci with
  | 0 => tyX0 k
  | 1 => tyX1 k
  | 2 => tyX2 k
  | 3 => tyX3 k
  | 4 => tyX4 k
  | 5 => tyX5 k
  | 6 => tyX6 k
  | _ => tyX7 k
def gN (ci : Nat) : Nat := match ci with
  | 0 => 3
  | 1 => 15
  | 2 => 8
  | 3 => 3
  | 4 => 2
  | 5 => 4
  | 6 => 4
  | _ => 37
/-- what a field of a type holds -/
def gV (S : gS) (a : Nat) (t : FieldType) (k : Nat) : Value := match t with
  | .long => .long (gJ S a k)
  | .int => .int (gI S a k)
  | .boolean => .int (gI S a k)
  | _ => va_rf (gR S a k)
def gF (S : gS) (a ci : Nat) : List Value := (List.range (gN ci)).map (fun k => gV S a (gT ci k) k)
def gA (S : gS) (a kd : Nat) : vp_A := (gn S a, if kd = 10 then .inr (.inl (gJ S a)) else if kd = 9 then .inl (gI S a) else if kd = 11 then .inl (gI S a) else .inr (.inr (.inr (.inr (gR S a)))))
def gE (cy : Nat → ClassId) (S : gS) (a : Nat) : va_E := if gK S a ≤ 8 then .inr (gK S a - 1, gF S a (gK S a - 1)) else .inl (cy (gK S a), gA S a (gK S a))
def gY (cy : Nat → ClassId) : List (ClassId × FieldType) := [(cy 9, .int), (cy 10, .long), (cy 11, .boolean), (cy 12, .object RX1), (cy 13, .object RX2), (cy 14, .object RX3), (cy 15, .object RX5)]
/-- the heap holds the store; all its cells lie from N0 on -/
def gP (N0 : Nat) (D : va_G) (cy : Nat → ClassId) (S : gS) (H : Heap) : Prop := (∃ L : List Nat, va_P D vwCl (va_pl L (gE cy S)) H ∧ va_D (fun q => N0 ≤ q) (va_pl L (gE cy S)) ∧ ∀ a, a ∈ L ↔ gK S a ≠ 0) ∧ N0 ≤ H.size
/-- what holds in a method's body -/
def gC (N0 : Nat) (D : va_G) (cy : Nat → ClassId) (p : Program) (s : State) (m : MethodId) (args : Array Value) (c : Code) (cc : ByteArray) (nL : Nat) (own : String) : Prop :=
  p.tables.exec = Jvm.exec ∧ c.code = cc ∧ c.maxLocals = nL ∧ s.vm.findClass own = some m.cls ∧ (∀ w ∈ wsAll, w.before args s = true) ∧ va_K D vwCl (gY cy) s ∧ N0 ≤ s.heap.size
theorem gF_len (S : gS) (a ci : Nat) : (gF S a ci).length = gN ci := by simp [gF]
theorem gF_at {S : gS} {a ci k : Nat} (hk : k < gN ci) : (gF S a ci)[k]? = some (gV S a (gT ci k) k) := by simp [gF, hk]
theorem gE_obj {cy : Nat → ClassId} {S : gS} {a ci : Nat} (h : gK S a = ci + 1) (hc : ci < 8) : gE cy S a = .inr (ci, gF S a ci) := by
  unfold gE
  rw [if_pos (by omega), h]
  rfl
theorem gE_arr {cy : Nat → ClassId} {S : gS} {a kd : Nat} (h : gK S a = kd) (hc : 8 < kd) : gE cy S a = .inl (cy kd, gA S a kd) := by
  unfold gE
  rw [if_neg (by omega), h]
theorem va_pl_at {L : List Nat} {f : Nat → va_E} {a : Nat} (h : a ∈ L) : ∃ k : Nat, (va_pl L f)[k]? = some (a, f a) := va_pl_get (X := []) h
/-- an object's cell alone -/
theorem gP.one {N0 : Nat} {D : va_G} {cy : Nat → ClassId} {S : gS} {H : Heap} (h : gP N0 D cy S H) {a : Nat} (ha : gK S a ≠ 0) : va_P D vwCl [(a, gE cy S a)] H := by
  obtain ⟨⟨L, hP, hD, hL⟩, hN⟩ := h
  obtain ⟨k, hk⟩ := va_pl_at (f := gE cy S) ((hL a).mpr ha)
  exact hP.sub [k] (by simp [hk])
theorem gP.lt {N0 : Nat} {D : va_G} {cy : Nat → ClassId} {S : gS} {H : Heap} (h : gP N0 D cy S H) {a : Nat} (ha : gK S a ≠ 0) : a < H.size := (h.one ha 0 _ rfl).lt
theorem gP.ge {N0 : Nat} {D : va_G} {cy : Nat → ClassId} {S : gS} {H : Heap} (h : gP N0 D cy S H) {a : Nat} (ha : gK S a ≠ 0) : N0 ≤ a := by
  obtain ⟨⟨L, hP, hD, hL⟩, hN⟩ := h
  obtain ⟨k, hk⟩ := va_pl_at (f := gE cy S) ((hL a).mpr ha)
  exact hD.2 k _ hk
theorem gP.fresh {N0 : Nat} {D : va_G} {cy : Nat → ClassId} {S : gS} {H : Heap} (h : gP N0 D cy S H) {a : Nat} (ha : H.size ≤ a) : gK S a = 0 := by
  by_cases hz : gK S a = 0
  · exact hz
  · exact absurd (h.lt hz) (by omega)
/-- one cell is written -/
theorem gP.upd {N0 : Nat} {D : va_G} {cy : Nat → ClassId} {S S' : gS} {H H1 : Heap} (h : gP N0 D cy S H) {a : Nat} (ha : gK S a ≠ 0) (hK : ∀ b, gK S' b = gK S b) (hE : ∀ b, b ≠ a → gE cy S' b = gE cy S b) (he : va_at D vwCl (a, gE cy S' a) H1) (z : H1.size = H.size) (oq : ∀ q : Nat, q ≠ a → H1[q]? = H[q]?) : gP N0 D cy S' H1 := by
  obtain ⟨⟨L, hP, hD, hL⟩, hN⟩ := h
  have hpl : ∀ (k : Nat) (q : Nat × va_E), (va_pl L (gE cy S'))[k]? = some q → (va_pl L (gE cy S))[k]? = some (q.1, gE cy S q.1) ∧ q.2 = gE cy S' q.1 := by
    intro k q hk
    simp only [va_pl, List.getElem?_map] at hk ⊢
    cases hx : L[k]? with
    | none => rw [hx] at hk; cases hk
    | some x => rw [hx] at hk; cases hk; exact ⟨rfl, rfl⟩
  refine ⟨⟨L, fun k q hk => ?_, ⟨fun i j x y hi hj hxy => ?_, fun k q hk => hD.2 k (q.1, gE cy S q.1) (hpl k q hk).1⟩, fun b => by rw [hK]; exact hL b⟩, by rw [z]; exact hN⟩
  · obtain ⟨h1, h2⟩ := hpl k q hk
    obtain ⟨b, e⟩ := q
    dsimp only at h1 h2
    subst h2
    by_cases hb : b = a
    · subst hb; exact he
    · rw [hE b hb]; exact (hP k _ h1).kept (oq b hb)
  · exact hD.1 i j _ _ (hpl i x hi).1 (hpl j y hj).1 hxy
/-- a cell is made -/
theorem gP.new {N0 : Nat} {D : va_G} {cy : Nat → ClassId} {S S' : gS} {H H1 : Heap} (h : gP N0 D cy S H) (hK : gK S' H.size ≠ 0) (hK' : ∀ b, b ≠ H.size → gK S' b = gK S b) (hE : ∀ b, b ≠ H.size → gE cy S' b = gE cy S b) (he : va_at D vwCl (H.size, gE cy S' H.size) H1) (z : H1.size = H.size + 1) (oq : ∀ q : Nat, q < H.size → H1[q]? = H[q]?) : gP N0 D cy S' H1 := by
  have hfr : gK S H.size = 0 := h.fresh (Nat.le_refl _)
  have hlt := fun {a : Nat} (ha : gK S a ≠ 0) => h.lt ha
  obtain ⟨⟨L, hP, hD, hL⟩, hN⟩ := h
  have hn : H.size ∉ L := fun q => (hL _).mp q hfr
  have hin : ∀ b ∈ L, b ≠ H.size := fun b hb e => hn (e ▸ hb)
  have e1 : va_pl (L ++ [H.size]) (gE cy S') = va_pl L (gE cy S) ++ [(H.size, gE cy S' H.size)] := by
    simp only [va_pl, List.map_append, List.map_cons, List.map_nil]
    congr 1
    exact List.map_congr_left fun b hb => by rw [hE b (hin b hb)]
  refine ⟨⟨L ++ [H.size], ?_, ?_, fun b => ?_⟩, by omega⟩
  · rw [e1]
    refine va_P.app (hP.kept fun k q hk => oq q.1 ((hP k q hk).lt)) (fun k q hk => ?_)
    have hz : k < 1 := (List.getElem?_eq_some_iff.mp hk).1
    rw [show k = 0 by omega] at hk
    cases hk
    exact he
  · rw [e1]; exact hD.push hP rfl hN
  · by_cases hb : b = H.size
    · subst hb; simp [hK]
    · rw [hK' b hb]; simp [hb, hL]
end
section
/-! Rows of the machine over the store. -/
section GR
variable {p : Program} {l : Launch} {e : Env} {R : Room} {s : State} {m : MethodId} {args : Array Value} {below : List Frame} {meth : Method} {c : Code} {H : Heap} {locs : List Loc} {cells slots : Nat} {Q : State → Prop}
variable {cc : ByteArray} {pc nL : Nat} {own : String} {ls : Array Slot} {rest : List Value} {N0 : Nat} {D : va_G} {cy : Nat → ClassId} {S : gS} {a : Nat}
theorem gF_I {S : gS} {a ci k : Nat} {v : Int32} (ht : gT ci k = .int ∨ gT ci k = .boolean) (hk : k < gN ci) : gF (sI S a k v) a ci = (gF S a ci).set k (.int v) := by
  apply List.ext_getElem?
  intro j
  by_cases hj : j < gN ci
  · rw [gF_at hj]
    by_cases hjk : j = k
    · subst hjk
      rw [List.getElem?_set_self (by rw [gF_len]; exact hj)]
      rcases ht with ht | ht <;> simp [gV, ht, sI, gI, up2]
    · rw [List.getElem?_set_ne (Ne.symm hjk), gF_at hj]
      congr 1
      unfold gV
      split <;> simp [sI, gI, gJ, gR, up2, hjk]
  · rw [List.getElem?_eq_none (by rw [gF_len]; omega), List.getElem?_eq_none (by rw [List.length_set, gF_len]; omega)]
theorem gF_J {S : gS} {a ci k : Nat} {v : Int64} (ht : gT ci k = .long) (hk : k < gN ci) : gF (sJ S a k v) a ci = (gF S a ci).set k (.long v) := by
  apply List.ext_getElem?
  intro j
  by_cases hj : j < gN ci
  · rw [gF_at hj]
    by_cases hjk : j = k
    · subst hjk
      rw [List.getElem?_set_self (by rw [gF_len]; exact hj)]
      simp [gV, ht, sJ, gJ, up2]
    · rw [List.getElem?_set_ne (Ne.symm hjk), gF_at hj]
      congr 1
      unfold gV
      split <;> simp [sJ, gI, gJ, gR, up2, hjk]
  · rw [List.getElem?_eq_none (by rw [gF_len]; omega), List.getElem?_eq_none (by rw [List.length_set, gF_len]; omega)]
def gref (t : FieldType) : Bool := match t with
  | .object _ => true
  | .array _ => true
  | _ => false
theorem gV_ref {S : gS} {a k : Nat} {t : FieldType} (ht : gref t = true) : gV S a t k = va_rf (gR S a k) := by
  cases t <;> first | rfl | cases ht
theorem gF_R {S : gS} {a ci k : Nat} {v : Option Nat} (ht : gref (gT ci k) = true) (hk : k < gN ci) : gF (sR S a k v) a ci = (gF S a ci).set k (va_rf v) := by
  apply List.ext_getElem?
  intro j
  by_cases hj : j < gN ci
  · rw [gF_at hj]
    by_cases hjk : j = k
    · subst hjk
      rw [List.getElem?_set_self (by rw [gF_len]; exact hj), gV_ref ht]
      simp [sR, gR, up2]
    · rw [List.getElem?_set_ne (Ne.symm hjk), gF_at hj]
      congr 1
      unfold gV
      split <;> simp [sR, gI, gJ, gR, up2, hjk]
  · rw [List.getElem?_eq_none (by rw [gF_len]; omega), List.getElem?_eq_none (by rw [List.length_set, gF_len]; omega)]
theorem gE_sI {a k b : Nat} {v : Int32} (h : b ≠ a) : gE cy (sI S a k v) b = gE cy S b := by
  have e1 : gI (sI S a k v) b = gI S b := by funext j; exact up2_a h
  simp only [gE, gF, gA, gV]
  simp only [show gK (sI S a k v) = gK S from rfl, show gn (sI S a k v) = gn S from rfl, show gJ (sI S a k v) = gJ S from rfl, show gR (sI S a k v) = gR S from rfl, e1]
theorem gE_sJ {a k b : Nat} {v : Int64} (h : b ≠ a) : gE cy (sJ S a k v) b = gE cy S b := by
  have e1 : gJ (sJ S a k v) b = gJ S b := by funext j; exact up2_a h
  simp only [gE, gF, gA, gV]
  simp only [show gK (sJ S a k v) = gK S from rfl, show gn (sJ S a k v) = gn S from rfl, show gI (sJ S a k v) = gI S from rfl, show gR (sJ S a k v) = gR S from rfl, e1]
theorem gE_sR {a k b : Nat} {v : Option Nat} (h : b ≠ a) : gE cy (sR S a k v) b = gE cy S b := by
  have e1 : gR (sR S a k v) b = gR S b := by funext j; exact up2_a h
  simp only [gE, gF, gA, gV]
  simp only [show gK (sR S a k v) = gK S from rfl, show gn (sR S a k v) = gn S from rfl, show gI (sR S a k v) = gI S from rfl, show gJ (sR S a k v) = gJ S from rfl, e1]
theorem gE_sN {a kd len b : Nat} (h : b ≠ a) : gE cy (sN S a kd len) b = gE cy S b := by
  have e1 : gI (sN S a kd len) b = gI S b := by simp [sN, gI, va_up, h]
  have e2 : gJ (sN S a kd len) b = gJ S b := by simp [sN, gJ, va_up, h]
  have e3 : gR (sN S a kd len) b = gR S b := by simp [sN, gR, va_up, h]
  have e4 : gK (sN S a kd len) b = gK S b := by simp [sN, gK, va_up, h]
  have e5 : gn (sN S a kd len) b = gn S b := by simp [sN, gn, va_up, h]
  simp only [gE, gF, gA, gV, e1, e2, e3, e4, e5]
theorem g_get (hC : gC N0 D cy p s m args c cc nL own) (hP : gP N0 D cy S H) {ci k index : Nat} {C : String} {T : u_T} (hc : vwCl[ci]? = some (C, T, gN ci)) (hci : ci < 8) (hin : ∀ w ∈ u_ws C T (gN ci), w ∈ wsAll) (hk : k < gN ci) (hlink : Cond.fieldLink own index (T k).1 (T k).2.1 (T k).2.2.1 ∈ wsAll) (hKa : gK S a = ci + 1) (hdg : decode cc pc = .ok (.getfield index, 3))
    (kk : W p l e R s m args below meth c H locs cells slots Q (F0 m (pc + 3) ls (gV S a (gT ci k) k :: rest))) : W p l e R s m args below meth c H locs cells slots Q (F0 m pc ls (.ref a :: rest)) := by
  obtain ⟨hx, hb, -, hown, hts, hK, -⟩ := hC
  have h1 := hP.one (a := a) (by omega)
  rw [gE_obj hKa hci] at h1
  exact va_get hx hb hts hin hown hK h1 0 rfl hc k hk (hts _ hlink) (fun x h => h) (gF_at hk) hdg kk
theorem g_put (hC : gC N0 D cy p s m args c cc nL own) (hP : gP N0 D cy S H) (hS : va_S (fun q => N0 ≤ q) s.heap H locs) {ci k index : Nat} {C : String} {T : u_T} (hc : vwCl[ci]? = some (C, T, gN ci)) (hci : ci < 8) (hin : ∀ w ∈ u_ws C T (gN ci), w ∈ wsAll) (hty : ∀ k, k < gN ci → parseFieldDescriptor (T k).2.2.1 = some (gT ci k)) (hnm : ∀ a, a < gN ci → ∀ b, b < gN ci → a ≠ b → (T a).2.1 ≠ (T b).2.1) (hk : k < gN ci) (hlink : Cond.fieldLink own index (T k).1 (T k).2.1 (T k).2.2.1 ∈ wsAll) (hfin : (T k).2.2.2 = false ∨ (meth.name = "<init>" ∧ (T k).1 = own ∧ (T k).2.2.2 = true)) {v : Value} (hn : narrow (gT ci k) v = v) (hfit : fits (gT ci k) v = true) (hKa : gK S a = ci + 1) {S2 : gS} (hK' : gK S2 = gK S) (hE : ∀ b, b ≠ a → gE cy S2 b = gE cy S b) (hF : gF S2 a ci = (gF S a ci).set k v) (hdg : decode cc pc = .ok (.putfield index, 3))
    (kk : ∀ (H1 : Heap) (locs1 : List Loc), gP N0 D cy S2 H1 → H1.size = H.size → va_S (fun q => N0 ≤ q) s.heap H1 locs1 → W p l e R s m args below meth c H1 locs1 cells slots Q (F0 m (pc + 3) ls rest)) : W p l e R s m args below meth c H locs cells slots Q (F0 m pc ls (v :: .ref a :: rest)) := by
  obtain ⟨hx, hb, -, hown, hts, hK, -⟩ := hC
  have h1 := hP.one (a := a) (by omega)
  have hge : N0 ≤ a := hP.ge (by omega)
  rw [gE_obj hKa hci] at h1
  have hap := va_apart (own := own) hts hin (gT ci) hty hnm hK hc
  obtain ⟨r, h1, cell, q1, q2, q3, q4⟩ := h1 0 _ rfl
  have hr : r = (C, T, gN ci) := Option.some.inj (h1.symm.trans hc)
  subst hr
  obtain ⟨hSl, hfc, kC, hkC, hkind⟩ := hK.1 ci _ hc
  obtain ⟨cf, kf, fi, f, hi, hsl⟩ := hSl k hk
  have hlay := hts _ (hin _ (u_in_lay hk))
  have hst := (u_facts hfc hkC (u_lays hts hin hk) hi).1
  have fin : ∀ (H' : Heap), H'[a]? = some (cell.setSlot f.slot v) → H'.size = H.size → (∀ q, q ≠ a → H'[q]? = H[q]?) → W p l e R s m args below meth c H' (locs ++ [⟨a, f.slot⟩]) cells slots Q (F0 m (pc + 3) ls rest) := by
    intro H' e1 e2 e3
    rw [hsl] at e1
    refine kk H' _ (hP.upd (a := a) (by omega) (fun b => by rw [hK']) hE ?_ e2 e3) e2 (hS.put e2 e3 hge)
    rw [gE_obj (ci := ci) (by rw [hK']; exact hKa) hci, hF]
    exact ⟨_, hc, t_OB.to (V := updV (vp_V (gF S a ci)) k v) ⟨_, e1, q2, q3, t_set q4 hap hk v⟩ (fun j _ => vp_updV_set (by rw [gF_len]; exact hk) v j)⟩
  rcases hfin with hfin | ⟨hin2, hdecl, hfin⟩
  · unfold u_lay at hlay
    rw [if_neg (by rw [hfin]; decide)] at hlay
    have h6 := u_store hfc hkC hkind hlay hi (hty k hk) hn hfit
    exact W.putK hx hb (f := f) ⟨hown, hts _ hlink, ⟨_, _, _, hi⟩, hst⟩ (by rw [q2]; exact h6) q1 q3 (by rw [hsl]; exact k2_hasslot (q4 k hk)) rfl rfl hdg fin
  · unfold u_lay at hlay
    rw [if_pos hfin] at hlay
    have hcf : m.cls = cf := by
      obtain ⟨_, _, c', _, _, _, -, -, hf', -, -, -, hown2, -⟩ := Cond.laysFinal_spec hlay
      have e1 : c' = cf := by have := hi.symm.trans hf'; simp at this; exact this.1.symm
      rw [hdecl] at hown2
      rw [← e1]; exact Option.some.inj (hown.symm.trans hown2)
    have h6 := u_fits hfc hkC hkind (Or.inr hlay) hi (hty k hk) hn hfit
    exact W.putFinK hx hb hown (hts _ hlink) hi hst hcf hin2 (by rw [q2]; exact h6) q1 q3 (by rw [hsl]; exact k2_hasslot (q4 k hk)) rfl rfl hdg fin
/-- array reads -/
theorem g_iald (hC : gC N0 D cy p s m args c cc nL own) (hP : gP N0 D cy S H) (hKa : gK S a = 9) {i : Int32} (hin : vp_in i (gn S a)) (hdg : decode cc pc = .ok (.iaload, 1))
    (kk : W p l e R s m args below meth c H locs cells slots Q (F0 m (pc + 1) ls (.int (gI S a i.toNatClampNeg) :: rest))) : W p l e R s m args below meth c H locs cells slots Q (F0 m pc ls (.int i :: .ref a :: rest)) := by
  obtain ⟨hx, hb, -, hown, hts, hK, -⟩ := hC
  have h1 := hP.one (a := a) (by omega)
  rw [gE_arr hKa (by omega)] at h1
  exact va_iald hx hb hK h1 0 0 rfl rfl hin hdg kk
theorem g_zald (hC : gC N0 D cy p s m args c cc nL own) (hP : gP N0 D cy S H) (hKa : gK S a = 11) {i : Int32} (hin : vp_in i (gn S a)) (hdg : decode cc pc = .ok (.baload, 1))
    (kk : W p l e R s m args below meth c H locs cells slots Q (F0 m (pc + 1) ls (.int (gI S a i.toNatClampNeg) :: rest))) : W p l e R s m args below meth c H locs cells slots Q (F0 m pc ls (.int i :: .ref a :: rest)) := by
  obtain ⟨hx, hb, -, hown, hts, hK, -⟩ := hC
  have h1 := hP.one (a := a) (by omega)
  rw [gE_arr hKa (by omega)] at h1
  exact va_zald hx hb hK h1 0 2 rfl rfl hin hdg kk
theorem g_lald (hC : gC N0 D cy p s m args c cc nL own) (hP : gP N0 D cy S H) (hKa : gK S a = 10) {i : Int32} (hin : vp_in i (gn S a)) (hdg : decode cc pc = .ok (.laload, 1))
    (kk : W p l e R s m args below meth c H locs cells slots Q (F0 m (pc + 1) ls (.long (gJ S a i.toNatClampNeg) :: rest))) : W p l e R s m args below meth c H locs cells slots Q (F0 m pc ls (.int i :: .ref a :: rest)) := by
  obtain ⟨hx, hb, -, hown, hts, hK, -⟩ := hC
  have h1 := hP.one (a := a) (by omega)
  rw [gE_arr hKa (by omega)] at h1
  exact va_lald hx hb hK h1 0 1 rfl rfl hin hdg kk
theorem g_aald (hC : gC N0 D cy p s m args c cc nL own) (hP : gP N0 D cy S H) {j : Nat} (hj : j < 4) (hKa : gK S a = 12 + j) {i : Int32} (hin : vp_in i (gn S a)) (hdg : decode cc pc = .ok (.aaload, 1))
    (kk : W p l e R s m args below meth c H locs cells slots Q (F0 m (pc + 1) ls (va_rf (gR S a i.toNatClampNeg) :: rest))) : W p l e R s m args below meth c H locs cells slots Q (F0 m pc ls (.int i :: .ref a :: rest)) := by
  obtain ⟨hx, hb, -, hown, hts, hK, -⟩ := hC
  have h1 := hP.one (a := a) (by omega)
  rw [gE_arr hKa (by omega)] at h1
  have e1 : gA S a (12 + j) = (gn S a, .inr (.inr (.inr (.inr (gR S a))))) := by
    unfold gA
    rw [if_neg (by omega), if_neg (by omega), if_neg (by omega)]
  rw [e1] at h1
  match j, hj with
  | 0, _ => exact va_aldq hx hb hK h1 0 3 rfl rfl hin hdg kk
  | 1, _ => exact va_aldq hx hb hK h1 0 4 rfl rfl hin hdg kk
  | 2, _ => exact va_aldq hx hb hK h1 0 5 rfl rfl hin hdg kk
  | 3, _ => exact va_aldq hx hb hK h1 0 6 rfl rfl hin hdg kk
theorem g_alen (hC : gC N0 D cy p s m args c cc nL own) (hP : gP N0 D cy S H) {j : Nat} (hj : j < 7) (hKa : gK S a = 9 + j) (hdg : decode cc pc = .ok (.arraylength, 1))
    (kk : W p l e R s m args below meth c H locs cells slots Q (F0 m (pc + 1) ls (.int (nI (gn S a)) :: rest))) : W p l e R s m args below meth c H locs cells slots Q (F0 m pc ls (.ref a :: rest)) := by
  obtain ⟨hx, hb, -, hown, hts, hK, -⟩ := hC
  have h1 := hP.one (a := a) (by omega)
  rw [gE_arr hKa (by omega)] at h1
  match j, hj with
  | 0, _ => exact va_alen hx hb hK h1 0 0 rfl rfl rfl hdg kk
  | 1, _ => exact va_alen hx hb hK h1 0 1 rfl rfl rfl hdg kk
  | 2, _ => exact va_alen hx hb hK h1 0 2 rfl rfl rfl hdg kk
  | 3, _ => exact va_alen hx hb hK h1 0 3 rfl rfl rfl hdg kk
  | 4, _ => exact va_alen hx hb hK h1 0 4 rfl rfl rfl hdg kk
  | 5, _ => exact va_alen hx hb hK h1 0 5 rfl rfl rfl hdg kk
  | 6, _ => exact va_alen hx hb hK h1 0 6 rfl rfl rfl hdg kk
end GR
end
section
/-! Array stores, new cells. -/
section GR2
variable {p : Program} {l : Launch} {e : Env} {R : Room} {s : State} {m : MethodId} {args : Array Value} {below : List Frame} {meth : Method} {c : Code} {H : Heap} {locs : List Loc} {cells slots : Nat} {Q : State → Prop}
variable {cc : ByteArray} {pc nL : Nat} {own : String} {ls : Array Slot} {rest : List Value} {N0 : Nat} {D : va_G} {cy : Nat → ClassId} {S : gS} {a : Nat}
theorem up2_self {α : Type} {f : Nat → Nat → α} {a k : Nat} {v : α} : up2 f a k v a = va_up (f a) k v := by rw [up2_row, if_pos rfl]
theorem g_iast (hC : gC N0 D cy p s m args c cc nL own) (hP : gP N0 D cy S H) (hS : va_S (fun q => N0 ≤ q) s.heap H locs) (hKa : gK S a = 9) {i x : Int32} (hin : vp_in i (gn S a)) (hdg : decode cc pc = .ok (.iastore, 1))
    (kk : ∀ (H1 : Heap) (locs1 : List Loc), gP N0 D cy (sI S a i.toNatClampNeg x) H1 → H1.size = H.size → va_S (fun q => N0 ≤ q) s.heap H1 locs1 → W p l e R s m args below meth c H1 locs1 cells slots Q (F0 m (pc + 1) ls rest)) : W p l e R s m args below meth c H locs cells slots Q (F0 m pc ls (.int x :: .int i :: .ref a :: rest)) := by
  obtain ⟨hx, hb, -, hown, hts, hK, -⟩ := hC
  have h1 := hP.one (a := a) (by omega)
  rw [gE_arr hKa (by omega)] at h1
  refine W.iast hx hb (h1 0 _ rfl) ((hK.2 0 _ rfl).1 (gn S a) (fun j => .int (gI S a j))) (fun q => by cases q) (by show ¬ (i < 0 ∨ (arrV _ _ _).slots.size ≤ _); rw [arrV_size]; exact hin) rfl rfl hdg fun H1 e z oq => ?_
  refine kk H1 _ (hP.upd (a := a) (by omega) (fun _ => rfl) (fun b hb => gE_sI hb) ?_ z oq) z (hS.put z oq (hP.ge (a := a) (by omega)))
  rw [gE_arr (kd := 9) (show gK (sI S a i.toNatClampNeg x) a = 9 from hKa) (by omega)]
  show H1[a]? = some (vp_cell _ _)
  rw [e]
  show some ((arrV (cy 9) (gn S a) (fun j => .int (gI S a j))).setSlot i.toNatClampNeg (.int x)) = some (arrV (cy 9) (gn S a) (fun j => .int (gI (sI S a i.toNatClampNeg x) a j)))
  rw [arrV_store]
  congr 2
  funext q
  by_cases hq : q = i.toNatClampNeg
  · subst hq; simp [updV, sI, gI, up2]
  · simp [updV, sI, gI, up2, hq]
theorem g_zast (hC : gC N0 D cy p s m args c cc nL own) (hP : gP N0 D cy S H) (hS : va_S (fun q => N0 ≤ q) s.heap H locs) (hKa : gK S a = 11) {i x : Int32} (hin : vp_in i (gn S a)) (hx01 : vp_nar .boolean x = x) (hdg : decode cc pc = .ok (.bastore, 1))
    (kk : ∀ (H1 : Heap) (locs1 : List Loc), gP N0 D cy (sI S a i.toNatClampNeg x) H1 → H1.size = H.size → va_S (fun q => N0 ≤ q) s.heap H1 locs1 → W p l e R s m args below meth c H1 locs1 cells slots Q (F0 m (pc + 1) ls rest)) : W p l e R s m args below meth c H locs cells slots Q (F0 m pc ls (.int x :: .int i :: .ref a :: rest)) := by
  obtain ⟨hx, hb, -, hown, hts, hK, -⟩ := hC
  have h1 := hP.one (a := a) (by omega)
  rw [gE_arr hKa (by omega)] at h1
  have hnar : narrow .boolean (.int x) = .int x := by
    have h2 : narrow .boolean (.int x) = .int (vp_nar .boolean x) := rfl
    rw [h2, hx01]
  refine W.zast hx hb (h1 0 _ rfl) ((hK.2 2 _ rfl).1 (gn S a) (fun j => .int (gI S a j))) (fun q => by cases q) (by show ¬ (i < 0 ∨ (arrV _ _ _).slots.size ≤ _); rw [arrV_size]; exact hin) rfl rfl hdg fun H1 e z oq => ?_
  refine kk H1 _ (hP.upd (a := a) (by omega) (fun _ => rfl) (fun b hb => gE_sI hb) ?_ z oq) z (hS.put z oq (hP.ge (a := a) (by omega)))
  rw [gE_arr (kd := 11) (show gK (sI S a i.toNatClampNeg x) a = 11 from hKa) (by omega)]
  show H1[a]? = some (vp_cell _ _)
  rw [e, hnar]
  show some ((arrV (cy 11) (gn S a) (fun j => .int (gI S a j))).setSlot i.toNatClampNeg (.int x)) = some (arrV (cy 11) (gn S a) (fun j => .int (gI (sI S a i.toNatClampNeg x) a j)))
  rw [arrV_store]
  congr 2
  funext q
  by_cases hq : q = i.toNatClampNeg
  · subst hq; simp [updV, sI, gI, up2]
  · simp [updV, sI, gI, up2, hq]
theorem g_last (hC : gC N0 D cy p s m args c cc nL own) (hP : gP N0 D cy S H) (hS : va_S (fun q => N0 ≤ q) s.heap H locs) (hKa : gK S a = 10) {i : Int32} {x : Int64} (hin : vp_in i (gn S a)) (hdg : decode cc pc = .ok (.lastore, 1))
    (kk : ∀ (H1 : Heap) (locs1 : List Loc), gP N0 D cy (sJ S a i.toNatClampNeg x) H1 → H1.size = H.size → va_S (fun q => N0 ≤ q) s.heap H1 locs1 → W p l e R s m args below meth c H1 locs1 cells slots Q (F0 m (pc + 1) ls rest)) : W p l e R s m args below meth c H locs cells slots Q (F0 m pc ls (.long x :: .int i :: .ref a :: rest)) := by
  obtain ⟨hx, hb, -, hown, hts, hK, -⟩ := hC
  have h1 := hP.one (a := a) (by omega)
  rw [gE_arr hKa (by omega)] at h1
  refine W.last hx hb (h1 0 _ rfl) ((hK.2 1 _ rfl).1 (gn S a) (fun j => .long (gJ S a j))) (fun q => by cases q) (by show ¬ (i < 0 ∨ (arrV _ _ _).slots.size ≤ _); rw [arrV_size]; exact hin) rfl rfl hdg fun H1 e z oq => ?_
  refine kk H1 _ (hP.upd (a := a) (by omega) (fun _ => rfl) (fun b hb => gE_sJ hb) ?_ z oq) z (hS.put z oq (hP.ge (a := a) (by omega)))
  rw [gE_arr (kd := 10) (show gK (sJ S a i.toNatClampNeg x) a = 10 from hKa) (by omega)]
  show H1[a]? = some (vp_cell _ _)
  rw [e]
  show some ((arrV (cy 10) (gn S a) (fun j => .long (gJ S a j))).setSlot i.toNatClampNeg (.long x)) = some (arrV (cy 10) (gn S a) (fun j => .long (gJ (sJ S a i.toNatClampNeg x) a j)))
  rw [arrV_store]
  congr 2
  funext q
  by_cases hq : q = i.toNatClampNeg
  · subst hq; simp [updV, sJ, gJ, up2]
  · simp [updV, sJ, gJ, up2, hq]
/-- a reference v to an object of the class with the number ci into an array of its class -/
theorem g_aast (hC : gC N0 D cy p s m args c cc nL own) (hP : gP N0 D cy S H) (hS : va_S (fun q => N0 ≤ q) s.heap H locs) {kd ci v t0 : Nat} {C : String} {T : u_T} (hkd : 11 < kd) (ht : (gY cy)[t0]? = some (cy kd, .object C)) (hc : vwCl[ci]? = some (C, T, gN ci)) (hci : ci < 8) (hKa : gK S a = kd) (hKv : gK S v = ci + 1) {i : Int32} (hin : vp_in i (gn S a)) (hdg : decode cc pc = .ok (.aastore, 1))
    (kk : ∀ (H1 : Heap) (locs1 : List Loc), gP N0 D cy (sR S a i.toNatClampNeg (some v)) H1 → H1.size = H.size → va_S (fun q => N0 ≤ q) s.heap H1 locs1 → W p l e R s m args below meth c H1 locs1 cells slots Q (F0 m (pc + 1) ls rest)) : W p l e R s m args below meth c H locs cells slots Q (F0 m pc ls (.ref v :: .int i :: .ref a :: rest)) := by
  obtain ⟨hx, hb, -, hown, hts, hK, -⟩ := hC
  have h1 := hP.one (a := a) (by omega)
  have h2 := hP.one (a := v) (by omega)
  rw [gE_arr hKa (by omega)] at h1
  rw [gE_obj hKv hci] at h2
  have e1 : gA S a kd = (gn S a, .inr (.inr (.inr (.inr (gR S a))))) := by
    unfold gA
    rw [if_neg (by omega), if_neg (by omega), if_neg (by omega)]
  rw [e1] at h1
  have hlt : i.toNatClampNeg < gn S a := Nat.not_le.mp fun q => hin (Or.inr q)
  have h0 : ¬ i < 0 := fun q => hin (Or.inl q)
  obtain ⟨r', hr', cellV, g1, g2, g3, -⟩ := h2 0 _ rfl
  have hcls := (hK.1 ci _ hc).2
  obtain ⟨kA, comp, k1, k2, k3, -⟩ := (hK.2 t0 _ ht).2
  have hcomp : comp = D.1 ci := Option.some.inj (k3.symm.trans hcls.1)
  subst hcomp
  obtain ⟨kC, hkC, -⟩ := hcls.2
  refine W.aast hx hb (h1 0 _ rfl) (fun q h => by cases h) (fun h => by cases h) k1 k2 rfl hkC ⟨h0, by show _ < (arrV _ _ _).slots.size; rw [arrV_size]; exact hlt⟩ g1 (fun q h => by rw [g3] at h; cases h) (by rw [g2]; exact hkC) (by rw [g2]; exact va_assign hcls) rfl rfl hdg fun H1 e z oq => ?_
  refine kk H1 _ (hP.upd (a := a) (by omega) (fun _ => rfl) (fun b hb => gE_sR hb) ?_ z oq) z (hS.put z oq (hP.ge (a := a) (by omega)))
  rw [gE_arr (kd := kd) (show gK (sR S a i.toNatClampNeg (some v)) a = kd from hKa) (by omega)]
  have e2 : gA (sR S a i.toNatClampNeg (some v)) a kd = (gn S a, .inr (.inr (.inr (.inr (gR (sR S a i.toNatClampNeg (some v)) a))))) := by
    unfold gA
    rw [if_neg (by omega), if_neg (by omega), if_neg (by omega)]
    rfl
  rw [e2]
  show H1[a]? = some (vp_cell _ _)
  rw [e]
  rw [vp_cell_q, vp_cell_q, arrV_store]
  congr 2
  funext q
  by_cases hq : q = i.toNatClampNeg
  · subst hq; simp [updV, sR, gR, up2, va_rf]
  · simp [updV, sR, gR, up2, hq]
def gok (t : FieldType) : Bool := match t with
  | .long => true
  | .int => true
  | .boolean => true
  | .object _ => true
  | .array _ => true
  | _ => false
theorem g_new (hC : gC N0 D cy p s m args c cc nL own) (hP : gP N0 D cy S H) (hS : va_S (fun q => N0 ≤ q) s.heap H locs) {ci index : Nat} {C : String} {T : u_T} (hc : vwCl[ci]? = some (C, T, gN ci)) (hci : ci < 8) (hin : ∀ w ∈ u_ws C T (gN ci), w ∈ wsAll) (hty : ∀ k, k < gN ci → parseFieldDescriptor (T k).2.2.1 = some (gT ci k)) (hok : ∀ k, k < gN ci → gok (gT ci k) = true) (hcl : Cond.classLink own index C ∈ wsAll) (hinst : Cond.instantiable C (gN ci) ∈ wsAll) (hini : Cond.initialized C ∈ wsAll) (hcells : cells + 1 ≤ R.cells) (hslots : slots + gN ci ≤ R.slots) (hdg : decode cc pc = .ok (.new index, 3))
    (kk : ∀ (H1 : Heap), gP N0 D cy (sN S H.size (ci + 1) 0) H1 → H1.size = H.size + 1 → va_S (fun q => N0 ≤ q) s.heap H1 locs → W p l e R s m args below meth c H1 locs (cells + 1) (slots + gN ci) Q (F0 m (pc + 3) ls (.ref H.size :: rest))) : W p l e R s m args below meth c H locs cells slots Q (F0 m pc ls rest) := by
  obtain ⟨hx, hb, -, hown, hts, hK, hN⟩ := hC
  have hKn := hK.1 ci _ hc
  refine W.newcK hx hb hown (hts _ hcl) (hts _ hinst) (hts _ hini) rfl hdg hcells hslots hKn.2.1 rfl fun H1 kC hkC e1 z1 o1 => ?_
  have hk0 : gK (sN S H.size (ci + 1) 0) H.size = ci + 1 := by simp [sN, gK, va_up]
  refine kk H1 (hP.new (by omega) (fun b hb => by simp [sN, gK, va_up, hb]) (fun b hb => gE_sN hb) ?_ z1 o1) z1 ⟨Nat.le_trans hS.1 (by omega), fun x h1 h2 => (o1 x (Nat.lt_of_lt_of_le h1 hS.1)).trans (hS.2.1 x h1 h2), hS.2.2⟩
  rw [gE_obj hk0 hci]
  refine ⟨_, hc, (u_born (gT ci) hts hin hKn hkC e1 hty).to (fun j hj => ?_)⟩
  have hj' : j < gN ci := hj
  unfold vp_V
  rw [List.getD_eq_getElem?_getD, gF_at hj']
  have h3 := hok j hj'
  revert h3
  unfold gV
  cases gT ci j <;> intro h3 <;> first | (cases h3; done) | (simp [defaultValue, sN, gI, gJ, gR, va_up, va_rf]; done)
/-- arrays of ints, longs, booleans -/
theorem g_newa (hC : gC N0 D cy p s m args c cc nL own) (hP : gP N0 D cy S H) (hS : va_S (fun q => N0 ≤ q) s.heap H locs) {atype : ArrayType} {kd t0 : Nat} {ty : FieldType} (hat : newarray.typeOf atype = ty) (ht : (gY cy)[t0]? = some (cy kd, ty)) (hty : (ty = .int ∧ kd = 9) ∨ (ty = .long ∧ kd = 10) ∨ (ty = .boolean ∧ kd = 11)) (hw : Cond.arrayClass ty ∈ wsAll) {n : Int32} {N' : Nat} (hn : ¬ n < 0) (hN : n.toNatClampNeg = N') (hbytes : N' * componentBytes ty ≤ 536870912) (hcells : cells + 1 ≤ R.cells) (hslots : slots + N' ≤ R.slots) (hdg : decode cc pc = .ok (.newarray atype, 2))
    (kk : ∀ (H1 : Heap), gP N0 D cy (sN S H.size kd N') H1 → H1.size = H.size + 1 → va_S (fun q => N0 ≤ q) s.heap H1 locs → W p l e R s m args below meth c H1 locs (cells + 1) (slots + N') Q (F0 m (pc + 2) ls (.ref H.size :: rest))) : W p l e R s m args below meth c H locs cells slots Q (F0 m pc ls (.int n :: rest)) := by
  obtain ⟨hx, hb, -, hown, hts, hK, hNN⟩ := hC
  subst hat
  refine va_newaK hx hb (hts _ hw) rfl hdg rfl hn hN hbytes hcells hslots rfl fun H1 cA e1 z1 o1 hAr hNm => ?_
  have hcy : cA = cy kd := by
    have h4 := (hK.2 t0 _ ht).2
    have h5 : s.vm.findClass ("[" ++ (newarray.typeOf atype).toString) = some (cy kd) := by
      rcases hty with ⟨h, -⟩ | ⟨h, -⟩ | ⟨h, -⟩ <;> (dsimp only at h4; rw [h] at h4 ⊢; exact h4)
    exact Option.some.inj (hNm.symm.trans h5)
  subst hcy
  have hkd : 8 < kd := by rcases hty with ⟨-, h⟩ | ⟨-, h⟩ | ⟨-, h⟩ <;> omega
  have hk0 : gK (sN S H.size kd N') H.size = kd := by simp [sN, gK, va_up]
  refine kk H1 (hP.new (by omega) (fun b hb => by simp [sN, gK, va_up, hb]) (fun b hb => gE_sN hb) ?_ z1 o1) z1 ⟨Nat.le_trans hS.1 (by omega), fun x h1 h2 => (o1 x (Nat.lt_of_lt_of_le h1 hS.1)).trans (hS.2.1 x h1 h2), hS.2.2⟩
  rw [gE_arr hk0 hkd]
  show H1[H.size]? = some (vp_cell _ _)
  rw [e1]
  have a1 : gn (sN S H.size kd N') H.size = N' := by simp [sN, gn, va_up]
  have a2 : gI (sN S H.size kd N') H.size = fun _ => 0 := by simp [sN, gI, va_up]
  have a3 : gJ (sN S H.size kd N') H.size = fun _ => 0 := by simp [sN, gJ, va_up]
  rcases hty with ⟨h, hh⟩ | ⟨h, hh⟩ | ⟨h, hh⟩ <;> rw [h] <;> subst hh <;> simp [gA, a1, a2, a3, vp_cell, defaultValue]
/-- arrays of references -/
theorem g_newq (hC : gC N0 D cy p s m args c cc nL own) (hP : gP N0 D cy S H) (hS : va_S (fun q => N0 ≤ q) s.heap H locs) {C : String} {kd t0 index : Nat} (hkd : 11 < kd) (ht : (gY cy)[t0]? = some (cy kd, .object C)) (hcl : Cond.classLink own index C ∈ wsAll) (hover : va_AO C s) {n : Int32} {N' : Nat} (hn : ¬ n < 0) (hN : n.toNatClampNeg = N') (hbytes : N' * 4 ≤ 536870912) (hcells : cells + 1 ≤ R.cells) (hslots : slots + N' ≤ R.slots) (hdg : decode cc pc = .ok (.anewarray index, 3))
    (kk : ∀ (H1 : Heap), gP N0 D cy (sN S H.size kd N') H1 → H1.size = H.size + 1 → va_S (fun q => N0 ≤ q) s.heap H1 locs → W p l e R s m args below meth c H1 locs (cells + 1) (slots + N') Q (F0 m (pc + 3) ls (.ref H.size :: rest))) : W p l e R s m args below meth c H locs cells slots Q (F0 m pc ls (.int n :: rest)) := by
  obtain ⟨hx, hb, -, hown, hts, hK, hNN⟩ := hC
  subst hN
  refine W.anew hx hb hown (hts _ hcl) (va_AO.use hover) rfl hdg rfl hn hbytes hcells hslots fun cA kA comp f1 f2 f3 f4 => ?_
  generalize hH1 : H.push ({ cls := cA, slots := Array.replicate n.toNatClampNeg .null, vm := .none } : Cell) = H1
  have z1 : H1.size = H.size + 1 := by rw [← hH1, Array.size_push]
  have e1 : H1[H.size]? = some (arrV cA n.toNatClampNeg (fun _ => .null)) := by rw [← hH1, Array.getElem?_push_size, ← arrV_new]
  have o1 : ∀ q : Nat, q < H.size → H1[q]? = H[q]? := fun q hq => by rw [← hH1, Array.getElem?_push, if_neg (Nat.ne_of_lt hq)]
  have hcy : cA = cy kd := by
    obtain ⟨-, -, -, -, -, h4⟩ := (hK.2 t0 _ ht).2
    exact Option.some.inj (f1.symm.trans h4)
  subst hcy
  have hk0 : gK (sN S H.size kd n.toNatClampNeg) H.size = kd := by simp [sN, gK, va_up]
  refine kk H1 (hP.new (by omega) (fun b hb => by simp [sN, gK, va_up, hb]) (fun b hb => gE_sN hb) ?_ z1 o1) z1 ⟨Nat.le_trans hS.1 (by omega), fun x h1 h2 => (o1 x (Nat.lt_of_lt_of_le h1 hS.1)).trans (hS.2.1 x h1 h2), hS.2.2⟩
  rw [gE_arr hk0 (by omega)]
  show H1[H.size]? = some (vp_cell _ _)
  rw [e1]
  have a1 : gn (sN S H.size kd n.toNatClampNeg) H.size = n.toNatClampNeg := by simp [sN, gn, va_up]
  have a4 : gR (sN S H.size kd n.toNatClampNeg) H.size = fun _ => none := by simp [sN, gR, va_up]
  unfold gA
  rw [if_neg (by omega), if_neg (by omega), if_neg (by omega), a1, a4]
  rfl
end GR2
end
section
/-! Contracts over the store, calls, ends. -/
def gU (D : va_G) (cy : Nat → ClassId) (U : State) : Prop := va_K D vwCl (gY cy) U ∧ va_AO RX1 U ∧ va_AO RX2 U ∧ va_AO RX3 U ∧ va_AO RX5 U
theorem gU.moved {D : va_G} {cy : Nat → ClassId} {u U : State} (hvm : u.vm.Alike U.vm) (h : gU D cy u) : gU D cy U := ⟨va_K.moved hvm h.1, h.2.1.moved hvm, h.2.2.1.moved hvm, h.2.2.2.1.moved hvm, h.2.2.2.2.moved hvm⟩
def gPre (N0 : Nat) (D : va_G) (cy : Nat → ClassId) (av : List Value) (S : gS) (sz : Nat) : Array Value → State → Prop := va_Pc av (fun U => U.heap.size = sz ∧ gP N0 D cy S U.heap ∧ gU D cy U)
def gQ (N0 : Nat) (D : va_G) (cy : Nat → ClassId) (post : Option Value → gS → Nat → Prop) : Array Value → State → Outcome → State → Prop := fun _ st oc t => (∃ (v : Option Value) (S' : gS), oc = .returned v ∧ post v S' t.heap.size ∧ gP N0 D cy S' t.heap) ∧ va_F (fun q => N0 ≤ q) st t
/-- a contract: from the store S, a heap of sz cells, the arguments av: it returns v, the store is S' then and the heap z cells large, and 'post v S' z' -/
def gM (l : Launch) (y : MethodName) (cd : ByteArray) (ml : Nat) (ret : Option FieldType) (rm : Room) (N0 : Nat) (D : va_G) (cy : Nat → ClassId) (av : List Value) (S : gS) (sz : Nat) (post : Option Value → gS → Nat → Prop) : Prop :=
  Met l y (Cond.code y cd ml ret :: wsAll) rm (gPre N0 D cy av S sz) (gQ N0 D cy post) rm.cells rm.slots (fun q => N0 ≤ q)
theorem gPre.blind {N0 : Nat} {D : va_G} {cy : Nat → ClassId} {av : List Value} {S : gS} {sz : Nat} : FrameBlind (gPre N0 D cy av S sz) := fun a U g mk q => ⟨q.1, q.2.1, q.2.2.1, gU.moved (u := U) (U := U.calling g mk a) (Vm.Alike.refl U.vm) q.2.2.2⟩
theorem goodAll {own : String} {index ml : Nat} {y : MethodName} {cd : ByteArray} {ret : Option FieldType} {X : List Cond} (hcD : Cond.code y cd ml ret ∈ wsAll) (hX : ∀ w ∈ X, w ∈ wsAll) : GoodIn wsAll (X ++ Cond.code y cd ml ret :: wsAll) := by
  intro w h
  have hw : w ∈ wsAll := by
    rcases List.mem_append.mp h with h | h
    · exact hX w h
    · rcases List.mem_cons.mp h with h | h
      · rw [h]; exact hcD
      · exact h
  exact ⟨hw, wsAll_good hw⟩
section GC
variable {p : Program} {l : Launch} {e : Env} {R : Room} {s : State} {m : MethodId} {args : Array Value} {below : List Frame} {meth : Method} {c : Code} {H : Heap} {locs : List Loc} {cells slots : Nat} {Q : State → Prop}
variable {cc : ByteArray} {pc nL : Nat} {own : String} {ls : Array Slot} {rest st0 : List Value} {N0 : Nat} {D : va_G} {cy : Nat → ClassId} {S : gS}
variable {y : MethodName} {cd : ByteArray} {ml index ci b : Nat} {ret : Option FieldType} {rm : Room} {As : List Value} {post : Option Value → gS → Nat → Prop} {T : u_T}
/-- behind a call -/
theorem g_after (hr : va_Run p l e R s m args below meth c H locs cells slots rm.cells rm.slots (F0 m pc ls st0) rest (gQ N0 D cy post (Array.mk As)) (fun q => N0 ≤ q)) (hS : va_S (fun q => N0 ≤ q) s.heap H locs)
    (kk : ∀ (v : Option Value) (S' : gS) (H1 : Heap) (locs1 : List Loc), post v S' H1.size → gP N0 D cy S' H1 → H.size ≤ H1.size → va_S (fun q => N0 ≤ q) s.heap H1 locs1 → W p l e R s m args below meth c H1 locs1 (cells + rm.cells) (slots + rm.slots) Q (F0 m (pc + 3) ls (v.toList ++ rest))) : W p l e R s m args below meth c H locs cells slots Q (F0 m pc ls st0) := by
  intro U hT X
  obtain ⟨v, st₀, t, T', L, h0, X', hL, e1, e2, ⟨⟨v', S', hv, hp, hb⟩, hz, hk⟩, st⟩ := hr U hT X
  cases hv
  rw [h0] at hz hk
  obtain ⟨t2, a1, b1⟩ := kk v S' T'.heap (locs ++ L) (by rw [e1]; exact hp) (by rw [e1]; exact hb) (by rw [e1]; exact hz) ⟨by rw [e1]; exact Nat.le_trans hS.1 hz, fun q h1 h2 => by rw [e1, hk q (Nat.lt_of_lt_of_le h1 hS.1) h2]; exact hS.2.1 q h1 h2, fun q hq => by
      rcases List.mem_append.mp hq with h | h
      · exact hS.2.2 q h
      · exact hL q h⟩ T' rfl X'
  exact ⟨t2, st t2 a1, b1⟩
theorem g_callV (hC : gC N0 D cy p s m args c cc nL own) (hU : gU D cy s) (hP : gP N0 D cy S H) (hS : va_S (fun q => N0 ≤ q) s.heap H locs) (hl : ls.size = nL)
    (hM : gM l y cd ml ret rm N0 D cy (.ref b :: As) S H.size post) (hmL : Cond.methodLink own index y ∈ wsAll) (hiM : Cond.instanceMethod y ∈ wsAll) (hsL : Cond.selects y.cls y y ∈ wsAll) (hiN : Cond.initialized y.cls ∈ wsAll) (hcD : Cond.code y cd ml ret ∈ wsAll)
    (hd : y.cls ≠ "java/lang/invoke/MethodHandle" ∧ y.cls ≠ "java/lang/invoke/VarHandle" ∧ (parseMethodDescriptor y.desc).map (fun d => d.parameters.length) = some As.length) (hR : rm.frames + 1 ≤ R.frames ∧ 8 + (ml + 11) + rm.locals ≤ R.locals) (hf : cells + rm.cells ≤ R.cells ∧ slots + rm.slots ≤ R.slots)
    (hcl : vwCl[ci]? = some (y.cls, T, gN ci)) (hci : ci < 8) (hKb : gK S b = ci + 1) (hst : st0 = As.reverse ++ .ref b :: rest) (hroom : (rest.map fun v => v.category).sum ≤ 8) (hdg : decode cc pc = .ok (.invokevirtual index, 3))
    (kk : ∀ (v : Option Value) (S' : gS) (H1 : Heap) (locs1 : List Loc), post v S' H1.size → gP N0 D cy S' H1 → H.size ≤ H1.size → va_S (fun q => N0 ≤ q) s.heap H1 locs1 → W p l e R s m args below meth c H1 locs1 (cells + rm.cells) (slots + rm.slots) Q (F0 m (pc + 3) ls (v.toList ++ rest))) : W p l e R s m args below meth c H locs cells slots Q (F0 m pc ls st0) := by
  obtain ⟨hx, hb, hml, hown, hts, hK, hN⟩ := hC
  have h1 := hP.one (a := b) (by omega)
  rw [gE_obj hKb hci] at h1
  have hG : GoodIn wsAll (wsV own index y.cls y (Cond.code y cd ml ret :: wsAll)) := goodAll (own := own) (index := index) hcD (fun w h => by
    simp only [List.mem_cons, List.not_mem_nil, or_false] at h
    rcases h with rfl | rfl | rfl | rfl <;> assumption)
  refine g_after (va_runV (Ts := wsAll) (C := y.cls) (As := As) (rest := rest) (b := b) ⟨hx, hb, hml, hown, hts⟩ hM (cwV As.length hts hG rfl rfl rfl ⟨rfl, hd⟩ hR) ⟨gPre.blind, va_recv hK h1 hcl (q0 := 0) rfl, fun U hU' hW => ⟨rfl, by rw [hU'], by rw [hU']; exact hP, hU.moved hW.alike⟩⟩ rfl rfl hl hst (lv_room hroom) hdg hf) hS kk
theorem g_callS (hC : gC N0 D cy p s m args c cc nL own) (hU : gU D cy s) (hP : gP N0 D cy S H) (hS : va_S (fun q => N0 ≤ q) s.heap H locs) (hl : ls.size = nL)
    (hM : gM l y cd ml ret rm N0 D cy As S H.size post) (hmL : Cond.methodLink own index y ∈ wsAll) (hsT : Cond.static y ∈ wsAll) (hiN : Cond.initialized y.cls ∈ wsAll) (hcD : Cond.code y cd ml ret ∈ wsAll)
    (hd : y.cls ≠ "java/lang/invoke/MethodHandle" ∧ y.cls ≠ "java/lang/invoke/VarHandle" ∧ (parseMethodDescriptor y.desc).map (fun d => d.parameters.length) = some As.length) (hR : rm.frames + 1 ≤ R.frames ∧ 8 + (ml + 11) + rm.locals ≤ R.locals) (hf : cells + rm.cells ≤ R.cells ∧ slots + rm.slots ≤ R.slots)
    (hst : st0 = As.reverse ++ rest) (hroom : (rest.map fun v => v.category).sum ≤ 8) (hdg : decode cc pc = .ok (.invokestatic index, 3))
    (kk : ∀ (v : Option Value) (S' : gS) (H1 : Heap) (locs1 : List Loc), post v S' H1.size → gP N0 D cy S' H1 → H.size ≤ H1.size → va_S (fun q => N0 ≤ q) s.heap H1 locs1 → W p l e R s m args below meth c H1 locs1 (cells + rm.cells) (slots + rm.slots) Q (F0 m (pc + 3) ls (v.toList ++ rest))) : W p l e R s m args below meth c H locs cells slots Q (F0 m pc ls st0) := by
  obtain ⟨hx, hb, hml, hown, hts, hK, hN⟩ := hC
  have hG : GoodIn wsAll (Cond.code y cd ml ret :: wsAll) := goodAll (own := own) (index := index) (X := []) hcD (fun w h => by cases h)
  refine g_after (va_runS (Ts := wsAll) (As := As) (rest := rest) ⟨hx, hb, hml, hown, hts⟩ hM ⟨callB_of As.length hts hG rfl rfl rfl (hts _ hiN) (hts _ hmL) hd hR, hts _ hsT⟩ ⟨gPre.blind, fun U hU' hW => ⟨rfl, by rw [hU'], by rw [hU']; exact hP, hU.moved hW.alike⟩⟩ rfl rfl hl hst (lv_room hroom) hdg hf) hS kk
theorem g_callI (hC : gC N0 D cy p s m args c cc nL own) (hU : gU D cy s) (hP : gP N0 D cy S H) (hS : va_S (fun q => N0 ≤ q) s.heap H locs) (hl : ls.size = nL)
    (hM : gM l y cd ml none rm N0 D cy (.ref b :: As) S H.size post) (hmL : Cond.methodLink own index y ∈ wsAll) (hiM : Cond.instanceMethod y ∈ wsAll) (hiN : Cond.initialized y.cls ∈ wsAll) (hcD : Cond.code y cd ml none ∈ wsAll) (hy1 : y.name = "<init>")
    (hd : y.cls ≠ "java/lang/invoke/MethodHandle" ∧ y.cls ≠ "java/lang/invoke/VarHandle" ∧ (parseMethodDescriptor y.desc).map (fun d => d.parameters.length) = some As.length) (hR : rm.frames + 1 ≤ R.frames ∧ 8 + (ml + 11) + rm.locals ≤ R.locals) (hf : cells + rm.cells ≤ R.cells ∧ slots + rm.slots ≤ R.slots)
    (hst : st0 = As.reverse ++ .ref b :: rest) (hroom : (rest.map fun v => v.category).sum ≤ 8) (hdg : decode cc pc = .ok (.invokespecial index, 3))
    (kk : ∀ (v : Option Value) (S' : gS) (H1 : Heap) (locs1 : List Loc), post v S' H1.size → gP N0 D cy S' H1 → H.size ≤ H1.size → va_S (fun q => N0 ≤ q) s.heap H1 locs1 → W p l e R s m args below meth c H1 locs1 (cells + rm.cells) (slots + rm.slots) Q (F0 m (pc + 3) ls (v.toList ++ rest))) : W p l e R s m args below meth c H locs cells slots Q (F0 m pc ls st0) := by
  obtain ⟨hx, hb, hml, hown, hts, hK, hN⟩ := hC
  have hG : GoodIn wsAll (Cond.code y cd ml none :: wsAll) := goodAll (own := own) (index := index) (X := []) hcD (fun w h => by cases h)
  refine g_after (va_runI (Ts := wsAll) (As := As) (rest := rest) (b := b) ⟨hx, hb, hml, hown, hts⟩ hM ⟨callB_of As.length hts hG rfl rfl rfl (hts _ hiN) (hts _ hmL) hd hR, hy1, hts _ hiM⟩ ⟨gPre.blind, fun U hU' hW => ⟨rfl, by rw [hU'], by rw [hU']; exact hP, hU.moved hW.alike⟩⟩ rfl rfl hl hst (lv_room hroom) hdg hf) hS kk
/-- Object() -/
theorem g_obj (hC : gC N0 D cy p s m args c cc nL own) (hl : ls.size = nL) (hmL : Cond.methodLink own index objectInit ∈ wsAll) (hframes : 1 ≤ R.frames) (hlocals : (rest.map fun v => v.category).sum + 12 ≤ R.locals) (hdg : decode cc pc = .ok (.invokespecial index, 3))
    (kk : W p l e R s m args below meth c H locs cells slots Q (F0 m (pc + 3) ls rest)) : W p l e R s m args below meth c H locs cells slots Q (F0 m pc ls (.ref b :: rest)) := by
  obtain ⟨hx, hb, hml, hown, hts, hK, hN⟩ := hC
  exact W.objInit hx hb hown (hts _ hmL) (hts _ iM_obj) (hts _ cD_obj) rfl (by rw [hml]; exact hl) rfl hdg hframes (by simpa [JFrame.monitorRoom] using hlocals) kk
/-- ends -/
theorem g_ret_q {mc ms : Nat} {A : Nat → Prop} {v : Option Value} (hP : gP N0 D cy S H) (hS : va_S (fun q => N0 ≤ q) s.heap H locs) (hp : post v S H.size) : ∀ t : State, t.heap = H → s.WarmedH t.vm → gQ N0 D cy post args s (.returned v) t := fun t ht _ => ⟨⟨v, S, rfl, by rw [ht]; exact hp, by rw [ht]; exact hP⟩, hS.F ht⟩
theorem g_iret (hC : gC N0 D cy p s m args c cc nL own) {v : Int32} {mc ms : Nat} (hP : gP N0 D cy S H) (hS : va_S (fun q => N0 ≤ q) s.heap H locs) (hr : meth.sig.returnType = some .int) (hlk : meth.locks = false) (h1 : cells ≤ mc) (h2 : slots ≤ ms) (hp : post (some (.int v)) S H.size) (hdg : decode cc pc = .ok (.ireturn, 1)) : W p l e R s m args below meth c H locs cells slots (MQ below (gQ N0 D cy post) args s mc ms (fun q => N0 ≤ q)) (F0 m pc ls [.int v]) :=
  W.widen h1 h2 (W.iret hC.1 hC.2.1 hr (g_ret_q (mc := 0) (ms := 0) (A := fun _ => True) hP hS hp) hS.2.2 hdg hlk)
theorem g_zret (hC : gC N0 D cy p s m args c cc nL own) {v : Int32} {mc ms : Nat} (hP : gP N0 D cy S H) (hS : va_S (fun q => N0 ≤ q) s.heap H locs) (hr : meth.sig.returnType = some .boolean) (hlk : meth.locks = false) (h1 : cells ≤ mc) (h2 : slots ≤ ms) (hv : vp_nar .boolean v = v) (hp : post (some (.int v)) S H.size) (hdg : decode cc pc = .ok (.ireturn, 1)) : W p l e R s m args below meth c H locs cells slots (MQ below (gQ N0 D cy post) args s mc ms (fun q => N0 ≤ q)) (F0 m pc ls [.int v]) :=
  W.widen h1 h2 (W.zret hC.1 hC.2.1 hr (by rw [show narrow .boolean (.int v) = .int (vp_nar .boolean v) from rfl, hv]) (g_ret_q (mc := 0) (ms := 0) (A := fun _ => True) hP hS hp) hS.2.2 hdg hlk)
theorem g_lret (hC : gC N0 D cy p s m args c cc nL own) {v : Int64} {mc ms : Nat} (hP : gP N0 D cy S H) (hS : va_S (fun q => N0 ≤ q) s.heap H locs) (hr : meth.sig.returnType = some .long) (hlk : meth.locks = false) (h1 : cells ≤ mc) (h2 : slots ≤ ms) (hp : post (some (.long v)) S H.size) (hdg : decode cc pc = .ok (.lreturn, 1)) : W p l e R s m args below meth c H locs cells slots (MQ below (gQ N0 D cy post) args s mc ms (fun q => N0 ≤ q)) (F0 m pc ls [.long v]) :=
  W.widen h1 h2 (W.lret hC.1 hC.2.1 hr (g_ret_q (mc := 0) (ms := 0) (A := fun _ => True) hP hS hp) hS.2.2 hdg hlk)
theorem g_vret (hC : gC N0 D cy p s m args c cc nL own) {mc ms : Nat} (hP : gP N0 D cy S H) (hS : va_S (fun q => N0 ≤ q) s.heap H locs) (hr : meth.sig.returnType = none) (hlk : meth.locks = false) (h1 : cells ≤ mc) (h2 : slots ≤ ms) (hp : post none S H.size) (hdg : decode cc pc = .ok (.return_, 1)) : W p l e R s m args below meth c H locs cells slots (MQ below (gQ N0 D cy post) args s mc ms (fun q => N0 ≤ q)) (F0 m pc ls []) :=
  W.widen h1 h2 (W.vret hC.1 hC.2.1 hr (g_ret_q (mc := 0) (ms := 0) (A := fun _ => True) hP hS hp) hS.2.2 hdg hlk)
theorem g_aret (hC : gC N0 D cy p s m args c cc nL own) {v : Option Nat} {mc ms : Nat} {C : String} (hP : gP N0 D cy S H) (hS : va_S (fun q => N0 ≤ q) s.heap H locs) (hr : meth.sig.returnType = some (.object C)) (hlk : meth.locks = false) (h1 : cells ≤ mc) (h2 : slots ≤ ms) (hp : post (some (va_rf v)) S H.size) (hdg : decode cc pc = .ok (.areturn, 1)) : W p l e R s m args below meth c H locs cells slots (MQ below (gQ N0 D cy post) args s mc ms (fun q => N0 ≤ q)) (F0 m pc ls [va_rf v]) :=
  W.widen h1 h2 (W.aret hC.1 hC.2.1 hr (Or.inl ⟨_, rfl⟩) (by cases v with | none => exact Or.inl rfl | some a => exact Or.inr ⟨a, rfl⟩) (g_ret_q (mc := 0) (ms := 0) (A := fun _ => True) hP hS hp) hS.2.2 hdg hlk)
end GC
/-- a method's body -/
theorem g_body {l : Launch} {y : MethodName} {cd : ByteArray} {ml : Nat} {ret : Option FieldType} {rm : Room} {N0 : Nat} {D : va_G} {cy : Nat → ClassId} {av : List Value} {S : gS} {sz : Nat} {post : Option Value → gS → Nat → Prop} {own : String} (hy : plainName y.cls = true) (ho : y.cls = own) (hlen : (lg_sl av).length ≤ ml)
    (body : ∀ (p : Program) (e : Env) (s : State) (m : MethodId) (args : Array Value) (below : List Frame) (meth : Method) (c : Code) (ls : Array Slot), gC N0 D cy p s m args c cd ml own → gU D cy s → meth.sig.returnType = ret → meth.locks = false → meth.name = y.name → s.heap.size = sz → gP N0 D cy S s.heap → va_S (fun q => N0 ≤ q) s.heap s.heap [] → lv_has ls ml (lv_args 0 av) →
      W p l e rm s m args below meth c s.heap [] 0 0 (MQ below (gQ N0 D cy post) args s rm.cells rm.slots (fun q => N0 ≤ q)) (F0 m 0 ls [])) : gM l y cd ml ret rm N0 D cy av S sz post := by
  refine Met.ofW (cc := cd) (maxL := ml) (ret := ret) hy rfl ?_
  intro p e s m args below meth c s₁ B hml hv
  obtain ⟨rfl, hsz, hP, hU⟩ := hv
  have hts := atoms_spec (ws := Cond.code y cd ml ret :: wsAll) B.pre
  have hl := lv_entry av (n := ml) hlen
  rw [lg_entry_eq]
  subst ho
  exact body p e s m _ below meth c _ ⟨B.exec, B.bytes, hml, findClass_of_methodNamed B.named, fun w h => hts w (List.mem_cons_of_mem _ h), hU.1, hP.2⟩ hU B.returns B.notSynchronized (name_of_methodNamed B.named B.method).1 hsz hP va_S.rf hl
/-! A fact of the store, behind an update. -/
theorem kI {S : gS} {a k b c : Nat} {v : Int32} (h : gK S b = c) : gK (sI S a k v) b = c := h
theorem kJ {S : gS} {a k b c : Nat} {v : Int64} (h : gK S b = c) : gK (sJ S a k v) b = c := h
theorem kR {S : gS} {a k b c : Nat} {v : Option Nat} (h : gK S b = c) : gK (sR S a k v) b = c := h
theorem nI' {S : gS} {a k b c : Nat} {v : Int32} (h : gn S b = c) : gn (sI S a k v) b = c := h
theorem nJ' {S : gS} {a k b c : Nat} {v : Int64} (h : gn S b = c) : gn (sJ S a k v) b = c := h
theorem nR' {S : gS} {a k b c : Nat} {v : Option Nat} (h : gn S b = c) : gn (sR S a k v) b = c := h
theorem rI {S : gS} {a k b j : Nat} {v : Int32} {r : Option Nat} (h : gR S b j = r) : gR (sI S a k v) b j = r := h
theorem rJ {S : gS} {a k b j : Nat} {v : Int64} {r : Option Nat} (h : gR S b j = r) : gR (sJ S a k v) b j = r := h
theorem rR {S : gS} {a k b j : Nat} {v r : Option Nat} (hne : j ≠ k ∨ b ≠ a) (h : gR S b j = r) : gR (sR S a k v) b j = r := by
  show up2 (gR S) a k v b j = r
  rcases hne with hne | hne
  · rw [up2_k hne]; exact h
  · rw [up2_a hne]; exact h
def sRow (S : gS) (a n : Nat) (f : Nat → Option Nat) : gS := (gK S, gn S, gI S, gJ S, fun b j => if b = a then (if j < n then f j else gR S b j) else gR S b j)
theorem kW {S : gS} {a n b c : Nat} {f : Nat → Option Nat} (h : gK S b = c) : gK (sRow S a n f) b = c := h
theorem nW' {S : gS} {a n b c : Nat} {f : Nat → Option Nat} (h : gn S b = c) : gn (sRow S a n f) b = c := h
theorem rW {S : gS} {a n b j : Nat} {f : Nat → Option Nat} {r : Option Nat} (hne : b ≠ a) (h : gR S b j = r) : gR (sRow S a n f) b j = r := by
  show (if b = a then (if j < n then f j else gR S b j) else gR S b j) = r
  rw [if_neg hne]; exact h
end
section
/-! A row for each field link. -/
section GF
theorem nz01 {v : Int32} (h : v = 0 ∨ v = 1) : vp_nar .boolean v = v := by rcases h with rfl | rfl <;> rfl
variable {p : Program} {l : Launch} {e : Env} {R : Room} {s : State} {m : MethodId} {args : Array Value} {below : List Frame} {meth : Method} {c : Code} {H : Heap} {locs : List Loc} {cells slots : Nat} {Q : State → Prop}
variable {cc : ByteArray} {pc nL : Nat} {ls : Array Slot} {rest : List Value} {N0 : Nat} {D : va_G} {cy : Nat → ClassId} {S : gS} {a : Nat}
theorem gt_X0_7 (hC : gC N0 D cy p s m args c cc nL RX0) (hP : gP N0 D cy S H) (hKa : gK S a = 1) (hdg : decode cc pc = .ok (.getfield 7, 3)) (kk : W p l e R s m args below meth c H locs cells slots Q (F0 m (pc + 3) ls (.int (gI S a 0) :: rest))) : W p l e R s m args below meth c H locs cells slots Q (F0 m pc ls (.ref a :: rest)) := g_get hC hP (ci := 0) (k := 0) rfl (by decide) uW_X0 (by decide) fL_X0_7 hKa hdg kk
theorem pt_X0_7 {v : Int32} (hC : gC N0 D cy p s m args c cc nL RX0) (hP : gP N0 D cy S H) (hS : va_S (fun q => N0 ≤ q) s.heap H locs) (hKa : gK S a = 1) (hin : meth.name = "<init>")  (hdg : decode cc pc = .ok (.putfield 7, 3)) (kk : ∀ (H1 : Heap) (locs1 : List Loc), gP N0 D cy (sI S a 0 v) H1 → H1.size = H.size → va_S (fun q => N0 ≤ q) s.heap H1 locs1 → W p l e R s m args below meth c H1 locs1 cells slots Q (F0 m (pc + 3) ls rest)) : W p l e R s m args below meth c H locs cells slots Q (F0 m pc ls (.int v :: .ref a :: rest)) := g_put (S2 := sI S a 0 v) hC hP hS (ci := 0) (k := 0) rfl (by decide) uW_X0 tyX0_ok nmX0 (by decide) fL_X0_7 (Or.inr ⟨hin, rfl, rfl⟩) rfl rfl hKa rfl (fun b hb => gE_sI hb) (gF_I (Or.inl rfl) (by decide)) hdg kk
theorem gt_X0_13 (hC : gC N0 D cy p s m args c cc nL RX0) (hP : gP N0 D cy S H) (hKa : gK S a = 1) (hdg : decode cc pc = .ok (.getfield 13, 3)) (kk : W p l e R s m args below meth c H locs cells slots Q (F0 m (pc + 3) ls (.long (gJ S a 1) :: rest))) : W p l e R s m args below meth c H locs cells slots Q (F0 m pc ls (.ref a :: rest)) := g_get hC hP (ci := 0) (k := 1) rfl (by decide) uW_X0 (by decide) fL_X0_13 hKa hdg kk
theorem pt_X0_13 {v : Int64} (hC : gC N0 D cy p s m args c cc nL RX0) (hP : gP N0 D cy S H) (hS : va_S (fun q => N0 ≤ q) s.heap H locs) (hKa : gK S a = 1) (hin : meth.name = "<init>")  (hdg : decode cc pc = .ok (.putfield 13, 3)) (kk : ∀ (H1 : Heap) (locs1 : List Loc), gP N0 D cy (sJ S a 1 v) H1 → H1.size = H.size → va_S (fun q => N0 ≤ q) s.heap H1 locs1 → W p l e R s m args below meth c H1 locs1 cells slots Q (F0 m (pc + 3) ls rest)) : W p l e R s m args below meth c H locs cells slots Q (F0 m pc ls (.long v :: .ref a :: rest)) := g_put (S2 := sJ S a 1 v) hC hP hS (ci := 0) (k := 1) rfl (by decide) uW_X0 tyX0_ok nmX0 (by decide) fL_X0_13 (Or.inr ⟨hin, rfl, rfl⟩) rfl rfl hKa rfl (fun b hb => gE_sJ hb) (gF_J rfl (by decide)) hdg kk
theorem gt_X0_17 (hC : gC N0 D cy p s m args c cc nL RX0) (hP : gP N0 D cy S H) (hKa : gK S a = 1) {b : Nat} (hR : gR S a 2 = some b) (hdg : decode cc pc = .ok (.getfield 17, 3)) (kk : W p l e R s m args below meth c H locs cells slots Q (F0 m (pc + 3) ls (.ref b :: rest))) : W p l e R s m args below meth c H locs cells slots Q (F0 m pc ls (.ref a :: rest)) := g_get hC hP (ci := 0) (k := 2) rfl (by decide) uW_X0 (by decide) fL_X0_17 hKa hdg (by show W p l e R s m args below meth c H locs cells slots Q (F0 m (pc + 3) ls (va_rf (gR S a 2) :: rest)); rw [hR]; exact kk)
theorem gq_X0_17 (hC : gC N0 D cy p s m args c cc nL RX0) (hP : gP N0 D cy S H) (hKa : gK S a = 1) (hdg : decode cc pc = .ok (.getfield 17, 3)) (kn : gR S a 2 = none → W p l e R s m args below meth c H locs cells slots Q (F0 m (pc + 3) ls (.null :: rest))) (ks : ∀ b : Nat, gR S a 2 = some b → W p l e R s m args below meth c H locs cells slots Q (F0 m (pc + 3) ls (.ref b :: rest))) : W p l e R s m args below meth c H locs cells slots Q (F0 m pc ls (.ref a :: rest)) := g_get hC hP (ci := 0) (k := 2) rfl (by decide) uW_X0 (by decide) fL_X0_17 hKa hdg (by show W p l e R s m args below meth c H locs cells slots Q (F0 m (pc + 3) ls (va_rf (gR S a 2) :: rest)); cases hq : gR S a 2 with | none => exact kn hq | some b => exact ks b hq)
theorem pt_X0_17 {v : Option Nat} (hC : gC N0 D cy p s m args c cc nL RX0) (hP : gP N0 D cy S H) (hS : va_S (fun q => N0 ≤ q) s.heap H locs) (hKa : gK S a = 1) (hin : meth.name = "<init>")  (hdg : decode cc pc = .ok (.putfield 17, 3)) (kk : ∀ (H1 : Heap) (locs1 : List Loc), gP N0 D cy (sR S a 2 v) H1 → H1.size = H.size → va_S (fun q => N0 ≤ q) s.heap H1 locs1 → W p l e R s m args below meth c H1 locs1 cells slots Q (F0 m (pc + 3) ls rest)) : W p l e R s m args below meth c H locs cells slots Q (F0 m pc ls (va_rf v :: .ref a :: rest)) := g_put (S2 := sR S a 2 v) hC hP hS (ci := 0) (k := 2) rfl (by decide) uW_X0 tyX0_ok nmX0 (by decide) fL_X0_17 (Or.inr ⟨hin, rfl, rfl⟩) (by cases v <;> rfl) (by cases v <;> rfl) hKa rfl (fun b hb => gE_sR hb) (gF_R rfl (by decide)) hdg kk
theorem gt_X1_9 (hC : gC N0 D cy p s m args c cc nL RX1) (hP : gP N0 D cy S H) (hKa : gK S a = 2) (hdg : decode cc pc = .ok (.getfield 9, 3)) (kk : W p l e R s m args below meth c H locs cells slots Q (F0 m (pc + 3) ls (.int (gI S a 3) :: rest))) : W p l e R s m args below meth c H locs cells slots Q (F0 m pc ls (.ref a :: rest)) := g_get hC hP (ci := 1) (k := 3) rfl (by decide) uW_X1 (by decide) fL_X1_9 hKa hdg kk
theorem pt_X1_9 {v : Int32} (hC : gC N0 D cy p s m args c cc nL RX1) (hP : gP N0 D cy S H) (hS : va_S (fun q => N0 ≤ q) s.heap H locs) (hKa : gK S a = 2)  (hdg : decode cc pc = .ok (.putfield 9, 3)) (kk : ∀ (H1 : Heap) (locs1 : List Loc), gP N0 D cy (sI S a 3 v) H1 → H1.size = H.size → va_S (fun q => N0 ≤ q) s.heap H1 locs1 → W p l e R s m args below meth c H1 locs1 cells slots Q (F0 m (pc + 3) ls rest)) : W p l e R s m args below meth c H locs cells slots Q (F0 m pc ls (.int v :: .ref a :: rest)) := g_put (S2 := sI S a 3 v) hC hP hS (ci := 1) (k := 3) rfl (by decide) uW_X1 tyX1_ok nmX1 (by decide) fL_X1_9 (Or.inl rfl) rfl rfl hKa rfl (fun b hb => gE_sI hb) (gF_I (Or.inl rfl) (by decide)) hdg kk
theorem gt_X1_17 (hC : gC N0 D cy p s m args c cc nL RX1) (hP : gP N0 D cy S H) (hKa : gK S a = 2) {b : Nat} (hR : gR S a 8 = some b) (hdg : decode cc pc = .ok (.getfield 17, 3)) (kk : W p l e R s m args below meth c H locs cells slots Q (F0 m (pc + 3) ls (.ref b :: rest))) : W p l e R s m args below meth c H locs cells slots Q (F0 m pc ls (.ref a :: rest)) := g_get hC hP (ci := 1) (k := 8) rfl (by decide) uW_X1 (by decide) fL_X1_17 hKa hdg (by show W p l e R s m args below meth c H locs cells slots Q (F0 m (pc + 3) ls (va_rf (gR S a 8) :: rest)); rw [hR]; exact kk)
theorem gq_X1_17 (hC : gC N0 D cy p s m args c cc nL RX1) (hP : gP N0 D cy S H) (hKa : gK S a = 2) (hdg : decode cc pc = .ok (.getfield 17, 3)) (kn : gR S a 8 = none → W p l e R s m args below meth c H locs cells slots Q (F0 m (pc + 3) ls (.null :: rest))) (ks : ∀ b : Nat, gR S a 8 = some b → W p l e R s m args below meth c H locs cells slots Q (F0 m (pc + 3) ls (.ref b :: rest))) : W p l e R s m args below meth c H locs cells slots Q (F0 m pc ls (.ref a :: rest)) := g_get hC hP (ci := 1) (k := 8) rfl (by decide) uW_X1 (by decide) fL_X1_17 hKa hdg (by show W p l e R s m args below meth c H locs cells slots Q (F0 m (pc + 3) ls (va_rf (gR S a 8) :: rest)); cases hq : gR S a 8 with | none => exact kn hq | some b => exact ks b hq)
theorem pt_X1_17 {v : Option Nat} (hC : gC N0 D cy p s m args c cc nL RX1) (hP : gP N0 D cy S H) (hS : va_S (fun q => N0 ≤ q) s.heap H locs) (hKa : gK S a = 2) (hin : meth.name = "<init>")  (hdg : decode cc pc = .ok (.putfield 17, 3)) (kk : ∀ (H1 : Heap) (locs1 : List Loc), gP N0 D cy (sR S a 8 v) H1 → H1.size = H.size → va_S (fun q => N0 ≤ q) s.heap H1 locs1 → W p l e R s m args below meth c H1 locs1 cells slots Q (F0 m (pc + 3) ls rest)) : W p l e R s m args below meth c H locs cells slots Q (F0 m pc ls (va_rf v :: .ref a :: rest)) := g_put (S2 := sR S a 8 v) hC hP hS (ci := 1) (k := 8) rfl (by decide) uW_X1 tyX1_ok nmX1 (by decide) fL_X1_17 (Or.inr ⟨hin, rfl, rfl⟩) (by cases v <;> rfl) (by cases v <;> rfl) hKa rfl (fun b hb => gE_sR hb) (gF_R rfl (by decide)) hdg kk
theorem gt_X1_23 (hC : gC N0 D cy p s m args c cc nL RX1) (hP : gP N0 D cy S H) (hKa : gK S a = 2) (hdg : decode cc pc = .ok (.getfield 23, 3)) (kk : W p l e R s m args below meth c H locs cells slots Q (F0 m (pc + 3) ls (.long (gJ S a 12) :: rest))) : W p l e R s m args below meth c H locs cells slots Q (F0 m pc ls (.ref a :: rest)) := g_get hC hP (ci := 1) (k := 12) rfl (by decide) uW_X1 (by decide) fL_X1_23 hKa hdg kk
theorem pt_X1_23 {v : Int64} (hC : gC N0 D cy p s m args c cc nL RX1) (hP : gP N0 D cy S H) (hS : va_S (fun q => N0 ≤ q) s.heap H locs) (hKa : gK S a = 2)  (hdg : decode cc pc = .ok (.putfield 23, 3)) (kk : ∀ (H1 : Heap) (locs1 : List Loc), gP N0 D cy (sJ S a 12 v) H1 → H1.size = H.size → va_S (fun q => N0 ≤ q) s.heap H1 locs1 → W p l e R s m args below meth c H1 locs1 cells slots Q (F0 m (pc + 3) ls rest)) : W p l e R s m args below meth c H locs cells slots Q (F0 m pc ls (.long v :: .ref a :: rest)) := g_put (S2 := sJ S a 12 v) hC hP hS (ci := 1) (k := 12) rfl (by decide) uW_X1 tyX1_ok nmX1 (by decide) fL_X1_23 (Or.inl rfl) rfl rfl hKa rfl (fun b hb => gE_sJ hb) (gF_J rfl (by decide)) hdg kk
theorem gt_X1_27 (hC : gC N0 D cy p s m args c cc nL RX1) (hP : gP N0 D cy S H) (hKa : gK S a = 2) (hdg : decode cc pc = .ok (.getfield 27, 3)) (kk : W p l e R s m args below meth c H locs cells slots Q (F0 m (pc + 3) ls (.int (gI S a 0) :: rest))) : W p l e R s m args below meth c H locs cells slots Q (F0 m pc ls (.ref a :: rest)) := g_get hC hP (ci := 1) (k := 0) rfl (by decide) uW_X1 (by decide) fL_X1_27 hKa hdg kk
theorem pt_X1_27 {v : Int32} (hC : gC N0 D cy p s m args c cc nL RX1) (hP : gP N0 D cy S H) (hS : va_S (fun q => N0 ≤ q) s.heap H locs) (hKa : gK S a = 2) (hin : meth.name = "<init>")  (hdg : decode cc pc = .ok (.putfield 27, 3)) (kk : ∀ (H1 : Heap) (locs1 : List Loc), gP N0 D cy (sI S a 0 v) H1 → H1.size = H.size → va_S (fun q => N0 ≤ q) s.heap H1 locs1 → W p l e R s m args below meth c H1 locs1 cells slots Q (F0 m (pc + 3) ls rest)) : W p l e R s m args below meth c H locs cells slots Q (F0 m pc ls (.int v :: .ref a :: rest)) := g_put (S2 := sI S a 0 v) hC hP hS (ci := 1) (k := 0) rfl (by decide) uW_X1 tyX1_ok nmX1 (by decide) fL_X1_27 (Or.inr ⟨hin, rfl, rfl⟩) rfl rfl hKa rfl (fun b hb => gE_sI hb) (gF_I (Or.inl rfl) (by decide)) hdg kk
theorem gt_X1_30 (hC : gC N0 D cy p s m args c cc nL RX1) (hP : gP N0 D cy S H) (hKa : gK S a = 2) {b : Nat} (hR : gR S a 1 = some b) (hdg : decode cc pc = .ok (.getfield 30, 3)) (kk : W p l e R s m args below meth c H locs cells slots Q (F0 m (pc + 3) ls (.ref b :: rest))) : W p l e R s m args below meth c H locs cells slots Q (F0 m pc ls (.ref a :: rest)) := g_get hC hP (ci := 1) (k := 1) rfl (by decide) uW_X1 (by decide) fL_X1_30 hKa hdg (by show W p l e R s m args below meth c H locs cells slots Q (F0 m (pc + 3) ls (va_rf (gR S a 1) :: rest)); rw [hR]; exact kk)
theorem gq_X1_30 (hC : gC N0 D cy p s m args c cc nL RX1) (hP : gP N0 D cy S H) (hKa : gK S a = 2) (hdg : decode cc pc = .ok (.getfield 30, 3)) (kn : gR S a 1 = none → W p l e R s m args below meth c H locs cells slots Q (F0 m (pc + 3) ls (.null :: rest))) (ks : ∀ b : Nat, gR S a 1 = some b → W p l e R s m args below meth c H locs cells slots Q (F0 m (pc + 3) ls (.ref b :: rest))) : W p l e R s m args below meth c H locs cells slots Q (F0 m pc ls (.ref a :: rest)) := g_get hC hP (ci := 1) (k := 1) rfl (by decide) uW_X1 (by decide) fL_X1_30 hKa hdg (by show W p l e R s m args below meth c H locs cells slots Q (F0 m (pc + 3) ls (va_rf (gR S a 1) :: rest)); cases hq : gR S a 1 with | none => exact kn hq | some b => exact ks b hq)
theorem pt_X1_30 {v : Option Nat} (hC : gC N0 D cy p s m args c cc nL RX1) (hP : gP N0 D cy S H) (hS : va_S (fun q => N0 ≤ q) s.heap H locs) (hKa : gK S a = 2) (hin : meth.name = "<init>")  (hdg : decode cc pc = .ok (.putfield 30, 3)) (kk : ∀ (H1 : Heap) (locs1 : List Loc), gP N0 D cy (sR S a 1 v) H1 → H1.size = H.size → va_S (fun q => N0 ≤ q) s.heap H1 locs1 → W p l e R s m args below meth c H1 locs1 cells slots Q (F0 m (pc + 3) ls rest)) : W p l e R s m args below meth c H locs cells slots Q (F0 m pc ls (va_rf v :: .ref a :: rest)) := g_put (S2 := sR S a 1 v) hC hP hS (ci := 1) (k := 1) rfl (by decide) uW_X1 tyX1_ok nmX1 (by decide) fL_X1_30 (Or.inr ⟨hin, rfl, rfl⟩) (by cases v <;> rfl) (by cases v <;> rfl) hKa rfl (fun b hb => gE_sR hb) (gF_R rfl (by decide)) hdg kk
theorem gt_X1_34 (hC : gC N0 D cy p s m args c cc nL RX1) (hP : gP N0 D cy S H) (hKa : gK S a = 2) {b : Nat} (hR : gR S a 11 = some b) (hdg : decode cc pc = .ok (.getfield 34, 3)) (kk : W p l e R s m args below meth c H locs cells slots Q (F0 m (pc + 3) ls (.ref b :: rest))) : W p l e R s m args below meth c H locs cells slots Q (F0 m pc ls (.ref a :: rest)) := g_get hC hP (ci := 1) (k := 11) rfl (by decide) uW_X1 (by decide) fL_X1_34 hKa hdg (by show W p l e R s m args below meth c H locs cells slots Q (F0 m (pc + 3) ls (va_rf (gR S a 11) :: rest)); rw [hR]; exact kk)
theorem gq_X1_34 (hC : gC N0 D cy p s m args c cc nL RX1) (hP : gP N0 D cy S H) (hKa : gK S a = 2) (hdg : decode cc pc = .ok (.getfield 34, 3)) (kn : gR S a 11 = none → W p l e R s m args below meth c H locs cells slots Q (F0 m (pc + 3) ls (.null :: rest))) (ks : ∀ b : Nat, gR S a 11 = some b → W p l e R s m args below meth c H locs cells slots Q (F0 m (pc + 3) ls (.ref b :: rest))) : W p l e R s m args below meth c H locs cells slots Q (F0 m pc ls (.ref a :: rest)) := g_get hC hP (ci := 1) (k := 11) rfl (by decide) uW_X1 (by decide) fL_X1_34 hKa hdg (by show W p l e R s m args below meth c H locs cells slots Q (F0 m (pc + 3) ls (va_rf (gR S a 11) :: rest)); cases hq : gR S a 11 with | none => exact kn hq | some b => exact ks b hq)
theorem pt_X1_34 {v : Option Nat} (hC : gC N0 D cy p s m args c cc nL RX1) (hP : gP N0 D cy S H) (hS : va_S (fun q => N0 ≤ q) s.heap H locs) (hKa : gK S a = 2)  (hdg : decode cc pc = .ok (.putfield 34, 3)) (kk : ∀ (H1 : Heap) (locs1 : List Loc), gP N0 D cy (sR S a 11 v) H1 → H1.size = H.size → va_S (fun q => N0 ≤ q) s.heap H1 locs1 → W p l e R s m args below meth c H1 locs1 cells slots Q (F0 m (pc + 3) ls rest)) : W p l e R s m args below meth c H locs cells slots Q (F0 m pc ls (va_rf v :: .ref a :: rest)) := g_put (S2 := sR S a 11 v) hC hP hS (ci := 1) (k := 11) rfl (by decide) uW_X1 tyX1_ok nmX1 (by decide) fL_X1_34 (Or.inl rfl) (by cases v <;> rfl) (by cases v <;> rfl) hKa rfl (fun b hb => gE_sR hb) (gF_R rfl (by decide)) hdg kk
theorem gt_X1_38 (hC : gC N0 D cy p s m args c cc nL RX1) (hP : gP N0 D cy S H) (hKa : gK S a = 2) (hdg : decode cc pc = .ok (.getfield 38, 3)) (kk : W p l e R s m args below meth c H locs cells slots Q (F0 m (pc + 3) ls (.int (gI S a 4) :: rest))) : W p l e R s m args below meth c H locs cells slots Q (F0 m pc ls (.ref a :: rest)) := g_get hC hP (ci := 1) (k := 4) rfl (by decide) uW_X1 (by decide) fL_X1_38 hKa hdg kk
theorem pt_X1_38 {v : Int32} (hC : gC N0 D cy p s m args c cc nL RX1) (hP : gP N0 D cy S H) (hS : va_S (fun q => N0 ≤ q) s.heap H locs) (hKa : gK S a = 2)  (hdg : decode cc pc = .ok (.putfield 38, 3)) (kk : ∀ (H1 : Heap) (locs1 : List Loc), gP N0 D cy (sI S a 4 v) H1 → H1.size = H.size → va_S (fun q => N0 ≤ q) s.heap H1 locs1 → W p l e R s m args below meth c H1 locs1 cells slots Q (F0 m (pc + 3) ls rest)) : W p l e R s m args below meth c H locs cells slots Q (F0 m pc ls (.int v :: .ref a :: rest)) := g_put (S2 := sI S a 4 v) hC hP hS (ci := 1) (k := 4) rfl (by decide) uW_X1 tyX1_ok nmX1 (by decide) fL_X1_38 (Or.inl rfl) rfl rfl hKa rfl (fun b hb => gE_sI hb) (gF_I (Or.inl rfl) (by decide)) hdg kk
theorem gt_X1_41 (hC : gC N0 D cy p s m args c cc nL RX1) (hP : gP N0 D cy S H) (hKa : gK S a = 2) (hdg : decode cc pc = .ok (.getfield 41, 3)) (kk : W p l e R s m args below meth c H locs cells slots Q (F0 m (pc + 3) ls (.int (gI S a 5) :: rest))) : W p l e R s m args below meth c H locs cells slots Q (F0 m pc ls (.ref a :: rest)) := g_get hC hP (ci := 1) (k := 5) rfl (by decide) uW_X1 (by decide) fL_X1_41 hKa hdg kk
theorem pt_X1_41 {v : Int32} (hC : gC N0 D cy p s m args c cc nL RX1) (hP : gP N0 D cy S H) (hS : va_S (fun q => N0 ≤ q) s.heap H locs) (hKa : gK S a = 2)  (hdg : decode cc pc = .ok (.putfield 41, 3)) (kk : ∀ (H1 : Heap) (locs1 : List Loc), gP N0 D cy (sI S a 5 v) H1 → H1.size = H.size → va_S (fun q => N0 ≤ q) s.heap H1 locs1 → W p l e R s m args below meth c H1 locs1 cells slots Q (F0 m (pc + 3) ls rest)) : W p l e R s m args below meth c H locs cells slots Q (F0 m pc ls (.int v :: .ref a :: rest)) := g_put (S2 := sI S a 5 v) hC hP hS (ci := 1) (k := 5) rfl (by decide) uW_X1 tyX1_ok nmX1 (by decide) fL_X1_41 (Or.inl rfl) rfl rfl hKa rfl (fun b hb => gE_sI hb) (gF_I (Or.inl rfl) (by decide)) hdg kk
theorem gt_X1_50 (hC : gC N0 D cy p s m args c cc nL RX1) (hP : gP N0 D cy S H) (hKa : gK S a = 2) (hdg : decode cc pc = .ok (.getfield 50, 3)) (kk : W p l e R s m args below meth c H locs cells slots Q (F0 m (pc + 3) ls (.int (gI S a 6) :: rest))) : W p l e R s m args below meth c H locs cells slots Q (F0 m pc ls (.ref a :: rest)) := g_get hC hP (ci := 1) (k := 6) rfl (by decide) uW_X1 (by decide) fL_X1_50 hKa hdg kk
theorem pt_X1_50 {v : Int32} (hC : gC N0 D cy p s m args c cc nL RX1) (hP : gP N0 D cy S H) (hS : va_S (fun q => N0 ≤ q) s.heap H locs) (hKa : gK S a = 2)  (hdg : decode cc pc = .ok (.putfield 50, 3)) (kk : ∀ (H1 : Heap) (locs1 : List Loc), gP N0 D cy (sI S a 6 v) H1 → H1.size = H.size → va_S (fun q => N0 ≤ q) s.heap H1 locs1 → W p l e R s m args below meth c H1 locs1 cells slots Q (F0 m (pc + 3) ls rest)) : W p l e R s m args below meth c H locs cells slots Q (F0 m pc ls (.int v :: .ref a :: rest)) := g_put (S2 := sI S a 6 v) hC hP hS (ci := 1) (k := 6) rfl (by decide) uW_X1 tyX1_ok nmX1 (by decide) fL_X1_50 (Or.inl rfl) rfl rfl hKa rfl (fun b hb => gE_sI hb) (gF_I (Or.inl rfl) (by decide)) hdg kk
theorem gt_X1_53 (hC : gC N0 D cy p s m args c cc nL RX1) (hP : gP N0 D cy S H) (hKa : gK S a = 2) (hdg : decode cc pc = .ok (.getfield 53, 3)) (kk : W p l e R s m args below meth c H locs cells slots Q (F0 m (pc + 3) ls (.int (gI S a 7) :: rest))) : W p l e R s m args below meth c H locs cells slots Q (F0 m pc ls (.ref a :: rest)) := g_get hC hP (ci := 1) (k := 7) rfl (by decide) uW_X1 (by decide) fL_X1_53 hKa hdg kk
theorem pt_X1_53 {v : Int32} (hC : gC N0 D cy p s m args c cc nL RX1) (hP : gP N0 D cy S H) (hS : va_S (fun q => N0 ≤ q) s.heap H locs) (hKa : gK S a = 2)  (hdg : decode cc pc = .ok (.putfield 53, 3)) (kk : ∀ (H1 : Heap) (locs1 : List Loc), gP N0 D cy (sI S a 7 v) H1 → H1.size = H.size → va_S (fun q => N0 ≤ q) s.heap H1 locs1 → W p l e R s m args below meth c H1 locs1 cells slots Q (F0 m (pc + 3) ls rest)) : W p l e R s m args below meth c H locs cells slots Q (F0 m pc ls (.int v :: .ref a :: rest)) := g_put (S2 := sI S a 7 v) hC hP hS (ci := 1) (k := 7) rfl (by decide) uW_X1 tyX1_ok nmX1 (by decide) fL_X1_53 (Or.inl rfl) rfl rfl hKa rfl (fun b hb => gE_sI hb) (gF_I (Or.inl rfl) (by decide)) hdg kk
theorem gt_X1_56 (hC : gC N0 D cy p s m args c cc nL RX1) (hP : gP N0 D cy S H) (hKa : gK S a = 2) {b : Nat} (hR : gR S a 9 = some b) (hdg : decode cc pc = .ok (.getfield 56, 3)) (kk : W p l e R s m args below meth c H locs cells slots Q (F0 m (pc + 3) ls (.ref b :: rest))) : W p l e R s m args below meth c H locs cells slots Q (F0 m pc ls (.ref a :: rest)) := g_get hC hP (ci := 1) (k := 9) rfl (by decide) uW_X1 (by decide) fL_X1_56 hKa hdg (by show W p l e R s m args below meth c H locs cells slots Q (F0 m (pc + 3) ls (va_rf (gR S a 9) :: rest)); rw [hR]; exact kk)
theorem gq_X1_56 (hC : gC N0 D cy p s m args c cc nL RX1) (hP : gP N0 D cy S H) (hKa : gK S a = 2) (hdg : decode cc pc = .ok (.getfield 56, 3)) (kn : gR S a 9 = none → W p l e R s m args below meth c H locs cells slots Q (F0 m (pc + 3) ls (.null :: rest))) (ks : ∀ b : Nat, gR S a 9 = some b → W p l e R s m args below meth c H locs cells slots Q (F0 m (pc + 3) ls (.ref b :: rest))) : W p l e R s m args below meth c H locs cells slots Q (F0 m pc ls (.ref a :: rest)) := g_get hC hP (ci := 1) (k := 9) rfl (by decide) uW_X1 (by decide) fL_X1_56 hKa hdg (by show W p l e R s m args below meth c H locs cells slots Q (F0 m (pc + 3) ls (va_rf (gR S a 9) :: rest)); cases hq : gR S a 9 with | none => exact kn hq | some b => exact ks b hq)
theorem pt_X1_56 {v : Option Nat} (hC : gC N0 D cy p s m args c cc nL RX1) (hP : gP N0 D cy S H) (hS : va_S (fun q => N0 ≤ q) s.heap H locs) (hKa : gK S a = 2)  (hdg : decode cc pc = .ok (.putfield 56, 3)) (kk : ∀ (H1 : Heap) (locs1 : List Loc), gP N0 D cy (sR S a 9 v) H1 → H1.size = H.size → va_S (fun q => N0 ≤ q) s.heap H1 locs1 → W p l e R s m args below meth c H1 locs1 cells slots Q (F0 m (pc + 3) ls rest)) : W p l e R s m args below meth c H locs cells slots Q (F0 m pc ls (va_rf v :: .ref a :: rest)) := g_put (S2 := sR S a 9 v) hC hP hS (ci := 1) (k := 9) rfl (by decide) uW_X1 tyX1_ok nmX1 (by decide) fL_X1_56 (Or.inl rfl) (by cases v <;> rfl) (by cases v <;> rfl) hKa rfl (fun b hb => gE_sR hb) (gF_R rfl (by decide)) hdg kk
theorem gt_X1_59 (hC : gC N0 D cy p s m args c cc nL RX1) (hP : gP N0 D cy S H) (hKa : gK S a = 2) (hdg : decode cc pc = .ok (.getfield 59, 3)) (kk : W p l e R s m args below meth c H locs cells slots Q (F0 m (pc + 3) ls (.int (gI S a 10) :: rest))) : W p l e R s m args below meth c H locs cells slots Q (F0 m pc ls (.ref a :: rest)) := g_get hC hP (ci := 1) (k := 10) rfl (by decide) uW_X1 (by decide) fL_X1_59 hKa hdg kk
theorem pt_X1_59 {v : Int32} (hC : gC N0 D cy p s m args c cc nL RX1) (hP : gP N0 D cy S H) (hS : va_S (fun q => N0 ≤ q) s.heap H locs) (hKa : gK S a = 2)  (hdg : decode cc pc = .ok (.putfield 59, 3)) (kk : ∀ (H1 : Heap) (locs1 : List Loc), gP N0 D cy (sI S a 10 v) H1 → H1.size = H.size → va_S (fun q => N0 ≤ q) s.heap H1 locs1 → W p l e R s m args below meth c H1 locs1 cells slots Q (F0 m (pc + 3) ls rest)) : W p l e R s m args below meth c H locs cells slots Q (F0 m pc ls (.int v :: .ref a :: rest)) := g_put (S2 := sI S a 10 v) hC hP hS (ci := 1) (k := 10) rfl (by decide) uW_X1 tyX1_ok nmX1 (by decide) fL_X1_59 (Or.inl rfl) rfl rfl hKa rfl (fun b hb => gE_sI hb) (gF_I (Or.inl rfl) (by decide)) hdg kk
theorem gt_X1_66 (hC : gC N0 D cy p s m args c cc nL RX1) (hP : gP N0 D cy S H) (hKa : gK S a = 2) (hdg : decode cc pc = .ok (.getfield 66, 3)) (kk : W p l e R s m args below meth c H locs cells slots Q (F0 m (pc + 3) ls (.int (gI S a 13) :: rest))) : W p l e R s m args below meth c H locs cells slots Q (F0 m pc ls (.ref a :: rest)) := g_get hC hP (ci := 1) (k := 13) rfl (by decide) uW_X1 (by decide) fL_X1_66 hKa hdg kk
theorem pt_X1_66 {v : Int32} (hC : gC N0 D cy p s m args c cc nL RX1) (hP : gP N0 D cy S H) (hS : va_S (fun q => N0 ≤ q) s.heap H locs) (hKa : gK S a = 2)  (hdg : decode cc pc = .ok (.putfield 66, 3)) (kk : ∀ (H1 : Heap) (locs1 : List Loc), gP N0 D cy (sI S a 13 v) H1 → H1.size = H.size → va_S (fun q => N0 ≤ q) s.heap H1 locs1 → W p l e R s m args below meth c H1 locs1 cells slots Q (F0 m (pc + 3) ls rest)) : W p l e R s m args below meth c H locs cells slots Q (F0 m pc ls (.int v :: .ref a :: rest)) := g_put (S2 := sI S a 13 v) hC hP hS (ci := 1) (k := 13) rfl (by decide) uW_X1 tyX1_ok nmX1 (by decide) fL_X1_66 (Or.inl rfl) rfl rfl hKa rfl (fun b hb => gE_sI hb) (gF_I (Or.inl rfl) (by decide)) hdg kk
theorem gt_X1_69 (hC : gC N0 D cy p s m args c cc nL RX1) (hP : gP N0 D cy S H) (hKa : gK S a = 3) (hdg : decode cc pc = .ok (.getfield 69, 3)) (kk : W p l e R s m args below meth c H locs cells slots Q (F0 m (pc + 3) ls (.int (gI S a 0) :: rest))) : W p l e R s m args below meth c H locs cells slots Q (F0 m pc ls (.ref a :: rest)) := g_get hC hP (ci := 2) (k := 0) rfl (by decide) uW_X2 (by decide) fL_X1_69 hKa hdg kk
theorem pt_X1_69 {v : Int32} (hC : gC N0 D cy p s m args c cc nL RX1) (hP : gP N0 D cy S H) (hS : va_S (fun q => N0 ≤ q) s.heap H locs) (hKa : gK S a = 3)  (hdg : decode cc pc = .ok (.putfield 69, 3)) (kk : ∀ (H1 : Heap) (locs1 : List Loc), gP N0 D cy (sI S a 0 v) H1 → H1.size = H.size → va_S (fun q => N0 ≤ q) s.heap H1 locs1 → W p l e R s m args below meth c H1 locs1 cells slots Q (F0 m (pc + 3) ls rest)) : W p l e R s m args below meth c H locs cells slots Q (F0 m pc ls (.int v :: .ref a :: rest)) := g_put (S2 := sI S a 0 v) hC hP hS (ci := 2) (k := 0) rfl (by decide) uW_X2 tyX2_ok nmX2 (by decide) fL_X1_69 (Or.inl rfl) rfl rfl hKa rfl (fun b hb => gE_sI hb) (gF_I (Or.inl rfl) (by decide)) hdg kk
theorem gt_X1_89 (hC : gC N0 D cy p s m args c cc nL RX1) (hP : gP N0 D cy S H) (hKa : gK S a = 3) (hdg : decode cc pc = .ok (.getfield 89, 3)) (kk : W p l e R s m args below meth c H locs cells slots Q (F0 m (pc + 3) ls (.int (gI S a 3) :: rest))) : W p l e R s m args below meth c H locs cells slots Q (F0 m pc ls (.ref a :: rest)) := g_get hC hP (ci := 2) (k := 3) rfl (by decide) uW_X2 (by decide) fL_X1_89 hKa hdg kk
theorem pt_X1_89 {v : Int32} (hC : gC N0 D cy p s m args c cc nL RX1) (hP : gP N0 D cy S H) (hS : va_S (fun q => N0 ≤ q) s.heap H locs) (hKa : gK S a = 3)  (hdg : decode cc pc = .ok (.putfield 89, 3)) (kk : ∀ (H1 : Heap) (locs1 : List Loc), gP N0 D cy (sI S a 3 v) H1 → H1.size = H.size → va_S (fun q => N0 ≤ q) s.heap H1 locs1 → W p l e R s m args below meth c H1 locs1 cells slots Q (F0 m (pc + 3) ls rest)) : W p l e R s m args below meth c H locs cells slots Q (F0 m pc ls (.int v :: .ref a :: rest)) := g_put (S2 := sI S a 3 v) hC hP hS (ci := 2) (k := 3) rfl (by decide) uW_X2 tyX2_ok nmX2 (by decide) fL_X1_89 (Or.inl rfl) rfl rfl hKa rfl (fun b hb => gE_sI hb) (gF_I (Or.inl rfl) (by decide)) hdg kk
theorem gt_X1_90 (hC : gC N0 D cy p s m args c cc nL RX1) (hP : gP N0 D cy S H) (hKa : gK S a = 3) (hdg : decode cc pc = .ok (.getfield 90, 3)) (kk : W p l e R s m args below meth c H locs cells slots Q (F0 m (pc + 3) ls (.int (gI S a 5) :: rest))) : W p l e R s m args below meth c H locs cells slots Q (F0 m pc ls (.ref a :: rest)) := g_get hC hP (ci := 2) (k := 5) rfl (by decide) uW_X2 (by decide) fL_X1_90 hKa hdg kk
theorem pt_X1_90 {v : Int32} (hC : gC N0 D cy p s m args c cc nL RX1) (hP : gP N0 D cy S H) (hS : va_S (fun q => N0 ≤ q) s.heap H locs) (hKa : gK S a = 3)  (hdg : decode cc pc = .ok (.putfield 90, 3)) (kk : ∀ (H1 : Heap) (locs1 : List Loc), gP N0 D cy (sI S a 5 v) H1 → H1.size = H.size → va_S (fun q => N0 ≤ q) s.heap H1 locs1 → W p l e R s m args below meth c H1 locs1 cells slots Q (F0 m (pc + 3) ls rest)) : W p l e R s m args below meth c H locs cells slots Q (F0 m pc ls (.int v :: .ref a :: rest)) := g_put (S2 := sI S a 5 v) hC hP hS (ci := 2) (k := 5) rfl (by decide) uW_X2 tyX2_ok nmX2 (by decide) fL_X1_90 (Or.inl rfl) rfl rfl hKa rfl (fun b hb => gE_sI hb) (gF_I (Or.inl rfl) (by decide)) hdg kk
theorem gt_X1_96 (hC : gC N0 D cy p s m args c cc nL RX1) (hP : gP N0 D cy S H) (hKa : gK S a = 3) (hdg : decode cc pc = .ok (.getfield 96, 3)) (kk : W p l e R s m args below meth c H locs cells slots Q (F0 m (pc + 3) ls (.int (gI S a 2) :: rest))) : W p l e R s m args below meth c H locs cells slots Q (F0 m pc ls (.ref a :: rest)) := g_get hC hP (ci := 2) (k := 2) rfl (by decide) uW_X2 (by decide) fL_X1_96 hKa hdg kk
theorem pt_X1_96 {v : Int32} (hC : gC N0 D cy p s m args c cc nL RX1) (hP : gP N0 D cy S H) (hS : va_S (fun q => N0 ≤ q) s.heap H locs) (hKa : gK S a = 3)  (hdg : decode cc pc = .ok (.putfield 96, 3)) (kk : ∀ (H1 : Heap) (locs1 : List Loc), gP N0 D cy (sI S a 2 v) H1 → H1.size = H.size → va_S (fun q => N0 ≤ q) s.heap H1 locs1 → W p l e R s m args below meth c H1 locs1 cells slots Q (F0 m (pc + 3) ls rest)) : W p l e R s m args below meth c H locs cells slots Q (F0 m pc ls (.int v :: .ref a :: rest)) := g_put (S2 := sI S a 2 v) hC hP hS (ci := 2) (k := 2) rfl (by decide) uW_X2 tyX2_ok nmX2 (by decide) fL_X1_96 (Or.inl rfl) rfl rfl hKa rfl (fun b hb => gE_sI hb) (gF_I (Or.inl rfl) (by decide)) hdg kk
theorem gt_X1_105 (hC : gC N0 D cy p s m args c cc nL RX1) (hP : gP N0 D cy S H) (hKa : gK S a = 3) {b : Nat} (hR : gR S a 7 = some b) (hdg : decode cc pc = .ok (.getfield 105, 3)) (kk : W p l e R s m args below meth c H locs cells slots Q (F0 m (pc + 3) ls (.ref b :: rest))) : W p l e R s m args below meth c H locs cells slots Q (F0 m pc ls (.ref a :: rest)) := g_get hC hP (ci := 2) (k := 7) rfl (by decide) uW_X2 (by decide) fL_X1_105 hKa hdg (by show W p l e R s m args below meth c H locs cells slots Q (F0 m (pc + 3) ls (va_rf (gR S a 7) :: rest)); rw [hR]; exact kk)
theorem gq_X1_105 (hC : gC N0 D cy p s m args c cc nL RX1) (hP : gP N0 D cy S H) (hKa : gK S a = 3) (hdg : decode cc pc = .ok (.getfield 105, 3)) (kn : gR S a 7 = none → W p l e R s m args below meth c H locs cells slots Q (F0 m (pc + 3) ls (.null :: rest))) (ks : ∀ b : Nat, gR S a 7 = some b → W p l e R s m args below meth c H locs cells slots Q (F0 m (pc + 3) ls (.ref b :: rest))) : W p l e R s m args below meth c H locs cells slots Q (F0 m pc ls (.ref a :: rest)) := g_get hC hP (ci := 2) (k := 7) rfl (by decide) uW_X2 (by decide) fL_X1_105 hKa hdg (by show W p l e R s m args below meth c H locs cells slots Q (F0 m (pc + 3) ls (va_rf (gR S a 7) :: rest)); cases hq : gR S a 7 with | none => exact kn hq | some b => exact ks b hq)
theorem gt_X1_112 (hC : gC N0 D cy p s m args c cc nL RX1) (hP : gP N0 D cy S H) (hKa : gK S a = 1) (hdg : decode cc pc = .ok (.getfield 112, 3)) (kk : W p l e R s m args below meth c H locs cells slots Q (F0 m (pc + 3) ls (.int (gI S a 0) :: rest))) : W p l e R s m args below meth c H locs cells slots Q (F0 m pc ls (.ref a :: rest)) := g_get hC hP (ci := 0) (k := 0) rfl (by decide) uW_X0 (by decide) fL_X1_112 hKa hdg kk
theorem gt_X1_121 (hC : gC N0 D cy p s m args c cc nL RX1) (hP : gP N0 D cy S H) (hKa : gK S a = 2) (hdg : decode cc pc = .ok (.getfield 121, 3)) (kk : W p l e R s m args below meth c H locs cells slots Q (F0 m (pc + 3) ls (.long (gJ S a 2) :: rest))) : W p l e R s m args below meth c H locs cells slots Q (F0 m pc ls (.ref a :: rest)) := g_get hC hP (ci := 1) (k := 2) rfl (by decide) uW_X1 (by decide) fL_X1_121 hKa hdg kk
theorem pt_X1_121 {v : Int64} (hC : gC N0 D cy p s m args c cc nL RX1) (hP : gP N0 D cy S H) (hS : va_S (fun q => N0 ≤ q) s.heap H locs) (hKa : gK S a = 2)  (hdg : decode cc pc = .ok (.putfield 121, 3)) (kk : ∀ (H1 : Heap) (locs1 : List Loc), gP N0 D cy (sJ S a 2 v) H1 → H1.size = H.size → va_S (fun q => N0 ≤ q) s.heap H1 locs1 → W p l e R s m args below meth c H1 locs1 cells slots Q (F0 m (pc + 3) ls rest)) : W p l e R s m args below meth c H locs cells slots Q (F0 m pc ls (.long v :: .ref a :: rest)) := g_put (S2 := sJ S a 2 v) hC hP hS (ci := 1) (k := 2) rfl (by decide) uW_X1 tyX1_ok nmX1 (by decide) fL_X1_121 (Or.inl rfl) rfl rfl hKa rfl (fun b hb => gE_sJ hb) (gF_J rfl (by decide)) hdg kk
theorem gt_X1_124 (hC : gC N0 D cy p s m args c cc nL RX1) (hP : gP N0 D cy S H) (hKa : gK S a = 6) (hdg : decode cc pc = .ok (.getfield 124, 3)) (kk : W p l e R s m args below meth c H locs cells slots Q (F0 m (pc + 3) ls (.long (gJ S a 3) :: rest))) : W p l e R s m args below meth c H locs cells slots Q (F0 m pc ls (.ref a :: rest)) := g_get hC hP (ci := 5) (k := 3) rfl (by decide) uW_X5 (by decide) fL_X1_124 hKa hdg kk
theorem gt_X1_134 (hC : gC N0 D cy p s m args c cc nL RX1) (hP : gP N0 D cy S H) (hKa : gK S a = 1) {b : Nat} (hR : gR S a 2 = some b) (hdg : decode cc pc = .ok (.getfield 134, 3)) (kk : W p l e R s m args below meth c H locs cells slots Q (F0 m (pc + 3) ls (.ref b :: rest))) : W p l e R s m args below meth c H locs cells slots Q (F0 m pc ls (.ref a :: rest)) := g_get hC hP (ci := 0) (k := 2) rfl (by decide) uW_X0 (by decide) fL_X1_134 hKa hdg (by show W p l e R s m args below meth c H locs cells slots Q (F0 m (pc + 3) ls (va_rf (gR S a 2) :: rest)); rw [hR]; exact kk)
theorem gq_X1_134 (hC : gC N0 D cy p s m args c cc nL RX1) (hP : gP N0 D cy S H) (hKa : gK S a = 1) (hdg : decode cc pc = .ok (.getfield 134, 3)) (kn : gR S a 2 = none → W p l e R s m args below meth c H locs cells slots Q (F0 m (pc + 3) ls (.null :: rest))) (ks : ∀ b : Nat, gR S a 2 = some b → W p l e R s m args below meth c H locs cells slots Q (F0 m (pc + 3) ls (.ref b :: rest))) : W p l e R s m args below meth c H locs cells slots Q (F0 m pc ls (.ref a :: rest)) := g_get hC hP (ci := 0) (k := 2) rfl (by decide) uW_X0 (by decide) fL_X1_134 hKa hdg (by show W p l e R s m args below meth c H locs cells slots Q (F0 m (pc + 3) ls (va_rf (gR S a 2) :: rest)); cases hq : gR S a 2 with | none => exact kn hq | some b => exact ks b hq)
theorem gt_X1_137 (hC : gC N0 D cy p s m args c cc nL RX1) (hP : gP N0 D cy S H) (hKa : gK S a = 6) (hdg : decode cc pc = .ok (.getfield 137, 3)) (kk : W p l e R s m args below meth c H locs cells slots Q (F0 m (pc + 3) ls (.int (gI S a 2) :: rest))) : W p l e R s m args below meth c H locs cells slots Q (F0 m pc ls (.ref a :: rest)) := g_get hC hP (ci := 5) (k := 2) rfl (by decide) uW_X5 (by decide) fL_X1_137 hKa hdg kk
theorem gt_X1_150 (hC : gC N0 D cy p s m args c cc nL RX1) (hP : gP N0 D cy S H) (hKa : gK S a = 6) (hdg : decode cc pc = .ok (.getfield 150, 3)) (kk : W p l e R s m args below meth c H locs cells slots Q (F0 m (pc + 3) ls (.int (gI S a 1) :: rest))) : W p l e R s m args below meth c H locs cells slots Q (F0 m pc ls (.ref a :: rest)) := g_get hC hP (ci := 5) (k := 1) rfl (by decide) uW_X5 (by decide) fL_X1_150 hKa hdg kk
theorem gt_X1_153 (hC : gC N0 D cy p s m args c cc nL RX1) (hP : gP N0 D cy S H) (hKa : gK S a = 1) (hdg : decode cc pc = .ok (.getfield 153, 3)) (kk : W p l e R s m args below meth c H locs cells slots Q (F0 m (pc + 3) ls (.long (gJ S a 1) :: rest))) : W p l e R s m args below meth c H locs cells slots Q (F0 m pc ls (.ref a :: rest)) := g_get hC hP (ci := 0) (k := 1) rfl (by decide) uW_X0 (by decide) fL_X1_153 hKa hdg kk
theorem gt_X1_158 (hC : gC N0 D cy p s m args c cc nL RX1) (hP : gP N0 D cy S H) (hKa : gK S a = 2) (hdg : decode cc pc = .ok (.getfield 158, 3)) (kk : W p l e R s m args below meth c H locs cells slots Q (F0 m (pc + 3) ls (.long (gJ S a 14) :: rest))) : W p l e R s m args below meth c H locs cells slots Q (F0 m pc ls (.ref a :: rest)) := g_get hC hP (ci := 1) (k := 14) rfl (by decide) uW_X1 (by decide) fL_X1_158 hKa hdg kk
theorem pt_X1_158 {v : Int64} (hC : gC N0 D cy p s m args c cc nL RX1) (hP : gP N0 D cy S H) (hS : va_S (fun q => N0 ≤ q) s.heap H locs) (hKa : gK S a = 2)  (hdg : decode cc pc = .ok (.putfield 158, 3)) (kk : ∀ (H1 : Heap) (locs1 : List Loc), gP N0 D cy (sJ S a 14 v) H1 → H1.size = H.size → va_S (fun q => N0 ≤ q) s.heap H1 locs1 → W p l e R s m args below meth c H1 locs1 cells slots Q (F0 m (pc + 3) ls rest)) : W p l e R s m args below meth c H locs cells slots Q (F0 m pc ls (.long v :: .ref a :: rest)) := g_put (S2 := sJ S a 14 v) hC hP hS (ci := 1) (k := 14) rfl (by decide) uW_X1 tyX1_ok nmX1 (by decide) fL_X1_158 (Or.inl rfl) rfl rfl hKa rfl (fun b hb => gE_sJ hb) (gF_J rfl (by decide)) hdg kk
theorem gt_X2_11 (hC : gC N0 D cy p s m args c cc nL RX2) (hP : gP N0 D cy S H) (hKa : gK S a = 3) {b : Nat} (hR : gR S a 7 = some b) (hdg : decode cc pc = .ok (.getfield 11, 3)) (kk : W p l e R s m args below meth c H locs cells slots Q (F0 m (pc + 3) ls (.ref b :: rest))) : W p l e R s m args below meth c H locs cells slots Q (F0 m pc ls (.ref a :: rest)) := g_get hC hP (ci := 2) (k := 7) rfl (by decide) uW_X2 (by decide) fL_X2_11 hKa hdg (by show W p l e R s m args below meth c H locs cells slots Q (F0 m (pc + 3) ls (va_rf (gR S a 7) :: rest)); rw [hR]; exact kk)
theorem gq_X2_11 (hC : gC N0 D cy p s m args c cc nL RX2) (hP : gP N0 D cy S H) (hKa : gK S a = 3) (hdg : decode cc pc = .ok (.getfield 11, 3)) (kn : gR S a 7 = none → W p l e R s m args below meth c H locs cells slots Q (F0 m (pc + 3) ls (.null :: rest))) (ks : ∀ b : Nat, gR S a 7 = some b → W p l e R s m args below meth c H locs cells slots Q (F0 m (pc + 3) ls (.ref b :: rest))) : W p l e R s m args below meth c H locs cells slots Q (F0 m pc ls (.ref a :: rest)) := g_get hC hP (ci := 2) (k := 7) rfl (by decide) uW_X2 (by decide) fL_X2_11 hKa hdg (by show W p l e R s m args below meth c H locs cells slots Q (F0 m (pc + 3) ls (va_rf (gR S a 7) :: rest)); cases hq : gR S a 7 with | none => exact kn hq | some b => exact ks b hq)
theorem pt_X2_11 {v : Option Nat} (hC : gC N0 D cy p s m args c cc nL RX2) (hP : gP N0 D cy S H) (hS : va_S (fun q => N0 ≤ q) s.heap H locs) (hKa : gK S a = 3) (hin : meth.name = "<init>")  (hdg : decode cc pc = .ok (.putfield 11, 3)) (kk : ∀ (H1 : Heap) (locs1 : List Loc), gP N0 D cy (sR S a 7 v) H1 → H1.size = H.size → va_S (fun q => N0 ≤ q) s.heap H1 locs1 → W p l e R s m args below meth c H1 locs1 cells slots Q (F0 m (pc + 3) ls rest)) : W p l e R s m args below meth c H locs cells slots Q (F0 m pc ls (va_rf v :: .ref a :: rest)) := g_put (S2 := sR S a 7 v) hC hP hS (ci := 2) (k := 7) rfl (by decide) uW_X2 tyX2_ok nmX2 (by decide) fL_X2_11 (Or.inr ⟨hin, rfl, rfl⟩) (by cases v <;> rfl) (by cases v <;> rfl) hKa rfl (fun b hb => gE_sR hb) (gF_R rfl (by decide)) hdg kk
theorem gt_X2_17 (hC : gC N0 D cy p s m args c cc nL RX2) (hP : gP N0 D cy S H) (hKa : gK S a = 3) {b : Nat} (hR : gR S a 6 = some b) (hdg : decode cc pc = .ok (.getfield 17, 3)) (kk : W p l e R s m args below meth c H locs cells slots Q (F0 m (pc + 3) ls (.ref b :: rest))) : W p l e R s m args below meth c H locs cells slots Q (F0 m pc ls (.ref a :: rest)) := g_get hC hP (ci := 2) (k := 6) rfl (by decide) uW_X2 (by decide) fL_X2_17 hKa hdg (by show W p l e R s m args below meth c H locs cells slots Q (F0 m (pc + 3) ls (va_rf (gR S a 6) :: rest)); rw [hR]; exact kk)
theorem gq_X2_17 (hC : gC N0 D cy p s m args c cc nL RX2) (hP : gP N0 D cy S H) (hKa : gK S a = 3) (hdg : decode cc pc = .ok (.getfield 17, 3)) (kn : gR S a 6 = none → W p l e R s m args below meth c H locs cells slots Q (F0 m (pc + 3) ls (.null :: rest))) (ks : ∀ b : Nat, gR S a 6 = some b → W p l e R s m args below meth c H locs cells slots Q (F0 m (pc + 3) ls (.ref b :: rest))) : W p l e R s m args below meth c H locs cells slots Q (F0 m pc ls (.ref a :: rest)) := g_get hC hP (ci := 2) (k := 6) rfl (by decide) uW_X2 (by decide) fL_X2_17 hKa hdg (by show W p l e R s m args below meth c H locs cells slots Q (F0 m (pc + 3) ls (va_rf (gR S a 6) :: rest)); cases hq : gR S a 6 with | none => exact kn hq | some b => exact ks b hq)
theorem pt_X2_17 {v : Option Nat} (hC : gC N0 D cy p s m args c cc nL RX2) (hP : gP N0 D cy S H) (hS : va_S (fun q => N0 ≤ q) s.heap H locs) (hKa : gK S a = 3)  (hdg : decode cc pc = .ok (.putfield 17, 3)) (kk : ∀ (H1 : Heap) (locs1 : List Loc), gP N0 D cy (sR S a 6 v) H1 → H1.size = H.size → va_S (fun q => N0 ≤ q) s.heap H1 locs1 → W p l e R s m args below meth c H1 locs1 cells slots Q (F0 m (pc + 3) ls rest)) : W p l e R s m args below meth c H locs cells slots Q (F0 m pc ls (va_rf v :: .ref a :: rest)) := g_put (S2 := sR S a 6 v) hC hP hS (ci := 2) (k := 6) rfl (by decide) uW_X2 tyX2_ok nmX2 (by decide) fL_X2_17 (Or.inl rfl) (by cases v <;> rfl) (by cases v <;> rfl) hKa rfl (fun b hb => gE_sR hb) (gF_R rfl (by decide)) hdg kk
theorem gt_X2_21 (hC : gC N0 D cy p s m args c cc nL RX2) (hP : gP N0 D cy S H) (hKa : gK S a = 3) (hdg : decode cc pc = .ok (.getfield 21, 3)) (kk : W p l e R s m args below meth c H locs cells slots Q (F0 m (pc + 3) ls (.int (gI S a 0) :: rest))) : W p l e R s m args below meth c H locs cells slots Q (F0 m pc ls (.ref a :: rest)) := g_get hC hP (ci := 2) (k := 0) rfl (by decide) uW_X2 (by decide) fL_X2_21 hKa hdg kk
theorem pt_X2_21 {v : Int32} (hC : gC N0 D cy p s m args c cc nL RX2) (hP : gP N0 D cy S H) (hS : va_S (fun q => N0 ≤ q) s.heap H locs) (hKa : gK S a = 3)  (hdg : decode cc pc = .ok (.putfield 21, 3)) (kk : ∀ (H1 : Heap) (locs1 : List Loc), gP N0 D cy (sI S a 0 v) H1 → H1.size = H.size → va_S (fun q => N0 ≤ q) s.heap H1 locs1 → W p l e R s m args below meth c H1 locs1 cells slots Q (F0 m (pc + 3) ls rest)) : W p l e R s m args below meth c H locs cells slots Q (F0 m pc ls (.int v :: .ref a :: rest)) := g_put (S2 := sI S a 0 v) hC hP hS (ci := 2) (k := 0) rfl (by decide) uW_X2 tyX2_ok nmX2 (by decide) fL_X2_21 (Or.inl rfl) rfl rfl hKa rfl (fun b hb => gE_sI hb) (gF_I (Or.inl rfl) (by decide)) hdg kk
theorem gt_X3_9 (hC : gC N0 D cy p s m args c cc nL RX3) (hP : gP N0 D cy S H) (hKa : gK S a = 4) (hdg : decode cc pc = .ok (.getfield 9, 3)) (kk : W p l e R s m args below meth c H locs cells slots Q (F0 m (pc + 3) ls (.int (gI S a 0) :: rest))) : W p l e R s m args below meth c H locs cells slots Q (F0 m pc ls (.ref a :: rest)) := g_get hC hP (ci := 3) (k := 0) rfl (by decide) uW_X3 (by decide) fL_X3_9 hKa hdg kk
theorem pt_X3_9 {v : Int32} (hC : gC N0 D cy p s m args c cc nL RX3) (hP : gP N0 D cy S H) (hS : va_S (fun q => N0 ≤ q) s.heap H locs) (hKa : gK S a = 4)  (hv : v = 0 ∨ v = 1) (hdg : decode cc pc = .ok (.putfield 9, 3)) (kk : ∀ (H1 : Heap) (locs1 : List Loc), gP N0 D cy (sI S a 0 v) H1 → H1.size = H.size → va_S (fun q => N0 ≤ q) s.heap H1 locs1 → W p l e R s m args below meth c H1 locs1 cells slots Q (F0 m (pc + 3) ls rest)) : W p l e R s m args below meth c H locs cells slots Q (F0 m pc ls (.int v :: .ref a :: rest)) := g_put (S2 := sI S a 0 v) hC hP hS (ci := 3) (k := 0) rfl (by decide) uW_X3 tyX3_ok nmX3 (by decide) fL_X3_9 (Or.inl rfl) (by rcases hv with rfl | rfl <;> rfl) (by rcases hv with rfl | rfl <;> rfl) hKa rfl (fun b hb => gE_sI hb) (gF_I (Or.inr rfl) (by decide)) hdg kk
theorem gt_X3_17 (hC : gC N0 D cy p s m args c cc nL RX3) (hP : gP N0 D cy S H) (hKa : gK S a = 4) {b : Nat} (hR : gR S a 2 = some b) (hdg : decode cc pc = .ok (.getfield 17, 3)) (kk : W p l e R s m args below meth c H locs cells slots Q (F0 m (pc + 3) ls (.ref b :: rest))) : W p l e R s m args below meth c H locs cells slots Q (F0 m pc ls (.ref a :: rest)) := g_get hC hP (ci := 3) (k := 2) rfl (by decide) uW_X3 (by decide) fL_X3_17 hKa hdg (by show W p l e R s m args below meth c H locs cells slots Q (F0 m (pc + 3) ls (va_rf (gR S a 2) :: rest)); rw [hR]; exact kk)
theorem gq_X3_17 (hC : gC N0 D cy p s m args c cc nL RX3) (hP : gP N0 D cy S H) (hKa : gK S a = 4) (hdg : decode cc pc = .ok (.getfield 17, 3)) (kn : gR S a 2 = none → W p l e R s m args below meth c H locs cells slots Q (F0 m (pc + 3) ls (.null :: rest))) (ks : ∀ b : Nat, gR S a 2 = some b → W p l e R s m args below meth c H locs cells slots Q (F0 m (pc + 3) ls (.ref b :: rest))) : W p l e R s m args below meth c H locs cells slots Q (F0 m pc ls (.ref a :: rest)) := g_get hC hP (ci := 3) (k := 2) rfl (by decide) uW_X3 (by decide) fL_X3_17 hKa hdg (by show W p l e R s m args below meth c H locs cells slots Q (F0 m (pc + 3) ls (va_rf (gR S a 2) :: rest)); cases hq : gR S a 2 with | none => exact kn hq | some b => exact ks b hq)
theorem pt_X3_17 {v : Option Nat} (hC : gC N0 D cy p s m args c cc nL RX3) (hP : gP N0 D cy S H) (hS : va_S (fun q => N0 ≤ q) s.heap H locs) (hKa : gK S a = 4) (hin : meth.name = "<init>")  (hdg : decode cc pc = .ok (.putfield 17, 3)) (kk : ∀ (H1 : Heap) (locs1 : List Loc), gP N0 D cy (sR S a 2 v) H1 → H1.size = H.size → va_S (fun q => N0 ≤ q) s.heap H1 locs1 → W p l e R s m args below meth c H1 locs1 cells slots Q (F0 m (pc + 3) ls rest)) : W p l e R s m args below meth c H locs cells slots Q (F0 m pc ls (va_rf v :: .ref a :: rest)) := g_put (S2 := sR S a 2 v) hC hP hS (ci := 3) (k := 2) rfl (by decide) uW_X3 tyX3_ok nmX3 (by decide) fL_X3_17 (Or.inr ⟨hin, rfl, rfl⟩) (by cases v <;> rfl) (by cases v <;> rfl) hKa rfl (fun b hb => gE_sR hb) (gF_R rfl (by decide)) hdg kk
theorem gt_X3_21 (hC : gC N0 D cy p s m args c cc nL RX3) (hP : gP N0 D cy S H) (hKa : gK S a = 3) (hdg : decode cc pc = .ok (.getfield 21, 3)) (kk : W p l e R s m args below meth c H locs cells slots Q (F0 m (pc + 3) ls (.int (gI S a 3) :: rest))) : W p l e R s m args below meth c H locs cells slots Q (F0 m pc ls (.ref a :: rest)) := g_get hC hP (ci := 2) (k := 3) rfl (by decide) uW_X2 (by decide) fL_X3_21 hKa hdg kk
theorem pt_X3_21 {v : Int32} (hC : gC N0 D cy p s m args c cc nL RX3) (hP : gP N0 D cy S H) (hS : va_S (fun q => N0 ≤ q) s.heap H locs) (hKa : gK S a = 3)  (hdg : decode cc pc = .ok (.putfield 21, 3)) (kk : ∀ (H1 : Heap) (locs1 : List Loc), gP N0 D cy (sI S a 3 v) H1 → H1.size = H.size → va_S (fun q => N0 ≤ q) s.heap H1 locs1 → W p l e R s m args below meth c H1 locs1 cells slots Q (F0 m (pc + 3) ls rest)) : W p l e R s m args below meth c H locs cells slots Q (F0 m pc ls (.int v :: .ref a :: rest)) := g_put (S2 := sI S a 3 v) hC hP hS (ci := 2) (k := 3) rfl (by decide) uW_X2 tyX2_ok nmX2 (by decide) fL_X3_21 (Or.inl rfl) rfl rfl hKa rfl (fun b hb => gE_sI hb) (gF_I (Or.inl rfl) (by decide)) hdg kk
theorem gt_X3_27 (hC : gC N0 D cy p s m args c cc nL RX3) (hP : gP N0 D cy S H) (hKa : gK S a = 4) (hdg : decode cc pc = .ok (.getfield 27, 3)) (kk : W p l e R s m args below meth c H locs cells slots Q (F0 m (pc + 3) ls (.int (gI S a 1) :: rest))) : W p l e R s m args below meth c H locs cells slots Q (F0 m pc ls (.ref a :: rest)) := g_get hC hP (ci := 3) (k := 1) rfl (by decide) uW_X3 (by decide) fL_X3_27 hKa hdg kk
theorem pt_X3_27 {v : Int32} (hC : gC N0 D cy p s m args c cc nL RX3) (hP : gP N0 D cy S H) (hS : va_S (fun q => N0 ≤ q) s.heap H locs) (hKa : gK S a = 4)  (hdg : decode cc pc = .ok (.putfield 27, 3)) (kk : ∀ (H1 : Heap) (locs1 : List Loc), gP N0 D cy (sI S a 1 v) H1 → H1.size = H.size → va_S (fun q => N0 ≤ q) s.heap H1 locs1 → W p l e R s m args below meth c H1 locs1 cells slots Q (F0 m (pc + 3) ls rest)) : W p l e R s m args below meth c H locs cells slots Q (F0 m pc ls (.int v :: .ref a :: rest)) := g_put (S2 := sI S a 1 v) hC hP hS (ci := 3) (k := 1) rfl (by decide) uW_X3 tyX3_ok nmX3 (by decide) fL_X3_27 (Or.inl rfl) rfl rfl hKa rfl (fun b hb => gE_sI hb) (gF_I (Or.inl rfl) (by decide)) hdg kk
theorem gt_X3_34 (hC : gC N0 D cy p s m args c cc nL RX3) (hP : gP N0 D cy S H) (hKa : gK S a = 3) (hdg : decode cc pc = .ok (.getfield 34, 3)) (kk : W p l e R s m args below meth c H locs cells slots Q (F0 m (pc + 3) ls (.int (gI S a 1) :: rest))) : W p l e R s m args below meth c H locs cells slots Q (F0 m pc ls (.ref a :: rest)) := g_get hC hP (ci := 2) (k := 1) rfl (by decide) uW_X2 (by decide) fL_X3_34 hKa hdg kk
theorem pt_X3_34 {v : Int32} (hC : gC N0 D cy p s m args c cc nL RX3) (hP : gP N0 D cy S H) (hS : va_S (fun q => N0 ≤ q) s.heap H locs) (hKa : gK S a = 3)  (hdg : decode cc pc = .ok (.putfield 34, 3)) (kk : ∀ (H1 : Heap) (locs1 : List Loc), gP N0 D cy (sI S a 1 v) H1 → H1.size = H.size → va_S (fun q => N0 ≤ q) s.heap H1 locs1 → W p l e R s m args below meth c H1 locs1 cells slots Q (F0 m (pc + 3) ls rest)) : W p l e R s m args below meth c H locs cells slots Q (F0 m pc ls (.int v :: .ref a :: rest)) := g_put (S2 := sI S a 1 v) hC hP hS (ci := 2) (k := 1) rfl (by decide) uW_X2 tyX2_ok nmX2 (by decide) fL_X3_34 (Or.inl rfl) rfl rfl hKa rfl (fun b hb => gE_sI hb) (gF_I (Or.inl rfl) (by decide)) hdg kk
theorem gt_X3_37 (hC : gC N0 D cy p s m args c cc nL RX3) (hP : gP N0 D cy S H) (hKa : gK S a = 3) (hdg : decode cc pc = .ok (.getfield 37, 3)) (kk : W p l e R s m args below meth c H locs cells slots Q (F0 m (pc + 3) ls (.int (gI S a 2) :: rest))) : W p l e R s m args below meth c H locs cells slots Q (F0 m pc ls (.ref a :: rest)) := g_get hC hP (ci := 2) (k := 2) rfl (by decide) uW_X2 (by decide) fL_X3_37 hKa hdg kk
theorem pt_X3_37 {v : Int32} (hC : gC N0 D cy p s m args c cc nL RX3) (hP : gP N0 D cy S H) (hS : va_S (fun q => N0 ≤ q) s.heap H locs) (hKa : gK S a = 3)  (hdg : decode cc pc = .ok (.putfield 37, 3)) (kk : ∀ (H1 : Heap) (locs1 : List Loc), gP N0 D cy (sI S a 2 v) H1 → H1.size = H.size → va_S (fun q => N0 ≤ q) s.heap H1 locs1 → W p l e R s m args below meth c H1 locs1 cells slots Q (F0 m (pc + 3) ls rest)) : W p l e R s m args below meth c H locs cells slots Q (F0 m pc ls (.int v :: .ref a :: rest)) := g_put (S2 := sI S a 2 v) hC hP hS (ci := 2) (k := 2) rfl (by decide) uW_X2 tyX2_ok nmX2 (by decide) fL_X3_37 (Or.inl rfl) rfl rfl hKa rfl (fun b hb => gE_sI hb) (gF_I (Or.inl rfl) (by decide)) hdg kk
theorem gt_X3_50 (hC : gC N0 D cy p s m args c cc nL RX3) (hP : gP N0 D cy S H) (hKa : gK S a = 3) (hdg : decode cc pc = .ok (.getfield 50, 3)) (kk : W p l e R s m args below meth c H locs cells slots Q (F0 m (pc + 3) ls (.int (gI S a 4) :: rest))) : W p l e R s m args below meth c H locs cells slots Q (F0 m pc ls (.ref a :: rest)) := g_get hC hP (ci := 2) (k := 4) rfl (by decide) uW_X2 (by decide) fL_X3_50 hKa hdg kk
theorem pt_X3_50 {v : Int32} (hC : gC N0 D cy p s m args c cc nL RX3) (hP : gP N0 D cy S H) (hS : va_S (fun q => N0 ≤ q) s.heap H locs) (hKa : gK S a = 3)  (hdg : decode cc pc = .ok (.putfield 50, 3)) (kk : ∀ (H1 : Heap) (locs1 : List Loc), gP N0 D cy (sI S a 4 v) H1 → H1.size = H.size → va_S (fun q => N0 ≤ q) s.heap H1 locs1 → W p l e R s m args below meth c H1 locs1 cells slots Q (F0 m (pc + 3) ls rest)) : W p l e R s m args below meth c H locs cells slots Q (F0 m pc ls (.int v :: .ref a :: rest)) := g_put (S2 := sI S a 4 v) hC hP hS (ci := 2) (k := 4) rfl (by decide) uW_X2 tyX2_ok nmX2 (by decide) fL_X3_50 (Or.inl rfl) rfl rfl hKa rfl (fun b hb => gE_sI hb) (gF_I (Or.inl rfl) (by decide)) hdg kk
theorem gt_X3_53 (hC : gC N0 D cy p s m args c cc nL RX3) (hP : gP N0 D cy S H) (hKa : gK S a = 3) {b : Nat} (hR : gR S a 6 = some b) (hdg : decode cc pc = .ok (.getfield 53, 3)) (kk : W p l e R s m args below meth c H locs cells slots Q (F0 m (pc + 3) ls (.ref b :: rest))) : W p l e R s m args below meth c H locs cells slots Q (F0 m pc ls (.ref a :: rest)) := g_get hC hP (ci := 2) (k := 6) rfl (by decide) uW_X2 (by decide) fL_X3_53 hKa hdg (by show W p l e R s m args below meth c H locs cells slots Q (F0 m (pc + 3) ls (va_rf (gR S a 6) :: rest)); rw [hR]; exact kk)
theorem gq_X3_53 (hC : gC N0 D cy p s m args c cc nL RX3) (hP : gP N0 D cy S H) (hKa : gK S a = 3) (hdg : decode cc pc = .ok (.getfield 53, 3)) (kn : gR S a 6 = none → W p l e R s m args below meth c H locs cells slots Q (F0 m (pc + 3) ls (.null :: rest))) (ks : ∀ b : Nat, gR S a 6 = some b → W p l e R s m args below meth c H locs cells slots Q (F0 m (pc + 3) ls (.ref b :: rest))) : W p l e R s m args below meth c H locs cells slots Q (F0 m pc ls (.ref a :: rest)) := g_get hC hP (ci := 2) (k := 6) rfl (by decide) uW_X2 (by decide) fL_X3_53 hKa hdg (by show W p l e R s m args below meth c H locs cells slots Q (F0 m (pc + 3) ls (va_rf (gR S a 6) :: rest)); cases hq : gR S a 6 with | none => exact kn hq | some b => exact ks b hq)
theorem pt_X3_53 {v : Option Nat} (hC : gC N0 D cy p s m args c cc nL RX3) (hP : gP N0 D cy S H) (hS : va_S (fun q => N0 ≤ q) s.heap H locs) (hKa : gK S a = 3)  (hdg : decode cc pc = .ok (.putfield 53, 3)) (kk : ∀ (H1 : Heap) (locs1 : List Loc), gP N0 D cy (sR S a 6 v) H1 → H1.size = H.size → va_S (fun q => N0 ≤ q) s.heap H1 locs1 → W p l e R s m args below meth c H1 locs1 cells slots Q (F0 m (pc + 3) ls rest)) : W p l e R s m args below meth c H locs cells slots Q (F0 m pc ls (va_rf v :: .ref a :: rest)) := g_put (S2 := sR S a 6 v) hC hP hS (ci := 2) (k := 6) rfl (by decide) uW_X2 tyX2_ok nmX2 (by decide) fL_X3_53 (Or.inl rfl) (by cases v <;> rfl) (by cases v <;> rfl) hKa rfl (fun b hb => gE_sR hb) (gF_R rfl (by decide)) hdg kk
theorem gt_X3_57 (hC : gC N0 D cy p s m args c cc nL RX3) (hP : gP N0 D cy S H) (hKa : gK S a = 3) (hdg : decode cc pc = .ok (.getfield 57, 3)) (kk : W p l e R s m args below meth c H locs cells slots Q (F0 m (pc + 3) ls (.int (gI S a 5) :: rest))) : W p l e R s m args below meth c H locs cells slots Q (F0 m pc ls (.ref a :: rest)) := g_get hC hP (ci := 2) (k := 5) rfl (by decide) uW_X2 (by decide) fL_X3_57 hKa hdg kk
theorem pt_X3_57 {v : Int32} (hC : gC N0 D cy p s m args c cc nL RX3) (hP : gP N0 D cy S H) (hS : va_S (fun q => N0 ≤ q) s.heap H locs) (hKa : gK S a = 3)  (hdg : decode cc pc = .ok (.putfield 57, 3)) (kk : ∀ (H1 : Heap) (locs1 : List Loc), gP N0 D cy (sI S a 5 v) H1 → H1.size = H.size → va_S (fun q => N0 ≤ q) s.heap H1 locs1 → W p l e R s m args below meth c H1 locs1 cells slots Q (F0 m (pc + 3) ls rest)) : W p l e R s m args below meth c H locs cells slots Q (F0 m pc ls (.int v :: .ref a :: rest)) := g_put (S2 := sI S a 5 v) hC hP hS (ci := 2) (k := 5) rfl (by decide) uW_X2 tyX2_ok nmX2 (by decide) fL_X3_57 (Or.inl rfl) rfl rfl hKa rfl (fun b hb => gE_sI hb) (gF_I (Or.inl rfl) (by decide)) hdg kk
theorem gt_X4_11 (hC : gC N0 D cy p s m args c cc nL RX4) (hP : gP N0 D cy S H) (hKa : gK S a = 5) {b : Nat} (hR : gR S a 0 = some b) (hdg : decode cc pc = .ok (.getfield 11, 3)) (kk : W p l e R s m args below meth c H locs cells slots Q (F0 m (pc + 3) ls (.ref b :: rest))) : W p l e R s m args below meth c H locs cells slots Q (F0 m pc ls (.ref a :: rest)) := g_get hC hP (ci := 4) (k := 0) rfl (by decide) uW_X4 (by decide) fL_X4_11 hKa hdg (by show W p l e R s m args below meth c H locs cells slots Q (F0 m (pc + 3) ls (va_rf (gR S a 0) :: rest)); rw [hR]; exact kk)
theorem gq_X4_11 (hC : gC N0 D cy p s m args c cc nL RX4) (hP : gP N0 D cy S H) (hKa : gK S a = 5) (hdg : decode cc pc = .ok (.getfield 11, 3)) (kn : gR S a 0 = none → W p l e R s m args below meth c H locs cells slots Q (F0 m (pc + 3) ls (.null :: rest))) (ks : ∀ b : Nat, gR S a 0 = some b → W p l e R s m args below meth c H locs cells slots Q (F0 m (pc + 3) ls (.ref b :: rest))) : W p l e R s m args below meth c H locs cells slots Q (F0 m pc ls (.ref a :: rest)) := g_get hC hP (ci := 4) (k := 0) rfl (by decide) uW_X4 (by decide) fL_X4_11 hKa hdg (by show W p l e R s m args below meth c H locs cells slots Q (F0 m (pc + 3) ls (va_rf (gR S a 0) :: rest)); cases hq : gR S a 0 with | none => exact kn hq | some b => exact ks b hq)
theorem pt_X4_11 {v : Option Nat} (hC : gC N0 D cy p s m args c cc nL RX4) (hP : gP N0 D cy S H) (hS : va_S (fun q => N0 ≤ q) s.heap H locs) (hKa : gK S a = 5) (hin : meth.name = "<init>")  (hdg : decode cc pc = .ok (.putfield 11, 3)) (kk : ∀ (H1 : Heap) (locs1 : List Loc), gP N0 D cy (sR S a 0 v) H1 → H1.size = H.size → va_S (fun q => N0 ≤ q) s.heap H1 locs1 → W p l e R s m args below meth c H1 locs1 cells slots Q (F0 m (pc + 3) ls rest)) : W p l e R s m args below meth c H locs cells slots Q (F0 m pc ls (va_rf v :: .ref a :: rest)) := g_put (S2 := sR S a 0 v) hC hP hS (ci := 4) (k := 0) rfl (by decide) uW_X4 tyX4_ok nmX4 (by decide) fL_X4_11 (Or.inr ⟨hin, rfl, rfl⟩) (by cases v <;> rfl) (by cases v <;> rfl) hKa rfl (fun b hb => gE_sR hb) (gF_R rfl (by decide)) hdg kk
theorem gt_X4_20 (hC : gC N0 D cy p s m args c cc nL RX4) (hP : gP N0 D cy S H) (hKa : gK S a = 5) (hdg : decode cc pc = .ok (.getfield 20, 3)) (kk : W p l e R s m args below meth c H locs cells slots Q (F0 m (pc + 3) ls (.int (gI S a 1) :: rest))) : W p l e R s m args below meth c H locs cells slots Q (F0 m pc ls (.ref a :: rest)) := g_get hC hP (ci := 4) (k := 1) rfl (by decide) uW_X4 (by decide) fL_X4_20 hKa hdg kk
theorem pt_X4_20 {v : Int32} (hC : gC N0 D cy p s m args c cc nL RX4) (hP : gP N0 D cy S H) (hS : va_S (fun q => N0 ≤ q) s.heap H locs) (hKa : gK S a = 5)  (hdg : decode cc pc = .ok (.putfield 20, 3)) (kk : ∀ (H1 : Heap) (locs1 : List Loc), gP N0 D cy (sI S a 1 v) H1 → H1.size = H.size → va_S (fun q => N0 ≤ q) s.heap H1 locs1 → W p l e R s m args below meth c H1 locs1 cells slots Q (F0 m (pc + 3) ls rest)) : W p l e R s m args below meth c H locs cells slots Q (F0 m pc ls (.int v :: .ref a :: rest)) := g_put (S2 := sI S a 1 v) hC hP hS (ci := 4) (k := 1) rfl (by decide) uW_X4 tyX4_ok nmX4 (by decide) fL_X4_20 (Or.inl rfl) rfl rfl hKa rfl (fun b hb => gE_sI hb) (gF_I (Or.inl rfl) (by decide)) hdg kk
theorem gt_X4_24 (hC : gC N0 D cy p s m args c cc nL RX4) (hP : gP N0 D cy S H) (hKa : gK S a = 3) (hdg : decode cc pc = .ok (.getfield 24, 3)) (kk : W p l e R s m args below meth c H locs cells slots Q (F0 m (pc + 3) ls (.int (gI S a 0) :: rest))) : W p l e R s m args below meth c H locs cells slots Q (F0 m pc ls (.ref a :: rest)) := g_get hC hP (ci := 2) (k := 0) rfl (by decide) uW_X2 (by decide) fL_X4_24 hKa hdg kk
theorem pt_X4_24 {v : Int32} (hC : gC N0 D cy p s m args c cc nL RX4) (hP : gP N0 D cy S H) (hS : va_S (fun q => N0 ≤ q) s.heap H locs) (hKa : gK S a = 3)  (hdg : decode cc pc = .ok (.putfield 24, 3)) (kk : ∀ (H1 : Heap) (locs1 : List Loc), gP N0 D cy (sI S a 0 v) H1 → H1.size = H.size → va_S (fun q => N0 ≤ q) s.heap H1 locs1 → W p l e R s m args below meth c H1 locs1 cells slots Q (F0 m (pc + 3) ls rest)) : W p l e R s m args below meth c H locs cells slots Q (F0 m pc ls (.int v :: .ref a :: rest)) := g_put (S2 := sI S a 0 v) hC hP hS (ci := 2) (k := 0) rfl (by decide) uW_X2 tyX2_ok nmX2 (by decide) fL_X4_24 (Or.inl rfl) rfl rfl hKa rfl (fun b hb => gE_sI hb) (gF_I (Or.inl rfl) (by decide)) hdg kk
theorem gt_X4_27 (hC : gC N0 D cy p s m args c cc nL RX4) (hP : gP N0 D cy S H) (hKa : gK S a = 3) (hdg : decode cc pc = .ok (.getfield 27, 3)) (kk : W p l e R s m args below meth c H locs cells slots Q (F0 m (pc + 3) ls (.int (gI S a 1) :: rest))) : W p l e R s m args below meth c H locs cells slots Q (F0 m pc ls (.ref a :: rest)) := g_get hC hP (ci := 2) (k := 1) rfl (by decide) uW_X2 (by decide) fL_X4_27 hKa hdg kk
theorem pt_X4_27 {v : Int32} (hC : gC N0 D cy p s m args c cc nL RX4) (hP : gP N0 D cy S H) (hS : va_S (fun q => N0 ≤ q) s.heap H locs) (hKa : gK S a = 3)  (hdg : decode cc pc = .ok (.putfield 27, 3)) (kk : ∀ (H1 : Heap) (locs1 : List Loc), gP N0 D cy (sI S a 1 v) H1 → H1.size = H.size → va_S (fun q => N0 ≤ q) s.heap H1 locs1 → W p l e R s m args below meth c H1 locs1 cells slots Q (F0 m (pc + 3) ls rest)) : W p l e R s m args below meth c H locs cells slots Q (F0 m pc ls (.int v :: .ref a :: rest)) := g_put (S2 := sI S a 1 v) hC hP hS (ci := 2) (k := 1) rfl (by decide) uW_X2 tyX2_ok nmX2 (by decide) fL_X4_27 (Or.inl rfl) rfl rfl hKa rfl (fun b hb => gE_sI hb) (gF_I (Or.inl rfl) (by decide)) hdg kk
theorem gt_X4_30 (hC : gC N0 D cy p s m args c cc nL RX4) (hP : gP N0 D cy S H) (hKa : gK S a = 3) (hdg : decode cc pc = .ok (.getfield 30, 3)) (kk : W p l e R s m args below meth c H locs cells slots Q (F0 m (pc + 3) ls (.int (gI S a 2) :: rest))) : W p l e R s m args below meth c H locs cells slots Q (F0 m pc ls (.ref a :: rest)) := g_get hC hP (ci := 2) (k := 2) rfl (by decide) uW_X2 (by decide) fL_X4_30 hKa hdg kk
theorem pt_X4_30 {v : Int32} (hC : gC N0 D cy p s m args c cc nL RX4) (hP : gP N0 D cy S H) (hS : va_S (fun q => N0 ≤ q) s.heap H locs) (hKa : gK S a = 3)  (hdg : decode cc pc = .ok (.putfield 30, 3)) (kk : ∀ (H1 : Heap) (locs1 : List Loc), gP N0 D cy (sI S a 2 v) H1 → H1.size = H.size → va_S (fun q => N0 ≤ q) s.heap H1 locs1 → W p l e R s m args below meth c H1 locs1 cells slots Q (F0 m (pc + 3) ls rest)) : W p l e R s m args below meth c H locs cells slots Q (F0 m pc ls (.int v :: .ref a :: rest)) := g_put (S2 := sI S a 2 v) hC hP hS (ci := 2) (k := 2) rfl (by decide) uW_X2 tyX2_ok nmX2 (by decide) fL_X4_30 (Or.inl rfl) rfl rfl hKa rfl (fun b hb => gE_sI hb) (gF_I (Or.inl rfl) (by decide)) hdg kk
theorem gt_X4_33 (hC : gC N0 D cy p s m args c cc nL RX4) (hP : gP N0 D cy S H) (hKa : gK S a = 3) (hdg : decode cc pc = .ok (.getfield 33, 3)) (kk : W p l e R s m args below meth c H locs cells slots Q (F0 m (pc + 3) ls (.int (gI S a 3) :: rest))) : W p l e R s m args below meth c H locs cells slots Q (F0 m pc ls (.ref a :: rest)) := g_get hC hP (ci := 2) (k := 3) rfl (by decide) uW_X2 (by decide) fL_X4_33 hKa hdg kk
theorem pt_X4_33 {v : Int32} (hC : gC N0 D cy p s m args c cc nL RX4) (hP : gP N0 D cy S H) (hS : va_S (fun q => N0 ≤ q) s.heap H locs) (hKa : gK S a = 3)  (hdg : decode cc pc = .ok (.putfield 33, 3)) (kk : ∀ (H1 : Heap) (locs1 : List Loc), gP N0 D cy (sI S a 3 v) H1 → H1.size = H.size → va_S (fun q => N0 ≤ q) s.heap H1 locs1 → W p l e R s m args below meth c H1 locs1 cells slots Q (F0 m (pc + 3) ls rest)) : W p l e R s m args below meth c H locs cells slots Q (F0 m pc ls (.int v :: .ref a :: rest)) := g_put (S2 := sI S a 3 v) hC hP hS (ci := 2) (k := 3) rfl (by decide) uW_X2 tyX2_ok nmX2 (by decide) fL_X4_33 (Or.inl rfl) rfl rfl hKa rfl (fun b hb => gE_sI hb) (gF_I (Or.inl rfl) (by decide)) hdg kk
theorem gt_X4_36 (hC : gC N0 D cy p s m args c cc nL RX4) (hP : gP N0 D cy S H) (hKa : gK S a = 3) (hdg : decode cc pc = .ok (.getfield 36, 3)) (kk : W p l e R s m args below meth c H locs cells slots Q (F0 m (pc + 3) ls (.int (gI S a 4) :: rest))) : W p l e R s m args below meth c H locs cells slots Q (F0 m pc ls (.ref a :: rest)) := g_get hC hP (ci := 2) (k := 4) rfl (by decide) uW_X2 (by decide) fL_X4_36 hKa hdg kk
theorem pt_X4_36 {v : Int32} (hC : gC N0 D cy p s m args c cc nL RX4) (hP : gP N0 D cy S H) (hS : va_S (fun q => N0 ≤ q) s.heap H locs) (hKa : gK S a = 3)  (hdg : decode cc pc = .ok (.putfield 36, 3)) (kk : ∀ (H1 : Heap) (locs1 : List Loc), gP N0 D cy (sI S a 4 v) H1 → H1.size = H.size → va_S (fun q => N0 ≤ q) s.heap H1 locs1 → W p l e R s m args below meth c H1 locs1 cells slots Q (F0 m (pc + 3) ls rest)) : W p l e R s m args below meth c H locs cells slots Q (F0 m pc ls (.int v :: .ref a :: rest)) := g_put (S2 := sI S a 4 v) hC hP hS (ci := 2) (k := 4) rfl (by decide) uW_X2 tyX2_ok nmX2 (by decide) fL_X4_36 (Or.inl rfl) rfl rfl hKa rfl (fun b hb => gE_sI hb) (gF_I (Or.inl rfl) (by decide)) hdg kk
theorem gt_X4_39 (hC : gC N0 D cy p s m args c cc nL RX4) (hP : gP N0 D cy S H) (hKa : gK S a = 3) (hdg : decode cc pc = .ok (.getfield 39, 3)) (kk : W p l e R s m args below meth c H locs cells slots Q (F0 m (pc + 3) ls (.int (gI S a 5) :: rest))) : W p l e R s m args below meth c H locs cells slots Q (F0 m pc ls (.ref a :: rest)) := g_get hC hP (ci := 2) (k := 5) rfl (by decide) uW_X2 (by decide) fL_X4_39 hKa hdg kk
theorem pt_X4_39 {v : Int32} (hC : gC N0 D cy p s m args c cc nL RX4) (hP : gP N0 D cy S H) (hS : va_S (fun q => N0 ≤ q) s.heap H locs) (hKa : gK S a = 3)  (hdg : decode cc pc = .ok (.putfield 39, 3)) (kk : ∀ (H1 : Heap) (locs1 : List Loc), gP N0 D cy (sI S a 5 v) H1 → H1.size = H.size → va_S (fun q => N0 ≤ q) s.heap H1 locs1 → W p l e R s m args below meth c H1 locs1 cells slots Q (F0 m (pc + 3) ls rest)) : W p l e R s m args below meth c H locs cells slots Q (F0 m pc ls (.int v :: .ref a :: rest)) := g_put (S2 := sI S a 5 v) hC hP hS (ci := 2) (k := 5) rfl (by decide) uW_X2 tyX2_ok nmX2 (by decide) fL_X4_39 (Or.inl rfl) rfl rfl hKa rfl (fun b hb => gE_sI hb) (gF_I (Or.inl rfl) (by decide)) hdg kk
theorem gt_X4_46 (hC : gC N0 D cy p s m args c cc nL RX4) (hP : gP N0 D cy S H) (hKa : gK S a = 3) {b : Nat} (hR : gR S a 6 = some b) (hdg : decode cc pc = .ok (.getfield 46, 3)) (kk : W p l e R s m args below meth c H locs cells slots Q (F0 m (pc + 3) ls (.ref b :: rest))) : W p l e R s m args below meth c H locs cells slots Q (F0 m pc ls (.ref a :: rest)) := g_get hC hP (ci := 2) (k := 6) rfl (by decide) uW_X2 (by decide) fL_X4_46 hKa hdg (by show W p l e R s m args below meth c H locs cells slots Q (F0 m (pc + 3) ls (va_rf (gR S a 6) :: rest)); rw [hR]; exact kk)
theorem gq_X4_46 (hC : gC N0 D cy p s m args c cc nL RX4) (hP : gP N0 D cy S H) (hKa : gK S a = 3) (hdg : decode cc pc = .ok (.getfield 46, 3)) (kn : gR S a 6 = none → W p l e R s m args below meth c H locs cells slots Q (F0 m (pc + 3) ls (.null :: rest))) (ks : ∀ b : Nat, gR S a 6 = some b → W p l e R s m args below meth c H locs cells slots Q (F0 m (pc + 3) ls (.ref b :: rest))) : W p l e R s m args below meth c H locs cells slots Q (F0 m pc ls (.ref a :: rest)) := g_get hC hP (ci := 2) (k := 6) rfl (by decide) uW_X2 (by decide) fL_X4_46 hKa hdg (by show W p l e R s m args below meth c H locs cells slots Q (F0 m (pc + 3) ls (va_rf (gR S a 6) :: rest)); cases hq : gR S a 6 with | none => exact kn hq | some b => exact ks b hq)
theorem pt_X4_46 {v : Option Nat} (hC : gC N0 D cy p s m args c cc nL RX4) (hP : gP N0 D cy S H) (hS : va_S (fun q => N0 ≤ q) s.heap H locs) (hKa : gK S a = 3)  (hdg : decode cc pc = .ok (.putfield 46, 3)) (kk : ∀ (H1 : Heap) (locs1 : List Loc), gP N0 D cy (sR S a 6 v) H1 → H1.size = H.size → va_S (fun q => N0 ≤ q) s.heap H1 locs1 → W p l e R s m args below meth c H1 locs1 cells slots Q (F0 m (pc + 3) ls rest)) : W p l e R s m args below meth c H locs cells slots Q (F0 m pc ls (va_rf v :: .ref a :: rest)) := g_put (S2 := sR S a 6 v) hC hP hS (ci := 2) (k := 6) rfl (by decide) uW_X2 tyX2_ok nmX2 (by decide) fL_X4_46 (Or.inl rfl) (by cases v <;> rfl) (by cases v <;> rfl) hKa rfl (fun b hb => gE_sR hb) (gF_R rfl (by decide)) hdg kk
theorem gt_X4_50 (hC : gC N0 D cy p s m args c cc nL RX4) (hP : gP N0 D cy S H) (hKa : gK S a = 3) {b : Nat} (hR : gR S a 7 = some b) (hdg : decode cc pc = .ok (.getfield 50, 3)) (kk : W p l e R s m args below meth c H locs cells slots Q (F0 m (pc + 3) ls (.ref b :: rest))) : W p l e R s m args below meth c H locs cells slots Q (F0 m pc ls (.ref a :: rest)) := g_get hC hP (ci := 2) (k := 7) rfl (by decide) uW_X2 (by decide) fL_X4_50 hKa hdg (by show W p l e R s m args below meth c H locs cells slots Q (F0 m (pc + 3) ls (va_rf (gR S a 7) :: rest)); rw [hR]; exact kk)
theorem gq_X4_50 (hC : gC N0 D cy p s m args c cc nL RX4) (hP : gP N0 D cy S H) (hKa : gK S a = 3) (hdg : decode cc pc = .ok (.getfield 50, 3)) (kn : gR S a 7 = none → W p l e R s m args below meth c H locs cells slots Q (F0 m (pc + 3) ls (.null :: rest))) (ks : ∀ b : Nat, gR S a 7 = some b → W p l e R s m args below meth c H locs cells slots Q (F0 m (pc + 3) ls (.ref b :: rest))) : W p l e R s m args below meth c H locs cells slots Q (F0 m pc ls (.ref a :: rest)) := g_get hC hP (ci := 2) (k := 7) rfl (by decide) uW_X2 (by decide) fL_X4_50 hKa hdg (by show W p l e R s m args below meth c H locs cells slots Q (F0 m (pc + 3) ls (va_rf (gR S a 7) :: rest)); cases hq : gR S a 7 with | none => exact kn hq | some b => exact ks b hq)
theorem gt_X5_7 (hC : gC N0 D cy p s m args c cc nL RX5) (hP : gP N0 D cy S H) (hKa : gK S a = 6) (hdg : decode cc pc = .ok (.getfield 7, 3)) (kk : W p l e R s m args below meth c H locs cells slots Q (F0 m (pc + 3) ls (.int (gI S a 0) :: rest))) : W p l e R s m args below meth c H locs cells slots Q (F0 m pc ls (.ref a :: rest)) := g_get hC hP (ci := 5) (k := 0) rfl (by decide) uW_X5 (by decide) fL_X5_7 hKa hdg kk
theorem pt_X5_7 {v : Int32} (hC : gC N0 D cy p s m args c cc nL RX5) (hP : gP N0 D cy S H) (hS : va_S (fun q => N0 ≤ q) s.heap H locs) (hKa : gK S a = 6) (hin : meth.name = "<init>")  (hdg : decode cc pc = .ok (.putfield 7, 3)) (kk : ∀ (H1 : Heap) (locs1 : List Loc), gP N0 D cy (sI S a 0 v) H1 → H1.size = H.size → va_S (fun q => N0 ≤ q) s.heap H1 locs1 → W p l e R s m args below meth c H1 locs1 cells slots Q (F0 m (pc + 3) ls rest)) : W p l e R s m args below meth c H locs cells slots Q (F0 m pc ls (.int v :: .ref a :: rest)) := g_put (S2 := sI S a 0 v) hC hP hS (ci := 5) (k := 0) rfl (by decide) uW_X5 tyX5_ok nmX5 (by decide) fL_X5_7 (Or.inr ⟨hin, rfl, rfl⟩) rfl rfl hKa rfl (fun b hb => gE_sI hb) (gF_I (Or.inl rfl) (by decide)) hdg kk
theorem gt_X5_13 (hC : gC N0 D cy p s m args c cc nL RX5) (hP : gP N0 D cy S H) (hKa : gK S a = 6) (hdg : decode cc pc = .ok (.getfield 13, 3)) (kk : W p l e R s m args below meth c H locs cells slots Q (F0 m (pc + 3) ls (.int (gI S a 1) :: rest))) : W p l e R s m args below meth c H locs cells slots Q (F0 m pc ls (.ref a :: rest)) := g_get hC hP (ci := 5) (k := 1) rfl (by decide) uW_X5 (by decide) fL_X5_13 hKa hdg kk
theorem pt_X5_13 {v : Int32} (hC : gC N0 D cy p s m args c cc nL RX5) (hP : gP N0 D cy S H) (hS : va_S (fun q => N0 ≤ q) s.heap H locs) (hKa : gK S a = 6) (hin : meth.name = "<init>")  (hdg : decode cc pc = .ok (.putfield 13, 3)) (kk : ∀ (H1 : Heap) (locs1 : List Loc), gP N0 D cy (sI S a 1 v) H1 → H1.size = H.size → va_S (fun q => N0 ≤ q) s.heap H1 locs1 → W p l e R s m args below meth c H1 locs1 cells slots Q (F0 m (pc + 3) ls rest)) : W p l e R s m args below meth c H locs cells slots Q (F0 m pc ls (.int v :: .ref a :: rest)) := g_put (S2 := sI S a 1 v) hC hP hS (ci := 5) (k := 1) rfl (by decide) uW_X5 tyX5_ok nmX5 (by decide) fL_X5_13 (Or.inr ⟨hin, rfl, rfl⟩) rfl rfl hKa rfl (fun b hb => gE_sI hb) (gF_I (Or.inl rfl) (by decide)) hdg kk
theorem gt_X5_16 (hC : gC N0 D cy p s m args c cc nL RX5) (hP : gP N0 D cy S H) (hKa : gK S a = 6) (hdg : decode cc pc = .ok (.getfield 16, 3)) (kk : W p l e R s m args below meth c H locs cells slots Q (F0 m (pc + 3) ls (.int (gI S a 2) :: rest))) : W p l e R s m args below meth c H locs cells slots Q (F0 m pc ls (.ref a :: rest)) := g_get hC hP (ci := 5) (k := 2) rfl (by decide) uW_X5 (by decide) fL_X5_16 hKa hdg kk
theorem pt_X5_16 {v : Int32} (hC : gC N0 D cy p s m args c cc nL RX5) (hP : gP N0 D cy S H) (hS : va_S (fun q => N0 ≤ q) s.heap H locs) (hKa : gK S a = 6) (hin : meth.name = "<init>")  (hdg : decode cc pc = .ok (.putfield 16, 3)) (kk : ∀ (H1 : Heap) (locs1 : List Loc), gP N0 D cy (sI S a 2 v) H1 → H1.size = H.size → va_S (fun q => N0 ≤ q) s.heap H1 locs1 → W p l e R s m args below meth c H1 locs1 cells slots Q (F0 m (pc + 3) ls rest)) : W p l e R s m args below meth c H locs cells slots Q (F0 m pc ls (.int v :: .ref a :: rest)) := g_put (S2 := sI S a 2 v) hC hP hS (ci := 5) (k := 2) rfl (by decide) uW_X5 tyX5_ok nmX5 (by decide) fL_X5_16 (Or.inr ⟨hin, rfl, rfl⟩) rfl rfl hKa rfl (fun b hb => gE_sI hb) (gF_I (Or.inl rfl) (by decide)) hdg kk
theorem gt_X5_19 (hC : gC N0 D cy p s m args c cc nL RX5) (hP : gP N0 D cy S H) (hKa : gK S a = 6) (hdg : decode cc pc = .ok (.getfield 19, 3)) (kk : W p l e R s m args below meth c H locs cells slots Q (F0 m (pc + 3) ls (.long (gJ S a 3) :: rest))) : W p l e R s m args below meth c H locs cells slots Q (F0 m pc ls (.ref a :: rest)) := g_get hC hP (ci := 5) (k := 3) rfl (by decide) uW_X5 (by decide) fL_X5_19 hKa hdg kk
theorem pt_X5_19 {v : Int64} (hC : gC N0 D cy p s m args c cc nL RX5) (hP : gP N0 D cy S H) (hS : va_S (fun q => N0 ≤ q) s.heap H locs) (hKa : gK S a = 6) (hin : meth.name = "<init>")  (hdg : decode cc pc = .ok (.putfield 19, 3)) (kk : ∀ (H1 : Heap) (locs1 : List Loc), gP N0 D cy (sJ S a 3 v) H1 → H1.size = H.size → va_S (fun q => N0 ≤ q) s.heap H1 locs1 → W p l e R s m args below meth c H1 locs1 cells slots Q (F0 m (pc + 3) ls rest)) : W p l e R s m args below meth c H locs cells slots Q (F0 m pc ls (.long v :: .ref a :: rest)) := g_put (S2 := sJ S a 3 v) hC hP hS (ci := 5) (k := 3) rfl (by decide) uW_X5 tyX5_ok nmX5 (by decide) fL_X5_19 (Or.inr ⟨hin, rfl, rfl⟩) rfl rfl hKa rfl (fun b hb => gE_sJ hb) (gF_J rfl (by decide)) hdg kk
theorem gt_X6_11 (hC : gC N0 D cy p s m args c cc nL RX6) (hP : gP N0 D cy S H) (hKa : gK S a = 7) {b : Nat} (hR : gR S a 0 = some b) (hdg : decode cc pc = .ok (.getfield 11, 3)) (kk : W p l e R s m args below meth c H locs cells slots Q (F0 m (pc + 3) ls (.ref b :: rest))) : W p l e R s m args below meth c H locs cells slots Q (F0 m pc ls (.ref a :: rest)) := g_get hC hP (ci := 6) (k := 0) rfl (by decide) uW_X6 (by decide) fL_X6_11 hKa hdg (by show W p l e R s m args below meth c H locs cells slots Q (F0 m (pc + 3) ls (va_rf (gR S a 0) :: rest)); rw [hR]; exact kk)
theorem gq_X6_11 (hC : gC N0 D cy p s m args c cc nL RX6) (hP : gP N0 D cy S H) (hKa : gK S a = 7) (hdg : decode cc pc = .ok (.getfield 11, 3)) (kn : gR S a 0 = none → W p l e R s m args below meth c H locs cells slots Q (F0 m (pc + 3) ls (.null :: rest))) (ks : ∀ b : Nat, gR S a 0 = some b → W p l e R s m args below meth c H locs cells slots Q (F0 m (pc + 3) ls (.ref b :: rest))) : W p l e R s m args below meth c H locs cells slots Q (F0 m pc ls (.ref a :: rest)) := g_get hC hP (ci := 6) (k := 0) rfl (by decide) uW_X6 (by decide) fL_X6_11 hKa hdg (by show W p l e R s m args below meth c H locs cells slots Q (F0 m (pc + 3) ls (va_rf (gR S a 0) :: rest)); cases hq : gR S a 0 with | none => exact kn hq | some b => exact ks b hq)
theorem pt_X6_11 {v : Option Nat} (hC : gC N0 D cy p s m args c cc nL RX6) (hP : gP N0 D cy S H) (hS : va_S (fun q => N0 ≤ q) s.heap H locs) (hKa : gK S a = 7) (hin : meth.name = "<init>")  (hdg : decode cc pc = .ok (.putfield 11, 3)) (kk : ∀ (H1 : Heap) (locs1 : List Loc), gP N0 D cy (sR S a 0 v) H1 → H1.size = H.size → va_S (fun q => N0 ≤ q) s.heap H1 locs1 → W p l e R s m args below meth c H1 locs1 cells slots Q (F0 m (pc + 3) ls rest)) : W p l e R s m args below meth c H locs cells slots Q (F0 m pc ls (va_rf v :: .ref a :: rest)) := g_put (S2 := sR S a 0 v) hC hP hS (ci := 6) (k := 0) rfl (by decide) uW_X6 tyX6_ok nmX6 (by decide) fL_X6_11 (Or.inr ⟨hin, rfl, rfl⟩) (by cases v <;> rfl) (by cases v <;> rfl) hKa rfl (fun b hb => gE_sR hb) (gF_R rfl (by decide)) hdg kk
theorem gt_X6_17 (hC : gC N0 D cy p s m args c cc nL RX6) (hP : gP N0 D cy S H) (hKa : gK S a = 7) {b : Nat} (hR : gR S a 1 = some b) (hdg : decode cc pc = .ok (.getfield 17, 3)) (kk : W p l e R s m args below meth c H locs cells slots Q (F0 m (pc + 3) ls (.ref b :: rest))) : W p l e R s m args below meth c H locs cells slots Q (F0 m pc ls (.ref a :: rest)) := g_get hC hP (ci := 6) (k := 1) rfl (by decide) uW_X6 (by decide) fL_X6_17 hKa hdg (by show W p l e R s m args below meth c H locs cells slots Q (F0 m (pc + 3) ls (va_rf (gR S a 1) :: rest)); rw [hR]; exact kk)
theorem gq_X6_17 (hC : gC N0 D cy p s m args c cc nL RX6) (hP : gP N0 D cy S H) (hKa : gK S a = 7) (hdg : decode cc pc = .ok (.getfield 17, 3)) (kn : gR S a 1 = none → W p l e R s m args below meth c H locs cells slots Q (F0 m (pc + 3) ls (.null :: rest))) (ks : ∀ b : Nat, gR S a 1 = some b → W p l e R s m args below meth c H locs cells slots Q (F0 m (pc + 3) ls (.ref b :: rest))) : W p l e R s m args below meth c H locs cells slots Q (F0 m pc ls (.ref a :: rest)) := g_get hC hP (ci := 6) (k := 1) rfl (by decide) uW_X6 (by decide) fL_X6_17 hKa hdg (by show W p l e R s m args below meth c H locs cells slots Q (F0 m (pc + 3) ls (va_rf (gR S a 1) :: rest)); cases hq : gR S a 1 with | none => exact kn hq | some b => exact ks b hq)
theorem pt_X6_17 {v : Option Nat} (hC : gC N0 D cy p s m args c cc nL RX6) (hP : gP N0 D cy S H) (hS : va_S (fun q => N0 ≤ q) s.heap H locs) (hKa : gK S a = 7) (hin : meth.name = "<init>")  (hdg : decode cc pc = .ok (.putfield 17, 3)) (kk : ∀ (H1 : Heap) (locs1 : List Loc), gP N0 D cy (sR S a 1 v) H1 → H1.size = H.size → va_S (fun q => N0 ≤ q) s.heap H1 locs1 → W p l e R s m args below meth c H1 locs1 cells slots Q (F0 m (pc + 3) ls rest)) : W p l e R s m args below meth c H locs cells slots Q (F0 m pc ls (va_rf v :: .ref a :: rest)) := g_put (S2 := sR S a 1 v) hC hP hS (ci := 6) (k := 1) rfl (by decide) uW_X6 tyX6_ok nmX6 (by decide) fL_X6_17 (Or.inr ⟨hin, rfl, rfl⟩) (by cases v <;> rfl) (by cases v <;> rfl) hKa rfl (fun b hb => gE_sR hb) (gF_R rfl (by decide)) hdg kk
theorem gt_X6_26 (hC : gC N0 D cy p s m args c cc nL RX6) (hP : gP N0 D cy S H) (hKa : gK S a = 7) {b : Nat} (hR : gR S a 2 = some b) (hdg : decode cc pc = .ok (.getfield 26, 3)) (kk : W p l e R s m args below meth c H locs cells slots Q (F0 m (pc + 3) ls (.ref b :: rest))) : W p l e R s m args below meth c H locs cells slots Q (F0 m pc ls (.ref a :: rest)) := g_get hC hP (ci := 6) (k := 2) rfl (by decide) uW_X6 (by decide) fL_X6_26 hKa hdg (by show W p l e R s m args below meth c H locs cells slots Q (F0 m (pc + 3) ls (va_rf (gR S a 2) :: rest)); rw [hR]; exact kk)
theorem gq_X6_26 (hC : gC N0 D cy p s m args c cc nL RX6) (hP : gP N0 D cy S H) (hKa : gK S a = 7) (hdg : decode cc pc = .ok (.getfield 26, 3)) (kn : gR S a 2 = none → W p l e R s m args below meth c H locs cells slots Q (F0 m (pc + 3) ls (.null :: rest))) (ks : ∀ b : Nat, gR S a 2 = some b → W p l e R s m args below meth c H locs cells slots Q (F0 m (pc + 3) ls (.ref b :: rest))) : W p l e R s m args below meth c H locs cells slots Q (F0 m pc ls (.ref a :: rest)) := g_get hC hP (ci := 6) (k := 2) rfl (by decide) uW_X6 (by decide) fL_X6_26 hKa hdg (by show W p l e R s m args below meth c H locs cells slots Q (F0 m (pc + 3) ls (va_rf (gR S a 2) :: rest)); cases hq : gR S a 2 with | none => exact kn hq | some b => exact ks b hq)
theorem pt_X6_26 {v : Option Nat} (hC : gC N0 D cy p s m args c cc nL RX6) (hP : gP N0 D cy S H) (hS : va_S (fun q => N0 ≤ q) s.heap H locs) (hKa : gK S a = 7) (hin : meth.name = "<init>")  (hdg : decode cc pc = .ok (.putfield 26, 3)) (kk : ∀ (H1 : Heap) (locs1 : List Loc), gP N0 D cy (sR S a 2 v) H1 → H1.size = H.size → va_S (fun q => N0 ≤ q) s.heap H1 locs1 → W p l e R s m args below meth c H1 locs1 cells slots Q (F0 m (pc + 3) ls rest)) : W p l e R s m args below meth c H locs cells slots Q (F0 m pc ls (va_rf v :: .ref a :: rest)) := g_put (S2 := sR S a 2 v) hC hP hS (ci := 6) (k := 2) rfl (by decide) uW_X6 tyX6_ok nmX6 (by decide) fL_X6_26 (Or.inr ⟨hin, rfl, rfl⟩) (by cases v <;> rfl) (by cases v <;> rfl) hKa rfl (fun b hb => gE_sR hb) (gF_R rfl (by decide)) hdg kk
theorem gt_X6_35 (hC : gC N0 D cy p s m args c cc nL RX6) (hP : gP N0 D cy S H) (hKa : gK S a = 7) {b : Nat} (hR : gR S a 3 = some b) (hdg : decode cc pc = .ok (.getfield 35, 3)) (kk : W p l e R s m args below meth c H locs cells slots Q (F0 m (pc + 3) ls (.ref b :: rest))) : W p l e R s m args below meth c H locs cells slots Q (F0 m pc ls (.ref a :: rest)) := g_get hC hP (ci := 6) (k := 3) rfl (by decide) uW_X6 (by decide) fL_X6_35 hKa hdg (by show W p l e R s m args below meth c H locs cells slots Q (F0 m (pc + 3) ls (va_rf (gR S a 3) :: rest)); rw [hR]; exact kk)
theorem gq_X6_35 (hC : gC N0 D cy p s m args c cc nL RX6) (hP : gP N0 D cy S H) (hKa : gK S a = 7) (hdg : decode cc pc = .ok (.getfield 35, 3)) (kn : gR S a 3 = none → W p l e R s m args below meth c H locs cells slots Q (F0 m (pc + 3) ls (.null :: rest))) (ks : ∀ b : Nat, gR S a 3 = some b → W p l e R s m args below meth c H locs cells slots Q (F0 m (pc + 3) ls (.ref b :: rest))) : W p l e R s m args below meth c H locs cells slots Q (F0 m pc ls (.ref a :: rest)) := g_get hC hP (ci := 6) (k := 3) rfl (by decide) uW_X6 (by decide) fL_X6_35 hKa hdg (by show W p l e R s m args below meth c H locs cells slots Q (F0 m (pc + 3) ls (va_rf (gR S a 3) :: rest)); cases hq : gR S a 3 with | none => exact kn hq | some b => exact ks b hq)
theorem pt_X6_35 {v : Option Nat} (hC : gC N0 D cy p s m args c cc nL RX6) (hP : gP N0 D cy S H) (hS : va_S (fun q => N0 ≤ q) s.heap H locs) (hKa : gK S a = 7) (hin : meth.name = "<init>")  (hdg : decode cc pc = .ok (.putfield 35, 3)) (kk : ∀ (H1 : Heap) (locs1 : List Loc), gP N0 D cy (sR S a 3 v) H1 → H1.size = H.size → va_S (fun q => N0 ≤ q) s.heap H1 locs1 → W p l e R s m args below meth c H1 locs1 cells slots Q (F0 m (pc + 3) ls rest)) : W p l e R s m args below meth c H locs cells slots Q (F0 m pc ls (va_rf v :: .ref a :: rest)) := g_put (S2 := sR S a 3 v) hC hP hS (ci := 6) (k := 3) rfl (by decide) uW_X6 tyX6_ok nmX6 (by decide) fL_X6_35 (Or.inr ⟨hin, rfl, rfl⟩) (by cases v <;> rfl) (by cases v <;> rfl) hKa rfl (fun b hb => gE_sR hb) (gF_R rfl (by decide)) hdg kk
theorem gt_X6_61 (hC : gC N0 D cy p s m args c cc nL RX6) (hP : gP N0 D cy S H) (hKa : gK S a = 2) (hdg : decode cc pc = .ok (.getfield 61, 3)) (kk : W p l e R s m args below meth c H locs cells slots Q (F0 m (pc + 3) ls (.long (gJ S a 2) :: rest))) : W p l e R s m args below meth c H locs cells slots Q (F0 m pc ls (.ref a :: rest)) := g_get hC hP (ci := 1) (k := 2) rfl (by decide) uW_X1 (by decide) fL_X6_61 hKa hdg kk
theorem pt_X6_61 {v : Int64} (hC : gC N0 D cy p s m args c cc nL RX6) (hP : gP N0 D cy S H) (hS : va_S (fun q => N0 ≤ q) s.heap H locs) (hKa : gK S a = 2)  (hdg : decode cc pc = .ok (.putfield 61, 3)) (kk : ∀ (H1 : Heap) (locs1 : List Loc), gP N0 D cy (sJ S a 2 v) H1 → H1.size = H.size → va_S (fun q => N0 ≤ q) s.heap H1 locs1 → W p l e R s m args below meth c H1 locs1 cells slots Q (F0 m (pc + 3) ls rest)) : W p l e R s m args below meth c H locs cells slots Q (F0 m pc ls (.long v :: .ref a :: rest)) := g_put (S2 := sJ S a 2 v) hC hP hS (ci := 1) (k := 2) rfl (by decide) uW_X1 tyX1_ok nmX1 (by decide) fL_X6_61 (Or.inl rfl) rfl rfl hKa rfl (fun b hb => gE_sJ hb) (gF_J rfl (by decide)) hdg kk
theorem gt_X6_69 (hC : gC N0 D cy p s m args c cc nL RX6) (hP : gP N0 D cy S H) (hKa : gK S a = 2) (hdg : decode cc pc = .ok (.getfield 69, 3)) (kk : W p l e R s m args below meth c H locs cells slots Q (F0 m (pc + 3) ls (.int (gI S a 3) :: rest))) : W p l e R s m args below meth c H locs cells slots Q (F0 m pc ls (.ref a :: rest)) := g_get hC hP (ci := 1) (k := 3) rfl (by decide) uW_X1 (by decide) fL_X6_69 hKa hdg kk
theorem pt_X6_69 {v : Int32} (hC : gC N0 D cy p s m args c cc nL RX6) (hP : gP N0 D cy S H) (hS : va_S (fun q => N0 ≤ q) s.heap H locs) (hKa : gK S a = 2)  (hdg : decode cc pc = .ok (.putfield 69, 3)) (kk : ∀ (H1 : Heap) (locs1 : List Loc), gP N0 D cy (sI S a 3 v) H1 → H1.size = H.size → va_S (fun q => N0 ≤ q) s.heap H1 locs1 → W p l e R s m args below meth c H1 locs1 cells slots Q (F0 m (pc + 3) ls rest)) : W p l e R s m args below meth c H locs cells slots Q (F0 m pc ls (.int v :: .ref a :: rest)) := g_put (S2 := sI S a 3 v) hC hP hS (ci := 1) (k := 3) rfl (by decide) uW_X1 tyX1_ok nmX1 (by decide) fL_X6_69 (Or.inl rfl) rfl rfl hKa rfl (fun b hb => gE_sI hb) (gF_I (Or.inl rfl) (by decide)) hdg kk
theorem gt_X6_93 (hC : gC N0 D cy p s m args c cc nL RX6) (hP : gP N0 D cy S H) (hKa : gK S a = 4) (hdg : decode cc pc = .ok (.getfield 93, 3)) (kk : W p l e R s m args below meth c H locs cells slots Q (F0 m (pc + 3) ls (.int (gI S a 0) :: rest))) : W p l e R s m args below meth c H locs cells slots Q (F0 m pc ls (.ref a :: rest)) := g_get hC hP (ci := 3) (k := 0) rfl (by decide) uW_X3 (by decide) fL_X6_93 hKa hdg kk
theorem pt_X6_93 {v : Int32} (hC : gC N0 D cy p s m args c cc nL RX6) (hP : gP N0 D cy S H) (hS : va_S (fun q => N0 ≤ q) s.heap H locs) (hKa : gK S a = 4)  (hv : v = 0 ∨ v = 1) (hdg : decode cc pc = .ok (.putfield 93, 3)) (kk : ∀ (H1 : Heap) (locs1 : List Loc), gP N0 D cy (sI S a 0 v) H1 → H1.size = H.size → va_S (fun q => N0 ≤ q) s.heap H1 locs1 → W p l e R s m args below meth c H1 locs1 cells slots Q (F0 m (pc + 3) ls rest)) : W p l e R s m args below meth c H locs cells slots Q (F0 m pc ls (.int v :: .ref a :: rest)) := g_put (S2 := sI S a 0 v) hC hP hS (ci := 3) (k := 0) rfl (by decide) uW_X3 tyX3_ok nmX3 (by decide) fL_X6_93 (Or.inl rfl) (by rcases hv with rfl | rfl <;> rfl) (by rcases hv with rfl | rfl <;> rfl) hKa rfl (fun b hb => gE_sI hb) (gF_I (Or.inr rfl) (by decide)) hdg kk
theorem gt_X6_97 (hC : gC N0 D cy p s m args c cc nL RX6) (hP : gP N0 D cy S H) (hKa : gK S a = 5) (hdg : decode cc pc = .ok (.getfield 97, 3)) (kk : W p l e R s m args below meth c H locs cells slots Q (F0 m (pc + 3) ls (.int (gI S a 1) :: rest))) : W p l e R s m args below meth c H locs cells slots Q (F0 m pc ls (.ref a :: rest)) := g_get hC hP (ci := 4) (k := 1) rfl (by decide) uW_X4 (by decide) fL_X6_97 hKa hdg kk
theorem pt_X6_97 {v : Int32} (hC : gC N0 D cy p s m args c cc nL RX6) (hP : gP N0 D cy S H) (hS : va_S (fun q => N0 ≤ q) s.heap H locs) (hKa : gK S a = 5)  (hdg : decode cc pc = .ok (.putfield 97, 3)) (kk : ∀ (H1 : Heap) (locs1 : List Loc), gP N0 D cy (sI S a 1 v) H1 → H1.size = H.size → va_S (fun q => N0 ≤ q) s.heap H1 locs1 → W p l e R s m args below meth c H1 locs1 cells slots Q (F0 m (pc + 3) ls rest)) : W p l e R s m args below meth c H locs cells slots Q (F0 m pc ls (.int v :: .ref a :: rest)) := g_put (S2 := sI S a 1 v) hC hP hS (ci := 4) (k := 1) rfl (by decide) uW_X4 tyX4_ok nmX4 (by decide) fL_X6_97 (Or.inl rfl) rfl rfl hKa rfl (fun b hb => gE_sI hb) (gF_I (Or.inl rfl) (by decide)) hdg kk
theorem gt_X6_119 (hC : gC N0 D cy p s m args c cc nL RX6) (hP : gP N0 D cy S H) (hKa : gK S a = 3) (hdg : decode cc pc = .ok (.getfield 119, 3)) (kk : W p l e R s m args below meth c H locs cells slots Q (F0 m (pc + 3) ls (.int (gI S a 1) :: rest))) : W p l e R s m args below meth c H locs cells slots Q (F0 m pc ls (.ref a :: rest)) := g_get hC hP (ci := 2) (k := 1) rfl (by decide) uW_X2 (by decide) fL_X6_119 hKa hdg kk
theorem pt_X6_119 {v : Int32} (hC : gC N0 D cy p s m args c cc nL RX6) (hP : gP N0 D cy S H) (hS : va_S (fun q => N0 ≤ q) s.heap H locs) (hKa : gK S a = 3)  (hdg : decode cc pc = .ok (.putfield 119, 3)) (kk : ∀ (H1 : Heap) (locs1 : List Loc), gP N0 D cy (sI S a 1 v) H1 → H1.size = H.size → va_S (fun q => N0 ≤ q) s.heap H1 locs1 → W p l e R s m args below meth c H1 locs1 cells slots Q (F0 m (pc + 3) ls rest)) : W p l e R s m args below meth c H locs cells slots Q (F0 m pc ls (.int v :: .ref a :: rest)) := g_put (S2 := sI S a 1 v) hC hP hS (ci := 2) (k := 1) rfl (by decide) uW_X2 tyX2_ok nmX2 (by decide) fL_X6_119 (Or.inl rfl) rfl rfl hKa rfl (fun b hb => gE_sI hb) (gF_I (Or.inl rfl) (by decide)) hdg kk
theorem gt_X6_141 (hC : gC N0 D cy p s m args c cc nL RX6) (hP : gP N0 D cy S H) (hKa : gK S a = 3) (hdg : decode cc pc = .ok (.getfield 141, 3)) (kk : W p l e R s m args below meth c H locs cells slots Q (F0 m (pc + 3) ls (.int (gI S a 0) :: rest))) : W p l e R s m args below meth c H locs cells slots Q (F0 m pc ls (.ref a :: rest)) := g_get hC hP (ci := 2) (k := 0) rfl (by decide) uW_X2 (by decide) fL_X6_141 hKa hdg kk
theorem pt_X6_141 {v : Int32} (hC : gC N0 D cy p s m args c cc nL RX6) (hP : gP N0 D cy S H) (hS : va_S (fun q => N0 ≤ q) s.heap H locs) (hKa : gK S a = 3)  (hdg : decode cc pc = .ok (.putfield 141, 3)) (kk : ∀ (H1 : Heap) (locs1 : List Loc), gP N0 D cy (sI S a 0 v) H1 → H1.size = H.size → va_S (fun q => N0 ≤ q) s.heap H1 locs1 → W p l e R s m args below meth c H1 locs1 cells slots Q (F0 m (pc + 3) ls rest)) : W p l e R s m args below meth c H locs cells slots Q (F0 m pc ls (.int v :: .ref a :: rest)) := g_put (S2 := sI S a 0 v) hC hP hS (ci := 2) (k := 0) rfl (by decide) uW_X2 tyX2_ok nmX2 (by decide) fL_X6_141 (Or.inl rfl) rfl rfl hKa rfl (fun b hb => gE_sI hb) (gF_I (Or.inl rfl) (by decide)) hdg kk
theorem gt_X6_144 (hC : gC N0 D cy p s m args c cc nL RX6) (hP : gP N0 D cy S H) (hKa : gK S a = 3) (hdg : decode cc pc = .ok (.getfield 144, 3)) (kk : W p l e R s m args below meth c H locs cells slots Q (F0 m (pc + 3) ls (.int (gI S a 2) :: rest))) : W p l e R s m args below meth c H locs cells slots Q (F0 m pc ls (.ref a :: rest)) := g_get hC hP (ci := 2) (k := 2) rfl (by decide) uW_X2 (by decide) fL_X6_144 hKa hdg kk
theorem pt_X6_144 {v : Int32} (hC : gC N0 D cy p s m args c cc nL RX6) (hP : gP N0 D cy S H) (hS : va_S (fun q => N0 ≤ q) s.heap H locs) (hKa : gK S a = 3)  (hdg : decode cc pc = .ok (.putfield 144, 3)) (kk : ∀ (H1 : Heap) (locs1 : List Loc), gP N0 D cy (sI S a 2 v) H1 → H1.size = H.size → va_S (fun q => N0 ≤ q) s.heap H1 locs1 → W p l e R s m args below meth c H1 locs1 cells slots Q (F0 m (pc + 3) ls rest)) : W p l e R s m args below meth c H locs cells slots Q (F0 m pc ls (.int v :: .ref a :: rest)) := g_put (S2 := sI S a 2 v) hC hP hS (ci := 2) (k := 2) rfl (by decide) uW_X2 tyX2_ok nmX2 (by decide) fL_X6_144 (Or.inl rfl) rfl rfl hKa rfl (fun b hb => gE_sI hb) (gF_I (Or.inl rfl) (by decide)) hdg kk
theorem gt_X6_147 (hC : gC N0 D cy p s m args c cc nL RX6) (hP : gP N0 D cy S H) (hKa : gK S a = 3) (hdg : decode cc pc = .ok (.getfield 147, 3)) (kk : W p l e R s m args below meth c H locs cells slots Q (F0 m (pc + 3) ls (.int (gI S a 3) :: rest))) : W p l e R s m args below meth c H locs cells slots Q (F0 m pc ls (.ref a :: rest)) := g_get hC hP (ci := 2) (k := 3) rfl (by decide) uW_X2 (by decide) fL_X6_147 hKa hdg kk
theorem pt_X6_147 {v : Int32} (hC : gC N0 D cy p s m args c cc nL RX6) (hP : gP N0 D cy S H) (hS : va_S (fun q => N0 ≤ q) s.heap H locs) (hKa : gK S a = 3)  (hdg : decode cc pc = .ok (.putfield 147, 3)) (kk : ∀ (H1 : Heap) (locs1 : List Loc), gP N0 D cy (sI S a 3 v) H1 → H1.size = H.size → va_S (fun q => N0 ≤ q) s.heap H1 locs1 → W p l e R s m args below meth c H1 locs1 cells slots Q (F0 m (pc + 3) ls rest)) : W p l e R s m args below meth c H locs cells slots Q (F0 m pc ls (.int v :: .ref a :: rest)) := g_put (S2 := sI S a 3 v) hC hP hS (ci := 2) (k := 3) rfl (by decide) uW_X2 tyX2_ok nmX2 (by decide) fL_X6_147 (Or.inl rfl) rfl rfl hKa rfl (fun b hb => gE_sI hb) (gF_I (Or.inl rfl) (by decide)) hdg kk
theorem gt_X6_150 (hC : gC N0 D cy p s m args c cc nL RX6) (hP : gP N0 D cy S H) (hKa : gK S a = 3) (hdg : decode cc pc = .ok (.getfield 150, 3)) (kk : W p l e R s m args below meth c H locs cells slots Q (F0 m (pc + 3) ls (.int (gI S a 4) :: rest))) : W p l e R s m args below meth c H locs cells slots Q (F0 m pc ls (.ref a :: rest)) := g_get hC hP (ci := 2) (k := 4) rfl (by decide) uW_X2 (by decide) fL_X6_150 hKa hdg kk
theorem pt_X6_150 {v : Int32} (hC : gC N0 D cy p s m args c cc nL RX6) (hP : gP N0 D cy S H) (hS : va_S (fun q => N0 ≤ q) s.heap H locs) (hKa : gK S a = 3)  (hdg : decode cc pc = .ok (.putfield 150, 3)) (kk : ∀ (H1 : Heap) (locs1 : List Loc), gP N0 D cy (sI S a 4 v) H1 → H1.size = H.size → va_S (fun q => N0 ≤ q) s.heap H1 locs1 → W p l e R s m args below meth c H1 locs1 cells slots Q (F0 m (pc + 3) ls rest)) : W p l e R s m args below meth c H locs cells slots Q (F0 m pc ls (.int v :: .ref a :: rest)) := g_put (S2 := sI S a 4 v) hC hP hS (ci := 2) (k := 4) rfl (by decide) uW_X2 tyX2_ok nmX2 (by decide) fL_X6_150 (Or.inl rfl) rfl rfl hKa rfl (fun b hb => gE_sI hb) (gF_I (Or.inl rfl) (by decide)) hdg kk
theorem gt_X6_153 (hC : gC N0 D cy p s m args c cc nL RX6) (hP : gP N0 D cy S H) (hKa : gK S a = 3) (hdg : decode cc pc = .ok (.getfield 153, 3)) (kk : W p l e R s m args below meth c H locs cells slots Q (F0 m (pc + 3) ls (.int (gI S a 5) :: rest))) : W p l e R s m args below meth c H locs cells slots Q (F0 m pc ls (.ref a :: rest)) := g_get hC hP (ci := 2) (k := 5) rfl (by decide) uW_X2 (by decide) fL_X6_153 hKa hdg kk
theorem pt_X6_153 {v : Int32} (hC : gC N0 D cy p s m args c cc nL RX6) (hP : gP N0 D cy S H) (hS : va_S (fun q => N0 ≤ q) s.heap H locs) (hKa : gK S a = 3)  (hdg : decode cc pc = .ok (.putfield 153, 3)) (kk : ∀ (H1 : Heap) (locs1 : List Loc), gP N0 D cy (sI S a 5 v) H1 → H1.size = H.size → va_S (fun q => N0 ≤ q) s.heap H1 locs1 → W p l e R s m args below meth c H1 locs1 cells slots Q (F0 m (pc + 3) ls rest)) : W p l e R s m args below meth c H locs cells slots Q (F0 m pc ls (.int v :: .ref a :: rest)) := g_put (S2 := sI S a 5 v) hC hP hS (ci := 2) (k := 5) rfl (by decide) uW_X2 tyX2_ok nmX2 (by decide) fL_X6_153 (Or.inl rfl) rfl rfl hKa rfl (fun b hb => gE_sI hb) (gF_I (Or.inl rfl) (by decide)) hdg kk
theorem gt_X6_158 (hC : gC N0 D cy p s m args c cc nL RX6) (hP : gP N0 D cy S H) (hKa : gK S a = 2) (hdg : decode cc pc = .ok (.getfield 158, 3)) (kk : W p l e R s m args below meth c H locs cells slots Q (F0 m (pc + 3) ls (.int (gI S a 10) :: rest))) : W p l e R s m args below meth c H locs cells slots Q (F0 m pc ls (.ref a :: rest)) := g_get hC hP (ci := 1) (k := 10) rfl (by decide) uW_X1 (by decide) fL_X6_158 hKa hdg kk
theorem pt_X6_158 {v : Int32} (hC : gC N0 D cy p s m args c cc nL RX6) (hP : gP N0 D cy S H) (hS : va_S (fun q => N0 ≤ q) s.heap H locs) (hKa : gK S a = 2)  (hdg : decode cc pc = .ok (.putfield 158, 3)) (kk : ∀ (H1 : Heap) (locs1 : List Loc), gP N0 D cy (sI S a 10 v) H1 → H1.size = H.size → va_S (fun q => N0 ≤ q) s.heap H1 locs1 → W p l e R s m args below meth c H1 locs1 cells slots Q (F0 m (pc + 3) ls rest)) : W p l e R s m args below meth c H locs cells slots Q (F0 m pc ls (.int v :: .ref a :: rest)) := g_put (S2 := sI S a 10 v) hC hP hS (ci := 1) (k := 10) rfl (by decide) uW_X1 tyX1_ok nmX1 (by decide) fL_X6_158 (Or.inl rfl) rfl rfl hKa rfl (fun b hb => gE_sI hb) (gF_I (Or.inl rfl) (by decide)) hdg kk
theorem gt_X6_161 (hC : gC N0 D cy p s m args c cc nL RX6) (hP : gP N0 D cy S H) (hKa : gK S a = 2) (hdg : decode cc pc = .ok (.getfield 161, 3)) (kk : W p l e R s m args below meth c H locs cells slots Q (F0 m (pc + 3) ls (.long (gJ S a 14) :: rest))) : W p l e R s m args below meth c H locs cells slots Q (F0 m pc ls (.ref a :: rest)) := g_get hC hP (ci := 1) (k := 14) rfl (by decide) uW_X1 (by decide) fL_X6_161 hKa hdg kk
theorem pt_X6_161 {v : Int64} (hC : gC N0 D cy p s m args c cc nL RX6) (hP : gP N0 D cy S H) (hS : va_S (fun q => N0 ≤ q) s.heap H locs) (hKa : gK S a = 2)  (hdg : decode cc pc = .ok (.putfield 161, 3)) (kk : ∀ (H1 : Heap) (locs1 : List Loc), gP N0 D cy (sJ S a 14 v) H1 → H1.size = H.size → va_S (fun q => N0 ≤ q) s.heap H1 locs1 → W p l e R s m args below meth c H1 locs1 cells slots Q (F0 m (pc + 3) ls rest)) : W p l e R s m args below meth c H locs cells slots Q (F0 m pc ls (.long v :: .ref a :: rest)) := g_put (S2 := sJ S a 14 v) hC hP hS (ci := 1) (k := 14) rfl (by decide) uW_X1 tyX1_ok nmX1 (by decide) fL_X6_161 (Or.inl rfl) rfl rfl hKa rfl (fun b hb => gE_sJ hb) (gF_J rfl (by decide)) hdg kk
theorem gt_X6_185 (hC : gC N0 D cy p s m args c cc nL RX6) (hP : gP N0 D cy S H) (hKa : gK S a = 6) (hdg : decode cc pc = .ok (.getfield 185, 3)) (kk : W p l e R s m args below meth c H locs cells slots Q (F0 m (pc + 3) ls (.int (gI S a 1) :: rest))) : W p l e R s m args below meth c H locs cells slots Q (F0 m pc ls (.ref a :: rest)) := g_get hC hP (ci := 5) (k := 1) rfl (by decide) uW_X5 (by decide) fL_X6_185 hKa hdg kk
theorem gt_X6_188 (hC : gC N0 D cy p s m args c cc nL RX6) (hP : gP N0 D cy S H) (hKa : gK S a = 6) (hdg : decode cc pc = .ok (.getfield 188, 3)) (kk : W p l e R s m args below meth c H locs cells slots Q (F0 m (pc + 3) ls (.int (gI S a 2) :: rest))) : W p l e R s m args below meth c H locs cells slots Q (F0 m pc ls (.ref a :: rest)) := g_get hC hP (ci := 5) (k := 2) rfl (by decide) uW_X5 (by decide) fL_X6_188 hKa hdg kk
theorem gt_X6_191 (hC : gC N0 D cy p s m args c cc nL RX6) (hP : gP N0 D cy S H) (hKa : gK S a = 6) (hdg : decode cc pc = .ok (.getfield 191, 3)) (kk : W p l e R s m args below meth c H locs cells slots Q (F0 m (pc + 3) ls (.long (gJ S a 3) :: rest))) : W p l e R s m args below meth c H locs cells slots Q (F0 m pc ls (.ref a :: rest)) := g_get hC hP (ci := 5) (k := 3) rfl (by decide) uW_X5 (by decide) fL_X6_191 hKa hdg kk
theorem gt_X6_203 (hC : gC N0 D cy p s m args c cc nL RX6) (hP : gP N0 D cy S H) (hKa : gK S a = 2) (hdg : decode cc pc = .ok (.getfield 203, 3)) (kk : W p l e R s m args below meth c H locs cells slots Q (F0 m (pc + 3) ls (.int (gI S a 0) :: rest))) : W p l e R s m args below meth c H locs cells slots Q (F0 m pc ls (.ref a :: rest)) := g_get hC hP (ci := 1) (k := 0) rfl (by decide) uW_X1 (by decide) fL_X6_203 hKa hdg kk
theorem gt_X6_206 (hC : gC N0 D cy p s m args c cc nL RX6) (hP : gP N0 D cy S H) (hKa : gK S a = 2) (hdg : decode cc pc = .ok (.getfield 206, 3)) (kk : W p l e R s m args below meth c H locs cells slots Q (F0 m (pc + 3) ls (.int (gI S a 6) :: rest))) : W p l e R s m args below meth c H locs cells slots Q (F0 m pc ls (.ref a :: rest)) := g_get hC hP (ci := 1) (k := 6) rfl (by decide) uW_X1 (by decide) fL_X6_206 hKa hdg kk
theorem pt_X6_206 {v : Int32} (hC : gC N0 D cy p s m args c cc nL RX6) (hP : gP N0 D cy S H) (hS : va_S (fun q => N0 ≤ q) s.heap H locs) (hKa : gK S a = 2)  (hdg : decode cc pc = .ok (.putfield 206, 3)) (kk : ∀ (H1 : Heap) (locs1 : List Loc), gP N0 D cy (sI S a 6 v) H1 → H1.size = H.size → va_S (fun q => N0 ≤ q) s.heap H1 locs1 → W p l e R s m args below meth c H1 locs1 cells slots Q (F0 m (pc + 3) ls rest)) : W p l e R s m args below meth c H locs cells slots Q (F0 m pc ls (.int v :: .ref a :: rest)) := g_put (S2 := sI S a 6 v) hC hP hS (ci := 1) (k := 6) rfl (by decide) uW_X1 tyX1_ok nmX1 (by decide) fL_X6_206 (Or.inl rfl) rfl rfl hKa rfl (fun b hb => gE_sI hb) (gF_I (Or.inl rfl) (by decide)) hdg kk
theorem gt_X6_229 (hC : gC N0 D cy p s m args c cc nL RX6) (hP : gP N0 D cy S H) (hKa : gK S a = 1) (hdg : decode cc pc = .ok (.getfield 229, 3)) (kk : W p l e R s m args below meth c H locs cells slots Q (F0 m (pc + 3) ls (.int (gI S a 0) :: rest))) : W p l e R s m args below meth c H locs cells slots Q (F0 m pc ls (.ref a :: rest)) := g_get hC hP (ci := 0) (k := 0) rfl (by decide) uW_X0 (by decide) fL_X6_229 hKa hdg kk
theorem gt_X6_232 (hC : gC N0 D cy p s m args c cc nL RX6) (hP : gP N0 D cy S H) (hKa : gK S a = 1) {b : Nat} (hR : gR S a 2 = some b) (hdg : decode cc pc = .ok (.getfield 232, 3)) (kk : W p l e R s m args below meth c H locs cells slots Q (F0 m (pc + 3) ls (.ref b :: rest))) : W p l e R s m args below meth c H locs cells slots Q (F0 m pc ls (.ref a :: rest)) := g_get hC hP (ci := 0) (k := 2) rfl (by decide) uW_X0 (by decide) fL_X6_232 hKa hdg (by show W p l e R s m args below meth c H locs cells slots Q (F0 m (pc + 3) ls (va_rf (gR S a 2) :: rest)); rw [hR]; exact kk)
theorem gq_X6_232 (hC : gC N0 D cy p s m args c cc nL RX6) (hP : gP N0 D cy S H) (hKa : gK S a = 1) (hdg : decode cc pc = .ok (.getfield 232, 3)) (kn : gR S a 2 = none → W p l e R s m args below meth c H locs cells slots Q (F0 m (pc + 3) ls (.null :: rest))) (ks : ∀ b : Nat, gR S a 2 = some b → W p l e R s m args below meth c H locs cells slots Q (F0 m (pc + 3) ls (.ref b :: rest))) : W p l e R s m args below meth c H locs cells slots Q (F0 m pc ls (.ref a :: rest)) := g_get hC hP (ci := 0) (k := 2) rfl (by decide) uW_X0 (by decide) fL_X6_232 hKa hdg (by show W p l e R s m args below meth c H locs cells slots Q (F0 m (pc + 3) ls (va_rf (gR S a 2) :: rest)); cases hq : gR S a 2 with | none => exact kn hq | some b => exact ks b hq)
theorem gt_X6_235 (hC : gC N0 D cy p s m args c cc nL RX6) (hP : gP N0 D cy S H) (hKa : gK S a = 3) {b : Nat} (hR : gR S a 6 = some b) (hdg : decode cc pc = .ok (.getfield 235, 3)) (kk : W p l e R s m args below meth c H locs cells slots Q (F0 m (pc + 3) ls (.ref b :: rest))) : W p l e R s m args below meth c H locs cells slots Q (F0 m pc ls (.ref a :: rest)) := g_get hC hP (ci := 2) (k := 6) rfl (by decide) uW_X2 (by decide) fL_X6_235 hKa hdg (by show W p l e R s m args below meth c H locs cells slots Q (F0 m (pc + 3) ls (va_rf (gR S a 6) :: rest)); rw [hR]; exact kk)
theorem gq_X6_235 (hC : gC N0 D cy p s m args c cc nL RX6) (hP : gP N0 D cy S H) (hKa : gK S a = 3) (hdg : decode cc pc = .ok (.getfield 235, 3)) (kn : gR S a 6 = none → W p l e R s m args below meth c H locs cells slots Q (F0 m (pc + 3) ls (.null :: rest))) (ks : ∀ b : Nat, gR S a 6 = some b → W p l e R s m args below meth c H locs cells slots Q (F0 m (pc + 3) ls (.ref b :: rest))) : W p l e R s m args below meth c H locs cells slots Q (F0 m pc ls (.ref a :: rest)) := g_get hC hP (ci := 2) (k := 6) rfl (by decide) uW_X2 (by decide) fL_X6_235 hKa hdg (by show W p l e R s m args below meth c H locs cells slots Q (F0 m (pc + 3) ls (va_rf (gR S a 6) :: rest)); cases hq : gR S a 6 with | none => exact kn hq | some b => exact ks b hq)
theorem pt_X6_235 {v : Option Nat} (hC : gC N0 D cy p s m args c cc nL RX6) (hP : gP N0 D cy S H) (hS : va_S (fun q => N0 ≤ q) s.heap H locs) (hKa : gK S a = 3)  (hdg : decode cc pc = .ok (.putfield 235, 3)) (kk : ∀ (H1 : Heap) (locs1 : List Loc), gP N0 D cy (sR S a 6 v) H1 → H1.size = H.size → va_S (fun q => N0 ≤ q) s.heap H1 locs1 → W p l e R s m args below meth c H1 locs1 cells slots Q (F0 m (pc + 3) ls rest)) : W p l e R s m args below meth c H locs cells slots Q (F0 m pc ls (va_rf v :: .ref a :: rest)) := g_put (S2 := sR S a 6 v) hC hP hS (ci := 2) (k := 6) rfl (by decide) uW_X2 tyX2_ok nmX2 (by decide) fL_X6_235 (Or.inl rfl) (by cases v <;> rfl) (by cases v <;> rfl) hKa rfl (fun b hb => gE_sR hb) (gF_R rfl (by decide)) hdg kk
theorem gt_X6_236 (hC : gC N0 D cy p s m args c cc nL RX6) (hP : gP N0 D cy S H) (hKa : gK S a = 4) {b : Nat} (hR : gR S a 2 = some b) (hdg : decode cc pc = .ok (.getfield 236, 3)) (kk : W p l e R s m args below meth c H locs cells slots Q (F0 m (pc + 3) ls (.ref b :: rest))) : W p l e R s m args below meth c H locs cells slots Q (F0 m pc ls (.ref a :: rest)) := g_get hC hP (ci := 3) (k := 2) rfl (by decide) uW_X3 (by decide) fL_X6_236 hKa hdg (by show W p l e R s m args below meth c H locs cells slots Q (F0 m (pc + 3) ls (va_rf (gR S a 2) :: rest)); rw [hR]; exact kk)
theorem gq_X6_236 (hC : gC N0 D cy p s m args c cc nL RX6) (hP : gP N0 D cy S H) (hKa : gK S a = 4) (hdg : decode cc pc = .ok (.getfield 236, 3)) (kn : gR S a 2 = none → W p l e R s m args below meth c H locs cells slots Q (F0 m (pc + 3) ls (.null :: rest))) (ks : ∀ b : Nat, gR S a 2 = some b → W p l e R s m args below meth c H locs cells slots Q (F0 m (pc + 3) ls (.ref b :: rest))) : W p l e R s m args below meth c H locs cells slots Q (F0 m pc ls (.ref a :: rest)) := g_get hC hP (ci := 3) (k := 2) rfl (by decide) uW_X3 (by decide) fL_X6_236 hKa hdg (by show W p l e R s m args below meth c H locs cells slots Q (F0 m (pc + 3) ls (va_rf (gR S a 2) :: rest)); cases hq : gR S a 2 with | none => exact kn hq | some b => exact ks b hq)
theorem gt_X7_7 (hC : gC N0 D cy p s m args c cc nL RX7) (hP : gP N0 D cy S H) (hKa : gK S a = 8) {b : Nat} (hR : gR S a 2 = some b) (hdg : decode cc pc = .ok (.getfield 7, 3)) (kk : W p l e R s m args below meth c H locs cells slots Q (F0 m (pc + 3) ls (.ref b :: rest))) : W p l e R s m args below meth c H locs cells slots Q (F0 m pc ls (.ref a :: rest)) := g_get hC hP (ci := 7) (k := 2) rfl (by decide) uW_X7 (by decide) fL_X7_7 hKa hdg (by show W p l e R s m args below meth c H locs cells slots Q (F0 m (pc + 3) ls (va_rf (gR S a 2) :: rest)); rw [hR]; exact kk)
theorem gq_X7_7 (hC : gC N0 D cy p s m args c cc nL RX7) (hP : gP N0 D cy S H) (hKa : gK S a = 8) (hdg : decode cc pc = .ok (.getfield 7, 3)) (kn : gR S a 2 = none → W p l e R s m args below meth c H locs cells slots Q (F0 m (pc + 3) ls (.null :: rest))) (ks : ∀ b : Nat, gR S a 2 = some b → W p l e R s m args below meth c H locs cells slots Q (F0 m (pc + 3) ls (.ref b :: rest))) : W p l e R s m args below meth c H locs cells slots Q (F0 m pc ls (.ref a :: rest)) := g_get hC hP (ci := 7) (k := 2) rfl (by decide) uW_X7 (by decide) fL_X7_7 hKa hdg (by show W p l e R s m args below meth c H locs cells slots Q (F0 m (pc + 3) ls (va_rf (gR S a 2) :: rest)); cases hq : gR S a 2 with | none => exact kn hq | some b => exact ks b hq)
theorem pt_X7_7 {v : Option Nat} (hC : gC N0 D cy p s m args c cc nL RX7) (hP : gP N0 D cy S H) (hS : va_S (fun q => N0 ≤ q) s.heap H locs) (hKa : gK S a = 8) (hin : meth.name = "<init>")  (hdg : decode cc pc = .ok (.putfield 7, 3)) (kk : ∀ (H1 : Heap) (locs1 : List Loc), gP N0 D cy (sR S a 2 v) H1 → H1.size = H.size → va_S (fun q => N0 ≤ q) s.heap H1 locs1 → W p l e R s m args below meth c H1 locs1 cells slots Q (F0 m (pc + 3) ls rest)) : W p l e R s m args below meth c H locs cells slots Q (F0 m pc ls (va_rf v :: .ref a :: rest)) := g_put (S2 := sR S a 2 v) hC hP hS (ci := 7) (k := 2) rfl (by decide) uW_X7 tyX7_ok nmX7 (by decide) fL_X7_7 (Or.inr ⟨hin, rfl, rfl⟩) (by cases v <;> rfl) (by cases v <;> rfl) hKa rfl (fun b hb => gE_sR hb) (gF_R rfl (by decide)) hdg kk
theorem gt_X7_13 (hC : gC N0 D cy p s m args c cc nL RX7) (hP : gP N0 D cy S H) (hKa : gK S a = 8) {b : Nat} (hR : gR S a 3 = some b) (hdg : decode cc pc = .ok (.getfield 13, 3)) (kk : W p l e R s m args below meth c H locs cells slots Q (F0 m (pc + 3) ls (.ref b :: rest))) : W p l e R s m args below meth c H locs cells slots Q (F0 m pc ls (.ref a :: rest)) := g_get hC hP (ci := 7) (k := 3) rfl (by decide) uW_X7 (by decide) fL_X7_13 hKa hdg (by show W p l e R s m args below meth c H locs cells slots Q (F0 m (pc + 3) ls (va_rf (gR S a 3) :: rest)); rw [hR]; exact kk)
theorem gq_X7_13 (hC : gC N0 D cy p s m args c cc nL RX7) (hP : gP N0 D cy S H) (hKa : gK S a = 8) (hdg : decode cc pc = .ok (.getfield 13, 3)) (kn : gR S a 3 = none → W p l e R s m args below meth c H locs cells slots Q (F0 m (pc + 3) ls (.null :: rest))) (ks : ∀ b : Nat, gR S a 3 = some b → W p l e R s m args below meth c H locs cells slots Q (F0 m (pc + 3) ls (.ref b :: rest))) : W p l e R s m args below meth c H locs cells slots Q (F0 m pc ls (.ref a :: rest)) := g_get hC hP (ci := 7) (k := 3) rfl (by decide) uW_X7 (by decide) fL_X7_13 hKa hdg (by show W p l e R s m args below meth c H locs cells slots Q (F0 m (pc + 3) ls (va_rf (gR S a 3) :: rest)); cases hq : gR S a 3 with | none => exact kn hq | some b => exact ks b hq)
theorem pt_X7_13 {v : Option Nat} (hC : gC N0 D cy p s m args c cc nL RX7) (hP : gP N0 D cy S H) (hS : va_S (fun q => N0 ≤ q) s.heap H locs) (hKa : gK S a = 8) (hin : meth.name = "<init>")  (hdg : decode cc pc = .ok (.putfield 13, 3)) (kk : ∀ (H1 : Heap) (locs1 : List Loc), gP N0 D cy (sR S a 3 v) H1 → H1.size = H.size → va_S (fun q => N0 ≤ q) s.heap H1 locs1 → W p l e R s m args below meth c H1 locs1 cells slots Q (F0 m (pc + 3) ls rest)) : W p l e R s m args below meth c H locs cells slots Q (F0 m pc ls (va_rf v :: .ref a :: rest)) := g_put (S2 := sR S a 3 v) hC hP hS (ci := 7) (k := 3) rfl (by decide) uW_X7 tyX7_ok nmX7 (by decide) fL_X7_13 (Or.inr ⟨hin, rfl, rfl⟩) (by cases v <;> rfl) (by cases v <;> rfl) hKa rfl (fun b hb => gE_sR hb) (gF_R rfl (by decide)) hdg kk
theorem gt_X7_16 (hC : gC N0 D cy p s m args c cc nL RX7) (hP : gP N0 D cy S H) (hKa : gK S a = 8) {b : Nat} (hR : gR S a 4 = some b) (hdg : decode cc pc = .ok (.getfield 16, 3)) (kk : W p l e R s m args below meth c H locs cells slots Q (F0 m (pc + 3) ls (.ref b :: rest))) : W p l e R s m args below meth c H locs cells slots Q (F0 m pc ls (.ref a :: rest)) := g_get hC hP (ci := 7) (k := 4) rfl (by decide) uW_X7 (by decide) fL_X7_16 hKa hdg (by show W p l e R s m args below meth c H locs cells slots Q (F0 m (pc + 3) ls (va_rf (gR S a 4) :: rest)); rw [hR]; exact kk)
theorem gq_X7_16 (hC : gC N0 D cy p s m args c cc nL RX7) (hP : gP N0 D cy S H) (hKa : gK S a = 8) (hdg : decode cc pc = .ok (.getfield 16, 3)) (kn : gR S a 4 = none → W p l e R s m args below meth c H locs cells slots Q (F0 m (pc + 3) ls (.null :: rest))) (ks : ∀ b : Nat, gR S a 4 = some b → W p l e R s m args below meth c H locs cells slots Q (F0 m (pc + 3) ls (.ref b :: rest))) : W p l e R s m args below meth c H locs cells slots Q (F0 m pc ls (.ref a :: rest)) := g_get hC hP (ci := 7) (k := 4) rfl (by decide) uW_X7 (by decide) fL_X7_16 hKa hdg (by show W p l e R s m args below meth c H locs cells slots Q (F0 m (pc + 3) ls (va_rf (gR S a 4) :: rest)); cases hq : gR S a 4 with | none => exact kn hq | some b => exact ks b hq)
theorem pt_X7_16 {v : Option Nat} (hC : gC N0 D cy p s m args c cc nL RX7) (hP : gP N0 D cy S H) (hS : va_S (fun q => N0 ≤ q) s.heap H locs) (hKa : gK S a = 8) (hin : meth.name = "<init>")  (hdg : decode cc pc = .ok (.putfield 16, 3)) (kk : ∀ (H1 : Heap) (locs1 : List Loc), gP N0 D cy (sR S a 4 v) H1 → H1.size = H.size → va_S (fun q => N0 ≤ q) s.heap H1 locs1 → W p l e R s m args below meth c H1 locs1 cells slots Q (F0 m (pc + 3) ls rest)) : W p l e R s m args below meth c H locs cells slots Q (F0 m pc ls (va_rf v :: .ref a :: rest)) := g_put (S2 := sR S a 4 v) hC hP hS (ci := 7) (k := 4) rfl (by decide) uW_X7 tyX7_ok nmX7 (by decide) fL_X7_16 (Or.inr ⟨hin, rfl, rfl⟩) (by cases v <;> rfl) (by cases v <;> rfl) hKa rfl (fun b hb => gE_sR hb) (gF_R rfl (by decide)) hdg kk
theorem gt_X7_19 (hC : gC N0 D cy p s m args c cc nL RX7) (hP : gP N0 D cy S H) (hKa : gK S a = 8) {b : Nat} (hR : gR S a 5 = some b) (hdg : decode cc pc = .ok (.getfield 19, 3)) (kk : W p l e R s m args below meth c H locs cells slots Q (F0 m (pc + 3) ls (.ref b :: rest))) : W p l e R s m args below meth c H locs cells slots Q (F0 m pc ls (.ref a :: rest)) := g_get hC hP (ci := 7) (k := 5) rfl (by decide) uW_X7 (by decide) fL_X7_19 hKa hdg (by show W p l e R s m args below meth c H locs cells slots Q (F0 m (pc + 3) ls (va_rf (gR S a 5) :: rest)); rw [hR]; exact kk)
theorem gq_X7_19 (hC : gC N0 D cy p s m args c cc nL RX7) (hP : gP N0 D cy S H) (hKa : gK S a = 8) (hdg : decode cc pc = .ok (.getfield 19, 3)) (kn : gR S a 5 = none → W p l e R s m args below meth c H locs cells slots Q (F0 m (pc + 3) ls (.null :: rest))) (ks : ∀ b : Nat, gR S a 5 = some b → W p l e R s m args below meth c H locs cells slots Q (F0 m (pc + 3) ls (.ref b :: rest))) : W p l e R s m args below meth c H locs cells slots Q (F0 m pc ls (.ref a :: rest)) := g_get hC hP (ci := 7) (k := 5) rfl (by decide) uW_X7 (by decide) fL_X7_19 hKa hdg (by show W p l e R s m args below meth c H locs cells slots Q (F0 m (pc + 3) ls (va_rf (gR S a 5) :: rest)); cases hq : gR S a 5 with | none => exact kn hq | some b => exact ks b hq)
theorem pt_X7_19 {v : Option Nat} (hC : gC N0 D cy p s m args c cc nL RX7) (hP : gP N0 D cy S H) (hS : va_S (fun q => N0 ≤ q) s.heap H locs) (hKa : gK S a = 8) (hin : meth.name = "<init>")  (hdg : decode cc pc = .ok (.putfield 19, 3)) (kk : ∀ (H1 : Heap) (locs1 : List Loc), gP N0 D cy (sR S a 5 v) H1 → H1.size = H.size → va_S (fun q => N0 ≤ q) s.heap H1 locs1 → W p l e R s m args below meth c H1 locs1 cells slots Q (F0 m (pc + 3) ls rest)) : W p l e R s m args below meth c H locs cells slots Q (F0 m pc ls (va_rf v :: .ref a :: rest)) := g_put (S2 := sR S a 5 v) hC hP hS (ci := 7) (k := 5) rfl (by decide) uW_X7 tyX7_ok nmX7 (by decide) fL_X7_19 (Or.inr ⟨hin, rfl, rfl⟩) (by cases v <;> rfl) (by cases v <;> rfl) hKa rfl (fun b hb => gE_sR hb) (gF_R rfl (by decide)) hdg kk
theorem gt_X7_22 (hC : gC N0 D cy p s m args c cc nL RX7) (hP : gP N0 D cy S H) (hKa : gK S a = 8) {b : Nat} (hR : gR S a 6 = some b) (hdg : decode cc pc = .ok (.getfield 22, 3)) (kk : W p l e R s m args below meth c H locs cells slots Q (F0 m (pc + 3) ls (.ref b :: rest))) : W p l e R s m args below meth c H locs cells slots Q (F0 m pc ls (.ref a :: rest)) := g_get hC hP (ci := 7) (k := 6) rfl (by decide) uW_X7 (by decide) fL_X7_22 hKa hdg (by show W p l e R s m args below meth c H locs cells slots Q (F0 m (pc + 3) ls (va_rf (gR S a 6) :: rest)); rw [hR]; exact kk)
theorem gq_X7_22 (hC : gC N0 D cy p s m args c cc nL RX7) (hP : gP N0 D cy S H) (hKa : gK S a = 8) (hdg : decode cc pc = .ok (.getfield 22, 3)) (kn : gR S a 6 = none → W p l e R s m args below meth c H locs cells slots Q (F0 m (pc + 3) ls (.null :: rest))) (ks : ∀ b : Nat, gR S a 6 = some b → W p l e R s m args below meth c H locs cells slots Q (F0 m (pc + 3) ls (.ref b :: rest))) : W p l e R s m args below meth c H locs cells slots Q (F0 m pc ls (.ref a :: rest)) := g_get hC hP (ci := 7) (k := 6) rfl (by decide) uW_X7 (by decide) fL_X7_22 hKa hdg (by show W p l e R s m args below meth c H locs cells slots Q (F0 m (pc + 3) ls (va_rf (gR S a 6) :: rest)); cases hq : gR S a 6 with | none => exact kn hq | some b => exact ks b hq)
theorem pt_X7_22 {v : Option Nat} (hC : gC N0 D cy p s m args c cc nL RX7) (hP : gP N0 D cy S H) (hS : va_S (fun q => N0 ≤ q) s.heap H locs) (hKa : gK S a = 8) (hin : meth.name = "<init>")  (hdg : decode cc pc = .ok (.putfield 22, 3)) (kk : ∀ (H1 : Heap) (locs1 : List Loc), gP N0 D cy (sR S a 6 v) H1 → H1.size = H.size → va_S (fun q => N0 ≤ q) s.heap H1 locs1 → W p l e R s m args below meth c H1 locs1 cells slots Q (F0 m (pc + 3) ls rest)) : W p l e R s m args below meth c H locs cells slots Q (F0 m pc ls (va_rf v :: .ref a :: rest)) := g_put (S2 := sR S a 6 v) hC hP hS (ci := 7) (k := 6) rfl (by decide) uW_X7 tyX7_ok nmX7 (by decide) fL_X7_22 (Or.inr ⟨hin, rfl, rfl⟩) (by cases v <;> rfl) (by cases v <;> rfl) hKa rfl (fun b hb => gE_sR hb) (gF_R rfl (by decide)) hdg kk
theorem gt_X7_25 (hC : gC N0 D cy p s m args c cc nL RX7) (hP : gP N0 D cy S H) (hKa : gK S a = 8) {b : Nat} (hR : gR S a 7 = some b) (hdg : decode cc pc = .ok (.getfield 25, 3)) (kk : W p l e R s m args below meth c H locs cells slots Q (F0 m (pc + 3) ls (.ref b :: rest))) : W p l e R s m args below meth c H locs cells slots Q (F0 m pc ls (.ref a :: rest)) := g_get hC hP (ci := 7) (k := 7) rfl (by decide) uW_X7 (by decide) fL_X7_25 hKa hdg (by show W p l e R s m args below meth c H locs cells slots Q (F0 m (pc + 3) ls (va_rf (gR S a 7) :: rest)); rw [hR]; exact kk)
theorem gq_X7_25 (hC : gC N0 D cy p s m args c cc nL RX7) (hP : gP N0 D cy S H) (hKa : gK S a = 8) (hdg : decode cc pc = .ok (.getfield 25, 3)) (kn : gR S a 7 = none → W p l e R s m args below meth c H locs cells slots Q (F0 m (pc + 3) ls (.null :: rest))) (ks : ∀ b : Nat, gR S a 7 = some b → W p l e R s m args below meth c H locs cells slots Q (F0 m (pc + 3) ls (.ref b :: rest))) : W p l e R s m args below meth c H locs cells slots Q (F0 m pc ls (.ref a :: rest)) := g_get hC hP (ci := 7) (k := 7) rfl (by decide) uW_X7 (by decide) fL_X7_25 hKa hdg (by show W p l e R s m args below meth c H locs cells slots Q (F0 m (pc + 3) ls (va_rf (gR S a 7) :: rest)); cases hq : gR S a 7 with | none => exact kn hq | some b => exact ks b hq)
theorem pt_X7_25 {v : Option Nat} (hC : gC N0 D cy p s m args c cc nL RX7) (hP : gP N0 D cy S H) (hS : va_S (fun q => N0 ≤ q) s.heap H locs) (hKa : gK S a = 8) (hin : meth.name = "<init>")  (hdg : decode cc pc = .ok (.putfield 25, 3)) (kk : ∀ (H1 : Heap) (locs1 : List Loc), gP N0 D cy (sR S a 7 v) H1 → H1.size = H.size → va_S (fun q => N0 ≤ q) s.heap H1 locs1 → W p l e R s m args below meth c H1 locs1 cells slots Q (F0 m (pc + 3) ls rest)) : W p l e R s m args below meth c H locs cells slots Q (F0 m pc ls (va_rf v :: .ref a :: rest)) := g_put (S2 := sR S a 7 v) hC hP hS (ci := 7) (k := 7) rfl (by decide) uW_X7 tyX7_ok nmX7 (by decide) fL_X7_25 (Or.inr ⟨hin, rfl, rfl⟩) (by cases v <;> rfl) (by cases v <;> rfl) hKa rfl (fun b hb => gE_sR hb) (gF_R rfl (by decide)) hdg kk
theorem gt_X7_28 (hC : gC N0 D cy p s m args c cc nL RX7) (hP : gP N0 D cy S H) (hKa : gK S a = 8) {b : Nat} (hR : gR S a 8 = some b) (hdg : decode cc pc = .ok (.getfield 28, 3)) (kk : W p l e R s m args below meth c H locs cells slots Q (F0 m (pc + 3) ls (.ref b :: rest))) : W p l e R s m args below meth c H locs cells slots Q (F0 m pc ls (.ref a :: rest)) := g_get hC hP (ci := 7) (k := 8) rfl (by decide) uW_X7 (by decide) fL_X7_28 hKa hdg (by show W p l e R s m args below meth c H locs cells slots Q (F0 m (pc + 3) ls (va_rf (gR S a 8) :: rest)); rw [hR]; exact kk)
theorem gq_X7_28 (hC : gC N0 D cy p s m args c cc nL RX7) (hP : gP N0 D cy S H) (hKa : gK S a = 8) (hdg : decode cc pc = .ok (.getfield 28, 3)) (kn : gR S a 8 = none → W p l e R s m args below meth c H locs cells slots Q (F0 m (pc + 3) ls (.null :: rest))) (ks : ∀ b : Nat, gR S a 8 = some b → W p l e R s m args below meth c H locs cells slots Q (F0 m (pc + 3) ls (.ref b :: rest))) : W p l e R s m args below meth c H locs cells slots Q (F0 m pc ls (.ref a :: rest)) := g_get hC hP (ci := 7) (k := 8) rfl (by decide) uW_X7 (by decide) fL_X7_28 hKa hdg (by show W p l e R s m args below meth c H locs cells slots Q (F0 m (pc + 3) ls (va_rf (gR S a 8) :: rest)); cases hq : gR S a 8 with | none => exact kn hq | some b => exact ks b hq)
theorem pt_X7_28 {v : Option Nat} (hC : gC N0 D cy p s m args c cc nL RX7) (hP : gP N0 D cy S H) (hS : va_S (fun q => N0 ≤ q) s.heap H locs) (hKa : gK S a = 8) (hin : meth.name = "<init>")  (hdg : decode cc pc = .ok (.putfield 28, 3)) (kk : ∀ (H1 : Heap) (locs1 : List Loc), gP N0 D cy (sR S a 8 v) H1 → H1.size = H.size → va_S (fun q => N0 ≤ q) s.heap H1 locs1 → W p l e R s m args below meth c H1 locs1 cells slots Q (F0 m (pc + 3) ls rest)) : W p l e R s m args below meth c H locs cells slots Q (F0 m pc ls (va_rf v :: .ref a :: rest)) := g_put (S2 := sR S a 8 v) hC hP hS (ci := 7) (k := 8) rfl (by decide) uW_X7 tyX7_ok nmX7 (by decide) fL_X7_28 (Or.inr ⟨hin, rfl, rfl⟩) (by cases v <;> rfl) (by cases v <;> rfl) hKa rfl (fun b hb => gE_sR hb) (gF_R rfl (by decide)) hdg kk
theorem gt_X7_32 (hC : gC N0 D cy p s m args c cc nL RX7) (hP : gP N0 D cy S H) (hKa : gK S a = 8) {b : Nat} (hR : gR S a 9 = some b) (hdg : decode cc pc = .ok (.getfield 32, 3)) (kk : W p l e R s m args below meth c H locs cells slots Q (F0 m (pc + 3) ls (.ref b :: rest))) : W p l e R s m args below meth c H locs cells slots Q (F0 m pc ls (.ref a :: rest)) := g_get hC hP (ci := 7) (k := 9) rfl (by decide) uW_X7 (by decide) fL_X7_32 hKa hdg (by show W p l e R s m args below meth c H locs cells slots Q (F0 m (pc + 3) ls (va_rf (gR S a 9) :: rest)); rw [hR]; exact kk)
theorem gq_X7_32 (hC : gC N0 D cy p s m args c cc nL RX7) (hP : gP N0 D cy S H) (hKa : gK S a = 8) (hdg : decode cc pc = .ok (.getfield 32, 3)) (kn : gR S a 9 = none → W p l e R s m args below meth c H locs cells slots Q (F0 m (pc + 3) ls (.null :: rest))) (ks : ∀ b : Nat, gR S a 9 = some b → W p l e R s m args below meth c H locs cells slots Q (F0 m (pc + 3) ls (.ref b :: rest))) : W p l e R s m args below meth c H locs cells slots Q (F0 m pc ls (.ref a :: rest)) := g_get hC hP (ci := 7) (k := 9) rfl (by decide) uW_X7 (by decide) fL_X7_32 hKa hdg (by show W p l e R s m args below meth c H locs cells slots Q (F0 m (pc + 3) ls (va_rf (gR S a 9) :: rest)); cases hq : gR S a 9 with | none => exact kn hq | some b => exact ks b hq)
theorem pt_X7_32 {v : Option Nat} (hC : gC N0 D cy p s m args c cc nL RX7) (hP : gP N0 D cy S H) (hS : va_S (fun q => N0 ≤ q) s.heap H locs) (hKa : gK S a = 8) (hin : meth.name = "<init>")  (hdg : decode cc pc = .ok (.putfield 32, 3)) (kk : ∀ (H1 : Heap) (locs1 : List Loc), gP N0 D cy (sR S a 9 v) H1 → H1.size = H.size → va_S (fun q => N0 ≤ q) s.heap H1 locs1 → W p l e R s m args below meth c H1 locs1 cells slots Q (F0 m (pc + 3) ls rest)) : W p l e R s m args below meth c H locs cells slots Q (F0 m pc ls (va_rf v :: .ref a :: rest)) := g_put (S2 := sR S a 9 v) hC hP hS (ci := 7) (k := 9) rfl (by decide) uW_X7 tyX7_ok nmX7 (by decide) fL_X7_32 (Or.inr ⟨hin, rfl, rfl⟩) (by cases v <;> rfl) (by cases v <;> rfl) hKa rfl (fun b hb => gE_sR hb) (gF_R rfl (by decide)) hdg kk
theorem gt_X7_35 (hC : gC N0 D cy p s m args c cc nL RX7) (hP : gP N0 D cy S H) (hKa : gK S a = 8) {b : Nat} (hR : gR S a 11 = some b) (hdg : decode cc pc = .ok (.getfield 35, 3)) (kk : W p l e R s m args below meth c H locs cells slots Q (F0 m (pc + 3) ls (.ref b :: rest))) : W p l e R s m args below meth c H locs cells slots Q (F0 m pc ls (.ref a :: rest)) := g_get hC hP (ci := 7) (k := 11) rfl (by decide) uW_X7 (by decide) fL_X7_35 hKa hdg (by show W p l e R s m args below meth c H locs cells slots Q (F0 m (pc + 3) ls (va_rf (gR S a 11) :: rest)); rw [hR]; exact kk)
theorem gq_X7_35 (hC : gC N0 D cy p s m args c cc nL RX7) (hP : gP N0 D cy S H) (hKa : gK S a = 8) (hdg : decode cc pc = .ok (.getfield 35, 3)) (kn : gR S a 11 = none → W p l e R s m args below meth c H locs cells slots Q (F0 m (pc + 3) ls (.null :: rest))) (ks : ∀ b : Nat, gR S a 11 = some b → W p l e R s m args below meth c H locs cells slots Q (F0 m (pc + 3) ls (.ref b :: rest))) : W p l e R s m args below meth c H locs cells slots Q (F0 m pc ls (.ref a :: rest)) := g_get hC hP (ci := 7) (k := 11) rfl (by decide) uW_X7 (by decide) fL_X7_35 hKa hdg (by show W p l e R s m args below meth c H locs cells slots Q (F0 m (pc + 3) ls (va_rf (gR S a 11) :: rest)); cases hq : gR S a 11 with | none => exact kn hq | some b => exact ks b hq)
theorem pt_X7_35 {v : Option Nat} (hC : gC N0 D cy p s m args c cc nL RX7) (hP : gP N0 D cy S H) (hS : va_S (fun q => N0 ≤ q) s.heap H locs) (hKa : gK S a = 8) (hin : meth.name = "<init>")  (hdg : decode cc pc = .ok (.putfield 35, 3)) (kk : ∀ (H1 : Heap) (locs1 : List Loc), gP N0 D cy (sR S a 11 v) H1 → H1.size = H.size → va_S (fun q => N0 ≤ q) s.heap H1 locs1 → W p l e R s m args below meth c H1 locs1 cells slots Q (F0 m (pc + 3) ls rest)) : W p l e R s m args below meth c H locs cells slots Q (F0 m pc ls (va_rf v :: .ref a :: rest)) := g_put (S2 := sR S a 11 v) hC hP hS (ci := 7) (k := 11) rfl (by decide) uW_X7 tyX7_ok nmX7 (by decide) fL_X7_35 (Or.inr ⟨hin, rfl, rfl⟩) (by cases v <;> rfl) (by cases v <;> rfl) hKa rfl (fun b hb => gE_sR hb) (gF_R rfl (by decide)) hdg kk
theorem gt_X7_38 (hC : gC N0 D cy p s m args c cc nL RX7) (hP : gP N0 D cy S H) (hKa : gK S a = 8) {b : Nat} (hR : gR S a 12 = some b) (hdg : decode cc pc = .ok (.getfield 38, 3)) (kk : W p l e R s m args below meth c H locs cells slots Q (F0 m (pc + 3) ls (.ref b :: rest))) : W p l e R s m args below meth c H locs cells slots Q (F0 m pc ls (.ref a :: rest)) := g_get hC hP (ci := 7) (k := 12) rfl (by decide) uW_X7 (by decide) fL_X7_38 hKa hdg (by show W p l e R s m args below meth c H locs cells slots Q (F0 m (pc + 3) ls (va_rf (gR S a 12) :: rest)); rw [hR]; exact kk)
theorem gq_X7_38 (hC : gC N0 D cy p s m args c cc nL RX7) (hP : gP N0 D cy S H) (hKa : gK S a = 8) (hdg : decode cc pc = .ok (.getfield 38, 3)) (kn : gR S a 12 = none → W p l e R s m args below meth c H locs cells slots Q (F0 m (pc + 3) ls (.null :: rest))) (ks : ∀ b : Nat, gR S a 12 = some b → W p l e R s m args below meth c H locs cells slots Q (F0 m (pc + 3) ls (.ref b :: rest))) : W p l e R s m args below meth c H locs cells slots Q (F0 m pc ls (.ref a :: rest)) := g_get hC hP (ci := 7) (k := 12) rfl (by decide) uW_X7 (by decide) fL_X7_38 hKa hdg (by show W p l e R s m args below meth c H locs cells slots Q (F0 m (pc + 3) ls (va_rf (gR S a 12) :: rest)); cases hq : gR S a 12 with | none => exact kn hq | some b => exact ks b hq)
theorem pt_X7_38 {v : Option Nat} (hC : gC N0 D cy p s m args c cc nL RX7) (hP : gP N0 D cy S H) (hS : va_S (fun q => N0 ≤ q) s.heap H locs) (hKa : gK S a = 8) (hin : meth.name = "<init>")  (hdg : decode cc pc = .ok (.putfield 38, 3)) (kk : ∀ (H1 : Heap) (locs1 : List Loc), gP N0 D cy (sR S a 12 v) H1 → H1.size = H.size → va_S (fun q => N0 ≤ q) s.heap H1 locs1 → W p l e R s m args below meth c H1 locs1 cells slots Q (F0 m (pc + 3) ls rest)) : W p l e R s m args below meth c H locs cells slots Q (F0 m pc ls (va_rf v :: .ref a :: rest)) := g_put (S2 := sR S a 12 v) hC hP hS (ci := 7) (k := 12) rfl (by decide) uW_X7 tyX7_ok nmX7 (by decide) fL_X7_38 (Or.inr ⟨hin, rfl, rfl⟩) (by cases v <;> rfl) (by cases v <;> rfl) hKa rfl (fun b hb => gE_sR hb) (gF_R rfl (by decide)) hdg kk
theorem gt_X7_41 (hC : gC N0 D cy p s m args c cc nL RX7) (hP : gP N0 D cy S H) (hKa : gK S a = 8) {b : Nat} (hR : gR S a 13 = some b) (hdg : decode cc pc = .ok (.getfield 41, 3)) (kk : W p l e R s m args below meth c H locs cells slots Q (F0 m (pc + 3) ls (.ref b :: rest))) : W p l e R s m args below meth c H locs cells slots Q (F0 m pc ls (.ref a :: rest)) := g_get hC hP (ci := 7) (k := 13) rfl (by decide) uW_X7 (by decide) fL_X7_41 hKa hdg (by show W p l e R s m args below meth c H locs cells slots Q (F0 m (pc + 3) ls (va_rf (gR S a 13) :: rest)); rw [hR]; exact kk)
theorem gq_X7_41 (hC : gC N0 D cy p s m args c cc nL RX7) (hP : gP N0 D cy S H) (hKa : gK S a = 8) (hdg : decode cc pc = .ok (.getfield 41, 3)) (kn : gR S a 13 = none → W p l e R s m args below meth c H locs cells slots Q (F0 m (pc + 3) ls (.null :: rest))) (ks : ∀ b : Nat, gR S a 13 = some b → W p l e R s m args below meth c H locs cells slots Q (F0 m (pc + 3) ls (.ref b :: rest))) : W p l e R s m args below meth c H locs cells slots Q (F0 m pc ls (.ref a :: rest)) := g_get hC hP (ci := 7) (k := 13) rfl (by decide) uW_X7 (by decide) fL_X7_41 hKa hdg (by show W p l e R s m args below meth c H locs cells slots Q (F0 m (pc + 3) ls (va_rf (gR S a 13) :: rest)); cases hq : gR S a 13 with | none => exact kn hq | some b => exact ks b hq)
theorem pt_X7_41 {v : Option Nat} (hC : gC N0 D cy p s m args c cc nL RX7) (hP : gP N0 D cy S H) (hS : va_S (fun q => N0 ≤ q) s.heap H locs) (hKa : gK S a = 8) (hin : meth.name = "<init>")  (hdg : decode cc pc = .ok (.putfield 41, 3)) (kk : ∀ (H1 : Heap) (locs1 : List Loc), gP N0 D cy (sR S a 13 v) H1 → H1.size = H.size → va_S (fun q => N0 ≤ q) s.heap H1 locs1 → W p l e R s m args below meth c H1 locs1 cells slots Q (F0 m (pc + 3) ls rest)) : W p l e R s m args below meth c H locs cells slots Q (F0 m pc ls (va_rf v :: .ref a :: rest)) := g_put (S2 := sR S a 13 v) hC hP hS (ci := 7) (k := 13) rfl (by decide) uW_X7 tyX7_ok nmX7 (by decide) fL_X7_41 (Or.inr ⟨hin, rfl, rfl⟩) (by cases v <;> rfl) (by cases v <;> rfl) hKa rfl (fun b hb => gE_sR hb) (gF_R rfl (by decide)) hdg kk
theorem gt_X7_44 (hC : gC N0 D cy p s m args c cc nL RX7) (hP : gP N0 D cy S H) (hKa : gK S a = 8) {b : Nat} (hR : gR S a 14 = some b) (hdg : decode cc pc = .ok (.getfield 44, 3)) (kk : W p l e R s m args below meth c H locs cells slots Q (F0 m (pc + 3) ls (.ref b :: rest))) : W p l e R s m args below meth c H locs cells slots Q (F0 m pc ls (.ref a :: rest)) := g_get hC hP (ci := 7) (k := 14) rfl (by decide) uW_X7 (by decide) fL_X7_44 hKa hdg (by show W p l e R s m args below meth c H locs cells slots Q (F0 m (pc + 3) ls (va_rf (gR S a 14) :: rest)); rw [hR]; exact kk)
theorem gq_X7_44 (hC : gC N0 D cy p s m args c cc nL RX7) (hP : gP N0 D cy S H) (hKa : gK S a = 8) (hdg : decode cc pc = .ok (.getfield 44, 3)) (kn : gR S a 14 = none → W p l e R s m args below meth c H locs cells slots Q (F0 m (pc + 3) ls (.null :: rest))) (ks : ∀ b : Nat, gR S a 14 = some b → W p l e R s m args below meth c H locs cells slots Q (F0 m (pc + 3) ls (.ref b :: rest))) : W p l e R s m args below meth c H locs cells slots Q (F0 m pc ls (.ref a :: rest)) := g_get hC hP (ci := 7) (k := 14) rfl (by decide) uW_X7 (by decide) fL_X7_44 hKa hdg (by show W p l e R s m args below meth c H locs cells slots Q (F0 m (pc + 3) ls (va_rf (gR S a 14) :: rest)); cases hq : gR S a 14 with | none => exact kn hq | some b => exact ks b hq)
theorem pt_X7_44 {v : Option Nat} (hC : gC N0 D cy p s m args c cc nL RX7) (hP : gP N0 D cy S H) (hS : va_S (fun q => N0 ≤ q) s.heap H locs) (hKa : gK S a = 8) (hin : meth.name = "<init>")  (hdg : decode cc pc = .ok (.putfield 44, 3)) (kk : ∀ (H1 : Heap) (locs1 : List Loc), gP N0 D cy (sR S a 14 v) H1 → H1.size = H.size → va_S (fun q => N0 ≤ q) s.heap H1 locs1 → W p l e R s m args below meth c H1 locs1 cells slots Q (F0 m (pc + 3) ls rest)) : W p l e R s m args below meth c H locs cells slots Q (F0 m pc ls (va_rf v :: .ref a :: rest)) := g_put (S2 := sR S a 14 v) hC hP hS (ci := 7) (k := 14) rfl (by decide) uW_X7 tyX7_ok nmX7 (by decide) fL_X7_44 (Or.inr ⟨hin, rfl, rfl⟩) (by cases v <;> rfl) (by cases v <;> rfl) hKa rfl (fun b hb => gE_sR hb) (gF_R rfl (by decide)) hdg kk
theorem gt_X7_47 (hC : gC N0 D cy p s m args c cc nL RX7) (hP : gP N0 D cy S H) (hKa : gK S a = 8) {b : Nat} (hR : gR S a 15 = some b) (hdg : decode cc pc = .ok (.getfield 47, 3)) (kk : W p l e R s m args below meth c H locs cells slots Q (F0 m (pc + 3) ls (.ref b :: rest))) : W p l e R s m args below meth c H locs cells slots Q (F0 m pc ls (.ref a :: rest)) := g_get hC hP (ci := 7) (k := 15) rfl (by decide) uW_X7 (by decide) fL_X7_47 hKa hdg (by show W p l e R s m args below meth c H locs cells slots Q (F0 m (pc + 3) ls (va_rf (gR S a 15) :: rest)); rw [hR]; exact kk)
theorem gq_X7_47 (hC : gC N0 D cy p s m args c cc nL RX7) (hP : gP N0 D cy S H) (hKa : gK S a = 8) (hdg : decode cc pc = .ok (.getfield 47, 3)) (kn : gR S a 15 = none → W p l e R s m args below meth c H locs cells slots Q (F0 m (pc + 3) ls (.null :: rest))) (ks : ∀ b : Nat, gR S a 15 = some b → W p l e R s m args below meth c H locs cells slots Q (F0 m (pc + 3) ls (.ref b :: rest))) : W p l e R s m args below meth c H locs cells slots Q (F0 m pc ls (.ref a :: rest)) := g_get hC hP (ci := 7) (k := 15) rfl (by decide) uW_X7 (by decide) fL_X7_47 hKa hdg (by show W p l e R s m args below meth c H locs cells slots Q (F0 m (pc + 3) ls (va_rf (gR S a 15) :: rest)); cases hq : gR S a 15 with | none => exact kn hq | some b => exact ks b hq)
theorem pt_X7_47 {v : Option Nat} (hC : gC N0 D cy p s m args c cc nL RX7) (hP : gP N0 D cy S H) (hS : va_S (fun q => N0 ≤ q) s.heap H locs) (hKa : gK S a = 8) (hin : meth.name = "<init>")  (hdg : decode cc pc = .ok (.putfield 47, 3)) (kk : ∀ (H1 : Heap) (locs1 : List Loc), gP N0 D cy (sR S a 15 v) H1 → H1.size = H.size → va_S (fun q => N0 ≤ q) s.heap H1 locs1 → W p l e R s m args below meth c H1 locs1 cells slots Q (F0 m (pc + 3) ls rest)) : W p l e R s m args below meth c H locs cells slots Q (F0 m pc ls (va_rf v :: .ref a :: rest)) := g_put (S2 := sR S a 15 v) hC hP hS (ci := 7) (k := 15) rfl (by decide) uW_X7 tyX7_ok nmX7 (by decide) fL_X7_47 (Or.inr ⟨hin, rfl, rfl⟩) (by cases v <;> rfl) (by cases v <;> rfl) hKa rfl (fun b hb => gE_sR hb) (gF_R rfl (by decide)) hdg kk
theorem gt_X7_50 (hC : gC N0 D cy p s m args c cc nL RX7) (hP : gP N0 D cy S H) (hKa : gK S a = 8) {b : Nat} (hR : gR S a 16 = some b) (hdg : decode cc pc = .ok (.getfield 50, 3)) (kk : W p l e R s m args below meth c H locs cells slots Q (F0 m (pc + 3) ls (.ref b :: rest))) : W p l e R s m args below meth c H locs cells slots Q (F0 m pc ls (.ref a :: rest)) := g_get hC hP (ci := 7) (k := 16) rfl (by decide) uW_X7 (by decide) fL_X7_50 hKa hdg (by show W p l e R s m args below meth c H locs cells slots Q (F0 m (pc + 3) ls (va_rf (gR S a 16) :: rest)); rw [hR]; exact kk)
theorem gq_X7_50 (hC : gC N0 D cy p s m args c cc nL RX7) (hP : gP N0 D cy S H) (hKa : gK S a = 8) (hdg : decode cc pc = .ok (.getfield 50, 3)) (kn : gR S a 16 = none → W p l e R s m args below meth c H locs cells slots Q (F0 m (pc + 3) ls (.null :: rest))) (ks : ∀ b : Nat, gR S a 16 = some b → W p l e R s m args below meth c H locs cells slots Q (F0 m (pc + 3) ls (.ref b :: rest))) : W p l e R s m args below meth c H locs cells slots Q (F0 m pc ls (.ref a :: rest)) := g_get hC hP (ci := 7) (k := 16) rfl (by decide) uW_X7 (by decide) fL_X7_50 hKa hdg (by show W p l e R s m args below meth c H locs cells slots Q (F0 m (pc + 3) ls (va_rf (gR S a 16) :: rest)); cases hq : gR S a 16 with | none => exact kn hq | some b => exact ks b hq)
theorem pt_X7_50 {v : Option Nat} (hC : gC N0 D cy p s m args c cc nL RX7) (hP : gP N0 D cy S H) (hS : va_S (fun q => N0 ≤ q) s.heap H locs) (hKa : gK S a = 8) (hin : meth.name = "<init>")  (hdg : decode cc pc = .ok (.putfield 50, 3)) (kk : ∀ (H1 : Heap) (locs1 : List Loc), gP N0 D cy (sR S a 16 v) H1 → H1.size = H.size → va_S (fun q => N0 ≤ q) s.heap H1 locs1 → W p l e R s m args below meth c H1 locs1 cells slots Q (F0 m (pc + 3) ls rest)) : W p l e R s m args below meth c H locs cells slots Q (F0 m pc ls (va_rf v :: .ref a :: rest)) := g_put (S2 := sR S a 16 v) hC hP hS (ci := 7) (k := 16) rfl (by decide) uW_X7 tyX7_ok nmX7 (by decide) fL_X7_50 (Or.inr ⟨hin, rfl, rfl⟩) (by cases v <;> rfl) (by cases v <;> rfl) hKa rfl (fun b hb => gE_sR hb) (gF_R rfl (by decide)) hdg kk
theorem gt_X7_53 (hC : gC N0 D cy p s m args c cc nL RX7) (hP : gP N0 D cy S H) (hKa : gK S a = 8) {b : Nat} (hR : gR S a 17 = some b) (hdg : decode cc pc = .ok (.getfield 53, 3)) (kk : W p l e R s m args below meth c H locs cells slots Q (F0 m (pc + 3) ls (.ref b :: rest))) : W p l e R s m args below meth c H locs cells slots Q (F0 m pc ls (.ref a :: rest)) := g_get hC hP (ci := 7) (k := 17) rfl (by decide) uW_X7 (by decide) fL_X7_53 hKa hdg (by show W p l e R s m args below meth c H locs cells slots Q (F0 m (pc + 3) ls (va_rf (gR S a 17) :: rest)); rw [hR]; exact kk)
theorem gq_X7_53 (hC : gC N0 D cy p s m args c cc nL RX7) (hP : gP N0 D cy S H) (hKa : gK S a = 8) (hdg : decode cc pc = .ok (.getfield 53, 3)) (kn : gR S a 17 = none → W p l e R s m args below meth c H locs cells slots Q (F0 m (pc + 3) ls (.null :: rest))) (ks : ∀ b : Nat, gR S a 17 = some b → W p l e R s m args below meth c H locs cells slots Q (F0 m (pc + 3) ls (.ref b :: rest))) : W p l e R s m args below meth c H locs cells slots Q (F0 m pc ls (.ref a :: rest)) := g_get hC hP (ci := 7) (k := 17) rfl (by decide) uW_X7 (by decide) fL_X7_53 hKa hdg (by show W p l e R s m args below meth c H locs cells slots Q (F0 m (pc + 3) ls (va_rf (gR S a 17) :: rest)); cases hq : gR S a 17 with | none => exact kn hq | some b => exact ks b hq)
theorem pt_X7_53 {v : Option Nat} (hC : gC N0 D cy p s m args c cc nL RX7) (hP : gP N0 D cy S H) (hS : va_S (fun q => N0 ≤ q) s.heap H locs) (hKa : gK S a = 8) (hin : meth.name = "<init>")  (hdg : decode cc pc = .ok (.putfield 53, 3)) (kk : ∀ (H1 : Heap) (locs1 : List Loc), gP N0 D cy (sR S a 17 v) H1 → H1.size = H.size → va_S (fun q => N0 ≤ q) s.heap H1 locs1 → W p l e R s m args below meth c H1 locs1 cells slots Q (F0 m (pc + 3) ls rest)) : W p l e R s m args below meth c H locs cells slots Q (F0 m pc ls (va_rf v :: .ref a :: rest)) := g_put (S2 := sR S a 17 v) hC hP hS (ci := 7) (k := 17) rfl (by decide) uW_X7 tyX7_ok nmX7 (by decide) fL_X7_53 (Or.inr ⟨hin, rfl, rfl⟩) (by cases v <;> rfl) (by cases v <;> rfl) hKa rfl (fun b hb => gE_sR hb) (gF_R rfl (by decide)) hdg kk
theorem gt_X7_57 (hC : gC N0 D cy p s m args c cc nL RX7) (hP : gP N0 D cy S H) (hKa : gK S a = 8) {b : Nat} (hR : gR S a 18 = some b) (hdg : decode cc pc = .ok (.getfield 57, 3)) (kk : W p l e R s m args below meth c H locs cells slots Q (F0 m (pc + 3) ls (.ref b :: rest))) : W p l e R s m args below meth c H locs cells slots Q (F0 m pc ls (.ref a :: rest)) := g_get hC hP (ci := 7) (k := 18) rfl (by decide) uW_X7 (by decide) fL_X7_57 hKa hdg (by show W p l e R s m args below meth c H locs cells slots Q (F0 m (pc + 3) ls (va_rf (gR S a 18) :: rest)); rw [hR]; exact kk)
theorem gq_X7_57 (hC : gC N0 D cy p s m args c cc nL RX7) (hP : gP N0 D cy S H) (hKa : gK S a = 8) (hdg : decode cc pc = .ok (.getfield 57, 3)) (kn : gR S a 18 = none → W p l e R s m args below meth c H locs cells slots Q (F0 m (pc + 3) ls (.null :: rest))) (ks : ∀ b : Nat, gR S a 18 = some b → W p l e R s m args below meth c H locs cells slots Q (F0 m (pc + 3) ls (.ref b :: rest))) : W p l e R s m args below meth c H locs cells slots Q (F0 m pc ls (.ref a :: rest)) := g_get hC hP (ci := 7) (k := 18) rfl (by decide) uW_X7 (by decide) fL_X7_57 hKa hdg (by show W p l e R s m args below meth c H locs cells slots Q (F0 m (pc + 3) ls (va_rf (gR S a 18) :: rest)); cases hq : gR S a 18 with | none => exact kn hq | some b => exact ks b hq)
theorem pt_X7_57 {v : Option Nat} (hC : gC N0 D cy p s m args c cc nL RX7) (hP : gP N0 D cy S H) (hS : va_S (fun q => N0 ≤ q) s.heap H locs) (hKa : gK S a = 8) (hin : meth.name = "<init>")  (hdg : decode cc pc = .ok (.putfield 57, 3)) (kk : ∀ (H1 : Heap) (locs1 : List Loc), gP N0 D cy (sR S a 18 v) H1 → H1.size = H.size → va_S (fun q => N0 ≤ q) s.heap H1 locs1 → W p l e R s m args below meth c H1 locs1 cells slots Q (F0 m (pc + 3) ls rest)) : W p l e R s m args below meth c H locs cells slots Q (F0 m pc ls (va_rf v :: .ref a :: rest)) := g_put (S2 := sR S a 18 v) hC hP hS (ci := 7) (k := 18) rfl (by decide) uW_X7 tyX7_ok nmX7 (by decide) fL_X7_57 (Or.inr ⟨hin, rfl, rfl⟩) (by cases v <;> rfl) (by cases v <;> rfl) hKa rfl (fun b hb => gE_sR hb) (gF_R rfl (by decide)) hdg kk
theorem gt_X7_60 (hC : gC N0 D cy p s m args c cc nL RX7) (hP : gP N0 D cy S H) (hKa : gK S a = 8) {b : Nat} (hR : gR S a 19 = some b) (hdg : decode cc pc = .ok (.getfield 60, 3)) (kk : W p l e R s m args below meth c H locs cells slots Q (F0 m (pc + 3) ls (.ref b :: rest))) : W p l e R s m args below meth c H locs cells slots Q (F0 m pc ls (.ref a :: rest)) := g_get hC hP (ci := 7) (k := 19) rfl (by decide) uW_X7 (by decide) fL_X7_60 hKa hdg (by show W p l e R s m args below meth c H locs cells slots Q (F0 m (pc + 3) ls (va_rf (gR S a 19) :: rest)); rw [hR]; exact kk)
theorem gq_X7_60 (hC : gC N0 D cy p s m args c cc nL RX7) (hP : gP N0 D cy S H) (hKa : gK S a = 8) (hdg : decode cc pc = .ok (.getfield 60, 3)) (kn : gR S a 19 = none → W p l e R s m args below meth c H locs cells slots Q (F0 m (pc + 3) ls (.null :: rest))) (ks : ∀ b : Nat, gR S a 19 = some b → W p l e R s m args below meth c H locs cells slots Q (F0 m (pc + 3) ls (.ref b :: rest))) : W p l e R s m args below meth c H locs cells slots Q (F0 m pc ls (.ref a :: rest)) := g_get hC hP (ci := 7) (k := 19) rfl (by decide) uW_X7 (by decide) fL_X7_60 hKa hdg (by show W p l e R s m args below meth c H locs cells slots Q (F0 m (pc + 3) ls (va_rf (gR S a 19) :: rest)); cases hq : gR S a 19 with | none => exact kn hq | some b => exact ks b hq)
theorem pt_X7_60 {v : Option Nat} (hC : gC N0 D cy p s m args c cc nL RX7) (hP : gP N0 D cy S H) (hS : va_S (fun q => N0 ≤ q) s.heap H locs) (hKa : gK S a = 8) (hin : meth.name = "<init>")  (hdg : decode cc pc = .ok (.putfield 60, 3)) (kk : ∀ (H1 : Heap) (locs1 : List Loc), gP N0 D cy (sR S a 19 v) H1 → H1.size = H.size → va_S (fun q => N0 ≤ q) s.heap H1 locs1 → W p l e R s m args below meth c H1 locs1 cells slots Q (F0 m (pc + 3) ls rest)) : W p l e R s m args below meth c H locs cells slots Q (F0 m pc ls (va_rf v :: .ref a :: rest)) := g_put (S2 := sR S a 19 v) hC hP hS (ci := 7) (k := 19) rfl (by decide) uW_X7 tyX7_ok nmX7 (by decide) fL_X7_60 (Or.inr ⟨hin, rfl, rfl⟩) (by cases v <;> rfl) (by cases v <;> rfl) hKa rfl (fun b hb => gE_sR hb) (gF_R rfl (by decide)) hdg kk
theorem gt_X7_63 (hC : gC N0 D cy p s m args c cc nL RX7) (hP : gP N0 D cy S H) (hKa : gK S a = 8) {b : Nat} (hR : gR S a 20 = some b) (hdg : decode cc pc = .ok (.getfield 63, 3)) (kk : W p l e R s m args below meth c H locs cells slots Q (F0 m (pc + 3) ls (.ref b :: rest))) : W p l e R s m args below meth c H locs cells slots Q (F0 m pc ls (.ref a :: rest)) := g_get hC hP (ci := 7) (k := 20) rfl (by decide) uW_X7 (by decide) fL_X7_63 hKa hdg (by show W p l e R s m args below meth c H locs cells slots Q (F0 m (pc + 3) ls (va_rf (gR S a 20) :: rest)); rw [hR]; exact kk)
theorem gq_X7_63 (hC : gC N0 D cy p s m args c cc nL RX7) (hP : gP N0 D cy S H) (hKa : gK S a = 8) (hdg : decode cc pc = .ok (.getfield 63, 3)) (kn : gR S a 20 = none → W p l e R s m args below meth c H locs cells slots Q (F0 m (pc + 3) ls (.null :: rest))) (ks : ∀ b : Nat, gR S a 20 = some b → W p l e R s m args below meth c H locs cells slots Q (F0 m (pc + 3) ls (.ref b :: rest))) : W p l e R s m args below meth c H locs cells slots Q (F0 m pc ls (.ref a :: rest)) := g_get hC hP (ci := 7) (k := 20) rfl (by decide) uW_X7 (by decide) fL_X7_63 hKa hdg (by show W p l e R s m args below meth c H locs cells slots Q (F0 m (pc + 3) ls (va_rf (gR S a 20) :: rest)); cases hq : gR S a 20 with | none => exact kn hq | some b => exact ks b hq)
theorem pt_X7_63 {v : Option Nat} (hC : gC N0 D cy p s m args c cc nL RX7) (hP : gP N0 D cy S H) (hS : va_S (fun q => N0 ≤ q) s.heap H locs) (hKa : gK S a = 8) (hin : meth.name = "<init>")  (hdg : decode cc pc = .ok (.putfield 63, 3)) (kk : ∀ (H1 : Heap) (locs1 : List Loc), gP N0 D cy (sR S a 20 v) H1 → H1.size = H.size → va_S (fun q => N0 ≤ q) s.heap H1 locs1 → W p l e R s m args below meth c H1 locs1 cells slots Q (F0 m (pc + 3) ls rest)) : W p l e R s m args below meth c H locs cells slots Q (F0 m pc ls (va_rf v :: .ref a :: rest)) := g_put (S2 := sR S a 20 v) hC hP hS (ci := 7) (k := 20) rfl (by decide) uW_X7 tyX7_ok nmX7 (by decide) fL_X7_63 (Or.inr ⟨hin, rfl, rfl⟩) (by cases v <;> rfl) (by cases v <;> rfl) hKa rfl (fun b hb => gE_sR hb) (gF_R rfl (by decide)) hdg kk
theorem gt_X7_66 (hC : gC N0 D cy p s m args c cc nL RX7) (hP : gP N0 D cy S H) (hKa : gK S a = 8) {b : Nat} (hR : gR S a 21 = some b) (hdg : decode cc pc = .ok (.getfield 66, 3)) (kk : W p l e R s m args below meth c H locs cells slots Q (F0 m (pc + 3) ls (.ref b :: rest))) : W p l e R s m args below meth c H locs cells slots Q (F0 m pc ls (.ref a :: rest)) := g_get hC hP (ci := 7) (k := 21) rfl (by decide) uW_X7 (by decide) fL_X7_66 hKa hdg (by show W p l e R s m args below meth c H locs cells slots Q (F0 m (pc + 3) ls (va_rf (gR S a 21) :: rest)); rw [hR]; exact kk)
theorem gq_X7_66 (hC : gC N0 D cy p s m args c cc nL RX7) (hP : gP N0 D cy S H) (hKa : gK S a = 8) (hdg : decode cc pc = .ok (.getfield 66, 3)) (kn : gR S a 21 = none → W p l e R s m args below meth c H locs cells slots Q (F0 m (pc + 3) ls (.null :: rest))) (ks : ∀ b : Nat, gR S a 21 = some b → W p l e R s m args below meth c H locs cells slots Q (F0 m (pc + 3) ls (.ref b :: rest))) : W p l e R s m args below meth c H locs cells slots Q (F0 m pc ls (.ref a :: rest)) := g_get hC hP (ci := 7) (k := 21) rfl (by decide) uW_X7 (by decide) fL_X7_66 hKa hdg (by show W p l e R s m args below meth c H locs cells slots Q (F0 m (pc + 3) ls (va_rf (gR S a 21) :: rest)); cases hq : gR S a 21 with | none => exact kn hq | some b => exact ks b hq)
theorem pt_X7_66 {v : Option Nat} (hC : gC N0 D cy p s m args c cc nL RX7) (hP : gP N0 D cy S H) (hS : va_S (fun q => N0 ≤ q) s.heap H locs) (hKa : gK S a = 8) (hin : meth.name = "<init>")  (hdg : decode cc pc = .ok (.putfield 66, 3)) (kk : ∀ (H1 : Heap) (locs1 : List Loc), gP N0 D cy (sR S a 21 v) H1 → H1.size = H.size → va_S (fun q => N0 ≤ q) s.heap H1 locs1 → W p l e R s m args below meth c H1 locs1 cells slots Q (F0 m (pc + 3) ls rest)) : W p l e R s m args below meth c H locs cells slots Q (F0 m pc ls (va_rf v :: .ref a :: rest)) := g_put (S2 := sR S a 21 v) hC hP hS (ci := 7) (k := 21) rfl (by decide) uW_X7 tyX7_ok nmX7 (by decide) fL_X7_66 (Or.inr ⟨hin, rfl, rfl⟩) (by cases v <;> rfl) (by cases v <;> rfl) hKa rfl (fun b hb => gE_sR hb) (gF_R rfl (by decide)) hdg kk
theorem gt_X7_69 (hC : gC N0 D cy p s m args c cc nL RX7) (hP : gP N0 D cy S H) (hKa : gK S a = 8) {b : Nat} (hR : gR S a 22 = some b) (hdg : decode cc pc = .ok (.getfield 69, 3)) (kk : W p l e R s m args below meth c H locs cells slots Q (F0 m (pc + 3) ls (.ref b :: rest))) : W p l e R s m args below meth c H locs cells slots Q (F0 m pc ls (.ref a :: rest)) := g_get hC hP (ci := 7) (k := 22) rfl (by decide) uW_X7 (by decide) fL_X7_69 hKa hdg (by show W p l e R s m args below meth c H locs cells slots Q (F0 m (pc + 3) ls (va_rf (gR S a 22) :: rest)); rw [hR]; exact kk)
theorem gq_X7_69 (hC : gC N0 D cy p s m args c cc nL RX7) (hP : gP N0 D cy S H) (hKa : gK S a = 8) (hdg : decode cc pc = .ok (.getfield 69, 3)) (kn : gR S a 22 = none → W p l e R s m args below meth c H locs cells slots Q (F0 m (pc + 3) ls (.null :: rest))) (ks : ∀ b : Nat, gR S a 22 = some b → W p l e R s m args below meth c H locs cells slots Q (F0 m (pc + 3) ls (.ref b :: rest))) : W p l e R s m args below meth c H locs cells slots Q (F0 m pc ls (.ref a :: rest)) := g_get hC hP (ci := 7) (k := 22) rfl (by decide) uW_X7 (by decide) fL_X7_69 hKa hdg (by show W p l e R s m args below meth c H locs cells slots Q (F0 m (pc + 3) ls (va_rf (gR S a 22) :: rest)); cases hq : gR S a 22 with | none => exact kn hq | some b => exact ks b hq)
theorem pt_X7_69 {v : Option Nat} (hC : gC N0 D cy p s m args c cc nL RX7) (hP : gP N0 D cy S H) (hS : va_S (fun q => N0 ≤ q) s.heap H locs) (hKa : gK S a = 8) (hin : meth.name = "<init>")  (hdg : decode cc pc = .ok (.putfield 69, 3)) (kk : ∀ (H1 : Heap) (locs1 : List Loc), gP N0 D cy (sR S a 22 v) H1 → H1.size = H.size → va_S (fun q => N0 ≤ q) s.heap H1 locs1 → W p l e R s m args below meth c H1 locs1 cells slots Q (F0 m (pc + 3) ls rest)) : W p l e R s m args below meth c H locs cells slots Q (F0 m pc ls (va_rf v :: .ref a :: rest)) := g_put (S2 := sR S a 22 v) hC hP hS (ci := 7) (k := 22) rfl (by decide) uW_X7 tyX7_ok nmX7 (by decide) fL_X7_69 (Or.inr ⟨hin, rfl, rfl⟩) (by cases v <;> rfl) (by cases v <;> rfl) hKa rfl (fun b hb => gE_sR hb) (gF_R rfl (by decide)) hdg kk
theorem gt_X7_72 (hC : gC N0 D cy p s m args c cc nL RX7) (hP : gP N0 D cy S H) (hKa : gK S a = 8) {b : Nat} (hR : gR S a 23 = some b) (hdg : decode cc pc = .ok (.getfield 72, 3)) (kk : W p l e R s m args below meth c H locs cells slots Q (F0 m (pc + 3) ls (.ref b :: rest))) : W p l e R s m args below meth c H locs cells slots Q (F0 m pc ls (.ref a :: rest)) := g_get hC hP (ci := 7) (k := 23) rfl (by decide) uW_X7 (by decide) fL_X7_72 hKa hdg (by show W p l e R s m args below meth c H locs cells slots Q (F0 m (pc + 3) ls (va_rf (gR S a 23) :: rest)); rw [hR]; exact kk)
theorem gq_X7_72 (hC : gC N0 D cy p s m args c cc nL RX7) (hP : gP N0 D cy S H) (hKa : gK S a = 8) (hdg : decode cc pc = .ok (.getfield 72, 3)) (kn : gR S a 23 = none → W p l e R s m args below meth c H locs cells slots Q (F0 m (pc + 3) ls (.null :: rest))) (ks : ∀ b : Nat, gR S a 23 = some b → W p l e R s m args below meth c H locs cells slots Q (F0 m (pc + 3) ls (.ref b :: rest))) : W p l e R s m args below meth c H locs cells slots Q (F0 m pc ls (.ref a :: rest)) := g_get hC hP (ci := 7) (k := 23) rfl (by decide) uW_X7 (by decide) fL_X7_72 hKa hdg (by show W p l e R s m args below meth c H locs cells slots Q (F0 m (pc + 3) ls (va_rf (gR S a 23) :: rest)); cases hq : gR S a 23 with | none => exact kn hq | some b => exact ks b hq)
theorem pt_X7_72 {v : Option Nat} (hC : gC N0 D cy p s m args c cc nL RX7) (hP : gP N0 D cy S H) (hS : va_S (fun q => N0 ≤ q) s.heap H locs) (hKa : gK S a = 8) (hin : meth.name = "<init>")  (hdg : decode cc pc = .ok (.putfield 72, 3)) (kk : ∀ (H1 : Heap) (locs1 : List Loc), gP N0 D cy (sR S a 23 v) H1 → H1.size = H.size → va_S (fun q => N0 ≤ q) s.heap H1 locs1 → W p l e R s m args below meth c H1 locs1 cells slots Q (F0 m (pc + 3) ls rest)) : W p l e R s m args below meth c H locs cells slots Q (F0 m pc ls (va_rf v :: .ref a :: rest)) := g_put (S2 := sR S a 23 v) hC hP hS (ci := 7) (k := 23) rfl (by decide) uW_X7 tyX7_ok nmX7 (by decide) fL_X7_72 (Or.inr ⟨hin, rfl, rfl⟩) (by cases v <;> rfl) (by cases v <;> rfl) hKa rfl (fun b hb => gE_sR hb) (gF_R rfl (by decide)) hdg kk
theorem gt_X7_75 (hC : gC N0 D cy p s m args c cc nL RX7) (hP : gP N0 D cy S H) (hKa : gK S a = 8) {b : Nat} (hR : gR S a 24 = some b) (hdg : decode cc pc = .ok (.getfield 75, 3)) (kk : W p l e R s m args below meth c H locs cells slots Q (F0 m (pc + 3) ls (.ref b :: rest))) : W p l e R s m args below meth c H locs cells slots Q (F0 m pc ls (.ref a :: rest)) := g_get hC hP (ci := 7) (k := 24) rfl (by decide) uW_X7 (by decide) fL_X7_75 hKa hdg (by show W p l e R s m args below meth c H locs cells slots Q (F0 m (pc + 3) ls (va_rf (gR S a 24) :: rest)); rw [hR]; exact kk)
theorem gq_X7_75 (hC : gC N0 D cy p s m args c cc nL RX7) (hP : gP N0 D cy S H) (hKa : gK S a = 8) (hdg : decode cc pc = .ok (.getfield 75, 3)) (kn : gR S a 24 = none → W p l e R s m args below meth c H locs cells slots Q (F0 m (pc + 3) ls (.null :: rest))) (ks : ∀ b : Nat, gR S a 24 = some b → W p l e R s m args below meth c H locs cells slots Q (F0 m (pc + 3) ls (.ref b :: rest))) : W p l e R s m args below meth c H locs cells slots Q (F0 m pc ls (.ref a :: rest)) := g_get hC hP (ci := 7) (k := 24) rfl (by decide) uW_X7 (by decide) fL_X7_75 hKa hdg (by show W p l e R s m args below meth c H locs cells slots Q (F0 m (pc + 3) ls (va_rf (gR S a 24) :: rest)); cases hq : gR S a 24 with | none => exact kn hq | some b => exact ks b hq)
theorem pt_X7_75 {v : Option Nat} (hC : gC N0 D cy p s m args c cc nL RX7) (hP : gP N0 D cy S H) (hS : va_S (fun q => N0 ≤ q) s.heap H locs) (hKa : gK S a = 8) (hin : meth.name = "<init>")  (hdg : decode cc pc = .ok (.putfield 75, 3)) (kk : ∀ (H1 : Heap) (locs1 : List Loc), gP N0 D cy (sR S a 24 v) H1 → H1.size = H.size → va_S (fun q => N0 ≤ q) s.heap H1 locs1 → W p l e R s m args below meth c H1 locs1 cells slots Q (F0 m (pc + 3) ls rest)) : W p l e R s m args below meth c H locs cells slots Q (F0 m pc ls (va_rf v :: .ref a :: rest)) := g_put (S2 := sR S a 24 v) hC hP hS (ci := 7) (k := 24) rfl (by decide) uW_X7 tyX7_ok nmX7 (by decide) fL_X7_75 (Or.inr ⟨hin, rfl, rfl⟩) (by cases v <;> rfl) (by cases v <;> rfl) hKa rfl (fun b hb => gE_sR hb) (gF_R rfl (by decide)) hdg kk
theorem gt_X7_78 (hC : gC N0 D cy p s m args c cc nL RX7) (hP : gP N0 D cy S H) (hKa : gK S a = 8) {b : Nat} (hR : gR S a 25 = some b) (hdg : decode cc pc = .ok (.getfield 78, 3)) (kk : W p l e R s m args below meth c H locs cells slots Q (F0 m (pc + 3) ls (.ref b :: rest))) : W p l e R s m args below meth c H locs cells slots Q (F0 m pc ls (.ref a :: rest)) := g_get hC hP (ci := 7) (k := 25) rfl (by decide) uW_X7 (by decide) fL_X7_78 hKa hdg (by show W p l e R s m args below meth c H locs cells slots Q (F0 m (pc + 3) ls (va_rf (gR S a 25) :: rest)); rw [hR]; exact kk)
theorem gq_X7_78 (hC : gC N0 D cy p s m args c cc nL RX7) (hP : gP N0 D cy S H) (hKa : gK S a = 8) (hdg : decode cc pc = .ok (.getfield 78, 3)) (kn : gR S a 25 = none → W p l e R s m args below meth c H locs cells slots Q (F0 m (pc + 3) ls (.null :: rest))) (ks : ∀ b : Nat, gR S a 25 = some b → W p l e R s m args below meth c H locs cells slots Q (F0 m (pc + 3) ls (.ref b :: rest))) : W p l e R s m args below meth c H locs cells slots Q (F0 m pc ls (.ref a :: rest)) := g_get hC hP (ci := 7) (k := 25) rfl (by decide) uW_X7 (by decide) fL_X7_78 hKa hdg (by show W p l e R s m args below meth c H locs cells slots Q (F0 m (pc + 3) ls (va_rf (gR S a 25) :: rest)); cases hq : gR S a 25 with | none => exact kn hq | some b => exact ks b hq)
theorem pt_X7_78 {v : Option Nat} (hC : gC N0 D cy p s m args c cc nL RX7) (hP : gP N0 D cy S H) (hS : va_S (fun q => N0 ≤ q) s.heap H locs) (hKa : gK S a = 8) (hin : meth.name = "<init>")  (hdg : decode cc pc = .ok (.putfield 78, 3)) (kk : ∀ (H1 : Heap) (locs1 : List Loc), gP N0 D cy (sR S a 25 v) H1 → H1.size = H.size → va_S (fun q => N0 ≤ q) s.heap H1 locs1 → W p l e R s m args below meth c H1 locs1 cells slots Q (F0 m (pc + 3) ls rest)) : W p l e R s m args below meth c H locs cells slots Q (F0 m pc ls (va_rf v :: .ref a :: rest)) := g_put (S2 := sR S a 25 v) hC hP hS (ci := 7) (k := 25) rfl (by decide) uW_X7 tyX7_ok nmX7 (by decide) fL_X7_78 (Or.inr ⟨hin, rfl, rfl⟩) (by cases v <;> rfl) (by cases v <;> rfl) hKa rfl (fun b hb => gE_sR hb) (gF_R rfl (by decide)) hdg kk
theorem gt_X7_81 (hC : gC N0 D cy p s m args c cc nL RX7) (hP : gP N0 D cy S H) (hKa : gK S a = 8) {b : Nat} (hR : gR S a 26 = some b) (hdg : decode cc pc = .ok (.getfield 81, 3)) (kk : W p l e R s m args below meth c H locs cells slots Q (F0 m (pc + 3) ls (.ref b :: rest))) : W p l e R s m args below meth c H locs cells slots Q (F0 m pc ls (.ref a :: rest)) := g_get hC hP (ci := 7) (k := 26) rfl (by decide) uW_X7 (by decide) fL_X7_81 hKa hdg (by show W p l e R s m args below meth c H locs cells slots Q (F0 m (pc + 3) ls (va_rf (gR S a 26) :: rest)); rw [hR]; exact kk)
theorem gq_X7_81 (hC : gC N0 D cy p s m args c cc nL RX7) (hP : gP N0 D cy S H) (hKa : gK S a = 8) (hdg : decode cc pc = .ok (.getfield 81, 3)) (kn : gR S a 26 = none → W p l e R s m args below meth c H locs cells slots Q (F0 m (pc + 3) ls (.null :: rest))) (ks : ∀ b : Nat, gR S a 26 = some b → W p l e R s m args below meth c H locs cells slots Q (F0 m (pc + 3) ls (.ref b :: rest))) : W p l e R s m args below meth c H locs cells slots Q (F0 m pc ls (.ref a :: rest)) := g_get hC hP (ci := 7) (k := 26) rfl (by decide) uW_X7 (by decide) fL_X7_81 hKa hdg (by show W p l e R s m args below meth c H locs cells slots Q (F0 m (pc + 3) ls (va_rf (gR S a 26) :: rest)); cases hq : gR S a 26 with | none => exact kn hq | some b => exact ks b hq)
theorem pt_X7_81 {v : Option Nat} (hC : gC N0 D cy p s m args c cc nL RX7) (hP : gP N0 D cy S H) (hS : va_S (fun q => N0 ≤ q) s.heap H locs) (hKa : gK S a = 8) (hin : meth.name = "<init>")  (hdg : decode cc pc = .ok (.putfield 81, 3)) (kk : ∀ (H1 : Heap) (locs1 : List Loc), gP N0 D cy (sR S a 26 v) H1 → H1.size = H.size → va_S (fun q => N0 ≤ q) s.heap H1 locs1 → W p l e R s m args below meth c H1 locs1 cells slots Q (F0 m (pc + 3) ls rest)) : W p l e R s m args below meth c H locs cells slots Q (F0 m pc ls (va_rf v :: .ref a :: rest)) := g_put (S2 := sR S a 26 v) hC hP hS (ci := 7) (k := 26) rfl (by decide) uW_X7 tyX7_ok nmX7 (by decide) fL_X7_81 (Or.inr ⟨hin, rfl, rfl⟩) (by cases v <;> rfl) (by cases v <;> rfl) hKa rfl (fun b hb => gE_sR hb) (gF_R rfl (by decide)) hdg kk
theorem gt_X7_84 (hC : gC N0 D cy p s m args c cc nL RX7) (hP : gP N0 D cy S H) (hKa : gK S a = 8) {b : Nat} (hR : gR S a 27 = some b) (hdg : decode cc pc = .ok (.getfield 84, 3)) (kk : W p l e R s m args below meth c H locs cells slots Q (F0 m (pc + 3) ls (.ref b :: rest))) : W p l e R s m args below meth c H locs cells slots Q (F0 m pc ls (.ref a :: rest)) := g_get hC hP (ci := 7) (k := 27) rfl (by decide) uW_X7 (by decide) fL_X7_84 hKa hdg (by show W p l e R s m args below meth c H locs cells slots Q (F0 m (pc + 3) ls (va_rf (gR S a 27) :: rest)); rw [hR]; exact kk)
theorem gq_X7_84 (hC : gC N0 D cy p s m args c cc nL RX7) (hP : gP N0 D cy S H) (hKa : gK S a = 8) (hdg : decode cc pc = .ok (.getfield 84, 3)) (kn : gR S a 27 = none → W p l e R s m args below meth c H locs cells slots Q (F0 m (pc + 3) ls (.null :: rest))) (ks : ∀ b : Nat, gR S a 27 = some b → W p l e R s m args below meth c H locs cells slots Q (F0 m (pc + 3) ls (.ref b :: rest))) : W p l e R s m args below meth c H locs cells slots Q (F0 m pc ls (.ref a :: rest)) := g_get hC hP (ci := 7) (k := 27) rfl (by decide) uW_X7 (by decide) fL_X7_84 hKa hdg (by show W p l e R s m args below meth c H locs cells slots Q (F0 m (pc + 3) ls (va_rf (gR S a 27) :: rest)); cases hq : gR S a 27 with | none => exact kn hq | some b => exact ks b hq)
theorem pt_X7_84 {v : Option Nat} (hC : gC N0 D cy p s m args c cc nL RX7) (hP : gP N0 D cy S H) (hS : va_S (fun q => N0 ≤ q) s.heap H locs) (hKa : gK S a = 8) (hin : meth.name = "<init>")  (hdg : decode cc pc = .ok (.putfield 84, 3)) (kk : ∀ (H1 : Heap) (locs1 : List Loc), gP N0 D cy (sR S a 27 v) H1 → H1.size = H.size → va_S (fun q => N0 ≤ q) s.heap H1 locs1 → W p l e R s m args below meth c H1 locs1 cells slots Q (F0 m (pc + 3) ls rest)) : W p l e R s m args below meth c H locs cells slots Q (F0 m pc ls (va_rf v :: .ref a :: rest)) := g_put (S2 := sR S a 27 v) hC hP hS (ci := 7) (k := 27) rfl (by decide) uW_X7 tyX7_ok nmX7 (by decide) fL_X7_84 (Or.inr ⟨hin, rfl, rfl⟩) (by cases v <;> rfl) (by cases v <;> rfl) hKa rfl (fun b hb => gE_sR hb) (gF_R rfl (by decide)) hdg kk
theorem gt_X7_87 (hC : gC N0 D cy p s m args c cc nL RX7) (hP : gP N0 D cy S H) (hKa : gK S a = 8) {b : Nat} (hR : gR S a 28 = some b) (hdg : decode cc pc = .ok (.getfield 87, 3)) (kk : W p l e R s m args below meth c H locs cells slots Q (F0 m (pc + 3) ls (.ref b :: rest))) : W p l e R s m args below meth c H locs cells slots Q (F0 m pc ls (.ref a :: rest)) := g_get hC hP (ci := 7) (k := 28) rfl (by decide) uW_X7 (by decide) fL_X7_87 hKa hdg (by show W p l e R s m args below meth c H locs cells slots Q (F0 m (pc + 3) ls (va_rf (gR S a 28) :: rest)); rw [hR]; exact kk)
theorem gq_X7_87 (hC : gC N0 D cy p s m args c cc nL RX7) (hP : gP N0 D cy S H) (hKa : gK S a = 8) (hdg : decode cc pc = .ok (.getfield 87, 3)) (kn : gR S a 28 = none → W p l e R s m args below meth c H locs cells slots Q (F0 m (pc + 3) ls (.null :: rest))) (ks : ∀ b : Nat, gR S a 28 = some b → W p l e R s m args below meth c H locs cells slots Q (F0 m (pc + 3) ls (.ref b :: rest))) : W p l e R s m args below meth c H locs cells slots Q (F0 m pc ls (.ref a :: rest)) := g_get hC hP (ci := 7) (k := 28) rfl (by decide) uW_X7 (by decide) fL_X7_87 hKa hdg (by show W p l e R s m args below meth c H locs cells slots Q (F0 m (pc + 3) ls (va_rf (gR S a 28) :: rest)); cases hq : gR S a 28 with | none => exact kn hq | some b => exact ks b hq)
theorem pt_X7_87 {v : Option Nat} (hC : gC N0 D cy p s m args c cc nL RX7) (hP : gP N0 D cy S H) (hS : va_S (fun q => N0 ≤ q) s.heap H locs) (hKa : gK S a = 8) (hin : meth.name = "<init>")  (hdg : decode cc pc = .ok (.putfield 87, 3)) (kk : ∀ (H1 : Heap) (locs1 : List Loc), gP N0 D cy (sR S a 28 v) H1 → H1.size = H.size → va_S (fun q => N0 ≤ q) s.heap H1 locs1 → W p l e R s m args below meth c H1 locs1 cells slots Q (F0 m (pc + 3) ls rest)) : W p l e R s m args below meth c H locs cells slots Q (F0 m pc ls (va_rf v :: .ref a :: rest)) := g_put (S2 := sR S a 28 v) hC hP hS (ci := 7) (k := 28) rfl (by decide) uW_X7 tyX7_ok nmX7 (by decide) fL_X7_87 (Or.inr ⟨hin, rfl, rfl⟩) (by cases v <;> rfl) (by cases v <;> rfl) hKa rfl (fun b hb => gE_sR hb) (gF_R rfl (by decide)) hdg kk
theorem gt_X7_90 (hC : gC N0 D cy p s m args c cc nL RX7) (hP : gP N0 D cy S H) (hKa : gK S a = 8) {b : Nat} (hR : gR S a 29 = some b) (hdg : decode cc pc = .ok (.getfield 90, 3)) (kk : W p l e R s m args below meth c H locs cells slots Q (F0 m (pc + 3) ls (.ref b :: rest))) : W p l e R s m args below meth c H locs cells slots Q (F0 m pc ls (.ref a :: rest)) := g_get hC hP (ci := 7) (k := 29) rfl (by decide) uW_X7 (by decide) fL_X7_90 hKa hdg (by show W p l e R s m args below meth c H locs cells slots Q (F0 m (pc + 3) ls (va_rf (gR S a 29) :: rest)); rw [hR]; exact kk)
theorem gq_X7_90 (hC : gC N0 D cy p s m args c cc nL RX7) (hP : gP N0 D cy S H) (hKa : gK S a = 8) (hdg : decode cc pc = .ok (.getfield 90, 3)) (kn : gR S a 29 = none → W p l e R s m args below meth c H locs cells slots Q (F0 m (pc + 3) ls (.null :: rest))) (ks : ∀ b : Nat, gR S a 29 = some b → W p l e R s m args below meth c H locs cells slots Q (F0 m (pc + 3) ls (.ref b :: rest))) : W p l e R s m args below meth c H locs cells slots Q (F0 m pc ls (.ref a :: rest)) := g_get hC hP (ci := 7) (k := 29) rfl (by decide) uW_X7 (by decide) fL_X7_90 hKa hdg (by show W p l e R s m args below meth c H locs cells slots Q (F0 m (pc + 3) ls (va_rf (gR S a 29) :: rest)); cases hq : gR S a 29 with | none => exact kn hq | some b => exact ks b hq)
theorem pt_X7_90 {v : Option Nat} (hC : gC N0 D cy p s m args c cc nL RX7) (hP : gP N0 D cy S H) (hS : va_S (fun q => N0 ≤ q) s.heap H locs) (hKa : gK S a = 8) (hin : meth.name = "<init>")  (hdg : decode cc pc = .ok (.putfield 90, 3)) (kk : ∀ (H1 : Heap) (locs1 : List Loc), gP N0 D cy (sR S a 29 v) H1 → H1.size = H.size → va_S (fun q => N0 ≤ q) s.heap H1 locs1 → W p l e R s m args below meth c H1 locs1 cells slots Q (F0 m (pc + 3) ls rest)) : W p l e R s m args below meth c H locs cells slots Q (F0 m pc ls (va_rf v :: .ref a :: rest)) := g_put (S2 := sR S a 29 v) hC hP hS (ci := 7) (k := 29) rfl (by decide) uW_X7 tyX7_ok nmX7 (by decide) fL_X7_90 (Or.inr ⟨hin, rfl, rfl⟩) (by cases v <;> rfl) (by cases v <;> rfl) hKa rfl (fun b hb => gE_sR hb) (gF_R rfl (by decide)) hdg kk
theorem gt_X7_93 (hC : gC N0 D cy p s m args c cc nL RX7) (hP : gP N0 D cy S H) (hKa : gK S a = 8) {b : Nat} (hR : gR S a 30 = some b) (hdg : decode cc pc = .ok (.getfield 93, 3)) (kk : W p l e R s m args below meth c H locs cells slots Q (F0 m (pc + 3) ls (.ref b :: rest))) : W p l e R s m args below meth c H locs cells slots Q (F0 m pc ls (.ref a :: rest)) := g_get hC hP (ci := 7) (k := 30) rfl (by decide) uW_X7 (by decide) fL_X7_93 hKa hdg (by show W p l e R s m args below meth c H locs cells slots Q (F0 m (pc + 3) ls (va_rf (gR S a 30) :: rest)); rw [hR]; exact kk)
theorem gq_X7_93 (hC : gC N0 D cy p s m args c cc nL RX7) (hP : gP N0 D cy S H) (hKa : gK S a = 8) (hdg : decode cc pc = .ok (.getfield 93, 3)) (kn : gR S a 30 = none → W p l e R s m args below meth c H locs cells slots Q (F0 m (pc + 3) ls (.null :: rest))) (ks : ∀ b : Nat, gR S a 30 = some b → W p l e R s m args below meth c H locs cells slots Q (F0 m (pc + 3) ls (.ref b :: rest))) : W p l e R s m args below meth c H locs cells slots Q (F0 m pc ls (.ref a :: rest)) := g_get hC hP (ci := 7) (k := 30) rfl (by decide) uW_X7 (by decide) fL_X7_93 hKa hdg (by show W p l e R s m args below meth c H locs cells slots Q (F0 m (pc + 3) ls (va_rf (gR S a 30) :: rest)); cases hq : gR S a 30 with | none => exact kn hq | some b => exact ks b hq)
theorem pt_X7_93 {v : Option Nat} (hC : gC N0 D cy p s m args c cc nL RX7) (hP : gP N0 D cy S H) (hS : va_S (fun q => N0 ≤ q) s.heap H locs) (hKa : gK S a = 8) (hin : meth.name = "<init>")  (hdg : decode cc pc = .ok (.putfield 93, 3)) (kk : ∀ (H1 : Heap) (locs1 : List Loc), gP N0 D cy (sR S a 30 v) H1 → H1.size = H.size → va_S (fun q => N0 ≤ q) s.heap H1 locs1 → W p l e R s m args below meth c H1 locs1 cells slots Q (F0 m (pc + 3) ls rest)) : W p l e R s m args below meth c H locs cells slots Q (F0 m pc ls (va_rf v :: .ref a :: rest)) := g_put (S2 := sR S a 30 v) hC hP hS (ci := 7) (k := 30) rfl (by decide) uW_X7 tyX7_ok nmX7 (by decide) fL_X7_93 (Or.inr ⟨hin, rfl, rfl⟩) (by cases v <;> rfl) (by cases v <;> rfl) hKa rfl (fun b hb => gE_sR hb) (gF_R rfl (by decide)) hdg kk
theorem gt_X7_96 (hC : gC N0 D cy p s m args c cc nL RX7) (hP : gP N0 D cy S H) (hKa : gK S a = 8) {b : Nat} (hR : gR S a 31 = some b) (hdg : decode cc pc = .ok (.getfield 96, 3)) (kk : W p l e R s m args below meth c H locs cells slots Q (F0 m (pc + 3) ls (.ref b :: rest))) : W p l e R s m args below meth c H locs cells slots Q (F0 m pc ls (.ref a :: rest)) := g_get hC hP (ci := 7) (k := 31) rfl (by decide) uW_X7 (by decide) fL_X7_96 hKa hdg (by show W p l e R s m args below meth c H locs cells slots Q (F0 m (pc + 3) ls (va_rf (gR S a 31) :: rest)); rw [hR]; exact kk)
theorem gq_X7_96 (hC : gC N0 D cy p s m args c cc nL RX7) (hP : gP N0 D cy S H) (hKa : gK S a = 8) (hdg : decode cc pc = .ok (.getfield 96, 3)) (kn : gR S a 31 = none → W p l e R s m args below meth c H locs cells slots Q (F0 m (pc + 3) ls (.null :: rest))) (ks : ∀ b : Nat, gR S a 31 = some b → W p l e R s m args below meth c H locs cells slots Q (F0 m (pc + 3) ls (.ref b :: rest))) : W p l e R s m args below meth c H locs cells slots Q (F0 m pc ls (.ref a :: rest)) := g_get hC hP (ci := 7) (k := 31) rfl (by decide) uW_X7 (by decide) fL_X7_96 hKa hdg (by show W p l e R s m args below meth c H locs cells slots Q (F0 m (pc + 3) ls (va_rf (gR S a 31) :: rest)); cases hq : gR S a 31 with | none => exact kn hq | some b => exact ks b hq)
theorem pt_X7_96 {v : Option Nat} (hC : gC N0 D cy p s m args c cc nL RX7) (hP : gP N0 D cy S H) (hS : va_S (fun q => N0 ≤ q) s.heap H locs) (hKa : gK S a = 8) (hin : meth.name = "<init>")  (hdg : decode cc pc = .ok (.putfield 96, 3)) (kk : ∀ (H1 : Heap) (locs1 : List Loc), gP N0 D cy (sR S a 31 v) H1 → H1.size = H.size → va_S (fun q => N0 ≤ q) s.heap H1 locs1 → W p l e R s m args below meth c H1 locs1 cells slots Q (F0 m (pc + 3) ls rest)) : W p l e R s m args below meth c H locs cells slots Q (F0 m pc ls (va_rf v :: .ref a :: rest)) := g_put (S2 := sR S a 31 v) hC hP hS (ci := 7) (k := 31) rfl (by decide) uW_X7 tyX7_ok nmX7 (by decide) fL_X7_96 (Or.inr ⟨hin, rfl, rfl⟩) (by cases v <;> rfl) (by cases v <;> rfl) hKa rfl (fun b hb => gE_sR hb) (gF_R rfl (by decide)) hdg kk
theorem gt_X7_99 (hC : gC N0 D cy p s m args c cc nL RX7) (hP : gP N0 D cy S H) (hKa : gK S a = 8) {b : Nat} (hR : gR S a 32 = some b) (hdg : decode cc pc = .ok (.getfield 99, 3)) (kk : W p l e R s m args below meth c H locs cells slots Q (F0 m (pc + 3) ls (.ref b :: rest))) : W p l e R s m args below meth c H locs cells slots Q (F0 m pc ls (.ref a :: rest)) := g_get hC hP (ci := 7) (k := 32) rfl (by decide) uW_X7 (by decide) fL_X7_99 hKa hdg (by show W p l e R s m args below meth c H locs cells slots Q (F0 m (pc + 3) ls (va_rf (gR S a 32) :: rest)); rw [hR]; exact kk)
theorem gq_X7_99 (hC : gC N0 D cy p s m args c cc nL RX7) (hP : gP N0 D cy S H) (hKa : gK S a = 8) (hdg : decode cc pc = .ok (.getfield 99, 3)) (kn : gR S a 32 = none → W p l e R s m args below meth c H locs cells slots Q (F0 m (pc + 3) ls (.null :: rest))) (ks : ∀ b : Nat, gR S a 32 = some b → W p l e R s m args below meth c H locs cells slots Q (F0 m (pc + 3) ls (.ref b :: rest))) : W p l e R s m args below meth c H locs cells slots Q (F0 m pc ls (.ref a :: rest)) := g_get hC hP (ci := 7) (k := 32) rfl (by decide) uW_X7 (by decide) fL_X7_99 hKa hdg (by show W p l e R s m args below meth c H locs cells slots Q (F0 m (pc + 3) ls (va_rf (gR S a 32) :: rest)); cases hq : gR S a 32 with | none => exact kn hq | some b => exact ks b hq)
theorem pt_X7_99 {v : Option Nat} (hC : gC N0 D cy p s m args c cc nL RX7) (hP : gP N0 D cy S H) (hS : va_S (fun q => N0 ≤ q) s.heap H locs) (hKa : gK S a = 8) (hin : meth.name = "<init>")  (hdg : decode cc pc = .ok (.putfield 99, 3)) (kk : ∀ (H1 : Heap) (locs1 : List Loc), gP N0 D cy (sR S a 32 v) H1 → H1.size = H.size → va_S (fun q => N0 ≤ q) s.heap H1 locs1 → W p l e R s m args below meth c H1 locs1 cells slots Q (F0 m (pc + 3) ls rest)) : W p l e R s m args below meth c H locs cells slots Q (F0 m pc ls (va_rf v :: .ref a :: rest)) := g_put (S2 := sR S a 32 v) hC hP hS (ci := 7) (k := 32) rfl (by decide) uW_X7 tyX7_ok nmX7 (by decide) fL_X7_99 (Or.inr ⟨hin, rfl, rfl⟩) (by cases v <;> rfl) (by cases v <;> rfl) hKa rfl (fun b hb => gE_sR hb) (gF_R rfl (by decide)) hdg kk
theorem gt_X7_102 (hC : gC N0 D cy p s m args c cc nL RX7) (hP : gP N0 D cy S H) (hKa : gK S a = 8) {b : Nat} (hR : gR S a 33 = some b) (hdg : decode cc pc = .ok (.getfield 102, 3)) (kk : W p l e R s m args below meth c H locs cells slots Q (F0 m (pc + 3) ls (.ref b :: rest))) : W p l e R s m args below meth c H locs cells slots Q (F0 m pc ls (.ref a :: rest)) := g_get hC hP (ci := 7) (k := 33) rfl (by decide) uW_X7 (by decide) fL_X7_102 hKa hdg (by show W p l e R s m args below meth c H locs cells slots Q (F0 m (pc + 3) ls (va_rf (gR S a 33) :: rest)); rw [hR]; exact kk)
theorem gq_X7_102 (hC : gC N0 D cy p s m args c cc nL RX7) (hP : gP N0 D cy S H) (hKa : gK S a = 8) (hdg : decode cc pc = .ok (.getfield 102, 3)) (kn : gR S a 33 = none → W p l e R s m args below meth c H locs cells slots Q (F0 m (pc + 3) ls (.null :: rest))) (ks : ∀ b : Nat, gR S a 33 = some b → W p l e R s m args below meth c H locs cells slots Q (F0 m (pc + 3) ls (.ref b :: rest))) : W p l e R s m args below meth c H locs cells slots Q (F0 m pc ls (.ref a :: rest)) := g_get hC hP (ci := 7) (k := 33) rfl (by decide) uW_X7 (by decide) fL_X7_102 hKa hdg (by show W p l e R s m args below meth c H locs cells slots Q (F0 m (pc + 3) ls (va_rf (gR S a 33) :: rest)); cases hq : gR S a 33 with | none => exact kn hq | some b => exact ks b hq)
theorem pt_X7_102 {v : Option Nat} (hC : gC N0 D cy p s m args c cc nL RX7) (hP : gP N0 D cy S H) (hS : va_S (fun q => N0 ≤ q) s.heap H locs) (hKa : gK S a = 8) (hin : meth.name = "<init>")  (hdg : decode cc pc = .ok (.putfield 102, 3)) (kk : ∀ (H1 : Heap) (locs1 : List Loc), gP N0 D cy (sR S a 33 v) H1 → H1.size = H.size → va_S (fun q => N0 ≤ q) s.heap H1 locs1 → W p l e R s m args below meth c H1 locs1 cells slots Q (F0 m (pc + 3) ls rest)) : W p l e R s m args below meth c H locs cells slots Q (F0 m pc ls (va_rf v :: .ref a :: rest)) := g_put (S2 := sR S a 33 v) hC hP hS (ci := 7) (k := 33) rfl (by decide) uW_X7 tyX7_ok nmX7 (by decide) fL_X7_102 (Or.inr ⟨hin, rfl, rfl⟩) (by cases v <;> rfl) (by cases v <;> rfl) hKa rfl (fun b hb => gE_sR hb) (gF_R rfl (by decide)) hdg kk
theorem gt_X7_105 (hC : gC N0 D cy p s m args c cc nL RX7) (hP : gP N0 D cy S H) (hKa : gK S a = 8) {b : Nat} (hR : gR S a 34 = some b) (hdg : decode cc pc = .ok (.getfield 105, 3)) (kk : W p l e R s m args below meth c H locs cells slots Q (F0 m (pc + 3) ls (.ref b :: rest))) : W p l e R s m args below meth c H locs cells slots Q (F0 m pc ls (.ref a :: rest)) := g_get hC hP (ci := 7) (k := 34) rfl (by decide) uW_X7 (by decide) fL_X7_105 hKa hdg (by show W p l e R s m args below meth c H locs cells slots Q (F0 m (pc + 3) ls (va_rf (gR S a 34) :: rest)); rw [hR]; exact kk)
theorem gq_X7_105 (hC : gC N0 D cy p s m args c cc nL RX7) (hP : gP N0 D cy S H) (hKa : gK S a = 8) (hdg : decode cc pc = .ok (.getfield 105, 3)) (kn : gR S a 34 = none → W p l e R s m args below meth c H locs cells slots Q (F0 m (pc + 3) ls (.null :: rest))) (ks : ∀ b : Nat, gR S a 34 = some b → W p l e R s m args below meth c H locs cells slots Q (F0 m (pc + 3) ls (.ref b :: rest))) : W p l e R s m args below meth c H locs cells slots Q (F0 m pc ls (.ref a :: rest)) := g_get hC hP (ci := 7) (k := 34) rfl (by decide) uW_X7 (by decide) fL_X7_105 hKa hdg (by show W p l e R s m args below meth c H locs cells slots Q (F0 m (pc + 3) ls (va_rf (gR S a 34) :: rest)); cases hq : gR S a 34 with | none => exact kn hq | some b => exact ks b hq)
theorem pt_X7_105 {v : Option Nat} (hC : gC N0 D cy p s m args c cc nL RX7) (hP : gP N0 D cy S H) (hS : va_S (fun q => N0 ≤ q) s.heap H locs) (hKa : gK S a = 8) (hin : meth.name = "<init>")  (hdg : decode cc pc = .ok (.putfield 105, 3)) (kk : ∀ (H1 : Heap) (locs1 : List Loc), gP N0 D cy (sR S a 34 v) H1 → H1.size = H.size → va_S (fun q => N0 ≤ q) s.heap H1 locs1 → W p l e R s m args below meth c H1 locs1 cells slots Q (F0 m (pc + 3) ls rest)) : W p l e R s m args below meth c H locs cells slots Q (F0 m pc ls (va_rf v :: .ref a :: rest)) := g_put (S2 := sR S a 34 v) hC hP hS (ci := 7) (k := 34) rfl (by decide) uW_X7 tyX7_ok nmX7 (by decide) fL_X7_105 (Or.inr ⟨hin, rfl, rfl⟩) (by cases v <;> rfl) (by cases v <;> rfl) hKa rfl (fun b hb => gE_sR hb) (gF_R rfl (by decide)) hdg kk
theorem gt_X7_108 (hC : gC N0 D cy p s m args c cc nL RX7) (hP : gP N0 D cy S H) (hKa : gK S a = 8) {b : Nat} (hR : gR S a 35 = some b) (hdg : decode cc pc = .ok (.getfield 108, 3)) (kk : W p l e R s m args below meth c H locs cells slots Q (F0 m (pc + 3) ls (.ref b :: rest))) : W p l e R s m args below meth c H locs cells slots Q (F0 m pc ls (.ref a :: rest)) := g_get hC hP (ci := 7) (k := 35) rfl (by decide) uW_X7 (by decide) fL_X7_108 hKa hdg (by show W p l e R s m args below meth c H locs cells slots Q (F0 m (pc + 3) ls (va_rf (gR S a 35) :: rest)); rw [hR]; exact kk)
theorem gq_X7_108 (hC : gC N0 D cy p s m args c cc nL RX7) (hP : gP N0 D cy S H) (hKa : gK S a = 8) (hdg : decode cc pc = .ok (.getfield 108, 3)) (kn : gR S a 35 = none → W p l e R s m args below meth c H locs cells slots Q (F0 m (pc + 3) ls (.null :: rest))) (ks : ∀ b : Nat, gR S a 35 = some b → W p l e R s m args below meth c H locs cells slots Q (F0 m (pc + 3) ls (.ref b :: rest))) : W p l e R s m args below meth c H locs cells slots Q (F0 m pc ls (.ref a :: rest)) := g_get hC hP (ci := 7) (k := 35) rfl (by decide) uW_X7 (by decide) fL_X7_108 hKa hdg (by show W p l e R s m args below meth c H locs cells slots Q (F0 m (pc + 3) ls (va_rf (gR S a 35) :: rest)); cases hq : gR S a 35 with | none => exact kn hq | some b => exact ks b hq)
theorem pt_X7_108 {v : Option Nat} (hC : gC N0 D cy p s m args c cc nL RX7) (hP : gP N0 D cy S H) (hS : va_S (fun q => N0 ≤ q) s.heap H locs) (hKa : gK S a = 8) (hin : meth.name = "<init>")  (hdg : decode cc pc = .ok (.putfield 108, 3)) (kk : ∀ (H1 : Heap) (locs1 : List Loc), gP N0 D cy (sR S a 35 v) H1 → H1.size = H.size → va_S (fun q => N0 ≤ q) s.heap H1 locs1 → W p l e R s m args below meth c H1 locs1 cells slots Q (F0 m (pc + 3) ls rest)) : W p l e R s m args below meth c H locs cells slots Q (F0 m pc ls (va_rf v :: .ref a :: rest)) := g_put (S2 := sR S a 35 v) hC hP hS (ci := 7) (k := 35) rfl (by decide) uW_X7 tyX7_ok nmX7 (by decide) fL_X7_108 (Or.inr ⟨hin, rfl, rfl⟩) (by cases v <;> rfl) (by cases v <;> rfl) hKa rfl (fun b hb => gE_sR hb) (gF_R rfl (by decide)) hdg kk
theorem gt_X7_111 (hC : gC N0 D cy p s m args c cc nL RX7) (hP : gP N0 D cy S H) (hKa : gK S a = 8) {b : Nat} (hR : gR S a 36 = some b) (hdg : decode cc pc = .ok (.getfield 111, 3)) (kk : W p l e R s m args below meth c H locs cells slots Q (F0 m (pc + 3) ls (.ref b :: rest))) : W p l e R s m args below meth c H locs cells slots Q (F0 m pc ls (.ref a :: rest)) := g_get hC hP (ci := 7) (k := 36) rfl (by decide) uW_X7 (by decide) fL_X7_111 hKa hdg (by show W p l e R s m args below meth c H locs cells slots Q (F0 m (pc + 3) ls (va_rf (gR S a 36) :: rest)); rw [hR]; exact kk)
theorem gq_X7_111 (hC : gC N0 D cy p s m args c cc nL RX7) (hP : gP N0 D cy S H) (hKa : gK S a = 8) (hdg : decode cc pc = .ok (.getfield 111, 3)) (kn : gR S a 36 = none → W p l e R s m args below meth c H locs cells slots Q (F0 m (pc + 3) ls (.null :: rest))) (ks : ∀ b : Nat, gR S a 36 = some b → W p l e R s m args below meth c H locs cells slots Q (F0 m (pc + 3) ls (.ref b :: rest))) : W p l e R s m args below meth c H locs cells slots Q (F0 m pc ls (.ref a :: rest)) := g_get hC hP (ci := 7) (k := 36) rfl (by decide) uW_X7 (by decide) fL_X7_111 hKa hdg (by show W p l e R s m args below meth c H locs cells slots Q (F0 m (pc + 3) ls (va_rf (gR S a 36) :: rest)); cases hq : gR S a 36 with | none => exact kn hq | some b => exact ks b hq)
theorem pt_X7_111 {v : Option Nat} (hC : gC N0 D cy p s m args c cc nL RX7) (hP : gP N0 D cy S H) (hS : va_S (fun q => N0 ≤ q) s.heap H locs) (hKa : gK S a = 8) (hin : meth.name = "<init>")  (hdg : decode cc pc = .ok (.putfield 111, 3)) (kk : ∀ (H1 : Heap) (locs1 : List Loc), gP N0 D cy (sR S a 36 v) H1 → H1.size = H.size → va_S (fun q => N0 ≤ q) s.heap H1 locs1 → W p l e R s m args below meth c H1 locs1 cells slots Q (F0 m (pc + 3) ls rest)) : W p l e R s m args below meth c H locs cells slots Q (F0 m pc ls (va_rf v :: .ref a :: rest)) := g_put (S2 := sR S a 36 v) hC hP hS (ci := 7) (k := 36) rfl (by decide) uW_X7 tyX7_ok nmX7 (by decide) fL_X7_111 (Or.inr ⟨hin, rfl, rfl⟩) (by cases v <;> rfl) (by cases v <;> rfl) hKa rfl (fun b hb => gE_sR hb) (gF_R rfl (by decide)) hdg kk
theorem gt_X7_114 (hC : gC N0 D cy p s m args c cc nL RX7) (hP : gP N0 D cy S H) (hKa : gK S a = 8) (hdg : decode cc pc = .ok (.getfield 114, 3)) (kk : W p l e R s m args below meth c H locs cells slots Q (F0 m (pc + 3) ls (.int (gI S a 0) :: rest))) : W p l e R s m args below meth c H locs cells slots Q (F0 m pc ls (.ref a :: rest)) := g_get hC hP (ci := 7) (k := 0) rfl (by decide) uW_X7 (by decide) fL_X7_114 hKa hdg kk
theorem pt_X7_114 {v : Int32} (hC : gC N0 D cy p s m args c cc nL RX7) (hP : gP N0 D cy S H) (hS : va_S (fun q => N0 ≤ q) s.heap H locs) (hKa : gK S a = 8)  (hdg : decode cc pc = .ok (.putfield 114, 3)) (kk : ∀ (H1 : Heap) (locs1 : List Loc), gP N0 D cy (sI S a 0 v) H1 → H1.size = H.size → va_S (fun q => N0 ≤ q) s.heap H1 locs1 → W p l e R s m args below meth c H1 locs1 cells slots Q (F0 m (pc + 3) ls rest)) : W p l e R s m args below meth c H locs cells slots Q (F0 m pc ls (.int v :: .ref a :: rest)) := g_put (S2 := sI S a 0 v) hC hP hS (ci := 7) (k := 0) rfl (by decide) uW_X7 tyX7_ok nmX7 (by decide) fL_X7_114 (Or.inl rfl) rfl rfl hKa rfl (fun b hb => gE_sI hb) (gF_I (Or.inl rfl) (by decide)) hdg kk
theorem gt_X7_124 (hC : gC N0 D cy p s m args c cc nL RX7) (hP : gP N0 D cy S H) (hKa : gK S a = 8) (hdg : decode cc pc = .ok (.getfield 124, 3)) (kk : W p l e R s m args below meth c H locs cells slots Q (F0 m (pc + 3) ls (.int (gI S a 1) :: rest))) : W p l e R s m args below meth c H locs cells slots Q (F0 m pc ls (.ref a :: rest)) := g_get hC hP (ci := 7) (k := 1) rfl (by decide) uW_X7 (by decide) fL_X7_124 hKa hdg kk
theorem pt_X7_124 {v : Int32} (hC : gC N0 D cy p s m args c cc nL RX7) (hP : gP N0 D cy S H) (hS : va_S (fun q => N0 ≤ q) s.heap H locs) (hKa : gK S a = 8)  (hdg : decode cc pc = .ok (.putfield 124, 3)) (kk : ∀ (H1 : Heap) (locs1 : List Loc), gP N0 D cy (sI S a 1 v) H1 → H1.size = H.size → va_S (fun q => N0 ≤ q) s.heap H1 locs1 → W p l e R s m args below meth c H1 locs1 cells slots Q (F0 m (pc + 3) ls rest)) : W p l e R s m args below meth c H locs cells slots Q (F0 m pc ls (.int v :: .ref a :: rest)) := g_put (S2 := sI S a 1 v) hC hP hS (ci := 7) (k := 1) rfl (by decide) uW_X7 tyX7_ok nmX7 (by decide) fL_X7_124 (Or.inl rfl) rfl rfl hKa rfl (fun b hb => gE_sI hb) (gF_I (Or.inl rfl) (by decide)) hdg kk
theorem gt_X7_171 (hC : gC N0 D cy p s m args c cc nL RX7) (hP : gP N0 D cy S H) (hKa : gK S a = 8) (hdg : decode cc pc = .ok (.getfield 171, 3)) (kk : W p l e R s m args below meth c H locs cells slots Q (F0 m (pc + 3) ls (.int (gI S a 10) :: rest))) : W p l e R s m args below meth c H locs cells slots Q (F0 m pc ls (.ref a :: rest)) := g_get hC hP (ci := 7) (k := 10) rfl (by decide) uW_X7 (by decide) fL_X7_171 hKa hdg kk
theorem pt_X7_171 {v : Int32} (hC : gC N0 D cy p s m args c cc nL RX7) (hP : gP N0 D cy S H) (hS : va_S (fun q => N0 ≤ q) s.heap H locs) (hKa : gK S a = 8)  (hdg : decode cc pc = .ok (.putfield 171, 3)) (kk : ∀ (H1 : Heap) (locs1 : List Loc), gP N0 D cy (sI S a 10 v) H1 → H1.size = H.size → va_S (fun q => N0 ≤ q) s.heap H1 locs1 → W p l e R s m args below meth c H1 locs1 cells slots Q (F0 m (pc + 3) ls rest)) : W p l e R s m args below meth c H locs cells slots Q (F0 m pc ls (.int v :: .ref a :: rest)) := g_put (S2 := sI S a 10 v) hC hP hS (ci := 7) (k := 10) rfl (by decide) uW_X7 tyX7_ok nmX7 (by decide) fL_X7_171 (Or.inl rfl) rfl rfl hKa rfl (fun b hb => gE_sI hb) (gF_I (Or.inl rfl) (by decide)) hdg kk
end GF
end
section
theorem g_rf {p : Program} {l : Launch} {e : Env} {R : Room} {s : State} {m : MethodId} {args : Array Value} {below : List Frame} {meth : Method} {c : Code} {H : Heap} {locs : List Loc} {cells slots : Nat} {Q : State → Prop} {pc : Nat} {ls : Array Slot} {rest : List Value} {r : Option Nat} {b : Nat} (h : r = some b) (kk : W p l e R s m args below meth c H locs cells slots Q (F0 m pc ls (.ref b :: rest))) : W p l e R s m args below meth c H locs cells slots Q (F0 m pc ls (va_rf r :: rest)) := by subst h; exact kk
set_option maxRecDepth 100000 in
set_option maxHeartbeats 4000000 in
/-- Row.orNewer -/
theorem c_X5_orNewer (l : Launch) (N0 : Nat) (D : va_G) (cy : Nat → ClassId) (S : gS) (sz : Nat) (a b : Nat) (ha : gK S a = 6) (hb0 : gK S b = 6) : gM l yX5_orNewer cX5_orNewer 2 (some (FieldType.object "IssueHouse$Row")) { frames := 0, cells := 0, slots := 0, locals := 0 } N0 D cy [.ref a, .ref b] S sz (fun v S1 z => v = some (.ref (if gI S a 0 < gI S b 0 then b else a)) ∧ S1 = S ∧ z = sz) := by
  refine g_body (by decide) rfl (Nat.le_of_ble_eq_true rfl) ?_
  intro p e s m args below meth c ls hC hU hr hlk hnm hsz hP hS hl
  have hx := hC.1
  have hb := hC.2.1
  refine lv_aload_n hx hb dX5_orNewer_0 rfl (lv_at hl 1 rfl) ?_
  refine gt_X5_7 hC hP (hb0) dX5_orNewer_1 ?_
  refine lv_aload_n hx hb dX5_orNewer_4 rfl (lv_at hl 0 rfl) ?_
  refine gt_X5_7 hC hP (ha) dX5_orNewer_5 ?_
  refine lv_icmp_le (tgt := 15) hx hb dX5_orNewer_8 (by decide) (fun c_8 => ?_) (fun c_8 => ?_)
  · refine lv_aload_n hx hb dX5_orNewer_15 rfl (lv_at hl 0 rfl) ?_
    exact g_aret (v := some _) hC hP hS hr hlk (by decide) (by decide) (⟨by first | rw [if_pos (by assumption)]; rfl | rw [if_neg (by assumption)]; rfl | (rw [if_neg (Int32.not_lt.mpr (by assumption))]; rfl) | (rw [if_pos (Int32.not_le.mp (by assumption))]; rfl), rfl, hsz⟩) dX5_orNewer_16
  · refine lv_aload_n hx hb dX5_orNewer_11 rfl (lv_at hl 1 rfl) ?_
    refine lv_goto (tgt := 16) hx hb dX5_orNewer_12 (by decide) ?_
    exact g_aret (v := some _) hC hP hS hr hlk (by decide) (by decide) (⟨by first | rw [if_pos (by assumption)]; rfl | rw [if_neg (by assumption)]; rfl | (rw [if_neg (Int32.not_lt.mpr (by assumption))]; rfl) | (rw [if_pos (Int32.not_le.mp (by assumption))]; rfl), rfl, hsz⟩) dX5_orNewer_16

set_option maxRecDepth 100000 in
set_option maxHeartbeats 4000000 in
theorem c_X2_isToNode (l : Launch) (N0 : Nat) (D : va_G) (cy : Nat → ClassId) (S : gS) (sz : Nat) (a : Nat) (ha : gK S a = 3) : gM l yX2_isToNode cX2_isToNode 1 (some FieldType.boolean) { frames := 0, cells := 0, slots := 0, locals := 0 } N0 D cy [.ref a] S sz (fun v S1 z => v = some (.int (if gI S a 0 = 0 ∨ gI S a 0 = 2 then 1 else 0)) ∧ S1 = S ∧ z = sz) := by
  refine g_body (by decide) rfl (Nat.le_of_ble_eq_true rfl) ?_
  intro p e s m args below meth c ls hC hU hr hlk hnm hsz hP hS hl
  have hx := hC.1
  have hb := hC.2.1
  refine lv_aload_n hx hb dX2_isToNode_0 rfl (lv_at hl 0 rfl) ?_
  refine gt_X2_21 hC hP (ha) dX2_isToNode_1 ?_
  refine lv_if_eq (tgt := 15) hx hb dX2_isToNode_4 (by decide) (fun c_4 => ?_) (fun c_4 => ?_)
  · refine lv_iconst (v := 1) hx hb dX2_isToNode_15 (by decide) ?_
    refine lv_goto (tgt := 20) hx hb dX2_isToNode_16 (by decide) ?_
    exact g_zret hC hP hS hr hlk (by decide) (by decide) (nz01 (by decide)) (⟨by simp [*], rfl, hsz⟩) dX2_isToNode_20
  · refine lv_aload_n hx hb dX2_isToNode_7 rfl (lv_at hl 0 rfl) ?_
    refine gt_X2_21 hC hP (ha) dX2_isToNode_8 ?_
    refine lv_iconst (v := 2) hx hb dX2_isToNode_11 (by decide) ?_
    refine lv_icmp_ne (tgt := 19) hx hb dX2_isToNode_12 (by decide) (fun c_12 => ?_) (fun c_12 => ?_)
    · refine lv_iconst (v := 0) hx hb dX2_isToNode_19 (by decide) ?_
      exact g_zret hC hP hS hr hlk (by decide) (by decide) (nz01 (by decide)) (⟨by simp [*], rfl, hsz⟩) dX2_isToNode_20
    · refine lv_iconst (v := 1) hx hb dX2_isToNode_15 (by decide) ?_
      refine lv_goto (tgt := 20) hx hb dX2_isToNode_16 (by decide) ?_
      exact g_zret hC hP hS hr hlk (by decide) (by decide) (nz01 (by decide)) (⟨by simp [*], rfl, hsz⟩) dX2_isToNode_20

set_option maxRecDepth 100000 in
set_option maxHeartbeats 4000000 in
theorem c_X4_hasRoomFor (l : Launch) (N0 : Nat) (D : va_G) (cy : Nat → ClassId) (S : gS) (sz : Nat) (a : Nat) (n : Int32) (ha : gK S a = 5) : gM l yX4_hasRoomFor cX4_hasRoomFor 2 (some FieldType.boolean) { frames := 0, cells := 0, slots := 0, locals := 0 } N0 D cy [.ref a, .int n] S sz (fun v S1 z => v = some (.int (if gI S a 1 + n ≤ 90 then 1 else 0)) ∧ S1 = S ∧ z = sz) := by
  refine g_body (by decide) rfl (Nat.le_of_ble_eq_true rfl) ?_
  intro p e s m args below meth c ls hC hU hr hlk hnm hsz hP hS hl
  have hx := hC.1
  have hb := hC.2.1
  refine lv_aload_n hx hb dX4_hasRoomFor_0 rfl (lv_at hl 0 rfl) ?_
  refine gt_X4_20 hC hP (ha) dX4_hasRoomFor_1 ?_
  refine lv_iload_n hx hb dX4_hasRoomFor_4 rfl (lv_at hl 1 rfl) ?_
  refine lv_iadd hx hb dX4_hasRoomFor_5 ?_
  refine lv_bipush (v := 90) hx hb dX4_hasRoomFor_6 (by decide) ?_
  refine lv_icmp_gt (tgt := 15) hx hb dX4_hasRoomFor_8 (by decide) (fun c_8 => ?_) (fun c_8 => ?_)
  · refine lv_iconst (v := 0) hx hb dX4_hasRoomFor_15 (by decide) ?_
    exact g_zret hC hP hS hr hlk (by decide) (by decide) (nz01 (by decide)) (⟨by first | (rw [if_pos (by assumption)]; done) | (rw [if_neg (by assumption)]; done) | (rw [if_neg (Int32.not_le.mpr (by assumption))]; done) | (rw [if_pos (Int32.not_lt.mp (by assumption))]; done), rfl, hsz⟩) dX4_hasRoomFor_16
  · refine lv_iconst (v := 1) hx hb dX4_hasRoomFor_11 (by decide) ?_
    refine lv_goto (tgt := 16) hx hb dX4_hasRoomFor_12 (by decide) ?_
    exact g_zret hC hP hS hr hlk (by decide) (by decide) (nz01 (by decide)) (⟨by first | (rw [if_pos (by assumption)]; done) | (rw [if_neg (by assumption)]; done) | (rw [if_neg (Int32.not_le.mpr (by assumption))]; done) | (rw [if_pos (Int32.not_lt.mp (by assumption))]; done), rfl, hsz⟩) dX4_hasRoomFor_16

theorem sRow_0 (S : gS) (a : Nat) (f : Nat → Option Nat) : sRow S a 0 f = S := by
  obtain ⟨k, n, i, j, r⟩ := S
  unfold sRow gK gn gI gJ gR
  congr 4
  funext b j
  by_cases h : b = a <;> simp [h]
theorem sRow_s (S : gS) (a i : Nat) (f : Nat → Option Nat) : sR (sRow S a i f) a i (f i) = sRow S a (i + 1) f := by
  unfold sR sRow gK gn gI gJ gR up2
  congr 4
  funext b j
  by_cases h : b = a <;> by_cases h2 : j = i <;> simp [h, h2] <;> (try omega)
  by_cases h3 : j < i
  · simp [h3, Nat.lt_succ_of_lt h3]
  · have : ¬ j < i + 1 := by omega
    simp [h3, this]
theorem sRow_ge {S : gS} {a i b j : Nat} {f : Nat → Option Nat} (h : i ≤ j) : gR (sRow S a i f) b j = gR S b j := by
  show (if b = a then (if j < i then f j else gR S b j) else gR S b j) = gR S b j
  by_cases hb : b = a
  · rw [if_pos hb, if_neg (by omega)]
  · rw [if_neg hb]
theorem sRow_ne {S : gS} {a i b j : Nat} {f : Nat → Option Nat} (h : b ≠ a) : gR (sRow S a i f) b j = gR S b j := by
  show (if b = a then (if j < i then f j else gR S b j) else gR S b j) = gR S b j
  rw [if_neg h]
theorem sRow_lt {S : gS} {a i j : Nat} {f : Nat → Option Nat} (h : j < i) : gR (sRow S a i f) a j = f j := by
  show (if a = a then (if j < i then f j else gR S a j) else gR S a j) = f j
  rw [if_pos rfl, if_pos h]
set_option maxRecDepth 100000 in
set_option maxHeartbeats 4000000 in
theorem c_X5_init (l : Launch) (N0 : Nat) (D : va_G) (cy : Nat → ClassId) (S : gS) (sz : Nat) (a : Nat) (b h t : Int32) (mk : Int64) (ha : gK S a = 6) : gM l yX5_init cX5_init 6 (none : Option FieldType) { frames := 1, cells := 0, slots := 0, locals := 12 } N0 D cy [.ref a, .int b, .int h, .int t, .long mk] S sz (fun v S1 z => v = none ∧ S1 = sJ (sI (sI (sI S a 0 b) a 1 h) a 2 t) a 3 mk ∧ z = sz) := by
  refine g_body (by decide) rfl (Nat.le_of_ble_eq_true rfl) ?_
  intro p e s m args below meth c ls hC hU hr hlk hnm hsz hP hS hl
  have hx := hC.1
  have hb := hC.2.1
  refine lv_aload_n hx hb dX5_init_0 rfl (lv_at hl 0 rfl) ?_
  refine g_obj hC hl.1 mL_X5_1 (by decide) (by decide) dX5_init_1 ?_
  refine lv_aload_n hx hb dX5_init_4 rfl (lv_at hl 0 rfl) ?_
  refine lv_iload_n hx hb dX5_init_5 rfl (lv_at hl 1 rfl) ?_
  refine pt_X5_7 hC hP hS (ha) hnm dX5_init_6 (fun H locs hP hz hS => ?_)
  replace hsz := hz.trans hsz
  refine lv_aload_n hx hb dX5_init_9 rfl (lv_at hl 0 rfl) ?_
  refine lv_iload_n hx hb dX5_init_10 rfl (lv_at hl 2 rfl) ?_
  refine pt_X5_13 hC hP hS (kI (ha)) hnm dX5_init_11 (fun H locs hP hz hS => ?_)
  replace hsz := hz.trans hsz
  refine lv_aload_n hx hb dX5_init_14 rfl (lv_at hl 0 rfl) ?_
  refine lv_iload_n hx hb dX5_init_15 rfl (lv_at hl 3 rfl) ?_
  refine pt_X5_16 hC hP hS (kI (kI (ha))) hnm dX5_init_16 (fun H locs hP hz hS => ?_)
  replace hsz := hz.trans hsz
  refine lv_aload_n hx hb dX5_init_19 rfl (lv_at hl 0 rfl) ?_
  refine lv_lload hx hb dX5_init_20 (lv_at hl 4 rfl) ?_
  refine pt_X5_19 hC hP hS (kI (kI (kI (ha)))) hnm dX5_init_22 (fun H locs hP hz hS => ?_)
  replace hsz := hz.trans hsz
  exact g_vret hC hP hS hr hlk (by decide) (by decide) (⟨rfl, rfl, hsz⟩) dX5_init_25

set_option maxRecDepth 100000 in
set_option maxHeartbeats 4000000 in
theorem c_X0_init (l : Launch) (N0 : Nat) (D : va_G) (cy : Nat → ClassId) (S : gS) (sz : Nat) (a : Nat) (st : Int32) (fi : Int64) (r : Nat) (ha : gK S a = 1) : gM l yX0_init cX0_init 5 (none : Option FieldType) { frames := 1, cells := 0, slots := 0, locals := 12 } N0 D cy [.ref a, .int st, .long fi, .ref r] S sz (fun v S1 z => v = none ∧ S1 = sR (sJ (sI S a 0 st) a 1 fi) a 2 (some r) ∧ z = sz) := by
  refine g_body (by decide) rfl (Nat.le_of_ble_eq_true rfl) ?_
  intro p e s m args below meth c ls hC hU hr hlk hnm hsz hP hS hl
  have hx := hC.1
  have hb := hC.2.1
  refine lv_aload_n hx hb dX0_init_0 rfl (lv_at hl 0 rfl) ?_
  refine g_obj hC hl.1 mL_X0_1 (by decide) (by decide) dX0_init_1 ?_
  refine lv_aload_n hx hb dX0_init_4 rfl (lv_at hl 0 rfl) ?_
  refine lv_iload_n hx hb dX0_init_5 rfl (lv_at hl 1 rfl) ?_
  refine pt_X0_7 hC hP hS (ha) hnm dX0_init_6 (fun H locs hP hz hS => ?_)
  replace hsz := hz.trans hsz
  refine lv_aload_n hx hb dX0_init_9 rfl (lv_at hl 0 rfl) ?_
  refine lv_lload_n hx hb dX0_init_10 rfl (lv_at hl 2 rfl) ?_
  refine pt_X0_13 hC hP hS (kI (ha)) hnm dX0_init_11 (fun H locs hP hz hS => ?_)
  replace hsz := hz.trans hsz
  refine lv_aload_n hx hb dX0_init_14 rfl (lv_at hl 0 rfl) ?_
  refine lv_aload hx hb dX0_init_15 (lv_at hl 3 rfl) ?_
  refine pt_X0_17 (v := some _) hC hP hS (kJ (kI (ha))) hnm dX0_init_17 (fun H locs hP hz hS => ?_)
  replace hsz := hz.trans hsz
  exact g_vret hC hP hS hr hlk (by decide) (by decide) (⟨rfl, rfl, hsz⟩) dX0_init_20

set_option maxRecDepth 100000 in
set_option maxHeartbeats 4000000 in
theorem c_X1_isReady (l : Launch) (N0 : Nat) (D : va_G) (cy : Nat → ClassId) (S : gS) (sz : Nat) (a : Nat) (ha : gK S a = 2) : gM l yX1_isReady cX1_isReady 1 (some FieldType.boolean) { frames := 0, cells := 0, slots := 0, locals := 0 } N0 D cy [.ref a] S sz (fun v S1 z => v = some (.int (if gR S a 11 = none then 0 else 1)) ∧ S1 = S ∧ z = sz) := by
  refine g_body (by decide) rfl (Nat.le_of_ble_eq_true rfl) ?_
  intro p e s m args below meth c ls hC hU hr hlk hnm hsz hP hS hl
  have hx := hC.1
  have hb := hC.2.1
  refine lv_aload_n hx hb dX1_isReady_0 rfl (lv_at hl 0 rfl) ?_
  refine gq_X1_34 hC hP (ha) dX1_isReady_1 (fun q_1 => ?_) (fun b_1 q_1 => ?_)
  · refine lv_ifnullN (tgt := 11) hx hb dX1_isReady_4 (by decide) ?_
    refine lv_iconst (v := 0) hx hb dX1_isReady_11 (by decide) ?_
    exact g_zret hC hP hS hr hlk (by decide) (by decide) (nz01 (by decide)) (⟨by simp [*], rfl, hsz⟩) dX1_isReady_12
  · refine lv_ifnull hx hb dX1_isReady_4 ?_
    refine lv_iconst (v := 1) hx hb dX1_isReady_7 (by decide) ?_
    refine lv_goto (tgt := 12) hx hb dX1_isReady_8 (by decide) ?_
    exact g_zret hC hP hS hr hlk (by decide) (by decide) (nz01 (by decide)) (⟨by simp [*], rfl, hsz⟩) dX1_isReady_12

set_option maxRecDepth 100000 in
set_option maxHeartbeats 4000000 in
theorem c_X1_accept (l : Launch) (N0 : Nat) (D : va_G) (cy : Nat → ClassId) (S : gS) (sz : Nat) (a w : Nat) (ha : gK S a = 2) : gM l yX1_accept cX1_accept 2 (none : Option FieldType) { frames := 0, cells := 0, slots := 0, locals := 0 } N0 D cy [.ref a, .ref w] S sz (fun v S1 z => v = none ∧ S1 = sI (sI (sR S a 9 (some w)) a 3 2) a 7 0 ∧ z = sz) := by
  refine g_body (by decide) rfl (Nat.le_of_ble_eq_true rfl) ?_
  intro p e s m args below meth c ls hC hU hr hlk hnm hsz hP hS hl
  have hx := hC.1
  have hb := hC.2.1
  refine lv_aload_n hx hb dX1_accept_0 rfl (lv_at hl 0 rfl) ?_
  refine lv_aload_n hx hb dX1_accept_1 rfl (lv_at hl 1 rfl) ?_
  refine pt_X1_56 (v := some _) hC hP hS (ha) dX1_accept_2 (fun H locs hP hz hS => ?_)
  replace hsz := hz.trans hsz
  refine lv_aload_n hx hb dX1_accept_5 rfl (lv_at hl 0 rfl) ?_
  refine lv_iconst (v := 2) hx hb dX1_accept_6 (by decide) ?_
  refine pt_X1_9 hC hP hS (kR (ha)) dX1_accept_7 (fun H locs hP hz hS => ?_)
  replace hsz := hz.trans hsz
  refine lv_aload_n hx hb dX1_accept_10 rfl (lv_at hl 0 rfl) ?_
  refine lv_iconst (v := 0) hx hb dX1_accept_11 (by decide) ?_
  refine pt_X1_53 hC hP hS (kI (kR (ha))) dX1_accept_12 (fun H locs hP hz hS => ?_)
  replace hsz := hz.trans hsz
  exact g_vret hC hP hS hr hlk (by decide) (by decide) (⟨rfl, rfl, hsz⟩) dX1_accept_15

set_option maxRecDepth 100000 in
set_option maxHeartbeats 4000000 in
theorem c_X1_fail (l : Launch) (N0 : Nat) (D : va_G) (cy : Nat → ClassId) (S : gS) (sz : Nat) (a : Nat) (ha : gK S a = 2) : gM l yX1_fail cX1_fail 1 (none : Option FieldType) { frames := 0, cells := 0, slots := 0, locals := 0 } N0 D cy [.ref a] S sz (fun v S1 z => v = none ∧ S1 = sI (sI S a 3 0) a 10 (gI S a 10 + 1) ∧ z = sz) := by
  refine g_body (by decide) rfl (Nat.le_of_ble_eq_true rfl) ?_
  intro p e s m args below meth c ls hC hU hr hlk hnm hsz hP hS hl
  have hx := hC.1
  have hb := hC.2.1
  refine lv_aload_n hx hb dX1_fail_0 rfl (lv_at hl 0 rfl) ?_
  refine lv_iconst (v := 0) hx hb dX1_fail_1 (by decide) ?_
  refine pt_X1_9 hC hP hS (ha) dX1_fail_2 (fun H locs hP hz hS => ?_)
  replace hsz := hz.trans hsz
  refine lv_aload_n hx hb dX1_fail_5 rfl (lv_at hl 0 rfl) ?_
  refine lv_dup hx hb dX1_fail_6 rfl ?_
  refine gt_X1_59 hC hP (kI (ha)) dX1_fail_7 ?_
  refine lv_iconst (v := 1) hx hb dX1_fail_10 (by decide) ?_
  refine lv_iadd hx hb dX1_fail_11 ?_
  refine pt_X1_59 hC hP hS (kI (ha)) dX1_fail_12 (fun H locs hP hz hS => ?_)
  replace hsz := hz.trans hsz
  exact g_vret hC hP hS hr hlk (by decide) (by decide) (⟨rfl, rfl, hsz⟩) dX1_fail_15

set_option maxRecDepth 100000 in
set_option maxHeartbeats 4000000 in
theorem c_X1_hold (l : Launch) (N0 : Nat) (D : va_G) (cy : Nat → ClassId) (S : gS) (sz : Nat) (a : Nat) (g : Option Nat) (ha : gK S a = 2) : gM l yX1_hold cX1_hold 2 (none : Option FieldType) { frames := 0, cells := 0, slots := 0, locals := 0 } N0 D cy [.ref a, va_rf g] S sz (fun v S1 z => v = none ∧ S1 = sI (sJ (sR S a 11 g) a 12 (-1)) a 13 0 ∧ z = sz) := by
  cases g with
  | none =>
    refine g_body (by decide) rfl (Nat.le_of_ble_eq_true rfl) ?_
    intro p e s m args below meth c ls hC hU hr hlk hnm hsz hP hS hl
    have hx := hC.1
    have hb := hC.2.1
    refine lv_aload_n hx hb dX1_hold_0 rfl (lv_at hl 0 rfl) ?_
    refine lv_aload_nN hx hb dX1_hold_1 rfl (lv_at hl 1 rfl) ?_
    refine pt_X1_34 (v := none) hC hP hS (ha) dX1_hold_2 (fun H locs hP hz hS => ?_)
    replace hsz := hz.trans hsz
    refine lv_aload_n hx hb dX1_hold_5 rfl (lv_at hl 0 rfl) ?_
    refine lv_ldc2 hx hb hC.2.2.2.1 (hC.2.2.2.2.1 _ kJ_X1_21) dX1_hold_6 ?_
    refine pt_X1_23 hC hP hS (kR (ha)) dX1_hold_9 (fun H locs hP hz hS => ?_)
    replace hsz := hz.trans hsz
    refine lv_aload_n hx hb dX1_hold_12 rfl (lv_at hl 0 rfl) ?_
    refine lv_iconst (v := 0) hx hb dX1_hold_13 (by decide) ?_
    refine pt_X1_66 hC hP hS (kJ (kR (ha))) dX1_hold_14 (fun H locs hP hz hS => ?_)
    replace hsz := hz.trans hsz
    exact g_vret hC hP hS hr hlk (by decide) (by decide) (⟨rfl, rfl, hsz⟩) dX1_hold_17
  | some q =>
    refine g_body (by decide) rfl (Nat.le_of_ble_eq_true rfl) ?_
    intro p e s m args below meth c ls hC hU hr hlk hnm hsz hP hS hl
    have hx := hC.1
    have hb := hC.2.1
    refine lv_aload_n hx hb dX1_hold_0 rfl (lv_at hl 0 rfl) ?_
    refine lv_aload_n hx hb dX1_hold_1 rfl (lv_at hl 1 rfl) ?_
    refine pt_X1_34 (v := some _) hC hP hS (ha) dX1_hold_2 (fun H locs hP hz hS => ?_)
    replace hsz := hz.trans hsz
    refine lv_aload_n hx hb dX1_hold_5 rfl (lv_at hl 0 rfl) ?_
    refine lv_ldc2 hx hb hC.2.2.2.1 (hC.2.2.2.2.1 _ kJ_X1_21) dX1_hold_6 ?_
    refine pt_X1_23 hC hP hS (kR (ha)) dX1_hold_9 (fun H locs hP hz hS => ?_)
    replace hsz := hz.trans hsz
    refine lv_aload_n hx hb dX1_hold_12 rfl (lv_at hl 0 rfl) ?_
    refine lv_iconst (v := 0) hx hb dX1_hold_13 (by decide) ?_
    refine pt_X1_66 hC hP hS (kJ (kR (ha))) dX1_hold_14 (fun H locs hP hz hS => ?_)
    replace hsz := hz.trans hsz
    exact g_vret hC hP hS hr hlk (by decide) (by decide) (⟨rfl, rfl, hsz⟩) dX1_hold_17

set_option maxRecDepth 100000 in
set_option maxHeartbeats 4000000 in
theorem c_X1_breakDown (l : Launch) (N0 : Nat) (D : va_G) (cy : Nat → ClassId) (S : gS) (sz : Nat) (a : Nat) (ha : gK S a = 2) : gM l yX1_breakDown cX1_breakDown 1 (none : Option FieldType) { frames := 1, cells := 0, slots := 0, locals := 21 } N0 D cy [.ref a] S sz (fun v S1 z => v = none ∧ S1 = sI (sJ (sR (sI (sI S a 3 0) a 5 0) a 11 none) a 12 (-1)) a 13 0 ∧ z = sz) := by
  refine g_body (by decide) rfl (Nat.le_of_ble_eq_true rfl) ?_
  intro p e s m args below meth c ls hC hU hr hlk hnm hsz hP hS hl
  have hx := hC.1
  have hb := hC.2.1
  refine lv_aload_n hx hb dX1_breakDown_0 rfl (lv_at hl 0 rfl) ?_
  refine lv_iconst (v := 0) hx hb dX1_breakDown_1 (by decide) ?_
  refine pt_X1_9 hC hP hS (ha) dX1_breakDown_2 (fun H locs hP hz hS => ?_)
  replace hsz := hz.trans hsz
  refine lv_aload_n hx hb dX1_breakDown_5 rfl (lv_at hl 0 rfl) ?_
  refine lv_iconst (v := 0) hx hb dX1_breakDown_6 (by decide) ?_
  refine pt_X1_41 hC hP hS (kI (ha)) dX1_breakDown_7 (fun H locs hP hz hS => ?_)
  replace hsz := hz.trans hsz
  refine lv_aload_n hx hb dX1_breakDown_10 rfl (lv_at hl 0 rfl) ?_
  refine lv_null hx hb dX1_breakDown_11 ?_
  refine g_callV (As := [.null]) (rest := []) hC hU hP hS hl.1 (c_X1_hold l N0 D cy _ _ _ none ha) mL_X1_62 iM_X1_hold sL_X1_hold iN_X1 cD_X1_hold ⟨by decide, by decide, rfl⟩ ⟨by decide, by decide⟩ ⟨by decide, by decide⟩ (ci := 1) rfl (by decide) (kI (kI (ha))) rfl (Nat.le_of_ble_eq_true rfl) dX1_breakDown_12 (fun v S1 H locs hw hP hz hS => ?_)
  obtain ⟨rfl, hS1, hz2⟩ := hw
  replace hS1 := hS1.symm
  subst hS1
  replace hsz := hz2.trans hsz
  exact g_vret hC hP hS hr hlk (by decide) (by decide) (⟨rfl, rfl, hsz⟩) dX1_breakDown_15

set_option maxRecDepth 100000 in
set_option maxHeartbeats 4000000 in
theorem c_X1_counts (l : Launch) (N0 : Nat) (D : va_G) (cy : Nat → ClassId) (S : gS) (sz : Nat) (a m : Nat) (ph : Int32) (ha : gK S a = 2) (hm : gK S m = 3) : gM l yX1_counts cX1_counts 3 (some FieldType.boolean) { frames := 0, cells := 0, slots := 0, locals := 0 } N0 D cy [.ref a, .ref m, .int ph] S sz (fun v S1 z => v = some (.int (if gI S a 3 = ph ∧ gI S m 3 = gI S a 6 ∧ gI S a 7 &&& (1 <<< (gI S m 2 &&& 31)) = 0 then 1 else 0)) ∧ S1 = S ∧ z = sz) := by
  refine g_body (by decide) rfl (Nat.le_of_ble_eq_true rfl) ?_
  intro p e s m args below meth c ls hC hU hr hlk hnm hsz hP hS hl
  have hx := hC.1
  have hb := hC.2.1
  refine lv_aload_n hx hb dX1_counts_0 rfl (lv_at hl 0 rfl) ?_
  refine gt_X1_9 hC hP (ha) dX1_counts_1 ?_
  refine lv_iload_n hx hb dX1_counts_4 rfl (lv_at hl 2 rfl) ?_
  refine lv_icmp_ne (tgt := 37) hx hb dX1_counts_5 (by decide) (fun c_5 => ?_) (fun c_5 => ?_)
  · refine lv_iconst (v := 0) hx hb dX1_counts_37 (by decide) ?_
    exact g_zret hC hP hS hr hlk (by decide) (by decide) (nz01 (by decide)) (⟨by simp [*], rfl, hsz⟩) dX1_counts_38
  · refine lv_aload_n hx hb dX1_counts_8 rfl (lv_at hl 1 rfl) ?_
    refine gt_X1_89 hC hP (hm) dX1_counts_9 ?_
    refine lv_aload_n hx hb dX1_counts_12 rfl (lv_at hl 0 rfl) ?_
    refine gt_X1_50 hC hP (ha) dX1_counts_13 ?_
    refine lv_icmp_ne (tgt := 37) hx hb dX1_counts_16 (by decide) (fun c_16 => ?_) (fun c_16 => ?_)
    · refine lv_iconst (v := 0) hx hb dX1_counts_37 (by decide) ?_
      exact g_zret hC hP hS hr hlk (by decide) (by decide) (nz01 (by decide)) (⟨by simp [*], rfl, hsz⟩) dX1_counts_38
    · refine lv_aload_n hx hb dX1_counts_19 rfl (lv_at hl 0 rfl) ?_
      refine gt_X1_53 hC hP (ha) dX1_counts_20 ?_
      refine lv_iconst (v := 1) hx hb dX1_counts_23 (by decide) ?_
      refine lv_aload_n hx hb dX1_counts_24 rfl (lv_at hl 1 rfl) ?_
      refine gt_X1_96 hC hP (hm) dX1_counts_25 ?_
      refine lv_ishl hx hb dX1_counts_28 ?_
      refine lv_iand hx hb dX1_counts_29 ?_
      refine lv_if_ne (tgt := 37) hx hb dX1_counts_30 (by decide) (fun c_30 => ?_) (fun c_30 => ?_)
      · refine lv_iconst (v := 0) hx hb dX1_counts_37 (by decide) ?_
        exact g_zret hC hP hS hr hlk (by decide) (by decide) (nz01 (by decide)) (⟨by simp [*], rfl, hsz⟩) dX1_counts_38
      · refine lv_iconst (v := 1) hx hb dX1_counts_33 (by decide) ?_
        refine lv_goto (tgt := 38) hx hb dX1_counts_34 (by decide) ?_
        exact g_zret hC hP hS hr hlk (by decide) (by decide) (nz01 (by decide)) (⟨by simp [*], rfl, hsz⟩) dX1_counts_38
end
section
theorem lc_eq {x y : Int64} : lg_cmp x y = 0 ↔ x = y := lg_cmp_eq x y
theorem lc_lt {x y : Int64} : lg_cmp x y < 0 ↔ x < y := lg_cmp_lt x y
theorem lc_gt {x y : Int64} : 0 < lg_cmp x y ↔ y < x := lg_cmp_gt x y
theorem lc_ge {x y : Int64} : 0 ≤ lg_cmp x y ↔ y ≤ x := lg_cmp_ge x y
theorem lc_le {x y : Int64} : lg_cmp x y ≤ 0 ↔ x ≤ y := lg_cmp_le x y
section GMX
variable {p : Program} {l : Launch} {e : Env} {R : Room} {s : State} {m : MethodId} {args : Array Value} {below : List Frame} {meth : Method} {c : Code} {H : Heap} {locs : List Loc} {cells slots : Nat} {Q : State → Prop}
variable {cc : ByteArray} {pc nL : Nat} {own : String} {ls : Array Slot} {rest : List Value} {N0 : Nat} {D : va_G} {cy : Nat → ClassId}
theorem g_max {index : Nat} (hC : gC N0 D cy p s m args c cc nL own) (hl : ls.size = nL) (hmL : Cond.methodLink own index yJ9_max_7cf53 ∈ wsAll) (hframes : 1 ≤ R.frames) (hlocals : (rest.map fun v => v.category).sum + 13 ≤ R.locals) (hc : cells ≤ R.cells) (hs : slots ≤ R.slots) {x y : Int32} (hdg : decode cc pc = .ok (.invokestatic index, 3))
    (kk : W p l e R s m args below meth c H locs cells slots Q (F0 m (pc + 3) ls (.int (if x < y then y else x) :: rest))) : W p l e R s m args below meth c H locs cells slots Q (F0 m pc ls (.int y :: .int x :: rest)) := by
  obtain ⟨hx, hb, hml, hown, hts, hK, -⟩ := hC
  exact va_mmax hx hb (hml.trans hl.symm) hown (hts _ hmL) (hts _ sT_J9_max_7cf53) (hts _ iN_J9) (hts _ cD_J9_max_7cf53) hframes hlocals hc hs hdg kk
theorem g_maxl {index : Nat} (hC : gC N0 D cy p s m args c cc nL own) (hl : ls.size = nL) (hmL : Cond.methodLink own index yJ9_max_f86c9 ∈ wsAll) (hframes : 1 ≤ R.frames) (hlocals : (rest.map fun v => v.category).sum + 15 ≤ R.locals) (hc : cells ≤ R.cells) (hs : slots ≤ R.slots) {x y : Int64} (hdg : decode cc pc = .ok (.invokestatic index, 3))
    (kk : W p l e R s m args below meth c H locs cells slots Q (F0 m (pc + 3) ls (.long (if y < x then x else y) :: rest))) : W p l e R s m args below meth c H locs cells slots Q (F0 m pc ls (.long y :: .long x :: rest)) := by
  obtain ⟨hx, hb, hml, hown, hts, hK, -⟩ := hC
  exact va_mmax_long hx hb (hml.trans hl.symm) hown (hts _ hmL) (hts _ sT_J9_max_f86c9) (hts _ iN_J9) (hts _ cD_J9_max_f86c9) hframes hlocals hc hs hdg kk
end GMX
def us32 (x y : Int32) : Int32 := (x.toUInt32 >>> (y.toUInt32 &&& Int32.toUInt32 31)).toInt32
def bc32 (x0 : Int32) : Int32 :=
  let x1 := x0 - (us32 x0 1 &&& 1431655765)
  let x2 := (x1 &&& 858993459) + (us32 x1 2 &&& 858993459)
  let x3 := (x2 + us32 x2 4) &&& 252645135
  let x4 := x3 + us32 x3 8
  let x5 := x4 + us32 x4 16
  x5 &&& 63
theorem gI_sI {S : gS} {a k b j : Nat} {v : Int32} : gI (sI S a k v) b j = if j = k then (if b = a then v else gI S b j) else gI S b j := rfl
theorem gI_sJ {S : gS} {a k : Nat} {v : Int64} : gI (sJ S a k v) = gI S := rfl
theorem gI_sR {S : gS} {a k : Nat} {v : Option Nat} : gI (sR S a k v) = gI S := rfl
theorem gI_sRow {S : gS} {a n : Nat} {f : Nat → Option Nat} : gI (sRow S a n f) = gI S := rfl
theorem gJ_sI {S : gS} {a k : Nat} {v : Int32} : gJ (sI S a k v) = gJ S := rfl
theorem gJ_sJ {S : gS} {a k b j : Nat} {v : Int64} : gJ (sJ S a k v) b j = if j = k then (if b = a then v else gJ S b j) else gJ S b j := rfl
theorem gJ_sR {S : gS} {a k : Nat} {v : Option Nat} : gJ (sR S a k v) = gJ S := rfl
theorem gJ_sRow {S : gS} {a n : Nat} {f : Nat → Option Nat} : gJ (sRow S a n f) = gJ S := rfl
theorem gR_sI {S : gS} {a k : Nat} {v : Int32} : gR (sI S a k v) = gR S := rfl
theorem gR_sJ {S : gS} {a k : Nat} {v : Int64} : gR (sJ S a k v) = gR S := rfl
theorem gR_sR {S : gS} {a k b j : Nat} {v : Option Nat} : gR (sR S a k v) b j = if j = k then (if b = a then v else gR S b j) else gR S b j := rfl
theorem gR_sRow {S : gS} {a n b j : Nat} {f : Nat → Option Nat} : gR (sRow S a n f) b j = if b = a then (if j < n then f j else gR S b j) else gR S b j := rfl
theorem sRow_id {S : gS} {a n : Nat} {f : Nat → Option Nat} (h : ∀ j, j < n → f j = gR S a j) : sRow S a n f = S := by
  obtain ⟨k, nn, i, j, r⟩ := S
  unfold sRow
  show (k, nn, i, j, _) = (k, nn, i, j, r)
  congr 4
  funext b q
  by_cases hb : b = a
  · subst hb
    by_cases hq : q < n
    · simp [hq, h q hq]; rfl
    · simp [hq]; rfl
  · simp [hb]; rfl
set_option maxRecDepth 100000 in
set_option maxHeartbeats 4000000 in
theorem c_bitCount (l : Launch) (N0 : Nat) (D : va_G) (cy : Nat → ClassId) (S : gS) (sz : Nat) (x : Int32) : gM l yJ6_bitCount_0f7a4 cJ6_bitCount_0f7a4 1 (some FieldType.int) { frames := 0, cells := 0, slots := 0, locals := 0 } N0 D cy [.int x] S sz (fun v S1 z => v = some (.int (bc32 x)) ∧ S1 = S ∧ z = sz) := by
  refine g_body (by decide) rfl (Nat.le_of_ble_eq_true rfl) ?_
  intro p e s m args below meth c ls hC hU hr hlk hnm hsz hP hS hl
  have hx := hC.1
  have hb := hC.2.1
  refine lv_iload_n hx hb dJ6_bitCount_0f7a4_0 rfl (lv_at hl 0 rfl) ?_
  refine lv_iload_n hx hb dJ6_bitCount_0f7a4_1 rfl (lv_at hl 0 rfl) ?_
  refine lv_iconst (v := 1) hx hb dJ6_bitCount_0f7a4_2 (by decide) ?_
  refine lv_iushr hx hb dJ6_bitCount_0f7a4_3 rfl ?_
  refine lv_ldcw hx hb hC.2.2.2.1 (hC.2.2.2.2.1 _ kI_J6_265) dJ6_bitCount_0f7a4_4 ?_
  refine lv_iand hx hb dJ6_bitCount_0f7a4_7 ?_
  refine lv_isub hx hb dJ6_bitCount_0f7a4_8 ?_
  refine lv_istore_n (lv' := [(0, .int _)]) hx hb dJ6_bitCount_0f7a4_9 rfl hl (by decide) rfl (fun ls hl => ?_)
  refine lv_iload_n hx hb dJ6_bitCount_0f7a4_10 rfl (lv_at hl 0 rfl) ?_
  refine lv_ldcw hx hb hC.2.2.2.1 (hC.2.2.2.2.1 _ kI_J6_266) dJ6_bitCount_0f7a4_11 ?_
  refine lv_iand hx hb dJ6_bitCount_0f7a4_14 ?_
  refine lv_iload_n hx hb dJ6_bitCount_0f7a4_15 rfl (lv_at hl 0 rfl) ?_
  refine lv_iconst (v := 2) hx hb dJ6_bitCount_0f7a4_16 (by decide) ?_
  refine lv_iushr hx hb dJ6_bitCount_0f7a4_17 rfl ?_
  refine lv_ldcw hx hb hC.2.2.2.1 (hC.2.2.2.2.1 _ kI_J6_266) dJ6_bitCount_0f7a4_18 ?_
  refine lv_iand hx hb dJ6_bitCount_0f7a4_21 ?_
  refine lv_iadd hx hb dJ6_bitCount_0f7a4_22 ?_
  refine lv_istore_n (lv' := [(0, .int _)]) hx hb dJ6_bitCount_0f7a4_23 rfl hl (by decide) rfl (fun ls hl => ?_)
  refine lv_iload_n hx hb dJ6_bitCount_0f7a4_24 rfl (lv_at hl 0 rfl) ?_
  refine lv_iload_n hx hb dJ6_bitCount_0f7a4_25 rfl (lv_at hl 0 rfl) ?_
  refine lv_iconst (v := 4) hx hb dJ6_bitCount_0f7a4_26 (by decide) ?_
  refine lv_iushr hx hb dJ6_bitCount_0f7a4_27 rfl ?_
  refine lv_iadd hx hb dJ6_bitCount_0f7a4_28 ?_
  refine lv_ldcw hx hb hC.2.2.2.1 (hC.2.2.2.2.1 _ kI_J6_267) dJ6_bitCount_0f7a4_29 ?_
  refine lv_iand hx hb dJ6_bitCount_0f7a4_32 ?_
  refine lv_istore_n (lv' := [(0, .int _)]) hx hb dJ6_bitCount_0f7a4_33 rfl hl (by decide) rfl (fun ls hl => ?_)
  refine lv_iload_n hx hb dJ6_bitCount_0f7a4_34 rfl (lv_at hl 0 rfl) ?_
  refine lv_iload_n hx hb dJ6_bitCount_0f7a4_35 rfl (lv_at hl 0 rfl) ?_
  refine lv_bipush (v := 8) hx hb dJ6_bitCount_0f7a4_36 (by decide) ?_
  refine lv_iushr hx hb dJ6_bitCount_0f7a4_38 rfl ?_
  refine lv_iadd hx hb dJ6_bitCount_0f7a4_39 ?_
  refine lv_istore_n (lv' := [(0, .int _)]) hx hb dJ6_bitCount_0f7a4_40 rfl hl (by decide) rfl (fun ls hl => ?_)
  refine lv_iload_n hx hb dJ6_bitCount_0f7a4_41 rfl (lv_at hl 0 rfl) ?_
  refine lv_iload_n hx hb dJ6_bitCount_0f7a4_42 rfl (lv_at hl 0 rfl) ?_
  refine lv_bipush (v := 16) hx hb dJ6_bitCount_0f7a4_43 (by decide) ?_
  refine lv_iushr hx hb dJ6_bitCount_0f7a4_45 rfl ?_
  refine lv_iadd hx hb dJ6_bitCount_0f7a4_46 ?_
  refine lv_istore_n (lv' := [(0, .int _)]) hx hb dJ6_bitCount_0f7a4_47 rfl hl (by decide) rfl (fun ls hl => ?_)
  refine lv_iload_n hx hb dJ6_bitCount_0f7a4_48 rfl (lv_at hl 0 rfl) ?_
  refine lv_bipush (v := 63) hx hb dJ6_bitCount_0f7a4_49 (by decide) ?_
  refine lv_iand hx hb dJ6_bitCount_0f7a4_51 ?_
  exact g_iret hC hP hS hr hlk (by decide) (by decide) (⟨rfl, rfl, hsz⟩) dJ6_bitCount_0f7a4_52

set_option maxRecDepth 100000 in
set_option maxHeartbeats 4000000 in
theorem c_X1_isMajorityWith (l : Launch) (N0 : Nat) (D : va_G) (cy : Nat → ClassId) (S : gS) (sz : Nat) (a m : Nat) (ha : gK S a = 2) (hm : gK S m = 3) : gM l yX1_isMajorityWith cX1_isMajorityWith 2 (some FieldType.boolean) { frames := 1, cells := 0, slots := 0, locals := 20 } N0 D cy [.ref a, .ref m] S sz (fun v S1 z => v = some (.int (if bc32 (gI S a 7 ||| (1 <<< (gI S m 2 &&& 31))) < 3 then 0 else 1)) ∧ S1 = S ∧ z = sz) := by
  refine g_body (by decide) rfl (Nat.le_of_ble_eq_true rfl) ?_
  intro p e s m args below meth c ls hC hU hr hlk hnm hsz hP hS hl
  have hx := hC.1
  have hb := hC.2.1
  refine lv_aload_n hx hb dX1_isMajorityWith_0 rfl (lv_at hl 0 rfl) ?_
  refine gt_X1_53 hC hP (ha) dX1_isMajorityWith_1 ?_
  refine lv_iconst (v := 1) hx hb dX1_isMajorityWith_4 (by decide) ?_
  refine lv_aload_n hx hb dX1_isMajorityWith_5 rfl (lv_at hl 1 rfl) ?_
  refine gt_X1_96 hC hP (hm) dX1_isMajorityWith_6 ?_
  refine lv_ishl hx hb dX1_isMajorityWith_9 ?_
  refine lv_ior hx hb dX1_isMajorityWith_10 ?_
  refine g_callS (As := [.int _]) (rest := []) hC hU hP hS hl.1 (c_bitCount l N0 D cy _ _ _) mL_X1_99 sT_J6_bitCount_0f7a4 iN_J6 cD_J6_bitCount_0f7a4 ⟨by decide, by decide, rfl⟩ ⟨by decide, by decide⟩ ⟨by decide, by decide⟩ rfl (Nat.le_of_ble_eq_true rfl) dX1_isMajorityWith_11 (fun v S1 H locs hw hP hz hS => ?_)
  obtain ⟨rfl, hS1, hz2⟩ := hw
  replace hS1 := hS1.symm
  subst hS1
  replace hsz := hz2.trans hsz
  refine lv_iconst (v := 3) hx hb dX1_isMajorityWith_14 (by decide) ?_
  refine lv_icmp_lt (tgt := 22) hx hb dX1_isMajorityWith_15 (by decide) (fun c_15 => ?_) (fun c_15 => ?_)
  · refine lv_iconst (v := 0) hx hb dX1_isMajorityWith_22 (by decide) ?_
    exact g_zret hC hP hS hr hlk (by decide) (by decide) (nz01 (by decide)) (⟨by simp [*], rfl, hsz⟩) dX1_isMajorityWith_23
  · refine lv_iconst (v := 1) hx hb dX1_isMajorityWith_18 (by decide) ?_
    refine lv_goto (tgt := 23) hx hb dX1_isMajorityWith_19 (by decide) ?_
    exact g_zret hC hP hS hr hlk (by decide) (by decide) (nz01 (by decide)) (⟨by simp [*], rfl, hsz⟩) dX1_isMajorityWith_23

def cCounts (S : gS) (a m : Nat) (ph : Int32) : Prop := gI S a 3 = ph ∧ gI S m 3 = gI S a 6 ∧ gI S a 7 &&& (1 <<< (gI S m 2 &&& 31)) = 0
def cMaj (S : gS) (a m : Nat) : Prop := ¬ bc32 (gI S a 7 ||| (1 <<< (gI S m 2 &&& 31))) < 3
set_option maxRecDepth 100000 in
set_option maxHeartbeats 4000000 in
theorem c_X1_isDecidedBy (l : Launch) (N0 : Nat) (D : va_G) (cy : Nat → ClassId) (S : gS) (sz : Nat) (a m : Nat) (ha : gK S a = 2) (hm : gK S m = 3) : gM l yX1_isDecidedBy cX1_isDecidedBy 2 (some FieldType.boolean) { frames := 2, cells := 0, slots := 0, locals := 60 } N0 D cy [.ref a, .ref m] S sz (fun v S1 z => (∃ r : Int32, v = some (.int r) ∧ (r = 0 ∨ r = 1) ∧ (r ≠ 0 ↔ (gI S m 0 = 1 ∧ cCounts S a m 1 ∧ cMaj S a m))) ∧ S1 = S ∧ z = sz) := by
  refine g_body (by decide) rfl (Nat.le_of_ble_eq_true rfl) ?_
  intro p e s m args below meth c ls hC hU hr hlk hnm hsz hP hS hl
  have hx := hC.1
  have hb := hC.2.1
  refine lv_aload_n hx hb dX1_isDecidedBy_0 rfl (lv_at hl 1 rfl) ?_
  refine gt_X1_69 hC hP (hm) dX1_isDecidedBy_1 ?_
  refine lv_iconst (v := 1) hx hb dX1_isDecidedBy_4 (by decide) ?_
  refine lv_icmp_ne (tgt := 29) hx hb dX1_isDecidedBy_5 (by decide) (fun c_5 => ?_) (fun c_5 => ?_)
  · refine lv_iconst (v := 0) hx hb dX1_isDecidedBy_29 (by decide) ?_
    exact g_zret hC hP hS hr hlk (by decide) (by decide) (nz01 (by decide)) (⟨⟨_, rfl, by decide, by simp_all [cCounts, cMaj]⟩, rfl, hsz⟩) dX1_isDecidedBy_30
  · refine lv_aload_n hx hb dX1_isDecidedBy_8 rfl (lv_at hl 0 rfl) ?_
    refine lv_aload_n hx hb dX1_isDecidedBy_9 rfl (lv_at hl 1 rfl) ?_
    refine lv_iconst (v := 1) hx hb dX1_isDecidedBy_10 (by decide) ?_
    refine g_callV (As := [.ref _, .int _]) (rest := []) hC hU hP hS hl.1 (c_X1_counts l N0 D cy _ _ _ _ _ ha hm) mL_X1_74 iM_X1_counts sL_X1_counts iN_X1 cD_X1_counts ⟨by decide, by decide, rfl⟩ ⟨by decide, by decide⟩ ⟨by decide, by decide⟩ (ci := 1) rfl (by decide) (ha) rfl (Nat.le_of_ble_eq_true rfl) dX1_isDecidedBy_11 (fun v S1 H locs hw hP hz hS => ?_)
    obtain ⟨rfl, hS1, hz2⟩ := hw
    replace hS1 := hS1.symm
    subst hS1
    replace hsz := hz2.trans hsz
    refine lv_if_eq (tgt := 29) hx hb dX1_isDecidedBy_14 (by decide) (fun c_14 => ?_) (fun c_14 => ?_)
    · refine lv_iconst (v := 0) hx hb dX1_isDecidedBy_29 (by decide) ?_
      exact g_zret hC hP hS hr hlk (by decide) (by decide) (nz01 (by decide)) (⟨⟨_, rfl, by decide, by simp_all [cCounts, cMaj]⟩, rfl, hsz⟩) dX1_isDecidedBy_30
    · refine lv_aload_n hx hb dX1_isDecidedBy_17 rfl (lv_at hl 0 rfl) ?_
      refine lv_aload_n hx hb dX1_isDecidedBy_18 rfl (lv_at hl 1 rfl) ?_
      refine g_callV (As := [.ref _]) (rest := []) hC hU hP hS hl.1 (c_X1_isMajorityWith l N0 D cy _ _ _ _ ha hm) mL_X1_78 iM_X1_isMajorityWith sL_X1_isMajorityWith iN_X1 cD_X1_isMajorityWith ⟨by decide, by decide, rfl⟩ ⟨by decide, by decide⟩ ⟨by decide, by decide⟩ (ci := 1) rfl (by decide) (ha) rfl (Nat.le_of_ble_eq_true rfl) dX1_isDecidedBy_19 (fun v S1 H locs hw hP hz hS => ?_)
      obtain ⟨rfl, hS1, hz2⟩ := hw
      replace hS1 := hS1.symm
      subst hS1
      replace hsz := hz2.trans hsz
      refine lv_if_eq (tgt := 29) hx hb dX1_isDecidedBy_22 (by decide) (fun c_22 => ?_) (fun c_22 => ?_)
      · refine lv_iconst (v := 0) hx hb dX1_isDecidedBy_29 (by decide) ?_
        exact g_zret hC hP hS hr hlk (by decide) (by decide) (nz01 (by decide)) (⟨⟨_, rfl, by decide, by simp_all [cCounts, cMaj]⟩, rfl, hsz⟩) dX1_isDecidedBy_30
      · refine lv_iconst (v := 1) hx hb dX1_isDecidedBy_25 (by decide) ?_
        refine lv_goto (tgt := 30) hx hb dX1_isDecidedBy_26 (by decide) ?_
        exact g_zret hC hP hS hr hlk (by decide) (by decide) (nz01 (by decide)) (⟨⟨_, rfl, by decide, by simp_all [cCounts, cMaj]⟩, rfl, hsz⟩) dX1_isDecidedBy_30

set_option maxRecDepth 100000 in
set_option maxHeartbeats 4000000 in
theorem c_X4_at (l : Launch) (N0 : Nat) (D : va_G) (cy : Nat → ClassId) (S : gS) (sz : Nat) (a pl q : Nat) (k : Int32) (ha : gK S a = 5) (hp : gR S a 0 = some pl) (hk : gK S pl = 13) (hn : vp_in k (gn S pl)) (hq : gR S pl k.toNatClampNeg = some q) : gM l yX4_at cX4_at 2 (some (FieldType.object "IssueHouse$Letter")) { frames := 0, cells := 0, slots := 0, locals := 0 } N0 D cy [.ref a, .int k] S sz (fun v S1 z => v = some (.ref q) ∧ S1 = S ∧ z = sz) := by
  refine g_body (by decide) rfl (Nat.le_of_ble_eq_true rfl) ?_
  intro p e s m args below meth c ls hC hU hr hlk hnm hsz hP hS hl
  have hx := hC.1
  have hb := hC.2.1
  refine lv_aload_n hx hb dX4_at_0 rfl (lv_at hl 0 rfl) ?_
  refine gt_X4_11 hC hP (ha) (hp) dX4_at_1 ?_
  refine lv_iload_n hx hb dX4_at_4 rfl (lv_at hl 1 rfl) ?_
  refine g_aald hC hP (j := 1) (by decide) (hk) (hn) dX4_at_5 ?_
  refine g_rf (hq) ?_
  exact g_aret (v := some _) hC hP hS hr hlk (by decide) (by decide) (⟨rfl, rfl, hsz⟩) dX4_at_6

def cSend (S : gS) (a q : Nat) (kd is nd bl : Int32) : gS := sI (sI (sI (sI (sI (sI (sI S a 1 (gI S a 1 + 1)) q 0 kd) q 1 is) q 2 nd) q 3 bl) q 4 (-1)) q 5 (-1)
theorem kS {S : gS} {a q b c : Nat} {kd is nd bl : Int32} (h : gK S b = c) : gK (cSend S a q kd is nd bl) b = c := kI (kI (kI (kI (kI (kI (kI h))))))
theorem nS' {S : gS} {a q b c : Nat} {kd is nd bl : Int32} (h : gn S b = c) : gn (cSend S a q kd is nd bl) b = c := nI' (nI' (nI' (nI' (nI' (nI' (nI' h))))))
theorem rS {S : gS} {a q b j : Nat} {kd is nd bl : Int32} {r : Option Nat} (h : gR S b j = r) : gR (cSend S a q kd is nd bl) b j = r := rI (rI (rI (rI (rI (rI (rI h))))))
theorem gR_cSend {S : gS} {a q : Nat} {kd is nd bl : Int32} : gR (cSend S a q kd is nd bl) = gR S := rfl
theorem gJ_cSend {S : gS} {a q : Nat} {kd is nd bl : Int32} : gJ (cSend S a q kd is nd bl) = gJ S := rfl
theorem gI_cSend {S : gS} {a q b j : Nat} {kd is nd bl : Int32} (h1 : b ≠ a) (h2 : b ≠ q) : gI (cSend S a q kd is nd bl) b j = gI S b j := by
  unfold cSend
  simp only [gI_sI, h1, h2, if_false, ite_self]
set_option maxRecDepth 100000 in
set_option maxHeartbeats 4000000 in
theorem c_X4_send (l : Launch) (N0 : Nat) (D : va_G) (cy : Nat → ClassId) (S : gS) (sz : Nat) (kd is nd bl : Int32) (a pl q : Nat) (ha : gK S a = 5) (hp : gR S a 0 = some pl) (hk : gK S pl = 13) (hn : vp_in (gI S a 1) (gn S pl)) (hq : gR S pl (gI S a 1).toNatClampNeg = some q) (hqk : gK S q = 3) : gM l yX4_send cX4_send 6 (some (FieldType.object "IssueHouse$Letter")) { frames := 0, cells := 0, slots := 0, locals := 0 } N0 D cy [.ref a, .int kd, .int is, .int nd, .int bl] S sz (fun v S1 z => v = some (.ref q) ∧ S1 = cSend S a q kd is nd bl ∧ z = sz) := by
  refine g_body (by decide) rfl (Nat.le_of_ble_eq_true rfl) ?_
  intro p e s m args below meth c ls hC hU hr hlk hnm hsz hP hS hl
  have hx := hC.1
  have hb := hC.2.1
  refine lv_aload_n hx hb dX4_send_0 rfl (lv_at hl 0 rfl) ?_
  refine gt_X4_11 hC hP (ha) (hp) dX4_send_1 ?_
  refine lv_aload_n hx hb dX4_send_4 rfl (lv_at hl 0 rfl) ?_
  refine gt_X4_20 hC hP (ha) dX4_send_5 ?_
  refine g_aald hC hP (j := 1) (by decide) (hk) (hn) dX4_send_8 ?_
  refine g_rf (hq) ?_
  refine lv_astore (lv' := [(5, .ref _), (0, .ref _), (1, .int _), (2, .int _), (3, .int _), (4, .int _)]) hx hb dX4_send_9 hl (by decide) rfl (fun ls hl => ?_)
  refine lv_aload_n hx hb dX4_send_11 rfl (lv_at hl 1 rfl) ?_
  refine lv_dup hx hb dX4_send_12 rfl ?_
  refine gt_X4_20 hC hP (ha) dX4_send_13 ?_
  refine lv_iconst (v := 1) hx hb dX4_send_16 (by decide) ?_
  refine lv_iadd hx hb dX4_send_17 ?_
  refine pt_X4_20 hC hP hS (ha) dX4_send_18 (fun H locs hP hz hS => ?_)
  replace hsz := hz.trans hsz
  refine lv_aload hx hb dX4_send_21 (lv_at hl 0 rfl) ?_
  refine lv_iload_n hx hb dX4_send_23 rfl (lv_at hl 2 rfl) ?_
  refine pt_X4_24 hC hP hS (kI (hqk)) dX4_send_24 (fun H locs hP hz hS => ?_)
  replace hsz := hz.trans hsz
  refine lv_aload hx hb dX4_send_27 (lv_at hl 0 rfl) ?_
  refine lv_iload_n hx hb dX4_send_29 rfl (lv_at hl 3 rfl) ?_
  refine pt_X4_27 hC hP hS (kI (kI (hqk))) dX4_send_30 (fun H locs hP hz hS => ?_)
  replace hsz := hz.trans hsz
  refine lv_aload hx hb dX4_send_33 (lv_at hl 0 rfl) ?_
  refine lv_iload_n hx hb dX4_send_35 rfl (lv_at hl 4 rfl) ?_
  refine pt_X4_30 hC hP hS (kI (kI (kI (hqk)))) dX4_send_36 (fun H locs hP hz hS => ?_)
  replace hsz := hz.trans hsz
  refine lv_aload hx hb dX4_send_39 (lv_at hl 0 rfl) ?_
  refine lv_iload hx hb dX4_send_41 (lv_at hl 5 rfl) ?_
  refine pt_X4_33 hC hP hS (kI (kI (kI (kI (hqk))))) dX4_send_43 (fun H locs hP hz hS => ?_)
  replace hsz := hz.trans hsz
  refine lv_aload hx hb dX4_send_46 (lv_at hl 0 rfl) ?_
  refine lv_iconst (v := (-1)) hx hb dX4_send_48 (by decide) ?_
  refine pt_X4_36 hC hP hS (kI (kI (kI (kI (kI (hqk)))))) dX4_send_49 (fun H locs hP hz hS => ?_)
  replace hsz := hz.trans hsz
  refine lv_aload hx hb dX4_send_52 (lv_at hl 0 rfl) ?_
  refine lv_iconst (v := (-1)) hx hb dX4_send_54 (by decide) ?_
  refine pt_X4_39 hC hP hS (kI (kI (kI (kI (kI (kI (hqk))))))) dX4_send_55 (fun H locs hP hz hS => ?_)
  replace hsz := hz.trans hsz
  refine lv_aload hx hb dX4_send_58 (lv_at hl 0 rfl) ?_
  exact g_aret (v := some _) hC hP hS hr hlk (by decide) (by decide) (⟨rfl, rfl, hsz⟩) dX4_send_60

set_option maxRecDepth 100000 in
set_option maxHeartbeats 4000000 in
theorem lp_X2_copyRows {p : Program} {l : Launch} {e : Env} {R : Room} {s : State} {m : MethodId} {args : Array Value} {below : List Frame} {meth : Method} {c : Code} {cells slots : Nat} {Q : State → Prop} {N0 : Nat} {D : va_G} {cy : Nat → ClassId} {S : gS} {sz : Nat} (hC : gC N0 D cy p s m args c cX2_copyRows 3 RX2) {a r fr : Nat} {f : Nat → Nat} (ha : gK S a = 3) (hr0 : gR S a 7 = some r) (hrk : gK S r = 15) (hrn : gn S r = 8) (hfk : gK S fr = 15) (hfn : gn S fr = 8) (hf : ∀ j, j < 8 → gR S fr j = some (f j) ∧ gK S (f j) = 6)
    (hexit : ∀ (H : Heap) (locs : List Loc) (ls : Array Slot), gP N0 D cy (sRow S r 8 (fun j => some (f j))) H → H.size = sz → va_S (fun q => N0 ≤ q) s.heap H locs → lv_has ls 3 [(2, .int (nI 8)), (0, .ref (a)), (1, .ref (fr))] → W p l e R s m args below meth c H locs cells slots Q (F0 m 23 ls [])) :
    ∀ (n i : Nat) (H : Heap) (locs : List Loc) (ls : Array Slot), i + n = 8 → gP N0 D cy (sRow S r i (fun j => some (f j))) H → H.size = sz → va_S (fun q => N0 ≤ q) s.heap H locs → lv_has ls 3 [(2, .int (nI i)), (0, .ref (a)), (1, .ref (fr))] → W p l e R s m args below meth c H locs cells slots Q (F0 m 2 ls []) := by
  have hx := hC.1
  have hb := hC.2.1
  intro n
  induction n with
  | zero =>
    intro i H locs ls hi hP hsz hS hl
    have hi8 : i = 8 := by omega
    subst hi8
    have har : a ≠ r := fun h => by rw [h] at ha; omega
    refine lv_iload_n hx hb dX2_copyRows_2 rfl (lv_at hl 0 rfl) ?_
    refine lv_bipush (v := 8) hx hb dX2_copyRows_3 (by decide) ?_
    refine lv_icmp_ge (tgt := 23) hx hb dX2_copyRows_5 (by decide) (fun c_5 => ?_) (fun c_5 => ?_)
    · exact hexit _ _ _ hP hsz hS (lv_sub hl [0, 1, 2] rfl)
    · exact absurd (by decide) c_5
  | succ n ih =>
    intro i H locs ls hi hP hsz hS hl
    have hi8 : i < 8 := by omega
    have har : a ≠ r := fun h => by rw [h] at ha; omega
    have hcl : (nI i).toNatClampNeg = i := nI_clamp (by omega)
    refine lv_iload_n hx hb dX2_copyRows_2 rfl (lv_at hl 0 rfl) ?_
    refine lv_bipush (v := 8) hx hb dX2_copyRows_3 (by decide) ?_
    refine lv_icmp_ge (tgt := 23) hx hb dX2_copyRows_5 (by decide) (fun c_5 => ?_) (fun c_5 => ?_)
    · exact absurd c_5 (nI_ge (a := i) (b := 8) (by omega) (by decide))
    · refine lv_aload_n hx hb dX2_copyRows_8 rfl (lv_at hl 1 rfl) ?_
      refine gt_X2_11 hC hP (kW (ha)) (rW (by first | assumption | exact Ne.symm (by assumption)) ((hr0))) dX2_copyRows_9 ?_
      refine lv_iload_n hx hb dX2_copyRows_12 rfl (lv_at hl 0 rfl) ?_
      refine lv_aload_n hx hb dX2_copyRows_13 rfl (lv_at hl 2 rfl) ?_
      refine lv_iload_n hx hb dX2_copyRows_14 rfl (lv_at hl 0 rfl) ?_
      refine g_aald hC hP (j := 3) (by decide) (kW (hfk)) (by show vp_in (nI i) (gn S fr); rw [hfn]; exact vp_in_nI hi8 (by decide)) dX2_copyRows_15 ?_
      refine g_rf (by rw [hcl, sRow_ge (Nat.le_refl i)]; exact (hf i hi8).1) ?_
      refine g_aast hC hP hS (kd := 15) (ci := 5) (t0 := 6) (by decide) rfl rfl (by decide) (kW (hrk)) (kW ((hf i hi8).2)) (by show vp_in (nI i) (gn S r); rw [hrn]; exact vp_in_nI hi8 (by decide)) dX2_copyRows_16 (fun H locs hP hz hS => ?_)
      replace hsz := hz.trans hsz
      rw [hcl] at hP
      refine lv_iinc (v := _ + 1) (lv' := [(2, .int _), (0, .ref _), (1, .ref _)]) hx hb dX2_copyRows_17 hl (k := 0) rfl rfl (by decide) rfl (fun ls hl => ?_)
      refine lv_goto (tgt := 2) hx hb dX2_copyRows_20 (by decide) ?_
      exact ih (i + 1) _ _ _ (by omega) (by exact (sRow_s S r i (fun j => some (f j))) ▸ hP) hsz hS (by rw [nI_succ]; exact lv_sub hl [0, 1, 2] rfl)

set_option maxRecDepth 100000 in
set_option maxHeartbeats 4000000 in
theorem c_X2_copyRows (l : Launch) (N0 : Nat) (D : va_G) (cy : Nat → ClassId) (S : gS) (sz : Nat) (a r fr : Nat) (f : Nat → Nat) (ha : gK S a = 3) (hr0 : gR S a 7 = some r) (hrk : gK S r = 15) (hrn : gn S r = 8) (hfk : gK S fr = 15) (hfn : gn S fr = 8) (hf : ∀ j, j < 8 → gR S fr j = some (f j) ∧ gK S (f j) = 6) : gM l yX2_copyRows cX2_copyRows 3 (none : Option FieldType) { frames := 0, cells := 0, slots := 0, locals := 0 } N0 D cy [.ref a, .ref fr] S sz (fun v S1 z => v = none ∧ S1 = sRow S r 8 (fun j => some (f j)) ∧ z = sz) := by
  refine g_body (by decide) rfl (Nat.le_of_ble_eq_true rfl) ?_
  intro p e s m args below meth c ls hC hU hr hlk hnm hsz hP hS hl
  have hx := hC.1
  have hb := hC.2.1
  refine lv_iconst (v := 0) hx hb dX2_copyRows_0 (by decide) ?_
  refine lv_istore_n (lv' := [(2, .int _), (0, .ref _), (1, .ref _)]) hx hb dX2_copyRows_1 rfl hl (by decide) rfl (fun ls hl => ?_)
  refine lp_X2_copyRows (sz := sz) hC ha hr0 hrk hrn hfk hfn hf (fun H locs ls hP hsz hS hl => ?_) 8 0 _ _ _ rfl (by rw [sRow_0]; exact hP) hsz hS hl
  exact g_vret hC hP hS hr hlk (by decide) (by decide) (⟨rfl, rfl, hsz⟩) dX2_copyRows_23
end
section
def tkf (f : Nat → Nat) (k j : Nat) : Nat := if j < k then f j else if j < 90 then f (j + 1) else f k
set_option maxRecDepth 100000 in
set_option maxHeartbeats 4000000 in
theorem lp_X4_take {p : Program} {l : Launch} {e : Env} {R : Room} {s : State} {m : MethodId} {args : Array Value} {below : List Frame} {meth : Method} {c : Code} {cells slots : Nat} {Q : State → Prop} {N0 : Nat} {D : va_G} {cy : Nat → ClassId} {S : gS} {sz : Nat} (hC : gC N0 D cy p s m args c cX4_take 4 RX4) {a pl kk : Nat} {f : Nat → Nat} (ha : gK S a = 5) (hp : gR S a 0 = some pl) (hk : gK S pl = 13) (hn : gn S pl = 91) (hf : ∀ j, j < 91 → gR S pl j = some (f j) ∧ gK S (f j) = 3) {q : Nat}
    (hexit : ∀ (H : Heap) (locs : List Loc) (ls : Array Slot), gP N0 D cy (sRow S pl 90 (fun j => some (tkf f kk j))) H → H.size = sz → va_S (fun q => N0 ≤ q) s.heap H locs → lv_has ls 4 [(3, .int (nI 90)), (2, .ref (q)), (0, .ref (a)), (1, .int (nI kk))] → W p l e R s m args below meth c H locs cells slots Q (F0 m 35 ls [])) :
    ∀ (n i : Nat) (H : Heap) (locs : List Loc) (ls : Array Slot), i + n = 90 → kk ≤ i → gP N0 D cy (sRow S pl i (fun j => some (tkf f kk j))) H → H.size = sz → va_S (fun q => N0 ≤ q) s.heap H locs → lv_has ls 4 [(3, .int (nI i)), (2, .ref (q)), (0, .ref (a)), (1, .int (nI kk))] → W p l e R s m args below meth c H locs cells slots Q (F0 m 9 ls []) := by
  have hx := hC.1
  have hb := hC.2.1
  intro n
  induction n with
  | zero =>
    intro i H locs ls hi hh hP hsz hS hl
    have hi8 : i = 90 := by omega
    subst hi8
    have hap : a ≠ pl := fun h => by rw [h] at ha; omega
    refine lv_iload_n hx hb dX4_take_9 rfl (lv_at hl 0 rfl) ?_
    refine lv_bipush (v := 90) hx hb dX4_take_10 (by decide) ?_
    refine lv_icmp_ge (tgt := 35) hx hb dX4_take_12 (by decide) (fun c_12 => ?_) (fun c_12 => ?_)
    · exact hexit _ _ _ hP hsz hS (lv_sub hl [0, 1, 2, 3] rfl)
    · exact absurd (by decide) c_12
  | succ n ih =>
    intro i H locs ls hi hh hP hsz hS hl
    have hi8 : i < 90 := by omega
    have hap : a ≠ pl := fun h => by rw [h] at ha; omega
    have hcl : (nI i).toNatClampNeg = i := nI_clamp (by omega)
    have hcl1 : (nI i + 1).toNatClampNeg = i + 1 := by rw [← nI_succ]; exact nI_clamp (by omega)
    refine lv_iload_n hx hb dX4_take_9 rfl (lv_at hl 0 rfl) ?_
    refine lv_bipush (v := 90) hx hb dX4_take_10 (by decide) ?_
    refine lv_icmp_ge (tgt := 35) hx hb dX4_take_12 (by decide) (fun c_12 => ?_) (fun c_12 => ?_)
    · exact absurd c_12 (nI_ge (a := i) (b := 90) (by omega) (by decide))
    · refine lv_aload_n hx hb dX4_take_15 rfl (lv_at hl 2 rfl) ?_
      refine gt_X4_11 hC hP (kW (ha)) (rW (by first | assumption | exact Ne.symm (by assumption)) (hp)) dX4_take_16 ?_
      refine lv_iload_n hx hb dX4_take_19 rfl (lv_at hl 0 rfl) ?_
      refine lv_aload_n hx hb dX4_take_20 rfl (lv_at hl 2 rfl) ?_
      refine gt_X4_11 hC hP (kW (ha)) (rW (by first | assumption | exact Ne.symm (by assumption)) (hp)) dX4_take_21 ?_
      refine lv_iload_n hx hb dX4_take_24 rfl (lv_at hl 0 rfl) ?_
      refine lv_iconst (v := 1) hx hb dX4_take_25 (by decide) ?_
      refine lv_iadd hx hb dX4_take_26 ?_
      refine g_aald hC hP (j := 1) (by decide) (kW (hk)) (by show vp_in (nI i + 1) (gn S pl); rw [hn, ← nI_succ]; exact vp_in_nI (by omega) (by decide)) dX4_take_27 ?_
      refine g_rf (by rw [hcl1, sRow_ge (by omega)]; exact (hf (i + 1) (by omega)).1) ?_
      refine g_aast hC hP hS (kd := 13) (ci := 2) (t0 := 4) (by decide) rfl rfl (by decide) (kW (hk)) (kW ((hf (i + 1) (by omega)).2)) (by show vp_in (nI i) (gn S pl); rw [hn]; exact vp_in_nI (by omega) (by decide)) dX4_take_28 (fun H locs hP hz hS => ?_)
      replace hsz := hz.trans hsz
      refine lv_iinc (v := _ + 1) (lv' := [(3, .int _), (2, .ref _), (0, .ref _), (1, .int _)]) hx hb dX4_take_29 hl (k := 0) rfl rfl (by decide) rfl (fun ls hl => ?_)
      refine lv_goto (tgt := 9) hx hb dX4_take_32 (by decide) ?_
      exact ih (i + 1) _ _ _ (by omega) (by omega) (by rw [hcl, show some (f (i + 1)) = (fun j => some (tkf f kk j)) i from by simp [tkf, hi8, Nat.not_lt.mpr hh]] at hP; exact (sRow_s S pl i (fun j => some (tkf f kk j))) ▸ hP) hsz hS (by rw [nI_succ]; exact lv_sub hl [0, 1, 2, 3] rfl)

set_option maxRecDepth 100000 in
set_option maxHeartbeats 4000000 in
theorem c_X4_take (l : Launch) (N0 : Nat) (D : va_G) (cy : Nat → ClassId) (S : gS) (sz : Nat) (a pl kk : Nat) (f : Nat → Nat) (ha : gK S a = 5) (hp : gR S a 0 = some pl) (hk : gK S pl = 13) (hn : gn S pl = 91) (hf : ∀ j, j < 91 → gR S pl j = some (f j) ∧ gK S (f j) = 3) (hkk : kk < 91) : gM l yX4_take cX4_take 4 (none : Option FieldType) { frames := 0, cells := 0, slots := 0, locals := 0 } N0 D cy [.ref a, .int (nI kk)] S sz (fun v S1 z => v = none ∧ S1 = sI (sRow S pl 91 (fun j => some (tkf f kk j))) a 1 (gI S a 1 - 1) ∧ z = sz) := by
  refine g_body (by decide) rfl (Nat.le_of_ble_eq_true rfl) ?_
  intro p e s m args below meth c ls hC hU hr hlk hnm hsz hP hS hl
  have hx := hC.1
  have hb := hC.2.1
  refine lv_aload_n hx hb dX4_take_0 rfl (lv_at hl 0 rfl) ?_
  refine gt_X4_11 hC hP (ha) (hp) dX4_take_1 ?_
  refine lv_iload_n hx hb dX4_take_4 rfl (lv_at hl 1 rfl) ?_
  refine g_aald hC hP (j := 1) (by decide) (hk) (by rw [hn]; exact vp_in_nI hkk (by decide)) dX4_take_5 ?_
  refine g_rf (by rw [nI_clamp (by omega)]; exact (hf kk hkk).1) ?_
  refine lv_astore_n (lv' := [(2, .ref _), (0, .ref _), (1, .int _)]) hx hb dX4_take_6 rfl hl (by decide) rfl (fun ls hl => ?_)
  refine lv_iload_n hx hb dX4_take_7 rfl (lv_at hl 2 rfl) ?_
  refine lv_istore_n (lv' := [(3, .int _), (2, .ref _), (0, .ref _), (1, .int _)]) hx hb dX4_take_8 rfl hl (by decide) rfl (fun ls hl => ?_)
  refine lp_X4_take (sz := sz) (kk := kk) (f := f) hC ha hp hk hn hf (fun H locs ls hP hsz hS hl => ?_) (90 - kk) kk _ _ _ (by omega) (Nat.le_refl _) (by rw [sRow_id (fun j hj => by rw [show tkf f kk j = f j from by simp [tkf, hj]]; exact ((hf j (by omega)).1).symm)]; exact hP) hsz hS (lv_sub hl [0, 1, 2, 3] rfl)
  have hap : a ≠ pl := fun h => by rw [h] at ha; omega
  refine lv_aload_n hx hb dX4_take_35 rfl (lv_at hl 2 rfl) ?_
  refine gt_X4_11 hC hP (kW (ha)) (rW (by first | assumption | exact Ne.symm (by assumption)) (hp)) dX4_take_36 ?_
  refine lv_bipush (v := 90) hx hb dX4_take_39 (by decide) ?_
  refine lv_aload_n hx hb dX4_take_41 rfl (lv_at hl 1 rfl) ?_
  refine g_aast hC hP hS (kd := 13) (ci := 2) (t0 := 4) (by decide) rfl rfl (by decide) (kW (hk)) (kW ((hf kk hkk).2)) (by show vp_in 90 (gn S pl); rw [hn]; exact vp_in_nI (n := 90) (by decide) (by decide)) dX4_take_42 (fun H locs hP hz hS => ?_)
  replace hsz := hz.trans hsz
  rw [show ((90 : Int32).toNatClampNeg) = 90 from by decide, show some (f kk) = (fun j => some (tkf f kk j)) 90 from by simp [tkf]; omega, sRow_s] at hP
  refine lv_aload_n hx hb dX4_take_43 rfl (lv_at hl 2 rfl) ?_
  refine lv_dup hx hb dX4_take_44 rfl ?_
  refine gt_X4_20 hC hP (kW (ha)) dX4_take_45 ?_
  refine lv_iconst (v := 1) hx hb dX4_take_48 (by decide) ?_
  refine lv_isub hx hb dX4_take_49 ?_
  refine pt_X4_20 hC hP hS (kW (ha)) dX4_take_50 (fun H locs hP hz hS => ?_)
  replace hsz := hz.trans hsz
  exact g_vret hC hP hS hr hlk (by decide) (by decide) (⟨rfl, rfl, hsz⟩) dX4_take_53
set_option maxRecDepth 100000 in
set_option maxHeartbeats 4000000 in
theorem c_X3_refuse (l : Launch) (N0 : Nat) (D : va_G) (cy : Nat → ClassId) (S : gS) (sz : Nat) (a lt : Nat) (ha : gK S a = 4) (hm : gK S lt = 3) (po pl q : Nat) (hpo : gK S po = 5) (hp : gR S po 0 = some pl) (hk : gK S pl = 13) (hn : vp_in (gI S po 1) (gn S pl)) (hq : gR S pl (gI S po 1).toNatClampNeg = some q) (hqk : gK S q = 3) : gM l yX3_refuse cX3_refuse 3 (none : Option FieldType) { frames := 1, cells := 0, slots := 0, locals := 40 } N0 D cy [.ref a, .ref lt, .ref po] S sz (fun v S1 z => v = none ∧ S1 = sI (cSend S po q 4 (gI S lt 1) (gI S lt 2) (gI S lt 3)) q 5 (gI S a 1) ∧ z = sz) := by
  refine g_body (by decide) rfl (Nat.le_of_ble_eq_true rfl) ?_
  intro p e s m args below meth c ls hC hU hr hlk hnm hsz hP hS hl
  have hx := hC.1
  have hb := hC.2.1
  have n1 : a ≠ q := fun h => by rw [h] at ha; omega
  have n2 : a ≠ po := fun h => by rw [h] at ha; omega
  have n3 : lt ≠ po := fun h => by rw [h] at hm; omega
  have n4 : q ≠ po := fun h => by rw [h] at hqk; omega
  refine lv_aload_n hx hb dX3_refuse_0 rfl (lv_at hl 2 rfl) ?_
  refine lv_iconst (v := 4) hx hb dX3_refuse_1 (by decide) ?_
  refine lv_aload_n hx hb dX3_refuse_2 rfl (lv_at hl 1 rfl) ?_
  refine gt_X3_34 hC hP (hm) dX3_refuse_3 ?_
  refine lv_aload_n hx hb dX3_refuse_6 rfl (lv_at hl 1 rfl) ?_
  refine gt_X3_37 hC hP (hm) dX3_refuse_7 ?_
  refine lv_aload_n hx hb dX3_refuse_10 rfl (lv_at hl 1 rfl) ?_
  refine gt_X3_21 hC hP (hm) dX3_refuse_11 ?_
  refine g_callV (As := [.int _, .int _, .int _, .int _]) (rest := []) hC hU hP hS hl.1 (c_X4_send l N0 D cy _ _ _ _ _ _ po pl q hpo hp hk hn hq hqk) mL_X3_40 iM_X4_send sL_X4_send iN_X4 cD_X4_send ⟨by decide, by decide, rfl⟩ ⟨by decide, by decide⟩ ⟨by decide, by decide⟩ (ci := 4) rfl (by decide) (hpo) rfl (Nat.le_of_ble_eq_true rfl) dX3_refuse_14 (fun v S1 H locs hw hP hz hS => ?_)
  obtain ⟨rfl, hS1, hz2⟩ := hw
  replace hS1 := hS1.symm
  subst hS1
  replace hsz := hz2.trans hsz
  refine lv_aload_n hx hb dX3_refuse_17 rfl (lv_at hl 0 rfl) ?_
  refine gt_X3_27 hC hP (kS (ha)) dX3_refuse_18 ?_
  refine pt_X3_57 hC hP hS (kS (hqk)) dX3_refuse_21 (fun H locs hP hz hS => ?_)
  replace hsz := hz.trans hsz
  exact g_vret hC hP hS hr hlk (by decide) (by decide) (⟨rfl, by rw [gI_cSend n2 n1], hsz⟩) dX3_refuse_24

set_option maxRecDepth 100000 in
set_option maxHeartbeats 4000000 in
theorem c_X3_answerPrepare (l : Launch) (N0 : Nat) (D : va_G) (cy : Nat → ClassId) (S : gS) (sz : Nat) (a lt ra rq : Nat) (f : Nat → Nat) (ha : gK S a = 4) (hm : gK S lt = 3) (hra : gR S a 2 = some ra) (hrak : gK S ra = 15) (hran : gn S ra = 8) (hf : ∀ j, j < 8 → gR S ra j = some (f j) ∧ gK S (f j) = 6) (po pl q : Nat) (hpo : gK S po = 5) (hp : gR S po 0 = some pl) (hk : gK S pl = 13) (hn : vp_in (gI S po 1) (gn S pl)) (hq : gR S pl (gI S po 1).toNatClampNeg = some q) (hqk : gK S q = 3) (hrq : gR S q 7 = some rq) (hrqk : gK S rq = 15) (hrqn : gn S rq = 8) : gM l yX3_answerPrepare cX3_answerPrepare 3 (none : Option FieldType) { frames := 2, cells := 0, slots := 0, locals := 80 } N0 D cy [.ref a, .ref lt, .ref po] S sz (fun v S1 z => v = none ∧ S1 = (if gI S a 1 < gI S lt 3 then sRow (cSend (sI S a 1 (gI S lt 3)) po q 1 (gI S lt 1) (gI S lt 2) (gI S lt 3)) rq 8 (fun j => some (f j)) else sI (cSend S po q 4 (gI S lt 1) (gI S lt 2) (gI S lt 3)) q 5 (gI S a 1)) ∧ z = sz) := by
  refine g_body (by decide) rfl (Nat.le_of_ble_eq_true rfl) ?_
  intro p e s m args below meth c ls hC hU hr hlk hnm hsz hP hS hl
  have hx := hC.1
  have hb := hC.2.1
  have n1 : a ≠ q := fun h => by rw [h] at ha; omega
  have n2 : a ≠ po := fun h => by rw [h] at ha; omega
  have n3 : lt ≠ po := fun h => by rw [h] at hm; omega
  have n4 : q ≠ po := fun h => by rw [h] at hqk; omega
  have n5 : lt ≠ a := fun h => by rw [h] at hm; omega
  refine lv_aload_n hx hb dX3_answerPrepare_0 rfl (lv_at hl 1 rfl) ?_
  refine gt_X3_21 hC hP (hm) dX3_answerPrepare_1 ?_
  refine lv_aload_n hx hb dX3_answerPrepare_4 rfl (lv_at hl 0 rfl) ?_
  refine gt_X3_27 hC hP (ha) dX3_answerPrepare_5 ?_
  refine lv_icmp_gt (tgt := 18) hx hb dX3_answerPrepare_8 (by decide) (fun c_8 => ?_) (fun c_8 => ?_)
  · refine lv_aload_n hx hb dX3_answerPrepare_18 rfl (lv_at hl 0 rfl) ?_
    refine lv_aload_n hx hb dX3_answerPrepare_19 rfl (lv_at hl 1 rfl) ?_
    refine gt_X3_21 hC hP (hm) dX3_answerPrepare_20 ?_
    refine pt_X3_27 hC hP hS (ha) dX3_answerPrepare_23 (fun H locs hP hz hS => ?_)
    replace hsz := hz.trans hsz
    refine lv_aload_n hx hb dX3_answerPrepare_26 rfl (lv_at hl 2 rfl) ?_
    refine lv_iconst (v := 1) hx hb dX3_answerPrepare_27 (by decide) ?_
    refine lv_aload_n hx hb dX3_answerPrepare_28 rfl (lv_at hl 1 rfl) ?_
    refine gt_X3_34 hC hP (kI (hm)) dX3_answerPrepare_29 ?_
    refine lv_aload_n hx hb dX3_answerPrepare_32 rfl (lv_at hl 1 rfl) ?_
    refine gt_X3_37 hC hP (kI (hm)) dX3_answerPrepare_33 ?_
    refine lv_aload_n hx hb dX3_answerPrepare_36 rfl (lv_at hl 1 rfl) ?_
    refine gt_X3_21 hC hP (kI (hm)) dX3_answerPrepare_37 ?_
    refine g_callV (As := [.int _, .int _, .int _, .int _]) (rest := []) hC hU hP hS hl.1 (c_X4_send l N0 D cy (sI S a 1 (gI S lt 3)) _ _ _ _ _ po pl q (kI hpo) (rI hp) (kI hk) (by rw [gI_sI, if_pos rfl, if_neg (Ne.symm n2)]; exact hn) (by rw [gI_sI, if_pos rfl, if_neg (Ne.symm n2)]; exact hq) (kI hqk)) mL_X3_40 iM_X4_send sL_X4_send iN_X4 cD_X4_send ⟨by decide, by decide, rfl⟩ ⟨by decide, by decide⟩ ⟨by decide, by decide⟩ (ci := 4) rfl (by decide) (kI (hpo)) rfl (Nat.le_of_ble_eq_true rfl) dX3_answerPrepare_40 (fun v S1 H locs hw hP hz hS => ?_)
    obtain ⟨rfl, hS1, hz2⟩ := hw
    replace hS1 := hS1.symm
    subst hS1
    replace hsz := hz2.trans hsz
    refine lv_aload_n hx hb dX3_answerPrepare_43 rfl (lv_at hl 0 rfl) ?_
    refine gt_X3_17 hC hP (kS (kI (ha))) (rS (rI (hra))) dX3_answerPrepare_44 ?_
    refine g_callV (As := [.ref _]) (rest := []) hC hU hP hS hl.1 (c_X2_copyRows l N0 D cy _ _ q rq ra f (kS (kI hqk)) (rS (rI hrq)) (kS (kI hrqk)) (nS' (nI' hrqn)) (kS (kI hrak)) (nS' (nI' hran)) (fun j hj => ⟨rS (rI (hf j hj).1), kS (kI (hf j hj).2)⟩)) mL_X3_46 iM_X2_copyRows sL_X2_copyRows iN_X2 cD_X2_copyRows ⟨by decide, by decide, rfl⟩ ⟨by decide, by decide⟩ ⟨by decide, by decide⟩ (ci := 2) rfl (by decide) (kS (kI (hqk))) rfl (Nat.le_of_ble_eq_true rfl) dX3_answerPrepare_47 (fun v S1 H locs hw hP hz hS => ?_)
    obtain ⟨rfl, hS1, hz2⟩ := hw
    replace hS1 := hS1.symm
    subst hS1
    replace hsz := hz2.trans hsz
    exact g_vret hC hP hS hr hlk (by decide) (by decide) (⟨rfl, by rw [if_pos (by assumption)]; simp only [gI_sI, n5, if_false, ite_self], hsz⟩) dX3_answerPrepare_50
  · refine lv_aload_n hx hb dX3_answerPrepare_11 rfl (lv_at hl 0 rfl) ?_
    refine lv_aload_n hx hb dX3_answerPrepare_12 rfl (lv_at hl 1 rfl) ?_
    refine lv_aload_n hx hb dX3_answerPrepare_13 rfl (lv_at hl 2 rfl) ?_
    refine g_callV (As := [.ref _, .ref _]) (rest := []) hC hU hP hS hl.1 (c_X3_refuse l N0 D cy _ _ a lt ha hm po pl q hpo hp hk hn hq hqk) mL_X3_30 iM_X3_refuse sL_X3_refuse iN_X3 cD_X3_refuse ⟨by decide, by decide, rfl⟩ ⟨by decide, by decide⟩ ⟨by decide, by decide⟩ (ci := 3) rfl (by decide) (ha) rfl (Nat.le_of_ble_eq_true rfl) dX3_answerPrepare_14 (fun v S1 H locs hw hP hz hS => ?_)
    obtain ⟨rfl, hS1, hz2⟩ := hw
    replace hS1 := hS1.symm
    subst hS1
    replace hsz := hz2.trans hsz
    exact g_vret hC hP hS hr hlk (by decide) (by decide) (⟨rfl, by rw [if_neg (by assumption)], hsz⟩) dX3_answerPrepare_17

set_option maxRecDepth 100000 in
set_option maxHeartbeats 4000000 in
theorem c_X3_answerAccept (l : Launch) (N0 : Nat) (D : va_G) (cy : Nat → ClassId) (S : gS) (sz : Nat) (a lt ra rw : Nat) (ha : gK S a = 4) (hm : gK S lt = 3) (hra : gR S a 2 = some ra) (hrak : gK S ra = 15) (hrw : gR S lt 6 = some rw) (hrwk : gK S rw = 6) (hin : vp_in (gI S lt 4) (gn S ra)) (po pl q : Nat) (hpo : gK S po = 5) (hp : gR S po 0 = some pl) (hk : gK S pl = 13) (hn : vp_in (gI S po 1) (gn S pl)) (hq : gR S pl (gI S po 1).toNatClampNeg = some q) (hqk : gK S q = 3) : gM l yX3_answerAccept cX3_answerAccept 3 (none : Option FieldType) { frames := 2, cells := 0, slots := 0, locals := 80 } N0 D cy [.ref a, .ref lt, .ref po] S sz (fun v S1 z => v = none ∧ S1 = (if gI S lt 3 < gI S a 1 then sI (cSend S po q 4 (gI S lt 1) (gI S lt 2) (gI S lt 3)) q 5 (gI S a 1) else cSend (sR (sI S a 1 (gI S lt 3)) ra (gI S lt 4).toNatClampNeg (some rw)) po q 3 (gI S lt 1) (gI S lt 2) (gI S lt 3)) ∧ z = sz) := by
  refine g_body (by decide) rfl (Nat.le_of_ble_eq_true rfl) ?_
  intro p e s m args below meth c ls hC hU hr hlk hnm hsz hP hS hl
  have hx := hC.1
  have hb := hC.2.1
  have n1 : a ≠ q := fun h => by rw [h] at ha; omega
  have n2 : a ≠ po := fun h => by rw [h] at ha; omega
  have n3 : lt ≠ po := fun h => by rw [h] at hm; omega
  have n4 : q ≠ po := fun h => by rw [h] at hqk; omega
  have n5 : lt ≠ a := fun h => by rw [h] at hm; omega
  have n6 : po ≠ ra := fun h => by rw [h] at hpo; omega
  have n7 : pl ≠ ra := fun h => by rw [h] at hk; omega
  have e1 : ∀ j, j ≠ 1 ∨ lt ≠ a → gI (sI S a 1 (gI S lt 3)) lt j = gI S lt j := fun j _ => by rw [gI_sI, if_neg n5]; simp
  refine lv_aload_n hx hb dX3_answerAccept_0 rfl (lv_at hl 1 rfl) ?_
  refine gt_X3_21 hC hP (hm) dX3_answerAccept_1 ?_
  refine lv_aload_n hx hb dX3_answerAccept_4 rfl (lv_at hl 0 rfl) ?_
  refine gt_X3_27 hC hP (ha) dX3_answerAccept_5 ?_
  refine lv_icmp_ge (tgt := 18) hx hb dX3_answerAccept_8 (by decide) (fun c_8 => ?_) (fun c_8 => ?_)
  · refine lv_aload_n hx hb dX3_answerAccept_18 rfl (lv_at hl 0 rfl) ?_
    refine lv_aload_n hx hb dX3_answerAccept_19 rfl (lv_at hl 1 rfl) ?_
    refine gt_X3_21 hC hP (hm) dX3_answerAccept_20 ?_
    refine pt_X3_27 hC hP hS (ha) dX3_answerAccept_23 (fun H locs hP hz hS => ?_)
    replace hsz := hz.trans hsz
    refine lv_aload_n hx hb dX3_answerAccept_26 rfl (lv_at hl 0 rfl) ?_
    refine gt_X3_17 hC hP (kI (ha)) (rI (hra)) dX3_answerAccept_27 ?_
    refine lv_aload_n hx hb dX3_answerAccept_30 rfl (lv_at hl 1 rfl) ?_
    refine gt_X3_50 hC hP (kI (hm)) dX3_answerAccept_31 ?_
    refine lv_aload_n hx hb dX3_answerAccept_34 rfl (lv_at hl 1 rfl) ?_
    refine gt_X3_53 hC hP (kI (hm)) (rI (hrw)) dX3_answerAccept_35 ?_
    refine g_aast hC hP hS (kd := 15) (ci := 5) (t0 := 6) (by decide) rfl rfl (by decide) (kI (hrak)) (kI (hrwk)) (by show vp_in (gI (sI S a 1 (gI S lt 3)) lt 4) (gn S ra); rw [e1 4 (Or.inr n5)]; exact hin) dX3_answerAccept_38 (fun H locs hP hz hS => ?_)
    replace hsz := hz.trans hsz
    rw [e1 4 (Or.inr n5)] at hP
    refine lv_aload_n hx hb dX3_answerAccept_39 rfl (lv_at hl 2 rfl) ?_
    refine lv_iconst (v := 3) hx hb dX3_answerAccept_40 (by decide) ?_
    refine lv_aload_n hx hb dX3_answerAccept_41 rfl (lv_at hl 1 rfl) ?_
    refine gt_X3_34 hC hP (kR (kI (hm))) dX3_answerAccept_42 ?_
    refine lv_aload_n hx hb dX3_answerAccept_45 rfl (lv_at hl 1 rfl) ?_
    refine gt_X3_37 hC hP (kR (kI (hm))) dX3_answerAccept_46 ?_
    refine lv_aload_n hx hb dX3_answerAccept_49 rfl (lv_at hl 1 rfl) ?_
    refine gt_X3_21 hC hP (kR (kI (hm))) dX3_answerAccept_50 ?_
    refine g_callV (As := [.int _, .int _, .int _, .int _]) (rest := []) hC hU hP hS hl.1 (c_X4_send l N0 D cy _ _ _ _ _ _ po pl q (kR (kI hpo)) (rR (Or.inr n6) (rI hp)) (kR (kI hk)) (by rw [gI_sR, gI_sI, if_pos rfl, if_neg (Ne.symm n2)]; exact hn) (by rw [gI_sR, gI_sI, if_pos rfl, if_neg (Ne.symm n2)]; exact rR (Or.inr n7) (rI hq)) (kR (kI hqk))) mL_X3_40 iM_X4_send sL_X4_send iN_X4 cD_X4_send ⟨by decide, by decide, rfl⟩ ⟨by decide, by decide⟩ ⟨by decide, by decide⟩ (ci := 4) rfl (by decide) (kR (kI (hpo))) rfl (Nat.le_of_ble_eq_true rfl) dX3_answerAccept_53 (fun v S1 H locs hw hP hz hS => ?_)
    obtain ⟨rfl, hS1, hz2⟩ := hw
    replace hS1 := hS1.symm
    subst hS1
    replace hsz := hz2.trans hsz
    refine lv_pop hx hb dX3_answerAccept_56 rfl ?_
    exact g_vret hC hP hS hr hlk (by decide) (by decide) (⟨rfl, by rw [if_neg (by first | assumption | exact Int32.not_lt.mpr (by assumption))]; simp only [gI_sR, gI_sI, n5, if_false, ite_self], hsz⟩) dX3_answerAccept_57
  · refine lv_aload_n hx hb dX3_answerAccept_11 rfl (lv_at hl 0 rfl) ?_
    refine lv_aload_n hx hb dX3_answerAccept_12 rfl (lv_at hl 1 rfl) ?_
    refine lv_aload_n hx hb dX3_answerAccept_13 rfl (lv_at hl 2 rfl) ?_
    refine g_callV (As := [.ref _, .ref _]) (rest := []) hC hU hP hS hl.1 (c_X3_refuse l N0 D cy _ _ a lt ha hm po pl q hpo hp hk hn hq hqk) mL_X3_30 iM_X3_refuse sL_X3_refuse iN_X3 cD_X3_refuse ⟨by decide, by decide, rfl⟩ ⟨by decide, by decide⟩ ⟨by decide, by decide⟩ (ci := 3) rfl (by decide) (ha) rfl (Nat.le_of_ble_eq_true rfl) dX3_answerAccept_14 (fun v S1 H locs hw hP hz hS => ?_)
    obtain ⟨rfl, hS1, hz2⟩ := hw
    replace hS1 := hS1.symm
    subst hS1
    replace hsz := hz2.trans hsz
    exact g_vret hC hP hS hr hlk (by decide) (by decide) (⟨rfl, by rw [if_pos (by first | assumption | exact Int32.not_le.mp (by assumption))], hsz⟩) dX3_answerAccept_17
end
section
set_option maxRecDepth 100000 in
set_option maxHeartbeats 4000000 in
theorem c_X4_sendAgain (l : Launch) (N0 : Nat) (D : va_G) (cy : Nat → ClassId) (S : gS) (sz : Nat) (k : Int32) (po pl q lt rl rq rw : Nat) (f : Nat → Nat) (hpo : gK S po = 5) (hp : gR S po 0 = some pl) (hk : gK S pl = 13) (hn : vp_in (gI S po 1) (gn S pl)) (hq : gR S pl (gI S po 1).toNatClampNeg = some q) (hqk : gK S q = 3) (hkn : vp_in k (gn S pl)) (hlt : gR S pl k.toNatClampNeg = some lt) (hm : gK S lt = 3) (hne : lt ≠ q) (hrw : gR S lt 6 = some rw) (hrl : gR S lt 7 = some rl) (hrlk : gK S rl = 15) (hrln : gn S rl = 8) (hf : ∀ j, j < 8 → gR S rl j = some (f j) ∧ gK S (f j) = 6) (hrq : gR S q 7 = some rq) (hrqk : gK S rq = 15) (hrqn : gn S rq = 8) : gM l yX4_sendAgain cX4_sendAgain 4 (none : Option FieldType) { frames := 1, cells := 0, slots := 0, locals := 40 } N0 D cy [.ref po, .int k] S sz (fun v S1 z => v = none ∧ S1 = sRow (sR (sI (sI (cSend S po q (gI S lt 0) (gI S lt 1) (gI S lt 2) (gI S lt 3)) q 4 (gI S lt 4)) q 5 (gI S lt 5)) q 6 (some rw)) rq 8 (fun j => some (f j)) ∧ z = sz) := by
  refine g_body (by decide) rfl (Nat.le_of_ble_eq_true rfl) ?_
  intro p e s m args below meth c ls hC hU hr hlk hnm hsz hP hS hl
  have hx := hC.1
  have hb := hC.2.1
  have n3 : lt ≠ po := fun h => by rw [h] at hm; omega
  have n4 : q ≠ po := fun h => by rw [h] at hqk; omega
  have n6 : rl ≠ q := fun h => by rw [h] at hrlk; omega
  have n7 : rq ≠ q := fun h => by rw [h] at hrqk; omega
  refine lv_aload_n hx hb dX4_sendAgain_0 rfl (lv_at hl 0 rfl) ?_
  refine gt_X4_11 hC hP (hpo) (hp) dX4_sendAgain_1 ?_
  refine lv_iload_n hx hb dX4_sendAgain_4 rfl (lv_at hl 1 rfl) ?_
  refine g_aald hC hP (j := 1) (by decide) (hk) (hkn) dX4_sendAgain_5 ?_
  refine g_rf (hlt) ?_
  refine lv_astore_n (lv' := [(2, .ref _), (0, .ref _), (1, .int _)]) hx hb dX4_sendAgain_6 rfl hl (by decide) rfl (fun ls hl => ?_)
  refine lv_aload_n hx hb dX4_sendAgain_7 rfl (lv_at hl 1 rfl) ?_
  refine lv_aload_n hx hb dX4_sendAgain_8 rfl (lv_at hl 0 rfl) ?_
  refine gt_X4_24 hC hP (hm) dX4_sendAgain_9 ?_
  refine lv_aload_n hx hb dX4_sendAgain_12 rfl (lv_at hl 0 rfl) ?_
  refine gt_X4_27 hC hP (hm) dX4_sendAgain_13 ?_
  refine lv_aload_n hx hb dX4_sendAgain_16 rfl (lv_at hl 0 rfl) ?_
  refine gt_X4_30 hC hP (hm) dX4_sendAgain_17 ?_
  refine lv_aload_n hx hb dX4_sendAgain_20 rfl (lv_at hl 0 rfl) ?_
  refine gt_X4_33 hC hP (hm) dX4_sendAgain_21 ?_
  refine g_callV (As := [.int _, .int _, .int _, .int _]) (rest := []) hC hU hP hS hl.1 (c_X4_send l N0 D cy _ _ _ _ _ _ po pl q hpo hp hk hn hq hqk) mL_X4_42 iM_X4_send sL_X4_send iN_X4 cD_X4_send ⟨by decide, by decide, rfl⟩ ⟨by decide, by decide⟩ ⟨by decide, by decide⟩ (ci := 4) rfl (by decide) (hpo) rfl (Nat.le_of_ble_eq_true rfl) dX4_sendAgain_24 (fun v S1 H locs hw hP hz hS => ?_)
  obtain ⟨rfl, hS1, hz2⟩ := hw
  replace hS1 := hS1.symm
  subst hS1
  replace hsz := hz2.trans hsz
  refine lv_astore_n (lv' := [(3, .ref _), (2, .ref _), (0, .ref _), (1, .int _)]) hx hb dX4_sendAgain_27 rfl hl (by decide) rfl (fun ls hl => ?_)
  refine lv_aload_n hx hb dX4_sendAgain_28 rfl (lv_at hl 0 rfl) ?_
  refine lv_aload_n hx hb dX4_sendAgain_29 rfl (lv_at hl 1 rfl) ?_
  refine gt_X4_36 hC hP (kS (hm)) dX4_sendAgain_30 ?_
  refine pt_X4_36 hC hP hS (kS (hqk)) dX4_sendAgain_33 (fun H locs hP hz hS => ?_)
  replace hsz := hz.trans hsz
  rw [gI_cSend n3 hne] at hP
  refine lv_aload_n hx hb dX4_sendAgain_36 rfl (lv_at hl 0 rfl) ?_
  refine lv_aload_n hx hb dX4_sendAgain_37 rfl (lv_at hl 1 rfl) ?_
  refine gt_X4_39 hC hP (kI (kS (hm))) dX4_sendAgain_38 ?_
  refine pt_X4_39 hC hP hS (kI (kS (hqk))) dX4_sendAgain_41 (fun H locs hP hz hS => ?_)
  replace hsz := hz.trans hsz
  rw [gI_sI, if_neg (by decide : ¬ (5 : Nat) = 4), gI_cSend n3 hne] at hP
  refine lv_aload_n hx hb dX4_sendAgain_44 rfl (lv_at hl 0 rfl) ?_
  refine lv_aload_n hx hb dX4_sendAgain_45 rfl (lv_at hl 1 rfl) ?_
  refine gt_X4_46 hC hP (kI (kI (kS (hm)))) (rI (rI (rS (hrw)))) dX4_sendAgain_46 ?_
  refine pt_X4_46 (v := some _) hC hP hS (kI (kI (kS (hqk)))) dX4_sendAgain_49 (fun H locs hP hz hS => ?_)
  replace hsz := hz.trans hsz
  refine lv_aload_n hx hb dX4_sendAgain_52 rfl (lv_at hl 0 rfl) ?_
  refine lv_aload_n hx hb dX4_sendAgain_53 rfl (lv_at hl 1 rfl) ?_
  refine gt_X4_50 hC hP (kR (kI (kI (kS (hm))))) (rR (by first | exact Or.inl (by decide) | exact Or.inr (by assumption) | exact Or.inr (Ne.symm (by assumption))) (rI (rI (rS (hrl))))) dX4_sendAgain_54 ?_
  refine g_callV (As := [.ref _]) (rest := []) hC hU hP hS hl.1 (c_X2_copyRows l N0 D cy _ _ q rq rl f (kR (kI (kI (kS hqk)))) (rR (Or.inl (by decide)) (rI (rI (rS hrq)))) (kR (kI (kI (kS hrqk)))) (nR' (nI' (nI' (nS' hrqn)))) (kR (kI (kI (kS hrlk)))) (nR' (nI' (nI' (nS' hrln)))) (fun j hj => ⟨rR (Or.inr n6) (rI (rI (rS (hf j hj).1))), kR (kI (kI (kS (hf j hj).2)))⟩)) mL_X4_54 iM_X2_copyRows sL_X2_copyRows iN_X2 cD_X2_copyRows ⟨by decide, by decide, rfl⟩ ⟨by decide, by decide⟩ ⟨by decide, by decide⟩ (ci := 2) rfl (by decide) (kR (kI (kI (kS (hqk))))) rfl (Nat.le_of_ble_eq_true rfl) dX4_sendAgain_57 (fun v S1 H locs hw hP hz hS => ?_)
  obtain ⟨rfl, hS1, hz2⟩ := hw
  replace hS1 := hS1.symm
  subst hS1
  replace hsz := hz2.trans hsz
  exact g_vret hC hP hS hr hlk (by decide) (by decide) (⟨rfl, rfl, hsz⟩) dX4_sendAgain_60
end
section
theorem gI_s {S : gS} {a k : Nat} {v : Int32} : gI (sI S a k v) a k = v := by show up2 (gI S) a k v a k = v; exact up2_s
theorem gI_k {S : gS} {a k b j : Nat} {v : Int32} (h : j ≠ k) : gI (sI S a k v) b j = gI S b j := by show up2 (gI S) a k v b j = gI S b j; exact up2_k h
theorem gI_a {S : gS} {a k b j : Nat} {v : Int32} (h : b ≠ a) : gI (sI S a k v) b j = gI S b j := by show up2 (gI S) a k v b j = gI S b j; exact up2_a h
theorem gJ_s {S : gS} {a k : Nat} {v : Int64} : gJ (sJ S a k v) a k = v := by show up2 (gJ S) a k v a k = v; exact up2_s
theorem gJ_k {S : gS} {a k b j : Nat} {v : Int64} (h : j ≠ k) : gJ (sJ S a k v) b j = gJ S b j := by show up2 (gJ S) a k v b j = gJ S b j; exact up2_k h
theorem gJ_a {S : gS} {a k b j : Nat} {v : Int64} (h : b ≠ a) : gJ (sJ S a k v) b j = gJ S b j := by show up2 (gJ S) a k v b j = gJ S b j; exact up2_a h
theorem sRow_congr {S : gS} {a n : Nat} {f g : Nat → Option Nat} (h : ∀ j, j < n → f j = g j) : sRow S a n f = sRow S a n g := by
  unfold sRow
  congr 4
  funext b j
  by_cases hb : b = a
  · by_cases hj : j < n
    · simp [hb, hj, h j hj]
    · simp [hb, hj]
  · simp [hb]
set_option maxRecDepth 100000 in
set_option maxHeartbeats 4000000 in
theorem lp_X1_prepare {p : Program} {l : Launch} {e : Env} {R : Room} {s : State} {m : MethodId} {args : Array Value} {below : List Frame} {meth : Method} {c : Code} {cells slots : Nat} {Q : State → Prop} {N0 : Nat} {D : va_G} {cy : Nat → ClassId} {S : gS} {sz : Nat} (hC : gC N0 D cy p s m args c cX1_prepare 2 RX1) {a sa un : Nat} (ha : gK S a = 2) (hsa : gR S a 8 = some sa) (hun : gR S a 1 = some un) (hsak : gK S sa = 15) (hsan : gn S sa = 8) (hunk : gK S un = 6)
    (hexit : ∀ (H : Heap) (locs : List Loc) (ls : Array Slot), gP N0 D cy (sRow S sa 8 (fun _ => some un)) H → H.size = sz → va_S (fun q => N0 ≤ q) s.heap H locs → lv_has ls 2 [(1, .int (nI 8)), (0, .ref (a))] → W p l e R s m args below meth c H locs cells slots Q (F0 m 67 ls [])) :
    ∀ (n i : Nat) (H : Heap) (locs : List Loc) (ls : Array Slot), i + n = 8 → gP N0 D cy (sRow S sa i (fun _ => some un)) H → H.size = sz → va_S (fun q => N0 ≤ q) s.heap H locs → lv_has ls 2 [(1, .int (nI i)), (0, .ref (a))] → W p l e R s m args below meth c H locs cells slots Q (F0 m 45 ls []) := by
  have hx := hC.1
  have hb := hC.2.1
  intro n
  induction n with
  | zero =>
    intro i H locs ls hi hP hsz hS hl
    have hi8 : i = 8 := by omega
    subst hi8
    have har : a ≠ sa := fun h => by rw [h] at ha; omega
    refine lv_iload_n hx hb dX1_prepare_45 rfl (lv_at hl 0 rfl) ?_
    refine lv_bipush (v := 8) hx hb dX1_prepare_46 (by decide) ?_
    refine lv_icmp_ge (tgt := 67) hx hb dX1_prepare_48 (by decide) (fun c_48 => ?_) (fun c_48 => ?_)
    · exact hexit _ _ _ hP hsz hS (lv_sub hl [0, 1] rfl)
    · exact absurd (by decide) c_48
  | succ n ih =>
    intro i H locs ls hi hP hsz hS hl
    have hi8 : i < 8 := by omega
    have har : a ≠ sa := fun h => by rw [h] at ha; omega
    have hcl : (nI i).toNatClampNeg = i := nI_clamp (by omega)
    refine lv_iload_n hx hb dX1_prepare_45 rfl (lv_at hl 0 rfl) ?_
    refine lv_bipush (v := 8) hx hb dX1_prepare_46 (by decide) ?_
    refine lv_icmp_ge (tgt := 67) hx hb dX1_prepare_48 (by decide) (fun c_48 => ?_) (fun c_48 => ?_)
    · exact absurd c_48 (nI_ge (a := i) (b := 8) (by omega) (by decide))
    · refine lv_aload_n hx hb dX1_prepare_51 rfl (lv_at hl 1 rfl) ?_
      refine gt_X1_17 hC hP (kW (ha)) (rW (by first | assumption | exact Ne.symm (by assumption)) (hsa)) dX1_prepare_52 ?_
      refine lv_iload_n hx hb dX1_prepare_55 rfl (lv_at hl 0 rfl) ?_
      refine lv_aload_n hx hb dX1_prepare_56 rfl (lv_at hl 1 rfl) ?_
      refine gt_X1_30 hC hP (kW (ha)) (rW (by first | assumption | exact Ne.symm (by assumption)) (hun)) dX1_prepare_57 ?_
      refine g_aast hC hP hS (kd := 15) (ci := 5) (t0 := 6) (by decide) rfl rfl (by decide) (kW (hsak)) (kW (hunk)) (by show vp_in (nI i) (gn S sa); rw [hsan]; exact vp_in_nI hi8 (by decide)) dX1_prepare_60 (fun H locs hP hz hS => ?_)
      replace hsz := hz.trans hsz
      refine lv_iinc (v := _ + 1) (lv' := [(1, .int _), (0, .ref _)]) hx hb dX1_prepare_61 hl (k := 0) rfl rfl (by decide) rfl (fun ls hl => ?_)
      refine lv_goto (tgt := 45) hx hb dX1_prepare_64 (by decide) ?_
      exact ih (i + 1) _ _ _ (by omega) (by rw [hcl] at hP; exact (sRow_s S sa i (fun _ => some un)) ▸ hP) hsz hS (by rw [nI_succ]; exact lv_sub hl [0, 1] rfl)

def cRound (S : gS) (a : Nat) : Int32 := if gI S a 4 + 1 < gI S a 5 then gI S a 5 else gI S a 4 + 1
def cPrep (S : gS) (a sa un : Nat) : gS := sRow (sI (sI (sI (sI S a 4 (cRound S a)) a 6 (8 * cRound S a + gI S a 0)) a 3 1) a 7 0) sa 8 (fun _ => some un)
set_option maxRecDepth 100000 in
set_option maxHeartbeats 4000000 in
theorem c_X1_prepare (l : Launch) (N0 : Nat) (D : va_G) (cy : Nat → ClassId) (S : gS) (sz : Nat) (a sa un : Nat) (ha : gK S a = 2) (hsa : gR S a 8 = some sa) (hun : gR S a 1 = some un) (hsak : gK S sa = 15) (hsan : gn S sa = 8) (hunk : gK S un = 6) : gM l yX1_prepare cX1_prepare 2 (none : Option FieldType) { frames := 1, cells := 0, slots := 0, locals := 20 } N0 D cy [.ref a] S sz (fun v S1 z => v = none ∧ S1 = cPrep S a sa un ∧ z = sz) := by
  refine g_body (by decide) rfl (Nat.le_of_ble_eq_true rfl) ?_
  intro p e s m args below meth c ls hC hU hr hlk hnm hsz hP hS hl
  have hx := hC.1
  have hb := hC.2.1
  refine lv_aload_n hx hb dX1_prepare_0 rfl (lv_at hl 0 rfl) ?_
  refine lv_aload_n hx hb dX1_prepare_1 rfl (lv_at hl 0 rfl) ?_
  refine gt_X1_38 hC hP (ha) dX1_prepare_2 ?_
  refine lv_iconst (v := 1) hx hb dX1_prepare_5 (by decide) ?_
  refine lv_iadd hx hb dX1_prepare_6 ?_
  refine lv_aload_n hx hb dX1_prepare_7 rfl (lv_at hl 0 rfl) ?_
  refine gt_X1_41 hC hP (ha) dX1_prepare_8 ?_
  refine g_max hC hl.1 mL_X1_44 (by decide) (Nat.le_of_ble_eq_true rfl) (by decide) (by decide) dX1_prepare_11 ?_
  refine pt_X1_38 hC hP hS (ha) dX1_prepare_14 (fun H locs hP hz hS => ?_)
  replace hsz := hz.trans hsz
  refine lv_aload_n hx hb dX1_prepare_17 rfl (lv_at hl 0 rfl) ?_
  refine lv_bipush (v := 8) hx hb dX1_prepare_18 (by decide) ?_
  refine lv_aload_n hx hb dX1_prepare_20 rfl (lv_at hl 0 rfl) ?_
  refine gt_X1_38 hC hP (kI (ha)) dX1_prepare_21 ?_
  refine lv_imul hx hb dX1_prepare_24 ?_
  refine lv_aload_n hx hb dX1_prepare_25 rfl (lv_at hl 0 rfl) ?_
  refine gt_X1_27 hC hP (kI (ha)) dX1_prepare_26 ?_
  refine lv_iadd hx hb dX1_prepare_29 ?_
  refine pt_X1_50 hC hP hS (kI (ha)) dX1_prepare_30 (fun H locs hP hz hS => ?_)
  replace hsz := hz.trans hsz
  rw [gI_s, gI_k (by decide)] at hP
  refine lv_aload_n hx hb dX1_prepare_33 rfl (lv_at hl 0 rfl) ?_
  refine lv_iconst (v := 1) hx hb dX1_prepare_34 (by decide) ?_
  refine pt_X1_9 hC hP hS (kI (kI (ha))) dX1_prepare_35 (fun H locs hP hz hS => ?_)
  replace hsz := hz.trans hsz
  refine lv_aload_n hx hb dX1_prepare_38 rfl (lv_at hl 0 rfl) ?_
  refine lv_iconst (v := 0) hx hb dX1_prepare_39 (by decide) ?_
  refine pt_X1_53 hC hP hS (kI (kI (kI (ha)))) dX1_prepare_40 (fun H locs hP hz hS => ?_)
  replace hsz := hz.trans hsz
  refine lv_iconst (v := 0) hx hb dX1_prepare_43 (by decide) ?_
  refine lv_istore_n (lv' := [(1, .int _), (0, .ref _)]) hx hb dX1_prepare_44 rfl hl (by decide) rfl (fun ls hl => ?_)
  refine lp_X1_prepare (sz := sz) hC (kI (kI (kI (kI ha)))) (rI (rI (rI (rI hsa)))) (rI (rI (rI (rI hun)))) (kI (kI (kI (kI hsak)))) (nI' (nI' (nI' (nI' hsan)))) (kI (kI (kI (kI hunk)))) (fun H locs ls hP hsz hS hl => ?_) 8 0 _ _ _ rfl (by rw [sRow_0]; exact hP) hsz hS hl
  exact g_vret hC hP hS hr hlk (by decide) (by decide) (⟨rfl, rfl, hsz⟩) dX1_prepare_67
def nwr (S : gS) (x y : Nat) : Nat := if gI S x 0 < gI S y 0 then y else x
set_option maxRecDepth 100000 in
set_option maxHeartbeats 4000000 in
theorem lp_X1_countPromise {p : Program} {l : Launch} {e : Env} {R : Room} {s : State} {m : MethodId} {args : Array Value} {below : List Frame} {meth : Method} {c : Code} {cells slots : Nat} {Q : State → Prop} {N0 : Nat} {D : va_G} {cy : Nat → ClassId} {S : gS} {sz : Nat} (hC : gC N0 D cy p s m args c cX1_countPromise 3 RX1) (hU : gU D cy s) {a sa lt rl : Nat} {f g : Nat → Nat} (ha : gK S a = 2) (hm : gK S lt = 3) (hsa : gR S a 8 = some sa) (hsak : gK S sa = 15) (hsan : gn S sa = 8) (hrl : gR S lt 7 = some rl) (hrlk : gK S rl = 15) (hrln : gn S rl = 8) (hf : ∀ j, j < 8 → gR S sa j = some (f j) ∧ gK S (f j) = 6) (hg : ∀ j, j < 8 → gR S rl j = some (g j) ∧ gK S (g j) = 6) (hsr : rl ≠ sa) (hR : 1 ≤ R.frames ∧ 40 ≤ R.locals) (hc0 : cells ≤ R.cells ∧ slots ≤ R.slots)
    (hexit : ∀ (H : Heap) (locs : List Loc) (ls : Array Slot), gP N0 D cy (sRow S sa 8 (fun j => some (nwr S (f j) (g j)))) H → H.size = sz → va_S (fun q => N0 ≤ q) s.heap H locs → lv_has ls 3 [(2, .int (nI 8)), (0, .ref (a)), (1, .ref (lt))] → W p l e R s m args below meth c H locs cells slots Q (F0 m 50 ls [])) :
    ∀ (n i : Nat) (H : Heap) (locs : List Loc) (ls : Array Slot), i + n = 8 → gP N0 D cy (sRow S sa i (fun j => some (nwr S (f j) (g j)))) H → H.size = sz → va_S (fun q => N0 ≤ q) s.heap H locs → lv_has ls 3 [(2, .int (nI i)), (0, .ref (a)), (1, .ref (lt))] → W p l e R s m args below meth c H locs cells slots Q (F0 m 17 ls []) := by
  have hx := hC.1
  have hb := hC.2.1
  intro n
  induction n with
  | zero =>
    intro i H locs ls hi hP hsz hS hl
    have hi8 : i = 8 := by omega
    subst hi8
    have har : a ≠ sa := fun h => by rw [h] at ha; omega
    have hlr : lt ≠ sa := fun h => by rw [h] at hm; omega
    refine lv_iload_n hx hb dX1_countPromise_17 rfl (lv_at hl 0 rfl) ?_
    refine lv_bipush (v := 8) hx hb dX1_countPromise_18 (by decide) ?_
    refine lv_icmp_ge (tgt := 50) hx hb dX1_countPromise_20 (by decide) (fun c_20 => ?_) (fun c_20 => ?_)
    · exact hexit _ _ _ hP hsz hS (lv_sub hl [0, 1, 2] rfl)
    · exact absurd (by decide) c_20
  | succ n ih =>
    intro i H locs ls hi hP hsz hS hl
    have hi8 : i < 8 := by omega
    have har : a ≠ sa := fun h => by rw [h] at ha; omega
    have hlr : lt ≠ sa := fun h => by rw [h] at hm; omega
    have hcl : (nI i).toNatClampNeg = i := nI_clamp (by omega)
    have hzk : gK (sRow S sa i (fun j => some (nwr S (f j) (g j)))) (nwr S (f i) (g i)) = 6 := by
      unfold nwr
      split
      · exact kW (hg i hi8).2
      · exact kW (hf i hi8).2
    refine lv_iload_n hx hb dX1_countPromise_17 rfl (lv_at hl 0 rfl) ?_
    refine lv_bipush (v := 8) hx hb dX1_countPromise_18 (by decide) ?_
    refine lv_icmp_ge (tgt := 50) hx hb dX1_countPromise_20 (by decide) (fun c_20 => ?_) (fun c_20 => ?_)
    · exact absurd c_20 (nI_ge (a := i) (b := 8) (by omega) (by decide))
    · refine lv_aload_n hx hb dX1_countPromise_23 rfl (lv_at hl 1 rfl) ?_
      refine gt_X1_17 hC hP (kW (ha)) (rW (by first | assumption | exact Ne.symm (by assumption)) (hsa)) dX1_countPromise_24 ?_
      refine lv_iload_n hx hb dX1_countPromise_27 rfl (lv_at hl 0 rfl) ?_
      refine lv_aload_n hx hb dX1_countPromise_28 rfl (lv_at hl 1 rfl) ?_
      refine gt_X1_17 hC hP (kW (ha)) (rW (by first | assumption | exact Ne.symm (by assumption)) (hsa)) dX1_countPromise_29 ?_
      refine lv_iload_n hx hb dX1_countPromise_32 rfl (lv_at hl 0 rfl) ?_
      refine g_aald hC hP (j := 3) (by decide) (kW (hsak)) (by show vp_in (nI i) (gn S sa); rw [hsan]; exact vp_in_nI hi8 (by decide)) dX1_countPromise_33 ?_
      refine g_rf (by rw [hcl, sRow_ge (Nat.le_refl i)]; exact (hf i hi8).1) ?_
      refine lv_aload_n hx hb dX1_countPromise_34 rfl (lv_at hl 2 rfl) ?_
      refine gt_X1_105 hC hP (kW (hm)) (rW (by first | assumption | exact Ne.symm (by assumption)) (hrl)) dX1_countPromise_35 ?_
      refine lv_iload_n hx hb dX1_countPromise_38 rfl (lv_at hl 0 rfl) ?_
      refine g_aald hC hP (j := 3) (by decide) (kW (hrlk)) (by show vp_in (nI i) (gn S rl); rw [hrln]; exact vp_in_nI hi8 (by decide)) dX1_countPromise_39 ?_
      refine g_rf (by rw [hcl]; exact rW hsr (hg i hi8).1) ?_
      refine g_callV (As := [.ref _]) (rest := [.int _, .ref _]) hC hU hP hS hl.1 (c_X5_orNewer l N0 D cy _ _ (f i) (g i) (kW (hf i hi8).2) (kW (hg i hi8).2)) mL_X1_108 iM_X5_orNewer sL_X5_orNewer iN_X5 cD_X5_orNewer ⟨by decide, by decide, rfl⟩ ⟨Nat.le_trans (by decide) hR.1, Nat.le_trans (by decide) hR.2⟩ ⟨hc0.1, hc0.2⟩ (ci := 5) rfl (by decide) (kW ((hf i hi8).2)) rfl (Nat.le_of_ble_eq_true rfl) dX1_countPromise_40 (fun v S1 H locs hw hP hz hS => ?_)
      obtain ⟨hv1, hS1, hz2⟩ := hw
      replace hS1 := hS1.symm
      subst hS1
      replace hv1 : v = some (.ref (nwr S (f i) (g i))) := hv1
      subst hv1
      replace hsz := hz2.trans hsz
      refine g_aast hC hP hS (kd := 15) (ci := 5) (t0 := 6) (by decide) rfl rfl (by decide) (kW (hsak)) (hzk) (by show vp_in (nI i) (gn S sa); rw [hsan]; exact vp_in_nI hi8 (by decide)) dX1_countPromise_43 (fun H locs hP hz hS => ?_)
      replace hsz := hz.trans hsz
      refine lv_iinc (v := _ + 1) (lv' := [(2, .int _), (0, .ref _), (1, .ref _)]) hx hb dX1_countPromise_44 hl (k := 0) rfl rfl (by decide) rfl (fun ls hl => ?_)
      refine lv_goto (tgt := 17) hx hb dX1_countPromise_47 (by decide) ?_
      exact ih (i + 1) _ _ _ (by omega) (by rw [hcl] at hP; exact (sRow_s S sa i (fun j => some (nwr S (f j) (g j)))) ▸ hP) hsz hS (by rw [nI_succ]; exact lv_sub hl [0, 1, 2] rfl)

def cCntP (S : gS) (a sa lt : Nat) (f g : Nat → Nat) : gS := sRow (sI S a 7 (gI S a 7 ||| (1 <<< (gI S lt 2 &&& 31)))) sa 8 (fun j => some (nwr S (f j) (g j)))
theorem nwr_sI {S : gS} {a k x y : Nat} {v : Int32} (hx : x ≠ a) (hy : y ≠ a) : nwr (sI S a k v) x y = nwr S x y := by
  unfold nwr
  simp only [gI_sI, hx, hy, if_false, ite_self]
set_option maxRecDepth 100000 in
set_option maxHeartbeats 4000000 in
theorem c_X1_countPromise (l : Launch) (N0 : Nat) (D : va_G) (cy : Nat → ClassId) (S : gS) (sz : Nat) (a sa lt rl : Nat) (f g : Nat → Nat) (ha : gK S a = 2) (hm : gK S lt = 3) (hsa : gR S a 8 = some sa) (hsak : gK S sa = 15) (hsan : gn S sa = 8) (hrl : gR S lt 7 = some rl) (hrlk : gK S rl = 15) (hrln : gn S rl = 8) (hf : ∀ j, j < 8 → gR S sa j = some (f j) ∧ gK S (f j) = 6) (hg : ∀ j, j < 8 → gR S rl j = some (g j) ∧ gK S (g j) = 6) (hsr : rl ≠ sa) : gM l yX1_countPromise cX1_countPromise 3 (none : Option FieldType) { frames := 1, cells := 0, slots := 0, locals := 40 } N0 D cy [.ref a, .ref lt] S sz (fun v S1 z => v = none ∧ S1 = cCntP S a sa lt f g ∧ z = sz) := by
  refine g_body (by decide) rfl (Nat.le_of_ble_eq_true rfl) ?_
  intro p e s m args below meth c ls hC hU hr hlk hnm hsz hP hS hl
  have hx := hC.1
  have hb := hC.2.1
  refine lv_aload_n hx hb dX1_countPromise_0 rfl (lv_at hl 0 rfl) ?_
  refine lv_dup hx hb dX1_countPromise_1 rfl ?_
  refine gt_X1_53 hC hP (ha) dX1_countPromise_2 ?_
  refine lv_iconst (v := 1) hx hb dX1_countPromise_5 (by decide) ?_
  refine lv_aload_n hx hb dX1_countPromise_6 rfl (lv_at hl 1 rfl) ?_
  refine gt_X1_96 hC hP (hm) dX1_countPromise_7 ?_
  refine lv_ishl hx hb dX1_countPromise_10 ?_
  refine lv_ior hx hb dX1_countPromise_11 ?_
  refine pt_X1_53 hC hP hS (ha) dX1_countPromise_12 (fun H locs hP hz hS => ?_)
  replace hsz := hz.trans hsz
  refine lv_iconst (v := 0) hx hb dX1_countPromise_15 (by decide) ?_
  refine lv_istore_n (lv' := [(2, .int _), (0, .ref _), (1, .ref _)]) hx hb dX1_countPromise_16 rfl hl (by decide) rfl (fun ls hl => ?_)
  refine lp_X1_countPromise (sz := sz) (f := f) (g := g) hC hU (kI ha) (kI hm) (rI hsa) (kI hsak) (nI' hsan) (rI hrl) (kI hrlk) (nI' hrln) (fun j hj => ⟨rI (hf j hj).1, kI (hf j hj).2⟩) (fun j hj => ⟨rI (hg j hj).1, kI (hg j hj).2⟩) hsr ⟨by decide, by decide⟩ ⟨by decide, by decide⟩ (fun H locs ls hP hsz hS hl => ?_) 8 0 _ _ _ rfl (by rw [sRow_0]; exact hP) hsz hS hl
  exact g_vret hC hP hS hr hlk (by decide) (by decide) (⟨rfl, sRow_congr (fun j hj => by rw [nwr_sI (fun h => by have := (hf j hj).2; rw [h] at this; omega) (fun h => by have := (hg j hj).2; rw [h] at this; omega)]), hsz⟩) dX1_countPromise_50
set_option maxRecDepth 100000 in
set_option maxHeartbeats 4000000 in
theorem c_X1_countYes (l : Launch) (N0 : Nat) (D : va_G) (cy : Nat → ClassId) (S : gS) (sz : Nat) (a lt w0 : Nat) (ha : gK S a = 2) (hm : gK S lt = 3) (hw0 : gR S a 9 = some w0) : gM l yX1_countYes cX1_countYes 2 (none : Option FieldType) { frames := 2, cells := 0, slots := 0, locals := 60 } N0 D cy [.ref a, .ref lt] S sz (fun v S1 z => v = none ∧ z = sz ∧ ((cMaj S a lt ∧ S1 = sI (sJ (sR (sI S a 3 0) a 11 (some w0)) a 12 (-1)) a 13 0) ∨ (¬ cMaj S a lt ∧ S1 = sI S a 7 (gI S a 7 ||| (1 <<< (gI S lt 2 &&& 31)))))) := by
  refine g_body (by decide) rfl (Nat.le_of_ble_eq_true rfl) ?_
  intro p e s m args below meth c ls hC hU hr hlk hnm hsz hP hS hl
  have hx := hC.1
  have hb := hC.2.1
  refine lv_aload_n hx hb dX1_countYes_0 rfl (lv_at hl 0 rfl) ?_
  refine lv_aload_n hx hb dX1_countYes_1 rfl (lv_at hl 1 rfl) ?_
  refine g_callV (As := [.ref _]) (rest := []) hC hU hP hS hl.1 (c_X1_isMajorityWith l N0 D cy _ _ _ _ ha hm) mL_X1_78 iM_X1_isMajorityWith sL_X1_isMajorityWith iN_X1 cD_X1_isMajorityWith ⟨by decide, by decide, rfl⟩ ⟨by decide, by decide⟩ ⟨by decide, by decide⟩ (ci := 1) rfl (by decide) (ha) rfl (Nat.le_of_ble_eq_true rfl) dX1_countYes_2 (fun v S1 H locs hw hP hz hS => ?_)
  obtain ⟨rfl, hS1, hz2⟩ := hw
  replace hS1 := hS1.symm
  subst hS1
  replace hsz := hz2.trans hsz
  refine lv_if_eq (tgt := 22) hx hb dX1_countYes_5 (by decide) (fun c_5 => ?_) (fun c_5 => ?_)
  · refine lv_aload_n hx hb dX1_countYes_22 rfl (lv_at hl 0 rfl) ?_
    refine lv_dup hx hb dX1_countYes_23 rfl ?_
    refine gt_X1_53 hC hP (ha) dX1_countYes_24 ?_
    refine lv_iconst (v := 1) hx hb dX1_countYes_27 (by decide) ?_
    refine lv_aload_n hx hb dX1_countYes_28 rfl (lv_at hl 1 rfl) ?_
    refine gt_X1_96 hC hP (hm) dX1_countYes_29 ?_
    refine lv_ishl hx hb dX1_countYes_32 ?_
    refine lv_ior hx hb dX1_countYes_33 ?_
    refine pt_X1_53 hC hP hS (ha) dX1_countYes_34 (fun H locs hP hz hS => ?_)
    replace hsz := hz.trans hsz
    exact g_vret hC hP hS hr hlk (by decide) (by decide) (⟨rfl, hsz, Or.inr ⟨by simp_all [cMaj], rfl⟩⟩) dX1_countYes_37
  · refine lv_aload_n hx hb dX1_countYes_8 rfl (lv_at hl 0 rfl) ?_
    refine lv_iconst (v := 0) hx hb dX1_countYes_9 (by decide) ?_
    refine pt_X1_9 hC hP hS (ha) dX1_countYes_10 (fun H locs hP hz hS => ?_)
    replace hsz := hz.trans hsz
    refine lv_aload_n hx hb dX1_countYes_13 rfl (lv_at hl 0 rfl) ?_
    refine lv_aload_n hx hb dX1_countYes_14 rfl (lv_at hl 0 rfl) ?_
    refine gt_X1_56 hC hP (kI (ha)) (rI (hw0)) dX1_countYes_15 ?_
    refine g_callV (As := [.ref _]) (rest := []) hC hU hP hS hl.1 (c_X1_hold l N0 D cy _ _ _ (some w0) (kI ha)) mL_X1_62 iM_X1_hold sL_X1_hold iN_X1 cD_X1_hold ⟨by decide, by decide, rfl⟩ ⟨by decide, by decide⟩ ⟨by decide, by decide⟩ (ci := 1) rfl (by decide) (kI (ha)) rfl (Nat.le_of_ble_eq_true rfl) dX1_countYes_18 (fun v S1 H locs hw hP hz hS => ?_)
    obtain ⟨rfl, hS1, hz2⟩ := hw
    replace hS1 := hS1.symm
    subst hS1
    replace hsz := hz2.trans hsz
    exact g_vret hC hP hS hr hlk (by decide) (by decide) (⟨rfl, hsz, Or.inl ⟨by simp_all [cMaj], rfl⟩⟩) dX1_countYes_21

/-- the newer row of seat j, of the issuer's and the letter's -/
def nwS (S : gS) (f g : Nat → Nat) (j : Nat) : Nat := nwr S (f j) (g j)
/-- r is the lowest place below 8 where p holds, or -1 -/
def lowP (p : Nat → Prop) (r : Int32) : Prop := (∃ j, j < 8 ∧ r = nI j ∧ p j ∧ ∀ i, i < j → ¬ p i) ∨ (r = -1 ∧ ∀ i, i < 8 → ¬ p i)
set_option maxRecDepth 100000 in
set_option maxHeartbeats 4000000 in
theorem lp_X1_lowestSeatOf {p : Program} {l : Launch} {e : Env} {R : Room} {s : State} {m : MethodId} {args : Array Value} {below : List Frame} {meth : Method} {c : Code} {cells slots : Nat} {Q : State → Prop} {N0 : Nat} {D : va_G} {cy : Nat → ClassId} {S : gS} {sz : Nat} (hC : gC N0 D cy p s m args c cX1_lowestSeatOf 4 RX1) (hU : gU D cy s) {a sa lt rl : Nat} {f g : Nat → Nat} (ha : gK S a = 2) (hm : gK S lt = 3) (hsa : gR S a 8 = some sa) (hsak : gK S sa = 15) (hsan : gn S sa = 8) (hrl : gR S lt 7 = some rl) (hrlk : gK S rl = 15) (hrln : gn S rl = 8) (hf : ∀ j, j < 8 → gR S sa j = some (f j) ∧ gK S (f j) = 6) (hg : ∀ j, j < 8 → gR S rl j = some (g j) ∧ gK S (g j) = 6) {h : Int32} (hR : 1 ≤ R.frames ∧ 40 ≤ R.locals) (hc0 : cells ≤ R.cells ∧ slots ≤ R.slots) (hfound : ∀ (i : Nat) (H : Heap) (locs : List Loc) (ls : Array Slot), i < 8 → gI S (nwS S f g i) 1 = h → (∀ j, j < i → ¬ gI S (nwS S f g j) 1 = h) → gP N0 D cy S H → H.size = sz → va_S (fun q => N0 ≤ q) s.heap H locs → lv_has ls 4 [(3, .int (nI i)), (0, .ref a), (1, .int h), (2, .ref lt)] → W p l e R s m args below meth c H locs cells slots Q (F0 m 30 ls [])) (hnone : (∀ j, j < 8 → ¬ gI S (nwS S f g j) 1 = h) → ∀ (H : Heap) (locs : List Loc) (ls : Array Slot), gP N0 D cy S H → H.size = sz → va_S (fun q => N0 ≤ q) s.heap H locs → W p l e R s m args below meth c H locs cells slots Q (F0 m 38 ls [])) :
    ∀ (n i : Nat) (H : Heap) (locs : List Loc) (ls : Array Slot), i + n = 8 → (∀ j, j < i → ¬ gI S (nwS S f g j) 1 = h) → gP N0 D cy (S) H → H.size = sz → va_S (fun q => N0 ≤ q) s.heap H locs → lv_has ls 4 [(3, .int (nI i)), (0, .ref (a)), (1, .int (h)), (2, .ref (lt))] → W p l e R s m args below meth c H locs cells slots Q (F0 m 2 ls []) := by
  have hx := hC.1
  have hb := hC.2.1
  intro n
  induction n with
  | zero =>
    intro i H locs ls hi hh hP hsz hS hl
    have hi8 : i = 8 := by omega
    subst hi8
    refine lv_iload_n hx hb dX1_lowestSeatOf_2 rfl (lv_at hl 0 rfl) ?_
    refine lv_bipush (v := 8) hx hb dX1_lowestSeatOf_3 (by decide) ?_
    refine lv_icmp_ge (tgt := 38) hx hb dX1_lowestSeatOf_5 (by decide) (fun c_5 => ?_) (fun c_5 => ?_)
    · exact hnone hh _ _ _ hP hsz hS
    · exact absurd (by decide) c_5
  | succ n ih =>
    intro i H locs ls hi hh hP hsz hS hl
    have hi8 : i < 8 := by omega
    have hcl : (nI i).toNatClampNeg = i := nI_clamp (by omega)
    have hzk : gK S (nwS S f g i) = 6 := by
      unfold nwS nwr
      split
      · exact (hg i hi8).2
      · exact (hf i hi8).2
    refine lv_iload_n hx hb dX1_lowestSeatOf_2 rfl (lv_at hl 0 rfl) ?_
    refine lv_bipush (v := 8) hx hb dX1_lowestSeatOf_3 (by decide) ?_
    refine lv_icmp_ge (tgt := 38) hx hb dX1_lowestSeatOf_5 (by decide) (fun c_5 => ?_) (fun c_5 => ?_)
    · exact absurd c_5 (nI_ge (a := i) (b := 8) (by omega) (by decide))
    · refine lv_aload_n hx hb dX1_lowestSeatOf_8 rfl (lv_at hl 1 rfl) ?_
      refine gt_X1_17 hC hP (ha) (hsa) dX1_lowestSeatOf_9 ?_
      refine lv_iload_n hx hb dX1_lowestSeatOf_12 rfl (lv_at hl 0 rfl) ?_
      refine g_aald hC hP (j := 3) (by decide) (hsak) (by show vp_in (nI i) (gn S sa); rw [hsan]; exact vp_in_nI hi8 (by decide)) dX1_lowestSeatOf_13 ?_
      refine g_rf (by rw [hcl]; exact (hf i hi8).1) ?_
      refine lv_aload_n hx hb dX1_lowestSeatOf_14 rfl (lv_at hl 3 rfl) ?_
      refine gt_X1_105 hC hP (hm) (hrl) dX1_lowestSeatOf_15 ?_
      refine lv_iload_n hx hb dX1_lowestSeatOf_18 rfl (lv_at hl 0 rfl) ?_
      refine g_aald hC hP (j := 3) (by decide) (hrlk) (by show vp_in (nI i) (gn S rl); rw [hrln]; exact vp_in_nI hi8 (by decide)) dX1_lowestSeatOf_19 ?_
      refine g_rf (by rw [hcl]; exact (hg i hi8).1) ?_
      refine g_callV (As := [.ref _]) (rest := []) hC hU hP hS hl.1 (c_X5_orNewer l N0 D cy _ _ (f i) (g i) (hf i hi8).2 (hg i hi8).2) mL_X1_108 iM_X5_orNewer sL_X5_orNewer iN_X5 cD_X5_orNewer ⟨by decide, by decide, rfl⟩ ⟨Nat.le_trans (by decide) hR.1, Nat.le_trans (by decide) hR.2⟩ ⟨hc0.1, hc0.2⟩ (ci := 5) rfl (by decide) ((hf i hi8).2) rfl (Nat.le_of_ble_eq_true rfl) dX1_lowestSeatOf_20 (fun v S1 H locs hw hP hz hS => ?_)
      obtain ⟨hv1, hS1, hz2⟩ := hw
      replace hS1 := hS1.symm
      subst hS1
      replace hv1 : v = some (.ref (nwS S f g i)) := hv1
      subst hv1
      replace hsz := hz2.trans hsz
      refine gt_X1_150 hC hP (hzk) dX1_lowestSeatOf_23 ?_
      refine lv_iload_n hx hb dX1_lowestSeatOf_26 rfl (lv_at hl 2 rfl) ?_
      refine lv_icmp_ne (tgt := 32) hx hb dX1_lowestSeatOf_27 (by decide) (fun c_27 => ?_) (fun c_27 => ?_)
      · refine lv_iinc (v := _ + 1) (lv' := [(3, .int _), (0, .ref _), (1, .int _), (2, .ref _)]) hx hb dX1_lowestSeatOf_32 hl (k := 0) rfl rfl (by decide) rfl (fun ls hl => ?_)
        refine lv_goto (tgt := 2) hx hb dX1_lowestSeatOf_35 (by decide) ?_
        exact ih (i + 1) _ _ _ (by omega) (fun j hj => by rcases Nat.lt_succ_iff_lt_or_eq.mp hj with h9 | h9; exact hh j h9; rw [h9]; exact c_27) (by exact hP) hsz hS (by rw [nI_succ]; exact lv_sub hl [0, 1, 2, 3] rfl)
      · exact hfound i _ _ _ hi8 c_27 hh hP hsz hS hl

set_option maxRecDepth 100000 in
set_option maxHeartbeats 4000000 in
theorem c_X1_lowestSeatOf (l : Launch) (N0 : Nat) (D : va_G) (cy : Nat → ClassId) (S : gS) (sz : Nat) (a sa lt rl : Nat) (f g : Nat → Nat) (ha : gK S a = 2) (hm : gK S lt = 3) (hsa : gR S a 8 = some sa) (hsak : gK S sa = 15) (hsan : gn S sa = 8) (hrl : gR S lt 7 = some rl) (hrlk : gK S rl = 15) (hrln : gn S rl = 8) (hf : ∀ j, j < 8 → gR S sa j = some (f j) ∧ gK S (f j) = 6) (hg : ∀ j, j < 8 → gR S rl j = some (g j) ∧ gK S (g j) = 6) (h : Int32) : gM l yX1_lowestSeatOf cX1_lowestSeatOf 4 (some FieldType.int) { frames := 1, cells := 0, slots := 0, locals := 40 } N0 D cy [.ref a, .int h, .ref lt] S sz (fun v S1 z => (∃ r : Int32, v = some (.int r) ∧ lowP (fun j => gI S (nwS S f g j) 1 = h) r) ∧ S1 = S ∧ z = sz) := by
  refine g_body (by decide) rfl (Nat.le_of_ble_eq_true rfl) ?_
  intro p e s m args below meth c ls hC hU hr hlk hnm hsz hP hS hl
  have hx := hC.1
  have hb := hC.2.1
  refine lv_iconst (v := 0) hx hb dX1_lowestSeatOf_0 (by decide) ?_
  refine lv_istore_n (lv' := [(3, .int _), (0, .ref _), (1, .int _), (2, .ref _)]) hx hb dX1_lowestSeatOf_1 rfl hl (by decide) rfl (fun ls hl => ?_)
  refine lp_X1_lowestSeatOf (sz := sz) (f := f) (g := g) (h := h) hC hU ha hm hsa hsak hsan hrl hrlk hrln hf hg ⟨by decide, by decide⟩ ⟨by decide, by decide⟩ (fun i H locs ls hi hp hno hP hsz hS hl => ?_) (fun hno H locs ls hP hsz hS => ?_) 8 0 _ _ _ rfl (fun j hj => absurd hj (Nat.not_lt_zero j)) hP hsz hS hl
  · refine lv_iload_n hx hb dX1_lowestSeatOf_30 rfl (lv_at hl 0 rfl) ?_
    exact g_iret hC hP hS hr hlk (by decide) (by decide) (⟨⟨_, rfl, Or.inl ⟨i, hi, rfl, hp, hno⟩⟩, rfl, hsz⟩) dX1_lowestSeatOf_31
  · refine lv_iconst (v := (-1)) hx hb dX1_lowestSeatOf_38 (by decide) ?_
    exact g_iret hC hP hS hr hlk (by decide) (by decide) (⟨⟨_, rfl, Or.inr ⟨rfl, hno⟩⟩, rfl, hsz⟩) dX1_lowestSeatOf_39
def chS (S : gS) (f g : Nat → Nat) (self r : Int32) : Prop := ∃ o : Int32, lowP (fun j => gI S (nwS S f g j) 1 = self) o ∧ ((o ≠ -1 ∧ r = o) ∨ (o = -1 ∧ lowP (fun j => gI S (nwS S f g j) 1 = -1) r))
set_option maxRecDepth 100000 in
set_option maxHeartbeats 4000000 in
theorem c_X1_chooseSeat (l : Launch) (N0 : Nat) (D : va_G) (cy : Nat → ClassId) (S : gS) (sz : Nat) (a sa lt rl : Nat) (f g : Nat → Nat) (ha : gK S a = 2) (hm : gK S lt = 3) (hsa : gR S a 8 = some sa) (hsak : gK S sa = 15) (hsan : gn S sa = 8) (hrl : gR S lt 7 = some rl) (hrlk : gK S rl = 15) (hrln : gn S rl = 8) (hf : ∀ j, j < 8 → gR S sa j = some (f j) ∧ gK S (f j) = 6) (hg : ∀ j, j < 8 → gR S rl j = some (g j) ∧ gK S (g j) = 6)  : gM l yX1_chooseSeat cX1_chooseSeat 3 (some FieldType.int) { frames := 2, cells := 0, slots := 0, locals := 70 } N0 D cy [.ref a, .ref lt] S sz (fun v S1 z => (∃ r : Int32, v = some (.int r) ∧ chS S f g (gI S a 0) r) ∧ S1 = S ∧ z = sz) := by
  refine g_body (by decide) rfl (Nat.le_of_ble_eq_true rfl) ?_
  intro p e s m args below meth c ls hC hU hr hlk hnm hsz hP hS hl
  have hx := hC.1
  have hb := hC.2.1
  refine lv_aload_n hx hb dX1_chooseSeat_0 rfl (lv_at hl 0 rfl) ?_
  refine lv_aload_n hx hb dX1_chooseSeat_1 rfl (lv_at hl 0 rfl) ?_
  refine gt_X1_27 hC hP (ha) dX1_chooseSeat_2 ?_
  refine lv_aload_n hx hb dX1_chooseSeat_5 rfl (lv_at hl 1 rfl) ?_
  refine g_callV (As := [.int _, .ref _]) (rest := []) hC hU hP hS hl.1 (c_X1_lowestSeatOf l N0 D cy _ _ a sa lt rl f g ha hm hsa hsak hsan hrl hrlk hrln hf hg _) mL_X1_146 iM_X1_lowestSeatOf sL_X1_lowestSeatOf iN_X1 cD_X1_lowestSeatOf ⟨by decide, by decide, rfl⟩ ⟨by decide, by decide⟩ ⟨by decide, by decide⟩ (ci := 1) rfl (by decide) (ha) rfl (Nat.le_of_ble_eq_true rfl) dX1_chooseSeat_6 (fun v S1 H locs hw hP hz hS => ?_)
  obtain ⟨⟨r1, hv1, hlo1⟩, hS1, hz2⟩ := hw
  replace hS1 := hS1.symm
  subst hS1
  subst hv1
  replace hsz := hz2.trans hsz
  refine lv_istore_n (lv' := [(2, .int _), (0, .ref _), (1, .ref _)]) hx hb dX1_chooseSeat_9 rfl hl (by decide) rfl (fun ls hl => ?_)
  refine lv_iload_n hx hb dX1_chooseSeat_10 rfl (lv_at hl 0 rfl) ?_
  refine lv_iconst (v := (-1)) hx hb dX1_chooseSeat_11 (by decide) ?_
  refine lv_icmp_eq (tgt := 19) hx hb dX1_chooseSeat_12 (by decide) (fun c_12 => ?_) (fun c_12 => ?_)
  · refine lv_aload_n hx hb dX1_chooseSeat_19 rfl (lv_at hl 1 rfl) ?_
    refine lv_iconst (v := (-1)) hx hb dX1_chooseSeat_20 (by decide) ?_
    refine lv_aload_n hx hb dX1_chooseSeat_21 rfl (lv_at hl 2 rfl) ?_
    refine g_callV (As := [.int _, .ref _]) (rest := []) hC hU hP hS hl.1 (c_X1_lowestSeatOf l N0 D cy _ _ a sa lt rl f g ha hm hsa hsak hsan hrl hrlk hrln hf hg _) mL_X1_146 iM_X1_lowestSeatOf sL_X1_lowestSeatOf iN_X1 cD_X1_lowestSeatOf ⟨by decide, by decide, rfl⟩ ⟨by decide, by decide⟩ ⟨by decide, by decide⟩ (ci := 1) rfl (by decide) (ha) rfl (Nat.le_of_ble_eq_true rfl) dX1_chooseSeat_22 (fun v S1 H locs hw hP hz hS => ?_)
    obtain ⟨⟨r2, hv1, hlo2⟩, hS1, hz2⟩ := hw
    replace hS1 := hS1.symm
    subst hS1
    subst hv1
    replace hsz := hz2.trans hsz
    exact g_iret hC hP hS hr hlk (by decide) (by decide) (⟨⟨_, rfl, ⟨r1, hlo1, by first | exact Or.inl ⟨c_12, rfl⟩ | exact Or.inr ⟨c_12, hlo2⟩⟩⟩, rfl, hsz⟩) dX1_chooseSeat_25
  · refine lv_iload_n hx hb dX1_chooseSeat_15 rfl (lv_at hl 0 rfl) ?_
    refine lv_goto (tgt := 25) hx hb dX1_chooseSeat_16 (by decide) ?_
    exact g_iret hC hP hS hr hlk (by decide) (by decide) (⟨⟨_, rfl, ⟨r1, hlo1, by first | exact Or.inl ⟨c_12, rfl⟩ | exact Or.inr ⟨c_12, hlo2⟩⟩⟩, rfl, hsz⟩) dX1_chooseSeat_25
end
section
theorem zz_look : 1 + 1 = 2 := rfl
end
