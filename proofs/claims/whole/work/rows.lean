section
-- ===== PART A: goes FIRST, ahead of the names: the tables' words, and 'selects' of the private methods out of them =====
/-- a private method of a class that the tables say can be made, by its rows of tables_1 -/
def lw_okq (q : MethodName × Nat) : Prop := (q.1.cls ≠ "java/lang/invoke/MethodHandle" ∧ q.1.cls ≠ "java/lang/invoke/VarHandle") ∧ Cond.instantiable q.1.cls q.2 ∈ tables_1 ∧ Cond.privateMethod q.1 ∈ tables_1 ∧ Cond.instanceMethod q.1 ∈ tables_1
theorem lw_p0 : lw_okq (⟨"ClubRolls$Text", "isAllowed", "(II)Z"⟩, 2) := ⟨⟨by decide +kernel, by decide +kernel⟩, List.mem_of_getElem? (i := 27) (by decide +kernel), List.mem_of_getElem? (i := 290) (by decide +kernel), List.mem_of_getElem? (i := 291) (by decide +kernel)⟩
theorem lw_p1 : lw_okq (⟨"ClubRolls$Text", "beginsNumber", "(IIII)Z"⟩, 2) := ⟨⟨by decide +kernel, by decide +kernel⟩, List.mem_of_getElem? (i := 27) (by decide +kernel), List.mem_of_getElem? (i := 294) (by decide +kernel), List.mem_of_getElem? (i := 295) (by decide +kernel)⟩
theorem lw_p2 : lw_okq (⟨"ClubRolls$Text", "twoDigits", "(I)I"⟩, 2) := ⟨⟨by decide +kernel, by decide +kernel⟩, List.mem_of_getElem? (i := 27) (by decide +kernel), List.mem_of_getElem? (i := 298) (by decide +kernel), List.mem_of_getElem? (i := 299) (by decide +kernel)⟩
theorem lw_p3 : lw_okq (⟨"java/lang/Throwable", "fillInStackTrace", "(I)Ljava/lang/Throwable;"⟩, 6) := ⟨⟨by decide +kernel, by decide +kernel⟩, List.mem_of_getElem? (i := 370) (by decide +kernel), List.mem_of_getElem? (i := 368) (by decide +kernel), List.mem_of_getElem? (i := 369) (by decide +kernel)⟩
theorem lw_p4 : lw_okq (⟨"ClubRolls$Club", "noteComes", "()V"⟩, 9) := ⟨⟨by decide +kernel, by decide +kernel⟩, List.mem_of_getElem? (i := 42) (by decide +kernel), List.mem_of_getElem? (i := 485) (by decide +kernel), List.mem_of_getElem? (i := 486) (by decide +kernel)⟩
theorem lw_p5 : lw_okq (⟨"ClubRolls$Club", "answerCall", "(LClubRolls$Member;LClubRolls$Member;I)V"⟩, 9) := ⟨⟨by decide +kernel, by decide +kernel⟩, List.mem_of_getElem? (i := 42) (by decide +kernel), List.mem_of_getElem? (i := 510) (by decide +kernel), List.mem_of_getElem? (i := 511) (by decide +kernel)⟩
theorem lw_p6 : lw_okq (⟨"ClubRolls$Club", "rollStands", "(LClubRolls$Member;)V"⟩, 9) := ⟨⟨by decide +kernel, by decide +kernel⟩, List.mem_of_getElem? (i := 42) (by decide +kernel), List.mem_of_getElem? (i := 545) (by decide +kernel), List.mem_of_getElem? (i := 546) (by decide +kernel)⟩
theorem lw_p7 : lw_okq (⟨"ClubRolls$Club", "carryOutBy", "(III)Z"⟩, 9) := ⟨⟨by decide +kernel, by decide +kernel⟩, List.mem_of_getElem? (i := 42) (by decide +kernel), List.mem_of_getElem? (i := 579) (by decide +kernel), List.mem_of_getElem? (i := 580) (by decide +kernel)⟩
theorem lw_p8 : lw_okq (⟨"ClubRolls", "checkMember", "(I)V"⟩, 7) := ⟨⟨by decide +kernel, by decide +kernel⟩, List.mem_of_getElem? (i := 19) (by decide +kernel), List.mem_of_getElem? (i := 633) (by decide +kernel), List.mem_of_getElem? (i := 634) (by decide +kernel)⟩
theorem lw_p9 : lw_okq (⟨"ClubRolls", "succeeds", "(I)Z"⟩, 7) := ⟨⟨by decide +kernel, by decide +kernel⟩, List.mem_of_getElem? (i := 19) (by decide +kernel), List.mem_of_getElem? (i := 824) (by decide +kernel), List.mem_of_getElem? (i := 825) (by decide +kernel)⟩
theorem lw_p10 : lw_okq (⟨"ClubRolls", "takeTurn", "(I)V"⟩, 7) := ⟨⟨by decide +kernel, by decide +kernel⟩, List.mem_of_getElem? (i := 19) (by decide +kernel), List.mem_of_getElem? (i := 838) (by decide +kernel), List.mem_of_getElem? (i := 839) (by decide +kernel)⟩
theorem lw_p11 : lw_okq (⟨"ClubRollsModel", "refused", "(I)Z"⟩, 12) := ⟨⟨by decide +kernel, by decide +kernel⟩, List.mem_of_getElem? (i := 863) (by decide +kernel), List.mem_of_getElem? (i := 921) (by decide +kernel), List.mem_of_getElem? (i := 922) (by decide +kernel)⟩
theorem lw_p12 : lw_okq (⟨"ClubRollsModel", "readText", "([I)I"⟩, 12) := ⟨⟨by decide +kernel, by decide +kernel⟩, List.mem_of_getElem? (i := 863) (by decide +kernel), List.mem_of_getElem? (i := 933) (by decide +kernel), List.mem_of_getElem? (i := 934) (by decide +kernel)⟩
theorem lw_p13 : lw_okq (⟨"ClubRollsModel", "readCommand", "([I)Z"⟩, 12) := ⟨⟨by decide +kernel, by decide +kernel⟩, List.mem_of_getElem? (i := 863) (by decide +kernel), List.mem_of_getElem? (i := 937) (by decide +kernel), List.mem_of_getElem? (i := 938) (by decide +kernel)⟩
theorem lw_p14 : lw_okq (⟨"ClubRollsModel", "figures", "(IIII)I"⟩, 12) := ⟨⟨by decide +kernel, by decide +kernel⟩, List.mem_of_getElem? (i := 863) (by decide +kernel), List.mem_of_getElem? (i := 941) (by decide +kernel), List.mem_of_getElem? (i := 942) (by decide +kernel)⟩
theorem lw_p15 : lw_okq (⟨"ClubRollsModel", "done", "(Z)Z"⟩, 12) := ⟨⟨by decide +kernel, by decide +kernel⟩, List.mem_of_getElem? (i := 863) (by decide +kernel), List.mem_of_getElem? (i := 952) (by decide +kernel), List.mem_of_getElem? (i := 953) (by decide +kernel)⟩
def lw_privs_1 : List (MethodName × Nat) := [(⟨"ClubRolls$Text", "isAllowed", "(II)Z"⟩, 2), (⟨"ClubRolls$Text", "beginsNumber", "(IIII)Z"⟩, 2), (⟨"ClubRolls$Text", "twoDigits", "(I)I"⟩, 2), (⟨"java/lang/Throwable", "fillInStackTrace", "(I)Ljava/lang/Throwable;"⟩, 6), (⟨"ClubRolls$Club", "noteComes", "()V"⟩, 9), (⟨"ClubRolls$Club", "answerCall", "(LClubRolls$Member;LClubRolls$Member;I)V"⟩, 9), (⟨"ClubRolls$Club", "rollStands", "(LClubRolls$Member;)V"⟩, 9), (⟨"ClubRolls$Club", "carryOutBy", "(III)Z"⟩, 9), (⟨"ClubRolls", "checkMember", "(I)V"⟩, 7), (⟨"ClubRolls", "succeeds", "(I)Z"⟩, 7), (⟨"ClubRolls", "takeTurn", "(I)V"⟩, 7), (⟨"ClubRollsModel", "refused", "(I)Z"⟩, 12), (⟨"ClubRollsModel", "readText", "([I)I"⟩, 12), (⟨"ClubRollsModel", "readCommand", "([I)Z"⟩, 12), (⟨"ClubRollsModel", "figures", "(IIII)I"⟩, 12), (⟨"ClubRollsModel", "done", "(Z)Z"⟩, 12)]
theorem lw_r1 : ∀ q ∈ lw_privs_1, lw_okq q := List.forall_mem_cons.mpr ⟨lw_p0, List.forall_mem_cons.mpr ⟨lw_p1, List.forall_mem_cons.mpr ⟨lw_p2, List.forall_mem_cons.mpr ⟨lw_p3, List.forall_mem_cons.mpr ⟨lw_p4, List.forall_mem_cons.mpr ⟨lw_p5, List.forall_mem_cons.mpr ⟨lw_p6, List.forall_mem_cons.mpr ⟨lw_p7, List.forall_mem_cons.mpr ⟨lw_p8, List.forall_mem_cons.mpr ⟨lw_p9, List.forall_mem_cons.mpr ⟨lw_p10, List.forall_mem_cons.mpr ⟨lw_p11, List.forall_mem_cons.mpr ⟨lw_p12, List.forall_mem_cons.mpr ⟨lw_p13, List.forall_mem_cons.mpr ⟨lw_p14, List.forall_mem_cons.mpr ⟨lw_p15, fun _ h => absurd h List.not_mem_nil⟩⟩⟩⟩⟩⟩⟩⟩⟩⟩⟩⟩⟩⟩⟩⟩
theorem lw_p16 : lw_okq (⟨"ClubRollsModel", "who", "(I)I"⟩, 12) := ⟨⟨by decide +kernel, by decide +kernel⟩, List.mem_of_getElem? (i := 863) (by decide +kernel), List.mem_of_getElem? (i := 956) (by decide +kernel), List.mem_of_getElem? (i := 957) (by decide +kernel)⟩
theorem lw_p17 : lw_okq (⟨"ClubRollsModel", "ticksOn", "([II)I"⟩, 12) := ⟨⟨by decide +kernel, by decide +kernel⟩, List.mem_of_getElem? (i := 863) (by decide +kernel), List.mem_of_getElem? (i := 1029) (by decide +kernel), List.mem_of_getElem? (i := 1030) (by decide +kernel)⟩
theorem lw_p18 : lw_okq (⟨"ClubRollsModel", "tick", "([I)V"⟩, 12) := ⟨⟨by decide +kernel, by decide +kernel⟩, List.mem_of_getElem? (i := 863) (by decide +kernel), List.mem_of_getElem? (i := 1033) (by decide +kernel), List.mem_of_getElem? (i := 1034) (by decide +kernel)⟩
theorem lw_p19 : lw_okq (⟨"ClubRollsModel", "comes", "([I)V"⟩, 12) := ⟨⟨by decide +kernel, by decide +kernel⟩, List.mem_of_getElem? (i := 863) (by decide +kernel), List.mem_of_getElem? (i := 1037) (by decide +kernel), List.mem_of_getElem? (i := 1038) (by decide +kernel)⟩
theorem lw_p20 : lw_okq (⟨"ClubRollsModel", "takeFirst", "([I)V"⟩, 12) := ⟨⟨by decide +kernel, by decide +kernel⟩, List.mem_of_getElem? (i := 863) (by decide +kernel), List.mem_of_getElem? (i := 1041) (by decide +kernel), List.mem_of_getElem? (i := 1042) (by decide +kernel)⟩
theorem lw_p21 : lw_okq (⟨"ClubRollsModel", "speech", "([I)V"⟩, 12) := ⟨⟨by decide +kernel, by decide +kernel⟩, List.mem_of_getElem? (i := 863) (by decide +kernel), List.mem_of_getElem? (i := 1045) (by decide +kernel), List.mem_of_getElem? (i := 1046) (by decide +kernel)⟩
theorem lw_p22 : lw_okq (⟨"ClubRollsModel", "called", "([I)V"⟩, 12) := ⟨⟨by decide +kernel, by decide +kernel⟩, List.mem_of_getElem? (i := 863) (by decide +kernel), List.mem_of_getElem? (i := 1049) (by decide +kernel), List.mem_of_getElem? (i := 1050) (by decide +kernel)⟩
theorem lw_p23 : lw_okq (⟨"ClubRollsModel", "replied", "([I)V"⟩, 12) := ⟨⟨by decide +kernel, by decide +kernel⟩, List.mem_of_getElem? (i := 863) (by decide +kernel), List.mem_of_getElem? (i := 1053) (by decide +kernel), List.mem_of_getElem? (i := 1054) (by decide +kernel)⟩
theorem lw_p24 : lw_okq (⟨"ClubRollsModel", "remember", "()V"⟩, 12) := ⟨⟨by decide +kernel, by decide +kernel⟩, List.mem_of_getElem? (i := 863) (by decide +kernel), List.mem_of_getElem? (i := 1094) (by decide +kernel), List.mem_of_getElem? (i := 1095) (by decide +kernel)⟩
theorem lw_p25 : lw_okq (⟨"ClubRollsModel", "standsNow", "(II)Z"⟩, 12) := ⟨⟨by decide +kernel, by decide +kernel⟩, List.mem_of_getElem? (i := 863) (by decide +kernel), List.mem_of_getElem? (i := 1136) (by decide +kernel), List.mem_of_getElem? (i := 1137) (by decide +kernel)⟩
theorem lw_p26 : lw_okq (⟨"ClubRollsModel", "isThere", "(IIII)Z"⟩, 12) := ⟨⟨by decide +kernel, by decide +kernel⟩, List.mem_of_getElem? (i := 863) (by decide +kernel), List.mem_of_getElem? (i := 1140) (by decide +kernel), List.mem_of_getElem? (i := 1141) (by decide +kernel)⟩
theorem lw_p27 : lw_okq (⟨"ClubRollsModel", "command", "(II)Z"⟩, 12) := ⟨⟨by decide +kernel, by decide +kernel⟩, List.mem_of_getElem? (i := 863) (by decide +kernel), List.mem_of_getElem? (i := 1168) (by decide +kernel), List.mem_of_getElem? (i := 1169) (by decide +kernel)⟩
theorem lw_p28 : lw_okq (⟨"ClubRollsModel", "turn", "(I)V"⟩, 12) := ⟨⟨by decide +kernel, by decide +kernel⟩, List.mem_of_getElem? (i := 863) (by decide +kernel), List.mem_of_getElem? (i := 1178) (by decide +kernel), List.mem_of_getElem? (i := 1179) (by decide +kernel)⟩
theorem lw_p29 : lw_okq (⟨"ClubRollsModel", "turnGoing", "(IZ)V"⟩, 12) := ⟨⟨by decide +kernel, by decide +kernel⟩, List.mem_of_getElem? (i := 863) (by decide +kernel), List.mem_of_getElem? (i := 1182) (by decide +kernel), List.mem_of_getElem? (i := 1183) (by decide +kernel)⟩
def lw_privs_2 : List (MethodName × Nat) := [(⟨"ClubRollsModel", "who", "(I)I"⟩, 12), (⟨"ClubRollsModel", "ticksOn", "([II)I"⟩, 12), (⟨"ClubRollsModel", "tick", "([I)V"⟩, 12), (⟨"ClubRollsModel", "comes", "([I)V"⟩, 12), (⟨"ClubRollsModel", "takeFirst", "([I)V"⟩, 12), (⟨"ClubRollsModel", "speech", "([I)V"⟩, 12), (⟨"ClubRollsModel", "called", "([I)V"⟩, 12), (⟨"ClubRollsModel", "replied", "([I)V"⟩, 12), (⟨"ClubRollsModel", "remember", "()V"⟩, 12), (⟨"ClubRollsModel", "standsNow", "(II)Z"⟩, 12), (⟨"ClubRollsModel", "isThere", "(IIII)Z"⟩, 12), (⟨"ClubRollsModel", "command", "(II)Z"⟩, 12), (⟨"ClubRollsModel", "turn", "(I)V"⟩, 12), (⟨"ClubRollsModel", "turnGoing", "(IZ)V"⟩, 12)]
theorem lw_r2 : ∀ q ∈ lw_privs_2, lw_okq q := List.forall_mem_cons.mpr ⟨lw_p16, List.forall_mem_cons.mpr ⟨lw_p17, List.forall_mem_cons.mpr ⟨lw_p18, List.forall_mem_cons.mpr ⟨lw_p19, List.forall_mem_cons.mpr ⟨lw_p20, List.forall_mem_cons.mpr ⟨lw_p21, List.forall_mem_cons.mpr ⟨lw_p22, List.forall_mem_cons.mpr ⟨lw_p23, List.forall_mem_cons.mpr ⟨lw_p24, List.forall_mem_cons.mpr ⟨lw_p25, List.forall_mem_cons.mpr ⟨lw_p26, List.forall_mem_cons.mpr ⟨lw_p27, List.forall_mem_cons.mpr ⟨lw_p28, List.forall_mem_cons.mpr ⟨lw_p29, fun _ h => absurd h List.not_mem_nil⟩⟩⟩⟩⟩⟩⟩⟩⟩⟩⟩⟩⟩⟩
def lw_privs : List (MethodName × Nat) := lw_privs_1 ++ (lw_privs_2)
def lw_tbl : List Cond := k2_sels lw_privs ++ tables_1
theorem lw_privs_ok : ∀ q ∈ lw_privs, lw_okq q := by
  show ∀ q ∈ lw_privs_1 ++ (lw_privs_2), lw_okq q
  exact List.forall_mem_append.mpr ⟨lw_r1, lw_r2⟩
-- ===== end of PART A; then your names; then what follows =====
/-! ===== BEGIN words of one list among another's, by their places ===== -/
theorem goodIn_r {big : List Cond} (ws : List Cond) (ps : List Nat) (hp : ws = ps.filterMap (fun i => big[i]?)) (h : ws.all goodWord = true) : GoodIn big ws := by
  intro w hw
  have h1 := List.all_eq_true.mp h w hw
  rw [hp] at hw
  obtain ⟨i, -, hi⟩ := List.mem_filterMap.mp hw
  have hm : w ∈ big := by first | exact List.mem_of_getElem? hi | exact List.getElem?_mem hi
  exact ⟨hm, good_of_word h1⟩
theorem goodIn_app {big a b : List Cond} (ha : GoodIn big a) (hb : GoodIn big b) : GoodIn big (a ++ b) := fun w h => (List.mem_append.mp h).elim (ha w) (hb w)
theorem goodIn_ca {big a b : List Cond} {c : Cond} (ha : GoodIn big (c :: a)) (hb : GoodIn big b) : GoodIn big (c :: (a ++ b)) := fun w h => (List.mem_cons.mp h).elim (fun e => ha w (List.mem_cons.mpr (Or.inl e))) (fun h => (List.mem_append.mp h).elim (fun h => ha w (List.mem_cons.mpr (Or.inr h))) (hb w))
theorem goodIn_sub {big ws : List Cond} (hm : ∀ w ∈ ws, w ∈ big) (h : ws.all goodWord = true) : GoodIn big ws := fun w hw => ⟨hm w hw, good_of_word (List.all_eq_true.mp h w hw)⟩
/-! ===== END ===== -/

/-! ===== BEGIN exceptions that leave a method, and their catching by the caller (launches without stack traces) ===== -/
section VXA
/-! The laws vx_back, vx_callV, vx_callS, vx_callSW, vx_throw0, vx_throwS follow proofs of the library, with one case more: JvmDerived/Free/Laws.lean (Back.of_free), Shelf42/LK1.lean (callV, callS), Shelf/KitTraced.lean (throwNew0V, throwNewS). -/
/-- where a method has thrown q: the class by its name, the cell, what was written, the world -/
def vx_T (XC : String → State → State → Prop) (st : State) (q : Addr) (t : State) (mc ms : Nat) (free : Addr → Prop) : Prop :=
  ∃ (E : String) (ce : Cell) (L : List Loc), XC E st t ∧ t.heap[q]? = some ce ∧ ce.vm = .none ∧ st.vm.findClass E = some ce.cls ∧ st.WarmedH t.vm ∧ st.sameButNew ({ t with vm := st.vm } : State) L mc ms ∧ ∀ z ∈ L, free z.base
def vx_Q (Qc : Array Value → State → Outcome → State → Prop) (XC : String → State → State → Prop) (mc ms : Nat) (free : Addr → Prop) : Array Value → State → Outcome → State → Prop := fun a st o t =>
  (Qc a st o t ∧ ∃ L, FrameEnd st o t L mc ms ∧ ∀ q ∈ L, free q.base) ∨ ∃ q, o = .threw q ∧ vx_T XC st q t mc ms free
/-- a callee that returns or throws -/
def vx_Met (l : Launch) (y : MethodName) (ws : List Cond) (rm : Room) (Pc : Array Value → State → Prop) (Qc : Array Value → State → Outcome → State → Prop) (XC : String → State → State → Prop) (mc ms : Nat) (free : Addr → Prop) : Prop :=
  MetFree l y (headSpec ws rm) Pc (fun _ _ _ _ _ => True) (vx_Q Qc XC mc ms free)
def vx_Post (XC : String → State → State → Prop) (mc ms : Nat) (free : Addr → Prop) : Pt → Array Value → Addr → Pt → Prop := fun A a q B =>
  ∃ (g : JFrame) (mk : MethodId) (t : State) (L : List Loc) (E : String) (ce : Cell), B.U.heap = t.heap ∧ B.U.vm = t.vm ∧ XC E (A.U.calling g mk a) t ∧ t.heap[q]? = some ce ∧ ce.vm = .none ∧ A.U.vm.findClass E = some ce.cls ∧ B.locs = A.locs ++ L ∧ (∀ z ∈ L, free z.base) ∧ B.cells = A.cells + mc ∧ B.slots = A.slots + ms
def vx_Back (l : Launch) (R : Room) (p : Program) (e : Env) (below : List Frame) (s : State) (sargs : Array Value) (y : MethodName) (len W9 : Nat)
    (Pre : Pt → Array Value → Prop) (Post : Pt → Array Value → Option Value → Pt → Prop) (PostX : Pt → Array Value → Addr → Pt → Prop) : Prop :=
  ∀ (m : MethodId) (meth : Method) (c : Code) (A : Pt) (g : JFrame) (ig : Instr) (mk : MethodId) (a : Array Value),
    Stand p l e R s m sargs below meth c A.U A.locs A.cells A.slots → g.method = m → g.locals.size = c.maxLocals → decode c.code g.pc = .ok (ig, len) →
    2 * g.monitorRoom + (g.stack.map fun v => v.category).sum ≤ W9 → A.U.methodNamed? y = some mk → Pre A a →
    (∃ (v : Option Value) (B : Pt), Stand p l e R s m sargs below meth c B.U B.locs B.cells B.slots ∧ Post A a v B ∧
      Steps p.tables e below (doInvoke e (A.U.setTop g) [] mk a).1 (B.U.setTop { g with pc := g.pc + len, stack := v.toList ++ g.stack })) ∨
    (∃ (q : Addr) (B : Pt), Stand p l e R s m sargs below meth c B.U B.locs B.cells B.slots ∧ PostX A a q B ∧
      Steps p.tables e below (doInvoke e (A.U.setTop g) [] mk a).1 ((B.U.setTop g).pushFrame (.throwing q)))
section Payer
variable {l : Launch} {R : Room} {p : Program} {e : Env} {below : List Frame} {s : State} {sargs : Array Value} {y : MethodName} {len W9 : Nat}
theorem vx_back {ws : List Cond} {rm : Room} {Pc : Array Value → State → Prop} {Qc : Array Value → State → Outcome → State → Prop} {XC : String → State → State → Prop} {mc ms : Nat} {free : Addr → Prop} {bytes : ByteArray} {maxL : Nat} {ret : Option FieldType}
    (hM : vx_Met l y ws rm Pc Qc XC mc ms free) (hblind : FrameBlind Pc) (hrc : rm.cells = mc) (hrs : rm.slots = ms)
    (hframes : rm.frames + 1 ≤ R.frames) (hlocals : W9 + (maxL + 11) + rm.locals ≤ R.locals)
    (hws : ∀ w ∈ ws, ∀ a' U, s.WarmedH U.vm → w.before a' U = true) (hcode : Cond.code y bytes maxL ret ∈ ws) (hinit : ∀ a' U, s.WarmedH U.vm → (Cond.initialized y.cls).before a' U = true) :
    vx_Back l R p e below s sargs y len W9 (PreOf R mc ms Pc) (PostOf Qc mc ms free) (vx_Post XC mc ms free) := by
  intro m meth c A g ig mk a X hg hsize hdg hW hn hp
  have h1 : (headSpec ws rm).pre.before a A.U = true := atoms_intro fun w hw => hws w hw _ _ X.warmed
  have h2 : (Cond.code y bytes maxL ret).before a A.U = true := hws _ hcode _ _ X.warmed
  have h3 : (Cond.initialized y.cls).before a A.U = true := hinit _ _ X.warmed
  have h4 : A.cells + (headSpec ws rm).room.cells ≤ R.cells := by rw [show (headSpec ws rm).room.cells = mc from hrc]; exact hp.1
  have h5 : A.slots + (headSpec ws rm).room.slots ≤ R.slots := by rw [show (headSpec ws rm).room.slots = ms from hrs]; exact hp.2.1
  have hPc : Pc a (A.U.calling g mk a) := hblind _ _ _ _ hp.2.2
  obtain ⟨U, Ls, c0, s0⟩ := A
  dsimp only [Pt.U, Pt.locs, Pt.cells, Pt.slots] at h1 h2 h3 h4 h5 X hn hPc ⊢
  obtain ⟨methY, cY, hmY, hcY, -, hlY, -, -, -, -⟩ := Cond.code_spec hn h2
  obtain ⟨kY, hkY, -⟩ := className_of_methodNamed hn
  have hinitY : kY.init = .initialized := Cond.initialized_spec (findClass_of_methodNamed hn) hkY h3
  have h : At U g.method c below := by rw [hg]; exact X.here
  have hlocals9 : W9 + (maxL + 11) + (headSpec ws rm).room.locals ≤ R.locals := hlocals
  have happ : (headSpec ws rm).appliesLoose y e.platform (U.calling g mk a) = true :=
    Spec.appliesLoose_calling (g := g) h hdg hn hkY hinitY
      (X.room_calling (g := g) (R' := (headSpec ws rm).room) hsize hmY hcY hframes (by rw [hlY]; omega) h4 h5) h1
  obtain ⟨mid, hmid⟩ := h.above
  have hfr : (U.setTop g).frames = (.java g :: mid) ++ below := by rw [State.frames_setTop' g h.top, hmid]; rfl
  obtain ⟨o, s₂, hsteps, -, hend, hq⟩ := Steps.callFree hM p X.admits X.cas X.clock (acts := []) hfr happ hPc trivial
  have hq' : vx_Q Qc XC mc ms free a (U.calling g mk a) o s₂ := hq
  rw [State.frames_setTop' g h.top] at hend
  obtain ⟨g₀, hg0⟩ := Option.isSome_iff_exists.mp h.top
  obtain ⟨r, hr⟩ := State.topJava?_eq_some.mp hg0
  have hr' : (({ U with heap := s₂.heap, slotsUsed := s₂.slotsUsed } : State).setVm s₂.vm).frames = .java g₀ :: r := hr
  rcases hq' with ⟨hqc, L, hfe, hL⟩ | ⟨q, rfl, E, ce, L, hx, hce, hcv, hcl, hW₂, hsm, hL⟩
  · obtain ⟨⟨v, rfl⟩, hW₂, e2, q2, q3, q4, q5, q6⟩ := id hfe
    have e3 : s₂ = ({ (U.calling g mk a).setFrames s₂.frames with heap := s₂.heap, slotsUsed := s₂.slotsUsed } : State).setVm s₂.vm := by
      have : s₂ = ({ s₂ with vm := (U.calling g mk a).vm } : State).setVm s₂.vm := rfl
      rw [e2] at this
      exact this
    obtain ⟨c₂, i₂, len₂, hc₂, hd₂, hf₂⟩ := hend
    have hW' : U.WarmedH s₂.vm := hW₂
    have hcc : c₂ = c := by
      have h1 : s₂.code? g.method = U.code? g.method := by
        rw [State.code?_eq, State.code?_eq, hW'.alike.method?]
      exact Option.some.inj (hc₂.symm.trans (h1.trans h.code))
    subst hcc
    have hlen : len₂ = len := by rw [hdg] at hd₂; cases hd₂; rfl
    subst hlen
    have hs₂ : s₂ = (({ U with heap := s₂.heap, slotsUsed := s₂.slotsUsed } : State).setVm s₂.vm).setTop { g with pc := g.pc + len₂, stack := v.toList ++ g.stack } := by
      refine e3.trans ?_
      rw [hf₂, State.calling_eq h.top, State.setFrames_setFrames, State.setTop_of_frames _ hr', hr]
      rfl
    have hsame : U.sameButNew ({ U with heap := s₂.heap, slotsUsed := s₂.slotsUsed } : State) L mc ms := by
      refine ⟨?_, q2, q3, q4, q5, q6⟩
      obtain ⟨t, ht, -⟩ := State.frames_cons hr
      show ({ U with heap := s₂.heap, slotsUsed := s₂.slotsUsed } : State) = { U.setFrames U.frames with heap := s₂.heap, slotsUsed := s₂.slotsUsed }
      rw [State.setFrames_self ht]
    subst hg
    refine Or.inl ⟨v, ⟨(({ U with heap := s₂.heap, slotsUsed := s₂.slotsUsed } : State).setVm s₂.vm), Ls ++ L, c0 + mc, s0 + ms⟩,
      ⟨X.admits, X.cas, X.clock, X.frames, X.room, X.hears, X.method, X.code, (X.here.setHeapUsed s₂.heap s₂.slotsUsed).setVm hW'.alike, X.tail, State.WarmedH.trans X.warmed hW', X.limits, X.bytes, X.same.trans (hsame.setVm s.vm)⟩,
      ⟨g, mk, s₂, L, rfl, rfl, hqc, rfl, hL, rfl, rfl⟩, ?_⟩
    show Steps p.tables e below _ ((({ U with heap := s₂.heap, slotsUsed := s₂.slotsUsed } : State).setVm s₂.vm).setTop { g with pc := g.pc + len₂, stack := v.toList ++ g.stack })
    rw [← hs₂]
    exact hsteps
  · obtain ⟨e2, q2, q3, q4, q5, q6⟩ := id hsm
    have e3 : s₂ = ({ (U.calling g mk a).setFrames s₂.frames with heap := s₂.heap, slotsUsed := s₂.slotsUsed } : State).setVm s₂.vm := by
      have : s₂ = ({ s₂ with vm := (U.calling g mk a).vm } : State).setVm s₂.vm := rfl
      rw [e2] at this
      exact this
    have hf₂ : s₂.frames = .throwing q :: .java g :: U.frames.tail := hend
    have hW' : U.WarmedH s₂.vm := hW₂
    have hs₂ : s₂ = ((({ U with heap := s₂.heap, slotsUsed := s₂.slotsUsed } : State).setVm s₂.vm).setTop g).pushFrame (.throwing q) := by
      refine e3.trans ?_
      rw [hf₂, State.calling_eq h.top, State.setFrames_setFrames, State.pushFrame, State.frames_setTop _ hr', State.setTop_of_frames _ hr', State.setFrames_setFrames, hr]
      rfl
    have hsame : U.sameButNew ({ U with heap := s₂.heap, slotsUsed := s₂.slotsUsed } : State) L mc ms := by
      refine ⟨?_, q2, q3, q4, q5, q6⟩
      obtain ⟨t, ht, -⟩ := State.frames_cons hr
      show ({ U with heap := s₂.heap, slotsUsed := s₂.slotsUsed } : State) = { U.setFrames U.frames with heap := s₂.heap, slotsUsed := s₂.slotsUsed }
      rw [State.setFrames_self ht]
    subst hg
    refine Or.inr ⟨q, ⟨(({ U with heap := s₂.heap, slotsUsed := s₂.slotsUsed } : State).setVm s₂.vm), Ls ++ L, c0 + mc, s0 + ms⟩,
      ⟨X.admits, X.cas, X.clock, X.frames, X.room, X.hears, X.method, X.code, (X.here.setHeapUsed s₂.heap s₂.slotsUsed).setVm hW'.alike, X.tail, State.WarmedH.trans X.warmed hW', X.limits, X.bytes, X.same.trans (hsame.setVm s.vm)⟩,
      ⟨g, mk, s₂, L, E, ce, rfl, rfl, hx, hce, hcv, hcl, rfl, hL, rfl, rfl⟩, ?_⟩
    show Steps p.tables e below _ (((({ U with heap := s₂.heap, slotsUsed := s₂.slotsUsed } : State).setVm s₂.vm).setTop g).pushFrame (.throwing q))
    rw [← hs₂]
    exact hsteps
end Payer
section Calls
variable {p : Program} {l : Launch} {e : Env} {R : Room} {s : State} {m : MethodId} {args : Array Value} {below : List Frame} {meth : Method} {c : Code} {T : State} {locs : List Loc} {cells slots : Nat}
theorem vx_callV (X : Stand p l e R s m args below meth c T locs cells slots) (hexec : p.tables.exec = Jvm.exec) {own C : String} {index : Nat} {y : MethodName} {bytes : ByteArray} {maxL : Nat} {ret : Option FieldType}
    (hown : s.vm.findClass own = some m.cls) (hlink : (Cond.methodLink own index y).before args s = true) (hinst : (Cond.instanceMethod y).before args s = true) (hsel : (Cond.selects C y y).before args s = true)
    (hcode : (Cond.code y bytes maxL ret).before args s = true) (hy : y.cls ≠ "java/lang/invoke/MethodHandle" ∧ y.cls ≠ "java/lang/invoke/VarHandle")
    {W9 : Nat} {Pre : Pt → Array Value → Prop} {Post : Pt → Array Value → Option Value → Pt → Prop} {PostX : Pt → Array Value → Addr → Pt → Prop} (hK : vx_Back l R p e below s args y 3 W9 Pre Post PostX)
    {b : Addr} {cellB : Cell} (hcell : T.heap[b]? = some cellB) (hobj : cellB.vm.isStatics = false) (hcls : s.vm.findClass C = some cellB.cls)
    {g : JFrame} (hg : g.method = m) (hsize : g.locals.size = c.maxLocals) {argsL rest : List Value} (hlen : ∀ sig, parseMethodDescriptor y.desc = some sig → argsL.length = sig.parameters.length)
    (hstack : g.stack = argsL.reverse ++ .ref b :: rest) (hW : 2 * g.monitorRoom + (rest.map fun v => v.category).sum ≤ W9) (hdg : decode c.code g.pc = .ok (.invokevirtual index, 3))
    (hpre : ∀ vm₁, s.WarmedH vm₁ → Pre ⟨T.setVm vm₁, locs, cells, slots⟩ (Value.ref b :: argsL).toArray) :
    (∃ (v : Option Value) (vm₁ : Vm) (B : Pt), s.WarmedH vm₁ ∧ Stand p l e R s m args below meth c B.U B.locs B.cells B.slots ∧ Post ⟨T.setVm vm₁, locs, cells, slots⟩ (Value.ref b :: argsL).toArray v B ∧
      ∀ target, Steps p.tables e below (B.U.setTop { g with pc := g.pc + 3, stack := v.toList ++ rest }) target → Steps p.tables e below (T.setTop g) target) ∨
    (∃ (q : Addr) (vm₁ : Vm) (B : Pt), s.WarmedH vm₁ ∧ Stand p l e R s m args below meth c B.U B.locs B.cells B.slots ∧ PostX ⟨T.setVm vm₁, locs, cells, slots⟩ (Value.ref b :: argsL).toArray q B ∧
      Steps p.tables e below (T.setTop g) ((B.U.setTop { g with stack := rest }).pushFrame (.throwing q))) := by
  obtain ⟨mk, methM, hnamed, hmethM, hstM, habM⟩ := Cond.instanceMethod_spec hinst
  obtain ⟨methM', cM, hmethM', -, -, -, -, -, -, hsigM⟩ := Cond.code_spec hnamed hcode
  cases hmethM.symm.trans hmethM'
  obtain ⟨c2, r2, m2, q1, q2, q3, q4, kP, hkP, hkPi⟩ := Cond.selects_spec hsel
  cases hcls.symm.trans q1
  cases (State.methodFound?_of_named hnamed hy).symm.trans q2
  cases hnamed.symm.trans q3
  have hselP : selectMethod e.platform s.vm cellB.cls mk = .method mk := by rw [Launch.admits_selectMethod X.admits]; exact q4
  obtain ⟨vm₁, X₁, hstep₁⟩ := X.invokevirtual hexec hown hlink hnamed hmethM hstM hkP hkPi hy (a := b) (cell := cellB) hcell
    (fun z h => by rw [h] at hobj; cases hobj) hselP hmethM habM hkP hkPi (g := g) hg (argsL := argsL) (rest := rest) (hlen _ hsigM) hstack hdg
  rcases hK m meth c ⟨T.setVm vm₁, locs, cells, slots⟩ { g with stack := rest } (.invokevirtual index) mk (Value.ref b :: argsL).toArray X₁ hg hsize hdg hW (X₁.named hnamed) (hpre vm₁ X₁.warmed) with ⟨v, B, X', hpost, hsteps⟩ | ⟨q, B, X', hpost, hsteps⟩
  · exact Or.inl ⟨v, vm₁, B, X₁.warmed, X', hpost, fun target h => hstep₁ _ fun acts => by rw [doInvoke_state]; exact hsteps.trans h⟩
  · exact Or.inr ⟨q, vm₁, B, X₁.warmed, X', hpost, hstep₁ _ fun acts => by rw [doInvoke_state]; exact hsteps⟩
theorem vx_callS (X : Stand p l e R s m args below meth c T locs cells slots) (hexec : p.tables.exec = Jvm.exec) {own : String} {index : Nat} {y : MethodName} {bytes : ByteArray} {maxL : Nat} {ret : Option FieldType}
    (hown : s.vm.findClass own = some m.cls) (hlink : (Cond.methodLink own index y).before args s = true) (hstat : (Cond.static y).before args s = true) (hinit : (Cond.initialized y.cls).before args s = true)
    (hcode : (Cond.code y bytes maxL ret).before args s = true) (hy : y.cls ≠ "java/lang/invoke/MethodHandle" ∧ y.cls ≠ "java/lang/invoke/VarHandle")
    {W9 : Nat} {Pre : Pt → Array Value → Prop} {Post : Pt → Array Value → Option Value → Pt → Prop} {PostX : Pt → Array Value → Addr → Pt → Prop} (hK : vx_Back l R p e below s args y 3 W9 Pre Post PostX)
    {g : JFrame} (hg : g.method = m) (hsize : g.locals.size = c.maxLocals) {argsL rest : List Value} (hlen : ∀ sig, parseMethodDescriptor y.desc = some sig → argsL.length = sig.parameters.length)
    (hstack : g.stack = argsL.reverse ++ rest) (hW : 2 * g.monitorRoom + (rest.map fun v => v.category).sum ≤ W9) (hdg : decode c.code g.pc = .ok (.invokestatic index, 3))
    (hpre : ∀ vm₁, s.WarmedH vm₁ → Pre ⟨T.setVm vm₁, locs, cells, slots⟩ argsL.toArray) :
    (∃ (v : Option Value) (vm₁ : Vm) (B : Pt), s.WarmedH vm₁ ∧ Stand p l e R s m args below meth c B.U B.locs B.cells B.slots ∧ Post ⟨T.setVm vm₁, locs, cells, slots⟩ argsL.toArray v B ∧
      ∀ target, Steps p.tables e below (B.U.setTop { g with pc := g.pc + 3, stack := v.toList ++ rest }) target → Steps p.tables e below (T.setTop g) target) ∨
    (∃ (q : Addr) (vm₁ : Vm) (B : Pt), s.WarmedH vm₁ ∧ Stand p l e R s m args below meth c B.U B.locs B.cells B.slots ∧ PostX ⟨T.setVm vm₁, locs, cells, slots⟩ argsL.toArray q B ∧
      Steps p.tables e below (T.setTop g) ((B.U.setTop { g with stack := rest }).pushFrame (.throwing q))) := by
  obtain ⟨mk, hnamed⟩ := Cond.code_named hcode
  obtain ⟨methM, cM, hmethM, -, -, -, -, -, -, hsigM⟩ := Cond.code_spec hnamed hcode
  have hstatic : methM.isStatic = true := Cond.static_spec hnamed hmethM hstat
  obtain ⟨kP, hkP, -⟩ := className_of_methodNamed hnamed
  have hinitP : kP.init = .initialized := Cond.initialized_spec (findClass_of_methodNamed hnamed) hkP hinit
  obtain ⟨vm₁, X₁, hstep₁⟩ := X.invokestatic hexec hown hlink hnamed hmethM hstatic hkP hinitP hy (g := g) hg (argsL := argsL) (rest := rest) (hlen _ hsigM) hstack hdg
  rcases hK m meth c ⟨T.setVm vm₁, locs, cells, slots⟩ { g with stack := rest } (.invokestatic index) mk argsL.toArray X₁ hg hsize hdg hW (X₁.named hnamed) (hpre vm₁ X₁.warmed) with ⟨v, B, X', hpost, hsteps⟩ | ⟨q, B, X', hpost, hsteps⟩
  · exact Or.inl ⟨v, vm₁, B, X₁.warmed, X', hpost, fun target h => hstep₁ _ fun acts => by rw [doInvoke_state]; exact hsteps.trans h⟩
  · exact Or.inr ⟨q, vm₁, B, X₁.warmed, X', hpost, hstep₁ _ fun acts => by rw [doInvoke_state]; exact hsteps⟩
end Calls
theorem vx_cls {s : State} {T : State} {vm₁ : Vm} {E : String} {k : ClassId} (hW : s.WarmedH vm₁) (h : (T.setVm vm₁).vm.findClass E = some k) : s.vm.findClass E = some k := by
  have h1 : vm₁.findClass E = some k := h
  rw [hW.alike.findClass] at h1
  exact h1
/-- the method's frame g, with q thrown over it -/
def vx_W (p : Program) (l : Launch) (e : Env) (R : Room) (s : State) (m : MethodId) (args : Array Value) (below : List Frame) (meth : Method) (c : Code) (H : Heap) (locs : List Loc) (cells slots : Nat) (Q : State → Prop) (g : JFrame) (q : Addr) : Prop :=
  ∀ T : State, T.heap = H → Stand p l e R s m args below meth c T locs cells slots → ∃ t, Steps p.tables e below ((T.setTop g).pushFrame (.throwing q)) t ∧ Q t
def vx_Run (p : Program) (l : Launch) (e : Env) (R : Room) (s : State) (m : MethodId) (args : Array Value) (below : List Frame) (meth : Method) (c : Code) (H : Heap) (locs : List Loc) (cells slots mc ms : Nat) (g : JFrame) (rest : List Value) (Qa : State → Outcome → State → Prop) (XC : String → State → State → Prop) (free : Addr → Prop) : Prop :=
  ∀ T : State, T.heap = H → Stand p l e R s m args below meth c T locs cells slots →
    (∃ (v : Option Value) (st₀ t T' : State) (L : List Loc), st₀.heap = H ∧ Stand p l e R s m args below meth c T' (locs ++ L) (cells + mc) (slots + ms) ∧ (∀ q ∈ L, free q.base) ∧ T'.heap = t.heap ∧ T'.vm = t.vm ∧ Qa st₀ (.returned v) t ∧
      Goes p e below T g T' { g with pc := g.pc + 3, stack := v.toList ++ rest }) ∨
    (∃ (q : Addr) (st₀ t T' : State) (L : List Loc) (E : String) (ce : Cell), st₀.heap = H ∧ Stand p l e R s m args below meth c T' (locs ++ L) (cells + mc) (slots + ms) ∧ (∀ z ∈ L, free z.base) ∧ T'.heap = t.heap ∧ T'.vm = t.vm ∧ XC E st₀ t ∧ t.heap[q]? = some ce ∧ ce.vm = .none ∧ s.vm.findClass E = some ce.cls ∧
      Steps p.tables e below (T.setTop g) ((T'.setTop { g with stack := rest }).pushFrame (.throwing q)))
def vx_X {S : Type} (px : S → Prop) (B : String → S → State → Prop) (A : Nat → Prop) : String → State → State → Prop := fun E st t => ∃ u : S, px u ∧ B E u t ∧ va_F A st t
section Runs
variable {p : Program} {l : Launch} {e : Env} {R : Room} {s : State} {m : MethodId} {args : Array Value} {below : List Frame} {meth : Method} {c : Code} {H : Heap} {locs : List Loc} {cells slots : Nat}
variable {y : MethodName} {bytes cc : ByteArray} {maxL nL mc ms n index : Nat} {ret : Option FieldType} {ws : List Cond} {rm : Room} {Pc : Array Value → State → Prop} {Qc : Array Value → State → Outcome → State → Prop} {XC : String → State → State → Prop} {free : Addr → Prop} {Ts : List Cond} {own C : String} {b : Addr} {As rest : List Value} {g : JFrame}
theorem vx_callBack (cb : CallB R s args own index y bytes maxL ret ws rm mc ms n) (hM : vx_Met l y ws rm Pc Qc XC mc ms free) (hbl : FrameBlind Pc) : vx_Back l R p e below s args y 3 8 (PreOf R mc ms Pc) (PostOf Qc mc ms free) (vx_Post XC mc ms free) := by
  obtain ⟨hrc, hrs, hfr, hlo, hws, hcw, -, hini, -⟩ := cb
  exact vx_back (bytes := bytes) (maxL := maxL) (ret := ret) hM hbl hrc hrs hfr hlo hws hcw (fun a' U hW => word_at hW (Or.inl (by first | rfl | simp [Cond.onTables, Cond.keeps, Cond.steady])) hini)
theorem vx_runV (S : CallFix p m c cc nL s args Ts own) (hM : vx_Met l y ws rm Pc Qc XC mc ms free) (cw : CallW R s args own C index y bytes maxL ret ws rm mc ms n) (hp : PreV s H C b Pc As)
    (hg : g.method = m) (hn : As.length = n) (hsize : g.locals.size = nL) (hstack : g.stack = As.reverse ++ .ref b :: rest) (hW : 2 * g.monitorRoom + (rest.map fun v => v.category).sum ≤ 8) (hdg : decode cc g.pc = .ok (.invokevirtual index, 3)) (hf : cells + mc ≤ R.cells ∧ slots + ms ≤ R.slots) :
    vx_Run p l e R s m args below meth c H locs cells slots mc ms g rest (Qc (Value.ref b :: As).toArray) XC free := by
  have hK : vx_Back l R p e below s args y 3 8 (PreOf R mc ms Pc) (PostOf Qc mc ms free) (vx_Post XC mc ms free) := vx_callBack cw.1 hM hp.1
  obtain ⟨⟨-, -, -, -, -, -, hcode, -, hy, hlen, hl⟩, hin, hse⟩ := cw
  obtain ⟨hx, hb, hml, ho, -⟩ := S
  obtain ⟨-, ⟨cellB, hcB, hoB, hclB⟩, hPc⟩ := hp
  intro T hT X
  rcases vx_callV X hx (C := C) (bytes := bytes) (maxL := maxL) (ret := ret) ho hl hin hse hcode hy hK (by rw [hT]; exact hcB) hoB hclB hg (hsize.trans hml.symm) (argsL := As) (rest := rest) (fun sig h => hn.trans (hlen sig h)) hstack hW (by rw [hb]; exact hdg)
    (fun vm₁ hW₁ => ⟨hf.1, hf.2, hPc (T.setVm vm₁) hT hW₁⟩) with ⟨v, vm₁, ⟨U', l2, c2, s2⟩, hW₁, X', ⟨g', mk, t, L, e1, e2, hq, h1, hL, h2, h3⟩, st⟩ | ⟨q, vm₁, ⟨U', l2, c2, s2⟩, hW₁, X', ⟨g', mk, t, L, E, ce, e1, e2, hq, hce, hcv, hcl, h1, hL, h2, h3⟩, st⟩
  · dsimp only [Pt.U, Pt.locs, Pt.cells, Pt.slots] at X' e1 e2 h1 h2 h3 st
    subst h1; subst h2; subst h3
    exact Or.inl ⟨v, (T.setVm vm₁).calling g' mk (Value.ref b :: As).toArray, t, U', L, hT, X', hL, e1, e2, hq, st⟩
  · dsimp only [Pt.U, Pt.locs, Pt.cells, Pt.slots] at X' e1 e2 h1 h2 h3 st hcl
    subst h1; subst h2; subst h3
    exact Or.inr ⟨q, (T.setVm vm₁).calling g' mk (Value.ref b :: As).toArray, t, U', L, E, ce, hT, X', hL, e1, e2, hq, hce, hcv, vx_cls hW₁ hcl, st⟩
theorem vx_runS (S : CallFix p m c cc nL s args Ts own) (hM : vx_Met l y ws rm Pc Qc XC mc ms free) (cw : CallB R s args own index y bytes maxL ret ws rm mc ms n ∧ (Cond.static y).before args s = true) (hp : PreS s H Pc As)
    (hg : g.method = m) (hn : As.length = n) (hsize : g.locals.size = nL) (hstack : g.stack = As.reverse ++ rest) (hW : 2 * g.monitorRoom + (rest.map fun v => v.category).sum ≤ 8) (hdg : decode cc g.pc = .ok (.invokestatic index, 3)) (hf : cells + mc ≤ R.cells ∧ slots + ms ≤ R.slots) :
    vx_Run p l e R s m args below meth c H locs cells slots mc ms g rest (Qc As.toArray) XC free := by
  have hK : vx_Back l R p e below s args y 3 8 (PreOf R mc ms Pc) (PostOf Qc mc ms free) (vx_Post XC mc ms free) := vx_callBack cw.1 hM hp.1
  obtain ⟨⟨-, -, -, -, -, -, hcode, hini, hy, hlen, hl⟩, hstt⟩ := cw
  obtain ⟨hx, hb, hml, ho, -⟩ := S
  intro T hT X
  rcases vx_callS X hx (bytes := bytes) (maxL := maxL) (ret := ret) ho hl hstt hini hcode hy hK hg (hsize.trans hml.symm) (argsL := As) (rest := rest) (fun sig h => hn.trans (hlen sig h)) hstack hW (by rw [hb]; exact hdg)
    (fun vm₁ hW₁ => ⟨hf.1, hf.2, hp.2 (T.setVm vm₁) hT hW₁⟩) with ⟨v, vm₁, ⟨U', l2, c2, s2⟩, hW₁, X', ⟨g', mk, t, L, e1, e2, hq, h1, hL, h2, h3⟩, st⟩ | ⟨q, vm₁, ⟨U', l2, c2, s2⟩, hW₁, X', ⟨g', mk, t, L, E, ce, e1, e2, hq, hce, hcv, hcl, h1, hL, h2, h3⟩, st⟩
  · dsimp only [Pt.U, Pt.locs, Pt.cells, Pt.slots] at X' e1 e2 h1 h2 h3 st
    subst h1; subst h2; subst h3
    exact Or.inl ⟨v, (T.setVm vm₁).calling g' mk As.toArray, t, U', L, hT, X', hL, e1, e2, hq, st⟩
  · dsimp only [Pt.U, Pt.locs, Pt.cells, Pt.slots] at X' e1 e2 h1 h2 h3 st hcl
    subst h1; subst h2; subst h3
    exact Or.inr ⟨q, (T.setVm vm₁).calling g' mk As.toArray, t, U', L, E, ce, hT, X', hL, e1, e2, hq, hce, hcv, vx_cls hW₁ hcl, st⟩
end Runs
section Rows
variable {p : Program} {l : Launch} {e : Env} {R : Room} {s : State} {m : MethodId} {args : Array Value} {below : List Frame} {meth : Method} {c : Code} {H : Heap} {locs : List Loc} {cells slots : Nat} {Q : State → Prop}
variable {mc ms : Nat} {free : Addr → Prop} {A0 A1 : Nat → Prop} {H0 : Heap} {a : Array Value} {pc : Nat} {ls : Array Slot} {st0 rest : List Value}
theorem vx_keep {st₀ t T' : State} {L : List Loc} (h0 : st₀.heap = H) (e1 : T'.heap = t.heap) (hS : va_S A0 H0 H locs) (hA : ∀ q, q < H.size → A1 q → A0 q) (hf : ∀ q, free q → A0 q) (hL : ∀ q ∈ L, free q.base) (hF : va_F A1 st₀ t) :
    H.size ≤ T'.heap.size ∧ (∀ q : Nat, q < H.size → ¬ A1 q → T'.heap[q]? = H[q]?) ∧ va_S A0 H0 T'.heap (locs ++ L) := by
  obtain ⟨hz, hk⟩ := hF
  rw [h0] at hz hk
  exact ⟨by rw [e1]; exact hz, fun q h1 h2 => by rw [e1]; exact hk q h1 h2,
    ⟨Nat.le_trans hS.1 (by rw [e1]; exact hz), fun q h1 h2 => by rw [e1, hk q (Nat.lt_of_lt_of_le h1 hS.1) (fun z => h2 (hA q (Nat.lt_of_lt_of_le h1 hS.1) z))]; exact hS.2.1 q h1 h2, fun q hq => by
      rcases List.mem_append.mp hq with h | h
      · exact hS.2.2 q h
      · exact hf _ (hL q h)⟩⟩
theorem vx_calli {S SX : Type} {post : Int32 → S → Prop} {px : SX → Prop} {B : S → State → Prop} {BX : String → SX → State → Prop} {AX : Nat → Prop} (hr : vx_Run p l e R s m args below meth c H locs cells slots mc ms (F0 m pc ls st0) rest (va_Qi post B A1 a) (vx_X px BX AX) free) (hS : va_S A0 H0 H locs) (hA : ∀ q, q < H.size → A1 q → A0 q) (hf : ∀ q, free q → A0 q) (hAX : ∀ q, q < H.size → AX q → A0 q)
    (kx : ∀ (E : String) (ce : Cell) (q9 : Addr) (u : SX) (t : State) (H1 : Heap) (locs1 : List Loc), t.heap = H1 → s.vm.Alike t.vm → px u → BX E u t → H.size ≤ H1.size → (∀ q : Nat, q < H.size → ¬ AX q → H1[q]? = H[q]?) → va_S A0 H0 H1 locs1 → H1[q9]? = some ce → ce.vm = .none → s.vm.findClass E = some ce.cls → vx_W p l e R s m args below meth c H1 locs1 (cells + mc) (slots + ms) Q (F0 m pc ls rest) q9)
    (kk : ∀ (r : Int32) (u : S) (t : State) (H1 : Heap) (locs1 : List Loc), t.heap = H1 → s.vm.Alike t.vm → post r u → B u t → H.size ≤ H1.size → (∀ q : Nat, q < H.size → ¬ A1 q → H1[q]? = H[q]?) → va_S A0 H0 H1 locs1 → W p l e R s m args below meth c H1 locs1 (cells + mc) (slots + ms) Q (F0 m (pc + 3) ls (.int r :: rest))) : W p l e R s m args below meth c H locs cells slots Q (F0 m pc ls st0) := by
  intro T hT X
  rcases hr T hT X with ⟨v, st₀, t, T', L, h0, X', hL, e1, e2, ⟨⟨r, u, hv, hp, hb⟩, hF⟩, st⟩ | ⟨q, st₀, t, T', L, E, ce, h0, X', hL, e1, e2, ⟨u, hp, hb, hF⟩, hce, hcv, hcl, st⟩
  · cases hv
    obtain ⟨k1, k2, k3⟩ := vx_keep h0 e1 hS hA hf hL hF
    obtain ⟨t2, a1, b1⟩ := kk r u t T'.heap (locs ++ L) e1.symm (by rw [← e2]; exact X'.warmed.alike) hp hb k1 k2 k3 T' rfl X'
    exact ⟨t2, st t2 a1, b1⟩
  · obtain ⟨k1, k2, k3⟩ := vx_keep h0 e1 hS hAX hf hL hF
    obtain ⟨t2, a1, b1⟩ := kx E ce q u t T'.heap (locs ++ L) e1.symm (by rw [← e2]; exact X'.warmed.alike) hp hb k1 k2 k3 (by rw [e1]; exact hce) hcv hcl T' rfl X'
    exact ⟨t2, st.trans a1, b1⟩
theorem vx_calll {S SX : Type} {post : Int64 → S → Prop} {px : SX → Prop} {B : S → State → Prop} {BX : String → SX → State → Prop} {AX : Nat → Prop} (hr : vx_Run p l e R s m args below meth c H locs cells slots mc ms (F0 m pc ls st0) rest (va_Ql post B A1 a) (vx_X px BX AX) free) (hS : va_S A0 H0 H locs) (hA : ∀ q, q < H.size → A1 q → A0 q) (hf : ∀ q, free q → A0 q) (hAX : ∀ q, q < H.size → AX q → A0 q)
    (kx : ∀ (E : String) (ce : Cell) (q9 : Addr) (u : SX) (t : State) (H1 : Heap) (locs1 : List Loc), t.heap = H1 → s.vm.Alike t.vm → px u → BX E u t → H.size ≤ H1.size → (∀ q : Nat, q < H.size → ¬ AX q → H1[q]? = H[q]?) → va_S A0 H0 H1 locs1 → H1[q9]? = some ce → ce.vm = .none → s.vm.findClass E = some ce.cls → vx_W p l e R s m args below meth c H1 locs1 (cells + mc) (slots + ms) Q (F0 m pc ls rest) q9)
    (kk : ∀ (r : Int64) (u : S) (t : State) (H1 : Heap) (locs1 : List Loc), t.heap = H1 → s.vm.Alike t.vm → post r u → B u t → H.size ≤ H1.size → (∀ q : Nat, q < H.size → ¬ A1 q → H1[q]? = H[q]?) → va_S A0 H0 H1 locs1 → W p l e R s m args below meth c H1 locs1 (cells + mc) (slots + ms) Q (F0 m (pc + 3) ls (.long r :: rest))) : W p l e R s m args below meth c H locs cells slots Q (F0 m pc ls st0) := by
  intro T hT X
  rcases hr T hT X with ⟨v, st₀, t, T', L, h0, X', hL, e1, e2, ⟨⟨r, u, hv, hp, hb⟩, hF⟩, st⟩ | ⟨q, st₀, t, T', L, E, ce, h0, X', hL, e1, e2, ⟨u, hp, hb, hF⟩, hce, hcv, hcl, st⟩
  · cases hv
    obtain ⟨k1, k2, k3⟩ := vx_keep h0 e1 hS hA hf hL hF
    obtain ⟨t2, a1, b1⟩ := kk r u t T'.heap (locs ++ L) e1.symm (by rw [← e2]; exact X'.warmed.alike) hp hb k1 k2 k3 T' rfl X'
    exact ⟨t2, st t2 a1, b1⟩
  · obtain ⟨k1, k2, k3⟩ := vx_keep h0 e1 hS hAX hf hL hF
    obtain ⟨t2, a1, b1⟩ := kx E ce q u t T'.heap (locs ++ L) e1.symm (by rw [← e2]; exact X'.warmed.alike) hp hb k1 k2 k3 (by rw [e1]; exact hce) hcv hcl T' rfl X'
    exact ⟨t2, st.trans a1, b1⟩
theorem vx_callf {S SX : Type} {post : UInt32 → S → Prop} {px : SX → Prop} {B : S → State → Prop} {BX : String → SX → State → Prop} {AX : Nat → Prop} (hr : vx_Run p l e R s m args below meth c H locs cells slots mc ms (F0 m pc ls st0) rest (va_Qf post B A1 a) (vx_X px BX AX) free) (hS : va_S A0 H0 H locs) (hA : ∀ q, q < H.size → A1 q → A0 q) (hf : ∀ q, free q → A0 q) (hAX : ∀ q, q < H.size → AX q → A0 q)
    (kx : ∀ (E : String) (ce : Cell) (q9 : Addr) (u : SX) (t : State) (H1 : Heap) (locs1 : List Loc), t.heap = H1 → s.vm.Alike t.vm → px u → BX E u t → H.size ≤ H1.size → (∀ q : Nat, q < H.size → ¬ AX q → H1[q]? = H[q]?) → va_S A0 H0 H1 locs1 → H1[q9]? = some ce → ce.vm = .none → s.vm.findClass E = some ce.cls → vx_W p l e R s m args below meth c H1 locs1 (cells + mc) (slots + ms) Q (F0 m pc ls rest) q9)
    (kk : ∀ (r : UInt32) (u : S) (t : State) (H1 : Heap) (locs1 : List Loc), t.heap = H1 → s.vm.Alike t.vm → post r u → B u t → H.size ≤ H1.size → (∀ q : Nat, q < H.size → ¬ A1 q → H1[q]? = H[q]?) → va_S A0 H0 H1 locs1 → W p l e R s m args below meth c H1 locs1 (cells + mc) (slots + ms) Q (F0 m (pc + 3) ls (.float r :: rest))) : W p l e R s m args below meth c H locs cells slots Q (F0 m pc ls st0) := by
  intro T hT X
  rcases hr T hT X with ⟨v, st₀, t, T', L, h0, X', hL, e1, e2, ⟨⟨r, u, hv, hp, hb⟩, hF⟩, st⟩ | ⟨q, st₀, t, T', L, E, ce, h0, X', hL, e1, e2, ⟨u, hp, hb, hF⟩, hce, hcv, hcl, st⟩
  · cases hv
    obtain ⟨k1, k2, k3⟩ := vx_keep h0 e1 hS hA hf hL hF
    obtain ⟨t2, a1, b1⟩ := kk r u t T'.heap (locs ++ L) e1.symm (by rw [← e2]; exact X'.warmed.alike) hp hb k1 k2 k3 T' rfl X'
    exact ⟨t2, st t2 a1, b1⟩
  · obtain ⟨k1, k2, k3⟩ := vx_keep h0 e1 hS hAX hf hL hF
    obtain ⟨t2, a1, b1⟩ := kx E ce q u t T'.heap (locs ++ L) e1.symm (by rw [← e2]; exact X'.warmed.alike) hp hb k1 k2 k3 (by rw [e1]; exact hce) hcv hcl T' rfl X'
    exact ⟨t2, st.trans a1, b1⟩
theorem vx_calld {S SX : Type} {post : UInt64 → S → Prop} {px : SX → Prop} {B : S → State → Prop} {BX : String → SX → State → Prop} {AX : Nat → Prop} (hr : vx_Run p l e R s m args below meth c H locs cells slots mc ms (F0 m pc ls st0) rest (va_Qd post B A1 a) (vx_X px BX AX) free) (hS : va_S A0 H0 H locs) (hA : ∀ q, q < H.size → A1 q → A0 q) (hf : ∀ q, free q → A0 q) (hAX : ∀ q, q < H.size → AX q → A0 q)
    (kx : ∀ (E : String) (ce : Cell) (q9 : Addr) (u : SX) (t : State) (H1 : Heap) (locs1 : List Loc), t.heap = H1 → s.vm.Alike t.vm → px u → BX E u t → H.size ≤ H1.size → (∀ q : Nat, q < H.size → ¬ AX q → H1[q]? = H[q]?) → va_S A0 H0 H1 locs1 → H1[q9]? = some ce → ce.vm = .none → s.vm.findClass E = some ce.cls → vx_W p l e R s m args below meth c H1 locs1 (cells + mc) (slots + ms) Q (F0 m pc ls rest) q9)
    (kk : ∀ (r : UInt64) (u : S) (t : State) (H1 : Heap) (locs1 : List Loc), t.heap = H1 → s.vm.Alike t.vm → post r u → B u t → H.size ≤ H1.size → (∀ q : Nat, q < H.size → ¬ A1 q → H1[q]? = H[q]?) → va_S A0 H0 H1 locs1 → W p l e R s m args below meth c H1 locs1 (cells + mc) (slots + ms) Q (F0 m (pc + 3) ls (.double r :: rest))) : W p l e R s m args below meth c H locs cells slots Q (F0 m pc ls st0) := by
  intro T hT X
  rcases hr T hT X with ⟨v, st₀, t, T', L, h0, X', hL, e1, e2, ⟨⟨r, u, hv, hp, hb⟩, hF⟩, st⟩ | ⟨q, st₀, t, T', L, E, ce, h0, X', hL, e1, e2, ⟨u, hp, hb, hF⟩, hce, hcv, hcl, st⟩
  · cases hv
    obtain ⟨k1, k2, k3⟩ := vx_keep h0 e1 hS hA hf hL hF
    obtain ⟨t2, a1, b1⟩ := kk r u t T'.heap (locs ++ L) e1.symm (by rw [← e2]; exact X'.warmed.alike) hp hb k1 k2 k3 T' rfl X'
    exact ⟨t2, st t2 a1, b1⟩
  · obtain ⟨k1, k2, k3⟩ := vx_keep h0 e1 hS hAX hf hL hF
    obtain ⟨t2, a1, b1⟩ := kx E ce q u t T'.heap (locs ++ L) e1.symm (by rw [← e2]; exact X'.warmed.alike) hp hb k1 k2 k3 (by rw [e1]; exact hce) hcv hcl T' rfl X'
    exact ⟨t2, st.trans a1, b1⟩
theorem vx_callv {S SX : Type} {post : S → Prop} {px : SX → Prop} {B : S → State → Prop} {BX : String → SX → State → Prop} {AX : Nat → Prop} (hr : vx_Run p l e R s m args below meth c H locs cells slots mc ms (F0 m pc ls st0) rest (va_Qv post B A1 a) (vx_X px BX AX) free) (hS : va_S A0 H0 H locs) (hA : ∀ q, q < H.size → A1 q → A0 q) (hf : ∀ q, free q → A0 q) (hAX : ∀ q, q < H.size → AX q → A0 q)
    (kx : ∀ (E : String) (ce : Cell) (q9 : Addr) (u : SX) (t : State) (H1 : Heap) (locs1 : List Loc), t.heap = H1 → s.vm.Alike t.vm → px u → BX E u t → H.size ≤ H1.size → (∀ q : Nat, q < H.size → ¬ AX q → H1[q]? = H[q]?) → va_S A0 H0 H1 locs1 → H1[q9]? = some ce → ce.vm = .none → s.vm.findClass E = some ce.cls → vx_W p l e R s m args below meth c H1 locs1 (cells + mc) (slots + ms) Q (F0 m pc ls rest) q9)
    (kk : ∀ (u : S) (t : State) (H1 : Heap) (locs1 : List Loc), t.heap = H1 → s.vm.Alike t.vm → post u → B u t → H.size ≤ H1.size → (∀ q : Nat, q < H.size → ¬ A1 q → H1[q]? = H[q]?) → va_S A0 H0 H1 locs1 → W p l e R s m args below meth c H1 locs1 (cells + mc) (slots + ms) Q (F0 m (pc + 3) ls (rest))) : W p l e R s m args below meth c H locs cells slots Q (F0 m pc ls st0) := by
  intro T hT X
  rcases hr T hT X with ⟨v, st₀, t, T', L, h0, X', hL, e1, e2, ⟨⟨u, hv, hp, hb⟩, hF⟩, st⟩ | ⟨q, st₀, t, T', L, E, ce, h0, X', hL, e1, e2, ⟨u, hp, hb, hF⟩, hce, hcv, hcl, st⟩
  · cases hv
    obtain ⟨k1, k2, k3⟩ := vx_keep h0 e1 hS hA hf hL hF
    obtain ⟨t2, a1, b1⟩ := kk u t T'.heap (locs ++ L) e1.symm (by rw [← e2]; exact X'.warmed.alike) hp hb k1 k2 k3 T' rfl X'
    exact ⟨t2, st t2 a1, b1⟩
  · obtain ⟨k1, k2, k3⟩ := vx_keep h0 e1 hS hAX hf hL hF
    obtain ⟨t2, a1, b1⟩ := kx E ce q u t T'.heap (locs ++ L) e1.symm (by rw [← e2]; exact X'.warmed.alike) hp hb k1 k2 k3 (by rw [e1]; exact hce) hcv hcl T' rfl X'
    exact ⟨t2, st.trans a1, b1⟩
/-- caught by the row x of this method's table; the rows ahead don't take it -/
theorem vx_catch {own name : String} {E : String} {ce : Cell} {q : Addr} (hown : s.vm.findClass own = some m.cls) (pre : List ExceptionTableEntry) (x : ExceptionTableEntry) (suf : List ExceptionTableEntry) (hsplit : c.exceptionTable.toList = pre ++ x :: suf)
    (hpass : ∀ z ∈ pre, covers z pc = false ∨ (z.catchType ≠ 0 ∧ ∃ nm : String, (Cond.classLink own z.catchType nm).before args s = true ∧ va_Nc E nm s)) (hx : covers x pc = true) (h0 : x.catchType ≠ 0)
    (hlink : (Cond.classLink own x.catchType name).before args s = true) (hcast : (Cond.castable E name).before args s = true) (hcell : H[q]? = some ce) (hv : ce.vm = .none) (hcl : s.vm.findClass E = some ce.cls)
    (kk : W p l e R s m args below meth c H locs cells slots Q (F0 m x.handlerPc ls [.ref q])) : vx_W p l e R s m args below meth c H locs cells slots Q (F0 m pc ls rest) q := by
  intro T hT X
  have hpl : e.platform.magicAccessors = ({} : Platform).magicAccessors := by rw [X.admits.platform]
  obtain ⟨c3, c4, hc3, hc4, hasg⟩ := Cond.castable_spec hcast
  cases Option.some.inj (hc3.symm.trans hcl)
  obtain ⟨c5, hc5, hcl5⟩ := Cond.classLink_spec hown hlink e.platform hpl
  cases Option.some.inj (hc4.symm.trans hc5)
  obtain ⟨vm', X', st⟩ := X.thenCaughtThrough q (g := F0 m pc ls rest) rfl (Steps.refl _) (by rw [hT]; exact hcell) (by rw [hv]; rfl) (by obtain ⟨k9, h9, -⟩ := Vm.findClass_spec hcl; exact ⟨k9, h9⟩) pre x suf hsplit
    (fun z hz => by
      rcases hpass z hz with h | ⟨hz0, nm, hl1, hn1⟩
      · exact Or.inl h
      · obtain ⟨c6, hc6, hcl6⟩ := Cond.classLink_spec hown hl1 e.platform hpl
        obtain ⟨a8, b8, h1, h2, h3⟩ := hn1
        cases Option.some.inj (h1.symm.trans hcl)
        cases Option.some.inj (h2.symm.trans hc6)
        exact Or.inr ⟨hz0, _, hcl6, h3⟩) hx (Or.inr ⟨h0, c4, hcl5, hasg⟩)
  obtain ⟨t, a1, b1⟩ := kk (T.setVm vm') hT X'
  exact ⟨t, st.trans a1, b1⟩
end Rows
section Ends
variable {p : Program} {l : Launch} {e : Env} {R : Room} {s : State} {m : MethodId} {args : Array Value} {below : List Frame} {meth : Method} {c : Code} {H : Heap} {locs : List Loc} {cells slots : Nat} {Q : State → Prop}
variable {mc ms : Nat} {free : Addr → Prop} {A0 A1 : Nat → Prop} {H0 : Heap} {a : Array Value} {ls : Array Slot} {st0 rest : List Value}
variable {Qc : Array Value → State → Outcome → State → Prop} {XC : String → State → State → Prop}
/-- what a body that may throw owes at its end -/
def vx_MQ (below : List Frame) (Qc : Array Value → State → Outcome → State → Prop) (XC : String → State → State → Prop) (a : Array Value) (s : State) (mc ms : Nat) (free : Addr → Prop) : State → Prop := fun t =>
  ∃ o, t.status = .running ∧ Ended t below o ∧ vx_Q Qc XC mc ms free a s o t
theorem vx_ret {g : JFrame} {mc ms : Nat} (k : W p l e R s m args below meth c H locs cells slots (MQ below Qc args s mc ms free) g) : W p l e R s m args below meth c H locs cells slots (vx_MQ below Qc XC args s mc ms free) g := by
  intro T hT X
  obtain ⟨t, a1, o, b1, b2, b3, b4⟩ := k T hT X
  exact ⟨t, a1, o, b1, b2, Or.inl ⟨b3, b4⟩⟩
/-- not caught here: it goes on to the caller -/
theorem vx_widen {g : JFrame} {q : Addr} {k n : Nat} (h1 : cells ≤ k) (h2 : slots ≤ n) (kk : vx_W p l e R s m args below meth c H locs k n Q g q) : vx_W p l e R s m args below meth c H locs cells slots Q g q := fun T hT X => kk T hT (stand_widen X h1 h2)
theorem vx_out {pc : Nat} {E : String} {ce : Cell} {q : Addr} {mc ms : Nat} (hout : ∀ x ∈ c.exceptionTable.toList, covers x pc = false) (hlocks : meth.locks = false) (hcell : H[q]? = some ce) (hv : ce.vm = .none) (hcl : s.vm.findClass E = some ce.cls)
    (hx : ∀ t : State, t.heap = H → s.vm.Alike t.vm → XC E s t) (hf : ∀ z ∈ locs, free z.base) (hc : cells ≤ mc) (hs : slots ≤ ms) :
    vx_W p l e R s m args below meth c H locs cells slots (vx_MQ below Qc XC args s mc ms free) (F0 m pc ls rest) q := by
  intro T hT X
  obtain ⟨st1, hrun, hend, hW, hsm⟩ := X.leaveThrown q (g := F0 m pc ls rest) rfl rfl rfl hout hlocks
  have hcell9 : (T.setFrames (.throwing q :: below)).heap[q]? = some ce := by
    show T.heap[q]? = some ce
    rw [hT]; exact hcell
  exact ⟨_, st1, .threw q, hrun, hend, Or.inr ⟨q, rfl, E, ce, locs, hx _ hT hW.alike, hcell9, hv, hcl, hW, hsm.mono hc hs, hf⟩⟩
theorem vx_frame {U : State} {k n : Nat} (h : s.sameButNew ({ U with vm := s.vm } : State) locs k n) : s.heap.size ≤ U.heap.size ∧ ∀ q : Nat, q < s.heap.size → (∀ z ∈ locs, z.base ≠ q) → U.heap[q]? = s.heap[q]? := by
  obtain ⟨-, h2, -, -, -, h6⟩ := h
  refine ⟨h2, fun q hq hz => ?_⟩
  obtain ⟨c9, e1, e2, e3, e4⟩ := h6 q _ (Array.getElem?_eq_getElem hq)
  have hs : c9.slots = (s.heap[q]).slots := Array.ext_getElem? fun i => e4 i fun hm => hz _ hm rfl
  have h9 : c9 = s.heap[q] := by
    rw [hs] at e2
    exact e2
  have e5 : U.heap[q]? = some c9 := e1
  rw [e5, h9, Array.getElem?_eq_getElem hq]
/-- the words of a throw but the four that speak of the heap -/
def vx_no (w : Cond) : Bool := decide (w ≠ .isRef (.static Bundle.tN "UNASSIGNED_STACK" Bundle.steD)) && decide (w ≠ .isRef (.static Bundle.tN "SUPPRESSED_SENTINEL" Bundle.listD)) && decide (w ≠ .laysStatic Bundle.tN "UNASSIGNED_STACK" Bundle.steD) && decide (w ≠ .laysStatic Bundle.tN "SUPPRESSED_SENTINEL" Bundle.listD)
def vx_at0 (own : String) (ic : Nat) (X : String) (names : List String) : List Cond := (Bundle.ownAtoms0 own ic X names).filter vx_no
def vx_atS (own : String) (ic : Nat) (X : String) (names : List String) : List Cond := (Bundle.ownAtoms own ic X names).filter vx_no
/-- a word that the tables alone decide, or a good one -/
def vx_ot (w : Cond) : Bool := w.onTables || goodWord w
theorem vx_ot_at {args a' : Array Value} {s U : State} {w : Cond} (hW : s.WarmedH U.vm) (hvm : s.vm = U.vm) (hg : vx_ot w = true) (h : w.before args s = true) : w.before a' U = true := by
  simp only [vx_ot, Bool.or_eq_true] at hg
  rcases hg with hg | hg
  · exact va_tabs hg hvm h
  · exact word_at hW (good_of_word hg) h
/-- a list's words: the good ones out of the method's own list, the others by premises of their own -/
theorem vx_hat {args : Array Value} {s : State} {L B : List Cond} (h1 : ∀ w ∈ L.filter goodWord, w.before args s = true) (h2 : ∀ w ∈ L.filter (fun w => !goodWord w), w ∈ B) (h3 : ∀ w ∈ B, w.before args s = true) : ∀ w ∈ L, w.before args s = true := by
  intro w hw
  by_cases g : goodWord w = true
  · exact h1 w (List.mem_filter.mpr ⟨hw, g⟩)
  · refine h3 w (h2 w (List.mem_filter.mpr ⟨hw, ?_⟩))
    show (!goodWord w) = true
    cases hgw : goodWord w
    · rfl
    · exact absurd hgw g
theorem vx_c {args : Array Value} {s : State} {w : Cond} {B : List Cond} (h : w.before args s = true) (t : ∀ w ∈ B, w.before args s = true) : ∀ w' ∈ w :: B, w'.before args s = true := fun w' h' => (List.mem_cons.mp h').elim (fun e => by rw [e]; exact h) (t w')
theorem vx_n {args : Array Value} {s : State} : ∀ w ∈ ([] : List Cond), w.before args s = true := fun _ h => nomatch h
theorem vx_own {args : Array Value} {s : State} {L : List Cond} (h1 : ∀ w ∈ L.filter vx_no, w.before args s = true)
    (hU : (Cond.isRef (.static Bundle.tN "UNASSIGNED_STACK" Bundle.steD)).before args s = true) (hN : (Cond.isRef (.static Bundle.tN "SUPPRESSED_SENTINEL" Bundle.listD)).before args s = true)
    (lU : (Cond.laysStatic Bundle.tN "UNASSIGNED_STACK" Bundle.steD).before args s = true) (lN : (Cond.laysStatic Bundle.tN "SUPPRESSED_SENTINEL" Bundle.listD).before args s = true) : ∀ w ∈ L, w.before args s = true := by
  intro w hw
  by_cases e1 : w = .isRef (.static Bundle.tN "UNASSIGNED_STACK" Bundle.steD)
  · rw [e1]; exact hU
  · by_cases e2 : w = .isRef (.static Bundle.tN "SUPPRESSED_SENTINEL" Bundle.listD)
    · rw [e2]; exact hN
    · by_cases e3 : w = .laysStatic Bundle.tN "UNASSIGNED_STACK" Bundle.steD
      · rw [e3]; exact lU
      · by_cases e4 : w = .laysStatic Bundle.tN "SUPPRESSED_SENTINEL" Bundle.listD
        · rw [e4]; exact lN
        · exact h1 w (List.mem_filter.mpr ⟨hw, by unfold vx_no; rw [decide_eq_true e1, decide_eq_true e2, decide_eq_true e3, decide_eq_true e4]; rfl⟩)
/-- where a static field lies, its class's statics cell in H -/
def vx_L (C n d : String) (A : Nat → Prop) (U : State) (H : Heap) : Prop := ∃ (c : ClassId) (k : Class) (i : Nat) (f : Field) (a : Nat) (cell : Cell), U.vm.findClass C = some c ∧ U.fieldFound? C n d = some (c, k, i, f) ∧ f.isStatic = true ∧ k.statics = some a ∧ H[a]? = some cell ∧ cell.vm.isStatics = true ∧ cell.cls = c ∧ f.slot < cell.slots.size ∧ k.staticTypes[f.slot]? = some f.type ∧ ¬ A a
theorem vx_L.moved {C n d : String} {A : Nat → Prop} {u U : State} {H : Heap} (hvm : u.vm.Alike U.vm) (h : vx_L C n d A u H) : vx_L C n d A U H := by
  obtain ⟨c, k, i, f, a, cell, h1, h2, h3, h4, h5, h6, h7, h8, h9, h10⟩ := h
  obtain ⟨k', hi', he⟩ := State.fieldFound?_setVm hvm h2
  exact ⟨c, k', i, f, a, cell, by rw [hvm.findClass]; exact h1, hi', h3, by rw [he]; exact h4, h5, h6, h7, h8, by rw [he]; exact h9, h10⟩
theorem vx_L.kept {C n d : String} {A : Nat → Prop} {U : State} {H H1 : Heap} (h : vx_L C n d A U H) (hq : ∀ a : Nat, a < H.size → ¬ A a → H1[a]? = H[a]?) : vx_L C n d A U H1 := by
  obtain ⟨c, k, i, f, a, cell, h1, h2, h3, h4, h5, h6, h7, h8, h9, h10⟩ := h
  exact ⟨c, k, i, f, a, cell, h1, h2, h3, h4, by rw [hq a (Array.getElem?_eq_some_iff.mp h5).1 h10]; exact h5, h6, h7, h8, h9, h10⟩
theorem vx_L.narrow {C n d : String} {A B : Nat → Prop} {U : State} {H : Heap} (h : vx_L C n d A U H) (hAB : ∀ q, B q → A q) : vx_L C n d B U H := by
  obtain ⟨c, k, i, f, a, cell, h1, h2, h3, h4, h5, h6, h7, h8, h9, h10⟩ := h
  exact ⟨c, k, i, f, a, cell, h1, h2, h3, h4, h5, h6, h7, h8, h9, fun z => h10 (hAB _ z)⟩
theorem vx_L.word {C n d : String} {A : Nat → Prop} {s : State} {args : Array Value} (h : vx_L C n d A s s.heap) : (Cond.laysStatic C n d).before args s = true := by
  obtain ⟨c, k, i, f, a, cell, h1, h2, h3, h4, h5, h6, h7, h8, h9, -⟩ := h
  show (Cond.laysStatic C n d).holds args s none s [] = true
  exact Cond.laysStatic_of h1 h2 h3 h4 h5 h6 h7 h8 h9
/-- .. and what it holds: null or some reference -/
def vx_Zq (C n d : String) (A : Nat → Prop) (U : State) (H : Heap) : Prop := va_Zq C n d A U H ∧ vx_L C n d A U H
theorem vx_Zq.moved {C n d : String} {A : Nat → Prop} {u U : State} {H : Heap} (hvm : u.vm.Alike U.vm) (h : vx_Zq C n d A u H) : vx_Zq C n d A U H := ⟨va_Zq.moved hvm h.1, vx_L.moved hvm h.2⟩
theorem vx_Zq.kept {C n d : String} {A : Nat → Prop} {U : State} {H H1 : Heap} (h : vx_Zq C n d A U H) (hq : ∀ a : Nat, a < H.size → ¬ A a → H1[a]? = H[a]?) : vx_Zq C n d A U H1 := ⟨va_Zq.kept h.1 hq, vx_L.kept h.2 hq⟩
theorem vx_Zq.narrow {C n d : String} {A B : Nat → Prop} {U : State} {H : Heap} (h : vx_Zq C n d A U H) (hAB : ∀ q, B q → A q) : vx_Zq C n d B U H := ⟨va_Zq.narrow h.1 hAB, vx_L.narrow h.2 hAB⟩
theorem vx_Zqof {args : Array Value} {s : State} {C n d : String} {A : Nat → Prop} (hl : (Cond.laysStatic C n d).before args s = true) (hini : (Cond.initialized C).before args s = true) (h : (Cond.isRef (.static C n d)).before args s = true) (hA : ∀ a : Nat, a < s.heap.size → ¬ A a) : vx_Zq C n d A s s.heap := by
  refine ⟨va_Zqof hl hini h hA, ?_⟩
  obtain ⟨c, k, i, f, a, cell, h1, h2, h3, h4, h5, h6, h7, h8, h9⟩ := Cond.laysStatic_spec hl
  exact ⟨c, k, i, f, a, cell, h1, h2, h3, h4, h5, h6, h7, h8, h9, hA a (Array.getElem?_eq_some_iff.mp h5).1⟩
theorem vx_isRef {C n d : String} {v : Value} {A : Nat → Prop} {s : State} {args : Array Value} (h : va_Z C n d v A s s.heap) (hv : v.isRef = true) : (Cond.isRef (.static C n d)).before args s = true := by
  obtain ⟨cf, kf, fi, f, a, cell, h1, h2, h3, h4, h5, h6, h7, -⟩ := h
  have he : (Term.static C n d).eval args s none [] s = some v := by
    simp [Term.eval, State.fieldNamed?, h1, h2, h4, h5, h6, h7]
  simp only [Cond.before, Cond.holds, Cond.value, he]
  cases v <;> simp_all [Value.isRef]
theorem vx_isRefq {C n d : String} {A : Nat → Prop} {s : State} {args : Array Value} (h : va_Zq C n d A s s.heap) : (Cond.isRef (.static C n d)).before args s = true := by
  rcases h with h | ⟨t, h⟩
  · exact vx_isRef h rfl
  · exact vx_isRef h rfl
/-- the same frame, seen from here: as if the method were called anew in this heap -/
theorem vx_rebase {T : State} (X : Stand p l e R s m args below meth c T locs cells slots) {R' : Room} (hf : R'.frames ≤ R.frames) (hl : R'.locals ≤ R.locals) (hc : cells + R'.cells ≤ R.cells) (hs : slots + R'.slots ≤ R.slots) :
    Stand p l e R' ((T.setVm s.vm).setFrames (.invoking m args :: below)) m args below meth c T [] 0 0 := by
  have htop : (T.setVm s.vm).topJava?.isSome := X.here.top
  have hF : ((T.setVm s.vm).setFrames (.invoking m args :: below)).frames = .invoking m args :: below := State.frames_setFrames _ (State.cur_lt_of_top htop)
  obtain ⟨g₀, hg0⟩ := Option.isSome_iff_exists.mp htop
  obtain ⟨r, hr⟩ := State.topJava?_eq_some.mp hg0
  have hl9 : e.platform.stackLimits (T.setVm s.vm).me = e.platform.stackLimits s.me := X.limits
  have hb9 : (T.setVm s.vm).me.stackBytes = s.me.stackBytes := X.bytes
  refine ⟨X.admits, X.cas, X.clock, hF, ?_, X.hears, X.method, X.code, X.here, X.tail, X.warmed, ?_, ?_, ?_⟩
  · have h := X.room
    have hU : ((T.setVm s.vm).setFrames (.invoking m args :: below)).localsInUse = s.localsInUse := by
      rw [State.localsInUse_invoking hF (meth := meth) (c := c) X.method X.code, State.localsInUse_invoking X.frames X.method X.code]
    simp only [State.hasRoom, Bool.and_eq_true, decide_eq_true_eq] at h ⊢
    obtain ⟨⟨⟨⟨h1, h2, h3, h4, h5, h6⟩, h7⟩, h8⟩, h9⟩ := h
    rw [X.frames, List.length_cons] at h2 h3
    have q1 := X.heapSize
    have q2 := X.used
    simp only [hF, hU, List.length_cons, State.stackLimits_setFrames, State.stackBytes_setFrames, hl9, hb9]
    refine ⟨⟨⟨⟨by omega, by omega, by omega, by omega, by omega, h6⟩, ?_⟩, ?_⟩, X.book⟩
    · show T.heap.size + R'.cells ≤ e.platform.maxCells
      omega
    · show T.slotsUsed + R'.slots ≤ e.platform.maxSlots
      omega
  · rw [State.stackLimits_setFrames]; rfl
  · rw [State.stackBytes_setFrames]; rfl
  · refine ⟨?_, Nat.le_refl _, Nat.le_refl _, ?_, ?_, fun a c9 h9 => ⟨c9, h9, rfl, rfl, fun _ _ => rfl⟩⟩
    · obtain ⟨t, ht, -⟩ := State.frames_cons hr
      show T.setVm s.vm = { ((T.setVm s.vm).setFrames (.invoking m args :: below)).setFrames (T.setVm s.vm).frames with heap := T.heap, slotsUsed := T.slotsUsed }
      rw [State.setFrames_setFrames, State.setFrames_self ht]
      rfl
    · show T.slotsUsed = T.slotsUsed + ((T.heap.toList.drop T.heap.size).map (·.slots.size)).sum
      rw [List.drop_eq_nil_of_le (Nat.le_of_eq Array.length_toList)]
      rfl
    · show ((T.heap.toList.drop T.heap.size).map (·.slots.size)).sum ≤ 0
      rw [List.drop_eq_nil_of_le (Nat.le_of_eq Array.length_toList)]
      exact Nat.le_refl _
/-- 'throw new E()': new; dup; invokespecial; athrow -/
theorem vx_throw0 {cc : ByteArray} {pc : Nat} (hexec : p.tables.exec = Jvm.exec) (hb : c.code = cc) (hl : l.stackTraces = false) {own cls : String} {names : List String} {ik ic mc ms : Nat} {A : Nat → Prop}
    (hown : s.vm.findClass own = some m.cls) (hcls : Bundle.fit cls = true) (hnames : ∀ n ∈ names, Bundle.fit n = true)
    (hk : (Cond.classLink own ik cls).before args s = true) (hini : (Cond.initialized cls).before args s = true) (hat : ∀ w ∈ vx_at0 own ic cls names, w.before args s = true)
    (hgood : ∀ w ∈ Cond.classLink own ik cls :: Cond.initialized cls :: vx_at0 own ic cls names, vx_ot w = true)
    (hU : vx_Zq Bundle.tN "UNASSIGNED_STACK" Bundle.steD A s s.heap) (hN : vx_Zq Bundle.tN "SUPPRESSED_SENTINEL" Bundle.listD A s s.heap) (hS : va_S A s.heap H locs) (hsize : ls.size = c.maxLocals)
    (d0 : decode cc pc = .ok (.new ik, 3)) (d3 : decode cc (pc + 3) = .ok (.dup, 1)) (d4 : decode cc (pc + 4) = .ok (.invokespecial ic, 3)) (d7 : decode cc (pc + 7) = .ok (.athrow, 1))
    (hout : ∀ x ∈ c.exceptionTable.toList, covers x (pc + 7) = false)
    (hRframes : names.length + 3 < R.frames) (hRlocals : (rest.map fun v => v.category).sum + (13 * (names.length + 1) + 42) ≤ R.locals) (hRcells : cells + 1 ≤ R.cells) (hRslots : slots + 6 ≤ R.slots) (hlocks : meth.locks = false)
    (hx : ∀ t : State, s.vm.Alike t.vm → H.size ≤ t.heap.size → (∀ q : Nat, q < H.size → t.heap[q]? = H[q]?) → XC cls s t)
    (hf : ∀ z ∈ locs, free z.base) (hc : cells + 1 ≤ mc) (hs : slots + 6 ≤ ms) :
    W p l e R s m args below meth c H locs cells slots (vx_MQ below Qc XC args s mc ms free) (F0 m pc ls rest) := by
  intro T hT X
  have htr : e.platform.stackTraces = false := (show e.platform.stackTraces = l.stackTraces by rw [X.admits.platform]).trans hl
  have Y := vx_rebase X (R' := { frames := R.frames, locals := R.locals, cells := 1, slots := 6 }) (Nat.le_refl _) (Nat.le_refl _) hRcells hRslots
  obtain ⟨s', hA⟩ : ∃ z, z = (T.setVm s.vm).setFrames (.invoking m args :: below) := ⟨_, rfl⟩
  rw [← hA] at Y
  have hvm : s'.vm = s.vm := by rw [hA]; rfl
  have hhp : s'.heap = H := by rw [hA]; exact hT
  have hW0 : s.WarmedH s'.vm := by rw [hvm]; exact State.WarmedH.refl s
  have hat' : ∀ w ∈ vx_at0 own ic cls names, w.before args s' = true := fun w hw => vx_ot_at hW0 hvm.symm (hgood w (List.mem_cons_of_mem _ (List.mem_cons_of_mem _ hw))) (hat w hw)
  have hk' : (Cond.classLink own ik cls).before args s' = true := vx_ot_at hW0 hvm.symm (hgood _ List.mem_cons_self) hk
  have hini' : (Cond.initialized cls).before args s' = true := vx_ot_at hW0 hvm.symm (hgood _ (List.mem_cons_of_mem _ List.mem_cons_self)) hini
  have hU' : vx_Zq Bundle.tN "UNASSIGNED_STACK" Bundle.steD A s' s'.heap := by rw [hhp]; exact vx_Zq.moved hW0.alike (hU.kept hS.2.1)
  have hN' : vx_Zq Bundle.tN "SUPPRESSED_SENTINEL" Bundle.listD A s' s'.heap := by rw [hhp]; exact vx_Zq.moved hW0.alike (hN.kept hS.2.1)
  have h : ∀ w ∈ Bundle.ownAtoms0 own ic cls names, w.before args s' = true := vx_own hat' (vx_isRefq hU'.1) (vx_isRefq hN'.1) hU'.2.word hN'.2.word
  have hown' : s'.vm.findClass own = some m.cls := by rw [hvm]; exact hown
  have hins : (Cond.instantiable cls 6).before args s' = true := h _ (by simp [Bundle.ownAtoms0])
  obtain ⟨vm₁, cX, kX, hfX, hkX, -, -, X₁, st1⟩ := Y.newCold hexec (own := own) (C := cls) (index := ik) (n := 6) hown' hk' hins hini'
    (g := F0 m pc ls rest) rfl (by rw [hb]; exact d0) (Nat.le_refl _) (Nat.le_refl _)
  generalize hT1 : (T.setVm vm₁).pushCell { cls := cX, slots := kX.instanceTypes.map defaultValue, vm := .none } = T1 at X₁ st1
  have hcat : (Value.ref T.heap.size).category = 1 := rfl
  have hcellA : T1.heap[T.heap.size]? = some (freshCell cX kX) := by rw [← hT1]; exact State.heap_pushCell_size _ _
  have d3' : decode c.code (pc + 3) = .ok (.dup, 1) := by rw [hb]; exact d3
  obtain ⟨U, hsteps, hrun, hend, hW, hsame, ce, hce, hO⟩ := X₁.ctorThrow0 hexec htr (own := own) (cls := cls) (names := names) (ic := ic) hown' hcls hnames h (fun x hx => nomatch hx) hfX hkX hcellA (by rw [hhp, hT]; exact Nat.le_refl _)
    (g := { method := m, pc := pc + 4, locals := ls, stack := .ref T.heap.size :: .ref T.heap.size :: rest, locked := none }) rfl hsize rfl rfl (rest := rest) rfl
    (by rw [hb]; exact d4) (by rw [hb]; exact d7) hout hRframes (by simp only [List.map_cons, List.sum_cons, hcat]; omega) hlocks
  obtain ⟨f1, f2⟩ := vx_frame hsame
  rw [hhp] at f1 f2
  have hWs : s.WarmedH U.vm := State.WarmedH.trans hW0 hW
  have hcl : s.vm.findClass cls = some ce.cls := by
    have h9 := hO.cls
    rw [hvm] at h9
    exact h9
  have hall : s.sameButNew ({ U with vm := s.vm } : State) locs mc ms := by
    subst hA
    obtain ⟨e1, e2⟩ := hsame
    rw [State.setFrames_setFrames] at e1
    have h2 : (T.setVm s.vm).sameButNew ({ U with vm := s.vm } : State) [] (0 + 1) (0 + 6) := ⟨e1, e2⟩
    have h3 := X.same.trans h2
    rw [List.append_nil] at h3
    exact h3.mono hc hs
  refine ⟨U, ?_, .threw T.heap.size, hrun, hend, Or.inr ⟨T.heap.size, rfl, cls, ce, locs, hx U hWs.alike f1 (fun q hq => f2 q hq (fun z hz => nomatch hz)), hce, hO.vm, hcl, hWs, hall, hf⟩⟩
  refine st1 _ ?_
  show Steps p.tables e below (T1.setTop { method := m, pc := pc + 3, locals := ls, stack := .ref T.heap.size :: rest, locked := none }) _
  jvm_step X₁.here [X₁.here.top, hexec, d3', Value.category]
  exact hsteps
/-- 'throw new E("text")': new; dup; ldc; invokespecial; athrow -/
theorem vx_throwS {cc : ByteArray} {pc : Nat} (hexec : p.tables.exec = Jvm.exec) (hb : c.code = cc) (hl : l.stackTraces = false) {own cls text : String} {names : List String} {ik is ic mc ms sa : Nat} {A : Nat → Prop}
    (hown : s.vm.findClass own = some m.cls) (hcls : Bundle.fit cls = true) (hnames : ∀ n ∈ names, Bundle.fit n = true)
    (hk : (Cond.classLink own ik cls).before args s = true) (hini : (Cond.initialized cls).before args s = true) (hstr : vk_R own is text sa s) (hat : ∀ w ∈ vx_atS own ic cls names, w.before args s = true)
    (hgood : ∀ w ∈ Cond.classLink own ik cls :: Cond.initialized cls :: vx_atS own ic cls names, vx_ot w = true)
    (hU : vx_Zq Bundle.tN "UNASSIGNED_STACK" Bundle.steD A s s.heap) (hN : vx_Zq Bundle.tN "SUPPRESSED_SENTINEL" Bundle.listD A s s.heap) (hS : va_S A s.heap H locs) (hsize : ls.size = c.maxLocals)
    (d0 : decode cc pc = .ok (.new ik, 3)) (d3 : decode cc (pc + 3) = .ok (.dup, 1)) (d4 : decode cc (pc + 4) = .ok (.ldc is, 2)) (d6 : decode cc (pc + 6) = .ok (.invokespecial ic, 3)) (d9 : decode cc (pc + 9) = .ok (.athrow, 1))
    (hout : ∀ x ∈ c.exceptionTable.toList, covers x (pc + 9) = false)
    (hRframes : names.length + 3 < R.frames) (hRlocals : (rest.map fun v => v.category).sum + (13 * (names.length + 1) + 43) ≤ R.locals) (hRcells : cells + 1 ≤ R.cells) (hRslots : slots + 6 ≤ R.slots) (hlocks : meth.locks = false)
    (hx : ∀ t : State, s.vm.Alike t.vm → H.size ≤ t.heap.size → (∀ q : Nat, q < H.size → t.heap[q]? = H[q]?) → XC cls s t)
    (hf : ∀ z ∈ locs, free z.base) (hc : cells + 1 ≤ mc) (hs : slots + 6 ≤ ms) :
    W p l e R s m args below meth c H locs cells slots (vx_MQ below Qc XC args s mc ms free) (F0 m pc ls rest) := by
  intro T hT X
  have htr : e.platform.stackTraces = false := (show e.platform.stackTraces = l.stackTraces by rw [X.admits.platform]).trans hl
  have Y := vx_rebase X (R' := { frames := R.frames, locals := R.locals, cells := 1, slots := 6 }) (Nat.le_refl _) (Nat.le_refl _) hRcells hRslots
  obtain ⟨s', hA⟩ : ∃ z, z = (T.setVm s.vm).setFrames (.invoking m args :: below) := ⟨_, rfl⟩
  rw [← hA] at Y
  have hvm : s'.vm = s.vm := by rw [hA]; rfl
  have hhp : s'.heap = H := by rw [hA]; exact hT
  have hW0 : s.WarmedH s'.vm := by rw [hvm]; exact State.WarmedH.refl s
  have hat' : ∀ w ∈ vx_atS own ic cls names, w.before args s' = true := fun w hw => vx_ot_at hW0 hvm.symm (hgood w (List.mem_cons_of_mem _ (List.mem_cons_of_mem _ hw))) (hat w hw)
  have hk' : (Cond.classLink own ik cls).before args s' = true := vx_ot_at hW0 hvm.symm (hgood _ List.mem_cons_self) hk
  have hini' : (Cond.initialized cls).before args s' = true := vx_ot_at hW0 hvm.symm (hgood _ (List.mem_cons_of_mem _ List.mem_cons_self)) hini
  have hU' : vx_Zq Bundle.tN "UNASSIGNED_STACK" Bundle.steD A s' s'.heap := by rw [hhp]; exact vx_Zq.moved hW0.alike (hU.kept hS.2.1)
  have hN' : vx_Zq Bundle.tN "SUPPRESSED_SENTINEL" Bundle.listD A s' s'.heap := by rw [hhp]; exact vx_Zq.moved hW0.alike (hN.kept hS.2.1)
  have h : ∀ w ∈ Bundle.ownAtoms own ic cls names, w.before args s' = true := vx_own hat' (vx_isRefq hU'.1) (vx_isRefq hN'.1) hU'.2.word hN'.2.word
  have hown' : s'.vm.findClass own = some m.cls := by rw [hvm]; exact hown
  have hins : (Cond.instantiable cls 6).before args s' = true := h _ (by simp [Bundle.ownAtoms])
  obtain ⟨vm₁, cX, kX, hfX, hkX, -, -, X₁, st1⟩ := Y.newCold hexec (own := own) (C := cls) (index := ik) (n := 6) hown' hk' hins hini'
    (g := F0 m pc ls rest) rfl (by rw [hb]; exact d0) (Nat.le_refl _) (Nat.le_refl _)
  generalize hT1 : (T.setVm vm₁).pushCell { cls := cX, slots := kX.instanceTypes.map defaultValue, vm := .none } = T1 at X₁ st1
  have hcat : (Value.ref T.heap.size).category = 1 := rfl
  have hcellA : T1.heap[T.heap.size]? = some (freshCell cX kX) := by rw [← hT1]; exact State.heap_pushCell_size _ _
  have d3' : decode c.code (pc + 3) = .ok (.dup, 1) := by rw [hb]; exact d3
  have d4' : decode c.code (pc + 4) = .ok (.ldc is, 2) := by rw [hb]; exact d4
  have hstr' : vk_R own is text sa s' := vk_R.warm hW0 hstr
  obtain ⟨U, hsteps, hrun, hend, hW, hsame, ce, hce, hO⟩ := X₁.ctorThrowS hexec htr (own := own) (cls := cls) (names := names) (ic := ic) hown' hcls hnames h (fun x hx => nomatch hx) hfX hkX hcellA (by rw [hhp, hT]; exact Nat.le_refl _) (msg := .ref sa) rfl
    (g := { method := m, pc := pc + 6, locals := ls, stack := .ref sa :: .ref T.heap.size :: .ref T.heap.size :: rest, locked := none }) rfl hsize rfl rfl (rest := rest) rfl
    (by rw [hb]; exact d6) (by rw [hb]; exact d9) hout hRframes (by simp only [List.map_cons, List.sum_cons, hcat]; omega) hlocks
  obtain ⟨f1, f2⟩ := vx_frame hsame
  rw [hhp] at f1 f2
  have hWs : s.WarmedH U.vm := State.WarmedH.trans hW0 hW
  have hcl : s.vm.findClass cls = some ce.cls := by
    have h9 := hO.cls
    rw [hvm] at h9
    exact h9
  have hall : s.sameButNew ({ U with vm := s.vm } : State) locs mc ms := by
    subst hA
    obtain ⟨e1, e2⟩ := hsame
    rw [State.setFrames_setFrames] at e1
    have h2 : (T.setVm s.vm).sameButNew ({ U with vm := s.vm } : State) [] (0 + 1) (0 + 6) := ⟨e1, e2⟩
    have h3 := X.same.trans h2
    rw [List.append_nil] at h3
    exact h3.mono hc hs
  refine ⟨U, ?_, .threw T.heap.size, hrun, hend, Or.inr ⟨T.heap.size, rfl, cls, ce, locs, hx U hWs.alike f1 (fun q hq => f2 q hq (fun z hz => nomatch hz)), hce, hO.vm, hcl, hWs, hall, hf⟩⟩
  refine st1 _ ?_
  show Steps p.tables e below (T1.setTop { method := m, pc := pc + 3, locals := ls, stack := .ref T.heap.size :: rest, locked := none }) _
  jvm_step X₁.here [X₁.here.top, hexec, d3', Value.category]
  exact X₁.ldcString hexec (own := own) (text := text) (index := is) (a := sa) hown' hstr'.1 hstr'.2
    (g := { method := m, pc := pc + 4, locals := ls, stack := .ref T.heap.size :: .ref T.heap.size :: rest, locked := none }) rfl d4' _ hsteps
/-- 'throw new E("text")', the text by a wide index -/
theorem vx_throwSW {cc : ByteArray} {pc : Nat} (hexec : p.tables.exec = Jvm.exec) (hb : c.code = cc) (hl : l.stackTraces = false) {own cls text : String} {names : List String} {ik is ic mc ms sa : Nat} {A : Nat → Prop}
    (hown : s.vm.findClass own = some m.cls) (hcls : Bundle.fit cls = true) (hnames : ∀ n ∈ names, Bundle.fit n = true)
    (hk : (Cond.classLink own ik cls).before args s = true) (hini : (Cond.initialized cls).before args s = true) (hstr : vk_R own is text sa s) (hat : ∀ w ∈ vx_atS own ic cls names, w.before args s = true)
    (hgood : ∀ w ∈ Cond.classLink own ik cls :: Cond.initialized cls :: vx_atS own ic cls names, vx_ot w = true)
    (hU : vx_Zq Bundle.tN "UNASSIGNED_STACK" Bundle.steD A s s.heap) (hN : vx_Zq Bundle.tN "SUPPRESSED_SENTINEL" Bundle.listD A s s.heap) (hS : va_S A s.heap H locs) (hsize : ls.size = c.maxLocals)
    (d0 : decode cc pc = .ok (.new ik, 3)) (d3 : decode cc (pc + 3) = .ok (.dup, 1)) (d4 : decode cc (pc + 4) = .ok (.ldc_w is, 3)) (d7 : decode cc (pc + 7) = .ok (.invokespecial ic, 3)) (d10 : decode cc (pc + 10) = .ok (.athrow, 1))
    (hout : ∀ x ∈ c.exceptionTable.toList, covers x (pc + 10) = false)
    (hRframes : names.length + 3 < R.frames) (hRlocals : (rest.map fun v => v.category).sum + (13 * (names.length + 1) + 43) ≤ R.locals) (hRcells : cells + 1 ≤ R.cells) (hRslots : slots + 6 ≤ R.slots) (hlocks : meth.locks = false)
    (hx : ∀ t : State, s.vm.Alike t.vm → H.size ≤ t.heap.size → (∀ q : Nat, q < H.size → t.heap[q]? = H[q]?) → XC cls s t)
    (hf : ∀ z ∈ locs, free z.base) (hc : cells + 1 ≤ mc) (hs : slots + 6 ≤ ms) :
    W p l e R s m args below meth c H locs cells slots (vx_MQ below Qc XC args s mc ms free) (F0 m pc ls rest) := by
  intro T hT X
  have htr : e.platform.stackTraces = false := (show e.platform.stackTraces = l.stackTraces by rw [X.admits.platform]).trans hl
  have Y := vx_rebase X (R' := { frames := R.frames, locals := R.locals, cells := 1, slots := 6 }) (Nat.le_refl _) (Nat.le_refl _) hRcells hRslots
  obtain ⟨s', hA⟩ : ∃ z, z = (T.setVm s.vm).setFrames (.invoking m args :: below) := ⟨_, rfl⟩
  rw [← hA] at Y
  have hvm : s'.vm = s.vm := by rw [hA]; rfl
  have hhp : s'.heap = H := by rw [hA]; exact hT
  have hW0 : s.WarmedH s'.vm := by rw [hvm]; exact State.WarmedH.refl s
  have hat' : ∀ w ∈ vx_atS own ic cls names, w.before args s' = true := fun w hw => vx_ot_at hW0 hvm.symm (hgood w (List.mem_cons_of_mem _ (List.mem_cons_of_mem _ hw))) (hat w hw)
  have hk' : (Cond.classLink own ik cls).before args s' = true := vx_ot_at hW0 hvm.symm (hgood _ List.mem_cons_self) hk
  have hini' : (Cond.initialized cls).before args s' = true := vx_ot_at hW0 hvm.symm (hgood _ (List.mem_cons_of_mem _ List.mem_cons_self)) hini
  have hU' : vx_Zq Bundle.tN "UNASSIGNED_STACK" Bundle.steD A s' s'.heap := by rw [hhp]; exact vx_Zq.moved hW0.alike (hU.kept hS.2.1)
  have hN' : vx_Zq Bundle.tN "SUPPRESSED_SENTINEL" Bundle.listD A s' s'.heap := by rw [hhp]; exact vx_Zq.moved hW0.alike (hN.kept hS.2.1)
  have h : ∀ w ∈ Bundle.ownAtoms own ic cls names, w.before args s' = true := vx_own hat' (vx_isRefq hU'.1) (vx_isRefq hN'.1) hU'.2.word hN'.2.word
  have hown' : s'.vm.findClass own = some m.cls := by rw [hvm]; exact hown
  have hins : (Cond.instantiable cls 6).before args s' = true := h _ (by simp [Bundle.ownAtoms])
  obtain ⟨vm₁, cX, kX, hfX, hkX, -, -, X₁, st1⟩ := Y.newCold hexec (own := own) (C := cls) (index := ik) (n := 6) hown' hk' hins hini'
    (g := F0 m pc ls rest) rfl (by rw [hb]; exact d0) (Nat.le_refl _) (Nat.le_refl _)
  generalize hT1 : (T.setVm vm₁).pushCell { cls := cX, slots := kX.instanceTypes.map defaultValue, vm := .none } = T1 at X₁ st1
  have hcat : (Value.ref T.heap.size).category = 1 := rfl
  have hcellA : T1.heap[T.heap.size]? = some (freshCell cX kX) := by rw [← hT1]; exact State.heap_pushCell_size _ _
  have d3' : decode c.code (pc + 3) = .ok (.dup, 1) := by rw [hb]; exact d3
  have d4' : decode c.code (pc + 4) = .ok (.ldc_w is, 3) := by rw [hb]; exact d4
  have hstr' : vk_R own is text sa s' := vk_R.warm hW0 hstr
  obtain ⟨U, hsteps, hrun, hend, hW, hsame, ce, hce, hO⟩ := X₁.ctorThrowS hexec htr (own := own) (cls := cls) (names := names) (ic := ic) hown' hcls hnames h (fun x hx => nomatch hx) hfX hkX hcellA (by rw [hhp, hT]; exact Nat.le_refl _) (msg := .ref sa) rfl
    (g := { method := m, pc := pc + 7, locals := ls, stack := .ref sa :: .ref T.heap.size :: .ref T.heap.size :: rest, locked := none }) rfl hsize rfl rfl (rest := rest) rfl
    (by rw [hb]; exact d7) (by rw [hb]; exact d10) hout hRframes (by simp only [List.map_cons, List.sum_cons, hcat]; omega) hlocks
  obtain ⟨f1, f2⟩ := vx_frame hsame
  rw [hhp] at f1 f2
  have hWs : s.WarmedH U.vm := State.WarmedH.trans hW0 hW
  have hcl : s.vm.findClass cls = some ce.cls := by
    have h9 := hO.cls
    rw [hvm] at h9
    exact h9
  have hall : s.sameButNew ({ U with vm := s.vm } : State) locs mc ms := by
    subst hA
    obtain ⟨e1, e2⟩ := hsame
    rw [State.setFrames_setFrames] at e1
    have h2 : (T.setVm s.vm).sameButNew ({ U with vm := s.vm } : State) [] (0 + 1) (0 + 6) := ⟨e1, e2⟩
    have h3 := X.same.trans h2
    rw [List.append_nil] at h3
    exact h3.mono hc hs
  refine ⟨U, ?_, .threw T.heap.size, hrun, hend, Or.inr ⟨T.heap.size, rfl, cls, ce, locs, hx U hWs.alike f1 (fun q hq => f2 q hq (fun z hz => nomatch hz)), hce, hO.vm, hcl, hWs, hall, hf⟩⟩
  refine st1 _ ?_
  show Steps p.tables e below (T1.setTop { method := m, pc := pc + 3, locals := ls, stack := .ref T.heap.size :: rest, locked := none }) _
  jvm_step X₁.here [X₁.here.top, hexec, d3', Value.category]
  exact X₁.ldcStringW hexec (own := own) (text := text) (index := is) (a := sa) hown' hstr'.1 hstr'.2
    (g := { method := m, pc := pc + 4, locals := ls, stack := .ref T.heap.size :: .ref T.heap.size :: rest, locked := none }) rfl d4' _ hsteps
end Ends
section Bodies
variable {l : Launch}
theorem vx_ofW {y : MethodName} {ws ws' : List Cond} {rm : Room} {Pc : Array Value → State → Prop} {Qc : Array Value → State → Outcome → State → Prop} {XC : String → State → State → Prop} {mc ms : Nat} {free : Addr → Prop} {cc : ByteArray} {maxL : Nat} {ret : Option FieldType}
    (hy : plainName y.cls = true) (hw : ws = Cond.code y cc maxL ret :: ws')
    (body : ∀ p e s m args below meth c s₁, BodyLoose p l y (headSpec ws rm) cc maxL ret e s m args below meth c s₁ → c.maxLocals = maxL → (∀ x ∈ c.exceptionTable.toList, False) → Pc args s →
      W p l e (headSpec ws rm).room s m args below meth c s.heap [] 0 0 (vx_MQ below Qc XC args s mc ms free) (entryFrame m args maxL)) : vx_Met l y ws rm Pc Qc XC mc ms free := by
  refine MetFree.of_bodyS (code := cc) (maxLocals := maxL) (ret := ret) hy ?_ ?_
  · intro args s m h hn
    obtain ⟨meth, c, h1, h2, h3, h4, h5, h6, -, -⟩ := Cond.code_spec hn (atoms_spec (ws := ws) h _ (by rw [hw]; exact List.mem_cons_self))
    exact ⟨meth, c, h1, h2, h3, h4, h5, h6⟩
  · intro p e s m args below meth c s₁ B hml hP _
    have hh0 : s₁.heap = s.heap := by rw [B.state]; rfl
    have ht : ∀ x ∈ c.exceptionTable.toList, False := by
      obtain ⟨meth9, c9, h1, h2, -, -, -, -, h7, -⟩ := Cond.code_spec B.named (atoms_spec (ws := ws) B.pre _ (by rw [hw]; exact List.mem_cons_self))
      cases Option.some.inj (h1.symm.trans B.method)
      cases Option.some.inj (h2.symm.trans (Stand.of_body B).code)
      intro x hx
      rw [Array.isEmpty_iff.mp h7] at hx
      cases hx
    obtain ⟨t, a1, o, b1, b2, b3⟩ := body p e s m args below meth c s₁ B hml ht hP s₁ hh0 (Stand.of_body B)
    exact ⟨t, o, a1, b1, b2, b3⟩
/-- the table of a body with handlers -/
theorem vx_table {p : Program} {x y : MethodName} {S : Spec} {cc bytes : ByteArray} {maxL maxL' : Nat} {ret ret' : Option FieldType} {e : Env} {s s₁ : State} {m : MethodId} {args : Array Value} {below : List Frame} {meth : Method} {c : Code} {hh : List (Nat × Nat × Nat × Nat)}
    (B : BodyLoose p l y S cc maxL ret e s m args below meth c s₁) (h : (Cond.codeWith y bytes maxL' ret' hh).before args s = true) : c.exceptionTable.toList = tableOf hh := by
  obtain ⟨m9, meth9, c9, hn9, h1, h2, -, -, h6, -⟩ := Cond.codeWith_spec h
  cases Option.some.inj (hn9.symm.trans B.named)
  cases Option.some.inj (h1.symm.trans B.method)
  cases Option.some.inj (h2.symm.trans (Stand.of_body B).code)
  rw [← h6, table_eq]
end Bodies
end VXA
/-! ===== END ===== -/
/-! ===== BEGIN a static call of a method with an exception table ===== -/
section VXS
variable {p : Program} {l : Launch} {e : Env} {R : Room} {s : State} {m : MethodId} {args : Array Value} {below : List Frame} {meth : Method} {c : Code} {T : State} {H : Heap} {locs : List Loc} {cells slots : Nat}
abbrev vx_CSW (R : Room) (s : State) (args : Array Value) (own : String) (index : Nat) (y : MethodName) (bytes : ByteArray) (maxL : Nat) (ret : Option FieldType) (hh : List (Nat × Nat × Nat × Nat)) (ws : List Cond) (rm : Room) (mc ms n : Nat) : Prop :=
  (rm.cells = mc ∧ rm.slots = ms ∧ rm.frames + 1 ≤ R.frames ∧ 8 + (maxL + 11) + rm.locals ≤ R.locals ∧ (∀ w ∈ ws, ∀ (a' : Array Value) (U : State), s.WarmedH U.vm → w.before a' U = true) ∧ Cond.codeWith y bytes maxL ret hh ∈ ws) ∧
  (Cond.codeWith y bytes maxL ret hh).before args s = true ∧ (Cond.initialized y.cls).before args s = true ∧ (y.cls ≠ "java/lang/invoke/MethodHandle" ∧ y.cls ≠ "java/lang/invoke/VarHandle") ∧
  (∀ sig, parseMethodDescriptor y.desc = some sig → n = sig.parameters.length) ∧ (Cond.methodLink own index y).before args s = true ∧ (Cond.static y).before args s = true
theorem vx_cwSW {own : String} {index maxL mc ms : Nat} {y : MethodName} {bytes : ByteArray} {ret : Option FieldType} {hh : List (Nat × Nat × Nat × Nat)} {Ts ws ws' : List Cond} {rm : Room} (n : Nat) (ht : ∀ w ∈ Ts, w.before args s = true) (hT : GoodIn Ts (va_wsS own index y ws)) (hw : ws = Cond.codeWith y bytes maxL ret hh :: ws') (hrc : rm.cells = mc) (hrs : rm.slots = ms)
    (hd : y.cls ≠ "java/lang/invoke/MethodHandle" ∧ y.cls ≠ "java/lang/invoke/VarHandle" ∧ (parseMethodDescriptor y.desc).map (fun d => d.parameters.length) = some n) (hR : rm.frames + 1 ≤ R.frames ∧ 8 + (maxL + 11) + rm.locals ≤ R.locals) :
    vx_CSW R s args own index y bytes maxL ret hh ws rm mc ms n := by
  have ok : ∀ w ∈ va_wsS own index y ws, w.before args s = true := fun w h => ht w (hT w h).1
  have hG : GoodIn Ts ws := fun w h => hT w (by unfold va_wsS; exact List.mem_append_right _ h)
  have hc : Cond.codeWith y bytes maxL ret hh ∈ ws := by rw [hw]; exact List.mem_cons_self
  refine ⟨⟨hrc, hrs, hR.1, hR.2, pay_in ht hG, hc⟩, ht _ (hG _ hc).1, ok _ (by simp [va_wsS]), ⟨hd.1, hd.2.1⟩, fun sig h => ?_, ok _ (by simp [va_wsS]), ok _ (by simp [va_wsS])⟩
  have h2 := hd.2.2
  rw [h] at h2
  exact (Option.some.inj h2).symm
theorem vx_callSW (X : Stand p l e R s m args below meth c T locs cells slots) (hexec : p.tables.exec = Jvm.exec) {own : String} {index : Nat} {y : MethodName} {bytes : ByteArray} {maxL : Nat} {ret : Option FieldType} {hh : List (Nat × Nat × Nat × Nat)}
    (hown : s.vm.findClass own = some m.cls) (hlink : (Cond.methodLink own index y).before args s = true) (hstat : (Cond.static y).before args s = true) (hinit : (Cond.initialized y.cls).before args s = true)
    (hcode : (Cond.codeWith y bytes maxL ret hh).before args s = true) (hy : y.cls ≠ "java/lang/invoke/MethodHandle" ∧ y.cls ≠ "java/lang/invoke/VarHandle")
    {W9 : Nat} {Pre : Pt → Array Value → Prop} {Post : Pt → Array Value → Option Value → Pt → Prop} (hK : Back l R p e below s args y 3 W9 Pre Post)
    {g : JFrame} (hg : g.method = m) (hsize : g.locals.size = c.maxLocals) {argsL rest : List Value} (hlen : ∀ sig, parseMethodDescriptor y.desc = some sig → argsL.length = sig.parameters.length)
    (hstack : g.stack = argsL.reverse ++ rest) (hW : 2 * g.monitorRoom + (rest.map fun v => v.category).sum ≤ W9) (hdg : decode c.code g.pc = .ok (.invokestatic index, 3))
    (hpre : ∀ vm₁, s.WarmedH vm₁ → Pre ⟨T.setVm vm₁, locs, cells, slots⟩ argsL.toArray) :
    ∃ (v : Option Value) (vm₁ : Vm) (B : Pt), s.WarmedH vm₁ ∧ Stand p l e R s m args below meth c B.U B.locs B.cells B.slots ∧ Post ⟨T.setVm vm₁, locs, cells, slots⟩ argsL.toArray v B ∧
      ∀ target, Steps p.tables e below (B.U.setTop { g with pc := g.pc + 3, stack := v.toList ++ rest }) target → Steps p.tables e below (T.setTop g) target := by
  obtain ⟨mk, methM, cM, hnamed, hmethM, -, -, -, -, -, -, hsigM⟩ := Cond.codeWith_spec hcode
  have hstatic : methM.isStatic = true := Cond.static_spec hnamed hmethM hstat
  obtain ⟨kP, hkP, -⟩ := className_of_methodNamed hnamed
  have hinitP : kP.init = .initialized := Cond.initialized_spec (findClass_of_methodNamed hnamed) hkP hinit
  obtain ⟨vm₁, X₁, hstep₁⟩ := X.invokestatic hexec hown hlink hnamed hmethM hstatic hkP hinitP hy (g := g) hg (argsL := argsL) (rest := rest) (hlen _ hsigM) hstack hdg
  obtain ⟨v, B, X', hpost, hsteps⟩ := hK m meth c ⟨T.setVm vm₁, locs, cells, slots⟩ { g with stack := rest } (.invokestatic index) mk argsL.toArray X₁ hg hsize hdg hW (X₁.named hnamed) (hpre vm₁ X₁.warmed)
  exact ⟨v, vm₁, B, X₁.warmed, X', hpost, fun target h => hstep₁ _ fun acts => by rw [doInvoke_state]; exact hsteps.trans h⟩
theorem vx_runSW {y : MethodName} {bytes cc : ByteArray} {maxL nL mc ms n index : Nat} {ret : Option FieldType} {hh : List (Nat × Nat × Nat × Nat)} {ws : List Cond} {rm : Room} {Pc : Array Value → State → Prop} {Qc : Array Value → State → Outcome → State → Prop} {free : Addr → Prop} {Ts : List Cond} {own : String} {As rest : List Value} {g : JFrame}
    (S : CallFix p m c cc nL s args Ts own) (hM : Met l y ws rm Pc Qc mc ms free) (cw : vx_CSW R s args own index y bytes maxL ret hh ws rm mc ms n) (hp : PreS s H Pc As)
    (hg : g.method = m) (hn : As.length = n) (hsize : g.locals.size = nL) (hstack : g.stack = As.reverse ++ rest) (hW : 2 * g.monitorRoom + (rest.map fun v => v.category).sum ≤ 8) (hdg : decode cc g.pc = .ok (.invokestatic index, 3)) (hf : cells + mc ≤ R.cells ∧ slots + ms ≤ R.slots) :
    va_Run p l e R s m args below meth c H locs cells slots mc ms g rest (Qc As.toArray) (free) := by
  obtain ⟨⟨hrc, hrs, hfr, hlo, hws, hcw⟩, hcode, hini, hy, hlen, hl, hstt⟩ := cw
  have hK : Back l R p e below s args y 3 8 (PreOf R mc ms Pc) (PostOf Qc mc ms free) := va_backW (hh := hh) (bytes := bytes) (maxL := maxL) (ret := ret) hM hp.1 hrc hrs hfr hlo hws hcw (fun a' U hW => word_at hW (Or.inl (by first | rfl | simp [Cond.onTables, Cond.keeps, Cond.steady])) hini)
  obtain ⟨hx, hb, hml, ho, -⟩ := S
  intro T hT X
  obtain ⟨v, vm₁, ⟨U', l2, c2, s2⟩, hW₁, X', ⟨g', mk, t, L, e1, e2, hq, h1, hL, h2, h3⟩, st⟩ := vx_callSW X hx (hh := hh) (bytes := bytes) (maxL := maxL) (ret := ret) ho hl hstt hini hcode hy hK hg (hsize.trans hml.symm) (argsL := As) (rest := rest) (fun sig h => hn.trans (hlen sig h)) hstack hW (by rw [hb]; exact hdg)
    (fun vm₁ hW₁ => ⟨hf.1, hf.2, hp.2 (T.setVm vm₁) hT hW₁⟩)
  dsimp only [Pt.U, Pt.locs, Pt.cells, Pt.slots] at X' e1 e2 h1 h2 h3 st
  subst h1; subst h2; subst h3
  exact ⟨v, (T.setVm vm₁).calling g' mk As.toArray, t, U', L, hT, X', hL, e1, e2, hq, st⟩
/-- not caught here, past rows that name other classes: it goes on to the caller -/
theorem vx_outP {p : Program} {l : Launch} {e : Env} {R : Room} {s : State} {m : MethodId} {args : Array Value} {below : List Frame} {meth : Method} {c : Code} {H : Heap} {locs : List Loc} {cells slots : Nat} {free : Addr → Prop} {ls : Array Slot} {rest : List Value} {Qc : Array Value → State → Outcome → State → Prop} {XC : String → State → State → Prop}
    {pc : Nat} {own E : String} {ce : Cell} {q : Addr} {mc ms : Nat} (hown : s.vm.findClass own = some m.cls) (hlocks : meth.locks = false)
    (hpass : ∀ z ∈ c.exceptionTable.toList, covers z pc = false ∨ (z.catchType ≠ 0 ∧ ∃ nm : String, (Cond.classLink own z.catchType nm).before args s = true ∧ va_Nc E nm s)) (hcell : H[q]? = some ce) (hv : ce.vm = .none) (hcl : s.vm.findClass E = some ce.cls)
    (hx : ∀ t : State, t.heap = H → s.vm.Alike t.vm → XC E s t) (hf : ∀ z ∈ locs, free z.base) (hc : cells ≤ mc) (hs : slots ≤ ms) :
    vx_W p l e R s m args below meth c H locs cells slots (vx_MQ below Qc XC args s mc ms free) (F0 m pc ls rest) q := by
  intro T hT X
  have hpl : e.platform.magicAccessors = ({} : Platform).magicAccessors := by rw [X.admits.platform]
  obtain ⟨vm', hW', X', st⟩ := X.outThrough hlocks q (g := F0 m pc ls rest) rfl rfl rfl (cell := ce) (by rw [hT]; exact hcell) (by rw [hv]; rfl)
    (by obtain ⟨k9, h9, -⟩ := Vm.findClass_spec hcl; exact ⟨k9, h9⟩) (fun z hz => by
      rcases hpass z hz with h | ⟨hz0, nm, hl1, hn1⟩
      · exact Or.inl h
      · obtain ⟨c6, hc6, hcl6⟩ := Cond.classLink_spec hown hl1 e.platform hpl
        obtain ⟨a8, b8, h1, h2, h3⟩ := hn1
        cases Option.some.inj (h1.symm.trans hcl)
        cases Option.some.inj (h2.symm.trans hc6)
        exact Or.inr ⟨hz0, _, hcl6, h3⟩)
  obtain ⟨g₀, hfr⟩ := X'.frames_eq
  have hcell9 : ((T.setVm vm').setFrames (.throwing q :: below)).heap[q]? = some ce := by
    show T.heap[q]? = some ce
    rw [hT]; exact hcell
  have hend : Ended ((T.setVm vm').setFrames (.throwing q :: below)) below (.threw q) := State.frames_setFrames _ (State.cur_lt_of_frames hfr)
  refine ⟨(T.setVm vm').setFrames (.throwing q :: below), ?_, .threw q, X'.here.running, hend, Or.inr ⟨q, rfl, E, ce, locs, hx _ hT (X'.ends _).1.alike, hcell9, hv, hcl, (X'.ends _).1, (X'.ends _).2.mono hc hs, hf⟩⟩
  rw [X.pushThrowing_eq]
  exact st
/-- a thing of a world lies in the heap -/
theorem vx_lt {D : va_G} {cl : List vw_C} {ws : va_W} {H1 : Heap} (h : va_P D cl ws H1) {k : Nat} {q : Nat × va_E} (hk : ws[k]? = some q) : q.1 < H1.size := (h k q hk).lt
end VXS
/-! ===== END ===== -/
/-! ===== BEGIN methods with a table of their own: called by a name, returning or throwing ===== -/
section VXH
/-! vx_backW, vx_callVX, vx_callSX, vx_callVW, vx_runVW, vx_runVX, vx_runSX, vx_ofWH follow the same proofs as their sisters above (Free/Laws.lean, Shelf42/LK1.lean); vx_outP calls Shelf42/NT130.lean (outThrough). -/
section
variable {l : Launch} {R : Room} {p : Program} {e : Env} {below : List Frame} {s : State} {sargs : Array Value} {y : MethodName} {len W9 : Nat}
theorem vx_backW {ws : List Cond} {rm : Room} {Pc : Array Value → State → Prop} {Qc : Array Value → State → Outcome → State → Prop} {XC : String → State → State → Prop} {mc ms : Nat} {free : Addr → Prop} {bytes : ByteArray} {maxL : Nat} {ret : Option FieldType} {hh : List (Nat × Nat × Nat × Nat)}
    (hM : vx_Met l y ws rm Pc Qc XC mc ms free) (hblind : FrameBlind Pc) (hrc : rm.cells = mc) (hrs : rm.slots = ms)
    (hframes : rm.frames + 1 ≤ R.frames) (hlocals : W9 + (maxL + 11) + rm.locals ≤ R.locals)
    (hws : ∀ w ∈ ws, ∀ a' U, s.WarmedH U.vm → w.before a' U = true) (hcode : Cond.codeWith y bytes maxL ret hh ∈ ws) (hinit : ∀ a' U, s.WarmedH U.vm → (Cond.initialized y.cls).before a' U = true) :
    vx_Back l R p e below s sargs y len W9 (PreOf R mc ms Pc) (PostOf Qc mc ms free) (vx_Post XC mc ms free) := by
  intro m meth c A g ig mk a X hg hsize hdg hW hn hp
  have h1 : (headSpec ws rm).pre.before a A.U = true := atoms_intro fun w hw => hws w hw _ _ X.warmed
  have h2 : (Cond.codeWith y bytes maxL ret hh).before a A.U = true := hws _ hcode _ _ X.warmed
  have h3 : (Cond.initialized y.cls).before a A.U = true := hinit _ _ X.warmed
  have h4 : A.cells + (headSpec ws rm).room.cells ≤ R.cells := by rw [show (headSpec ws rm).room.cells = mc from hrc]; exact hp.1
  have h5 : A.slots + (headSpec ws rm).room.slots ≤ R.slots := by rw [show (headSpec ws rm).room.slots = ms from hrs]; exact hp.2.1
  have hPc : Pc a (A.U.calling g mk a) := hblind _ _ _ _ hp.2.2
  obtain ⟨U, Ls, c0, s0⟩ := A
  dsimp only [Pt.U, Pt.locs, Pt.cells, Pt.slots] at h1 h2 h3 h4 h5 X hn hPc ⊢
  obtain ⟨m9, methY, cY, hn9, hmY, hcY, -, hlY, -⟩ := Cond.codeWith_spec h2
  cases Option.some.inj (hn9.symm.trans hn)
  obtain ⟨kY, hkY, -⟩ := className_of_methodNamed hn
  have hinitY : kY.init = .initialized := Cond.initialized_spec (findClass_of_methodNamed hn) hkY h3
  have h : At U g.method c below := by rw [hg]; exact X.here
  have hlocals9 : W9 + (maxL + 11) + (headSpec ws rm).room.locals ≤ R.locals := hlocals
  have happ : (headSpec ws rm).appliesLoose y e.platform (U.calling g mk a) = true :=
    Spec.appliesLoose_calling (g := g) h hdg hn hkY hinitY
      (X.room_calling (g := g) (R' := (headSpec ws rm).room) hsize hmY hcY hframes (by rw [hlY]; omega) h4 h5) h1
  obtain ⟨mid, hmid⟩ := h.above
  have hfr : (U.setTop g).frames = (.java g :: mid) ++ below := by rw [State.frames_setTop' g h.top, hmid]; rfl
  obtain ⟨o, s₂, hsteps, -, hend, hq⟩ := Steps.callFree hM p X.admits X.cas X.clock (acts := []) hfr happ hPc trivial
  have hq' : vx_Q Qc XC mc ms free a (U.calling g mk a) o s₂ := hq
  rw [State.frames_setTop' g h.top] at hend
  obtain ⟨g₀, hg0⟩ := Option.isSome_iff_exists.mp h.top
  obtain ⟨r, hr⟩ := State.topJava?_eq_some.mp hg0
  have hr' : (({ U with heap := s₂.heap, slotsUsed := s₂.slotsUsed } : State).setVm s₂.vm).frames = .java g₀ :: r := hr
  rcases hq' with ⟨hqc, L, hfe, hL⟩ | ⟨q, rfl, E, ce, L, hx, hce, hcv, hcl, hW₂, hsm, hL⟩
  · obtain ⟨⟨v, rfl⟩, hW₂, e2, q2, q3, q4, q5, q6⟩ := id hfe
    have e3 : s₂ = ({ (U.calling g mk a).setFrames s₂.frames with heap := s₂.heap, slotsUsed := s₂.slotsUsed } : State).setVm s₂.vm := by
      have : s₂ = ({ s₂ with vm := (U.calling g mk a).vm } : State).setVm s₂.vm := rfl
      rw [e2] at this
      exact this
    obtain ⟨c₂, i₂, len₂, hc₂, hd₂, hf₂⟩ := hend
    have hW' : U.WarmedH s₂.vm := hW₂
    have hcc : c₂ = c := by
      have h1 : s₂.code? g.method = U.code? g.method := by
        rw [State.code?_eq, State.code?_eq, hW'.alike.method?]
      exact Option.some.inj (hc₂.symm.trans (h1.trans h.code))
    subst hcc
    have hlen : len₂ = len := by rw [hdg] at hd₂; cases hd₂; rfl
    subst hlen
    have hs₂ : s₂ = (({ U with heap := s₂.heap, slotsUsed := s₂.slotsUsed } : State).setVm s₂.vm).setTop { g with pc := g.pc + len₂, stack := v.toList ++ g.stack } := by
      refine e3.trans ?_
      rw [hf₂, State.calling_eq h.top, State.setFrames_setFrames, State.setTop_of_frames _ hr', hr]
      rfl
    have hsame : U.sameButNew ({ U with heap := s₂.heap, slotsUsed := s₂.slotsUsed } : State) L mc ms := by
      refine ⟨?_, q2, q3, q4, q5, q6⟩
      obtain ⟨t, ht, -⟩ := State.frames_cons hr
      show ({ U with heap := s₂.heap, slotsUsed := s₂.slotsUsed } : State) = { U.setFrames U.frames with heap := s₂.heap, slotsUsed := s₂.slotsUsed }
      rw [State.setFrames_self ht]
    subst hg
    refine Or.inl ⟨v, ⟨(({ U with heap := s₂.heap, slotsUsed := s₂.slotsUsed } : State).setVm s₂.vm), Ls ++ L, c0 + mc, s0 + ms⟩,
      ⟨X.admits, X.cas, X.clock, X.frames, X.room, X.hears, X.method, X.code, (X.here.setHeapUsed s₂.heap s₂.slotsUsed).setVm hW'.alike, X.tail, State.WarmedH.trans X.warmed hW', X.limits, X.bytes, X.same.trans (hsame.setVm s.vm)⟩,
      ⟨g, mk, s₂, L, rfl, rfl, hqc, rfl, hL, rfl, rfl⟩, ?_⟩
    show Steps p.tables e below _ ((({ U with heap := s₂.heap, slotsUsed := s₂.slotsUsed } : State).setVm s₂.vm).setTop { g with pc := g.pc + len₂, stack := v.toList ++ g.stack })
    rw [← hs₂]
    exact hsteps
  · obtain ⟨e2, q2, q3, q4, q5, q6⟩ := id hsm
    have e3 : s₂ = ({ (U.calling g mk a).setFrames s₂.frames with heap := s₂.heap, slotsUsed := s₂.slotsUsed } : State).setVm s₂.vm := by
      have : s₂ = ({ s₂ with vm := (U.calling g mk a).vm } : State).setVm s₂.vm := rfl
      rw [e2] at this
      exact this
    have hf₂ : s₂.frames = .throwing q :: .java g :: U.frames.tail := hend
    have hW' : U.WarmedH s₂.vm := hW₂
    have hs₂ : s₂ = ((({ U with heap := s₂.heap, slotsUsed := s₂.slotsUsed } : State).setVm s₂.vm).setTop g).pushFrame (.throwing q) := by
      refine e3.trans ?_
      rw [hf₂, State.calling_eq h.top, State.setFrames_setFrames, State.pushFrame, State.frames_setTop _ hr', State.setTop_of_frames _ hr', State.setFrames_setFrames, hr]
      rfl
    have hsame : U.sameButNew ({ U with heap := s₂.heap, slotsUsed := s₂.slotsUsed } : State) L mc ms := by
      refine ⟨?_, q2, q3, q4, q5, q6⟩
      obtain ⟨t, ht, -⟩ := State.frames_cons hr
      show ({ U with heap := s₂.heap, slotsUsed := s₂.slotsUsed } : State) = { U.setFrames U.frames with heap := s₂.heap, slotsUsed := s₂.slotsUsed }
      rw [State.setFrames_self ht]
    subst hg
    refine Or.inr ⟨q, ⟨(({ U with heap := s₂.heap, slotsUsed := s₂.slotsUsed } : State).setVm s₂.vm), Ls ++ L, c0 + mc, s0 + ms⟩,
      ⟨X.admits, X.cas, X.clock, X.frames, X.room, X.hears, X.method, X.code, (X.here.setHeapUsed s₂.heap s₂.slotsUsed).setVm hW'.alike, X.tail, State.WarmedH.trans X.warmed hW', X.limits, X.bytes, X.same.trans (hsame.setVm s.vm)⟩,
      ⟨g, mk, s₂, L, E, ce, rfl, rfl, hx, hce, hcv, hcl, rfl, hL, rfl, rfl⟩, ?_⟩
    show Steps p.tables e below _ (((({ U with heap := s₂.heap, slotsUsed := s₂.slotsUsed } : State).setVm s₂.vm).setTop g).pushFrame (.throwing q))
    rw [← hs₂]
    exact hsteps
end
variable {p : Program} {l : Launch} {e : Env} {R : Room} {s : State} {m : MethodId} {args : Array Value} {below : List Frame} {meth : Method} {c : Code} {T : State} {H : Heap} {locs : List Loc} {cells slots : Nat}
theorem vx_callVX (X : Stand p l e R s m args below meth c T locs cells slots) (hexec : p.tables.exec = Jvm.exec) {own C : String} {index : Nat} {y : MethodName} {bytes : ByteArray} {maxL : Nat} {ret : Option FieldType} {hh : List (Nat × Nat × Nat × Nat)}
    (hown : s.vm.findClass own = some m.cls) (hlink : (Cond.methodLink own index y).before args s = true) (hinst : (Cond.instanceMethod y).before args s = true) (hsel : (Cond.selects C y y).before args s = true)
    (hcode : (Cond.codeWith y bytes maxL ret hh).before args s = true) (hy : y.cls ≠ "java/lang/invoke/MethodHandle" ∧ y.cls ≠ "java/lang/invoke/VarHandle")
    {W9 : Nat} {Pre : Pt → Array Value → Prop} {Post : Pt → Array Value → Option Value → Pt → Prop} {PostX : Pt → Array Value → Addr → Pt → Prop} (hK : vx_Back l R p e below s args y 3 W9 Pre Post PostX)
    {b : Addr} {cellB : Cell} (hcell : T.heap[b]? = some cellB) (hobj : cellB.vm.isStatics = false) (hcls : s.vm.findClass C = some cellB.cls)
    {g : JFrame} (hg : g.method = m) (hsize : g.locals.size = c.maxLocals) {argsL rest : List Value} (hlen : ∀ sig, parseMethodDescriptor y.desc = some sig → argsL.length = sig.parameters.length)
    (hstack : g.stack = argsL.reverse ++ .ref b :: rest) (hW : 2 * g.monitorRoom + (rest.map fun v => v.category).sum ≤ W9) (hdg : decode c.code g.pc = .ok (.invokevirtual index, 3))
    (hpre : ∀ vm₁, s.WarmedH vm₁ → Pre ⟨T.setVm vm₁, locs, cells, slots⟩ (Value.ref b :: argsL).toArray) :
    (∃ (v : Option Value) (vm₁ : Vm) (B : Pt), s.WarmedH vm₁ ∧ Stand p l e R s m args below meth c B.U B.locs B.cells B.slots ∧ Post ⟨T.setVm vm₁, locs, cells, slots⟩ (Value.ref b :: argsL).toArray v B ∧
      ∀ target, Steps p.tables e below (B.U.setTop { g with pc := g.pc + 3, stack := v.toList ++ rest }) target → Steps p.tables e below (T.setTop g) target) ∨
    (∃ (q : Addr) (vm₁ : Vm) (B : Pt), s.WarmedH vm₁ ∧ Stand p l e R s m args below meth c B.U B.locs B.cells B.slots ∧ PostX ⟨T.setVm vm₁, locs, cells, slots⟩ (Value.ref b :: argsL).toArray q B ∧
      Steps p.tables e below (T.setTop g) ((B.U.setTop { g with stack := rest }).pushFrame (.throwing q))) := by
  obtain ⟨mk, methM, hnamed, hmethM, hstM, habM⟩ := Cond.instanceMethod_spec hinst
  obtain ⟨m8, methM', cM, hn8, hmethM', -, -, -, -, -, -, hsigM⟩ := Cond.codeWith_spec hcode
  cases Option.some.inj (hn8.symm.trans hnamed)
  cases hmethM.symm.trans hmethM'
  obtain ⟨c2, r2, m2, q1, q2, q3, q4, kP, hkP, hkPi⟩ := Cond.selects_spec hsel
  cases hcls.symm.trans q1
  cases (State.methodFound?_of_named hnamed hy).symm.trans q2
  cases hnamed.symm.trans q3
  have hselP : selectMethod e.platform s.vm cellB.cls mk = .method mk := by rw [Launch.admits_selectMethod X.admits]; exact q4
  obtain ⟨vm₁, X₁, hstep₁⟩ := X.invokevirtual hexec hown hlink hnamed hmethM hstM hkP hkPi hy (a := b) (cell := cellB) hcell
    (fun z h => by rw [h] at hobj; cases hobj) hselP hmethM habM hkP hkPi (g := g) hg (argsL := argsL) (rest := rest) (hlen _ hsigM) hstack hdg
  rcases hK m meth c ⟨T.setVm vm₁, locs, cells, slots⟩ { g with stack := rest } (.invokevirtual index) mk (Value.ref b :: argsL).toArray X₁ hg hsize hdg hW (X₁.named hnamed) (hpre vm₁ X₁.warmed) with ⟨v, B, X', hpost, hsteps⟩ | ⟨q, B, X', hpost, hsteps⟩
  · exact Or.inl ⟨v, vm₁, B, X₁.warmed, X', hpost, fun target h => hstep₁ _ fun acts => by rw [doInvoke_state]; exact hsteps.trans h⟩
  · exact Or.inr ⟨q, vm₁, B, X₁.warmed, X', hpost, hstep₁ _ fun acts => by rw [doInvoke_state]; exact hsteps⟩
theorem vx_callSX (X : Stand p l e R s m args below meth c T locs cells slots) (hexec : p.tables.exec = Jvm.exec) {own : String} {index : Nat} {y : MethodName} {bytes : ByteArray} {maxL : Nat} {ret : Option FieldType} {hh : List (Nat × Nat × Nat × Nat)}
    (hown : s.vm.findClass own = some m.cls) (hlink : (Cond.methodLink own index y).before args s = true) (hstat : (Cond.static y).before args s = true) (hinit : (Cond.initialized y.cls).before args s = true)
    (hcode : (Cond.codeWith y bytes maxL ret hh).before args s = true) (hy : y.cls ≠ "java/lang/invoke/MethodHandle" ∧ y.cls ≠ "java/lang/invoke/VarHandle")
    {W9 : Nat} {Pre : Pt → Array Value → Prop} {Post : Pt → Array Value → Option Value → Pt → Prop} {PostX : Pt → Array Value → Addr → Pt → Prop} (hK : vx_Back l R p e below s args y 3 W9 Pre Post PostX)
    {g : JFrame} (hg : g.method = m) (hsize : g.locals.size = c.maxLocals) {argsL rest : List Value} (hlen : ∀ sig, parseMethodDescriptor y.desc = some sig → argsL.length = sig.parameters.length)
    (hstack : g.stack = argsL.reverse ++ rest) (hW : 2 * g.monitorRoom + (rest.map fun v => v.category).sum ≤ W9) (hdg : decode c.code g.pc = .ok (.invokestatic index, 3))
    (hpre : ∀ vm₁, s.WarmedH vm₁ → Pre ⟨T.setVm vm₁, locs, cells, slots⟩ argsL.toArray) :
    (∃ (v : Option Value) (vm₁ : Vm) (B : Pt), s.WarmedH vm₁ ∧ Stand p l e R s m args below meth c B.U B.locs B.cells B.slots ∧ Post ⟨T.setVm vm₁, locs, cells, slots⟩ argsL.toArray v B ∧
      ∀ target, Steps p.tables e below (B.U.setTop { g with pc := g.pc + 3, stack := v.toList ++ rest }) target → Steps p.tables e below (T.setTop g) target) ∨
    (∃ (q : Addr) (vm₁ : Vm) (B : Pt), s.WarmedH vm₁ ∧ Stand p l e R s m args below meth c B.U B.locs B.cells B.slots ∧ PostX ⟨T.setVm vm₁, locs, cells, slots⟩ argsL.toArray q B ∧
      Steps p.tables e below (T.setTop g) ((B.U.setTop { g with stack := rest }).pushFrame (.throwing q))) := by
  obtain ⟨mk, methM, cM, hnamed, hmethM, -, -, -, -, -, -, hsigM⟩ := Cond.codeWith_spec hcode
  have hstatic : methM.isStatic = true := Cond.static_spec hnamed hmethM hstat
  obtain ⟨kP, hkP, -⟩ := className_of_methodNamed hnamed
  have hinitP : kP.init = .initialized := Cond.initialized_spec (findClass_of_methodNamed hnamed) hkP hinit
  obtain ⟨vm₁, X₁, hstep₁⟩ := X.invokestatic hexec hown hlink hnamed hmethM hstatic hkP hinitP hy (g := g) hg (argsL := argsL) (rest := rest) (hlen _ hsigM) hstack hdg
  rcases hK m meth c ⟨T.setVm vm₁, locs, cells, slots⟩ { g with stack := rest } (.invokestatic index) mk argsL.toArray X₁ hg hsize hdg hW (X₁.named hnamed) (hpre vm₁ X₁.warmed) with ⟨v, B, X', hpost, hsteps⟩ | ⟨q, B, X', hpost, hsteps⟩
  · exact Or.inl ⟨v, vm₁, B, X₁.warmed, X', hpost, fun target h => hstep₁ _ fun acts => by rw [doInvoke_state]; exact hsteps.trans h⟩
  · exact Or.inr ⟨q, vm₁, B, X₁.warmed, X', hpost, hstep₁ _ fun acts => by rw [doInvoke_state]; exact hsteps⟩
theorem vx_callVW (X : Stand p l e R s m args below meth c T locs cells slots) (hexec : p.tables.exec = Jvm.exec) {own C : String} {index : Nat} {y : MethodName} {bytes : ByteArray} {maxL : Nat} {ret : Option FieldType} {hh : List (Nat × Nat × Nat × Nat)}
    (hown : s.vm.findClass own = some m.cls) (hlink : (Cond.methodLink own index y).before args s = true) (hinst : (Cond.instanceMethod y).before args s = true) (hsel : (Cond.selects C y y).before args s = true)
    (hcode : (Cond.codeWith y bytes maxL ret hh).before args s = true) (hy : y.cls ≠ "java/lang/invoke/MethodHandle" ∧ y.cls ≠ "java/lang/invoke/VarHandle")
    {W9 : Nat} {Pre : Pt → Array Value → Prop} {Post : Pt → Array Value → Option Value → Pt → Prop} (hK : Back l R p e below s args y 3 W9 Pre Post)
    {b : Addr} {cellB : Cell} (hcell : T.heap[b]? = some cellB) (hobj : cellB.vm.isStatics = false) (hcls : s.vm.findClass C = some cellB.cls)
    {g : JFrame} (hg : g.method = m) (hsize : g.locals.size = c.maxLocals) {argsL rest : List Value} (hlen : ∀ sig, parseMethodDescriptor y.desc = some sig → argsL.length = sig.parameters.length)
    (hstack : g.stack = argsL.reverse ++ .ref b :: rest) (hW : 2 * g.monitorRoom + (rest.map fun v => v.category).sum ≤ W9) (hdg : decode c.code g.pc = .ok (.invokevirtual index, 3))
    (hpre : ∀ vm₁, s.WarmedH vm₁ → Pre ⟨T.setVm vm₁, locs, cells, slots⟩ (Value.ref b :: argsL).toArray) :
    ∃ (v : Option Value) (vm₁ : Vm) (B : Pt), s.WarmedH vm₁ ∧ Stand p l e R s m args below meth c B.U B.locs B.cells B.slots ∧ Post ⟨T.setVm vm₁, locs, cells, slots⟩ (Value.ref b :: argsL).toArray v B ∧
      ∀ target, Steps p.tables e below (B.U.setTop { g with pc := g.pc + 3, stack := v.toList ++ rest }) target → Steps p.tables e below (T.setTop g) target := by
  obtain ⟨mk, methM, hnamed, hmethM, hstM, habM⟩ := Cond.instanceMethod_spec hinst
  obtain ⟨m8, methM', cM, hn8, hmethM', -, -, -, -, -, -, hsigM⟩ := Cond.codeWith_spec hcode
  cases Option.some.inj (hn8.symm.trans hnamed)
  cases hmethM.symm.trans hmethM'
  obtain ⟨c2, r2, m2, q1, q2, q3, q4, kP, hkP, hkPi⟩ := Cond.selects_spec hsel
  cases hcls.symm.trans q1
  cases (State.methodFound?_of_named hnamed hy).symm.trans q2
  cases hnamed.symm.trans q3
  have hselP : selectMethod e.platform s.vm cellB.cls mk = .method mk := by rw [Launch.admits_selectMethod X.admits]; exact q4
  obtain ⟨vm₁, X₁, hstep₁⟩ := X.invokevirtual hexec hown hlink hnamed hmethM hstM hkP hkPi hy (a := b) (cell := cellB) hcell
    (fun z h => by rw [h] at hobj; cases hobj) hselP hmethM habM hkP hkPi (g := g) hg (argsL := argsL) (rest := rest) (hlen _ hsigM) hstack hdg
  obtain ⟨v, B, X', hpost, hsteps⟩ := hK m meth c ⟨T.setVm vm₁, locs, cells, slots⟩ { g with stack := rest } (.invokevirtual index) mk (Value.ref b :: argsL).toArray X₁ hg hsize hdg hW (X₁.named hnamed) (hpre vm₁ X₁.warmed)
  exact ⟨v, vm₁, B, X₁.warmed, X', hpost, fun target h => hstep₁ _ fun acts => by rw [doInvoke_state]; exact hsteps.trans h⟩
abbrev vx_CVW (R : Room) (s : State) (args : Array Value) (own C : String) (index : Nat) (y : MethodName) (bytes : ByteArray) (maxL : Nat) (ret : Option FieldType) (hh : List (Nat × Nat × Nat × Nat)) (ws : List Cond) (rm : Room) (mc ms n : Nat) : Prop :=
  (rm.cells = mc ∧ rm.slots = ms ∧ rm.frames + 1 ≤ R.frames ∧ 8 + (maxL + 11) + rm.locals ≤ R.locals ∧ (∀ w ∈ ws, ∀ (a' : Array Value) (U : State), s.WarmedH U.vm → w.before a' U = true) ∧ Cond.codeWith y bytes maxL ret hh ∈ ws) ∧
  (Cond.codeWith y bytes maxL ret hh).before args s = true ∧ (Cond.initialized y.cls).before args s = true ∧ (y.cls ≠ "java/lang/invoke/MethodHandle" ∧ y.cls ≠ "java/lang/invoke/VarHandle") ∧
  (∀ sig, parseMethodDescriptor y.desc = some sig → n = sig.parameters.length) ∧ (Cond.methodLink own index y).before args s = true ∧ (Cond.instanceMethod y).before args s = true ∧ (Cond.selects C y y).before args s = true
theorem vx_cwVW {own C : String} {index maxL mc ms : Nat} {y : MethodName} {bytes : ByteArray} {ret : Option FieldType} {hh : List (Nat × Nat × Nat × Nat)} {Ts ws ws' : List Cond} {rm : Room} (n : Nat) (ht : ∀ w ∈ Ts, w.before args s = true) (hT : GoodIn Ts (wsV own index C y ws)) (hw : ws = Cond.codeWith y bytes maxL ret hh :: ws') (hrc : rm.cells = mc) (hrs : rm.slots = ms)
    (hd : y.cls = C ∧ y.cls ≠ "java/lang/invoke/MethodHandle" ∧ y.cls ≠ "java/lang/invoke/VarHandle" ∧ (parseMethodDescriptor y.desc).map (fun d => d.parameters.length) = some n) (hR : rm.frames + 1 ≤ R.frames ∧ 8 + (maxL + 11) + rm.locals ≤ R.locals) :
    vx_CVW R s args own C index y bytes maxL ret hh ws rm mc ms n := by
  obtain ⟨hC, hd⟩ := hd
  subst hC
  have ok : ∀ w ∈ wsV own index y.cls y ws, w.before args s = true := fun w h => ht w (hT w h).1
  have hG : GoodIn Ts ws := fun w h => hT w (by unfold wsV; exact List.mem_append_right _ h)
  have hc : Cond.codeWith y bytes maxL ret hh ∈ ws := by rw [hw]; exact List.mem_cons_self
  refine ⟨⟨hrc, hrs, hR.1, hR.2, pay_in ht hG, hc⟩, ht _ (hG _ hc).1, ok _ (by simp [wsV]), ⟨hd.1, hd.2.1⟩, fun sig h => ?_, ok _ (by simp [wsV]), ok _ (by simp [wsV]), ok _ (by simp [wsV])⟩
  have h2 := hd.2.2
  rw [h] at h2
  exact (Option.some.inj h2).symm
theorem vx_runVW {y : MethodName} {bytes cc : ByteArray} {maxL nL mc ms n index : Nat} {ret : Option FieldType} {hh : List (Nat × Nat × Nat × Nat)} {ws : List Cond} {rm : Room} {Pc : Array Value → State → Prop} {Qc : Array Value → State → Outcome → State → Prop} {free : Addr → Prop} {Ts : List Cond} {own C : String} {b : Addr} {As rest : List Value} {g : JFrame}
    (S : CallFix p m c cc nL s args Ts own) (hM : Met l y ws rm Pc Qc mc ms free) (cw : vx_CVW R s args own C index y bytes maxL ret hh ws rm mc ms n) (hp : PreV s H C b Pc As)
    (hg : g.method = m) (hn : As.length = n) (hsize : g.locals.size = nL) (hstack : g.stack = As.reverse ++ .ref b :: rest) (hW : 2 * g.monitorRoom + (rest.map fun v => v.category).sum ≤ 8) (hdg : decode cc g.pc = .ok (.invokevirtual index, 3)) (hf : cells + mc ≤ R.cells ∧ slots + ms ≤ R.slots) :
    va_Run p l e R s m args below meth c H locs cells slots mc ms g rest (Qc (Value.ref b :: As).toArray) free := by
  obtain ⟨⟨hrc, hrs, hfr, hlo, hws, hcw⟩, hcode, hini, hy, hlen, hl, hin, hse⟩ := cw
  have hK : Back l R p e below s args y 3 8 (PreOf R mc ms Pc) (PostOf Qc mc ms free) := va_backW (hh := hh) (bytes := bytes) (maxL := maxL) (ret := ret) hM hp.1 hrc hrs hfr hlo hws hcw (fun a' U hW => word_at hW (Or.inl (by first | rfl | simp [Cond.onTables, Cond.keeps, Cond.steady])) hini)
  obtain ⟨hx, hb, hml, ho, -⟩ := S
  obtain ⟨-, ⟨cellB, hcB, hoB, hclB⟩, hPc⟩ := hp
  intro T hT X
  obtain ⟨v, vm₁, ⟨U', l2, c2, s2⟩, hW₁, X', ⟨g', mk, t, L, e1, e2, hq, h1, hL, h2, h3⟩, st⟩ := vx_callVW X hx (C := C) (hh := hh) (bytes := bytes) (maxL := maxL) (ret := ret) ho hl hin hse hcode hy hK (by rw [hT]; exact hcB) hoB hclB hg (hsize.trans hml.symm) (argsL := As) (rest := rest) (fun sig h => hn.trans (hlen sig h)) hstack hW (by rw [hb]; exact hdg)
    (fun vm₁ hW₁ => ⟨hf.1, hf.2, hPc (T.setVm vm₁) hT hW₁⟩)
  dsimp only [Pt.U, Pt.locs, Pt.cells, Pt.slots] at X' e1 e2 h1 h2 h3 st
  subst h1; subst h2; subst h3
  exact ⟨v, (T.setVm vm₁).calling g' mk (Value.ref b :: As).toArray, t, U', L, hT, X', hL, e1, e2, hq, st⟩
section
variable {y : MethodName} {bytes cc : ByteArray} {maxL nL mc ms n index : Nat} {ret : Option FieldType} {ws : List Cond} {rm : Room} {Pc : Array Value → State → Prop} {Qc : Array Value → State → Outcome → State → Prop} {XC : String → State → State → Prop} {free : Addr → Prop} {Ts : List Cond} {own C : String} {b : Addr} {As rest : List Value} {g : JFrame}
theorem vx_runVX {hh : List (Nat × Nat × Nat × Nat)} (S : CallFix p m c cc nL s args Ts own) (hM : vx_Met l y ws rm Pc Qc XC mc ms free) (cw : vx_CVW R s args own C index y bytes maxL ret hh ws rm mc ms n) (hp : PreV s H C b Pc As)
    (hg : g.method = m) (hn : As.length = n) (hsize : g.locals.size = nL) (hstack : g.stack = As.reverse ++ .ref b :: rest) (hW : 2 * g.monitorRoom + (rest.map fun v => v.category).sum ≤ 8) (hdg : decode cc g.pc = .ok (.invokevirtual index, 3)) (hf : cells + mc ≤ R.cells ∧ slots + ms ≤ R.slots) :
    vx_Run p l e R s m args below meth c H locs cells slots mc ms g rest (Qc (Value.ref b :: As).toArray) XC free := by
  obtain ⟨⟨hrc, hrs, hfr, hlo, hws, hcw⟩, hcode, hini, hy, hlen, hl, hin, hse⟩ := cw
  have hK : vx_Back l R p e below s args y 3 8 (PreOf R mc ms Pc) (PostOf Qc mc ms free) (vx_Post XC mc ms free) := vx_backW (hh := hh) (bytes := bytes) (maxL := maxL) (ret := ret) hM hp.1 hrc hrs hfr hlo hws hcw (fun a' U hW => word_at hW (Or.inl (by first | rfl | simp [Cond.onTables, Cond.keeps, Cond.steady])) hini)
  obtain ⟨hx, hb, hml, ho, -⟩ := S
  obtain ⟨-, ⟨cellB, hcB, hoB, hclB⟩, hPc⟩ := hp
  intro T hT X
  rcases vx_callVX X hx (C := C) (hh := hh) (bytes := bytes) (maxL := maxL) (ret := ret) ho hl hin hse hcode hy hK (by rw [hT]; exact hcB) hoB hclB hg (hsize.trans hml.symm) (argsL := As) (rest := rest) (fun sig h => hn.trans (hlen sig h)) hstack hW (by rw [hb]; exact hdg)
    (fun vm₁ hW₁ => ⟨hf.1, hf.2, hPc (T.setVm vm₁) hT hW₁⟩) with ⟨v, vm₁, ⟨U', l2, c2, s2⟩, hW₁, X', ⟨g', mk, t, L, e1, e2, hq, h1, hL, h2, h3⟩, st⟩ | ⟨q, vm₁, ⟨U', l2, c2, s2⟩, hW₁, X', ⟨g', mk, t, L, E, ce, e1, e2, hq, hce, hcv, hcl, h1, hL, h2, h3⟩, st⟩
  · dsimp only [Pt.U, Pt.locs, Pt.cells, Pt.slots] at X' e1 e2 h1 h2 h3 st
    subst h1; subst h2; subst h3
    exact Or.inl ⟨v, (T.setVm vm₁).calling g' mk (Value.ref b :: As).toArray, t, U', L, hT, X', hL, e1, e2, hq, st⟩
  · dsimp only [Pt.U, Pt.locs, Pt.cells, Pt.slots] at X' e1 e2 h1 h2 h3 st hcl
    subst h1; subst h2; subst h3
    exact Or.inr ⟨q, (T.setVm vm₁).calling g' mk (Value.ref b :: As).toArray, t, U', L, E, ce, hT, X', hL, e1, e2, hq, hce, hcv, vx_cls hW₁ hcl, st⟩
theorem vx_runSX {hh : List (Nat × Nat × Nat × Nat)} (S : CallFix p m c cc nL s args Ts own) (hM : vx_Met l y ws rm Pc Qc XC mc ms free) (cw : vx_CSW R s args own index y bytes maxL ret hh ws rm mc ms n) (hp : PreS s H Pc As)
    (hg : g.method = m) (hn : As.length = n) (hsize : g.locals.size = nL) (hstack : g.stack = As.reverse ++ rest) (hW : 2 * g.monitorRoom + (rest.map fun v => v.category).sum ≤ 8) (hdg : decode cc g.pc = .ok (.invokestatic index, 3)) (hf : cells + mc ≤ R.cells ∧ slots + ms ≤ R.slots) :
    vx_Run p l e R s m args below meth c H locs cells slots mc ms g rest (Qc As.toArray) XC free := by
  obtain ⟨⟨hrc, hrs, hfr, hlo, hws, hcw⟩, hcode, hini, hy, hlen, hl, hstt⟩ := cw
  have hK : vx_Back l R p e below s args y 3 8 (PreOf R mc ms Pc) (PostOf Qc mc ms free) (vx_Post XC mc ms free) := vx_backW (hh := hh) (bytes := bytes) (maxL := maxL) (ret := ret) hM hp.1 hrc hrs hfr hlo hws hcw (fun a' U hW => word_at hW (Or.inl (by first | rfl | simp [Cond.onTables, Cond.keeps, Cond.steady])) hini)
  obtain ⟨hx, hb, hml, ho, -⟩ := S
  intro T hT X
  rcases vx_callSX X hx (hh := hh) (bytes := bytes) (maxL := maxL) (ret := ret) ho hl hstt hini hcode hy hK hg (hsize.trans hml.symm) (argsL := As) (rest := rest) (fun sig h => hn.trans (hlen sig h)) hstack hW (by rw [hb]; exact hdg)
    (fun vm₁ hW₁ => ⟨hf.1, hf.2, hp.2 (T.setVm vm₁) hT hW₁⟩) with ⟨v, vm₁, ⟨U', l2, c2, s2⟩, hW₁, X', ⟨g', mk, t, L, e1, e2, hq, h1, hL, h2, h3⟩, st⟩ | ⟨q, vm₁, ⟨U', l2, c2, s2⟩, hW₁, X', ⟨g', mk, t, L, E, ce, e1, e2, hq, hce, hcv, hcl, h1, hL, h2, h3⟩, st⟩
  · dsimp only [Pt.U, Pt.locs, Pt.cells, Pt.slots] at X' e1 e2 h1 h2 h3 st
    subst h1; subst h2; subst h3
    exact Or.inl ⟨v, (T.setVm vm₁).calling g' mk As.toArray, t, U', L, hT, X', hL, e1, e2, hq, st⟩
  · dsimp only [Pt.U, Pt.locs, Pt.cells, Pt.slots] at X' e1 e2 h1 h2 h3 st hcl
    subst h1; subst h2; subst h3
    exact Or.inr ⟨q, (T.setVm vm₁).calling g' mk As.toArray, t, U', L, E, ce, hT, X', hL, e1, e2, hq, hce, hcv, vx_cls hW₁ hcl, st⟩
end
end VXH
theorem vx_ofWH {l : Launch} {y : MethodName} {ws ws' : List Cond} {rm : Room} {Pc : Array Value → State → Prop} {Qc : Array Value → State → Outcome → State → Prop} {XC : String → State → State → Prop} {mc ms : Nat} {free : Addr → Prop} {cc : ByteArray} {maxL : Nat} {ret : Option FieldType} {hh : List (Nat × Nat × Nat × Nat)}
    (hy : plainName y.cls = true) (hw : ws = Cond.codeWith y cc maxL ret hh :: ws')
    (body : ∀ p e s m args below meth c s₁, BodyLoose p l y (headSpec ws rm) cc maxL ret e s m args below meth c s₁ → c.maxLocals = maxL → Pc args s →
      W p l e (headSpec ws rm).room s m args below meth c s.heap [] 0 0 (vx_MQ below Qc XC args s mc ms free) (entryFrame m args maxL)) : vx_Met l y ws rm Pc Qc XC mc ms free := by
  refine MetFree.of_bodyS (code := cc) (maxLocals := maxL) (ret := ret) hy ?_ ?_
  · intro args s m h hn
    obtain ⟨m9, meth, c, hn9, h1, h2, h3, h4, -, h5, h6, -⟩ := Cond.codeWith_spec (atoms_spec (ws := ws) h _ (by rw [hw]; exact List.mem_cons_self))
    cases hn.symm.trans hn9
    exact ⟨meth, c, h1, h2, h3, h4, h5, h6⟩
  · intro p e s m args below meth c s₁ B hml hP _
    have hh0 : s₁.heap = s.heap := by rw [B.state]; rfl
    obtain ⟨t, a1, o, b1, b2, b3⟩ := body p e s m args below meth c s₁ B hml hP s₁ hh0 (Stand.of_body B)
    exact ⟨t, o, a1, b1, b2, b3⟩
/-! ===== END ===== -/
end
section
/-! ===== BEGIN printed: names, fields, word lists, decode rows ===== -/
def RX0 : String := "ClubRolls$Club"
def TX0 : u_T := fun k => match k with
  | 0 => ("ClubRolls$Club", "members", "[LClubRolls$Member;", true)
  | 1 => ("ClubRolls$Club", "post", "LClubRolls$Post;", true)
  | 2 => ("ClubRolls$Club", "coming", "[I", true)
  | 3 => ("ClubRolls$Club", "count", "I", false)
  | 4 => ("ClubRolls$Club", "time", "I", false)
  | 5 => ("ClubRolls$Club", "patience", "I", false)
  | 6 => ("ClubRolls$Club", "speeches", "I", false)
  | 7 => ("ClubRolls$Club", "late", "I", false)
  | _ => ("ClubRolls$Club", "stood", "I", false)
def tyX0 : Nat → FieldType := fun k => match k with
  | 0 => .array (.object "ClubRolls$Member")
  | 1 => .object "ClubRolls$Post"
  | 2 => .array .int
  | 3 => .int
  | 4 => .int
  | 5 => .int
  | 6 => .int
  | 7 => .int
  | _ => .int
abbrev wsX00 : List Cond := u_ws RX0 TX0 9
theorem nmX0 : ∀ a, a < 9 → ∀ b, b < 9 → a ≠ b → (TX0 a).2.1 ≠ (TX0 b).2.1 := by decide +kernel
theorem tyX0_ok : ∀ k, k < 9 → parseFieldDescriptor (TX0 k).2.2.1 = some (tyX0 k) := by decide +kernel
abbrev cX0_init : ByteArray := prog_2_method_1_code
def yX0_init : MethodName := ⟨RX0, "<init>", "()V"⟩
abbrev cX0_copyFrom : ByteArray := prog_2_method_2_code
def yX0_copyFrom : MethodName := ⟨RX0, "copyFrom", "(LClubRolls$Club;)V"⟩
abbrev cX0_hasMember : ByteArray := prog_2_method_3_code
def yX0_hasMember : MethodName := ⟨RX0, "hasMember", "(I)Z"⟩
abbrev cX0_isGone : ByteArray := prog_2_method_4_code
def yX0_isGone : MethodName := ⟨RX0, "isGone", "(I)Z"⟩
abbrev cX0_everybody : ByteArray := prog_2_method_5_code
def yX0_everybody : MethodName := ⟨RX0, "everybody", "()I"⟩
abbrev cX0_isRollWith : ByteArray := prog_2_method_6_code
def yX0_isRollWith : MethodName := ⟨RX0, "isRollWith", "(II)Z"⟩
abbrev cX0_whoAre : ByteArray := prog_2_method_7_code
def yX0_whoAre : MethodName := ⟨RX0, "whoAre", "(I)I"⟩
abbrev cX0_allSitIn : ByteArray := prog_2_method_8_code
def yX0_allSitIn : MethodName := ⟨RX0, "allSitIn", "(III)Z"⟩
abbrev cX0_groupOf : ByteArray := prog_2_method_9_code
def yX0_groupOf : MethodName := ⟨RX0, "groupOf", "(I)I"⟩
abbrev cX0_speechesMissedBy : ByteArray := prog_2_method_10_code
def yX0_speechesMissedBy : MethodName := ⟨RX0, "speechesMissedBy", "(I)I"⟩
abbrev cX0_sharedSessions : ByteArray := prog_2_method_11_code
def yX0_sharedSessions : MethodName := ⟨RX0, "sharedSessions", "(IIZ)I"⟩
abbrev cX0_carryOut : ByteArray := prog_2_method_12_code
def yX0_carryOut : MethodName := ⟨RX0, "carryOut", "(III)Z"⟩
abbrev cX0_carryOutBy : ByteArray := prog_2_method_13_code
def yX0_carryOutBy : MethodName := ⟨RX0, "carryOutBy", "(III)Z"⟩
abbrev cX0_addMember : ByteArray := prog_2_method_14_code
def yX0_addMember : MethodName := ⟨RX0, "addMember", "(I)I"⟩
abbrev cX0_speak : ByteArray := prog_2_method_15_code
def yX0_speak : MethodName := ⟨RX0, "speak", "(I)I"⟩
abbrev cX0_callRoll : ByteArray := prog_2_method_16_code
def yX0_callRoll : MethodName := ⟨RX0, "callRoll", "(II)I"⟩
abbrev cX0_letTicksGo : ByteArray := prog_2_method_17_code
def yX0_letTicksGo : MethodName := ⟨RX0, "letTicksGo", "(I)V"⟩
abbrev cX0_noteComes : ByteArray := prog_2_method_18_code
def yX0_noteComes : MethodName := ⟨RX0, "noteComes", "()V"⟩
abbrev cX0_answerCall : ByteArray := prog_2_method_19_code
def yX0_answerCall : MethodName := ⟨RX0, "answerCall", "(LClubRolls$Member;LClubRolls$Member;I)V"⟩
abbrev cX0_rollStands : ByteArray := prog_2_method_20_code
def yX0_rollStands : MethodName := ⟨RX0, "rollStands", "(LClubRolls$Member;)V"⟩
def RX1 : String := "ClubRolls$History"
def TX1 : u_T := fun k => match k with
  | 0 => ("ClubRolls$History", "states", "[LClubRolls$Club;", true)
  | 1 => ("ClubRolls$History", "next", "I", false)
  | _ => ("ClubRolls$History", "count", "I", false)
def tyX1 : Nat → FieldType := fun k => match k with
  | 0 => .array (.object "ClubRolls$Club")
  | 1 => .int
  | _ => .int
abbrev wsX10 : List Cond := u_ws RX1 TX1 3
theorem nmX1 : ∀ a, a < 3 → ∀ b, b < 3 → a ≠ b → (TX1 a).2.1 ≠ (TX1 b).2.1 := by decide +kernel
theorem tyX1_ok : ∀ k, k < 3 → parseFieldDescriptor (TX1 k).2.2.1 = some (tyX1 k) := by decide +kernel
abbrev cX1_init : ByteArray := prog_3_method_1_code
def yX1_init : MethodName := ⟨RX1, "<init>", "()V"⟩
abbrev cX1_remember : ByteArray := prog_3_method_2_code
def yX1_remember : MethodName := ⟨RX1, "remember", "(LClubRolls$Club;)V"⟩
abbrev cX1_takeLast : ByteArray := prog_3_method_3_code
def yX1_takeLast : MethodName := ⟨RX1, "takeLast", "()LClubRolls$Club;"⟩
def RX2 : String := "ClubRolls$Member"
def TX2 : u_T := fun k => match k with
  | 0 => ("ClubRolls$Member", "self", "I", true)
  | 1 => ("ClubRolls$Member", "place", "I", false)
  | 2 => ("ClubRolls$Member", "presence", "I", false)
  | 3 => ("ClubRolls$Member", "rollNumber", "I", false)
  | 4 => ("ClubRolls$Member", "rollCaller", "I", false)
  | 5 => ("ClubRolls$Member", "rollMembers", "I", false)
  | 6 => ("ClubRolls$Member", "heard", "I", false)
  | 7 => ("ClubRolls$Member", "promise", "I", false)
  | 8 => ("ClubRolls$Member", "speeches", "I", false)
  | 9 => ("ClubRolls$Member", "calledNumber", "I", false)
  | 10 => ("ClubRolls$Member", "calledSet", "I", false)
  | 11 => ("ClubRolls$Member", "calledSince", "I", false)
  | 12 => ("ClubRolls$Member", "answered", "I", false)
  | 13 => ("ClubRolls$Member", "answers", "LClubRolls$Reports;", true)
  | 14 => ("ClubRolls$Member", "kept", "LClubRolls$Reports;", true)
  | _ => ("ClubRolls$Member", "sessions", "LClubRolls$Reports;", true)
def tyX2 : Nat → FieldType := fun k => match k with
  | 0 => .int
  | 1 => .int
  | 2 => .int
  | 3 => .int
  | 4 => .int
  | 5 => .int
  | 6 => .int
  | 7 => .int
  | 8 => .int
  | 9 => .int
  | 10 => .int
  | 11 => .int
  | 12 => .int
  | 13 => .object "ClubRolls$Reports"
  | 14 => .object "ClubRolls$Reports"
  | _ => .object "ClubRolls$Reports"
abbrev wsX20 : List Cond := u_ws RX2 TX2 16
theorem nmX2 : ∀ a, a < 16 → ∀ b, b < 16 → a ≠ b → (TX2 a).2.1 ≠ (TX2 b).2.1 := by decide +kernel
theorem tyX2_ok : ∀ k, k < 16 → parseFieldDescriptor (TX2 k).2.2.1 = some (tyX2 k) := by decide +kernel
abbrev cX2_init : ByteArray := prog_4_method_1_code
def yX2_init : MethodName := ⟨RX2, "<init>", "(I)V"⟩
abbrev cX2_copyFrom : ByteArray := prog_4_method_2_code
def yX2_copyFrom : MethodName := ⟨RX2, "copyFrom", "(LClubRolls$Member;)V"⟩
abbrev cX2_isIn : ByteArray := prog_4_method_3_code
def yX2_isIn : MethodName := ⟨RX2, "isIn", "(II)Z"⟩
abbrev cX2_maySpeak : ByteArray := prog_4_method_4_code
def yX2_maySpeak : MethodName := ⟨RX2, "maySpeak", "()Z"⟩
abbrev cX2_isOutOfPatience : ByteArray := prog_4_method_5_code
def yX2_isOutOfPatience : MethodName := ⟨RX2, "isOutOfPatience", "(II)Z"⟩
abbrev cX2_startCall : ByteArray := prog_4_method_6_code
def yX2_startCall : MethodName := ⟨RX2, "startCall", "(II)V"⟩
abbrev cX2_countsAnswer : ByteArray := prog_4_method_7_code
def yX2_countsAnswer : MethodName := ⟨RX2, "countsAnswer", "([I)Z"⟩
abbrev cX2_isAnsweredByAll : ByteArray := prog_4_method_8_code
def yX2_isAnsweredByAll : MethodName := ⟨RX2, "isAnsweredByAll", "()Z"⟩
abbrev cX2_stopCall : ByteArray := prog_4_method_9_code
def yX2_stopCall : MethodName := ⟨RX2, "stopCall", "()V"⟩
abbrev cX2_hushFor : ByteArray := prog_4_method_10_code
def yX2_hushFor : MethodName := ⟨RX2, "hushFor", "(I)V"⟩
abbrev cX2_takesSpeech : ByteArray := prog_4_method_11_code
def yX2_takesSpeech : MethodName := ⟨RX2, "takesSpeech", "(III)Z"⟩
abbrev cX2_enterRoll : ByteArray := prog_4_method_12_code
def yX2_enterRoll : MethodName := ⟨RX2, "enterRoll", "(IIII)V"⟩
abbrev cX2_goAway : ByteArray := prog_4_method_13_code
def yX2_goAway : MethodName := ⟨RX2, "goAway", "()V"⟩
abbrev cX2_comeBack : ByteArray := prog_4_method_14_code
def yX2_comeBack : MethodName := ⟨RX2, "comeBack", "()V"⟩
def RX3 : String := "ClubRolls$Post"
def TX3 : u_T := fun k => match k with
  | 0 => ("ClubRolls$Post", "cutFrom", "[I", true)
  | 1 => ("ClubRolls$Post", "rows", "[I", true)
  | 2 => ("ClubRolls$Post", "cutWays", "I", false)
  | 3 => ("ClubRolls$Post", "count", "I", false)
  | _ => ("ClubRolls$Post", "lost", "I", false)
def tyX3 : Nat → FieldType := fun k => match k with
  | 0 => .array .int
  | 1 => .array .int
  | 2 => .int
  | 3 => .int
  | _ => .int
abbrev wsX30 : List Cond := u_ws RX3 TX3 5
theorem nmX3 : ∀ a, a < 5 → ∀ b, b < 5 → a ≠ b → (TX3 a).2.1 ≠ (TX3 b).2.1 := by decide +kernel
theorem tyX3_ok : ∀ k, k < 5 → parseFieldDescriptor (TX3 k).2.2.1 = some (tyX3 k) := by decide +kernel
abbrev cX3_init : ByteArray := prog_5_method_1_code
def yX3_init : MethodName := ⟨RX3, "<init>", "()V"⟩
abbrev cX3_copyFrom : ByteArray := prog_5_method_2_code
def yX3_copyFrom : MethodName := ⟨RX3, "copyFrom", "(LClubRolls$Post;)V"⟩
abbrev cX3_isCutBetween : ByteArray := prog_5_method_3_code
def yX3_isCutBetween : MethodName := ⟨RX3, "isCutBetween", "(II)Z"⟩
abbrev cX3_changeWay : ByteArray := prog_5_method_4_code
def yX3_changeWay : MethodName := ⟨RX3, "changeWay", "(IIZ)V"⟩
abbrev cX3_send : ByteArray := prog_5_method_5_code
def yX3_send : MethodName := ⟨RX3, "send", "(ILClubRolls$Member;LClubRolls$Member;III)V"⟩
abbrev cX3_isDue : ByteArray := prog_5_method_6_code
def yX3_isDue : MethodName := ⟨RX3, "isDue", "(I)Z"⟩
abbrev cX3_takeFirst : ByteArray := prog_5_method_7_code
def yX3_takeFirst : MethodName := ⟨RX3, "takeFirst", "([I)V"⟩
def RX4 : String := "ClubRolls$Reports"
def TX4 : u_T := fun k => match k with
  | 0 => ("ClubRolls$Reports", "number", "[I", true)
  | 1 => ("ClubRolls$Reports", "caller", "[I", true)
  | 2 => ("ClubRolls$Reports", "heard", "[I", true)
  | _ => ("ClubRolls$Reports", "count", "I", false)
def tyX4 : Nat → FieldType := fun k => match k with
  | 0 => .array .int
  | 1 => .array .int
  | 2 => .array .int
  | _ => .int
abbrev wsX40 : List Cond := u_ws RX4 TX4 4
theorem nmX4 : ∀ a, a < 4 → ∀ b, b < 4 → a ≠ b → (TX4 a).2.1 ≠ (TX4 b).2.1 := by decide +kernel
theorem tyX4_ok : ∀ k, k < 4 → parseFieldDescriptor (TX4 k).2.2.1 = some (tyX4 k) := by decide +kernel
abbrev cX4_init : ByteArray := prog_6_method_1_code
def yX4_init : MethodName := ⟨RX4, "<init>", "(I)V"⟩
abbrev cX4_copyFrom : ByteArray := prog_6_method_2_code
def yX4_copyFrom : MethodName := ⟨RX4, "copyFrom", "(LClubRolls$Reports;)V"⟩
abbrev cX4_isFull : ByteArray := prog_6_method_3_code
def yX4_isFull : MethodName := ⟨RX4, "isFull", "()Z"⟩
abbrev cX4_put : ByteArray := prog_6_method_4_code
def yX4_put : MethodName := ⟨RX4, "put", "(IIII)V"⟩
abbrev cX4_add : ByteArray := prog_6_method_5_code
def yX4_add : MethodName := ⟨RX4, "add", "(III)V"⟩
abbrev cX4_takeUpTo : ByteArray := prog_6_method_6_code
def yX4_takeUpTo : MethodName := ⟨RX4, "takeUpTo", "(II)I"⟩
abbrev cX4_heardLike : ByteArray := prog_6_method_7_code
def yX4_heardLike : MethodName := ⟨RX4, "heardLike", "(II)I"⟩
def RX5 : String := "ClubRolls$Text"
def TX5 : u_T := fun k => match k with
  | 0 => ("ClubRolls$Text", "signs", "[I", true)
  | _ => ("ClubRolls$Text", "length", "I", false)
def tyX5 : Nat → FieldType := fun k => match k with
  | 0 => .array .int
  | _ => .int
abbrev wsX50 : List Cond := u_ws RX5 TX5 2
theorem nmX5 : ∀ a, a < 2 → ∀ b, b < 2 → a ≠ b → (TX5 a).2.1 ≠ (TX5 b).2.1 := by decide +kernel
theorem tyX5_ok : ∀ k, k < 2 → parseFieldDescriptor (TX5 k).2.2.1 = some (tyX5 k) := by decide +kernel
abbrev cX5_init : ByteArray := prog_7_method_1_code
def yX5_init : MethodName := ⟨RX5, "<init>", "()V"⟩
abbrev cX5_addSign : ByteArray := prog_7_method_2_code
def yX5_addSign : MethodName := ⟨RX5, "addSign", "(I)V"⟩
abbrev cX5_signAt : ByteArray := prog_7_method_3_code
def yX5_signAt : MethodName := ⟨RX5, "signAt", "(I)I"⟩
abbrev cX5_firstError : ByteArray := prog_7_method_4_code
def yX5_firstError : MethodName := ⟨RX5, "firstError", "()I"⟩
abbrev cX5_digitsBehind : ByteArray := prog_7_method_5_code
def yX5_digitsBehind : MethodName := ⟨RX5, "digitsBehind", "(I)I"⟩
abbrev cX5_isAllowed : ByteArray := prog_7_method_6_code
def yX5_isAllowed : MethodName := ⟨RX5, "isAllowed", "(II)Z"⟩
abbrev cX5_beginsNumber : ByteArray := prog_7_method_7_code
def yX5_beginsNumber : MethodName := ⟨RX5, "beginsNumber", "(IIII)Z"⟩
abbrev cX5_twoDigits : ByteArray := prog_7_method_8_code
def yX5_twoDigits : MethodName := ⟨RX5, "twoDigits", "(I)I"⟩
abbrev cX5_firstNumber : ByteArray := prog_7_method_9_code
def yX5_firstNumber : MethodName := ⟨RX5, "firstNumber", "(I)I"⟩
abbrev cX5_secondNumber : ByteArray := prog_7_method_10_code
def yX5_secondNumber : MethodName := ⟨RX5, "secondNumber", "(I)I"⟩
def RX6 : String := "ClubRolls"
def TX6 : u_T := fun k => match k with
  | 0 => ("ClubRolls", "text", "LClubRolls$Text;", true)
  | 1 => ("ClubRolls", "club", "LClubRolls$Club;", true)
  | 2 => ("ClubRolls", "newClub", "LClubRolls$Club;", true)
  | 3 => ("ClubRolls", "trial", "LClubRolls$Club;", true)
  | 4 => ("ClubRolls", "history", "LClubRolls$History;", true)
  | 5 => ("ClubRolls", "slots", "[LClubRolls$Club;", true)
  | _ => ("ClubRolls", "isSaved", "[Z", true)
def tyX6 : Nat → FieldType := fun k => match k with
  | 0 => .object "ClubRolls$Text"
  | 1 => .object "ClubRolls$Club"
  | 2 => .object "ClubRolls$Club"
  | 3 => .object "ClubRolls$Club"
  | 4 => .object "ClubRolls$History"
  | 5 => .array (.object "ClubRolls$Club")
  | _ => .array .boolean
abbrev wsX60 : List Cond := u_ws RX6 TX6 7
theorem nmX6 : ∀ a, a < 7 → ∀ b, b < 7 → a ≠ b → (TX6 a).2.1 ≠ (TX6 b).2.1 := by decide +kernel
theorem tyX6_ok : ∀ k, k < 7 → parseFieldDescriptor (TX6 k).2.2.1 = some (tyX6 k) := by decide +kernel
abbrev cX6_init : ByteArray := prog_1_method_1_code
def yX6_init : MethodName := ⟨RX6, "<init>", "()V"⟩
abbrev cX6_append : ByteArray := prog_1_method_2_code
def yX6_append : MethodName := ⟨RX6, "append", "(I)I"⟩
abbrev cX6_clearText : ByteArray := prog_1_method_3_code
def yX6_clearText : MethodName := ⟨RX6, "clearText", "()I"⟩
abbrev cX6_errorPosition : ByteArray := prog_1_method_4_code
def yX6_errorPosition : MethodName := ⟨RX6, "errorPosition", "()I"⟩
abbrev cX6_load : ByteArray := prog_1_method_5_code
def yX6_load : MethodName := ⟨RX6, "load", "()I"⟩
abbrev cX6_about : ByteArray := prog_1_method_6_code
def yX6_about : MethodName := ⟨RX6, "about", "(I)I"⟩
abbrev cX6_memberOf : ByteArray := prog_1_method_7_code
def yX6_memberOf : MethodName := ⟨RX6, "memberOf", "(II)I"⟩
abbrev cX6_session : ByteArray := prog_1_method_8_code
def yX6_session : MethodName := ⟨RX6, "session", "(III)I"⟩
abbrev cX6_note : ByteArray := prog_1_method_9_code
def yX6_note : MethodName := ⟨RX6, "note", "(II)I"⟩
abbrev cX6_isCut : ByteArray := prog_1_method_10_code
def yX6_isCut : MethodName := ⟨RX6, "isCut", "(II)I"⟩
abbrev cX6_member : ByteArray := prog_1_method_11_code
def yX6_member : MethodName := ⟨RX6, "member", "(I)I"⟩
abbrev cX6_say : ByteArray := prog_1_method_12_code
def yX6_say : MethodName := ⟨RX6, "say", "(I)I"⟩
abbrev cX6_call : ByteArray := prog_1_method_13_code
def yX6_call : MethodName := ⟨RX6, "call", "(II)I"⟩
abbrev cX6_cut : ByteArray := prog_1_method_14_code
def yX6_cut : MethodName := ⟨RX6, "cut", "(IIZ)I"⟩
abbrev cX6_leave : ByteArray := prog_1_method_15_code
def yX6_leave : MethodName := ⟨RX6, "leave", "(I)I"⟩
abbrev cX6_back : ByteArray := prog_1_method_16_code
def yX6_back : MethodName := ⟨RX6, "back", "(I)I"⟩
abbrev cX6_set : ByteArray := prog_1_method_17_code
def yX6_set : MethodName := ⟨RX6, "set", "(I)I"⟩
abbrev cX6_ticks : ByteArray := prog_1_method_18_code
def yX6_ticks : MethodName := ⟨RX6, "ticks", "(I)I"⟩
abbrev cX6_undo : ByteArray := prog_1_method_19_code
def yX6_undo : MethodName := ⟨RX6, "undo", "()I"⟩
abbrev cX6_standsIn : ByteArray := prog_1_method_20_code
def yX6_standsIn : MethodName := ⟨RX6, "standsIn", "(III)I"⟩
abbrev cX6_compare : ByteArray := prog_1_method_21_code
def yX6_compare : MethodName := ⟨RX6, "compare", "(III)I"⟩
abbrev cX6_lacks : ByteArray := prog_1_method_22_code
def yX6_lacks : MethodName := ⟨RX6, "lacks", "(I)I"⟩
abbrev cX6_together : ByteArray := prog_1_method_23_code
def yX6_together : MethodName := ⟨RX6, "together", "()I"⟩
abbrev cX6_runScript : ByteArray := prog_1_method_24_code
def yX6_runScript : MethodName := ⟨RX6, "runScript", "(IJ)I"⟩
abbrev cX6_simulate : ByteArray := prog_1_method_25_code
def yX6_simulate : MethodName := ⟨RX6, "simulate", "(JI)I"⟩
abbrev cX6_save : ByteArray := prog_1_method_26_code
def yX6_save : MethodName := ⟨RX6, "save", "(I)I"⟩
abbrev cX6_restore : ByteArray := prog_1_method_27_code
def yX6_restore : MethodName := ⟨RX6, "restore", "(I)I"⟩
abbrev cX6_checkMember : ByteArray := prog_1_method_28_code
def yX6_checkMember : MethodName := ⟨RX6, "checkMember", "(I)V"⟩
abbrev cX6_checkSlot : ByteArray := prog_1_method_29_code
def yX6_checkSlot : MethodName := ⟨RX6, "checkSlot", "(I)V"⟩
abbrev cX6_succeeds : ByteArray := prog_1_method_30_code
def yX6_succeeds : MethodName := ⟨RX6, "succeeds", "(I)Z"⟩
abbrev cX6_takeTurn : ByteArray := prog_1_method_31_code
def yX6_takeTurn : MethodName := ⟨RX6, "takeTurn", "(I)V"⟩
abbrev cX6_isPlace : ByteArray := prog_1_method_32_code
def yX6_isPlace : MethodName := ⟨RX6, "isPlace", "(I)Z"⟩
abbrev cX6_isPatience : ByteArray := prog_1_method_33_code
def yX6_isPatience : MethodName := ⟨RX6, "isPatience", "(I)Z"⟩
abbrev cX6_areTicks : ByteArray := prog_1_method_34_code
def yX6_areTicks : MethodName := ⟨RX6, "areTicks", "(I)Z"⟩
abbrev cX6_hasBit : ByteArray := prog_1_method_35_code
def yX6_hasBit : MethodName := ⟨RX6, "hasBit", "(II)Z"⟩
def RX7 : String := "ClubRollsModel"
def TX7 : u_T := fun k => match k with
  | 0 => ("ClubRollsModel", "refusal", "I", false)
  | 1 => ("ClubRollsModel", "text", "[I", true)
  | 2 => ("ClubRollsModel", "size", "I", false)
  | 3 => ("ClubRollsModel", "now", "[I", true)
  | 4 => ("ClubRollsModel", "trial", "[I", true)
  | 5 => ("ClubRollsModel", "diary", "[I", true)
  | 6 => ("ClubRollsModel", "acts", "I", false)
  | 7 => ("ClubRollsModel", "kept", "[I", true)
  | 8 => ("ClubRollsModel", "isKept", "[Z", true)
  | 9 => ("ClubRollsModel", "come", "[I", true)
  | 10 => ("ClubRollsModel", "spot", "I", false)
  | _ => ("ClubRollsModel", "out", "I", false)
def tyX7 : Nat → FieldType := fun k => match k with
  | 0 => .int
  | 1 => .array .int
  | 2 => .int
  | 3 => .array .int
  | 4 => .array .int
  | 5 => .array .int
  | 6 => .int
  | 7 => .array .int
  | 8 => .array .boolean
  | 9 => .array .int
  | 10 => .int
  | _ => .int
abbrev wsX70 : List Cond := u_ws RX7 TX7 12
theorem nmX7 : ∀ a, a < 12 → ∀ b, b < 12 → a ≠ b → (TX7 a).2.1 ≠ (TX7 b).2.1 := by decide +kernel
theorem tyX7_ok : ∀ k, k < 12 → parseFieldDescriptor (TX7 k).2.2.1 = some (tyX7 k) := by decide +kernel
abbrev cX7_init : ByteArray := prog_9_method_1_code
def yX7_init : MethodName := ⟨RX7, "<init>", "()V"⟩
abbrev cX7_thrown : ByteArray := prog_9_method_2_code
def yX7_thrown : MethodName := ⟨RX7, "thrown", "()I"⟩
abbrev cX7_refused : ByteArray := prog_9_method_3_code
def yX7_refused : MethodName := ⟨RX7, "refused", "(I)Z"⟩
abbrev cX7_in : ByteArray := prog_9_method_4_code
def yX7_in : MethodName := ⟨RX7, "in", "(JJJ)Z"⟩
abbrev cX7_copyState : ByteArray := prog_9_method_5_code
def yX7_copyState : MethodName := ⟨RX7, "copyState", "([II[II)V"⟩
abbrev cX7_clear : ByteArray := prog_9_method_6_code
def yX7_clear : MethodName := ⟨RX7, "clear", "([I)V"⟩
abbrev cX7_of : ByteArray := prog_9_method_7_code
def yX7_of : MethodName := ⟨RX7, "of", "([III)I"⟩
abbrev cX7_lay : ByteArray := prog_9_method_8_code
def yX7_lay : MethodName := ⟨RX7, "lay", "([IIII)V"⟩
abbrev cX7_ofNote : ByteArray := prog_9_method_9_code
def yX7_ofNote : MethodName := ⟨RX7, "ofNote", "([III)I"⟩
abbrev cX7_isMember : ByteArray := prog_9_method_10_code
def yX7_isMember : MethodName := ⟨RX7, "isMember", "([II)Z"⟩
abbrev cX7_has : ByteArray := prog_9_method_11_code
def yX7_has : MethodName := ⟨RX7, "has", "(II)Z"⟩
abbrev cX7_bits : ByteArray := prog_9_method_12_code
def yX7_bits : MethodName := ⟨RX7, "bits", "(I)I"⟩
abbrev cX7_isOneRoll : ByteArray := prog_9_method_13_code
def yX7_isOneRoll : MethodName := ⟨RX7, "isOneRoll", "([III)Z"⟩
abbrev cX7_isSet : ByteArray := prog_9_method_14_code
def yX7_isSet : MethodName := ⟨RX7, "isSet", "([III)Z"⟩
abbrev cX7_far : ByteArray := prog_9_method_15_code
def yX7_far : MethodName := ⟨RX7, "far", "([III)I"⟩
abbrev cX7_send : ByteArray := prog_9_method_16_code
def yX7_send : MethodName := ⟨RX7, "send", "([IIIIIII)V"⟩
abbrev cX7_takeFirst : ByteArray := prog_9_method_17_code
def yX7_takeFirst : MethodName := ⟨RX7, "takeFirst", "([I)V"⟩
abbrev cX7_over : ByteArray := prog_9_method_18_code
def yX7_over : MethodName := ⟨RX7, "over", "([III)V"⟩
abbrev cX7_enter : ByteArray := prog_9_method_19_code
def yX7_enter : MethodName := ⟨RX7, "enter", "([IIIII)V"⟩
abbrev cX7_callsNone : ByteArray := prog_9_method_20_code
def yX7_callsNone : MethodName := ⟨RX7, "callsNone", "([II)V"⟩
abbrev cX7_told : ByteArray := prog_9_method_21_code
def yX7_told : MethodName := ⟨RX7, "told", "([IIIIII)V"⟩
abbrev cX7_heardBy : ByteArray := prog_9_method_22_code
def yX7_heardBy : MethodName := ⟨RX7, "heardBy", "([III)I"⟩
abbrev cX7_answers : ByteArray := prog_9_method_23_code
def yX7_answers : MethodName := ⟨RX7, "answers", "([IIIIII)V"⟩
abbrev cX7_stands : ByteArray := prog_9_method_24_code
def yX7_stands : MethodName := ⟨RX7, "stands", "([II)V"⟩
abbrev cX7_callOn : ByteArray := prog_9_method_25_code
def yX7_callOn : MethodName := ⟨RX7, "callOn", "([III)I"⟩
abbrev cX7_speech : ByteArray := prog_9_method_26_code
def yX7_speech : MethodName := ⟨RX7, "speech", "([I)V"⟩
abbrev cX7_called : ByteArray := prog_9_method_27_code
def yX7_called : MethodName := ⟨RX7, "called", "([I)V"⟩
abbrev cX7_replied : ByteArray := prog_9_method_28_code
def yX7_replied : MethodName := ⟨RX7, "replied", "([I)V"⟩
abbrev cX7_comes : ByteArray := prog_9_method_29_code
def yX7_comes : MethodName := ⟨RX7, "comes", "([I)V"⟩
abbrev cX7_tick : ByteArray := prog_9_method_30_code
def yX7_tick : MethodName := ⟨RX7, "tick", "([I)V"⟩
abbrev cX7_ticksOn : ByteArray := prog_9_method_31_code
def yX7_ticksOn : MethodName := ⟨RX7, "ticksOn", "([II)I"⟩
abbrev cX7_memberOn : ByteArray := prog_9_method_32_code
def yX7_memberOn : MethodName := ⟨RX7, "memberOn", "([II)I"⟩
abbrev cX7_canSay : ByteArray := prog_9_method_33_code
def yX7_canSay : MethodName := ⟨RX7, "canSay", "([II)Z"⟩
abbrev cX7_sayOn : ByteArray := prog_9_method_34_code
def yX7_sayOn : MethodName := ⟨RX7, "sayOn", "([II)I"⟩
abbrev cX7_canCall : ByteArray := prog_9_method_35_code
def yX7_canCall : MethodName := ⟨RX7, "canCall", "([III)Z"⟩
abbrev cX7_cutOn : ByteArray := prog_9_method_36_code
def yX7_cutOn : MethodName := ⟨RX7, "cutOn", "([IIIZ)I"⟩
abbrev cX7_isGone : ByteArray := prog_9_method_37_code
def yX7_isGone : MethodName := ⟨RX7, "isGone", "([II)Z"⟩
abbrev cX7_leaveOn : ByteArray := prog_9_method_38_code
def yX7_leaveOn : MethodName := ⟨RX7, "leaveOn", "([II)I"⟩
abbrev cX7_backOn : ByteArray := prog_9_method_39_code
def yX7_backOn : MethodName := ⟨RX7, "backOn", "([II)I"⟩
abbrev cX7_append : ByteArray := prog_9_method_40_code
def yX7_append : MethodName := ⟨RX7, "append", "(I)I"⟩
abbrev cX7_clearText : ByteArray := prog_9_method_41_code
def yX7_clearText : MethodName := ⟨RX7, "clearText", "()I"⟩
abbrev cX7_figures : ByteArray := prog_9_method_42_code
def yX7_figures : MethodName := ⟨RX7, "figures", "(IIII)I"⟩
abbrev cX7_done : ByteArray := prog_9_method_43_code
def yX7_done : MethodName := ⟨RX7, "done", "(Z)Z"⟩
abbrev cX7_who : ByteArray := prog_9_method_44_code
def yX7_who : MethodName := ⟨RX7, "who", "(I)I"⟩
abbrev cX7_readCommand : ByteArray := prog_9_method_45_code
def yX7_readCommand : MethodName := ⟨RX7, "readCommand", "([I)Z"⟩
abbrev cX7_readText : ByteArray := prog_9_method_46_code
def yX7_readText : MethodName := ⟨RX7, "readText", "([I)I"⟩
abbrev cX7_errorPosition : ByteArray := prog_9_method_47_code
def yX7_errorPosition : MethodName := ⟨RX7, "errorPosition", "()I"⟩
abbrev cX7_load : ByteArray := prog_9_method_48_code
def yX7_load : MethodName := ⟨RX7, "load", "()I"⟩
abbrev cX7_thoseWho : ByteArray := prog_9_method_49_code
def yX7_thoseWho : MethodName := ⟨RX7, "thoseWho", "([II)I"⟩
abbrev cX7_about : ByteArray := prog_9_method_50_code
def yX7_about : MethodName := ⟨RX7, "about", "(I)I"⟩
abbrev cX7_memberOf : ByteArray := prog_9_method_51_code
def yX7_memberOf : MethodName := ⟨RX7, "memberOf", "(II)I"⟩
abbrev cX7_session : ByteArray := prog_9_method_52_code
def yX7_session : MethodName := ⟨RX7, "session", "(III)I"⟩
abbrev cX7_note : ByteArray := prog_9_method_53_code
def yX7_note : MethodName := ⟨RX7, "note", "(II)I"⟩
abbrev cX7_isCut : ByteArray := prog_9_method_54_code
def yX7_isCut : MethodName := ⟨RX7, "isCut", "(II)I"⟩
abbrev cX7_remember : ByteArray := prog_9_method_55_code
def yX7_remember : MethodName := ⟨RX7, "remember", "()V"⟩
abbrev cX7_member : ByteArray := prog_9_method_56_code
def yX7_member : MethodName := ⟨RX7, "member", "(I)I"⟩
abbrev cX7_say : ByteArray := prog_9_method_57_code
def yX7_say : MethodName := ⟨RX7, "say", "(I)I"⟩
abbrev cX7_call : ByteArray := prog_9_method_58_code
def yX7_call : MethodName := ⟨RX7, "call", "(II)I"⟩
abbrev cX7_cut : ByteArray := prog_9_method_59_code
def yX7_cut : MethodName := ⟨RX7, "cut", "(IIZ)I"⟩
abbrev cX7_leave : ByteArray := prog_9_method_60_code
def yX7_leave : MethodName := ⟨RX7, "leave", "(I)I"⟩
abbrev cX7_back : ByteArray := prog_9_method_61_code
def yX7_back : MethodName := ⟨RX7, "back", "(I)I"⟩
abbrev cX7_set : ByteArray := prog_9_method_62_code
def yX7_set : MethodName := ⟨RX7, "set", "(I)I"⟩
abbrev cX7_ticks : ByteArray := prog_9_method_63_code
def yX7_ticks : MethodName := ⟨RX7, "ticks", "(I)I"⟩
abbrev cX7_undo : ByteArray := prog_9_method_64_code
def yX7_undo : MethodName := ⟨RX7, "undo", "()I"⟩
abbrev cX7_isThere : ByteArray := prog_9_method_65_code
def yX7_isThere : MethodName := ⟨RX7, "isThere", "(IIII)Z"⟩
abbrev cX7_standsIn : ByteArray := prog_9_method_66_code
def yX7_standsIn : MethodName := ⟨RX7, "standsIn", "(III)I"⟩
abbrev cX7_standsNow : ByteArray := prog_9_method_67_code
def yX7_standsNow : MethodName := ⟨RX7, "standsNow", "(II)Z"⟩
abbrev cX7_compare : ByteArray := prog_9_method_68_code
def yX7_compare : MethodName := ⟨RX7, "compare", "(III)I"⟩
abbrev cX7_compared : ByteArray := prog_9_method_69_code
def yX7_compared : MethodName := ⟨RX7, "compared", "([IIII)I"⟩
abbrev cX7_lacks : ByteArray := prog_9_method_70_code
def yX7_lacks : MethodName := ⟨RX7, "lacks", "(I)I"⟩
abbrev cX7_together : ByteArray := prog_9_method_71_code
def yX7_together : MethodName := ⟨RX7, "together", "()I"⟩
abbrev cX7_command : ByteArray := prog_9_method_72_code
def yX7_command : MethodName := ⟨RX7, "command", "(II)Z"⟩
abbrev cX7_runScript : ByteArray := prog_9_method_73_code
def yX7_runScript : MethodName := ⟨RX7, "runScript", "(IJ)I"⟩
abbrev cX7_turn : ByteArray := prog_9_method_74_code
def yX7_turn : MethodName := ⟨RX7, "turn", "(I)V"⟩
abbrev cX7_turnGoing : ByteArray := prog_9_method_75_code
def yX7_turnGoing : MethodName := ⟨RX7, "turnGoing", "(IZ)V"⟩
abbrev cX7_simulate : ByteArray := prog_9_method_76_code
def yX7_simulate : MethodName := ⟨RX7, "simulate", "(JI)I"⟩
abbrev cX7_save : ByteArray := prog_9_method_77_code
def yX7_save : MethodName := ⟨RX7, "save", "(I)I"⟩
abbrev cX7_restore : ByteArray := prog_9_method_78_code
def yX7_restore : MethodName := ⟨RX7, "restore", "(I)I"⟩
def RJ6 : String := "java/lang/Integer"
def TJ6 : u_T := fun k => match k with
  | _ => ("", "", "", false)
def tyJ6 : Nat → FieldType := fun k => match k with
  | _ => .int
abbrev wsJ60 : List Cond := u_ws RJ6 TJ6 0
theorem nmJ6 : ∀ a, a < 0 → ∀ b, b < 0 → a ≠ b → (TJ6 a).2.1 ≠ (TJ6 b).2.1 := by decide +kernel
theorem tyJ6_ok : ∀ k, k < 0 → parseFieldDescriptor (TJ6 k).2.2.1 = some (tyJ6 k) := by decide +kernel
abbrev cJ6_bitCount_0f7a4 : ByteArray := prog_14_method_49_code
def yJ6_bitCount_0f7a4 : MethodName := ⟨RJ6, "bitCount", "(I)I"⟩
def RJ9 : String := "java/lang/Math"
def TJ9 : u_T := fun k => match k with
  | _ => ("", "", "", false)
def tyJ9 : Nat → FieldType := fun k => match k with
  | _ => .int
abbrev wsJ90 : List Cond := u_ws RJ9 TJ9 0
theorem nmJ9 : ∀ a, a < 0 → ∀ b, b < 0 → a ≠ b → (TJ9 a).2.1 ≠ (TJ9 b).2.1 := by decide +kernel
theorem tyJ9_ok : ∀ k, k < 0 → parseFieldDescriptor (TJ9 k).2.2.1 = some (tyJ9 k) := by decide +kernel
abbrev cJ9_abs_0f7a4 : ByteArray := prog_15_method_59_code
def yJ9_abs_0f7a4 : MethodName := ⟨RJ9, "abs", "(I)I"⟩
abbrev cJ9_min_7cf53 : ByteArray := prog_15_method_69_code
def yJ9_min_7cf53 : MethodName := ⟨RJ9, "min", "(II)I"⟩
def RJ0 : String := "java/lang/String"
def TJ0 : u_T := fun k => match k with
  | _ => ("", "", "", false)
def tyJ0 : Nat → FieldType := fun k => match k with
  | _ => .int
abbrev wsJ00 : List Cond := u_ws RJ0 TJ0 0
theorem nmJ0 : ∀ a, a < 0 → ∀ b, b < 0 → a ≠ b → (TJ0 a).2.1 ≠ (TJ0 b).2.1 := by decide +kernel
theorem tyJ0_ok : ∀ k, k < 0 → parseFieldDescriptor (TJ0 k).2.2.1 = some (tyJ0 k) := by decide +kernel
def RJ10 : String := "java/lang/System"
def TJ10 : u_T := fun k => match k with
  | _ => ("", "", "", false)
def tyJ10 : Nat → FieldType := fun k => match k with
  | _ => .int
abbrev wsJ100 : List Cond := u_ws RJ10 TJ10 0
theorem nmJ10 : ∀ a, a < 0 → ∀ b, b < 0 → a ≠ b → (TJ10 a).2.1 ≠ (TJ10 b).2.1 := by decide +kernel
theorem tyJ10_ok : ∀ k, k < 0 → parseFieldDescriptor (TJ10 k).2.2.1 = some (tyJ10 k) := by decide +kernel
def RL : String := "ClubRollsLaw"
abbrev cL_append : ByteArray := method_3_code
def yL_append : MethodName := ⟨RL, "append", "(LClubRolls;I[J)I"⟩
abbrev cL_load : ByteArray := method_4_code
def yL_load : MethodName := ⟨RL, "load", "(LClubRolls;[J)I"⟩
abbrev cL_about : ByteArray := method_5_code
def yL_about : MethodName := ⟨RL, "about", "(LClubRolls;I[J)I"⟩
abbrev cL_memberOf : ByteArray := method_6_code
def yL_memberOf : MethodName := ⟨RL, "memberOf", "(LClubRolls;II[J)I"⟩
abbrev cL_session : ByteArray := method_7_code
def yL_session : MethodName := ⟨RL, "session", "(LClubRolls;III[J)I"⟩
abbrev cL_note : ByteArray := method_8_code
def yL_note : MethodName := ⟨RL, "note", "(LClubRolls;II[J)I"⟩
abbrev cL_isCut : ByteArray := method_9_code
def yL_isCut : MethodName := ⟨RL, "isCut", "(LClubRolls;II[J)I"⟩
abbrev cL_member : ByteArray := method_10_code
def yL_member : MethodName := ⟨RL, "member", "(LClubRolls;I[J)I"⟩
abbrev cL_say : ByteArray := method_11_code
def yL_say : MethodName := ⟨RL, "say", "(LClubRolls;I[J)I"⟩
abbrev cL_call : ByteArray := method_12_code
def yL_call : MethodName := ⟨RL, "call", "(LClubRolls;II[J)I"⟩
abbrev cL_cut : ByteArray := method_13_code
def yL_cut : MethodName := ⟨RL, "cut", "(LClubRolls;IIZ[J)I"⟩
abbrev cL_leave : ByteArray := method_14_code
def yL_leave : MethodName := ⟨RL, "leave", "(LClubRolls;I[J)I"⟩
abbrev cL_back : ByteArray := method_15_code
def yL_back : MethodName := ⟨RL, "back", "(LClubRolls;I[J)I"⟩
abbrev cL_set : ByteArray := method_16_code
def yL_set : MethodName := ⟨RL, "set", "(LClubRolls;I[J)I"⟩
abbrev cL_ticks : ByteArray := method_17_code
def yL_ticks : MethodName := ⟨RL, "ticks", "(LClubRolls;I[J)I"⟩
abbrev cL_undo : ByteArray := method_18_code
def yL_undo : MethodName := ⟨RL, "undo", "(LClubRolls;[J)I"⟩
abbrev cL_standsIn : ByteArray := method_19_code
def yL_standsIn : MethodName := ⟨RL, "standsIn", "(LClubRolls;III[J)I"⟩
abbrev cL_compare : ByteArray := method_20_code
def yL_compare : MethodName := ⟨RL, "compare", "(LClubRolls;III[J)I"⟩
abbrev cL_lacks : ByteArray := method_21_code
def yL_lacks : MethodName := ⟨RL, "lacks", "(LClubRolls;I[J)I"⟩
abbrev cL_runScript : ByteArray := method_22_code
def yL_runScript : MethodName := ⟨RL, "runScript", "(LClubRolls;IJ[J)I"⟩
abbrev cL_simulate : ByteArray := method_23_code
def yL_simulate : MethodName := ⟨RL, "simulate", "(LClubRolls;JI[J)I"⟩
abbrev cL_save : ByteArray := method_24_code
def yL_save : MethodName := ⟨RL, "save", "(LClubRolls;I[J)I"⟩
abbrev cL_restore : ByteArray := method_25_code
def yL_restore : MethodName := ⟨RL, "restore", "(LClubRolls;I[J)I"⟩
abbrev cL_law : ByteArray := code
def yL_law : MethodName := ⟨RL, "law", "([I)Z"⟩
theorem dJ6_bitCount_0f7a4_0 : decode cJ6_bitCount_0f7a4 0 = .ok (.iload_n 0, 1) := by decide +kernel
theorem dJ6_bitCount_0f7a4_1 : decode cJ6_bitCount_0f7a4 1 = .ok (.iload_n 0, 1) := by decide +kernel
theorem dJ6_bitCount_0f7a4_2 : decode cJ6_bitCount_0f7a4 2 = .ok (.iconst 1, 1) := by decide +kernel
theorem dJ6_bitCount_0f7a4_3 : decode cJ6_bitCount_0f7a4 3 = .ok (.iushr, 1) := by decide +kernel
theorem dJ6_bitCount_0f7a4_4 : decode cJ6_bitCount_0f7a4 4 = .ok (.ldc_w 265, 3) := by decide +kernel
theorem dJ6_bitCount_0f7a4_7 : decode cJ6_bitCount_0f7a4 7 = .ok (.iand, 1) := by decide +kernel
theorem dJ6_bitCount_0f7a4_8 : decode cJ6_bitCount_0f7a4 8 = .ok (.isub, 1) := by decide +kernel
theorem dJ6_bitCount_0f7a4_9 : decode cJ6_bitCount_0f7a4 9 = .ok (.istore_n 0, 1) := by decide +kernel
theorem dJ6_bitCount_0f7a4_10 : decode cJ6_bitCount_0f7a4 10 = .ok (.iload_n 0, 1) := by decide +kernel
theorem dJ6_bitCount_0f7a4_11 : decode cJ6_bitCount_0f7a4 11 = .ok (.ldc_w 266, 3) := by decide +kernel
theorem dJ6_bitCount_0f7a4_14 : decode cJ6_bitCount_0f7a4 14 = .ok (.iand, 1) := by decide +kernel
theorem dJ6_bitCount_0f7a4_15 : decode cJ6_bitCount_0f7a4 15 = .ok (.iload_n 0, 1) := by decide +kernel
theorem dJ6_bitCount_0f7a4_16 : decode cJ6_bitCount_0f7a4 16 = .ok (.iconst 2, 1) := by decide +kernel
theorem dJ6_bitCount_0f7a4_17 : decode cJ6_bitCount_0f7a4 17 = .ok (.iushr, 1) := by decide +kernel
theorem dJ6_bitCount_0f7a4_18 : decode cJ6_bitCount_0f7a4 18 = .ok (.ldc_w 266, 3) := by decide +kernel
theorem dJ6_bitCount_0f7a4_21 : decode cJ6_bitCount_0f7a4 21 = .ok (.iand, 1) := by decide +kernel
theorem dJ6_bitCount_0f7a4_22 : decode cJ6_bitCount_0f7a4 22 = .ok (.iadd, 1) := by decide +kernel
theorem dJ6_bitCount_0f7a4_23 : decode cJ6_bitCount_0f7a4 23 = .ok (.istore_n 0, 1) := by decide +kernel
theorem dJ6_bitCount_0f7a4_24 : decode cJ6_bitCount_0f7a4 24 = .ok (.iload_n 0, 1) := by decide +kernel
theorem dJ6_bitCount_0f7a4_25 : decode cJ6_bitCount_0f7a4 25 = .ok (.iload_n 0, 1) := by decide +kernel
theorem dJ6_bitCount_0f7a4_26 : decode cJ6_bitCount_0f7a4 26 = .ok (.iconst 4, 1) := by decide +kernel
theorem dJ6_bitCount_0f7a4_27 : decode cJ6_bitCount_0f7a4 27 = .ok (.iushr, 1) := by decide +kernel
theorem dJ6_bitCount_0f7a4_28 : decode cJ6_bitCount_0f7a4 28 = .ok (.iadd, 1) := by decide +kernel
theorem dJ6_bitCount_0f7a4_29 : decode cJ6_bitCount_0f7a4 29 = .ok (.ldc_w 267, 3) := by decide +kernel
theorem dJ6_bitCount_0f7a4_32 : decode cJ6_bitCount_0f7a4 32 = .ok (.iand, 1) := by decide +kernel
theorem dJ6_bitCount_0f7a4_33 : decode cJ6_bitCount_0f7a4 33 = .ok (.istore_n 0, 1) := by decide +kernel
theorem dJ6_bitCount_0f7a4_34 : decode cJ6_bitCount_0f7a4 34 = .ok (.iload_n 0, 1) := by decide +kernel
theorem dJ6_bitCount_0f7a4_35 : decode cJ6_bitCount_0f7a4 35 = .ok (.iload_n 0, 1) := by decide +kernel
theorem dJ6_bitCount_0f7a4_36 : decode cJ6_bitCount_0f7a4 36 = .ok (.bipush 8, 2) := by decide +kernel
theorem dJ6_bitCount_0f7a4_38 : decode cJ6_bitCount_0f7a4 38 = .ok (.iushr, 1) := by decide +kernel
theorem dJ6_bitCount_0f7a4_39 : decode cJ6_bitCount_0f7a4 39 = .ok (.iadd, 1) := by decide +kernel
theorem dJ6_bitCount_0f7a4_40 : decode cJ6_bitCount_0f7a4 40 = .ok (.istore_n 0, 1) := by decide +kernel
theorem dJ6_bitCount_0f7a4_41 : decode cJ6_bitCount_0f7a4 41 = .ok (.iload_n 0, 1) := by decide +kernel
theorem dJ6_bitCount_0f7a4_42 : decode cJ6_bitCount_0f7a4 42 = .ok (.iload_n 0, 1) := by decide +kernel
theorem dJ6_bitCount_0f7a4_43 : decode cJ6_bitCount_0f7a4 43 = .ok (.bipush 16, 2) := by decide +kernel
theorem dJ6_bitCount_0f7a4_45 : decode cJ6_bitCount_0f7a4 45 = .ok (.iushr, 1) := by decide +kernel
theorem dJ6_bitCount_0f7a4_46 : decode cJ6_bitCount_0f7a4 46 = .ok (.iadd, 1) := by decide +kernel
theorem dJ6_bitCount_0f7a4_47 : decode cJ6_bitCount_0f7a4 47 = .ok (.istore_n 0, 1) := by decide +kernel
theorem dJ6_bitCount_0f7a4_48 : decode cJ6_bitCount_0f7a4 48 = .ok (.iload_n 0, 1) := by decide +kernel
theorem dJ6_bitCount_0f7a4_49 : decode cJ6_bitCount_0f7a4 49 = .ok (.bipush 63, 2) := by decide +kernel
theorem dJ6_bitCount_0f7a4_51 : decode cJ6_bitCount_0f7a4 51 = .ok (.iand, 1) := by decide +kernel
theorem dJ6_bitCount_0f7a4_52 : decode cJ6_bitCount_0f7a4 52 = .ok (.ireturn, 1) := by decide +kernel
theorem dJ9_abs_0f7a4_0 : decode cJ9_abs_0f7a4 0 = .ok (.iload_n 0, 1) := by decide +kernel
theorem dJ9_abs_0f7a4_1 : decode cJ9_abs_0f7a4 1 = .ok (.ifCond .ge 8, 3) := by decide +kernel
theorem dJ9_abs_0f7a4_4 : decode cJ9_abs_0f7a4 4 = .ok (.iload_n 0, 1) := by decide +kernel
theorem dJ9_abs_0f7a4_5 : decode cJ9_abs_0f7a4 5 = .ok (.ineg, 1) := by decide +kernel
theorem dJ9_abs_0f7a4_6 : decode cJ9_abs_0f7a4 6 = .ok (.goto 4, 3) := by decide +kernel
theorem dJ9_abs_0f7a4_9 : decode cJ9_abs_0f7a4 9 = .ok (.iload_n 0, 1) := by decide +kernel
theorem dJ9_abs_0f7a4_10 : decode cJ9_abs_0f7a4 10 = .ok (.ireturn, 1) := by decide +kernel
theorem dJ9_min_7cf53_0 : decode cJ9_min_7cf53 0 = .ok (.iload_n 0, 1) := by decide +kernel
theorem dJ9_min_7cf53_1 : decode cJ9_min_7cf53 1 = .ok (.iload_n 1, 1) := by decide +kernel
theorem dJ9_min_7cf53_2 : decode cJ9_min_7cf53 2 = .ok (.if_icmp .gt 7, 3) := by decide +kernel
theorem dJ9_min_7cf53_5 : decode cJ9_min_7cf53 5 = .ok (.iload_n 0, 1) := by decide +kernel
theorem dJ9_min_7cf53_6 : decode cJ9_min_7cf53 6 = .ok (.goto 4, 3) := by decide +kernel
theorem dJ9_min_7cf53_9 : decode cJ9_min_7cf53 9 = .ok (.iload_n 1, 1) := by decide +kernel
theorem dJ9_min_7cf53_10 : decode cJ9_min_7cf53 10 = .ok (.ireturn, 1) := by decide +kernel
abbrev vwCl : List vw_C := [(RX0, TX0, 9), (RX1, TX1, 3), (RX2, TX2, 16), (RX3, TX3, 5), (RX4, TX4, 4), (RX5, TX5, 2), (RX6, TX6, 7), (RX7, TX7, 12)]
end
section
theorem dX0_init_0 : decode cX0_init 0 = .ok (.aload_n 0, 1) := by decide +kernel
theorem dX0_init_1 : decode cX0_init 1 = .ok (.invokespecial 3, 3) := by decide +kernel
theorem dX0_init_4 : decode cX0_init 4 = .ok (.aload_n 0, 1) := by decide +kernel
theorem dX0_init_5 : decode cX0_init 5 = .ok (.bipush 6, 2) := by decide +kernel
theorem dX0_init_7 : decode cX0_init 7 = .ok (.anewarray 9, 3) := by decide +kernel
theorem dX0_init_10 : decode cX0_init 10 = .ok (.putfield 11, 3) := by decide +kernel
theorem dX0_init_13 : decode cX0_init 13 = .ok (.aload_n 0, 1) := by decide +kernel
theorem dX0_init_14 : decode cX0_init 14 = .ok (.new 17, 3) := by decide +kernel
theorem dX0_init_17 : decode cX0_init 17 = .ok (.dup, 1) := by decide +kernel
theorem dX0_init_18 : decode cX0_init 18 = .ok (.invokespecial 19, 3) := by decide +kernel
theorem dX0_init_21 : decode cX0_init 21 = .ok (.putfield 20, 3) := by decide +kernel
theorem dX0_init_24 : decode cX0_init 24 = .ok (.aload_n 0, 1) := by decide +kernel
theorem dX0_init_25 : decode cX0_init 25 = .ok (.bipush 9, 2) := by decide +kernel
theorem dX0_init_27 : decode cX0_init 27 = .ok (.newarray .int, 2) := by decide +kernel
theorem dX0_init_29 : decode cX0_init 29 = .ok (.putfield 24, 3) := by decide +kernel
theorem dX0_init_32 : decode cX0_init 32 = .ok (.iconst 0, 1) := by decide +kernel
theorem dX0_init_33 : decode cX0_init 33 = .ok (.istore_n 1, 1) := by decide +kernel
theorem dX0_init_34 : decode cX0_init 34 = .ok (.iload_n 1, 1) := by decide +kernel
theorem dX0_init_35 : decode cX0_init 35 = .ok (.bipush 6, 2) := by decide +kernel
theorem dX0_init_37 : decode cX0_init 37 = .ok (.if_icmp .ge 23, 3) := by decide +kernel
theorem dX0_init_40 : decode cX0_init 40 = .ok (.aload_n 0, 1) := by decide +kernel
theorem dX0_init_41 : decode cX0_init 41 = .ok (.getfield 11, 3) := by decide +kernel
theorem dX0_init_44 : decode cX0_init 44 = .ok (.iload_n 1, 1) := by decide +kernel
theorem dX0_init_45 : decode cX0_init 45 = .ok (.new 9, 3) := by decide +kernel
theorem dX0_init_48 : decode cX0_init 48 = .ok (.dup, 1) := by decide +kernel
theorem dX0_init_49 : decode cX0_init 49 = .ok (.iload_n 1, 1) := by decide +kernel
theorem dX0_init_50 : decode cX0_init 50 = .ok (.invokespecial 28, 3) := by decide +kernel
theorem dX0_init_53 : decode cX0_init 53 = .ok (.aastore, 1) := by decide +kernel
theorem dX0_init_54 : decode cX0_init 54 = .ok (.iinc 1 1, 3) := by decide +kernel
theorem dX0_init_57 : decode cX0_init 57 = .ok (.goto (-23), 3) := by decide +kernel
theorem dX0_init_60 : decode cX0_init 60 = .ok (.return_, 1) := by decide +kernel
theorem dX0_copyFrom_0 : decode cX0_copyFrom 0 = .ok (.iconst 0, 1) := by decide +kernel
theorem dX0_copyFrom_1 : decode cX0_copyFrom 1 = .ok (.istore_n 2, 1) := by decide +kernel
theorem dX0_copyFrom_2 : decode cX0_copyFrom 2 = .ok (.iload_n 2, 1) := by decide +kernel
theorem dX0_copyFrom_3 : decode cX0_copyFrom 3 = .ok (.bipush 6, 2) := by decide +kernel
theorem dX0_copyFrom_5 : decode cX0_copyFrom 5 = .ok (.if_icmp .ge 24, 3) := by decide +kernel
theorem dX0_copyFrom_8 : decode cX0_copyFrom 8 = .ok (.aload_n 0, 1) := by decide +kernel
theorem dX0_copyFrom_9 : decode cX0_copyFrom 9 = .ok (.getfield 11, 3) := by decide +kernel
theorem dX0_copyFrom_12 : decode cX0_copyFrom 12 = .ok (.iload_n 2, 1) := by decide +kernel
theorem dX0_copyFrom_13 : decode cX0_copyFrom 13 = .ok (.aaload, 1) := by decide +kernel
theorem dX0_copyFrom_14 : decode cX0_copyFrom 14 = .ok (.aload_n 1, 1) := by decide +kernel
theorem dX0_copyFrom_15 : decode cX0_copyFrom 15 = .ok (.getfield 11, 3) := by decide +kernel
theorem dX0_copyFrom_18 : decode cX0_copyFrom 18 = .ok (.iload_n 2, 1) := by decide +kernel
theorem dX0_copyFrom_19 : decode cX0_copyFrom 19 = .ok (.aaload, 1) := by decide +kernel
theorem dX0_copyFrom_20 : decode cX0_copyFrom 20 = .ok (.invokevirtual 31, 3) := by decide +kernel
theorem dX0_copyFrom_23 : decode cX0_copyFrom 23 = .ok (.iinc 2 1, 3) := by decide +kernel
theorem dX0_copyFrom_26 : decode cX0_copyFrom 26 = .ok (.goto (-24), 3) := by decide +kernel
theorem dX0_copyFrom_29 : decode cX0_copyFrom 29 = .ok (.aload_n 0, 1) := by decide +kernel
theorem dX0_copyFrom_30 : decode cX0_copyFrom 30 = .ok (.getfield 20, 3) := by decide +kernel
theorem dX0_copyFrom_33 : decode cX0_copyFrom 33 = .ok (.aload_n 1, 1) := by decide +kernel
theorem dX0_copyFrom_34 : decode cX0_copyFrom 34 = .ok (.getfield 20, 3) := by decide +kernel
theorem dX0_copyFrom_37 : decode cX0_copyFrom 37 = .ok (.invokevirtual 35, 3) := by decide +kernel
theorem dX0_copyFrom_40 : decode cX0_copyFrom 40 = .ok (.aload_n 0, 1) := by decide +kernel
theorem dX0_copyFrom_41 : decode cX0_copyFrom 41 = .ok (.aload_n 1, 1) := by decide +kernel
theorem dX0_copyFrom_42 : decode cX0_copyFrom 42 = .ok (.getfield 38, 3) := by decide +kernel
theorem dX0_copyFrom_45 : decode cX0_copyFrom 45 = .ok (.putfield 38, 3) := by decide +kernel
theorem dX0_copyFrom_48 : decode cX0_copyFrom 48 = .ok (.aload_n 0, 1) := by decide +kernel
theorem dX0_copyFrom_49 : decode cX0_copyFrom 49 = .ok (.aload_n 1, 1) := by decide +kernel
theorem dX0_copyFrom_50 : decode cX0_copyFrom 50 = .ok (.getfield 42, 3) := by decide +kernel
theorem dX0_copyFrom_53 : decode cX0_copyFrom 53 = .ok (.putfield 42, 3) := by decide +kernel
theorem dX0_copyFrom_56 : decode cX0_copyFrom 56 = .ok (.aload_n 0, 1) := by decide +kernel
theorem dX0_copyFrom_57 : decode cX0_copyFrom 57 = .ok (.aload_n 1, 1) := by decide +kernel
theorem dX0_copyFrom_58 : decode cX0_copyFrom 58 = .ok (.getfield 45, 3) := by decide +kernel
theorem dX0_copyFrom_61 : decode cX0_copyFrom 61 = .ok (.putfield 45, 3) := by decide +kernel
theorem dX0_copyFrom_64 : decode cX0_copyFrom 64 = .ok (.aload_n 0, 1) := by decide +kernel
theorem dX0_copyFrom_65 : decode cX0_copyFrom 65 = .ok (.aload_n 1, 1) := by decide +kernel
theorem dX0_copyFrom_66 : decode cX0_copyFrom 66 = .ok (.getfield 48, 3) := by decide +kernel
theorem dX0_copyFrom_69 : decode cX0_copyFrom 69 = .ok (.putfield 48, 3) := by decide +kernel
theorem dX0_copyFrom_72 : decode cX0_copyFrom 72 = .ok (.aload_n 0, 1) := by decide +kernel
theorem dX0_copyFrom_73 : decode cX0_copyFrom 73 = .ok (.aload_n 1, 1) := by decide +kernel
theorem dX0_copyFrom_74 : decode cX0_copyFrom 74 = .ok (.getfield 51, 3) := by decide +kernel
theorem dX0_copyFrom_77 : decode cX0_copyFrom 77 = .ok (.putfield 51, 3) := by decide +kernel
theorem dX0_copyFrom_80 : decode cX0_copyFrom 80 = .ok (.aload_n 0, 1) := by decide +kernel
theorem dX0_copyFrom_81 : decode cX0_copyFrom 81 = .ok (.aload_n 1, 1) := by decide +kernel
theorem dX0_copyFrom_82 : decode cX0_copyFrom 82 = .ok (.getfield 54, 3) := by decide +kernel
theorem dX0_copyFrom_85 : decode cX0_copyFrom 85 = .ok (.putfield 54, 3) := by decide +kernel
theorem dX0_copyFrom_88 : decode cX0_copyFrom 88 = .ok (.return_, 1) := by decide +kernel
theorem dX0_hasMember_0 : decode cX0_hasMember 0 = .ok (.iload_n 1, 1) := by decide +kernel
theorem dX0_hasMember_1 : decode cX0_hasMember 1 = .ok (.ifCond .lt 15, 3) := by decide +kernel
theorem dX0_hasMember_4 : decode cX0_hasMember 4 = .ok (.iload_n 1, 1) := by decide +kernel
theorem dX0_hasMember_5 : decode cX0_hasMember 5 = .ok (.aload_n 0, 1) := by decide +kernel
theorem dX0_hasMember_6 : decode cX0_hasMember 6 = .ok (.getfield 38, 3) := by decide +kernel
theorem dX0_hasMember_9 : decode cX0_hasMember 9 = .ok (.if_icmp .ge 7, 3) := by decide +kernel
theorem dX0_hasMember_12 : decode cX0_hasMember 12 = .ok (.iconst 1, 1) := by decide +kernel
theorem dX0_hasMember_13 : decode cX0_hasMember 13 = .ok (.goto 4, 3) := by decide +kernel
theorem dX0_hasMember_16 : decode cX0_hasMember 16 = .ok (.iconst 0, 1) := by decide +kernel
theorem dX0_hasMember_17 : decode cX0_hasMember 17 = .ok (.ireturn, 1) := by decide +kernel
theorem dX0_isGone_0 : decode cX0_isGone 0 = .ok (.aload_n 0, 1) := by decide +kernel
theorem dX0_isGone_1 : decode cX0_isGone 1 = .ok (.getfield 11, 3) := by decide +kernel
theorem dX0_isGone_4 : decode cX0_isGone 4 = .ok (.iload_n 1, 1) := by decide +kernel
theorem dX0_isGone_5 : decode cX0_isGone 5 = .ok (.aaload, 1) := by decide +kernel
theorem dX0_isGone_6 : decode cX0_isGone 6 = .ok (.getfield 57, 3) := by decide +kernel
theorem dX0_isGone_9 : decode cX0_isGone 9 = .ok (.iconst 2, 1) := by decide +kernel
theorem dX0_isGone_10 : decode cX0_isGone 10 = .ok (.if_icmp .ne 7, 3) := by decide +kernel
theorem dX0_isGone_13 : decode cX0_isGone 13 = .ok (.iconst 1, 1) := by decide +kernel
theorem dX0_isGone_14 : decode cX0_isGone 14 = .ok (.goto 4, 3) := by decide +kernel
theorem dX0_isGone_17 : decode cX0_isGone 17 = .ok (.iconst 0, 1) := by decide +kernel
theorem dX0_isGone_18 : decode cX0_isGone 18 = .ok (.ireturn, 1) := by decide +kernel
theorem dX0_everybody_0 : decode cX0_everybody 0 = .ok (.iconst 1, 1) := by decide +kernel
theorem dX0_everybody_1 : decode cX0_everybody 1 = .ok (.aload_n 0, 1) := by decide +kernel
theorem dX0_everybody_2 : decode cX0_everybody 2 = .ok (.getfield 38, 3) := by decide +kernel
theorem dX0_everybody_5 : decode cX0_everybody 5 = .ok (.ishl, 1) := by decide +kernel
theorem dX0_everybody_6 : decode cX0_everybody 6 = .ok (.iconst 1, 1) := by decide +kernel
theorem dX0_everybody_7 : decode cX0_everybody 7 = .ok (.isub, 1) := by decide +kernel
theorem dX0_everybody_8 : decode cX0_everybody 8 = .ok (.ireturn, 1) := by decide +kernel
theorem dX0_isRollWith_0 : decode cX0_isRollWith 0 = .ok (.iload_n 2, 1) := by decide +kernel
theorem dX0_isRollWith_1 : decode cX0_isRollWith 1 = .ok (.aload_n 0, 1) := by decide +kernel
theorem dX0_isRollWith_2 : decode cX0_isRollWith 2 = .ok (.invokevirtual 60, 3) := by decide +kernel
theorem dX0_isRollWith_5 : decode cX0_isRollWith 5 = .ok (.iconst (-1), 1) := by decide +kernel
theorem dX0_isRollWith_6 : decode cX0_isRollWith 6 = .ok (.ixor, 1) := by decide +kernel
theorem dX0_isRollWith_7 : decode cX0_isRollWith 7 = .ok (.iand, 1) := by decide +kernel
theorem dX0_isRollWith_8 : decode cX0_isRollWith 8 = .ok (.ifCond .ne 15, 3) := by decide +kernel
theorem dX0_isRollWith_11 : decode cX0_isRollWith 11 = .ok (.iload_n 2, 1) := by decide +kernel
theorem dX0_isRollWith_12 : decode cX0_isRollWith 12 = .ok (.iload_n 1, 1) := by decide +kernel
theorem dX0_isRollWith_13 : decode cX0_isRollWith 13 = .ok (.invokestatic 64, 3) := by decide +kernel
theorem dX0_isRollWith_16 : decode cX0_isRollWith 16 = .ok (.ifCond .eq 7, 3) := by decide +kernel
theorem dX0_isRollWith_19 : decode cX0_isRollWith 19 = .ok (.iconst 1, 1) := by decide +kernel
theorem dX0_isRollWith_20 : decode cX0_isRollWith 20 = .ok (.goto 4, 3) := by decide +kernel
theorem dX0_isRollWith_23 : decode cX0_isRollWith 23 = .ok (.iconst 0, 1) := by decide +kernel
theorem dX0_isRollWith_24 : decode cX0_isRollWith 24 = .ok (.ireturn, 1) := by decide +kernel
theorem dX0_whoAre_0 : decode cX0_whoAre 0 = .ok (.iconst 0, 1) := by decide +kernel
theorem dX0_whoAre_1 : decode cX0_whoAre 1 = .ok (.istore_n 2, 1) := by decide +kernel
theorem dX0_whoAre_2 : decode cX0_whoAre 2 = .ok (.iconst 0, 1) := by decide +kernel
theorem dX0_whoAre_3 : decode cX0_whoAre 3 = .ok (.istore_n 3, 1) := by decide +kernel
theorem dX0_whoAre_4 : decode cX0_whoAre 4 = .ok (.iload_n 3, 1) := by decide +kernel
theorem dX0_whoAre_5 : decode cX0_whoAre 5 = .ok (.aload_n 0, 1) := by decide +kernel
theorem dX0_whoAre_6 : decode cX0_whoAre 6 = .ok (.getfield 38, 3) := by decide +kernel
theorem dX0_whoAre_9 : decode cX0_whoAre 9 = .ok (.if_icmp .ge 28, 3) := by decide +kernel
theorem dX0_whoAre_12 : decode cX0_whoAre 12 = .ok (.aload_n 0, 1) := by decide +kernel
theorem dX0_whoAre_13 : decode cX0_whoAre 13 = .ok (.getfield 11, 3) := by decide +kernel
theorem dX0_whoAre_16 : decode cX0_whoAre 16 = .ok (.iload_n 3, 1) := by decide +kernel
theorem dX0_whoAre_17 : decode cX0_whoAre 17 = .ok (.aaload, 1) := by decide +kernel
theorem dX0_whoAre_18 : decode cX0_whoAre 18 = .ok (.getfield 57, 3) := by decide +kernel
theorem dX0_whoAre_21 : decode cX0_whoAre 21 = .ok (.iload_n 1, 1) := by decide +kernel
theorem dX0_whoAre_22 : decode cX0_whoAre 22 = .ok (.if_icmp .ne 9, 3) := by decide +kernel
theorem dX0_whoAre_25 : decode cX0_whoAre 25 = .ok (.iload_n 2, 1) := by decide +kernel
theorem dX0_whoAre_26 : decode cX0_whoAre 26 = .ok (.iconst 1, 1) := by decide +kernel
theorem dX0_whoAre_27 : decode cX0_whoAre 27 = .ok (.iload_n 3, 1) := by decide +kernel
theorem dX0_whoAre_28 : decode cX0_whoAre 28 = .ok (.ishl, 1) := by decide +kernel
theorem dX0_whoAre_29 : decode cX0_whoAre 29 = .ok (.ior, 1) := by decide +kernel
theorem dX0_whoAre_30 : decode cX0_whoAre 30 = .ok (.istore_n 2, 1) := by decide +kernel
theorem dX0_whoAre_31 : decode cX0_whoAre 31 = .ok (.iinc 3 1, 3) := by decide +kernel
theorem dX0_whoAre_34 : decode cX0_whoAre 34 = .ok (.goto (-30), 3) := by decide +kernel
theorem dX0_whoAre_37 : decode cX0_whoAre 37 = .ok (.iload_n 2, 1) := by decide +kernel
theorem dX0_whoAre_38 : decode cX0_whoAre 38 = .ok (.ireturn, 1) := by decide +kernel
theorem dX0_allSitIn_0 : decode cX0_allSitIn 0 = .ok (.iconst 0, 1) := by decide +kernel
theorem dX0_allSitIn_1 : decode cX0_allSitIn 1 = .ok (.istore 4, 2) := by decide +kernel
theorem dX0_allSitIn_3 : decode cX0_allSitIn 3 = .ok (.iload 4, 2) := by decide +kernel
theorem dX0_allSitIn_5 : decode cX0_allSitIn 5 = .ok (.aload_n 0, 1) := by decide +kernel
theorem dX0_allSitIn_6 : decode cX0_allSitIn 6 = .ok (.getfield 38, 3) := by decide +kernel
theorem dX0_allSitIn_9 : decode cX0_allSitIn 9 = .ok (.if_icmp .ge 48, 3) := by decide +kernel
theorem dX0_allSitIn_12 : decode cX0_allSitIn 12 = .ok (.iload_n 1, 1) := by decide +kernel
theorem dX0_allSitIn_13 : decode cX0_allSitIn 13 = .ok (.iload 4, 2) := by decide +kernel
theorem dX0_allSitIn_15 : decode cX0_allSitIn 15 = .ok (.invokestatic 64, 3) := by decide +kernel
theorem dX0_allSitIn_18 : decode cX0_allSitIn 18 = .ok (.ifCond .eq 33, 3) := by decide +kernel
theorem dX0_allSitIn_21 : decode cX0_allSitIn 21 = .ok (.aload_n 0, 1) := by decide +kernel
theorem dX0_allSitIn_22 : decode cX0_allSitIn 22 = .ok (.getfield 11, 3) := by decide +kernel
theorem dX0_allSitIn_25 : decode cX0_allSitIn 25 = .ok (.iload 4, 2) := by decide +kernel
theorem dX0_allSitIn_27 : decode cX0_allSitIn 27 = .ok (.aaload, 1) := by decide +kernel
theorem dX0_allSitIn_28 : decode cX0_allSitIn 28 = .ok (.getfield 57, 3) := by decide +kernel
theorem dX0_allSitIn_31 : decode cX0_allSitIn 31 = .ok (.ifCond .ne 18, 3) := by decide +kernel
theorem dX0_allSitIn_34 : decode cX0_allSitIn 34 = .ok (.aload_n 0, 1) := by decide +kernel
theorem dX0_allSitIn_35 : decode cX0_allSitIn 35 = .ok (.getfield 11, 3) := by decide +kernel
theorem dX0_allSitIn_38 : decode cX0_allSitIn 38 = .ok (.iload 4, 2) := by decide +kernel
theorem dX0_allSitIn_40 : decode cX0_allSitIn 40 = .ok (.aaload, 1) := by decide +kernel
theorem dX0_allSitIn_41 : decode cX0_allSitIn 41 = .ok (.iload_n 2, 1) := by decide +kernel
theorem dX0_allSitIn_42 : decode cX0_allSitIn 42 = .ok (.iload_n 3, 1) := by decide +kernel
theorem dX0_allSitIn_43 : decode cX0_allSitIn 43 = .ok (.invokevirtual 68, 3) := by decide +kernel
theorem dX0_allSitIn_46 : decode cX0_allSitIn 46 = .ok (.ifCond .ne 5, 3) := by decide +kernel
theorem dX0_allSitIn_49 : decode cX0_allSitIn 49 = .ok (.iconst 0, 1) := by decide +kernel
theorem dX0_allSitIn_50 : decode cX0_allSitIn 50 = .ok (.ireturn, 1) := by decide +kernel
theorem dX0_allSitIn_51 : decode cX0_allSitIn 51 = .ok (.iinc 4 1, 3) := by decide +kernel
theorem dX0_allSitIn_54 : decode cX0_allSitIn 54 = .ok (.goto (-51), 3) := by decide +kernel
theorem dX0_allSitIn_57 : decode cX0_allSitIn 57 = .ok (.iconst 1, 1) := by decide +kernel
theorem dX0_allSitIn_58 : decode cX0_allSitIn 58 = .ok (.ireturn, 1) := by decide +kernel
theorem dX0_groupOf_0 : decode cX0_groupOf 0 = .ok (.iconst 0, 1) := by decide +kernel
theorem dX0_groupOf_1 : decode cX0_groupOf 1 = .ok (.istore_n 2, 1) := by decide +kernel
theorem dX0_groupOf_2 : decode cX0_groupOf 2 = .ok (.iconst 0, 1) := by decide +kernel
theorem dX0_groupOf_3 : decode cX0_groupOf 3 = .ok (.istore_n 3, 1) := by decide +kernel
theorem dX0_groupOf_4 : decode cX0_groupOf 4 = .ok (.iload_n 3, 1) := by decide +kernel
theorem dX0_groupOf_5 : decode cX0_groupOf 5 = .ok (.aload_n 0, 1) := by decide +kernel
theorem dX0_groupOf_6 : decode cX0_groupOf 6 = .ok (.getfield 38, 3) := by decide +kernel
theorem dX0_groupOf_9 : decode cX0_groupOf 9 = .ok (.if_icmp .ge 58, 3) := by decide +kernel
theorem dX0_groupOf_12 : decode cX0_groupOf 12 = .ok (.aload_n 0, 1) := by decide +kernel
theorem dX0_groupOf_13 : decode cX0_groupOf 13 = .ok (.getfield 11, 3) := by decide +kernel
theorem dX0_groupOf_16 : decode cX0_groupOf 16 = .ok (.iload_n 3, 1) := by decide +kernel
theorem dX0_groupOf_17 : decode cX0_groupOf 17 = .ok (.aaload, 1) := by decide +kernel
theorem dX0_groupOf_18 : decode cX0_groupOf 18 = .ok (.astore 4, 2) := by decide +kernel
theorem dX0_groupOf_20 : decode cX0_groupOf 20 = .ok (.aload 4, 2) := by decide +kernel
theorem dX0_groupOf_22 : decode cX0_groupOf 22 = .ok (.getfield 57, 3) := by decide +kernel
theorem dX0_groupOf_25 : decode cX0_groupOf 25 = .ok (.iconst 2, 1) := by decide +kernel
theorem dX0_groupOf_26 : decode cX0_groupOf 26 = .ok (.if_icmp .eq 35, 3) := by decide +kernel
theorem dX0_groupOf_29 : decode cX0_groupOf 29 = .ok (.aload 4, 2) := by decide +kernel
theorem dX0_groupOf_31 : decode cX0_groupOf 31 = .ok (.aload_n 0, 1) := by decide +kernel
theorem dX0_groupOf_32 : decode cX0_groupOf 32 = .ok (.getfield 11, 3) := by decide +kernel
theorem dX0_groupOf_35 : decode cX0_groupOf 35 = .ok (.iload_n 1, 1) := by decide +kernel
theorem dX0_groupOf_36 : decode cX0_groupOf 36 = .ok (.aaload, 1) := by decide +kernel
theorem dX0_groupOf_37 : decode cX0_groupOf 37 = .ok (.getfield 71, 3) := by decide +kernel
theorem dX0_groupOf_40 : decode cX0_groupOf 40 = .ok (.aload_n 0, 1) := by decide +kernel
theorem dX0_groupOf_41 : decode cX0_groupOf 41 = .ok (.getfield 11, 3) := by decide +kernel
theorem dX0_groupOf_44 : decode cX0_groupOf 44 = .ok (.iload_n 1, 1) := by decide +kernel
theorem dX0_groupOf_45 : decode cX0_groupOf 45 = .ok (.aaload, 1) := by decide +kernel
theorem dX0_groupOf_46 : decode cX0_groupOf 46 = .ok (.getfield 74, 3) := by decide +kernel
theorem dX0_groupOf_49 : decode cX0_groupOf 49 = .ok (.invokevirtual 68, 3) := by decide +kernel
theorem dX0_groupOf_52 : decode cX0_groupOf 52 = .ok (.ifCond .eq 9, 3) := by decide +kernel
theorem dX0_groupOf_55 : decode cX0_groupOf 55 = .ok (.iload_n 2, 1) := by decide +kernel
theorem dX0_groupOf_56 : decode cX0_groupOf 56 = .ok (.iconst 1, 1) := by decide +kernel
theorem dX0_groupOf_57 : decode cX0_groupOf 57 = .ok (.iload_n 3, 1) := by decide +kernel
theorem dX0_groupOf_58 : decode cX0_groupOf 58 = .ok (.ishl, 1) := by decide +kernel
theorem dX0_groupOf_59 : decode cX0_groupOf 59 = .ok (.ior, 1) := by decide +kernel
theorem dX0_groupOf_60 : decode cX0_groupOf 60 = .ok (.istore_n 2, 1) := by decide +kernel
theorem dX0_groupOf_61 : decode cX0_groupOf 61 = .ok (.iinc 3 1, 3) := by decide +kernel
theorem dX0_groupOf_64 : decode cX0_groupOf 64 = .ok (.goto (-60), 3) := by decide +kernel
theorem dX0_groupOf_67 : decode cX0_groupOf 67 = .ok (.iload_n 2, 1) := by decide +kernel
theorem dX0_groupOf_68 : decode cX0_groupOf 68 = .ok (.iload_n 1, 1) := by decide +kernel
theorem dX0_groupOf_69 : decode cX0_groupOf 69 = .ok (.invokestatic 64, 3) := by decide +kernel
theorem dX0_groupOf_72 : decode cX0_groupOf 72 = .ok (.ifCond .eq 7, 3) := by decide +kernel
theorem dX0_groupOf_75 : decode cX0_groupOf 75 = .ok (.iload_n 2, 1) := by decide +kernel
theorem dX0_groupOf_76 : decode cX0_groupOf 76 = .ok (.goto 4, 3) := by decide +kernel
theorem dX0_groupOf_79 : decode cX0_groupOf 79 = .ok (.iconst 0, 1) := by decide +kernel
theorem dX0_groupOf_80 : decode cX0_groupOf 80 = .ok (.ireturn, 1) := by decide +kernel
theorem dX0_speechesMissedBy_0 : decode cX0_speechesMissedBy 0 = .ok (.iconst 0, 1) := by decide +kernel
theorem dX0_speechesMissedBy_1 : decode cX0_speechesMissedBy 1 = .ok (.istore_n 2, 1) := by decide +kernel
theorem dX0_speechesMissedBy_2 : decode cX0_speechesMissedBy 2 = .ok (.iconst 0, 1) := by decide +kernel
theorem dX0_speechesMissedBy_3 : decode cX0_speechesMissedBy 3 = .ok (.istore_n 3, 1) := by decide +kernel
theorem dX0_speechesMissedBy_4 : decode cX0_speechesMissedBy 4 = .ok (.iload_n 3, 1) := by decide +kernel
theorem dX0_speechesMissedBy_5 : decode cX0_speechesMissedBy 5 = .ok (.aload_n 0, 1) := by decide +kernel
theorem dX0_speechesMissedBy_6 : decode cX0_speechesMissedBy 6 = .ok (.getfield 38, 3) := by decide +kernel
theorem dX0_speechesMissedBy_9 : decode cX0_speechesMissedBy 9 = .ok (.if_icmp .ge 67, 3) := by decide +kernel
theorem dX0_speechesMissedBy_12 : decode cX0_speechesMissedBy 12 = .ok (.aload_n 0, 1) := by decide +kernel
theorem dX0_speechesMissedBy_13 : decode cX0_speechesMissedBy 13 = .ok (.getfield 11, 3) := by decide +kernel
theorem dX0_speechesMissedBy_16 : decode cX0_speechesMissedBy 16 = .ok (.iload_n 3, 1) := by decide +kernel
theorem dX0_speechesMissedBy_17 : decode cX0_speechesMissedBy 17 = .ok (.aaload, 1) := by decide +kernel
theorem dX0_speechesMissedBy_18 : decode cX0_speechesMissedBy 18 = .ok (.astore 4, 2) := by decide +kernel
theorem dX0_speechesMissedBy_20 : decode cX0_speechesMissedBy 20 = .ok (.aload_n 0, 1) := by decide +kernel
theorem dX0_speechesMissedBy_21 : decode cX0_speechesMissedBy 21 = .ok (.getfield 11, 3) := by decide +kernel
theorem dX0_speechesMissedBy_24 : decode cX0_speechesMissedBy 24 = .ok (.iload_n 1, 1) := by decide +kernel
theorem dX0_speechesMissedBy_25 : decode cX0_speechesMissedBy 25 = .ok (.aaload, 1) := by decide +kernel
theorem dX0_speechesMissedBy_26 : decode cX0_speechesMissedBy 26 = .ok (.getfield 77, 3) := by decide +kernel
theorem dX0_speechesMissedBy_29 : decode cX0_speechesMissedBy 29 = .ok (.iload_n 3, 1) := by decide +kernel
theorem dX0_speechesMissedBy_30 : decode cX0_speechesMissedBy 30 = .ok (.invokestatic 64, 3) := by decide +kernel
theorem dX0_speechesMissedBy_33 : decode cX0_speechesMissedBy 33 = .ok (.ifCond .eq 37, 3) := by decide +kernel
theorem dX0_speechesMissedBy_36 : decode cX0_speechesMissedBy 36 = .ok (.aload 4, 2) := by decide +kernel
theorem dX0_speechesMissedBy_38 : decode cX0_speechesMissedBy 38 = .ok (.aload_n 0, 1) := by decide +kernel
theorem dX0_speechesMissedBy_39 : decode cX0_speechesMissedBy 39 = .ok (.getfield 11, 3) := by decide +kernel
theorem dX0_speechesMissedBy_42 : decode cX0_speechesMissedBy 42 = .ok (.iload_n 1, 1) := by decide +kernel
theorem dX0_speechesMissedBy_43 : decode cX0_speechesMissedBy 43 = .ok (.aaload, 1) := by decide +kernel
theorem dX0_speechesMissedBy_44 : decode cX0_speechesMissedBy 44 = .ok (.getfield 71, 3) := by decide +kernel
theorem dX0_speechesMissedBy_47 : decode cX0_speechesMissedBy 47 = .ok (.aload_n 0, 1) := by decide +kernel
theorem dX0_speechesMissedBy_48 : decode cX0_speechesMissedBy 48 = .ok (.getfield 11, 3) := by decide +kernel
theorem dX0_speechesMissedBy_51 : decode cX0_speechesMissedBy 51 = .ok (.iload_n 1, 1) := by decide +kernel
theorem dX0_speechesMissedBy_52 : decode cX0_speechesMissedBy 52 = .ok (.aaload, 1) := by decide +kernel
theorem dX0_speechesMissedBy_53 : decode cX0_speechesMissedBy 53 = .ok (.getfield 74, 3) := by decide +kernel
theorem dX0_speechesMissedBy_56 : decode cX0_speechesMissedBy 56 = .ok (.invokevirtual 68, 3) := by decide +kernel
theorem dX0_speechesMissedBy_59 : decode cX0_speechesMissedBy 59 = .ok (.ifCond .eq 11, 3) := by decide +kernel
theorem dX0_speechesMissedBy_62 : decode cX0_speechesMissedBy 62 = .ok (.iload_n 2, 1) := by decide +kernel
theorem dX0_speechesMissedBy_63 : decode cX0_speechesMissedBy 63 = .ok (.aload 4, 2) := by decide +kernel
theorem dX0_speechesMissedBy_65 : decode cX0_speechesMissedBy 65 = .ok (.getfield 80, 3) := by decide +kernel
theorem dX0_speechesMissedBy_68 : decode cX0_speechesMissedBy 68 = .ok (.ior, 1) := by decide +kernel
theorem dX0_speechesMissedBy_69 : decode cX0_speechesMissedBy 69 = .ok (.istore_n 2, 1) := by decide +kernel
theorem dX0_speechesMissedBy_70 : decode cX0_speechesMissedBy 70 = .ok (.iinc 3 1, 3) := by decide +kernel
theorem dX0_speechesMissedBy_73 : decode cX0_speechesMissedBy 73 = .ok (.goto (-69), 3) := by decide +kernel
theorem dX0_speechesMissedBy_76 : decode cX0_speechesMissedBy 76 = .ok (.iload_n 2, 1) := by decide +kernel
theorem dX0_speechesMissedBy_77 : decode cX0_speechesMissedBy 77 = .ok (.aload_n 0, 1) := by decide +kernel
theorem dX0_speechesMissedBy_78 : decode cX0_speechesMissedBy 78 = .ok (.getfield 11, 3) := by decide +kernel
theorem dX0_speechesMissedBy_81 : decode cX0_speechesMissedBy 81 = .ok (.iload_n 1, 1) := by decide +kernel
theorem dX0_speechesMissedBy_82 : decode cX0_speechesMissedBy 82 = .ok (.aaload, 1) := by decide +kernel
theorem dX0_speechesMissedBy_83 : decode cX0_speechesMissedBy 83 = .ok (.getfield 80, 3) := by decide +kernel
theorem dX0_speechesMissedBy_86 : decode cX0_speechesMissedBy 86 = .ok (.iconst (-1), 1) := by decide +kernel
theorem dX0_speechesMissedBy_87 : decode cX0_speechesMissedBy 87 = .ok (.ixor, 1) := by decide +kernel
theorem dX0_speechesMissedBy_88 : decode cX0_speechesMissedBy 88 = .ok (.iand, 1) := by decide +kernel
theorem dX0_speechesMissedBy_89 : decode cX0_speechesMissedBy 89 = .ok (.ireturn, 1) := by decide +kernel
theorem dX0_sharedSessions_0 : decode cX0_sharedSessions 0 = .ok (.aload_n 0, 1) := by decide +kernel
theorem dX0_sharedSessions_1 : decode cX0_sharedSessions 1 = .ok (.getfield 11, 3) := by decide +kernel
theorem dX0_sharedSessions_4 : decode cX0_sharedSessions 4 = .ok (.iload_n 1, 1) := by decide +kernel
theorem dX0_sharedSessions_5 : decode cX0_sharedSessions 5 = .ok (.aaload, 1) := by decide +kernel
theorem dX0_sharedSessions_6 : decode cX0_sharedSessions 6 = .ok (.getfield 83, 3) := by decide +kernel
theorem dX0_sharedSessions_9 : decode cX0_sharedSessions 9 = .ok (.astore 4, 2) := by decide +kernel
theorem dX0_sharedSessions_11 : decode cX0_sharedSessions 11 = .ok (.aload_n 0, 1) := by decide +kernel
theorem dX0_sharedSessions_12 : decode cX0_sharedSessions 12 = .ok (.getfield 11, 3) := by decide +kernel
theorem dX0_sharedSessions_15 : decode cX0_sharedSessions 15 = .ok (.iload_n 2, 1) := by decide +kernel
theorem dX0_sharedSessions_16 : decode cX0_sharedSessions 16 = .ok (.aaload, 1) := by decide +kernel
theorem dX0_sharedSessions_17 : decode cX0_sharedSessions 17 = .ok (.getfield 83, 3) := by decide +kernel
theorem dX0_sharedSessions_20 : decode cX0_sharedSessions 20 = .ok (.astore 5, 2) := by decide +kernel
theorem dX0_sharedSessions_22 : decode cX0_sharedSessions 22 = .ok (.iconst 0, 1) := by decide +kernel
theorem dX0_sharedSessions_23 : decode cX0_sharedSessions 23 = .ok (.istore 6, 2) := by decide +kernel
theorem dX0_sharedSessions_25 : decode cX0_sharedSessions 25 = .ok (.iconst 0, 1) := by decide +kernel
theorem dX0_sharedSessions_26 : decode cX0_sharedSessions 26 = .ok (.istore 7, 2) := by decide +kernel
theorem dX0_sharedSessions_28 : decode cX0_sharedSessions 28 = .ok (.iload 7, 2) := by decide +kernel
theorem dX0_sharedSessions_30 : decode cX0_sharedSessions 30 = .ok (.aload 4, 2) := by decide +kernel
theorem dX0_sharedSessions_32 : decode cX0_sharedSessions 32 = .ok (.getfield 87, 3) := by decide +kernel
theorem dX0_sharedSessions_35 : decode cX0_sharedSessions 35 = .ok (.if_icmp .ge 104, 3) := by decide +kernel
theorem dX0_sharedSessions_38 : decode cX0_sharedSessions 38 = .ok (.iconst 0, 1) := by decide +kernel
theorem dX0_sharedSessions_39 : decode cX0_sharedSessions 39 = .ok (.istore 8, 2) := by decide +kernel
theorem dX0_sharedSessions_41 : decode cX0_sharedSessions 41 = .ok (.iload 8, 2) := by decide +kernel
theorem dX0_sharedSessions_43 : decode cX0_sharedSessions 43 = .ok (.aload 5, 2) := by decide +kernel
theorem dX0_sharedSessions_45 : decode cX0_sharedSessions 45 = .ok (.getfield 87, 3) := by decide +kernel
theorem dX0_sharedSessions_48 : decode cX0_sharedSessions 48 = .ok (.if_icmp .ge 85, 3) := by decide +kernel
theorem dX0_sharedSessions_51 : decode cX0_sharedSessions 51 = .ok (.aload 4, 2) := by decide +kernel
theorem dX0_sharedSessions_53 : decode cX0_sharedSessions 53 = .ok (.getfield 90, 3) := by decide +kernel
theorem dX0_sharedSessions_56 : decode cX0_sharedSessions 56 = .ok (.iload 7, 2) := by decide +kernel
theorem dX0_sharedSessions_58 : decode cX0_sharedSessions 58 = .ok (.iaload, 1) := by decide +kernel
theorem dX0_sharedSessions_59 : decode cX0_sharedSessions 59 = .ok (.aload 5, 2) := by decide +kernel
theorem dX0_sharedSessions_61 : decode cX0_sharedSessions 61 = .ok (.getfield 90, 3) := by decide +kernel
theorem dX0_sharedSessions_64 : decode cX0_sharedSessions 64 = .ok (.iload 8, 2) := by decide +kernel
theorem dX0_sharedSessions_66 : decode cX0_sharedSessions 66 = .ok (.iaload, 1) := by decide +kernel
theorem dX0_sharedSessions_67 : decode cX0_sharedSessions 67 = .ok (.if_icmp .ne 26, 3) := by decide +kernel
theorem dX0_sharedSessions_70 : decode cX0_sharedSessions 70 = .ok (.aload 4, 2) := by decide +kernel
theorem dX0_sharedSessions_72 : decode cX0_sharedSessions 72 = .ok (.getfield 93, 3) := by decide +kernel
theorem dX0_sharedSessions_75 : decode cX0_sharedSessions 75 = .ok (.iload 7, 2) := by decide +kernel
theorem dX0_sharedSessions_77 : decode cX0_sharedSessions 77 = .ok (.iaload, 1) := by decide +kernel
theorem dX0_sharedSessions_78 : decode cX0_sharedSessions 78 = .ok (.aload 5, 2) := by decide +kernel
theorem dX0_sharedSessions_80 : decode cX0_sharedSessions 80 = .ok (.getfield 93, 3) := by decide +kernel
theorem dX0_sharedSessions_83 : decode cX0_sharedSessions 83 = .ok (.iload 8, 2) := by decide +kernel
theorem dX0_sharedSessions_85 : decode cX0_sharedSessions 85 = .ok (.iaload, 1) := by decide +kernel
theorem dX0_sharedSessions_86 : decode cX0_sharedSessions 86 = .ok (.if_icmp .ne 7, 3) := by decide +kernel
theorem dX0_sharedSessions_89 : decode cX0_sharedSessions 89 = .ok (.iconst 1, 1) := by decide +kernel
theorem dX0_sharedSessions_90 : decode cX0_sharedSessions 90 = .ok (.goto 4, 3) := by decide +kernel
theorem dX0_sharedSessions_93 : decode cX0_sharedSessions 93 = .ok (.iconst 0, 1) := by decide +kernel
theorem dX0_sharedSessions_94 : decode cX0_sharedSessions 94 = .ok (.istore 9, 2) := by decide +kernel
theorem dX0_sharedSessions_96 : decode cX0_sharedSessions 96 = .ok (.iload 9, 2) := by decide +kernel
theorem dX0_sharedSessions_98 : decode cX0_sharedSessions 98 = .ok (.ifCond .eq 29, 3) := by decide +kernel
theorem dX0_sharedSessions_101 : decode cX0_sharedSessions 101 = .ok (.iload_n 3, 1) := by decide +kernel
theorem dX0_sharedSessions_102 : decode cX0_sharedSessions 102 = .ok (.ifCond .eq 22, 3) := by decide +kernel
theorem dX0_sharedSessions_105 : decode cX0_sharedSessions 105 = .ok (.aload 4, 2) := by decide +kernel
theorem dX0_sharedSessions_107 : decode cX0_sharedSessions 107 = .ok (.getfield 96, 3) := by decide +kernel
theorem dX0_sharedSessions_110 : decode cX0_sharedSessions 110 = .ok (.iload 7, 2) := by decide +kernel
theorem dX0_sharedSessions_112 : decode cX0_sharedSessions 112 = .ok (.iaload, 1) := by decide +kernel
theorem dX0_sharedSessions_113 : decode cX0_sharedSessions 113 = .ok (.aload 5, 2) := by decide +kernel
theorem dX0_sharedSessions_115 : decode cX0_sharedSessions 115 = .ok (.getfield 96, 3) := by decide +kernel
theorem dX0_sharedSessions_118 : decode cX0_sharedSessions 118 = .ok (.iload 8, 2) := by decide +kernel
theorem dX0_sharedSessions_120 : decode cX0_sharedSessions 120 = .ok (.iaload, 1) := by decide +kernel
theorem dX0_sharedSessions_121 : decode cX0_sharedSessions 121 = .ok (.if_icmp .eq 6, 3) := by decide +kernel
theorem dX0_sharedSessions_124 : decode cX0_sharedSessions 124 = .ok (.iinc 6 1, 3) := by decide +kernel
theorem dX0_sharedSessions_127 : decode cX0_sharedSessions 127 = .ok (.iinc 8 1, 3) := by decide +kernel
theorem dX0_sharedSessions_130 : decode cX0_sharedSessions 130 = .ok (.goto (-89), 3) := by decide +kernel
theorem dX0_sharedSessions_133 : decode cX0_sharedSessions 133 = .ok (.iinc 7 1, 3) := by decide +kernel
theorem dX0_sharedSessions_136 : decode cX0_sharedSessions 136 = .ok (.goto (-108), 3) := by decide +kernel
theorem dX0_sharedSessions_139 : decode cX0_sharedSessions 139 = .ok (.iload 6, 2) := by decide +kernel
theorem dX0_sharedSessions_141 : decode cX0_sharedSessions 141 = .ok (.ireturn, 1) := by decide +kernel
theorem dX0_carryOut_0 : decode cX0_carryOut 0 = .ok (.iload_n 1, 1) := by decide +kernel
theorem dX0_carryOut_1 : decode cX0_carryOut 1 = .ok (.lookupswitch 154 #[(0, 109), (109, 51), (112, 77), (116, 93), (120, 109)], 51) := by decide +kernel
theorem dX0_carryOut_52 : decode cX0_carryOut 52 = .ok (.iload_n 2, 1) := by decide +kernel
theorem dX0_carryOut_53 : decode cX0_carryOut 53 = .ok (.invokestatic 98, 3) := by decide +kernel
theorem dX0_carryOut_56 : decode cX0_carryOut 56 = .ok (.ifCond .eq 12, 3) := by decide +kernel
theorem dX0_carryOut_59 : decode cX0_carryOut 59 = .ok (.aload_n 0, 1) := by decide +kernel
theorem dX0_carryOut_60 : decode cX0_carryOut 60 = .ok (.getfield 38, 3) := by decide +kernel
theorem dX0_carryOut_63 : decode cX0_carryOut 63 = .ok (.bipush 6, 2) := by decide +kernel
theorem dX0_carryOut_65 : decode cX0_carryOut 65 = .ok (.if_icmp .lt 5, 3) := by decide +kernel
theorem dX0_carryOut_68 : decode cX0_carryOut 68 = .ok (.iconst 0, 1) := by decide +kernel
theorem dX0_carryOut_69 : decode cX0_carryOut 69 = .ok (.ireturn, 1) := by decide +kernel
theorem dX0_carryOut_70 : decode cX0_carryOut 70 = .ok (.aload_n 0, 1) := by decide +kernel
theorem dX0_carryOut_71 : decode cX0_carryOut 71 = .ok (.iload_n 2, 1) := by decide +kernel
theorem dX0_carryOut_72 : decode cX0_carryOut 72 = .ok (.invokevirtual 102, 3) := by decide +kernel
theorem dX0_carryOut_75 : decode cX0_carryOut 75 = .ok (.pop, 1) := by decide +kernel
theorem dX0_carryOut_76 : decode cX0_carryOut 76 = .ok (.iconst 1, 1) := by decide +kernel
theorem dX0_carryOut_77 : decode cX0_carryOut 77 = .ok (.ireturn, 1) := by decide +kernel
theorem dX0_carryOut_78 : decode cX0_carryOut 78 = .ok (.iload_n 2, 1) := by decide +kernel
theorem dX0_carryOut_79 : decode cX0_carryOut 79 = .ok (.invokestatic 106, 3) := by decide +kernel
theorem dX0_carryOut_82 : decode cX0_carryOut 82 = .ok (.ifCond .ne 5, 3) := by decide +kernel
theorem dX0_carryOut_85 : decode cX0_carryOut 85 = .ok (.iconst 0, 1) := by decide +kernel
theorem dX0_carryOut_86 : decode cX0_carryOut 86 = .ok (.ireturn, 1) := by decide +kernel
theorem dX0_carryOut_87 : decode cX0_carryOut 87 = .ok (.aload_n 0, 1) := by decide +kernel
theorem dX0_carryOut_88 : decode cX0_carryOut 88 = .ok (.iload_n 2, 1) := by decide +kernel
theorem dX0_carryOut_89 : decode cX0_carryOut 89 = .ok (.putfield 45, 3) := by decide +kernel
theorem dX0_carryOut_92 : decode cX0_carryOut 92 = .ok (.iconst 1, 1) := by decide +kernel
theorem dX0_carryOut_93 : decode cX0_carryOut 93 = .ok (.ireturn, 1) := by decide +kernel
theorem dX0_carryOut_94 : decode cX0_carryOut 94 = .ok (.iload_n 2, 1) := by decide +kernel
theorem dX0_carryOut_95 : decode cX0_carryOut 95 = .ok (.invokestatic 109, 3) := by decide +kernel
theorem dX0_carryOut_98 : decode cX0_carryOut 98 = .ok (.ifCond .ne 5, 3) := by decide +kernel
theorem dX0_carryOut_101 : decode cX0_carryOut 101 = .ok (.iconst 0, 1) := by decide +kernel
theorem dX0_carryOut_102 : decode cX0_carryOut 102 = .ok (.ireturn, 1) := by decide +kernel
theorem dX0_carryOut_103 : decode cX0_carryOut 103 = .ok (.aload_n 0, 1) := by decide +kernel
theorem dX0_carryOut_104 : decode cX0_carryOut 104 = .ok (.iload_n 2, 1) := by decide +kernel
theorem dX0_carryOut_105 : decode cX0_carryOut 105 = .ok (.invokevirtual 112, 3) := by decide +kernel
theorem dX0_carryOut_108 : decode cX0_carryOut 108 = .ok (.iconst 1, 1) := by decide +kernel
theorem dX0_carryOut_109 : decode cX0_carryOut 109 = .ok (.ireturn, 1) := by decide +kernel
theorem dX0_carryOut_110 : decode cX0_carryOut 110 = .ok (.aload_n 0, 1) := by decide +kernel
theorem dX0_carryOut_111 : decode cX0_carryOut 111 = .ok (.iload_n 2, 1) := by decide +kernel
theorem dX0_carryOut_112 : decode cX0_carryOut 112 = .ok (.invokevirtual 115, 3) := by decide +kernel
theorem dX0_carryOut_115 : decode cX0_carryOut 115 = .ok (.ifCond .eq 16, 3) := by decide +kernel
theorem dX0_carryOut_118 : decode cX0_carryOut 118 = .ok (.aload_n 0, 1) := by decide +kernel
theorem dX0_carryOut_119 : decode cX0_carryOut 119 = .ok (.iload_n 3, 1) := by decide +kernel
theorem dX0_carryOut_120 : decode cX0_carryOut 120 = .ok (.invokevirtual 115, 3) := by decide +kernel
theorem dX0_carryOut_123 : decode cX0_carryOut 123 = .ok (.ifCond .eq 8, 3) := by decide +kernel
theorem dX0_carryOut_126 : decode cX0_carryOut 126 = .ok (.iload_n 2, 1) := by decide +kernel
theorem dX0_carryOut_127 : decode cX0_carryOut 127 = .ok (.iload_n 3, 1) := by decide +kernel
theorem dX0_carryOut_128 : decode cX0_carryOut 128 = .ok (.if_icmp .ne 5, 3) := by decide +kernel
theorem dX0_carryOut_131 : decode cX0_carryOut 131 = .ok (.iconst 0, 1) := by decide +kernel
theorem dX0_carryOut_132 : decode cX0_carryOut 132 = .ok (.ireturn, 1) := by decide +kernel
theorem dX0_carryOut_133 : decode cX0_carryOut 133 = .ok (.aload_n 0, 1) := by decide +kernel
theorem dX0_carryOut_134 : decode cX0_carryOut 134 = .ok (.getfield 20, 3) := by decide +kernel
theorem dX0_carryOut_137 : decode cX0_carryOut 137 = .ok (.iload_n 2, 1) := by decide +kernel
theorem dX0_carryOut_138 : decode cX0_carryOut 138 = .ok (.iload_n 3, 1) := by decide +kernel
theorem dX0_carryOut_139 : decode cX0_carryOut 139 = .ok (.iload_n 1, 1) := by decide +kernel
theorem dX0_carryOut_140 : decode cX0_carryOut 140 = .ok (.bipush 120, 2) := by decide +kernel
theorem dX0_carryOut_142 : decode cX0_carryOut 142 = .ok (.if_icmp .ne 7, 3) := by decide +kernel
theorem dX0_carryOut_145 : decode cX0_carryOut 145 = .ok (.iconst 1, 1) := by decide +kernel
theorem dX0_carryOut_146 : decode cX0_carryOut 146 = .ok (.goto 4, 3) := by decide +kernel
theorem dX0_carryOut_149 : decode cX0_carryOut 149 = .ok (.iconst 0, 1) := by decide +kernel
theorem dX0_carryOut_150 : decode cX0_carryOut 150 = .ok (.invokevirtual 118, 3) := by decide +kernel
theorem dX0_carryOut_153 : decode cX0_carryOut 153 = .ok (.iconst 1, 1) := by decide +kernel
theorem dX0_carryOut_154 : decode cX0_carryOut 154 = .ok (.ireturn, 1) := by decide +kernel
theorem dX0_carryOut_155 : decode cX0_carryOut 155 = .ok (.aload_n 0, 1) := by decide +kernel
theorem dX0_carryOut_156 : decode cX0_carryOut 156 = .ok (.iload_n 2, 1) := by decide +kernel
theorem dX0_carryOut_157 : decode cX0_carryOut 157 = .ok (.invokevirtual 115, 3) := by decide +kernel
theorem dX0_carryOut_160 : decode cX0_carryOut 160 = .ok (.ifCond .eq 17, 3) := by decide +kernel
theorem dX0_carryOut_163 : decode cX0_carryOut 163 = .ok (.aload_n 0, 1) := by decide +kernel
theorem dX0_carryOut_164 : decode cX0_carryOut 164 = .ok (.iload_n 2, 1) := by decide +kernel
theorem dX0_carryOut_165 : decode cX0_carryOut 165 = .ok (.iload_n 1, 1) := by decide +kernel
theorem dX0_carryOut_166 : decode cX0_carryOut 166 = .ok (.iload_n 3, 1) := by decide +kernel
theorem dX0_carryOut_167 : decode cX0_carryOut 167 = .ok (.invokevirtual 122, 3) := by decide +kernel
theorem dX0_carryOut_170 : decode cX0_carryOut 170 = .ok (.ifCond .eq 7, 3) := by decide +kernel
theorem dX0_carryOut_173 : decode cX0_carryOut 173 = .ok (.iconst 1, 1) := by decide +kernel
theorem dX0_carryOut_174 : decode cX0_carryOut 174 = .ok (.goto 4, 3) := by decide +kernel
theorem dX0_carryOut_177 : decode cX0_carryOut 177 = .ok (.iconst 0, 1) := by decide +kernel
theorem dX0_carryOut_178 : decode cX0_carryOut 178 = .ok (.ireturn, 1) := by decide +kernel
theorem dX0_carryOutBy_0 : decode cX0_carryOutBy 0 = .ok (.iload_n 2, 1) := by decide +kernel
theorem dX0_carryOutBy_1 : decode cX0_carryOutBy 1 = .ok (.lookupswitch 135 #[(98, 114), (99, 65), (103, 93), (115, 43)], 43) := by decide +kernel
theorem dX0_carryOutBy_44 : decode cX0_carryOutBy 44 = .ok (.aload_n 0, 1) := by decide +kernel
theorem dX0_carryOutBy_45 : decode cX0_carryOutBy 45 = .ok (.getfield 11, 3) := by decide +kernel
theorem dX0_carryOutBy_48 : decode cX0_carryOutBy 48 = .ok (.iload_n 1, 1) := by decide +kernel
theorem dX0_carryOutBy_49 : decode cX0_carryOutBy 49 = .ok (.aaload, 1) := by decide +kernel
theorem dX0_carryOutBy_50 : decode cX0_carryOutBy 50 = .ok (.invokevirtual 126, 3) := by decide +kernel
theorem dX0_carryOutBy_53 : decode cX0_carryOutBy 53 = .ok (.ifCond .ne 5, 3) := by decide +kernel
theorem dX0_carryOutBy_56 : decode cX0_carryOutBy 56 = .ok (.iconst 0, 1) := by decide +kernel
theorem dX0_carryOutBy_57 : decode cX0_carryOutBy 57 = .ok (.ireturn, 1) := by decide +kernel
theorem dX0_carryOutBy_58 : decode cX0_carryOutBy 58 = .ok (.aload_n 0, 1) := by decide +kernel
theorem dX0_carryOutBy_59 : decode cX0_carryOutBy 59 = .ok (.iload_n 1, 1) := by decide +kernel
theorem dX0_carryOutBy_60 : decode cX0_carryOutBy 60 = .ok (.invokevirtual 130, 3) := by decide +kernel
theorem dX0_carryOutBy_63 : decode cX0_carryOutBy 63 = .ok (.pop, 1) := by decide +kernel
theorem dX0_carryOutBy_64 : decode cX0_carryOutBy 64 = .ok (.iconst 1, 1) := by decide +kernel
theorem dX0_carryOutBy_65 : decode cX0_carryOutBy 65 = .ok (.ireturn, 1) := by decide +kernel
theorem dX0_carryOutBy_66 : decode cX0_carryOutBy 66 = .ok (.aload_n 0, 1) := by decide +kernel
theorem dX0_carryOutBy_67 : decode cX0_carryOutBy 67 = .ok (.iload_n 1, 1) := by decide +kernel
theorem dX0_carryOutBy_68 : decode cX0_carryOutBy 68 = .ok (.iload_n 3, 1) := by decide +kernel
theorem dX0_carryOutBy_69 : decode cX0_carryOutBy 69 = .ok (.invokevirtual 133, 3) := by decide +kernel
theorem dX0_carryOutBy_72 : decode cX0_carryOutBy 72 = .ok (.ifCond .eq 11, 3) := by decide +kernel
theorem dX0_carryOutBy_75 : decode cX0_carryOutBy 75 = .ok (.aload_n 0, 1) := by decide +kernel
theorem dX0_carryOutBy_76 : decode cX0_carryOutBy 76 = .ok (.iload_n 1, 1) := by decide +kernel
theorem dX0_carryOutBy_77 : decode cX0_carryOutBy 77 = .ok (.invokevirtual 136, 3) := by decide +kernel
theorem dX0_carryOutBy_80 : decode cX0_carryOutBy 80 = .ok (.ifCond .eq 5, 3) := by decide +kernel
theorem dX0_carryOutBy_83 : decode cX0_carryOutBy 83 = .ok (.iconst 0, 1) := by decide +kernel
theorem dX0_carryOutBy_84 : decode cX0_carryOutBy 84 = .ok (.ireturn, 1) := by decide +kernel
theorem dX0_carryOutBy_85 : decode cX0_carryOutBy 85 = .ok (.aload_n 0, 1) := by decide +kernel
theorem dX0_carryOutBy_86 : decode cX0_carryOutBy 86 = .ok (.iload_n 1, 1) := by decide +kernel
theorem dX0_carryOutBy_87 : decode cX0_carryOutBy 87 = .ok (.iload_n 3, 1) := by decide +kernel
theorem dX0_carryOutBy_88 : decode cX0_carryOutBy 88 = .ok (.invokevirtual 139, 3) := by decide +kernel
theorem dX0_carryOutBy_91 : decode cX0_carryOutBy 91 = .ok (.pop, 1) := by decide +kernel
theorem dX0_carryOutBy_92 : decode cX0_carryOutBy 92 = .ok (.iconst 1, 1) := by decide +kernel
theorem dX0_carryOutBy_93 : decode cX0_carryOutBy 93 = .ok (.ireturn, 1) := by decide +kernel
theorem dX0_carryOutBy_94 : decode cX0_carryOutBy 94 = .ok (.aload_n 0, 1) := by decide +kernel
theorem dX0_carryOutBy_95 : decode cX0_carryOutBy 95 = .ok (.iload_n 1, 1) := by decide +kernel
theorem dX0_carryOutBy_96 : decode cX0_carryOutBy 96 = .ok (.invokevirtual 136, 3) := by decide +kernel
theorem dX0_carryOutBy_99 : decode cX0_carryOutBy 99 = .ok (.ifCond .eq 5, 3) := by decide +kernel
theorem dX0_carryOutBy_102 : decode cX0_carryOutBy 102 = .ok (.iconst 0, 1) := by decide +kernel
theorem dX0_carryOutBy_103 : decode cX0_carryOutBy 103 = .ok (.ireturn, 1) := by decide +kernel
theorem dX0_carryOutBy_104 : decode cX0_carryOutBy 104 = .ok (.aload_n 0, 1) := by decide +kernel
theorem dX0_carryOutBy_105 : decode cX0_carryOutBy 105 = .ok (.getfield 11, 3) := by decide +kernel
theorem dX0_carryOutBy_108 : decode cX0_carryOutBy 108 = .ok (.iload_n 1, 1) := by decide +kernel
theorem dX0_carryOutBy_109 : decode cX0_carryOutBy 109 = .ok (.aaload, 1) := by decide +kernel
theorem dX0_carryOutBy_110 : decode cX0_carryOutBy 110 = .ok (.invokevirtual 143, 3) := by decide +kernel
theorem dX0_carryOutBy_113 : decode cX0_carryOutBy 113 = .ok (.iconst 1, 1) := by decide +kernel
theorem dX0_carryOutBy_114 : decode cX0_carryOutBy 114 = .ok (.ireturn, 1) := by decide +kernel
theorem dX0_carryOutBy_115 : decode cX0_carryOutBy 115 = .ok (.aload_n 0, 1) := by decide +kernel
theorem dX0_carryOutBy_116 : decode cX0_carryOutBy 116 = .ok (.iload_n 1, 1) := by decide +kernel
theorem dX0_carryOutBy_117 : decode cX0_carryOutBy 117 = .ok (.invokevirtual 136, 3) := by decide +kernel
theorem dX0_carryOutBy_120 : decode cX0_carryOutBy 120 = .ok (.ifCond .ne 5, 3) := by decide +kernel
theorem dX0_carryOutBy_123 : decode cX0_carryOutBy 123 = .ok (.iconst 0, 1) := by decide +kernel
theorem dX0_carryOutBy_124 : decode cX0_carryOutBy 124 = .ok (.ireturn, 1) := by decide +kernel
theorem dX0_carryOutBy_125 : decode cX0_carryOutBy 125 = .ok (.aload_n 0, 1) := by decide +kernel
theorem dX0_carryOutBy_126 : decode cX0_carryOutBy 126 = .ok (.getfield 11, 3) := by decide +kernel
theorem dX0_carryOutBy_129 : decode cX0_carryOutBy 129 = .ok (.iload_n 1, 1) := by decide +kernel
theorem dX0_carryOutBy_130 : decode cX0_carryOutBy 130 = .ok (.aaload, 1) := by decide +kernel
theorem dX0_carryOutBy_131 : decode cX0_carryOutBy 131 = .ok (.invokevirtual 146, 3) := by decide +kernel
theorem dX0_carryOutBy_134 : decode cX0_carryOutBy 134 = .ok (.iconst 1, 1) := by decide +kernel
theorem dX0_carryOutBy_135 : decode cX0_carryOutBy 135 = .ok (.ireturn, 1) := by decide +kernel
theorem dX0_carryOutBy_136 : decode cX0_carryOutBy 136 = .ok (.iconst 0, 1) := by decide +kernel
theorem dX0_carryOutBy_137 : decode cX0_carryOutBy 137 = .ok (.ireturn, 1) := by decide +kernel
theorem dX0_addMember_0 : decode cX0_addMember 0 = .ok (.aload_n 0, 1) := by decide +kernel
theorem dX0_addMember_1 : decode cX0_addMember 1 = .ok (.getfield 11, 3) := by decide +kernel
theorem dX0_addMember_4 : decode cX0_addMember 4 = .ok (.aload_n 0, 1) := by decide +kernel
theorem dX0_addMember_5 : decode cX0_addMember 5 = .ok (.getfield 38, 3) := by decide +kernel
theorem dX0_addMember_8 : decode cX0_addMember 8 = .ok (.aaload, 1) := by decide +kernel
theorem dX0_addMember_9 : decode cX0_addMember 9 = .ok (.iload_n 1, 1) := by decide +kernel
theorem dX0_addMember_10 : decode cX0_addMember 10 = .ok (.putfield 149, 3) := by decide +kernel
theorem dX0_addMember_13 : decode cX0_addMember 13 = .ok (.aload_n 0, 1) := by decide +kernel
theorem dX0_addMember_14 : decode cX0_addMember 14 = .ok (.dup, 1) := by decide +kernel
theorem dX0_addMember_15 : decode cX0_addMember 15 = .ok (.getfield 38, 3) := by decide +kernel
theorem dX0_addMember_18 : decode cX0_addMember 18 = .ok (.iconst 1, 1) := by decide +kernel
theorem dX0_addMember_19 : decode cX0_addMember 19 = .ok (.iadd, 1) := by decide +kernel
theorem dX0_addMember_20 : decode cX0_addMember 20 = .ok (.putfield 38, 3) := by decide +kernel
theorem dX0_addMember_23 : decode cX0_addMember 23 = .ok (.aload_n 0, 1) := by decide +kernel
theorem dX0_addMember_24 : decode cX0_addMember 24 = .ok (.getfield 38, 3) := by decide +kernel
theorem dX0_addMember_27 : decode cX0_addMember 27 = .ok (.iconst 1, 1) := by decide +kernel
theorem dX0_addMember_28 : decode cX0_addMember 28 = .ok (.isub, 1) := by decide +kernel
theorem dX0_addMember_29 : decode cX0_addMember 29 = .ok (.ireturn, 1) := by decide +kernel
theorem dX0_speak_0 : decode cX0_speak 0 = .ok (.aload_n 0, 1) := by decide +kernel
theorem dX0_speak_1 : decode cX0_speak 1 = .ok (.getfield 11, 3) := by decide +kernel
theorem dX0_speak_4 : decode cX0_speak 4 = .ok (.iload_n 1, 1) := by decide +kernel
theorem dX0_speak_5 : decode cX0_speak 5 = .ok (.aaload, 1) := by decide +kernel
theorem dX0_speak_6 : decode cX0_speak 6 = .ok (.astore_n 2, 1) := by decide +kernel
theorem dX0_speak_7 : decode cX0_speak 7 = .ok (.iconst 4, 1) := by decide +kernel
theorem dX0_speak_8 : decode cX0_speak 8 = .ok (.iload_n 1, 1) := by decide +kernel
theorem dX0_speak_9 : decode cX0_speak 9 = .ok (.imul, 1) := by decide +kernel
theorem dX0_speak_10 : decode cX0_speak 10 = .ok (.aload_n 2, 1) := by decide +kernel
theorem dX0_speak_11 : decode cX0_speak 11 = .ok (.getfield 152, 3) := by decide +kernel
theorem dX0_speak_14 : decode cX0_speak 14 = .ok (.iadd, 1) := by decide +kernel
theorem dX0_speak_15 : decode cX0_speak 15 = .ok (.istore_n 3, 1) := by decide +kernel
theorem dX0_speak_16 : decode cX0_speak 16 = .ok (.aload_n 2, 1) := by decide +kernel
theorem dX0_speak_17 : decode cX0_speak 17 = .ok (.dup, 1) := by decide +kernel
theorem dX0_speak_18 : decode cX0_speak 18 = .ok (.getfield 152, 3) := by decide +kernel
theorem dX0_speak_21 : decode cX0_speak 21 = .ok (.iconst 1, 1) := by decide +kernel
theorem dX0_speak_22 : decode cX0_speak 22 = .ok (.iadd, 1) := by decide +kernel
theorem dX0_speak_23 : decode cX0_speak 23 = .ok (.putfield 152, 3) := by decide +kernel
theorem dX0_speak_26 : decode cX0_speak 26 = .ok (.aload_n 2, 1) := by decide +kernel
theorem dX0_speak_27 : decode cX0_speak 27 = .ok (.dup, 1) := by decide +kernel
theorem dX0_speak_28 : decode cX0_speak 28 = .ok (.getfield 80, 3) := by decide +kernel
theorem dX0_speak_31 : decode cX0_speak 31 = .ok (.iconst 1, 1) := by decide +kernel
theorem dX0_speak_32 : decode cX0_speak 32 = .ok (.iload_n 3, 1) := by decide +kernel
theorem dX0_speak_33 : decode cX0_speak 33 = .ok (.ishl, 1) := by decide +kernel
theorem dX0_speak_34 : decode cX0_speak 34 = .ok (.ior, 1) := by decide +kernel
theorem dX0_speak_35 : decode cX0_speak 35 = .ok (.putfield 80, 3) := by decide +kernel
theorem dX0_speak_38 : decode cX0_speak 38 = .ok (.aload_n 0, 1) := by decide +kernel
theorem dX0_speak_39 : decode cX0_speak 39 = .ok (.dup, 1) := by decide +kernel
theorem dX0_speak_40 : decode cX0_speak 40 = .ok (.getfield 48, 3) := by decide +kernel
theorem dX0_speak_43 : decode cX0_speak 43 = .ok (.iconst 1, 1) := by decide +kernel
theorem dX0_speak_44 : decode cX0_speak 44 = .ok (.iadd, 1) := by decide +kernel
theorem dX0_speak_45 : decode cX0_speak 45 = .ok (.putfield 48, 3) := by decide +kernel
theorem dX0_speak_48 : decode cX0_speak 48 = .ok (.iconst 0, 1) := by decide +kernel
theorem dX0_speak_49 : decode cX0_speak 49 = .ok (.istore 4, 2) := by decide +kernel
theorem dX0_speak_51 : decode cX0_speak 51 = .ok (.iload 4, 2) := by decide +kernel
theorem dX0_speak_53 : decode cX0_speak 53 = .ok (.aload_n 0, 1) := by decide +kernel
theorem dX0_speak_54 : decode cX0_speak 54 = .ok (.getfield 38, 3) := by decide +kernel
theorem dX0_speak_57 : decode cX0_speak 57 = .ok (.if_icmp .ge 52, 3) := by decide +kernel
theorem dX0_speak_60 : decode cX0_speak 60 = .ok (.iload 4, 2) := by decide +kernel
theorem dX0_speak_62 : decode cX0_speak 62 = .ok (.iload_n 1, 1) := by decide +kernel
theorem dX0_speak_63 : decode cX0_speak 63 = .ok (.if_icmp .eq 40, 3) := by decide +kernel
theorem dX0_speak_66 : decode cX0_speak 66 = .ok (.aload_n 2, 1) := by decide +kernel
theorem dX0_speak_67 : decode cX0_speak 67 = .ok (.getfield 77, 3) := by decide +kernel
theorem dX0_speak_70 : decode cX0_speak 70 = .ok (.iload 4, 2) := by decide +kernel
theorem dX0_speak_72 : decode cX0_speak 72 = .ok (.invokestatic 64, 3) := by decide +kernel
theorem dX0_speak_75 : decode cX0_speak 75 = .ok (.ifCond .eq 28, 3) := by decide +kernel
theorem dX0_speak_78 : decode cX0_speak 78 = .ok (.aload_n 0, 1) := by decide +kernel
theorem dX0_speak_79 : decode cX0_speak 79 = .ok (.getfield 20, 3) := by decide +kernel
theorem dX0_speak_82 : decode cX0_speak 82 = .ok (.iconst 0, 1) := by decide +kernel
theorem dX0_speak_83 : decode cX0_speak 83 = .ok (.aload_n 2, 1) := by decide +kernel
theorem dX0_speak_84 : decode cX0_speak 84 = .ok (.aload_n 0, 1) := by decide +kernel
theorem dX0_speak_85 : decode cX0_speak 85 = .ok (.getfield 11, 3) := by decide +kernel
theorem dX0_speak_88 : decode cX0_speak 88 = .ok (.iload 4, 2) := by decide +kernel
theorem dX0_speak_90 : decode cX0_speak 90 = .ok (.aaload, 1) := by decide +kernel
theorem dX0_speak_91 : decode cX0_speak 91 = .ok (.aload_n 0, 1) := by decide +kernel
theorem dX0_speak_92 : decode cX0_speak 92 = .ok (.getfield 42, 3) := by decide +kernel
theorem dX0_speak_95 : decode cX0_speak 95 = .ok (.aload_n 2, 1) := by decide +kernel
theorem dX0_speak_96 : decode cX0_speak 96 = .ok (.getfield 71, 3) := by decide +kernel
theorem dX0_speak_99 : decode cX0_speak 99 = .ok (.iload_n 3, 1) := by decide +kernel
theorem dX0_speak_100 : decode cX0_speak 100 = .ok (.invokevirtual 153, 3) := by decide +kernel
theorem dX0_speak_103 : decode cX0_speak 103 = .ok (.iinc 4 1, 3) := by decide +kernel
theorem dX0_speak_106 : decode cX0_speak 106 = .ok (.goto (-55), 3) := by decide +kernel
theorem dX0_speak_109 : decode cX0_speak 109 = .ok (.iload_n 3, 1) := by decide +kernel
theorem dX0_speak_110 : decode cX0_speak 110 = .ok (.ireturn, 1) := by decide +kernel
theorem dX0_callRoll_0 : decode cX0_callRoll 0 = .ok (.aload_n 0, 1) := by decide +kernel
theorem dX0_callRoll_1 : decode cX0_callRoll 1 = .ok (.getfield 11, 3) := by decide +kernel
theorem dX0_callRoll_4 : decode cX0_callRoll 4 = .ok (.iload_n 1, 1) := by decide +kernel
theorem dX0_callRoll_5 : decode cX0_callRoll 5 = .ok (.aaload, 1) := by decide +kernel
theorem dX0_callRoll_6 : decode cX0_callRoll 6 = .ok (.astore_n 3, 1) := by decide +kernel
theorem dX0_callRoll_7 : decode cX0_callRoll 7 = .ok (.aload_n 3, 1) := by decide +kernel
theorem dX0_callRoll_8 : decode cX0_callRoll 8 = .ok (.iload_n 2, 1) := by decide +kernel
theorem dX0_callRoll_9 : decode cX0_callRoll 9 = .ok (.aload_n 0, 1) := by decide +kernel
theorem dX0_callRoll_10 : decode cX0_callRoll 10 = .ok (.getfield 42, 3) := by decide +kernel
theorem dX0_callRoll_13 : decode cX0_callRoll 13 = .ok (.invokevirtual 157, 3) := by decide +kernel
theorem dX0_callRoll_16 : decode cX0_callRoll 16 = .ok (.aload_n 3, 1) := by decide +kernel
theorem dX0_callRoll_17 : decode cX0_callRoll 17 = .ok (.getfield 161, 3) := by decide +kernel
theorem dX0_callRoll_20 : decode cX0_callRoll 20 = .ok (.istore 4, 2) := by decide +kernel
theorem dX0_callRoll_22 : decode cX0_callRoll 22 = .ok (.iconst 0, 1) := by decide +kernel
theorem dX0_callRoll_23 : decode cX0_callRoll 23 = .ok (.istore 5, 2) := by decide +kernel
theorem dX0_callRoll_25 : decode cX0_callRoll 25 = .ok (.iload 5, 2) := by decide +kernel
theorem dX0_callRoll_27 : decode cX0_callRoll 27 = .ok (.aload_n 0, 1) := by decide +kernel
theorem dX0_callRoll_28 : decode cX0_callRoll 28 = .ok (.getfield 38, 3) := by decide +kernel
theorem dX0_callRoll_31 : decode cX0_callRoll 31 = .ok (.if_icmp .ge 47, 3) := by decide +kernel
theorem dX0_callRoll_34 : decode cX0_callRoll 34 = .ok (.iload 5, 2) := by decide +kernel
theorem dX0_callRoll_36 : decode cX0_callRoll 36 = .ok (.iload_n 1, 1) := by decide +kernel
theorem dX0_callRoll_37 : decode cX0_callRoll 37 = .ok (.if_icmp .eq 35, 3) := by decide +kernel
theorem dX0_callRoll_40 : decode cX0_callRoll 40 = .ok (.iload_n 2, 1) := by decide +kernel
theorem dX0_callRoll_41 : decode cX0_callRoll 41 = .ok (.iload 5, 2) := by decide +kernel
theorem dX0_callRoll_43 : decode cX0_callRoll 43 = .ok (.invokestatic 64, 3) := by decide +kernel
theorem dX0_callRoll_46 : decode cX0_callRoll 46 = .ok (.ifCond .eq 26, 3) := by decide +kernel
theorem dX0_callRoll_49 : decode cX0_callRoll 49 = .ok (.aload_n 0, 1) := by decide +kernel
theorem dX0_callRoll_50 : decode cX0_callRoll 50 = .ok (.getfield 20, 3) := by decide +kernel
theorem dX0_callRoll_53 : decode cX0_callRoll 53 = .ok (.iconst 1, 1) := by decide +kernel
theorem dX0_callRoll_54 : decode cX0_callRoll 54 = .ok (.aload_n 3, 1) := by decide +kernel
theorem dX0_callRoll_55 : decode cX0_callRoll 55 = .ok (.aload_n 0, 1) := by decide +kernel
theorem dX0_callRoll_56 : decode cX0_callRoll 56 = .ok (.getfield 11, 3) := by decide +kernel
theorem dX0_callRoll_59 : decode cX0_callRoll 59 = .ok (.iload 5, 2) := by decide +kernel
theorem dX0_callRoll_61 : decode cX0_callRoll 61 = .ok (.aaload, 1) := by decide +kernel
theorem dX0_callRoll_62 : decode cX0_callRoll 62 = .ok (.aload_n 0, 1) := by decide +kernel
theorem dX0_callRoll_63 : decode cX0_callRoll 63 = .ok (.getfield 42, 3) := by decide +kernel
theorem dX0_callRoll_66 : decode cX0_callRoll 66 = .ok (.iload 4, 2) := by decide +kernel
theorem dX0_callRoll_68 : decode cX0_callRoll 68 = .ok (.iload_n 2, 1) := by decide +kernel
theorem dX0_callRoll_69 : decode cX0_callRoll 69 = .ok (.invokevirtual 153, 3) := by decide +kernel
theorem dX0_callRoll_72 : decode cX0_callRoll 72 = .ok (.iinc 5 1, 3) := by decide +kernel
theorem dX0_callRoll_75 : decode cX0_callRoll 75 = .ok (.goto (-50), 3) := by decide +kernel
theorem dX0_callRoll_78 : decode cX0_callRoll 78 = .ok (.aload_n 3, 1) := by decide +kernel
theorem dX0_callRoll_79 : decode cX0_callRoll 79 = .ok (.invokevirtual 164, 3) := by decide +kernel
theorem dX0_callRoll_82 : decode cX0_callRoll 82 = .ok (.ifCond .eq 8, 3) := by decide +kernel
theorem dX0_callRoll_85 : decode cX0_callRoll 85 = .ok (.aload_n 0, 1) := by decide +kernel
theorem dX0_callRoll_86 : decode cX0_callRoll 86 = .ok (.aload_n 3, 1) := by decide +kernel
theorem dX0_callRoll_87 : decode cX0_callRoll 87 = .ok (.invokevirtual 167, 3) := by decide +kernel
theorem dX0_callRoll_90 : decode cX0_callRoll 90 = .ok (.iload 4, 2) := by decide +kernel
theorem dX0_callRoll_92 : decode cX0_callRoll 92 = .ok (.ireturn, 1) := by decide +kernel
theorem dX0_letTicksGo_0 : decode cX0_letTicksGo 0 = .ok (.iconst 0, 1) := by decide +kernel
theorem dX0_letTicksGo_1 : decode cX0_letTicksGo 1 = .ok (.istore_n 2, 1) := by decide +kernel
theorem dX0_letTicksGo_2 : decode cX0_letTicksGo 2 = .ok (.iload_n 2, 1) := by decide +kernel
theorem dX0_letTicksGo_3 : decode cX0_letTicksGo 3 = .ok (.iload_n 1, 1) := by decide +kernel
theorem dX0_letTicksGo_4 : decode cX0_letTicksGo 4 = .ok (.if_icmp .ge 106, 3) := by decide +kernel
theorem dX0_letTicksGo_7 : decode cX0_letTicksGo 7 = .ok (.aload_n 0, 1) := by decide +kernel
theorem dX0_letTicksGo_8 : decode cX0_letTicksGo 8 = .ok (.dup, 1) := by decide +kernel
theorem dX0_letTicksGo_9 : decode cX0_letTicksGo 9 = .ok (.getfield 42, 3) := by decide +kernel
theorem dX0_letTicksGo_12 : decode cX0_letTicksGo 12 = .ok (.iconst 1, 1) := by decide +kernel
theorem dX0_letTicksGo_13 : decode cX0_letTicksGo 13 = .ok (.iadd, 1) := by decide +kernel
theorem dX0_letTicksGo_14 : decode cX0_letTicksGo 14 = .ok (.putfield 42, 3) := by decide +kernel
theorem dX0_letTicksGo_17 : decode cX0_letTicksGo 17 = .ok (.aload_n 0, 1) := by decide +kernel
theorem dX0_letTicksGo_18 : decode cX0_letTicksGo 18 = .ok (.getfield 20, 3) := by decide +kernel
theorem dX0_letTicksGo_21 : decode cX0_letTicksGo 21 = .ok (.getfield 170, 3) := by decide +kernel
theorem dX0_letTicksGo_24 : decode cX0_letTicksGo 24 = .ok (.istore_n 3, 1) := by decide +kernel
theorem dX0_letTicksGo_25 : decode cX0_letTicksGo 25 = .ok (.iload_n 3, 1) := by decide +kernel
theorem dX0_letTicksGo_26 : decode cX0_letTicksGo 26 = .ok (.ifCond .le 27, 3) := by decide +kernel
theorem dX0_letTicksGo_29 : decode cX0_letTicksGo 29 = .ok (.aload_n 0, 1) := by decide +kernel
theorem dX0_letTicksGo_30 : decode cX0_letTicksGo 30 = .ok (.getfield 20, 3) := by decide +kernel
theorem dX0_letTicksGo_33 : decode cX0_letTicksGo 33 = .ok (.aload_n 0, 1) := by decide +kernel
theorem dX0_letTicksGo_34 : decode cX0_letTicksGo 34 = .ok (.getfield 42, 3) := by decide +kernel
theorem dX0_letTicksGo_37 : decode cX0_letTicksGo 37 = .ok (.invokevirtual 171, 3) := by decide +kernel
theorem dX0_letTicksGo_40 : decode cX0_letTicksGo 40 = .ok (.ifCond .eq 13, 3) := by decide +kernel
theorem dX0_letTicksGo_43 : decode cX0_letTicksGo 43 = .ok (.aload_n 0, 1) := by decide +kernel
theorem dX0_letTicksGo_44 : decode cX0_letTicksGo 44 = .ok (.invokevirtual 174, 3) := by decide +kernel
theorem dX0_letTicksGo_47 : decode cX0_letTicksGo 47 = .ok (.iinc 3 (-1), 3) := by decide +kernel
theorem dX0_letTicksGo_50 : decode cX0_letTicksGo 50 = .ok (.goto (-25), 3) := by decide +kernel
theorem dX0_letTicksGo_53 : decode cX0_letTicksGo 53 = .ok (.iconst 0, 1) := by decide +kernel
theorem dX0_letTicksGo_54 : decode cX0_letTicksGo 54 = .ok (.istore_n 3, 1) := by decide +kernel
theorem dX0_letTicksGo_55 : decode cX0_letTicksGo 55 = .ok (.iload_n 3, 1) := by decide +kernel
theorem dX0_letTicksGo_56 : decode cX0_letTicksGo 56 = .ok (.aload_n 0, 1) := by decide +kernel
theorem dX0_letTicksGo_57 : decode cX0_letTicksGo 57 = .ok (.getfield 38, 3) := by decide +kernel
theorem dX0_letTicksGo_60 : decode cX0_letTicksGo 60 = .ok (.if_icmp .ge 44, 3) := by decide +kernel
theorem dX0_letTicksGo_63 : decode cX0_letTicksGo 63 = .ok (.aload_n 0, 1) := by decide +kernel
theorem dX0_letTicksGo_64 : decode cX0_letTicksGo 64 = .ok (.getfield 11, 3) := by decide +kernel
theorem dX0_letTicksGo_67 : decode cX0_letTicksGo 67 = .ok (.iload_n 3, 1) := by decide +kernel
theorem dX0_letTicksGo_68 : decode cX0_letTicksGo 68 = .ok (.aaload, 1) := by decide +kernel
theorem dX0_letTicksGo_69 : decode cX0_letTicksGo 69 = .ok (.aload_n 0, 1) := by decide +kernel
theorem dX0_letTicksGo_70 : decode cX0_letTicksGo 70 = .ok (.getfield 42, 3) := by decide +kernel
theorem dX0_letTicksGo_73 : decode cX0_letTicksGo 73 = .ok (.aload_n 0, 1) := by decide +kernel
theorem dX0_letTicksGo_74 : decode cX0_letTicksGo 74 = .ok (.getfield 45, 3) := by decide +kernel
theorem dX0_letTicksGo_77 : decode cX0_letTicksGo 77 = .ok (.invokevirtual 177, 3) := by decide +kernel
theorem dX0_letTicksGo_80 : decode cX0_letTicksGo 80 = .ok (.ifCond .eq 18, 3) := by decide +kernel
theorem dX0_letTicksGo_83 : decode cX0_letTicksGo 83 = .ok (.aload_n 0, 1) := by decide +kernel
theorem dX0_letTicksGo_84 : decode cX0_letTicksGo 84 = .ok (.iload_n 3, 1) := by decide +kernel
theorem dX0_letTicksGo_85 : decode cX0_letTicksGo 85 = .ok (.aload_n 0, 1) := by decide +kernel
theorem dX0_letTicksGo_86 : decode cX0_letTicksGo 86 = .ok (.getfield 11, 3) := by decide +kernel
theorem dX0_letTicksGo_89 : decode cX0_letTicksGo 89 = .ok (.iload_n 3, 1) := by decide +kernel
theorem dX0_letTicksGo_90 : decode cX0_letTicksGo 90 = .ok (.aaload, 1) := by decide +kernel
theorem dX0_letTicksGo_91 : decode cX0_letTicksGo 91 = .ok (.getfield 180, 3) := by decide +kernel
theorem dX0_letTicksGo_94 : decode cX0_letTicksGo 94 = .ok (.invokevirtual 139, 3) := by decide +kernel
theorem dX0_letTicksGo_97 : decode cX0_letTicksGo 97 = .ok (.pop, 1) := by decide +kernel
theorem dX0_letTicksGo_98 : decode cX0_letTicksGo 98 = .ok (.iinc 3 1, 3) := by decide +kernel
theorem dX0_letTicksGo_101 : decode cX0_letTicksGo 101 = .ok (.goto (-46), 3) := by decide +kernel
theorem dX0_letTicksGo_104 : decode cX0_letTicksGo 104 = .ok (.iinc 2 1, 3) := by decide +kernel
theorem dX0_letTicksGo_107 : decode cX0_letTicksGo 107 = .ok (.goto (-105), 3) := by decide +kernel
theorem dX0_letTicksGo_110 : decode cX0_letTicksGo 110 = .ok (.return_, 1) := by decide +kernel
theorem dX0_noteComes_0 : decode cX0_noteComes 0 = .ok (.aload_n 0, 1) := by decide +kernel
theorem dX0_noteComes_1 : decode cX0_noteComes 1 = .ok (.getfield 20, 3) := by decide +kernel
theorem dX0_noteComes_4 : decode cX0_noteComes 4 = .ok (.aload_n 0, 1) := by decide +kernel
theorem dX0_noteComes_5 : decode cX0_noteComes 5 = .ok (.getfield 24, 3) := by decide +kernel
theorem dX0_noteComes_8 : decode cX0_noteComes 8 = .ok (.invokevirtual 183, 3) := by decide +kernel
theorem dX0_noteComes_11 : decode cX0_noteComes 11 = .ok (.aload_n 0, 1) := by decide +kernel
theorem dX0_noteComes_12 : decode cX0_noteComes 12 = .ok (.getfield 24, 3) := by decide +kernel
theorem dX0_noteComes_15 : decode cX0_noteComes 15 = .ok (.iconst 1, 1) := by decide +kernel
theorem dX0_noteComes_16 : decode cX0_noteComes 16 = .ok (.iaload, 1) := by decide +kernel
theorem dX0_noteComes_17 : decode cX0_noteComes 17 = .ok (.istore_n 1, 1) := by decide +kernel
theorem dX0_noteComes_18 : decode cX0_noteComes 18 = .ok (.aload_n 0, 1) := by decide +kernel
theorem dX0_noteComes_19 : decode cX0_noteComes 19 = .ok (.getfield 24, 3) := by decide +kernel
theorem dX0_noteComes_22 : decode cX0_noteComes 22 = .ok (.iconst 2, 1) := by decide +kernel
theorem dX0_noteComes_23 : decode cX0_noteComes 23 = .ok (.iaload, 1) := by decide +kernel
theorem dX0_noteComes_24 : decode cX0_noteComes 24 = .ok (.istore_n 2, 1) := by decide +kernel
theorem dX0_noteComes_25 : decode cX0_noteComes 25 = .ok (.aload_n 0, 1) := by decide +kernel
theorem dX0_noteComes_26 : decode cX0_noteComes 26 = .ok (.iload_n 1, 1) := by decide +kernel
theorem dX0_noteComes_27 : decode cX0_noteComes 27 = .ok (.invokevirtual 115, 3) := by decide +kernel
theorem dX0_noteComes_30 : decode cX0_noteComes 30 = .ok (.ifCond .eq 11, 3) := by decide +kernel
theorem dX0_noteComes_33 : decode cX0_noteComes 33 = .ok (.aload_n 0, 1) := by decide +kernel
theorem dX0_noteComes_34 : decode cX0_noteComes 34 = .ok (.iload_n 2, 1) := by decide +kernel
theorem dX0_noteComes_35 : decode cX0_noteComes 35 = .ok (.invokevirtual 115, 3) := by decide +kernel
theorem dX0_noteComes_38 : decode cX0_noteComes 38 = .ok (.ifCond .ne 4, 3) := by decide +kernel
theorem dX0_noteComes_41 : decode cX0_noteComes 41 = .ok (.return_, 1) := by decide +kernel
theorem dX0_noteComes_42 : decode cX0_noteComes 42 = .ok (.aload_n 0, 1) := by decide +kernel
theorem dX0_noteComes_43 : decode cX0_noteComes 43 = .ok (.getfield 11, 3) := by decide +kernel
theorem dX0_noteComes_46 : decode cX0_noteComes 46 = .ok (.iload_n 2, 1) := by decide +kernel
theorem dX0_noteComes_47 : decode cX0_noteComes 47 = .ok (.aaload, 1) := by decide +kernel
theorem dX0_noteComes_48 : decode cX0_noteComes 48 = .ok (.astore_n 3, 1) := by decide +kernel
theorem dX0_noteComes_49 : decode cX0_noteComes 49 = .ok (.aload_n 3, 1) := by decide +kernel
theorem dX0_noteComes_50 : decode cX0_noteComes 50 = .ok (.getfield 57, 3) := by decide +kernel
theorem dX0_noteComes_53 : decode cX0_noteComes 53 = .ok (.iconst 2, 1) := by decide +kernel
theorem dX0_noteComes_54 : decode cX0_noteComes 54 = .ok (.if_icmp .ne 17, 3) := by decide +kernel
theorem dX0_noteComes_57 : decode cX0_noteComes 57 = .ok (.aload_n 0, 1) := by decide +kernel
theorem dX0_noteComes_58 : decode cX0_noteComes 58 = .ok (.getfield 20, 3) := by decide +kernel
theorem dX0_noteComes_61 : decode cX0_noteComes 61 = .ok (.dup, 1) := by decide +kernel
theorem dX0_noteComes_62 : decode cX0_noteComes 62 = .ok (.getfield 187, 3) := by decide +kernel
theorem dX0_noteComes_65 : decode cX0_noteComes 65 = .ok (.iconst 1, 1) := by decide +kernel
theorem dX0_noteComes_66 : decode cX0_noteComes 66 = .ok (.iadd, 1) := by decide +kernel
theorem dX0_noteComes_67 : decode cX0_noteComes 67 = .ok (.putfield 187, 3) := by decide +kernel
theorem dX0_noteComes_70 : decode cX0_noteComes 70 = .ok (.return_, 1) := by decide +kernel
theorem dX0_noteComes_71 : decode cX0_noteComes 71 = .ok (.aload_n 0, 1) := by decide +kernel
theorem dX0_noteComes_72 : decode cX0_noteComes 72 = .ok (.getfield 24, 3) := by decide +kernel
theorem dX0_noteComes_75 : decode cX0_noteComes 75 = .ok (.iconst 0, 1) := by decide +kernel
theorem dX0_noteComes_76 : decode cX0_noteComes 76 = .ok (.iaload, 1) := by decide +kernel
theorem dX0_noteComes_77 : decode cX0_noteComes 77 = .ok (.tableswitch 106 0 2 #[27, 67, 87], 27) := by decide +kernel
theorem dX0_noteComes_104 : decode cX0_noteComes 104 = .ok (.aload_n 3, 1) := by decide +kernel
theorem dX0_noteComes_105 : decode cX0_noteComes 105 = .ok (.aload_n 0, 1) := by decide +kernel
theorem dX0_noteComes_106 : decode cX0_noteComes 106 = .ok (.getfield 24, 3) := by decide +kernel
theorem dX0_noteComes_109 : decode cX0_noteComes 109 = .ok (.bipush 6, 2) := by decide +kernel
theorem dX0_noteComes_111 : decode cX0_noteComes 111 = .ok (.iaload, 1) := by decide +kernel
theorem dX0_noteComes_112 : decode cX0_noteComes 112 = .ok (.aload_n 0, 1) := by decide +kernel
theorem dX0_noteComes_113 : decode cX0_noteComes 113 = .ok (.getfield 24, 3) := by decide +kernel
theorem dX0_noteComes_116 : decode cX0_noteComes 116 = .ok (.bipush 7, 2) := by decide +kernel
theorem dX0_noteComes_118 : decode cX0_noteComes 118 = .ok (.iaload, 1) := by decide +kernel
theorem dX0_noteComes_119 : decode cX0_noteComes 119 = .ok (.aload_n 0, 1) := by decide +kernel
theorem dX0_noteComes_120 : decode cX0_noteComes 120 = .ok (.getfield 24, 3) := by decide +kernel
theorem dX0_noteComes_123 : decode cX0_noteComes 123 = .ok (.iconst 5, 1) := by decide +kernel
theorem dX0_noteComes_124 : decode cX0_noteComes 124 = .ok (.iaload, 1) := by decide +kernel
theorem dX0_noteComes_125 : decode cX0_noteComes 125 = .ok (.invokevirtual 190, 3) := by decide +kernel
theorem dX0_noteComes_128 : decode cX0_noteComes 128 = .ok (.ifCond .ne 79, 3) := by decide +kernel
theorem dX0_noteComes_131 : decode cX0_noteComes 131 = .ok (.aload_n 0, 1) := by decide +kernel
theorem dX0_noteComes_132 : decode cX0_noteComes 132 = .ok (.dup, 1) := by decide +kernel
theorem dX0_noteComes_133 : decode cX0_noteComes 133 = .ok (.getfield 51, 3) := by decide +kernel
theorem dX0_noteComes_136 : decode cX0_noteComes 136 = .ok (.iconst 1, 1) := by decide +kernel
theorem dX0_noteComes_137 : decode cX0_noteComes 137 = .ok (.iadd, 1) := by decide +kernel
theorem dX0_noteComes_138 : decode cX0_noteComes 138 = .ok (.putfield 51, 3) := by decide +kernel
theorem dX0_noteComes_141 : decode cX0_noteComes 141 = .ok (.goto 66, 3) := by decide +kernel
theorem dX0_noteComes_144 : decode cX0_noteComes 144 = .ok (.aload_n 0, 1) := by decide +kernel
theorem dX0_noteComes_145 : decode cX0_noteComes 145 = .ok (.aload_n 3, 1) := by decide +kernel
theorem dX0_noteComes_146 : decode cX0_noteComes 146 = .ok (.aload_n 0, 1) := by decide +kernel
theorem dX0_noteComes_147 : decode cX0_noteComes 147 = .ok (.getfield 11, 3) := by decide +kernel
theorem dX0_noteComes_150 : decode cX0_noteComes 150 = .ok (.iload_n 1, 1) := by decide +kernel
theorem dX0_noteComes_151 : decode cX0_noteComes 151 = .ok (.aaload, 1) := by decide +kernel
theorem dX0_noteComes_152 : decode cX0_noteComes 152 = .ok (.aload_n 0, 1) := by decide +kernel
theorem dX0_noteComes_153 : decode cX0_noteComes 153 = .ok (.getfield 24, 3) := by decide +kernel
theorem dX0_noteComes_156 : decode cX0_noteComes 156 = .ok (.iconst 4, 1) := by decide +kernel
theorem dX0_noteComes_157 : decode cX0_noteComes 157 = .ok (.iaload, 1) := by decide +kernel
theorem dX0_noteComes_158 : decode cX0_noteComes 158 = .ok (.invokevirtual 193, 3) := by decide +kernel
theorem dX0_noteComes_161 : decode cX0_noteComes 161 = .ok (.goto 46, 3) := by decide +kernel
theorem dX0_noteComes_164 : decode cX0_noteComes 164 = .ok (.aload_n 3, 1) := by decide +kernel
theorem dX0_noteComes_165 : decode cX0_noteComes 165 = .ok (.aload_n 0, 1) := by decide +kernel
theorem dX0_noteComes_166 : decode cX0_noteComes 166 = .ok (.getfield 24, 3) := by decide +kernel
theorem dX0_noteComes_169 : decode cX0_noteComes 169 = .ok (.invokevirtual 197, 3) := by decide +kernel
theorem dX0_noteComes_172 : decode cX0_noteComes 172 = .ok (.ifCond .eq 35, 3) := by decide +kernel
theorem dX0_noteComes_175 : decode cX0_noteComes 175 = .ok (.aload_n 0, 1) := by decide +kernel
theorem dX0_noteComes_176 : decode cX0_noteComes 176 = .ok (.aload_n 3, 1) := by decide +kernel
theorem dX0_noteComes_177 : decode cX0_noteComes 177 = .ok (.invokevirtual 167, 3) := by decide +kernel
theorem dX0_noteComes_180 : decode cX0_noteComes 180 = .ok (.goto 27, 3) := by decide +kernel
theorem dX0_noteComes_183 : decode cX0_noteComes 183 = .ok (.aload_n 3, 1) := by decide +kernel
theorem dX0_noteComes_184 : decode cX0_noteComes 184 = .ok (.aload_n 0, 1) := by decide +kernel
theorem dX0_noteComes_185 : decode cX0_noteComes 185 = .ok (.getfield 24, 3) := by decide +kernel
theorem dX0_noteComes_188 : decode cX0_noteComes 188 = .ok (.iconst 4, 1) := by decide +kernel
theorem dX0_noteComes_189 : decode cX0_noteComes 189 = .ok (.iaload, 1) := by decide +kernel
theorem dX0_noteComes_190 : decode cX0_noteComes 190 = .ok (.iload_n 1, 1) := by decide +kernel
theorem dX0_noteComes_191 : decode cX0_noteComes 191 = .ok (.aload_n 0, 1) := by decide +kernel
theorem dX0_noteComes_192 : decode cX0_noteComes 192 = .ok (.getfield 24, 3) := by decide +kernel
theorem dX0_noteComes_195 : decode cX0_noteComes 195 = .ok (.bipush 8, 2) := by decide +kernel
theorem dX0_noteComes_197 : decode cX0_noteComes 197 = .ok (.iaload, 1) := by decide +kernel
theorem dX0_noteComes_198 : decode cX0_noteComes 198 = .ok (.aload_n 0, 1) := by decide +kernel
theorem dX0_noteComes_199 : decode cX0_noteComes 199 = .ok (.getfield 24, 3) := by decide +kernel
theorem dX0_noteComes_202 : decode cX0_noteComes 202 = .ok (.iconst 5, 1) := by decide +kernel
theorem dX0_noteComes_203 : decode cX0_noteComes 203 = .ok (.iaload, 1) := by decide +kernel
theorem dX0_noteComes_204 : decode cX0_noteComes 204 = .ok (.invokevirtual 201, 3) := by decide +kernel
theorem dX0_noteComes_207 : decode cX0_noteComes 207 = .ok (.return_, 1) := by decide +kernel
theorem dX0_answerCall_0 : decode cX0_answerCall 0 = .ok (.iload_n 3, 1) := by decide +kernel
theorem dX0_answerCall_1 : decode cX0_answerCall 1 = .ok (.aload_n 1, 1) := by decide +kernel
theorem dX0_answerCall_2 : decode cX0_answerCall 2 = .ok (.getfield 205, 3) := by decide +kernel
theorem dX0_answerCall_5 : decode cX0_answerCall 5 = .ok (.if_icmp .le 27, 3) := by decide +kernel
theorem dX0_answerCall_8 : decode cX0_answerCall 8 = .ok (.aload_n 1, 1) := by decide +kernel
theorem dX0_answerCall_9 : decode cX0_answerCall 9 = .ok (.iload_n 3, 1) := by decide +kernel
theorem dX0_answerCall_10 : decode cX0_answerCall 10 = .ok (.invokevirtual 208, 3) := by decide +kernel
theorem dX0_answerCall_13 : decode cX0_answerCall 13 = .ok (.aload_n 0, 1) := by decide +kernel
theorem dX0_answerCall_14 : decode cX0_answerCall 14 = .ok (.getfield 20, 3) := by decide +kernel
theorem dX0_answerCall_17 : decode cX0_answerCall 17 = .ok (.iconst 2, 1) := by decide +kernel
theorem dX0_answerCall_18 : decode cX0_answerCall 18 = .ok (.aload_n 1, 1) := by decide +kernel
theorem dX0_answerCall_19 : decode cX0_answerCall 19 = .ok (.aload_n 2, 1) := by decide +kernel
theorem dX0_answerCall_20 : decode cX0_answerCall 20 = .ok (.aload_n 0, 1) := by decide +kernel
theorem dX0_answerCall_21 : decode cX0_answerCall 21 = .ok (.getfield 42, 3) := by decide +kernel
theorem dX0_answerCall_24 : decode cX0_answerCall 24 = .ok (.iload_n 3, 1) := by decide +kernel
theorem dX0_answerCall_25 : decode cX0_answerCall 25 = .ok (.aload_n 1, 1) := by decide +kernel
theorem dX0_answerCall_26 : decode cX0_answerCall 26 = .ok (.getfield 80, 3) := by decide +kernel
theorem dX0_answerCall_29 : decode cX0_answerCall 29 = .ok (.invokevirtual 153, 3) := by decide +kernel
theorem dX0_answerCall_32 : decode cX0_answerCall 32 = .ok (.return_, 1) := by decide +kernel
theorem dX0_rollStands_0 : decode cX0_rollStands 0 = .ok (.aload_n 1, 1) := by decide +kernel
theorem dX0_rollStands_1 : decode cX0_rollStands 1 = .ok (.getfield 161, 3) := by decide +kernel
theorem dX0_rollStands_4 : decode cX0_rollStands 4 = .ok (.istore_n 2, 1) := by decide +kernel
theorem dX0_rollStands_5 : decode cX0_rollStands 5 = .ok (.aload_n 1, 1) := by decide +kernel
theorem dX0_rollStands_6 : decode cX0_rollStands 6 = .ok (.getfield 211, 3) := by decide +kernel
theorem dX0_rollStands_9 : decode cX0_rollStands 9 = .ok (.istore_n 3, 1) := by decide +kernel
theorem dX0_rollStands_10 : decode cX0_rollStands 10 = .ok (.aload_n 0, 1) := by decide +kernel
theorem dX0_rollStands_11 : decode cX0_rollStands 11 = .ok (.dup, 1) := by decide +kernel
theorem dX0_rollStands_12 : decode cX0_rollStands 12 = .ok (.getfield 54, 3) := by decide +kernel
theorem dX0_rollStands_15 : decode cX0_rollStands 15 = .ok (.iconst 1, 1) := by decide +kernel
theorem dX0_rollStands_16 : decode cX0_rollStands 16 = .ok (.iadd, 1) := by decide +kernel
theorem dX0_rollStands_17 : decode cX0_rollStands 17 = .ok (.putfield 54, 3) := by decide +kernel
theorem dX0_rollStands_20 : decode cX0_rollStands 20 = .ok (.aload_n 1, 1) := by decide +kernel
theorem dX0_rollStands_21 : decode cX0_rollStands 21 = .ok (.iload_n 2, 1) := by decide +kernel
theorem dX0_rollStands_22 : decode cX0_rollStands 22 = .ok (.aload_n 1, 1) := by decide +kernel
theorem dX0_rollStands_23 : decode cX0_rollStands 23 = .ok (.getfield 214, 3) := by decide +kernel
theorem dX0_rollStands_26 : decode cX0_rollStands 26 = .ok (.iload_n 3, 1) := by decide +kernel
theorem dX0_rollStands_27 : decode cX0_rollStands 27 = .ok (.aload_n 1, 1) := by decide +kernel
theorem dX0_rollStands_28 : decode cX0_rollStands 28 = .ok (.getfield 217, 3) := by decide +kernel
theorem dX0_rollStands_31 : decode cX0_rollStands 31 = .ok (.aload_n 1, 1) := by decide +kernel
theorem dX0_rollStands_32 : decode cX0_rollStands 32 = .ok (.getfield 214, 3) := by decide +kernel
theorem dX0_rollStands_35 : decode cX0_rollStands 35 = .ok (.iload_n 3, 1) := by decide +kernel
theorem dX0_rollStands_36 : decode cX0_rollStands 36 = .ok (.invokevirtual 220, 3) := by decide +kernel
theorem dX0_rollStands_39 : decode cX0_rollStands 39 = .ok (.invokevirtual 201, 3) := by decide +kernel
theorem dX0_rollStands_42 : decode cX0_rollStands 42 = .ok (.iconst 0, 1) := by decide +kernel
theorem dX0_rollStands_43 : decode cX0_rollStands 43 = .ok (.istore 4, 2) := by decide +kernel
theorem dX0_rollStands_45 : decode cX0_rollStands 45 = .ok (.iload 4, 2) := by decide +kernel
theorem dX0_rollStands_47 : decode cX0_rollStands 47 = .ok (.aload_n 0, 1) := by decide +kernel
theorem dX0_rollStands_48 : decode cX0_rollStands 48 = .ok (.getfield 38, 3) := by decide +kernel
theorem dX0_rollStands_51 : decode cX0_rollStands 51 = .ok (.if_icmp .ge 62, 3) := by decide +kernel
theorem dX0_rollStands_54 : decode cX0_rollStands 54 = .ok (.iload 4, 2) := by decide +kernel
theorem dX0_rollStands_56 : decode cX0_rollStands 56 = .ok (.aload_n 1, 1) := by decide +kernel
theorem dX0_rollStands_57 : decode cX0_rollStands 57 = .ok (.getfield 214, 3) := by decide +kernel
theorem dX0_rollStands_60 : decode cX0_rollStands 60 = .ok (.if_icmp .eq 47, 3) := by decide +kernel
theorem dX0_rollStands_63 : decode cX0_rollStands 63 = .ok (.iload_n 3, 1) := by decide +kernel
theorem dX0_rollStands_64 : decode cX0_rollStands 64 = .ok (.iload 4, 2) := by decide +kernel
theorem dX0_rollStands_66 : decode cX0_rollStands 66 = .ok (.invokestatic 64, 3) := by decide +kernel
theorem dX0_rollStands_69 : decode cX0_rollStands 69 = .ok (.ifCond .eq 38, 3) := by decide +kernel
theorem dX0_rollStands_72 : decode cX0_rollStands 72 = .ok (.aload_n 1, 1) := by decide +kernel
theorem dX0_rollStands_73 : decode cX0_rollStands 73 = .ok (.getfield 217, 3) := by decide +kernel
theorem dX0_rollStands_76 : decode cX0_rollStands 76 = .ok (.iload 4, 2) := by decide +kernel
theorem dX0_rollStands_78 : decode cX0_rollStands 78 = .ok (.iload_n 3, 1) := by decide +kernel
theorem dX0_rollStands_79 : decode cX0_rollStands 79 = .ok (.invokevirtual 220, 3) := by decide +kernel
theorem dX0_rollStands_82 : decode cX0_rollStands 82 = .ok (.istore 5, 2) := by decide +kernel
theorem dX0_rollStands_84 : decode cX0_rollStands 84 = .ok (.aload_n 0, 1) := by decide +kernel
theorem dX0_rollStands_85 : decode cX0_rollStands 85 = .ok (.getfield 20, 3) := by decide +kernel
theorem dX0_rollStands_88 : decode cX0_rollStands 88 = .ok (.iconst 3, 1) := by decide +kernel
theorem dX0_rollStands_89 : decode cX0_rollStands 89 = .ok (.aload_n 1, 1) := by decide +kernel
theorem dX0_rollStands_90 : decode cX0_rollStands 90 = .ok (.aload_n 0, 1) := by decide +kernel
theorem dX0_rollStands_91 : decode cX0_rollStands 91 = .ok (.getfield 11, 3) := by decide +kernel
theorem dX0_rollStands_94 : decode cX0_rollStands 94 = .ok (.iload 4, 2) := by decide +kernel
theorem dX0_rollStands_96 : decode cX0_rollStands 96 = .ok (.aaload, 1) := by decide +kernel
theorem dX0_rollStands_97 : decode cX0_rollStands 97 = .ok (.aload_n 0, 1) := by decide +kernel
theorem dX0_rollStands_98 : decode cX0_rollStands 98 = .ok (.getfield 42, 3) := by decide +kernel
theorem dX0_rollStands_101 : decode cX0_rollStands 101 = .ok (.iload_n 2, 1) := by decide +kernel
theorem dX0_rollStands_102 : decode cX0_rollStands 102 = .ok (.iload 5, 2) := by decide +kernel
theorem dX0_rollStands_104 : decode cX0_rollStands 104 = .ok (.invokevirtual 153, 3) := by decide +kernel
theorem dX0_rollStands_107 : decode cX0_rollStands 107 = .ok (.iinc 4 1, 3) := by decide +kernel
theorem dX0_rollStands_110 : decode cX0_rollStands 110 = .ok (.goto (-65), 3) := by decide +kernel
theorem dX0_rollStands_113 : decode cX0_rollStands 113 = .ok (.return_, 1) := by decide +kernel
theorem dX1_init_0 : decode cX1_init 0 = .ok (.aload_n 0, 1) := by decide +kernel
theorem dX1_init_1 : decode cX1_init 1 = .ok (.invokespecial 3, 3) := by decide +kernel
theorem dX1_init_4 : decode cX1_init 4 = .ok (.aload_n 0, 1) := by decide +kernel
theorem dX1_init_5 : decode cX1_init 5 = .ok (.bipush 14, 2) := by decide +kernel
theorem dX1_init_7 : decode cX1_init 7 = .ok (.anewarray 9, 3) := by decide +kernel
theorem dX1_init_10 : decode cX1_init 10 = .ok (.putfield 11, 3) := by decide +kernel
theorem dX1_init_13 : decode cX1_init 13 = .ok (.iconst 0, 1) := by decide +kernel
theorem dX1_init_14 : decode cX1_init 14 = .ok (.istore_n 1, 1) := by decide +kernel
theorem dX1_init_15 : decode cX1_init 15 = .ok (.iload_n 1, 1) := by decide +kernel
theorem dX1_init_16 : decode cX1_init 16 = .ok (.bipush 14, 2) := by decide +kernel
theorem dX1_init_18 : decode cX1_init 18 = .ok (.if_icmp .ge 22, 3) := by decide +kernel
theorem dX1_init_21 : decode cX1_init 21 = .ok (.aload_n 0, 1) := by decide +kernel
theorem dX1_init_22 : decode cX1_init 22 = .ok (.getfield 11, 3) := by decide +kernel
theorem dX1_init_25 : decode cX1_init 25 = .ok (.iload_n 1, 1) := by decide +kernel
theorem dX1_init_26 : decode cX1_init 26 = .ok (.new 9, 3) := by decide +kernel
theorem dX1_init_29 : decode cX1_init 29 = .ok (.dup, 1) := by decide +kernel
theorem dX1_init_30 : decode cX1_init 30 = .ok (.invokespecial 17, 3) := by decide +kernel
theorem dX1_init_33 : decode cX1_init 33 = .ok (.aastore, 1) := by decide +kernel
theorem dX1_init_34 : decode cX1_init 34 = .ok (.iinc 1 1, 3) := by decide +kernel
theorem dX1_init_37 : decode cX1_init 37 = .ok (.goto (-22), 3) := by decide +kernel
theorem dX1_init_40 : decode cX1_init 40 = .ok (.return_, 1) := by decide +kernel
theorem dX1_remember_0 : decode cX1_remember 0 = .ok (.aload_n 0, 1) := by decide +kernel
theorem dX1_remember_1 : decode cX1_remember 1 = .ok (.getfield 11, 3) := by decide +kernel
theorem dX1_remember_4 : decode cX1_remember 4 = .ok (.aload_n 0, 1) := by decide +kernel
theorem dX1_remember_5 : decode cX1_remember 5 = .ok (.getfield 18, 3) := by decide +kernel
theorem dX1_remember_8 : decode cX1_remember 8 = .ok (.aaload, 1) := by decide +kernel
theorem dX1_remember_9 : decode cX1_remember 9 = .ok (.aload_n 1, 1) := by decide +kernel
theorem dX1_remember_10 : decode cX1_remember 10 = .ok (.invokevirtual 22, 3) := by decide +kernel
theorem dX1_remember_13 : decode cX1_remember 13 = .ok (.aload_n 0, 1) := by decide +kernel
theorem dX1_remember_14 : decode cX1_remember 14 = .ok (.aload_n 0, 1) := by decide +kernel
theorem dX1_remember_15 : decode cX1_remember 15 = .ok (.getfield 18, 3) := by decide +kernel
theorem dX1_remember_18 : decode cX1_remember 18 = .ok (.bipush 13, 2) := by decide +kernel
theorem dX1_remember_20 : decode cX1_remember 20 = .ok (.if_icmp .lt 7, 3) := by decide +kernel
theorem dX1_remember_23 : decode cX1_remember 23 = .ok (.iconst 0, 1) := by decide +kernel
theorem dX1_remember_24 : decode cX1_remember 24 = .ok (.goto 9, 3) := by decide +kernel
theorem dX1_remember_27 : decode cX1_remember 27 = .ok (.aload_n 0, 1) := by decide +kernel
theorem dX1_remember_28 : decode cX1_remember 28 = .ok (.getfield 18, 3) := by decide +kernel
theorem dX1_remember_31 : decode cX1_remember 31 = .ok (.iconst 1, 1) := by decide +kernel
theorem dX1_remember_32 : decode cX1_remember 32 = .ok (.iadd, 1) := by decide +kernel
theorem dX1_remember_33 : decode cX1_remember 33 = .ok (.putfield 18, 3) := by decide +kernel
theorem dX1_remember_36 : decode cX1_remember 36 = .ok (.aload_n 0, 1) := by decide +kernel
theorem dX1_remember_37 : decode cX1_remember 37 = .ok (.aload_n 0, 1) := by decide +kernel
theorem dX1_remember_38 : decode cX1_remember 38 = .ok (.getfield 26, 3) := by decide +kernel
theorem dX1_remember_41 : decode cX1_remember 41 = .ok (.iconst 1, 1) := by decide +kernel
theorem dX1_remember_42 : decode cX1_remember 42 = .ok (.iadd, 1) := by decide +kernel
theorem dX1_remember_43 : decode cX1_remember 43 = .ok (.bipush 14, 2) := by decide +kernel
theorem dX1_remember_45 : decode cX1_remember 45 = .ok (.invokestatic 29, 3) := by decide +kernel
theorem dX1_remember_48 : decode cX1_remember 48 = .ok (.putfield 26, 3) := by decide +kernel
theorem dX1_remember_51 : decode cX1_remember 51 = .ok (.return_, 1) := by decide +kernel
theorem dX1_takeLast_0 : decode cX1_takeLast 0 = .ok (.aload_n 0, 1) := by decide +kernel
theorem dX1_takeLast_1 : decode cX1_takeLast 1 = .ok (.aload_n 0, 1) := by decide +kernel
theorem dX1_takeLast_2 : decode cX1_takeLast 2 = .ok (.getfield 18, 3) := by decide +kernel
theorem dX1_takeLast_5 : decode cX1_takeLast 5 = .ok (.ifCond .gt 8, 3) := by decide +kernel
theorem dX1_takeLast_8 : decode cX1_takeLast 8 = .ok (.bipush 13, 2) := by decide +kernel
theorem dX1_takeLast_10 : decode cX1_takeLast 10 = .ok (.goto 9, 3) := by decide +kernel
theorem dX1_takeLast_13 : decode cX1_takeLast 13 = .ok (.aload_n 0, 1) := by decide +kernel
theorem dX1_takeLast_14 : decode cX1_takeLast 14 = .ok (.getfield 18, 3) := by decide +kernel
theorem dX1_takeLast_17 : decode cX1_takeLast 17 = .ok (.iconst 1, 1) := by decide +kernel
theorem dX1_takeLast_18 : decode cX1_takeLast 18 = .ok (.isub, 1) := by decide +kernel
theorem dX1_takeLast_19 : decode cX1_takeLast 19 = .ok (.putfield 18, 3) := by decide +kernel
theorem dX1_takeLast_22 : decode cX1_takeLast 22 = .ok (.aload_n 0, 1) := by decide +kernel
theorem dX1_takeLast_23 : decode cX1_takeLast 23 = .ok (.dup, 1) := by decide +kernel
theorem dX1_takeLast_24 : decode cX1_takeLast 24 = .ok (.getfield 26, 3) := by decide +kernel
theorem dX1_takeLast_27 : decode cX1_takeLast 27 = .ok (.iconst 1, 1) := by decide +kernel
theorem dX1_takeLast_28 : decode cX1_takeLast 28 = .ok (.isub, 1) := by decide +kernel
theorem dX1_takeLast_29 : decode cX1_takeLast 29 = .ok (.putfield 26, 3) := by decide +kernel
theorem dX1_takeLast_32 : decode cX1_takeLast 32 = .ok (.aload_n 0, 1) := by decide +kernel
theorem dX1_takeLast_33 : decode cX1_takeLast 33 = .ok (.getfield 11, 3) := by decide +kernel
theorem dX1_takeLast_36 : decode cX1_takeLast 36 = .ok (.aload_n 0, 1) := by decide +kernel
theorem dX1_takeLast_37 : decode cX1_takeLast 37 = .ok (.getfield 18, 3) := by decide +kernel
theorem dX1_takeLast_40 : decode cX1_takeLast 40 = .ok (.aaload, 1) := by decide +kernel
theorem dX1_takeLast_41 : decode cX1_takeLast 41 = .ok (.areturn, 1) := by decide +kernel
theorem dX2_init_0 : decode cX2_init 0 = .ok (.aload_n 0, 1) := by decide +kernel
theorem dX2_init_1 : decode cX2_init 1 = .ok (.invokespecial 3, 3) := by decide +kernel
theorem dX2_init_4 : decode cX2_init 4 = .ok (.aload_n 0, 1) := by decide +kernel
theorem dX2_init_5 : decode cX2_init 5 = .ok (.new 9, 3) := by decide +kernel
theorem dX2_init_8 : decode cX2_init 8 = .ok (.dup, 1) := by decide +kernel
theorem dX2_init_9 : decode cX2_init 9 = .ok (.bipush 6, 2) := by decide +kernel
theorem dX2_init_11 : decode cX2_init 11 = .ok (.invokespecial 11, 3) := by decide +kernel
theorem dX2_init_14 : decode cX2_init 14 = .ok (.putfield 14, 3) := by decide +kernel
theorem dX2_init_17 : decode cX2_init 17 = .ok (.aload_n 0, 1) := by decide +kernel
theorem dX2_init_18 : decode cX2_init 18 = .ok (.new 9, 3) := by decide +kernel
theorem dX2_init_21 : decode cX2_init 21 = .ok (.dup, 1) := by decide +kernel
theorem dX2_init_22 : decode cX2_init 22 = .ok (.bipush 12, 2) := by decide +kernel
theorem dX2_init_24 : decode cX2_init 24 = .ok (.invokespecial 11, 3) := by decide +kernel
theorem dX2_init_27 : decode cX2_init 27 = .ok (.putfield 20, 3) := by decide +kernel
theorem dX2_init_30 : decode cX2_init 30 = .ok (.aload_n 0, 1) := by decide +kernel
theorem dX2_init_31 : decode cX2_init 31 = .ok (.new 9, 3) := by decide +kernel
theorem dX2_init_34 : decode cX2_init 34 = .ok (.dup, 1) := by decide +kernel
theorem dX2_init_35 : decode cX2_init 35 = .ok (.iconst 5, 1) := by decide +kernel
theorem dX2_init_36 : decode cX2_init 36 = .ok (.invokespecial 11, 3) := by decide +kernel
theorem dX2_init_39 : decode cX2_init 39 = .ok (.putfield 23, 3) := by decide +kernel
theorem dX2_init_42 : decode cX2_init 42 = .ok (.aload_n 0, 1) := by decide +kernel
theorem dX2_init_43 : decode cX2_init 43 = .ok (.iload_n 1, 1) := by decide +kernel
theorem dX2_init_44 : decode cX2_init 44 = .ok (.putfield 26, 3) := by decide +kernel
theorem dX2_init_47 : decode cX2_init 47 = .ok (.aload_n 0, 1) := by decide +kernel
theorem dX2_init_48 : decode cX2_init 48 = .ok (.iload_n 1, 1) := by decide +kernel
theorem dX2_init_49 : decode cX2_init 49 = .ok (.putfield 30, 3) := by decide +kernel
theorem dX2_init_52 : decode cX2_init 52 = .ok (.aload_n 0, 1) := by decide +kernel
theorem dX2_init_53 : decode cX2_init 53 = .ok (.iconst 1, 1) := by decide +kernel
theorem dX2_init_54 : decode cX2_init 54 = .ok (.iload_n 1, 1) := by decide +kernel
theorem dX2_init_55 : decode cX2_init 55 = .ok (.ishl, 1) := by decide +kernel
theorem dX2_init_56 : decode cX2_init 56 = .ok (.putfield 33, 3) := by decide +kernel
theorem dX2_init_59 : decode cX2_init 59 = .ok (.return_, 1) := by decide +kernel
theorem dX2_copyFrom_0 : decode cX2_copyFrom 0 = .ok (.aload_n 0, 1) := by decide +kernel
theorem dX2_copyFrom_1 : decode cX2_copyFrom 1 = .ok (.aload_n 1, 1) := by decide +kernel
theorem dX2_copyFrom_2 : decode cX2_copyFrom 2 = .ok (.getfield 36, 3) := by decide +kernel
theorem dX2_copyFrom_5 : decode cX2_copyFrom 5 = .ok (.putfield 36, 3) := by decide +kernel
theorem dX2_copyFrom_8 : decode cX2_copyFrom 8 = .ok (.aload_n 0, 1) := by decide +kernel
theorem dX2_copyFrom_9 : decode cX2_copyFrom 9 = .ok (.aload_n 1, 1) := by decide +kernel
theorem dX2_copyFrom_10 : decode cX2_copyFrom 10 = .ok (.getfield 39, 3) := by decide +kernel
theorem dX2_copyFrom_13 : decode cX2_copyFrom 13 = .ok (.putfield 39, 3) := by decide +kernel
theorem dX2_copyFrom_16 : decode cX2_copyFrom 16 = .ok (.aload_n 0, 1) := by decide +kernel
theorem dX2_copyFrom_17 : decode cX2_copyFrom 17 = .ok (.aload_n 1, 1) := by decide +kernel
theorem dX2_copyFrom_18 : decode cX2_copyFrom 18 = .ok (.getfield 42, 3) := by decide +kernel
theorem dX2_copyFrom_21 : decode cX2_copyFrom 21 = .ok (.putfield 42, 3) := by decide +kernel
theorem dX2_copyFrom_24 : decode cX2_copyFrom 24 = .ok (.aload_n 0, 1) := by decide +kernel
theorem dX2_copyFrom_25 : decode cX2_copyFrom 25 = .ok (.aload_n 1, 1) := by decide +kernel
theorem dX2_copyFrom_26 : decode cX2_copyFrom 26 = .ok (.getfield 30, 3) := by decide +kernel
theorem dX2_copyFrom_29 : decode cX2_copyFrom 29 = .ok (.putfield 30, 3) := by decide +kernel
theorem dX2_copyFrom_32 : decode cX2_copyFrom 32 = .ok (.aload_n 0, 1) := by decide +kernel
theorem dX2_copyFrom_33 : decode cX2_copyFrom 33 = .ok (.aload_n 1, 1) := by decide +kernel
theorem dX2_copyFrom_34 : decode cX2_copyFrom 34 = .ok (.getfield 33, 3) := by decide +kernel
theorem dX2_copyFrom_37 : decode cX2_copyFrom 37 = .ok (.putfield 33, 3) := by decide +kernel
theorem dX2_copyFrom_40 : decode cX2_copyFrom 40 = .ok (.aload_n 0, 1) := by decide +kernel
theorem dX2_copyFrom_41 : decode cX2_copyFrom 41 = .ok (.aload_n 1, 1) := by decide +kernel
theorem dX2_copyFrom_42 : decode cX2_copyFrom 42 = .ok (.getfield 45, 3) := by decide +kernel
theorem dX2_copyFrom_45 : decode cX2_copyFrom 45 = .ok (.putfield 45, 3) := by decide +kernel
theorem dX2_copyFrom_48 : decode cX2_copyFrom 48 = .ok (.aload_n 0, 1) := by decide +kernel
theorem dX2_copyFrom_49 : decode cX2_copyFrom 49 = .ok (.aload_n 1, 1) := by decide +kernel
theorem dX2_copyFrom_50 : decode cX2_copyFrom 50 = .ok (.getfield 48, 3) := by decide +kernel
theorem dX2_copyFrom_53 : decode cX2_copyFrom 53 = .ok (.putfield 48, 3) := by decide +kernel
theorem dX2_copyFrom_56 : decode cX2_copyFrom 56 = .ok (.aload_n 0, 1) := by decide +kernel
theorem dX2_copyFrom_57 : decode cX2_copyFrom 57 = .ok (.aload_n 1, 1) := by decide +kernel
theorem dX2_copyFrom_58 : decode cX2_copyFrom 58 = .ok (.getfield 51, 3) := by decide +kernel
theorem dX2_copyFrom_61 : decode cX2_copyFrom 61 = .ok (.putfield 51, 3) := by decide +kernel
theorem dX2_copyFrom_64 : decode cX2_copyFrom 64 = .ok (.aload_n 0, 1) := by decide +kernel
theorem dX2_copyFrom_65 : decode cX2_copyFrom 65 = .ok (.aload_n 1, 1) := by decide +kernel
theorem dX2_copyFrom_66 : decode cX2_copyFrom 66 = .ok (.getfield 54, 3) := by decide +kernel
theorem dX2_copyFrom_69 : decode cX2_copyFrom 69 = .ok (.putfield 54, 3) := by decide +kernel
theorem dX2_copyFrom_72 : decode cX2_copyFrom 72 = .ok (.aload_n 0, 1) := by decide +kernel
theorem dX2_copyFrom_73 : decode cX2_copyFrom 73 = .ok (.aload_n 1, 1) := by decide +kernel
theorem dX2_copyFrom_74 : decode cX2_copyFrom 74 = .ok (.getfield 57, 3) := by decide +kernel
theorem dX2_copyFrom_77 : decode cX2_copyFrom 77 = .ok (.putfield 57, 3) := by decide +kernel
theorem dX2_copyFrom_80 : decode cX2_copyFrom 80 = .ok (.aload_n 0, 1) := by decide +kernel
theorem dX2_copyFrom_81 : decode cX2_copyFrom 81 = .ok (.aload_n 1, 1) := by decide +kernel
theorem dX2_copyFrom_82 : decode cX2_copyFrom 82 = .ok (.getfield 60, 3) := by decide +kernel
theorem dX2_copyFrom_85 : decode cX2_copyFrom 85 = .ok (.putfield 60, 3) := by decide +kernel
theorem dX2_copyFrom_88 : decode cX2_copyFrom 88 = .ok (.aload_n 0, 1) := by decide +kernel
theorem dX2_copyFrom_89 : decode cX2_copyFrom 89 = .ok (.aload_n 1, 1) := by decide +kernel
theorem dX2_copyFrom_90 : decode cX2_copyFrom 90 = .ok (.getfield 63, 3) := by decide +kernel
theorem dX2_copyFrom_93 : decode cX2_copyFrom 93 = .ok (.putfield 63, 3) := by decide +kernel
theorem dX2_copyFrom_96 : decode cX2_copyFrom 96 = .ok (.aload_n 0, 1) := by decide +kernel
theorem dX2_copyFrom_97 : decode cX2_copyFrom 97 = .ok (.getfield 14, 3) := by decide +kernel
theorem dX2_copyFrom_100 : decode cX2_copyFrom 100 = .ok (.aload_n 1, 1) := by decide +kernel
theorem dX2_copyFrom_101 : decode cX2_copyFrom 101 = .ok (.getfield 14, 3) := by decide +kernel
theorem dX2_copyFrom_104 : decode cX2_copyFrom 104 = .ok (.invokevirtual 66, 3) := by decide +kernel
theorem dX2_copyFrom_107 : decode cX2_copyFrom 107 = .ok (.aload_n 0, 1) := by decide +kernel
theorem dX2_copyFrom_108 : decode cX2_copyFrom 108 = .ok (.getfield 20, 3) := by decide +kernel
theorem dX2_copyFrom_111 : decode cX2_copyFrom 111 = .ok (.aload_n 1, 1) := by decide +kernel
theorem dX2_copyFrom_112 : decode cX2_copyFrom 112 = .ok (.getfield 20, 3) := by decide +kernel
theorem dX2_copyFrom_115 : decode cX2_copyFrom 115 = .ok (.invokevirtual 66, 3) := by decide +kernel
theorem dX2_copyFrom_118 : decode cX2_copyFrom 118 = .ok (.aload_n 0, 1) := by decide +kernel
theorem dX2_copyFrom_119 : decode cX2_copyFrom 119 = .ok (.getfield 23, 3) := by decide +kernel
theorem dX2_copyFrom_122 : decode cX2_copyFrom 122 = .ok (.aload_n 1, 1) := by decide +kernel
theorem dX2_copyFrom_123 : decode cX2_copyFrom 123 = .ok (.getfield 23, 3) := by decide +kernel
theorem dX2_copyFrom_126 : decode cX2_copyFrom 126 = .ok (.invokevirtual 66, 3) := by decide +kernel
theorem dX2_copyFrom_129 : decode cX2_copyFrom 129 = .ok (.return_, 1) := by decide +kernel
theorem dX2_isIn_0 : decode cX2_isIn 0 = .ok (.aload_n 0, 1) := by decide +kernel
theorem dX2_isIn_1 : decode cX2_isIn 1 = .ok (.getfield 42, 3) := by decide +kernel
theorem dX2_isIn_4 : decode cX2_isIn 4 = .ok (.iload_n 1, 1) := by decide +kernel
theorem dX2_isIn_5 : decode cX2_isIn 5 = .ok (.if_icmp .ne 15, 3) := by decide +kernel
theorem dX2_isIn_8 : decode cX2_isIn 8 = .ok (.aload_n 0, 1) := by decide +kernel
theorem dX2_isIn_9 : decode cX2_isIn 9 = .ok (.getfield 30, 3) := by decide +kernel
theorem dX2_isIn_12 : decode cX2_isIn 12 = .ok (.iload_n 2, 1) := by decide +kernel
theorem dX2_isIn_13 : decode cX2_isIn 13 = .ok (.if_icmp .ne 7, 3) := by decide +kernel
theorem dX2_isIn_16 : decode cX2_isIn 16 = .ok (.iconst 1, 1) := by decide +kernel
theorem dX2_isIn_17 : decode cX2_isIn 17 = .ok (.goto 4, 3) := by decide +kernel
theorem dX2_isIn_20 : decode cX2_isIn 20 = .ok (.iconst 0, 1) := by decide +kernel
theorem dX2_isIn_21 : decode cX2_isIn 21 = .ok (.ireturn, 1) := by decide +kernel
theorem dX2_maySpeak_0 : decode cX2_maySpeak 0 = .ok (.aload_n 0, 1) := by decide +kernel
theorem dX2_maySpeak_1 : decode cX2_maySpeak 1 = .ok (.getfield 39, 3) := by decide +kernel
theorem dX2_maySpeak_4 : decode cX2_maySpeak 4 = .ok (.ifCond .ne 15, 3) := by decide +kernel
theorem dX2_maySpeak_7 : decode cX2_maySpeak 7 = .ok (.aload_n 0, 1) := by decide +kernel
theorem dX2_maySpeak_8 : decode cX2_maySpeak 8 = .ok (.getfield 51, 3) := by decide +kernel
theorem dX2_maySpeak_11 : decode cX2_maySpeak 11 = .ok (.iconst 4, 1) := by decide +kernel
theorem dX2_maySpeak_12 : decode cX2_maySpeak 12 = .ok (.if_icmp .ge 7, 3) := by decide +kernel
theorem dX2_maySpeak_15 : decode cX2_maySpeak 15 = .ok (.iconst 1, 1) := by decide +kernel
theorem dX2_maySpeak_16 : decode cX2_maySpeak 16 = .ok (.goto 4, 3) := by decide +kernel
theorem dX2_maySpeak_19 : decode cX2_maySpeak 19 = .ok (.iconst 0, 1) := by decide +kernel
theorem dX2_maySpeak_20 : decode cX2_maySpeak 20 = .ok (.ireturn, 1) := by decide +kernel
theorem dX2_isOutOfPatience_0 : decode cX2_isOutOfPatience 0 = .ok (.iload_n 2, 1) := by decide +kernel
theorem dX2_isOutOfPatience_1 : decode cX2_isOutOfPatience 1 = .ok (.ifCond .eq 24, 3) := by decide +kernel
theorem dX2_isOutOfPatience_4 : decode cX2_isOutOfPatience 4 = .ok (.aload_n 0, 1) := by decide +kernel
theorem dX2_isOutOfPatience_5 : decode cX2_isOutOfPatience 5 = .ok (.getfield 57, 3) := by decide +kernel
theorem dX2_isOutOfPatience_8 : decode cX2_isOutOfPatience 8 = .ok (.ifCond .eq 17, 3) := by decide +kernel
theorem dX2_isOutOfPatience_11 : decode cX2_isOutOfPatience 11 = .ok (.iload_n 1, 1) := by decide +kernel
theorem dX2_isOutOfPatience_12 : decode cX2_isOutOfPatience 12 = .ok (.aload_n 0, 1) := by decide +kernel
theorem dX2_isOutOfPatience_13 : decode cX2_isOutOfPatience 13 = .ok (.getfield 60, 3) := by decide +kernel
theorem dX2_isOutOfPatience_16 : decode cX2_isOutOfPatience 16 = .ok (.isub, 1) := by decide +kernel
theorem dX2_isOutOfPatience_17 : decode cX2_isOutOfPatience 17 = .ok (.iload_n 2, 1) := by decide +kernel
theorem dX2_isOutOfPatience_18 : decode cX2_isOutOfPatience 18 = .ok (.if_icmp .lt 7, 3) := by decide +kernel
theorem dX2_isOutOfPatience_21 : decode cX2_isOutOfPatience 21 = .ok (.iconst 1, 1) := by decide +kernel
theorem dX2_isOutOfPatience_22 : decode cX2_isOutOfPatience 22 = .ok (.goto 4, 3) := by decide +kernel
theorem dX2_isOutOfPatience_25 : decode cX2_isOutOfPatience 25 = .ok (.iconst 0, 1) := by decide +kernel
theorem dX2_isOutOfPatience_26 : decode cX2_isOutOfPatience 26 = .ok (.ireturn, 1) := by decide +kernel
theorem dX2_startCall_0 : decode cX2_startCall 0 = .ok (.aload_n 0, 1) := by decide +kernel
theorem dX2_startCall_1 : decode cX2_startCall 1 = .ok (.dup, 1) := by decide +kernel
theorem dX2_startCall_2 : decode cX2_startCall 2 = .ok (.getfield 48, 3) := by decide +kernel
theorem dX2_startCall_5 : decode cX2_startCall 5 = .ok (.iconst 1, 1) := by decide +kernel
theorem dX2_startCall_6 : decode cX2_startCall 6 = .ok (.iadd, 1) := by decide +kernel
theorem dX2_startCall_7 : decode cX2_startCall 7 = .ok (.putfield 48, 3) := by decide +kernel
theorem dX2_startCall_10 : decode cX2_startCall 10 = .ok (.aload_n 0, 1) := by decide +kernel
theorem dX2_startCall_11 : decode cX2_startCall 11 = .ok (.iconst 1, 1) := by decide +kernel
theorem dX2_startCall_12 : decode cX2_startCall 12 = .ok (.putfield 39, 3) := by decide +kernel
theorem dX2_startCall_15 : decode cX2_startCall 15 = .ok (.aload_n 0, 1) := by decide +kernel
theorem dX2_startCall_16 : decode cX2_startCall 16 = .ok (.aload_n 0, 1) := by decide +kernel
theorem dX2_startCall_17 : decode cX2_startCall 17 = .ok (.getfield 48, 3) := by decide +kernel
theorem dX2_startCall_20 : decode cX2_startCall 20 = .ok (.putfield 54, 3) := by decide +kernel
theorem dX2_startCall_23 : decode cX2_startCall 23 = .ok (.aload_n 0, 1) := by decide +kernel
theorem dX2_startCall_24 : decode cX2_startCall 24 = .ok (.iload_n 1, 1) := by decide +kernel
theorem dX2_startCall_25 : decode cX2_startCall 25 = .ok (.putfield 57, 3) := by decide +kernel
theorem dX2_startCall_28 : decode cX2_startCall 28 = .ok (.aload_n 0, 1) := by decide +kernel
theorem dX2_startCall_29 : decode cX2_startCall 29 = .ok (.iload_n 2, 1) := by decide +kernel
theorem dX2_startCall_30 : decode cX2_startCall 30 = .ok (.putfield 60, 3) := by decide +kernel
theorem dX2_startCall_33 : decode cX2_startCall 33 = .ok (.aload_n 0, 1) := by decide +kernel
theorem dX2_startCall_34 : decode cX2_startCall 34 = .ok (.iconst 1, 1) := by decide +kernel
theorem dX2_startCall_35 : decode cX2_startCall 35 = .ok (.aload_n 0, 1) := by decide +kernel
theorem dX2_startCall_36 : decode cX2_startCall 36 = .ok (.getfield 26, 3) := by decide +kernel
theorem dX2_startCall_39 : decode cX2_startCall 39 = .ok (.ishl, 1) := by decide +kernel
theorem dX2_startCall_40 : decode cX2_startCall 40 = .ok (.putfield 63, 3) := by decide +kernel
theorem dX2_startCall_43 : decode cX2_startCall 43 = .ok (.aload_n 0, 1) := by decide +kernel
theorem dX2_startCall_44 : decode cX2_startCall 44 = .ok (.getfield 14, 3) := by decide +kernel
theorem dX2_startCall_47 : decode cX2_startCall 47 = .ok (.aload_n 0, 1) := by decide +kernel
theorem dX2_startCall_48 : decode cX2_startCall 48 = .ok (.getfield 26, 3) := by decide +kernel
theorem dX2_startCall_51 : decode cX2_startCall 51 = .ok (.aload_n 0, 1) := by decide +kernel
theorem dX2_startCall_52 : decode cX2_startCall 52 = .ok (.getfield 42, 3) := by decide +kernel
theorem dX2_startCall_55 : decode cX2_startCall 55 = .ok (.aload_n 0, 1) := by decide +kernel
theorem dX2_startCall_56 : decode cX2_startCall 56 = .ok (.getfield 30, 3) := by decide +kernel
theorem dX2_startCall_59 : decode cX2_startCall 59 = .ok (.aload_n 0, 1) := by decide +kernel
theorem dX2_startCall_60 : decode cX2_startCall 60 = .ok (.getfield 45, 3) := by decide +kernel
theorem dX2_startCall_63 : decode cX2_startCall 63 = .ok (.invokevirtual 70, 3) := by decide +kernel
theorem dX2_startCall_66 : decode cX2_startCall 66 = .ok (.return_, 1) := by decide +kernel
theorem dX2_countsAnswer_0 : decode cX2_countsAnswer 0 = .ok (.aload_n 0, 1) := by decide +kernel
theorem dX2_countsAnswer_1 : decode cX2_countsAnswer 1 = .ok (.getfield 57, 3) := by decide +kernel
theorem dX2_countsAnswer_4 : decode cX2_countsAnswer 4 = .ok (.ifCond .eq 13, 3) := by decide +kernel
theorem dX2_countsAnswer_7 : decode cX2_countsAnswer 7 = .ok (.aload_n 1, 1) := by decide +kernel
theorem dX2_countsAnswer_8 : decode cX2_countsAnswer 8 = .ok (.iconst 4, 1) := by decide +kernel
theorem dX2_countsAnswer_9 : decode cX2_countsAnswer 9 = .ok (.iaload, 1) := by decide +kernel
theorem dX2_countsAnswer_10 : decode cX2_countsAnswer 10 = .ok (.aload_n 0, 1) := by decide +kernel
theorem dX2_countsAnswer_11 : decode cX2_countsAnswer 11 = .ok (.getfield 54, 3) := by decide +kernel
theorem dX2_countsAnswer_14 : decode cX2_countsAnswer 14 = .ok (.if_icmp .eq 5, 3) := by decide +kernel
theorem dX2_countsAnswer_17 : decode cX2_countsAnswer 17 = .ok (.iconst 0, 1) := by decide +kernel
theorem dX2_countsAnswer_18 : decode cX2_countsAnswer 18 = .ok (.ireturn, 1) := by decide +kernel
theorem dX2_countsAnswer_19 : decode cX2_countsAnswer 19 = .ok (.aload_n 0, 1) := by decide +kernel
theorem dX2_countsAnswer_20 : decode cX2_countsAnswer 20 = .ok (.getfield 14, 3) := by decide +kernel
theorem dX2_countsAnswer_23 : decode cX2_countsAnswer 23 = .ok (.aload_n 1, 1) := by decide +kernel
theorem dX2_countsAnswer_24 : decode cX2_countsAnswer 24 = .ok (.iconst 1, 1) := by decide +kernel
theorem dX2_countsAnswer_25 : decode cX2_countsAnswer 25 = .ok (.iaload, 1) := by decide +kernel
theorem dX2_countsAnswer_26 : decode cX2_countsAnswer 26 = .ok (.aload_n 1, 1) := by decide +kernel
theorem dX2_countsAnswer_27 : decode cX2_countsAnswer 27 = .ok (.bipush 6, 2) := by decide +kernel
theorem dX2_countsAnswer_29 : decode cX2_countsAnswer 29 = .ok (.iaload, 1) := by decide +kernel
theorem dX2_countsAnswer_30 : decode cX2_countsAnswer 30 = .ok (.aload_n 1, 1) := by decide +kernel
theorem dX2_countsAnswer_31 : decode cX2_countsAnswer 31 = .ok (.bipush 7, 2) := by decide +kernel
theorem dX2_countsAnswer_33 : decode cX2_countsAnswer 33 = .ok (.iaload, 1) := by decide +kernel
theorem dX2_countsAnswer_34 : decode cX2_countsAnswer 34 = .ok (.aload_n 1, 1) := by decide +kernel
theorem dX2_countsAnswer_35 : decode cX2_countsAnswer 35 = .ok (.iconst 5, 1) := by decide +kernel
theorem dX2_countsAnswer_36 : decode cX2_countsAnswer 36 = .ok (.iaload, 1) := by decide +kernel
theorem dX2_countsAnswer_37 : decode cX2_countsAnswer 37 = .ok (.invokevirtual 70, 3) := by decide +kernel
theorem dX2_countsAnswer_40 : decode cX2_countsAnswer 40 = .ok (.aload_n 0, 1) := by decide +kernel
theorem dX2_countsAnswer_41 : decode cX2_countsAnswer 41 = .ok (.dup, 1) := by decide +kernel
theorem dX2_countsAnswer_42 : decode cX2_countsAnswer 42 = .ok (.getfield 63, 3) := by decide +kernel
theorem dX2_countsAnswer_45 : decode cX2_countsAnswer 45 = .ok (.iconst 1, 1) := by decide +kernel
theorem dX2_countsAnswer_46 : decode cX2_countsAnswer 46 = .ok (.aload_n 1, 1) := by decide +kernel
theorem dX2_countsAnswer_47 : decode cX2_countsAnswer 47 = .ok (.iconst 1, 1) := by decide +kernel
theorem dX2_countsAnswer_48 : decode cX2_countsAnswer 48 = .ok (.iaload, 1) := by decide +kernel
theorem dX2_countsAnswer_49 : decode cX2_countsAnswer 49 = .ok (.ishl, 1) := by decide +kernel
theorem dX2_countsAnswer_50 : decode cX2_countsAnswer 50 = .ok (.ior, 1) := by decide +kernel
theorem dX2_countsAnswer_51 : decode cX2_countsAnswer 51 = .ok (.putfield 63, 3) := by decide +kernel
theorem dX2_countsAnswer_54 : decode cX2_countsAnswer 54 = .ok (.aload_n 0, 1) := by decide +kernel
theorem dX2_countsAnswer_55 : decode cX2_countsAnswer 55 = .ok (.invokevirtual 74, 3) := by decide +kernel
theorem dX2_countsAnswer_58 : decode cX2_countsAnswer 58 = .ok (.ireturn, 1) := by decide +kernel
theorem dX2_isAnsweredByAll_0 : decode cX2_isAnsweredByAll 0 = .ok (.aload_n 0, 1) := by decide +kernel
theorem dX2_isAnsweredByAll_1 : decode cX2_isAnsweredByAll 1 = .ok (.getfield 63, 3) := by decide +kernel
theorem dX2_isAnsweredByAll_4 : decode cX2_isAnsweredByAll 4 = .ok (.aload_n 0, 1) := by decide +kernel
theorem dX2_isAnsweredByAll_5 : decode cX2_isAnsweredByAll 5 = .ok (.getfield 57, 3) := by decide +kernel
theorem dX2_isAnsweredByAll_8 : decode cX2_isAnsweredByAll 8 = .ok (.if_icmp .ne 7, 3) := by decide +kernel
theorem dX2_isAnsweredByAll_11 : decode cX2_isAnsweredByAll 11 = .ok (.iconst 1, 1) := by decide +kernel
theorem dX2_isAnsweredByAll_12 : decode cX2_isAnsweredByAll 12 = .ok (.goto 4, 3) := by decide +kernel
theorem dX2_isAnsweredByAll_15 : decode cX2_isAnsweredByAll 15 = .ok (.iconst 0, 1) := by decide +kernel
theorem dX2_isAnsweredByAll_16 : decode cX2_isAnsweredByAll 16 = .ok (.ireturn, 1) := by decide +kernel
theorem dX2_stopCall_0 : decode cX2_stopCall 0 = .ok (.aload_n 0, 1) := by decide +kernel
theorem dX2_stopCall_1 : decode cX2_stopCall 1 = .ok (.iconst 0, 1) := by decide +kernel
theorem dX2_stopCall_2 : decode cX2_stopCall 2 = .ok (.putfield 57, 3) := by decide +kernel
theorem dX2_stopCall_5 : decode cX2_stopCall 5 = .ok (.aload_n 0, 1) := by decide +kernel
theorem dX2_stopCall_6 : decode cX2_stopCall 6 = .ok (.iconst 0, 1) := by decide +kernel
theorem dX2_stopCall_7 : decode cX2_stopCall 7 = .ok (.putfield 63, 3) := by decide +kernel
theorem dX2_stopCall_10 : decode cX2_stopCall 10 = .ok (.return_, 1) := by decide +kernel
theorem dX2_hushFor_0 : decode cX2_hushFor 0 = .ok (.aload_n 0, 1) := by decide +kernel
theorem dX2_hushFor_1 : decode cX2_hushFor 1 = .ok (.iload_n 1, 1) := by decide +kernel
theorem dX2_hushFor_2 : decode cX2_hushFor 2 = .ok (.putfield 48, 3) := by decide +kernel
theorem dX2_hushFor_5 : decode cX2_hushFor 5 = .ok (.aload_n 0, 1) := by decide +kernel
theorem dX2_hushFor_6 : decode cX2_hushFor 6 = .ok (.iconst 1, 1) := by decide +kernel
theorem dX2_hushFor_7 : decode cX2_hushFor 7 = .ok (.putfield 39, 3) := by decide +kernel
theorem dX2_hushFor_10 : decode cX2_hushFor 10 = .ok (.aload_n 0, 1) := by decide +kernel
theorem dX2_hushFor_11 : decode cX2_hushFor 11 = .ok (.invokevirtual 78, 3) := by decide +kernel
theorem dX2_hushFor_14 : decode cX2_hushFor 14 = .ok (.return_, 1) := by decide +kernel
theorem dX2_takesSpeech_0 : decode cX2_takesSpeech 0 = .ok (.aload_n 0, 1) := by decide +kernel
theorem dX2_takesSpeech_1 : decode cX2_takesSpeech 1 = .ok (.getfield 39, 3) := by decide +kernel
theorem dX2_takesSpeech_4 : decode cX2_takesSpeech 4 = .ok (.ifCond .ne 26, 3) := by decide +kernel
theorem dX2_takesSpeech_7 : decode cX2_takesSpeech 7 = .ok (.aload_n 0, 1) := by decide +kernel
theorem dX2_takesSpeech_8 : decode cX2_takesSpeech 8 = .ok (.iload_n 1, 1) := by decide +kernel
theorem dX2_takesSpeech_9 : decode cX2_takesSpeech 9 = .ok (.iload_n 2, 1) := by decide +kernel
theorem dX2_takesSpeech_10 : decode cX2_takesSpeech 10 = .ok (.invokevirtual 81, 3) := by decide +kernel
theorem dX2_takesSpeech_13 : decode cX2_takesSpeech 13 = .ok (.ifCond .eq 17, 3) := by decide +kernel
theorem dX2_takesSpeech_16 : decode cX2_takesSpeech 16 = .ok (.aload_n 0, 1) := by decide +kernel
theorem dX2_takesSpeech_17 : decode cX2_takesSpeech 17 = .ok (.dup, 1) := by decide +kernel
theorem dX2_takesSpeech_18 : decode cX2_takesSpeech 18 = .ok (.getfield 45, 3) := by decide +kernel
theorem dX2_takesSpeech_21 : decode cX2_takesSpeech 21 = .ok (.iconst 1, 1) := by decide +kernel
theorem dX2_takesSpeech_22 : decode cX2_takesSpeech 22 = .ok (.iload_n 3, 1) := by decide +kernel
theorem dX2_takesSpeech_23 : decode cX2_takesSpeech 23 = .ok (.ishl, 1) := by decide +kernel
theorem dX2_takesSpeech_24 : decode cX2_takesSpeech 24 = .ok (.ior, 1) := by decide +kernel
theorem dX2_takesSpeech_25 : decode cX2_takesSpeech 25 = .ok (.putfield 45, 3) := by decide +kernel
theorem dX2_takesSpeech_28 : decode cX2_takesSpeech 28 = .ok (.iconst 1, 1) := by decide +kernel
theorem dX2_takesSpeech_29 : decode cX2_takesSpeech 29 = .ok (.ireturn, 1) := by decide +kernel
theorem dX2_takesSpeech_30 : decode cX2_takesSpeech 30 = .ok (.iload_n 1, 1) := by decide +kernel
theorem dX2_takesSpeech_31 : decode cX2_takesSpeech 31 = .ok (.aload_n 0, 1) := by decide +kernel
theorem dX2_takesSpeech_32 : decode cX2_takesSpeech 32 = .ok (.getfield 42, 3) := by decide +kernel
theorem dX2_takesSpeech_35 : decode cX2_takesSpeech 35 = .ok (.if_icmp .le 13, 3) := by decide +kernel
theorem dX2_takesSpeech_38 : decode cX2_takesSpeech 38 = .ok (.aload_n 0, 1) := by decide +kernel
theorem dX2_takesSpeech_39 : decode cX2_takesSpeech 39 = .ok (.getfield 20, 3) := by decide +kernel
theorem dX2_takesSpeech_42 : decode cX2_takesSpeech 42 = .ok (.invokevirtual 85, 3) := by decide +kernel
theorem dX2_takesSpeech_45 : decode cX2_takesSpeech 45 = .ok (.ifCond .eq 5, 3) := by decide +kernel
theorem dX2_takesSpeech_48 : decode cX2_takesSpeech 48 = .ok (.iconst 0, 1) := by decide +kernel
theorem dX2_takesSpeech_49 : decode cX2_takesSpeech 49 = .ok (.ireturn, 1) := by decide +kernel
theorem dX2_takesSpeech_50 : decode cX2_takesSpeech 50 = .ok (.aload_n 0, 1) := by decide +kernel
theorem dX2_takesSpeech_51 : decode cX2_takesSpeech 51 = .ok (.getfield 20, 3) := by decide +kernel
theorem dX2_takesSpeech_54 : decode cX2_takesSpeech 54 = .ok (.iload_n 1, 1) := by decide +kernel
theorem dX2_takesSpeech_55 : decode cX2_takesSpeech 55 = .ok (.iload_n 2, 1) := by decide +kernel
theorem dX2_takesSpeech_56 : decode cX2_takesSpeech 56 = .ok (.iconst 1, 1) := by decide +kernel
theorem dX2_takesSpeech_57 : decode cX2_takesSpeech 57 = .ok (.iload_n 3, 1) := by decide +kernel
theorem dX2_takesSpeech_58 : decode cX2_takesSpeech 58 = .ok (.ishl, 1) := by decide +kernel
theorem dX2_takesSpeech_59 : decode cX2_takesSpeech 59 = .ok (.invokevirtual 88, 3) := by decide +kernel
theorem dX2_takesSpeech_62 : decode cX2_takesSpeech 62 = .ok (.iconst 1, 1) := by decide +kernel
theorem dX2_takesSpeech_63 : decode cX2_takesSpeech 63 = .ok (.ireturn, 1) := by decide +kernel
theorem dX2_enterRoll_0 : decode cX2_enterRoll 0 = .ok (.iload_n 1, 1) := by decide +kernel
theorem dX2_enterRoll_1 : decode cX2_enterRoll 1 = .ok (.aload_n 0, 1) := by decide +kernel
theorem dX2_enterRoll_2 : decode cX2_enterRoll 2 = .ok (.getfield 48, 3) := by decide +kernel
theorem dX2_enterRoll_5 : decode cX2_enterRoll 5 = .ok (.if_icmp .lt 11, 3) := by decide +kernel
theorem dX2_enterRoll_8 : decode cX2_enterRoll 8 = .ok (.iload_n 1, 1) := by decide +kernel
theorem dX2_enterRoll_9 : decode cX2_enterRoll 9 = .ok (.aload_n 0, 1) := by decide +kernel
theorem dX2_enterRoll_10 : decode cX2_enterRoll 10 = .ok (.getfield 42, 3) := by decide +kernel
theorem dX2_enterRoll_13 : decode cX2_enterRoll 13 = .ok (.if_icmp .gt 4, 3) := by decide +kernel
theorem dX2_enterRoll_16 : decode cX2_enterRoll 16 = .ok (.return_, 1) := by decide +kernel
theorem dX2_enterRoll_17 : decode cX2_enterRoll 17 = .ok (.aload_n 0, 1) := by decide +kernel
theorem dX2_enterRoll_18 : decode cX2_enterRoll 18 = .ok (.getfield 23, 3) := by decide +kernel
theorem dX2_enterRoll_21 : decode cX2_enterRoll 21 = .ok (.aload_n 0, 1) := by decide +kernel
theorem dX2_enterRoll_22 : decode cX2_enterRoll 22 = .ok (.getfield 42, 3) := by decide +kernel
theorem dX2_enterRoll_25 : decode cX2_enterRoll 25 = .ok (.aload_n 0, 1) := by decide +kernel
theorem dX2_enterRoll_26 : decode cX2_enterRoll 26 = .ok (.getfield 30, 3) := by decide +kernel
theorem dX2_enterRoll_29 : decode cX2_enterRoll 29 = .ok (.iload 4, 2) := by decide +kernel
theorem dX2_enterRoll_31 : decode cX2_enterRoll 31 = .ok (.invokevirtual 88, 3) := by decide +kernel
theorem dX2_enterRoll_34 : decode cX2_enterRoll 34 = .ok (.aload_n 0, 1) := by decide +kernel
theorem dX2_enterRoll_35 : decode cX2_enterRoll 35 = .ok (.invokevirtual 78, 3) := by decide +kernel
theorem dX2_enterRoll_38 : decode cX2_enterRoll 38 = .ok (.aload_n 0, 1) := by decide +kernel
theorem dX2_enterRoll_39 : decode cX2_enterRoll 39 = .ok (.iconst 0, 1) := by decide +kernel
theorem dX2_enterRoll_40 : decode cX2_enterRoll 40 = .ok (.putfield 39, 3) := by decide +kernel
theorem dX2_enterRoll_43 : decode cX2_enterRoll 43 = .ok (.aload_n 0, 1) := by decide +kernel
theorem dX2_enterRoll_44 : decode cX2_enterRoll 44 = .ok (.iload_n 1, 1) := by decide +kernel
theorem dX2_enterRoll_45 : decode cX2_enterRoll 45 = .ok (.putfield 42, 3) := by decide +kernel
theorem dX2_enterRoll_48 : decode cX2_enterRoll 48 = .ok (.aload_n 0, 1) := by decide +kernel
theorem dX2_enterRoll_49 : decode cX2_enterRoll 49 = .ok (.iload_n 2, 1) := by decide +kernel
theorem dX2_enterRoll_50 : decode cX2_enterRoll 50 = .ok (.putfield 30, 3) := by decide +kernel
theorem dX2_enterRoll_53 : decode cX2_enterRoll 53 = .ok (.aload_n 0, 1) := by decide +kernel
theorem dX2_enterRoll_54 : decode cX2_enterRoll 54 = .ok (.iload_n 3, 1) := by decide +kernel
theorem dX2_enterRoll_55 : decode cX2_enterRoll 55 = .ok (.putfield 33, 3) := by decide +kernel
theorem dX2_enterRoll_58 : decode cX2_enterRoll 58 = .ok (.aload_n 0, 1) := by decide +kernel
theorem dX2_enterRoll_59 : decode cX2_enterRoll 59 = .ok (.iconst 0, 1) := by decide +kernel
theorem dX2_enterRoll_60 : decode cX2_enterRoll 60 = .ok (.putfield 51, 3) := by decide +kernel
theorem dX2_enterRoll_63 : decode cX2_enterRoll 63 = .ok (.aload_n 0, 1) := by decide +kernel
theorem dX2_enterRoll_64 : decode cX2_enterRoll 64 = .ok (.aload_n 0, 1) := by decide +kernel
theorem dX2_enterRoll_65 : decode cX2_enterRoll 65 = .ok (.getfield 20, 3) := by decide +kernel
theorem dX2_enterRoll_68 : decode cX2_enterRoll 68 = .ok (.iload_n 1, 1) := by decide +kernel
theorem dX2_enterRoll_69 : decode cX2_enterRoll 69 = .ok (.iload_n 2, 1) := by decide +kernel
theorem dX2_enterRoll_70 : decode cX2_enterRoll 70 = .ok (.invokevirtual 92, 3) := by decide +kernel
theorem dX2_enterRoll_73 : decode cX2_enterRoll 73 = .ok (.putfield 45, 3) := by decide +kernel
theorem dX2_enterRoll_76 : decode cX2_enterRoll 76 = .ok (.return_, 1) := by decide +kernel
theorem dX2_goAway_0 : decode cX2_goAway 0 = .ok (.aload_n 0, 1) := by decide +kernel
theorem dX2_goAway_1 : decode cX2_goAway 1 = .ok (.iconst 2, 1) := by decide +kernel
theorem dX2_goAway_2 : decode cX2_goAway 2 = .ok (.putfield 39, 3) := by decide +kernel
theorem dX2_goAway_5 : decode cX2_goAway 5 = .ok (.aload_n 0, 1) := by decide +kernel
theorem dX2_goAway_6 : decode cX2_goAway 6 = .ok (.invokevirtual 78, 3) := by decide +kernel
theorem dX2_goAway_9 : decode cX2_goAway 9 = .ok (.aload_n 0, 1) := by decide +kernel
theorem dX2_goAway_10 : decode cX2_goAway 10 = .ok (.getfield 20, 3) := by decide +kernel
theorem dX2_goAway_13 : decode cX2_goAway 13 = .ok (.iconst 0, 1) := by decide +kernel
theorem dX2_goAway_14 : decode cX2_goAway 14 = .ok (.putfield 96, 3) := by decide +kernel
theorem dX2_goAway_17 : decode cX2_goAway 17 = .ok (.return_, 1) := by decide +kernel
theorem dX2_comeBack_0 : decode cX2_comeBack 0 = .ok (.aload_n 0, 1) := by decide +kernel
theorem dX2_comeBack_1 : decode cX2_comeBack 1 = .ok (.dup, 1) := by decide +kernel
theorem dX2_comeBack_2 : decode cX2_comeBack 2 = .ok (.getfield 48, 3) := by decide +kernel
theorem dX2_comeBack_5 : decode cX2_comeBack 5 = .ok (.iconst 1, 1) := by decide +kernel
theorem dX2_comeBack_6 : decode cX2_comeBack 6 = .ok (.iadd, 1) := by decide +kernel
theorem dX2_comeBack_7 : decode cX2_comeBack 7 = .ok (.putfield 48, 3) := by decide +kernel
theorem dX2_comeBack_10 : decode cX2_comeBack 10 = .ok (.aload_n 0, 1) := by decide +kernel
theorem dX2_comeBack_11 : decode cX2_comeBack 11 = .ok (.aload_n 0, 1) := by decide +kernel
theorem dX2_comeBack_12 : decode cX2_comeBack 12 = .ok (.getfield 48, 3) := by decide +kernel
theorem dX2_comeBack_15 : decode cX2_comeBack 15 = .ok (.aload_n 0, 1) := by decide +kernel
theorem dX2_comeBack_16 : decode cX2_comeBack 16 = .ok (.getfield 26, 3) := by decide +kernel
theorem dX2_comeBack_19 : decode cX2_comeBack 19 = .ok (.iconst 1, 1) := by decide +kernel
theorem dX2_comeBack_20 : decode cX2_comeBack 20 = .ok (.aload_n 0, 1) := by decide +kernel
theorem dX2_comeBack_21 : decode cX2_comeBack 21 = .ok (.getfield 26, 3) := by decide +kernel
theorem dX2_comeBack_24 : decode cX2_comeBack 24 = .ok (.ishl, 1) := by decide +kernel
theorem dX2_comeBack_25 : decode cX2_comeBack 25 = .ok (.aload_n 0, 1) := by decide +kernel
theorem dX2_comeBack_26 : decode cX2_comeBack 26 = .ok (.getfield 45, 3) := by decide +kernel
theorem dX2_comeBack_29 : decode cX2_comeBack 29 = .ok (.invokevirtual 99, 3) := by decide +kernel
theorem dX2_comeBack_32 : decode cX2_comeBack 32 = .ok (.return_, 1) := by decide +kernel
theorem dX3_init_0 : decode cX3_init 0 = .ok (.aload_n 0, 1) := by decide +kernel
theorem dX3_init_1 : decode cX3_init 1 = .ok (.invokespecial 3, 3) := by decide +kernel
theorem dX3_init_4 : decode cX3_init 4 = .ok (.aload_n 0, 1) := by decide +kernel
theorem dX3_init_5 : decode cX3_init 5 = .ok (.bipush 6, 2) := by decide +kernel
theorem dX3_init_7 : decode cX3_init 7 = .ok (.newarray .int, 2) := by decide +kernel
theorem dX3_init_9 : decode cX3_init 9 = .ok (.putfield 9, 3) := by decide +kernel
theorem dX3_init_12 : decode cX3_init 12 = .ok (.aload_n 0, 1) := by decide +kernel
theorem dX3_init_13 : decode cX3_init 13 = .ok (.sipush 1350, 3) := by decide +kernel
theorem dX3_init_16 : decode cX3_init 16 = .ok (.newarray .int, 2) := by decide +kernel
theorem dX3_init_18 : decode cX3_init 18 = .ok (.putfield 15, 3) := by decide +kernel
theorem dX3_init_21 : decode cX3_init 21 = .ok (.return_, 1) := by decide +kernel
theorem dX3_copyFrom_0 : decode cX3_copyFrom 0 = .ok (.aload_n 1, 1) := by decide +kernel
theorem dX3_copyFrom_1 : decode cX3_copyFrom 1 = .ok (.getfield 9, 3) := by decide +kernel
theorem dX3_copyFrom_4 : decode cX3_copyFrom 4 = .ok (.iconst 0, 1) := by decide +kernel
theorem dX3_copyFrom_5 : decode cX3_copyFrom 5 = .ok (.aload_n 0, 1) := by decide +kernel
theorem dX3_copyFrom_6 : decode cX3_copyFrom 6 = .ok (.getfield 9, 3) := by decide +kernel
theorem dX3_copyFrom_9 : decode cX3_copyFrom 9 = .ok (.iconst 0, 1) := by decide +kernel
theorem dX3_copyFrom_10 : decode cX3_copyFrom 10 = .ok (.bipush 6, 2) := by decide +kernel
theorem dX3_copyFrom_12 : decode cX3_copyFrom 12 = .ok (.invokestatic 18, 3) := by decide +kernel
theorem dX3_copyFrom_15 : decode cX3_copyFrom 15 = .ok (.aload_n 1, 1) := by decide +kernel
theorem dX3_copyFrom_16 : decode cX3_copyFrom 16 = .ok (.getfield 15, 3) := by decide +kernel
theorem dX3_copyFrom_19 : decode cX3_copyFrom 19 = .ok (.iconst 0, 1) := by decide +kernel
theorem dX3_copyFrom_20 : decode cX3_copyFrom 20 = .ok (.aload_n 0, 1) := by decide +kernel
theorem dX3_copyFrom_21 : decode cX3_copyFrom 21 = .ok (.getfield 15, 3) := by decide +kernel
theorem dX3_copyFrom_24 : decode cX3_copyFrom 24 = .ok (.iconst 0, 1) := by decide +kernel
theorem dX3_copyFrom_25 : decode cX3_copyFrom 25 = .ok (.aload_n 1, 1) := by decide +kernel
theorem dX3_copyFrom_26 : decode cX3_copyFrom 26 = .ok (.getfield 24, 3) := by decide +kernel
theorem dX3_copyFrom_29 : decode cX3_copyFrom 29 = .ok (.bipush 9, 2) := by decide +kernel
theorem dX3_copyFrom_31 : decode cX3_copyFrom 31 = .ok (.imul, 1) := by decide +kernel
theorem dX3_copyFrom_32 : decode cX3_copyFrom 32 = .ok (.invokestatic 18, 3) := by decide +kernel
theorem dX3_copyFrom_35 : decode cX3_copyFrom 35 = .ok (.aload_n 0, 1) := by decide +kernel
theorem dX3_copyFrom_36 : decode cX3_copyFrom 36 = .ok (.aload_n 1, 1) := by decide +kernel
theorem dX3_copyFrom_37 : decode cX3_copyFrom 37 = .ok (.getfield 28, 3) := by decide +kernel
theorem dX3_copyFrom_40 : decode cX3_copyFrom 40 = .ok (.putfield 28, 3) := by decide +kernel
theorem dX3_copyFrom_43 : decode cX3_copyFrom 43 = .ok (.aload_n 0, 1) := by decide +kernel
theorem dX3_copyFrom_44 : decode cX3_copyFrom 44 = .ok (.aload_n 1, 1) := by decide +kernel
theorem dX3_copyFrom_45 : decode cX3_copyFrom 45 = .ok (.getfield 24, 3) := by decide +kernel
theorem dX3_copyFrom_48 : decode cX3_copyFrom 48 = .ok (.putfield 24, 3) := by decide +kernel
theorem dX3_copyFrom_51 : decode cX3_copyFrom 51 = .ok (.aload_n 0, 1) := by decide +kernel
theorem dX3_copyFrom_52 : decode cX3_copyFrom 52 = .ok (.aload_n 1, 1) := by decide +kernel
theorem dX3_copyFrom_53 : decode cX3_copyFrom 53 = .ok (.getfield 31, 3) := by decide +kernel
theorem dX3_copyFrom_56 : decode cX3_copyFrom 56 = .ok (.putfield 31, 3) := by decide +kernel
theorem dX3_copyFrom_59 : decode cX3_copyFrom 59 = .ok (.return_, 1) := by decide +kernel
theorem dX3_isCutBetween_0 : decode cX3_isCutBetween 0 = .ok (.aload_n 0, 1) := by decide +kernel
theorem dX3_isCutBetween_1 : decode cX3_isCutBetween 1 = .ok (.getfield 9, 3) := by decide +kernel
theorem dX3_isCutBetween_4 : decode cX3_isCutBetween 4 = .ok (.iload_n 1, 1) := by decide +kernel
theorem dX3_isCutBetween_5 : decode cX3_isCutBetween 5 = .ok (.iaload, 1) := by decide +kernel
theorem dX3_isCutBetween_6 : decode cX3_isCutBetween 6 = .ok (.iload_n 2, 1) := by decide +kernel
theorem dX3_isCutBetween_7 : decode cX3_isCutBetween 7 = .ok (.ishr, 1) := by decide +kernel
theorem dX3_isCutBetween_8 : decode cX3_isCutBetween 8 = .ok (.iconst 1, 1) := by decide +kernel
theorem dX3_isCutBetween_9 : decode cX3_isCutBetween 9 = .ok (.iand, 1) := by decide +kernel
theorem dX3_isCutBetween_10 : decode cX3_isCutBetween 10 = .ok (.ifCond .eq 7, 3) := by decide +kernel
theorem dX3_isCutBetween_13 : decode cX3_isCutBetween 13 = .ok (.iconst 1, 1) := by decide +kernel
theorem dX3_isCutBetween_14 : decode cX3_isCutBetween 14 = .ok (.goto 4, 3) := by decide +kernel
theorem dX3_isCutBetween_17 : decode cX3_isCutBetween 17 = .ok (.iconst 0, 1) := by decide +kernel
theorem dX3_isCutBetween_18 : decode cX3_isCutBetween 18 = .ok (.ireturn, 1) := by decide +kernel
theorem dX3_changeWay_0 : decode cX3_changeWay 0 = .ok (.aload_n 0, 1) := by decide +kernel
theorem dX3_changeWay_1 : decode cX3_changeWay 1 = .ok (.iload_n 1, 1) := by decide +kernel
theorem dX3_changeWay_2 : decode cX3_changeWay 2 = .ok (.iload_n 2, 1) := by decide +kernel
theorem dX3_changeWay_3 : decode cX3_changeWay 3 = .ok (.invokevirtual 34, 3) := by decide +kernel
theorem dX3_changeWay_6 : decode cX3_changeWay 6 = .ok (.iload_n 3, 1) := by decide +kernel
theorem dX3_changeWay_7 : decode cX3_changeWay 7 = .ok (.if_icmp .ne 4, 3) := by decide +kernel
theorem dX3_changeWay_10 : decode cX3_changeWay 10 = .ok (.return_, 1) := by decide +kernel
theorem dX3_changeWay_11 : decode cX3_changeWay 11 = .ok (.aload_n 0, 1) := by decide +kernel
theorem dX3_changeWay_12 : decode cX3_changeWay 12 = .ok (.getfield 9, 3) := by decide +kernel
theorem dX3_changeWay_15 : decode cX3_changeWay 15 = .ok (.iload_n 1, 1) := by decide +kernel
theorem dX3_changeWay_16 : decode cX3_changeWay 16 = .ok (.dup2, 1) := by decide +kernel
theorem dX3_changeWay_17 : decode cX3_changeWay 17 = .ok (.iaload, 1) := by decide +kernel
theorem dX3_changeWay_18 : decode cX3_changeWay 18 = .ok (.iconst 1, 1) := by decide +kernel
theorem dX3_changeWay_19 : decode cX3_changeWay 19 = .ok (.iload_n 2, 1) := by decide +kernel
theorem dX3_changeWay_20 : decode cX3_changeWay 20 = .ok (.ishl, 1) := by decide +kernel
theorem dX3_changeWay_21 : decode cX3_changeWay 21 = .ok (.ixor, 1) := by decide +kernel
theorem dX3_changeWay_22 : decode cX3_changeWay 22 = .ok (.iastore, 1) := by decide +kernel
theorem dX3_changeWay_23 : decode cX3_changeWay 23 = .ok (.aload_n 0, 1) := by decide +kernel
theorem dX3_changeWay_24 : decode cX3_changeWay 24 = .ok (.getfield 9, 3) := by decide +kernel
theorem dX3_changeWay_27 : decode cX3_changeWay 27 = .ok (.iload_n 2, 1) := by decide +kernel
theorem dX3_changeWay_28 : decode cX3_changeWay 28 = .ok (.dup2, 1) := by decide +kernel
theorem dX3_changeWay_29 : decode cX3_changeWay 29 = .ok (.iaload, 1) := by decide +kernel
theorem dX3_changeWay_30 : decode cX3_changeWay 30 = .ok (.iconst 1, 1) := by decide +kernel
theorem dX3_changeWay_31 : decode cX3_changeWay 31 = .ok (.iload_n 1, 1) := by decide +kernel
theorem dX3_changeWay_32 : decode cX3_changeWay 32 = .ok (.ishl, 1) := by decide +kernel
theorem dX3_changeWay_33 : decode cX3_changeWay 33 = .ok (.ixor, 1) := by decide +kernel
theorem dX3_changeWay_34 : decode cX3_changeWay 34 = .ok (.iastore, 1) := by decide +kernel
theorem dX3_changeWay_35 : decode cX3_changeWay 35 = .ok (.aload_n 0, 1) := by decide +kernel
theorem dX3_changeWay_36 : decode cX3_changeWay 36 = .ok (.dup, 1) := by decide +kernel
theorem dX3_changeWay_37 : decode cX3_changeWay 37 = .ok (.getfield 28, 3) := by decide +kernel
theorem dX3_changeWay_40 : decode cX3_changeWay 40 = .ok (.iload_n 3, 1) := by decide +kernel
theorem dX3_changeWay_41 : decode cX3_changeWay 41 = .ok (.ifCond .eq 7, 3) := by decide +kernel
theorem dX3_changeWay_44 : decode cX3_changeWay 44 = .ok (.iconst 1, 1) := by decide +kernel
theorem dX3_changeWay_45 : decode cX3_changeWay 45 = .ok (.goto 4, 3) := by decide +kernel
theorem dX3_changeWay_48 : decode cX3_changeWay 48 = .ok (.iconst (-1), 1) := by decide +kernel
theorem dX3_changeWay_49 : decode cX3_changeWay 49 = .ok (.iadd, 1) := by decide +kernel
theorem dX3_changeWay_50 : decode cX3_changeWay 50 = .ok (.putfield 28, 3) := by decide +kernel
theorem dX3_changeWay_53 : decode cX3_changeWay 53 = .ok (.return_, 1) := by decide +kernel
theorem dX3_send_0 : decode cX3_send 0 = .ok (.aload_n 0, 1) := by decide +kernel
theorem dX3_send_1 : decode cX3_send 1 = .ok (.getfield 24, 3) := by decide +kernel
theorem dX3_send_4 : decode cX3_send 4 = .ok (.sipush 150, 3) := by decide +kernel
theorem dX3_send_7 : decode cX3_send 7 = .ok (.if_icmp .ge 18, 3) := by decide +kernel
theorem dX3_send_10 : decode cX3_send 10 = .ok (.aload_n 0, 1) := by decide +kernel
theorem dX3_send_11 : decode cX3_send 11 = .ok (.aload_n 2, 1) := by decide +kernel
theorem dX3_send_12 : decode cX3_send 12 = .ok (.getfield 38, 3) := by decide +kernel
theorem dX3_send_15 : decode cX3_send 15 = .ok (.aload_n 3, 1) := by decide +kernel
theorem dX3_send_16 : decode cX3_send 16 = .ok (.getfield 38, 3) := by decide +kernel
theorem dX3_send_19 : decode cX3_send 19 = .ok (.invokevirtual 34, 3) := by decide +kernel
theorem dX3_send_22 : decode cX3_send 22 = .ok (.ifCond .eq 14, 3) := by decide +kernel
theorem dX3_send_25 : decode cX3_send 25 = .ok (.aload_n 0, 1) := by decide +kernel
theorem dX3_send_26 : decode cX3_send 26 = .ok (.dup, 1) := by decide +kernel
theorem dX3_send_27 : decode cX3_send 27 = .ok (.getfield 31, 3) := by decide +kernel
theorem dX3_send_30 : decode cX3_send 30 = .ok (.iconst 1, 1) := by decide +kernel
theorem dX3_send_31 : decode cX3_send 31 = .ok (.iadd, 1) := by decide +kernel
theorem dX3_send_32 : decode cX3_send 32 = .ok (.putfield 31, 3) := by decide +kernel
theorem dX3_send_35 : decode cX3_send 35 = .ok (.return_, 1) := by decide +kernel
theorem dX3_send_36 : decode cX3_send 36 = .ok (.iload 4, 2) := by decide +kernel
theorem dX3_send_38 : decode cX3_send 38 = .ok (.iconst 1, 1) := by decide +kernel
theorem dX3_send_39 : decode cX3_send 39 = .ok (.iadd, 1) := by decide +kernel
theorem dX3_send_40 : decode cX3_send 40 = .ok (.aload_n 2, 1) := by decide +kernel
theorem dX3_send_41 : decode cX3_send 41 = .ok (.getfield 43, 3) := by decide +kernel
theorem dX3_send_44 : decode cX3_send 44 = .ok (.aload_n 3, 1) := by decide +kernel
theorem dX3_send_45 : decode cX3_send 45 = .ok (.getfield 43, 3) := by decide +kernel
theorem dX3_send_48 : decode cX3_send 48 = .ok (.isub, 1) := by decide +kernel
theorem dX3_send_49 : decode cX3_send 49 = .ok (.invokestatic 46, 3) := by decide +kernel
theorem dX3_send_52 : decode cX3_send 52 = .ok (.iadd, 1) := by decide +kernel
theorem dX3_send_53 : decode cX3_send 53 = .ok (.istore 7, 2) := by decide +kernel
theorem dX3_send_55 : decode cX3_send 55 = .ok (.aload_n 0, 1) := by decide +kernel
theorem dX3_send_56 : decode cX3_send 56 = .ok (.getfield 24, 3) := by decide +kernel
theorem dX3_send_59 : decode cX3_send 59 = .ok (.istore 8, 2) := by decide +kernel
theorem dX3_send_61 : decode cX3_send 61 = .ok (.iload 8, 2) := by decide +kernel
theorem dX3_send_63 : decode cX3_send 63 = .ok (.ifCond .le 28, 3) := by decide +kernel
theorem dX3_send_66 : decode cX3_send 66 = .ok (.aload_n 0, 1) := by decide +kernel
theorem dX3_send_67 : decode cX3_send 67 = .ok (.getfield 15, 3) := by decide +kernel
theorem dX3_send_70 : decode cX3_send 70 = .ok (.iload 8, 2) := by decide +kernel
theorem dX3_send_72 : decode cX3_send 72 = .ok (.iconst 1, 1) := by decide +kernel
theorem dX3_send_73 : decode cX3_send 73 = .ok (.isub, 1) := by decide +kernel
theorem dX3_send_74 : decode cX3_send 74 = .ok (.bipush 9, 2) := by decide +kernel
theorem dX3_send_76 : decode cX3_send 76 = .ok (.imul, 1) := by decide +kernel
theorem dX3_send_77 : decode cX3_send 77 = .ok (.iconst 3, 1) := by decide +kernel
theorem dX3_send_78 : decode cX3_send 78 = .ok (.iadd, 1) := by decide +kernel
theorem dX3_send_79 : decode cX3_send 79 = .ok (.iaload, 1) := by decide +kernel
theorem dX3_send_80 : decode cX3_send 80 = .ok (.iload 7, 2) := by decide +kernel
theorem dX3_send_82 : decode cX3_send 82 = .ok (.if_icmp .le 9, 3) := by decide +kernel
theorem dX3_send_85 : decode cX3_send 85 = .ok (.iinc 8 (-1), 3) := by decide +kernel
theorem dX3_send_88 : decode cX3_send 88 = .ok (.goto (-27), 3) := by decide +kernel
theorem dX3_send_91 : decode cX3_send 91 = .ok (.iload 8, 2) := by decide +kernel
theorem dX3_send_93 : decode cX3_send 93 = .ok (.bipush 9, 2) := by decide +kernel
theorem dX3_send_95 : decode cX3_send 95 = .ok (.imul, 1) := by decide +kernel
theorem dX3_send_96 : decode cX3_send 96 = .ok (.istore 9, 2) := by decide +kernel
theorem dX3_send_98 : decode cX3_send 98 = .ok (.aload_n 0, 1) := by decide +kernel
theorem dX3_send_99 : decode cX3_send 99 = .ok (.getfield 15, 3) := by decide +kernel
theorem dX3_send_102 : decode cX3_send 102 = .ok (.iload 9, 2) := by decide +kernel
theorem dX3_send_104 : decode cX3_send 104 = .ok (.aload_n 0, 1) := by decide +kernel
theorem dX3_send_105 : decode cX3_send 105 = .ok (.getfield 15, 3) := by decide +kernel
theorem dX3_send_108 : decode cX3_send 108 = .ok (.iload 9, 2) := by decide +kernel
theorem dX3_send_110 : decode cX3_send 110 = .ok (.bipush 9, 2) := by decide +kernel
theorem dX3_send_112 : decode cX3_send 112 = .ok (.iadd, 1) := by decide +kernel
theorem dX3_send_113 : decode cX3_send 113 = .ok (.aload_n 0, 1) := by decide +kernel
theorem dX3_send_114 : decode cX3_send 114 = .ok (.getfield 24, 3) := by decide +kernel
theorem dX3_send_117 : decode cX3_send 117 = .ok (.iload 8, 2) := by decide +kernel
theorem dX3_send_119 : decode cX3_send 119 = .ok (.isub, 1) := by decide +kernel
theorem dX3_send_120 : decode cX3_send 120 = .ok (.bipush 9, 2) := by decide +kernel
theorem dX3_send_122 : decode cX3_send 122 = .ok (.imul, 1) := by decide +kernel
theorem dX3_send_123 : decode cX3_send 123 = .ok (.invokestatic 18, 3) := by decide +kernel
theorem dX3_send_126 : decode cX3_send 126 = .ok (.aload_n 0, 1) := by decide +kernel
theorem dX3_send_127 : decode cX3_send 127 = .ok (.getfield 15, 3) := by decide +kernel
theorem dX3_send_130 : decode cX3_send 130 = .ok (.iload 9, 2) := by decide +kernel
theorem dX3_send_132 : decode cX3_send 132 = .ok (.iconst 0, 1) := by decide +kernel
theorem dX3_send_133 : decode cX3_send 133 = .ok (.iadd, 1) := by decide +kernel
theorem dX3_send_134 : decode cX3_send 134 = .ok (.iload_n 1, 1) := by decide +kernel
theorem dX3_send_135 : decode cX3_send 135 = .ok (.iastore, 1) := by decide +kernel
theorem dX3_send_136 : decode cX3_send 136 = .ok (.aload_n 0, 1) := by decide +kernel
theorem dX3_send_137 : decode cX3_send 137 = .ok (.getfield 15, 3) := by decide +kernel
theorem dX3_send_140 : decode cX3_send 140 = .ok (.iload 9, 2) := by decide +kernel
theorem dX3_send_142 : decode cX3_send 142 = .ok (.iconst 1, 1) := by decide +kernel
theorem dX3_send_143 : decode cX3_send 143 = .ok (.iadd, 1) := by decide +kernel
theorem dX3_send_144 : decode cX3_send 144 = .ok (.aload_n 2, 1) := by decide +kernel
theorem dX3_send_145 : decode cX3_send 145 = .ok (.getfield 38, 3) := by decide +kernel
theorem dX3_send_148 : decode cX3_send 148 = .ok (.iastore, 1) := by decide +kernel
theorem dX3_send_149 : decode cX3_send 149 = .ok (.aload_n 0, 1) := by decide +kernel
theorem dX3_send_150 : decode cX3_send 150 = .ok (.getfield 15, 3) := by decide +kernel
theorem dX3_send_153 : decode cX3_send 153 = .ok (.iload 9, 2) := by decide +kernel
theorem dX3_send_155 : decode cX3_send 155 = .ok (.iconst 2, 1) := by decide +kernel
theorem dX3_send_156 : decode cX3_send 156 = .ok (.iadd, 1) := by decide +kernel
theorem dX3_send_157 : decode cX3_send 157 = .ok (.aload_n 3, 1) := by decide +kernel
theorem dX3_send_158 : decode cX3_send 158 = .ok (.getfield 38, 3) := by decide +kernel
theorem dX3_send_161 : decode cX3_send 161 = .ok (.iastore, 1) := by decide +kernel
theorem dX3_send_162 : decode cX3_send 162 = .ok (.aload_n 0, 1) := by decide +kernel
theorem dX3_send_163 : decode cX3_send 163 = .ok (.getfield 15, 3) := by decide +kernel
theorem dX3_send_166 : decode cX3_send 166 = .ok (.iload 9, 2) := by decide +kernel
theorem dX3_send_168 : decode cX3_send 168 = .ok (.iconst 3, 1) := by decide +kernel
theorem dX3_send_169 : decode cX3_send 169 = .ok (.iadd, 1) := by decide +kernel
theorem dX3_send_170 : decode cX3_send 170 = .ok (.iload 7, 2) := by decide +kernel
theorem dX3_send_172 : decode cX3_send 172 = .ok (.iastore, 1) := by decide +kernel
theorem dX3_send_173 : decode cX3_send 173 = .ok (.aload_n 0, 1) := by decide +kernel
theorem dX3_send_174 : decode cX3_send 174 = .ok (.getfield 15, 3) := by decide +kernel
theorem dX3_send_177 : decode cX3_send 177 = .ok (.iload 9, 2) := by decide +kernel
theorem dX3_send_179 : decode cX3_send 179 = .ok (.iconst 4, 1) := by decide +kernel
theorem dX3_send_180 : decode cX3_send 180 = .ok (.iadd, 1) := by decide +kernel
theorem dX3_send_181 : decode cX3_send 181 = .ok (.iload 5, 2) := by decide +kernel
theorem dX3_send_183 : decode cX3_send 183 = .ok (.iastore, 1) := by decide +kernel
theorem dX3_send_184 : decode cX3_send 184 = .ok (.aload_n 0, 1) := by decide +kernel
theorem dX3_send_185 : decode cX3_send 185 = .ok (.getfield 15, 3) := by decide +kernel
theorem dX3_send_188 : decode cX3_send 188 = .ok (.iload 9, 2) := by decide +kernel
theorem dX3_send_190 : decode cX3_send 190 = .ok (.iconst 5, 1) := by decide +kernel
theorem dX3_send_191 : decode cX3_send 191 = .ok (.iadd, 1) := by decide +kernel
theorem dX3_send_192 : decode cX3_send 192 = .ok (.iload 6, 2) := by decide +kernel
theorem dX3_send_194 : decode cX3_send 194 = .ok (.iastore, 1) := by decide +kernel
theorem dX3_send_195 : decode cX3_send 195 = .ok (.aload_n 0, 1) := by decide +kernel
theorem dX3_send_196 : decode cX3_send 196 = .ok (.getfield 15, 3) := by decide +kernel
theorem dX3_send_199 : decode cX3_send 199 = .ok (.iload 9, 2) := by decide +kernel
theorem dX3_send_201 : decode cX3_send 201 = .ok (.bipush 6, 2) := by decide +kernel
theorem dX3_send_203 : decode cX3_send 203 = .ok (.iadd, 1) := by decide +kernel
theorem dX3_send_204 : decode cX3_send 204 = .ok (.aload_n 2, 1) := by decide +kernel
theorem dX3_send_205 : decode cX3_send 205 = .ok (.getfield 52, 3) := by decide +kernel
theorem dX3_send_208 : decode cX3_send 208 = .ok (.iastore, 1) := by decide +kernel
theorem dX3_send_209 : decode cX3_send 209 = .ok (.aload_n 0, 1) := by decide +kernel
theorem dX3_send_210 : decode cX3_send 210 = .ok (.getfield 15, 3) := by decide +kernel
theorem dX3_send_213 : decode cX3_send 213 = .ok (.iload 9, 2) := by decide +kernel
theorem dX3_send_215 : decode cX3_send 215 = .ok (.bipush 7, 2) := by decide +kernel
theorem dX3_send_217 : decode cX3_send 217 = .ok (.iadd, 1) := by decide +kernel
theorem dX3_send_218 : decode cX3_send 218 = .ok (.aload_n 2, 1) := by decide +kernel
theorem dX3_send_219 : decode cX3_send 219 = .ok (.getfield 55, 3) := by decide +kernel
theorem dX3_send_222 : decode cX3_send 222 = .ok (.iastore, 1) := by decide +kernel
theorem dX3_send_223 : decode cX3_send 223 = .ok (.aload_n 0, 1) := by decide +kernel
theorem dX3_send_224 : decode cX3_send 224 = .ok (.getfield 15, 3) := by decide +kernel
theorem dX3_send_227 : decode cX3_send 227 = .ok (.iload 9, 2) := by decide +kernel
theorem dX3_send_229 : decode cX3_send 229 = .ok (.bipush 8, 2) := by decide +kernel
theorem dX3_send_231 : decode cX3_send 231 = .ok (.iadd, 1) := by decide +kernel
theorem dX3_send_232 : decode cX3_send 232 = .ok (.aload_n 2, 1) := by decide +kernel
theorem dX3_send_233 : decode cX3_send 233 = .ok (.getfield 58, 3) := by decide +kernel
theorem dX3_send_236 : decode cX3_send 236 = .ok (.iastore, 1) := by decide +kernel
theorem dX3_send_237 : decode cX3_send 237 = .ok (.aload_n 0, 1) := by decide +kernel
theorem dX3_send_238 : decode cX3_send 238 = .ok (.dup, 1) := by decide +kernel
theorem dX3_send_239 : decode cX3_send 239 = .ok (.getfield 24, 3) := by decide +kernel
theorem dX3_send_242 : decode cX3_send 242 = .ok (.iconst 1, 1) := by decide +kernel
theorem dX3_send_243 : decode cX3_send 243 = .ok (.iadd, 1) := by decide +kernel
theorem dX3_send_244 : decode cX3_send 244 = .ok (.putfield 24, 3) := by decide +kernel
theorem dX3_send_247 : decode cX3_send 247 = .ok (.return_, 1) := by decide +kernel
theorem dX3_isDue_0 : decode cX3_isDue 0 = .ok (.aload_n 0, 1) := by decide +kernel
theorem dX3_isDue_1 : decode cX3_isDue 1 = .ok (.getfield 24, 3) := by decide +kernel
theorem dX3_isDue_4 : decode cX3_isDue 4 = .ok (.ifCond .le 17, 3) := by decide +kernel
theorem dX3_isDue_7 : decode cX3_isDue 7 = .ok (.aload_n 0, 1) := by decide +kernel
theorem dX3_isDue_8 : decode cX3_isDue 8 = .ok (.getfield 15, 3) := by decide +kernel
theorem dX3_isDue_11 : decode cX3_isDue 11 = .ok (.iconst 3, 1) := by decide +kernel
theorem dX3_isDue_12 : decode cX3_isDue 12 = .ok (.iaload, 1) := by decide +kernel
theorem dX3_isDue_13 : decode cX3_isDue 13 = .ok (.iload_n 1, 1) := by decide +kernel
theorem dX3_isDue_14 : decode cX3_isDue 14 = .ok (.if_icmp .gt 7, 3) := by decide +kernel
theorem dX3_isDue_17 : decode cX3_isDue 17 = .ok (.iconst 1, 1) := by decide +kernel
theorem dX3_isDue_18 : decode cX3_isDue 18 = .ok (.goto 4, 3) := by decide +kernel
theorem dX3_isDue_21 : decode cX3_isDue 21 = .ok (.iconst 0, 1) := by decide +kernel
theorem dX3_isDue_22 : decode cX3_isDue 22 = .ok (.ireturn, 1) := by decide +kernel
theorem dX3_takeFirst_0 : decode cX3_takeFirst 0 = .ok (.aload_n 0, 1) := by decide +kernel
theorem dX3_takeFirst_1 : decode cX3_takeFirst 1 = .ok (.getfield 24, 3) := by decide +kernel
theorem dX3_takeFirst_4 : decode cX3_takeFirst 4 = .ok (.ifCond .le 46, 3) := by decide +kernel
theorem dX3_takeFirst_7 : decode cX3_takeFirst 7 = .ok (.aload_n 0, 1) := by decide +kernel
theorem dX3_takeFirst_8 : decode cX3_takeFirst 8 = .ok (.dup, 1) := by decide +kernel
theorem dX3_takeFirst_9 : decode cX3_takeFirst 9 = .ok (.getfield 24, 3) := by decide +kernel
theorem dX3_takeFirst_12 : decode cX3_takeFirst 12 = .ok (.iconst 1, 1) := by decide +kernel
theorem dX3_takeFirst_13 : decode cX3_takeFirst 13 = .ok (.isub, 1) := by decide +kernel
theorem dX3_takeFirst_14 : decode cX3_takeFirst 14 = .ok (.putfield 24, 3) := by decide +kernel
theorem dX3_takeFirst_17 : decode cX3_takeFirst 17 = .ok (.aload_n 0, 1) := by decide +kernel
theorem dX3_takeFirst_18 : decode cX3_takeFirst 18 = .ok (.getfield 15, 3) := by decide +kernel
theorem dX3_takeFirst_21 : decode cX3_takeFirst 21 = .ok (.iconst 0, 1) := by decide +kernel
theorem dX3_takeFirst_22 : decode cX3_takeFirst 22 = .ok (.aload_n 1, 1) := by decide +kernel
theorem dX3_takeFirst_23 : decode cX3_takeFirst 23 = .ok (.iconst 0, 1) := by decide +kernel
theorem dX3_takeFirst_24 : decode cX3_takeFirst 24 = .ok (.bipush 9, 2) := by decide +kernel
theorem dX3_takeFirst_26 : decode cX3_takeFirst 26 = .ok (.invokestatic 18, 3) := by decide +kernel
theorem dX3_takeFirst_29 : decode cX3_takeFirst 29 = .ok (.aload_n 0, 1) := by decide +kernel
theorem dX3_takeFirst_30 : decode cX3_takeFirst 30 = .ok (.getfield 15, 3) := by decide +kernel
theorem dX3_takeFirst_33 : decode cX3_takeFirst 33 = .ok (.bipush 9, 2) := by decide +kernel
theorem dX3_takeFirst_35 : decode cX3_takeFirst 35 = .ok (.aload_n 0, 1) := by decide +kernel
theorem dX3_takeFirst_36 : decode cX3_takeFirst 36 = .ok (.getfield 15, 3) := by decide +kernel
theorem dX3_takeFirst_39 : decode cX3_takeFirst 39 = .ok (.iconst 0, 1) := by decide +kernel
theorem dX3_takeFirst_40 : decode cX3_takeFirst 40 = .ok (.aload_n 0, 1) := by decide +kernel
theorem dX3_takeFirst_41 : decode cX3_takeFirst 41 = .ok (.getfield 24, 3) := by decide +kernel
theorem dX3_takeFirst_44 : decode cX3_takeFirst 44 = .ok (.bipush 9, 2) := by decide +kernel
theorem dX3_takeFirst_46 : decode cX3_takeFirst 46 = .ok (.imul, 1) := by decide +kernel
theorem dX3_takeFirst_47 : decode cX3_takeFirst 47 = .ok (.invokestatic 18, 3) := by decide +kernel
theorem dX3_takeFirst_50 : decode cX3_takeFirst 50 = .ok (.return_, 1) := by decide +kernel
theorem dX4_init_0 : decode cX4_init 0 = .ok (.aload_n 0, 1) := by decide +kernel
theorem dX4_init_1 : decode cX4_init 1 = .ok (.invokespecial 1, 3) := by decide +kernel
theorem dX4_init_4 : decode cX4_init 4 = .ok (.aload_n 0, 1) := by decide +kernel
theorem dX4_init_5 : decode cX4_init 5 = .ok (.iload_n 1, 1) := by decide +kernel
theorem dX4_init_6 : decode cX4_init 6 = .ok (.newarray .int, 2) := by decide +kernel
theorem dX4_init_8 : decode cX4_init 8 = .ok (.putfield 7, 3) := by decide +kernel
theorem dX4_init_11 : decode cX4_init 11 = .ok (.aload_n 0, 1) := by decide +kernel
theorem dX4_init_12 : decode cX4_init 12 = .ok (.iload_n 1, 1) := by decide +kernel
theorem dX4_init_13 : decode cX4_init 13 = .ok (.newarray .int, 2) := by decide +kernel
theorem dX4_init_15 : decode cX4_init 15 = .ok (.putfield 13, 3) := by decide +kernel
theorem dX4_init_18 : decode cX4_init 18 = .ok (.aload_n 0, 1) := by decide +kernel
theorem dX4_init_19 : decode cX4_init 19 = .ok (.iload_n 1, 1) := by decide +kernel
theorem dX4_init_20 : decode cX4_init 20 = .ok (.newarray .int, 2) := by decide +kernel
theorem dX4_init_22 : decode cX4_init 22 = .ok (.putfield 16, 3) := by decide +kernel
theorem dX4_init_25 : decode cX4_init 25 = .ok (.return_, 1) := by decide +kernel
theorem dX4_copyFrom_0 : decode cX4_copyFrom 0 = .ok (.aload_n 0, 1) := by decide +kernel
theorem dX4_copyFrom_1 : decode cX4_copyFrom 1 = .ok (.getfield 7, 3) := by decide +kernel
theorem dX4_copyFrom_4 : decode cX4_copyFrom 4 = .ok (.arraylength, 1) := by decide +kernel
theorem dX4_copyFrom_5 : decode cX4_copyFrom 5 = .ok (.aload_n 1, 1) := by decide +kernel
theorem dX4_copyFrom_6 : decode cX4_copyFrom 6 = .ok (.getfield 7, 3) := by decide +kernel
theorem dX4_copyFrom_9 : decode cX4_copyFrom 9 = .ok (.arraylength, 1) := by decide +kernel
theorem dX4_copyFrom_10 : decode cX4_copyFrom 10 = .ok (.invokestatic 19, 3) := by decide +kernel
theorem dX4_copyFrom_13 : decode cX4_copyFrom 13 = .ok (.istore_n 2, 1) := by decide +kernel
theorem dX4_copyFrom_14 : decode cX4_copyFrom 14 = .ok (.aload_n 1, 1) := by decide +kernel
theorem dX4_copyFrom_15 : decode cX4_copyFrom 15 = .ok (.getfield 7, 3) := by decide +kernel
theorem dX4_copyFrom_18 : decode cX4_copyFrom 18 = .ok (.iconst 0, 1) := by decide +kernel
theorem dX4_copyFrom_19 : decode cX4_copyFrom 19 = .ok (.aload_n 0, 1) := by decide +kernel
theorem dX4_copyFrom_20 : decode cX4_copyFrom 20 = .ok (.getfield 7, 3) := by decide +kernel
theorem dX4_copyFrom_23 : decode cX4_copyFrom 23 = .ok (.iconst 0, 1) := by decide +kernel
theorem dX4_copyFrom_24 : decode cX4_copyFrom 24 = .ok (.iload_n 2, 1) := by decide +kernel
theorem dX4_copyFrom_25 : decode cX4_copyFrom 25 = .ok (.invokestatic 25, 3) := by decide +kernel
theorem dX4_copyFrom_28 : decode cX4_copyFrom 28 = .ok (.aload_n 1, 1) := by decide +kernel
theorem dX4_copyFrom_29 : decode cX4_copyFrom 29 = .ok (.getfield 13, 3) := by decide +kernel
theorem dX4_copyFrom_32 : decode cX4_copyFrom 32 = .ok (.iconst 0, 1) := by decide +kernel
theorem dX4_copyFrom_33 : decode cX4_copyFrom 33 = .ok (.aload_n 0, 1) := by decide +kernel
theorem dX4_copyFrom_34 : decode cX4_copyFrom 34 = .ok (.getfield 13, 3) := by decide +kernel
theorem dX4_copyFrom_37 : decode cX4_copyFrom 37 = .ok (.iconst 0, 1) := by decide +kernel
theorem dX4_copyFrom_38 : decode cX4_copyFrom 38 = .ok (.iload_n 2, 1) := by decide +kernel
theorem dX4_copyFrom_39 : decode cX4_copyFrom 39 = .ok (.invokestatic 25, 3) := by decide +kernel
theorem dX4_copyFrom_42 : decode cX4_copyFrom 42 = .ok (.aload_n 1, 1) := by decide +kernel
theorem dX4_copyFrom_43 : decode cX4_copyFrom 43 = .ok (.getfield 16, 3) := by decide +kernel
theorem dX4_copyFrom_46 : decode cX4_copyFrom 46 = .ok (.iconst 0, 1) := by decide +kernel
theorem dX4_copyFrom_47 : decode cX4_copyFrom 47 = .ok (.aload_n 0, 1) := by decide +kernel
theorem dX4_copyFrom_48 : decode cX4_copyFrom 48 = .ok (.getfield 16, 3) := by decide +kernel
theorem dX4_copyFrom_51 : decode cX4_copyFrom 51 = .ok (.iconst 0, 1) := by decide +kernel
theorem dX4_copyFrom_52 : decode cX4_copyFrom 52 = .ok (.iload_n 2, 1) := by decide +kernel
theorem dX4_copyFrom_53 : decode cX4_copyFrom 53 = .ok (.invokestatic 25, 3) := by decide +kernel
theorem dX4_copyFrom_56 : decode cX4_copyFrom 56 = .ok (.aload_n 0, 1) := by decide +kernel
theorem dX4_copyFrom_57 : decode cX4_copyFrom 57 = .ok (.aload_n 1, 1) := by decide +kernel
theorem dX4_copyFrom_58 : decode cX4_copyFrom 58 = .ok (.getfield 31, 3) := by decide +kernel
theorem dX4_copyFrom_61 : decode cX4_copyFrom 61 = .ok (.putfield 31, 3) := by decide +kernel
theorem dX4_copyFrom_64 : decode cX4_copyFrom 64 = .ok (.return_, 1) := by decide +kernel
theorem dX4_isFull_0 : decode cX4_isFull 0 = .ok (.aload_n 0, 1) := by decide +kernel
theorem dX4_isFull_1 : decode cX4_isFull 1 = .ok (.getfield 31, 3) := by decide +kernel
theorem dX4_isFull_4 : decode cX4_isFull 4 = .ok (.aload_n 0, 1) := by decide +kernel
theorem dX4_isFull_5 : decode cX4_isFull 5 = .ok (.getfield 7, 3) := by decide +kernel
theorem dX4_isFull_8 : decode cX4_isFull 8 = .ok (.arraylength, 1) := by decide +kernel
theorem dX4_isFull_9 : decode cX4_isFull 9 = .ok (.if_icmp .lt 7, 3) := by decide +kernel
theorem dX4_isFull_12 : decode cX4_isFull 12 = .ok (.iconst 1, 1) := by decide +kernel
theorem dX4_isFull_13 : decode cX4_isFull 13 = .ok (.goto 4, 3) := by decide +kernel
theorem dX4_isFull_16 : decode cX4_isFull 16 = .ok (.iconst 0, 1) := by decide +kernel
theorem dX4_isFull_17 : decode cX4_isFull 17 = .ok (.ireturn, 1) := by decide +kernel
theorem dX4_put_0 : decode cX4_put 0 = .ok (.iload_n 1, 1) := by decide +kernel
theorem dX4_put_1 : decode cX4_put 1 = .ok (.ifCond .lt 34, 3) := by decide +kernel
theorem dX4_put_4 : decode cX4_put 4 = .ok (.iload_n 1, 1) := by decide +kernel
theorem dX4_put_5 : decode cX4_put 5 = .ok (.aload_n 0, 1) := by decide +kernel
theorem dX4_put_6 : decode cX4_put 6 = .ok (.getfield 7, 3) := by decide +kernel
theorem dX4_put_9 : decode cX4_put 9 = .ok (.arraylength, 1) := by decide +kernel
theorem dX4_put_10 : decode cX4_put 10 = .ok (.if_icmp .ge 25, 3) := by decide +kernel
theorem dX4_put_13 : decode cX4_put 13 = .ok (.aload_n 0, 1) := by decide +kernel
theorem dX4_put_14 : decode cX4_put 14 = .ok (.getfield 7, 3) := by decide +kernel
theorem dX4_put_17 : decode cX4_put 17 = .ok (.iload_n 1, 1) := by decide +kernel
theorem dX4_put_18 : decode cX4_put 18 = .ok (.iload_n 2, 1) := by decide +kernel
theorem dX4_put_19 : decode cX4_put 19 = .ok (.iastore, 1) := by decide +kernel
theorem dX4_put_20 : decode cX4_put 20 = .ok (.aload_n 0, 1) := by decide +kernel
theorem dX4_put_21 : decode cX4_put 21 = .ok (.getfield 13, 3) := by decide +kernel
theorem dX4_put_24 : decode cX4_put 24 = .ok (.iload_n 1, 1) := by decide +kernel
theorem dX4_put_25 : decode cX4_put 25 = .ok (.iload_n 3, 1) := by decide +kernel
theorem dX4_put_26 : decode cX4_put 26 = .ok (.iastore, 1) := by decide +kernel
theorem dX4_put_27 : decode cX4_put 27 = .ok (.aload_n 0, 1) := by decide +kernel
theorem dX4_put_28 : decode cX4_put 28 = .ok (.getfield 16, 3) := by decide +kernel
theorem dX4_put_31 : decode cX4_put 31 = .ok (.iload_n 1, 1) := by decide +kernel
theorem dX4_put_32 : decode cX4_put 32 = .ok (.iload 4, 2) := by decide +kernel
theorem dX4_put_34 : decode cX4_put 34 = .ok (.iastore, 1) := by decide +kernel
theorem dX4_put_35 : decode cX4_put 35 = .ok (.return_, 1) := by decide +kernel
theorem dX4_add_0 : decode cX4_add 0 = .ok (.aload_n 0, 1) := by decide +kernel
theorem dX4_add_1 : decode cX4_add 1 = .ok (.getfield 7, 3) := by decide +kernel
theorem dX4_add_4 : decode cX4_add 4 = .ok (.arraylength, 1) := by decide +kernel
theorem dX4_add_5 : decode cX4_add 5 = .ok (.iconst 1, 1) := by decide +kernel
theorem dX4_add_6 : decode cX4_add 6 = .ok (.isub, 1) := by decide +kernel
theorem dX4_add_7 : decode cX4_add 7 = .ok (.istore 4, 2) := by decide +kernel
theorem dX4_add_9 : decode cX4_add 9 = .ok (.aload_n 0, 1) := by decide +kernel
theorem dX4_add_10 : decode cX4_add 10 = .ok (.getfield 31, 3) := by decide +kernel
theorem dX4_add_13 : decode cX4_add 13 = .ok (.iload 4, 2) := by decide +kernel
theorem dX4_add_15 : decode cX4_add 15 = .ok (.if_icmp .le 73, 3) := by decide +kernel
theorem dX4_add_18 : decode cX4_add 18 = .ok (.iconst 0, 1) := by decide +kernel
theorem dX4_add_19 : decode cX4_add 19 = .ok (.istore 5, 2) := by decide +kernel
theorem dX4_add_21 : decode cX4_add 21 = .ok (.iload 5, 2) := by decide +kernel
theorem dX4_add_23 : decode cX4_add 23 = .ok (.iload 4, 2) := by decide +kernel
theorem dX4_add_25 : decode cX4_add 25 = .ok (.if_icmp .ge 57, 3) := by decide +kernel
theorem dX4_add_28 : decode cX4_add 28 = .ok (.aload_n 0, 1) := by decide +kernel
theorem dX4_add_29 : decode cX4_add 29 = .ok (.getfield 7, 3) := by decide +kernel
theorem dX4_add_32 : decode cX4_add 32 = .ok (.iload 5, 2) := by decide +kernel
theorem dX4_add_34 : decode cX4_add 34 = .ok (.aload_n 0, 1) := by decide +kernel
theorem dX4_add_35 : decode cX4_add 35 = .ok (.getfield 7, 3) := by decide +kernel
theorem dX4_add_38 : decode cX4_add 38 = .ok (.iload 5, 2) := by decide +kernel
theorem dX4_add_40 : decode cX4_add 40 = .ok (.iconst 1, 1) := by decide +kernel
theorem dX4_add_41 : decode cX4_add 41 = .ok (.iadd, 1) := by decide +kernel
theorem dX4_add_42 : decode cX4_add 42 = .ok (.iaload, 1) := by decide +kernel
theorem dX4_add_43 : decode cX4_add 43 = .ok (.iastore, 1) := by decide +kernel
theorem dX4_add_44 : decode cX4_add 44 = .ok (.aload_n 0, 1) := by decide +kernel
theorem dX4_add_45 : decode cX4_add 45 = .ok (.getfield 13, 3) := by decide +kernel
theorem dX4_add_48 : decode cX4_add 48 = .ok (.iload 5, 2) := by decide +kernel
theorem dX4_add_50 : decode cX4_add 50 = .ok (.aload_n 0, 1) := by decide +kernel
theorem dX4_add_51 : decode cX4_add 51 = .ok (.getfield 13, 3) := by decide +kernel
theorem dX4_add_54 : decode cX4_add 54 = .ok (.iload 5, 2) := by decide +kernel
theorem dX4_add_56 : decode cX4_add 56 = .ok (.iconst 1, 1) := by decide +kernel
theorem dX4_add_57 : decode cX4_add 57 = .ok (.iadd, 1) := by decide +kernel
theorem dX4_add_58 : decode cX4_add 58 = .ok (.iaload, 1) := by decide +kernel
theorem dX4_add_59 : decode cX4_add 59 = .ok (.iastore, 1) := by decide +kernel
theorem dX4_add_60 : decode cX4_add 60 = .ok (.aload_n 0, 1) := by decide +kernel
theorem dX4_add_61 : decode cX4_add 61 = .ok (.getfield 16, 3) := by decide +kernel
theorem dX4_add_64 : decode cX4_add 64 = .ok (.iload 5, 2) := by decide +kernel
theorem dX4_add_66 : decode cX4_add 66 = .ok (.aload_n 0, 1) := by decide +kernel
theorem dX4_add_67 : decode cX4_add 67 = .ok (.getfield 16, 3) := by decide +kernel
theorem dX4_add_70 : decode cX4_add 70 = .ok (.iload 5, 2) := by decide +kernel
theorem dX4_add_72 : decode cX4_add 72 = .ok (.iconst 1, 1) := by decide +kernel
theorem dX4_add_73 : decode cX4_add 73 = .ok (.iadd, 1) := by decide +kernel
theorem dX4_add_74 : decode cX4_add 74 = .ok (.iaload, 1) := by decide +kernel
theorem dX4_add_75 : decode cX4_add 75 = .ok (.iastore, 1) := by decide +kernel
theorem dX4_add_76 : decode cX4_add 76 = .ok (.iinc 5 1, 3) := by decide +kernel
theorem dX4_add_79 : decode cX4_add 79 = .ok (.goto (-58), 3) := by decide +kernel
theorem dX4_add_82 : decode cX4_add 82 = .ok (.aload_n 0, 1) := by decide +kernel
theorem dX4_add_83 : decode cX4_add 83 = .ok (.iload 4, 2) := by decide +kernel
theorem dX4_add_85 : decode cX4_add 85 = .ok (.putfield 31, 3) := by decide +kernel
theorem dX4_add_88 : decode cX4_add 88 = .ok (.aload_n 0, 1) := by decide +kernel
theorem dX4_add_89 : decode cX4_add 89 = .ok (.getfield 7, 3) := by decide +kernel
theorem dX4_add_92 : decode cX4_add 92 = .ok (.aload_n 0, 1) := by decide +kernel
theorem dX4_add_93 : decode cX4_add 93 = .ok (.getfield 31, 3) := by decide +kernel
theorem dX4_add_96 : decode cX4_add 96 = .ok (.iload_n 1, 1) := by decide +kernel
theorem dX4_add_97 : decode cX4_add 97 = .ok (.iastore, 1) := by decide +kernel
theorem dX4_add_98 : decode cX4_add 98 = .ok (.aload_n 0, 1) := by decide +kernel
theorem dX4_add_99 : decode cX4_add 99 = .ok (.getfield 13, 3) := by decide +kernel
theorem dX4_add_102 : decode cX4_add 102 = .ok (.aload_n 0, 1) := by decide +kernel
theorem dX4_add_103 : decode cX4_add 103 = .ok (.getfield 31, 3) := by decide +kernel
theorem dX4_add_106 : decode cX4_add 106 = .ok (.iload_n 2, 1) := by decide +kernel
theorem dX4_add_107 : decode cX4_add 107 = .ok (.iastore, 1) := by decide +kernel
theorem dX4_add_108 : decode cX4_add 108 = .ok (.aload_n 0, 1) := by decide +kernel
theorem dX4_add_109 : decode cX4_add 109 = .ok (.getfield 16, 3) := by decide +kernel
theorem dX4_add_112 : decode cX4_add 112 = .ok (.aload_n 0, 1) := by decide +kernel
theorem dX4_add_113 : decode cX4_add 113 = .ok (.getfield 31, 3) := by decide +kernel
theorem dX4_add_116 : decode cX4_add 116 = .ok (.iload_n 3, 1) := by decide +kernel
theorem dX4_add_117 : decode cX4_add 117 = .ok (.iastore, 1) := by decide +kernel
theorem dX4_add_118 : decode cX4_add 118 = .ok (.aload_n 0, 1) := by decide +kernel
theorem dX4_add_119 : decode cX4_add 119 = .ok (.dup, 1) := by decide +kernel
theorem dX4_add_120 : decode cX4_add 120 = .ok (.getfield 31, 3) := by decide +kernel
theorem dX4_add_123 : decode cX4_add 123 = .ok (.iconst 1, 1) := by decide +kernel
theorem dX4_add_124 : decode cX4_add 124 = .ok (.iadd, 1) := by decide +kernel
theorem dX4_add_125 : decode cX4_add 125 = .ok (.putfield 31, 3) := by decide +kernel
theorem dX4_add_128 : decode cX4_add 128 = .ok (.return_, 1) := by decide +kernel
theorem dX4_takeUpTo_0 : decode cX4_takeUpTo 0 = .ok (.iconst 0, 1) := by decide +kernel
theorem dX4_takeUpTo_1 : decode cX4_takeUpTo 1 = .ok (.istore_n 3, 1) := by decide +kernel
theorem dX4_takeUpTo_2 : decode cX4_takeUpTo 2 = .ok (.iconst 0, 1) := by decide +kernel
theorem dX4_takeUpTo_3 : decode cX4_takeUpTo 3 = .ok (.istore 4, 2) := by decide +kernel
theorem dX4_takeUpTo_5 : decode cX4_takeUpTo 5 = .ok (.iconst 0, 1) := by decide +kernel
theorem dX4_takeUpTo_6 : decode cX4_takeUpTo 6 = .ok (.istore 5, 2) := by decide +kernel
theorem dX4_takeUpTo_8 : decode cX4_takeUpTo 8 = .ok (.iload 5, 2) := by decide +kernel
theorem dX4_takeUpTo_10 : decode cX4_takeUpTo 10 = .ok (.aload_n 0, 1) := by decide +kernel
theorem dX4_takeUpTo_11 : decode cX4_takeUpTo 11 = .ok (.getfield 31, 3) := by decide +kernel
theorem dX4_takeUpTo_14 : decode cX4_takeUpTo 14 = .ok (.if_icmp .ge 100, 3) := by decide +kernel
theorem dX4_takeUpTo_17 : decode cX4_takeUpTo 17 = .ok (.aload_n 0, 1) := by decide +kernel
theorem dX4_takeUpTo_18 : decode cX4_takeUpTo 18 = .ok (.getfield 7, 3) := by decide +kernel
theorem dX4_takeUpTo_21 : decode cX4_takeUpTo 21 = .ok (.iload 5, 2) := by decide +kernel
theorem dX4_takeUpTo_23 : decode cX4_takeUpTo 23 = .ok (.iaload, 1) := by decide +kernel
theorem dX4_takeUpTo_24 : decode cX4_takeUpTo 24 = .ok (.iload_n 1, 1) := by decide +kernel
theorem dX4_takeUpTo_25 : decode cX4_takeUpTo 25 = .ok (.if_icmp .le 51, 3) := by decide +kernel
theorem dX4_takeUpTo_28 : decode cX4_takeUpTo 28 = .ok (.aload_n 0, 1) := by decide +kernel
theorem dX4_takeUpTo_29 : decode cX4_takeUpTo 29 = .ok (.getfield 7, 3) := by decide +kernel
theorem dX4_takeUpTo_32 : decode cX4_takeUpTo 32 = .ok (.iload 4, 2) := by decide +kernel
theorem dX4_takeUpTo_34 : decode cX4_takeUpTo 34 = .ok (.aload_n 0, 1) := by decide +kernel
theorem dX4_takeUpTo_35 : decode cX4_takeUpTo 35 = .ok (.getfield 7, 3) := by decide +kernel
theorem dX4_takeUpTo_38 : decode cX4_takeUpTo 38 = .ok (.iload 5, 2) := by decide +kernel
theorem dX4_takeUpTo_40 : decode cX4_takeUpTo 40 = .ok (.iaload, 1) := by decide +kernel
theorem dX4_takeUpTo_41 : decode cX4_takeUpTo 41 = .ok (.iastore, 1) := by decide +kernel
theorem dX4_takeUpTo_42 : decode cX4_takeUpTo 42 = .ok (.aload_n 0, 1) := by decide +kernel
theorem dX4_takeUpTo_43 : decode cX4_takeUpTo 43 = .ok (.getfield 13, 3) := by decide +kernel
theorem dX4_takeUpTo_46 : decode cX4_takeUpTo 46 = .ok (.iload 4, 2) := by decide +kernel
theorem dX4_takeUpTo_48 : decode cX4_takeUpTo 48 = .ok (.aload_n 0, 1) := by decide +kernel
theorem dX4_takeUpTo_49 : decode cX4_takeUpTo 49 = .ok (.getfield 13, 3) := by decide +kernel
theorem dX4_takeUpTo_52 : decode cX4_takeUpTo 52 = .ok (.iload 5, 2) := by decide +kernel
theorem dX4_takeUpTo_54 : decode cX4_takeUpTo 54 = .ok (.iaload, 1) := by decide +kernel
theorem dX4_takeUpTo_55 : decode cX4_takeUpTo 55 = .ok (.iastore, 1) := by decide +kernel
theorem dX4_takeUpTo_56 : decode cX4_takeUpTo 56 = .ok (.aload_n 0, 1) := by decide +kernel
theorem dX4_takeUpTo_57 : decode cX4_takeUpTo 57 = .ok (.getfield 16, 3) := by decide +kernel
theorem dX4_takeUpTo_60 : decode cX4_takeUpTo 60 = .ok (.iload 4, 2) := by decide +kernel
theorem dX4_takeUpTo_62 : decode cX4_takeUpTo 62 = .ok (.aload_n 0, 1) := by decide +kernel
theorem dX4_takeUpTo_63 : decode cX4_takeUpTo 63 = .ok (.getfield 16, 3) := by decide +kernel
theorem dX4_takeUpTo_66 : decode cX4_takeUpTo 66 = .ok (.iload 5, 2) := by decide +kernel
theorem dX4_takeUpTo_68 : decode cX4_takeUpTo 68 = .ok (.iaload, 1) := by decide +kernel
theorem dX4_takeUpTo_69 : decode cX4_takeUpTo 69 = .ok (.iastore, 1) := by decide +kernel
theorem dX4_takeUpTo_70 : decode cX4_takeUpTo 70 = .ok (.iinc 4 1, 3) := by decide +kernel
theorem dX4_takeUpTo_73 : decode cX4_takeUpTo 73 = .ok (.goto 35, 3) := by decide +kernel
theorem dX4_takeUpTo_76 : decode cX4_takeUpTo 76 = .ok (.aload_n 0, 1) := by decide +kernel
theorem dX4_takeUpTo_77 : decode cX4_takeUpTo 77 = .ok (.getfield 7, 3) := by decide +kernel
theorem dX4_takeUpTo_80 : decode cX4_takeUpTo 80 = .ok (.iload 5, 2) := by decide +kernel
theorem dX4_takeUpTo_82 : decode cX4_takeUpTo 82 = .ok (.iaload, 1) := by decide +kernel
theorem dX4_takeUpTo_83 : decode cX4_takeUpTo 83 = .ok (.iload_n 1, 1) := by decide +kernel
theorem dX4_takeUpTo_84 : decode cX4_takeUpTo 84 = .ok (.if_icmp .ne 24, 3) := by decide +kernel
theorem dX4_takeUpTo_87 : decode cX4_takeUpTo 87 = .ok (.aload_n 0, 1) := by decide +kernel
theorem dX4_takeUpTo_88 : decode cX4_takeUpTo 88 = .ok (.getfield 13, 3) := by decide +kernel
theorem dX4_takeUpTo_91 : decode cX4_takeUpTo 91 = .ok (.iload 5, 2) := by decide +kernel
theorem dX4_takeUpTo_93 : decode cX4_takeUpTo 93 = .ok (.iaload, 1) := by decide +kernel
theorem dX4_takeUpTo_94 : decode cX4_takeUpTo 94 = .ok (.iload_n 2, 1) := by decide +kernel
theorem dX4_takeUpTo_95 : decode cX4_takeUpTo 95 = .ok (.if_icmp .ne 13, 3) := by decide +kernel
theorem dX4_takeUpTo_98 : decode cX4_takeUpTo 98 = .ok (.iload_n 3, 1) := by decide +kernel
theorem dX4_takeUpTo_99 : decode cX4_takeUpTo 99 = .ok (.aload_n 0, 1) := by decide +kernel
theorem dX4_takeUpTo_100 : decode cX4_takeUpTo 100 = .ok (.getfield 16, 3) := by decide +kernel
theorem dX4_takeUpTo_103 : decode cX4_takeUpTo 103 = .ok (.iload 5, 2) := by decide +kernel
theorem dX4_takeUpTo_105 : decode cX4_takeUpTo 105 = .ok (.iaload, 1) := by decide +kernel
theorem dX4_takeUpTo_106 : decode cX4_takeUpTo 106 = .ok (.ior, 1) := by decide +kernel
theorem dX4_takeUpTo_107 : decode cX4_takeUpTo 107 = .ok (.istore_n 3, 1) := by decide +kernel
theorem dX4_takeUpTo_108 : decode cX4_takeUpTo 108 = .ok (.iinc 5 1, 3) := by decide +kernel
theorem dX4_takeUpTo_111 : decode cX4_takeUpTo 111 = .ok (.goto (-103), 3) := by decide +kernel
theorem dX4_takeUpTo_114 : decode cX4_takeUpTo 114 = .ok (.aload_n 0, 1) := by decide +kernel
theorem dX4_takeUpTo_115 : decode cX4_takeUpTo 115 = .ok (.iload 4, 2) := by decide +kernel
theorem dX4_takeUpTo_117 : decode cX4_takeUpTo 117 = .ok (.putfield 31, 3) := by decide +kernel
theorem dX4_takeUpTo_120 : decode cX4_takeUpTo 120 = .ok (.iload_n 3, 1) := by decide +kernel
theorem dX4_takeUpTo_121 : decode cX4_takeUpTo 121 = .ok (.ireturn, 1) := by decide +kernel
theorem dX4_heardLike_0 : decode cX4_heardLike 0 = .ok (.iconst 0, 1) := by decide +kernel
theorem dX4_heardLike_1 : decode cX4_heardLike 1 = .ok (.istore_n 3, 1) := by decide +kernel
theorem dX4_heardLike_2 : decode cX4_heardLike 2 = .ok (.iconst 0, 1) := by decide +kernel
theorem dX4_heardLike_3 : decode cX4_heardLike 3 = .ok (.istore 4, 2) := by decide +kernel
theorem dX4_heardLike_5 : decode cX4_heardLike 5 = .ok (.iload 4, 2) := by decide +kernel
theorem dX4_heardLike_7 : decode cX4_heardLike 7 = .ok (.aload_n 0, 1) := by decide +kernel
theorem dX4_heardLike_8 : decode cX4_heardLike 8 = .ok (.getfield 7, 3) := by decide +kernel
theorem dX4_heardLike_11 : decode cX4_heardLike 11 = .ok (.arraylength, 1) := by decide +kernel
theorem dX4_heardLike_12 : decode cX4_heardLike 12 = .ok (.if_icmp .ge 60, 3) := by decide +kernel
theorem dX4_heardLike_15 : decode cX4_heardLike 15 = .ok (.iload_n 2, 1) := by decide +kernel
theorem dX4_heardLike_16 : decode cX4_heardLike 16 = .ok (.iload 4, 2) := by decide +kernel
theorem dX4_heardLike_18 : decode cX4_heardLike 18 = .ok (.invokestatic 35, 3) := by decide +kernel
theorem dX4_heardLike_21 : decode cX4_heardLike 21 = .ok (.ifCond .eq 45, 3) := by decide +kernel
theorem dX4_heardLike_24 : decode cX4_heardLike 24 = .ok (.aload_n 0, 1) := by decide +kernel
theorem dX4_heardLike_25 : decode cX4_heardLike 25 = .ok (.getfield 7, 3) := by decide +kernel
theorem dX4_heardLike_28 : decode cX4_heardLike 28 = .ok (.iload 4, 2) := by decide +kernel
theorem dX4_heardLike_30 : decode cX4_heardLike 30 = .ok (.iaload, 1) := by decide +kernel
theorem dX4_heardLike_31 : decode cX4_heardLike 31 = .ok (.aload_n 0, 1) := by decide +kernel
theorem dX4_heardLike_32 : decode cX4_heardLike 32 = .ok (.getfield 7, 3) := by decide +kernel
theorem dX4_heardLike_35 : decode cX4_heardLike 35 = .ok (.iload_n 1, 1) := by decide +kernel
theorem dX4_heardLike_36 : decode cX4_heardLike 36 = .ok (.iaload, 1) := by decide +kernel
theorem dX4_heardLike_37 : decode cX4_heardLike 37 = .ok (.if_icmp .ne 29, 3) := by decide +kernel
theorem dX4_heardLike_40 : decode cX4_heardLike 40 = .ok (.aload_n 0, 1) := by decide +kernel
theorem dX4_heardLike_41 : decode cX4_heardLike 41 = .ok (.getfield 13, 3) := by decide +kernel
theorem dX4_heardLike_44 : decode cX4_heardLike 44 = .ok (.iload 4, 2) := by decide +kernel
theorem dX4_heardLike_46 : decode cX4_heardLike 46 = .ok (.iaload, 1) := by decide +kernel
theorem dX4_heardLike_47 : decode cX4_heardLike 47 = .ok (.aload_n 0, 1) := by decide +kernel
theorem dX4_heardLike_48 : decode cX4_heardLike 48 = .ok (.getfield 13, 3) := by decide +kernel
theorem dX4_heardLike_51 : decode cX4_heardLike 51 = .ok (.iload_n 1, 1) := by decide +kernel
theorem dX4_heardLike_52 : decode cX4_heardLike 52 = .ok (.iaload, 1) := by decide +kernel
theorem dX4_heardLike_53 : decode cX4_heardLike 53 = .ok (.if_icmp .ne 13, 3) := by decide +kernel
theorem dX4_heardLike_56 : decode cX4_heardLike 56 = .ok (.iload_n 3, 1) := by decide +kernel
theorem dX4_heardLike_57 : decode cX4_heardLike 57 = .ok (.aload_n 0, 1) := by decide +kernel
theorem dX4_heardLike_58 : decode cX4_heardLike 58 = .ok (.getfield 16, 3) := by decide +kernel
theorem dX4_heardLike_61 : decode cX4_heardLike 61 = .ok (.iload 4, 2) := by decide +kernel
theorem dX4_heardLike_63 : decode cX4_heardLike 63 = .ok (.iaload, 1) := by decide +kernel
theorem dX4_heardLike_64 : decode cX4_heardLike 64 = .ok (.ior, 1) := by decide +kernel
theorem dX4_heardLike_65 : decode cX4_heardLike 65 = .ok (.istore_n 3, 1) := by decide +kernel
theorem dX4_heardLike_66 : decode cX4_heardLike 66 = .ok (.iinc 4 1, 3) := by decide +kernel
theorem dX4_heardLike_69 : decode cX4_heardLike 69 = .ok (.goto (-64), 3) := by decide +kernel
theorem dX4_heardLike_72 : decode cX4_heardLike 72 = .ok (.iload_n 3, 1) := by decide +kernel
theorem dX4_heardLike_73 : decode cX4_heardLike 73 = .ok (.ireturn, 1) := by decide +kernel
theorem dX5_init_0 : decode cX5_init 0 = .ok (.aload_n 0, 1) := by decide +kernel
theorem dX5_init_1 : decode cX5_init 1 = .ok (.invokespecial 3, 3) := by decide +kernel
theorem dX5_init_4 : decode cX5_init 4 = .ok (.aload_n 0, 1) := by decide +kernel
theorem dX5_init_5 : decode cX5_init 5 = .ok (.bipush 120, 2) := by decide +kernel
theorem dX5_init_7 : decode cX5_init 7 = .ok (.newarray .int, 2) := by decide +kernel
theorem dX5_init_9 : decode cX5_init 9 = .ok (.putfield 9, 3) := by decide +kernel
theorem dX5_init_12 : decode cX5_init 12 = .ok (.return_, 1) := by decide +kernel
theorem dX5_addSign_0 : decode cX5_addSign 0 = .ok (.aload_n 0, 1) := by decide +kernel
theorem dX5_addSign_1 : decode cX5_addSign 1 = .ok (.getfield 15, 3) := by decide +kernel
theorem dX5_addSign_4 : decode cX5_addSign 4 = .ok (.ifCond .lt 32, 3) := by decide +kernel
theorem dX5_addSign_7 : decode cX5_addSign 7 = .ok (.aload_n 0, 1) := by decide +kernel
theorem dX5_addSign_8 : decode cX5_addSign 8 = .ok (.getfield 15, 3) := by decide +kernel
theorem dX5_addSign_11 : decode cX5_addSign 11 = .ok (.bipush 120, 2) := by decide +kernel
theorem dX5_addSign_13 : decode cX5_addSign 13 = .ok (.if_icmp .ge 23, 3) := by decide +kernel
theorem dX5_addSign_16 : decode cX5_addSign 16 = .ok (.aload_n 0, 1) := by decide +kernel
theorem dX5_addSign_17 : decode cX5_addSign 17 = .ok (.getfield 9, 3) := by decide +kernel
theorem dX5_addSign_20 : decode cX5_addSign 20 = .ok (.aload_n 0, 1) := by decide +kernel
theorem dX5_addSign_21 : decode cX5_addSign 21 = .ok (.getfield 15, 3) := by decide +kernel
theorem dX5_addSign_24 : decode cX5_addSign 24 = .ok (.iload_n 1, 1) := by decide +kernel
theorem dX5_addSign_25 : decode cX5_addSign 25 = .ok (.iastore, 1) := by decide +kernel
theorem dX5_addSign_26 : decode cX5_addSign 26 = .ok (.aload_n 0, 1) := by decide +kernel
theorem dX5_addSign_27 : decode cX5_addSign 27 = .ok (.dup, 1) := by decide +kernel
theorem dX5_addSign_28 : decode cX5_addSign 28 = .ok (.getfield 15, 3) := by decide +kernel
theorem dX5_addSign_31 : decode cX5_addSign 31 = .ok (.iconst 1, 1) := by decide +kernel
theorem dX5_addSign_32 : decode cX5_addSign 32 = .ok (.iadd, 1) := by decide +kernel
theorem dX5_addSign_33 : decode cX5_addSign 33 = .ok (.putfield 15, 3) := by decide +kernel
theorem dX5_addSign_36 : decode cX5_addSign 36 = .ok (.return_, 1) := by decide +kernel
theorem dX5_signAt_0 : decode cX5_signAt 0 = .ok (.iload_n 1, 1) := by decide +kernel
theorem dX5_signAt_1 : decode cX5_signAt 1 = .ok (.ifCond .lt 20, 3) := by decide +kernel
theorem dX5_signAt_4 : decode cX5_signAt 4 = .ok (.iload_n 1, 1) := by decide +kernel
theorem dX5_signAt_5 : decode cX5_signAt 5 = .ok (.aload_n 0, 1) := by decide +kernel
theorem dX5_signAt_6 : decode cX5_signAt 6 = .ok (.getfield 15, 3) := by decide +kernel
theorem dX5_signAt_9 : decode cX5_signAt 9 = .ok (.if_icmp .ge 12, 3) := by decide +kernel
theorem dX5_signAt_12 : decode cX5_signAt 12 = .ok (.aload_n 0, 1) := by decide +kernel
theorem dX5_signAt_13 : decode cX5_signAt 13 = .ok (.getfield 9, 3) := by decide +kernel
theorem dX5_signAt_16 : decode cX5_signAt 16 = .ok (.iload_n 1, 1) := by decide +kernel
theorem dX5_signAt_17 : decode cX5_signAt 17 = .ok (.iaload, 1) := by decide +kernel
theorem dX5_signAt_18 : decode cX5_signAt 18 = .ok (.goto 4, 3) := by decide +kernel
theorem dX5_signAt_21 : decode cX5_signAt 21 = .ok (.iconst (-1), 1) := by decide +kernel
theorem dX5_signAt_22 : decode cX5_signAt 22 = .ok (.ireturn, 1) := by decide +kernel
theorem dX5_firstError_0 : decode cX5_firstError 0 = .ok (.aload_n 0, 1) := by decide +kernel
theorem dX5_firstError_1 : decode cX5_firstError 1 = .ok (.iconst 0, 1) := by decide +kernel
theorem dX5_firstError_2 : decode cX5_firstError 2 = .ok (.invokevirtual 19, 3) := by decide +kernel
theorem dX5_firstError_5 : decode cX5_firstError 5 = .ok (.bipush 82, 2) := by decide +kernel
theorem dX5_firstError_7 : decode cX5_firstError 7 = .ok (.if_icmp .eq 5, 3) := by decide +kernel
theorem dX5_firstError_10 : decode cX5_firstError 10 = .ok (.iconst 0, 1) := by decide +kernel
theorem dX5_firstError_11 : decode cX5_firstError 11 = .ok (.ireturn, 1) := by decide +kernel
theorem dX5_firstError_12 : decode cX5_firstError 12 = .ok (.iconst 1, 1) := by decide +kernel
theorem dX5_firstError_13 : decode cX5_firstError 13 = .ok (.istore_n 1, 1) := by decide +kernel
theorem dX5_firstError_14 : decode cX5_firstError 14 = .ok (.iload_n 1, 1) := by decide +kernel
theorem dX5_firstError_15 : decode cX5_firstError 15 = .ok (.aload_n 0, 1) := by decide +kernel
theorem dX5_firstError_16 : decode cX5_firstError 16 = .ok (.getfield 15, 3) := by decide +kernel
theorem dX5_firstError_19 : decode cX5_firstError 19 = .ok (.if_icmp .ge 54, 3) := by decide +kernel
theorem dX5_firstError_22 : decode cX5_firstError 22 = .ok (.aload_n 0, 1) := by decide +kernel
theorem dX5_firstError_23 : decode cX5_firstError 23 = .ok (.iload_n 1, 1) := by decide +kernel
theorem dX5_firstError_24 : decode cX5_firstError 24 = .ok (.invokevirtual 23, 3) := by decide +kernel
theorem dX5_firstError_27 : decode cX5_firstError 27 = .ok (.istore_n 2, 1) := by decide +kernel
theorem dX5_firstError_28 : decode cX5_firstError 28 = .ok (.iload_n 2, 1) := by decide +kernel
theorem dX5_firstError_29 : decode cX5_firstError 29 = .ok (.ifCond .ne 5, 3) := by decide +kernel
theorem dX5_firstError_32 : decode cX5_firstError 32 = .ok (.iload_n 1, 1) := by decide +kernel
theorem dX5_firstError_33 : decode cX5_firstError 33 = .ok (.ireturn, 1) := by decide +kernel
theorem dX5_firstError_34 : decode cX5_firstError 34 = .ok (.iconst 1, 1) := by decide +kernel
theorem dX5_firstError_35 : decode cX5_firstError 35 = .ok (.istore_n 3, 1) := by decide +kernel
theorem dX5_firstError_36 : decode cX5_firstError 36 = .ok (.iload_n 3, 1) := by decide +kernel
theorem dX5_firstError_37 : decode cX5_firstError 37 = .ok (.iload_n 2, 1) := by decide +kernel
theorem dX5_firstError_38 : decode cX5_firstError 38 = .ok (.if_icmp .gt 22, 3) := by decide +kernel
theorem dX5_firstError_41 : decode cX5_firstError 41 = .ok (.aload_n 0, 1) := by decide +kernel
theorem dX5_firstError_42 : decode cX5_firstError 42 = .ok (.iload_n 1, 1) := by decide +kernel
theorem dX5_firstError_43 : decode cX5_firstError 43 = .ok (.iload_n 3, 1) := by decide +kernel
theorem dX5_firstError_44 : decode cX5_firstError 44 = .ok (.invokevirtual 26, 3) := by decide +kernel
theorem dX5_firstError_47 : decode cX5_firstError 47 = .ok (.ifCond .ne 7, 3) := by decide +kernel
theorem dX5_firstError_50 : decode cX5_firstError 50 = .ok (.iload_n 1, 1) := by decide +kernel
theorem dX5_firstError_51 : decode cX5_firstError 51 = .ok (.iload_n 3, 1) := by decide +kernel
theorem dX5_firstError_52 : decode cX5_firstError 52 = .ok (.iadd, 1) := by decide +kernel
theorem dX5_firstError_53 : decode cX5_firstError 53 = .ok (.ireturn, 1) := by decide +kernel
theorem dX5_firstError_54 : decode cX5_firstError 54 = .ok (.iinc 3 1, 3) := by decide +kernel
theorem dX5_firstError_57 : decode cX5_firstError 57 = .ok (.goto (-21), 3) := by decide +kernel
theorem dX5_firstError_60 : decode cX5_firstError 60 = .ok (.iload_n 1, 1) := by decide +kernel
theorem dX5_firstError_61 : decode cX5_firstError 61 = .ok (.iconst 1, 1) := by decide +kernel
theorem dX5_firstError_62 : decode cX5_firstError 62 = .ok (.aload_n 0, 1) := by decide +kernel
theorem dX5_firstError_63 : decode cX5_firstError 63 = .ok (.iload_n 1, 1) := by decide +kernel
theorem dX5_firstError_64 : decode cX5_firstError 64 = .ok (.invokevirtual 23, 3) := by decide +kernel
theorem dX5_firstError_67 : decode cX5_firstError 67 = .ok (.iadd, 1) := by decide +kernel
theorem dX5_firstError_68 : decode cX5_firstError 68 = .ok (.iadd, 1) := by decide +kernel
theorem dX5_firstError_69 : decode cX5_firstError 69 = .ok (.istore_n 1, 1) := by decide +kernel
theorem dX5_firstError_70 : decode cX5_firstError 70 = .ok (.goto (-56), 3) := by decide +kernel
theorem dX5_firstError_73 : decode cX5_firstError 73 = .ok (.iconst (-1), 1) := by decide +kernel
theorem dX5_firstError_74 : decode cX5_firstError 74 = .ok (.ireturn, 1) := by decide +kernel
theorem dX5_digitsBehind_0 : decode cX5_digitsBehind 0 = .ok (.aload_n 0, 1) := by decide +kernel
theorem dX5_digitsBehind_1 : decode cX5_digitsBehind 1 = .ok (.iload_n 1, 1) := by decide +kernel
theorem dX5_digitsBehind_2 : decode cX5_digitsBehind 2 = .ok (.invokevirtual 19, 3) := by decide +kernel
theorem dX5_digitsBehind_5 : decode cX5_digitsBehind 5 = .ok (.tableswitch 113 98 120 #[107, 111, 113, 113, 113, 107, 113, 113, 113, 113, 113, 107, 113, 113, 109, 113, 113, 107, 109, 113, 113, 113, 109], 107) := by decide +kernel
theorem dX5_digitsBehind_112 : decode cX5_digitsBehind 112 = .ok (.iconst 1, 1) := by decide +kernel
theorem dX5_digitsBehind_113 : decode cX5_digitsBehind 113 = .ok (.ireturn, 1) := by decide +kernel
theorem dX5_digitsBehind_114 : decode cX5_digitsBehind 114 = .ok (.iconst 2, 1) := by decide +kernel
theorem dX5_digitsBehind_115 : decode cX5_digitsBehind 115 = .ok (.ireturn, 1) := by decide +kernel
theorem dX5_digitsBehind_116 : decode cX5_digitsBehind 116 = .ok (.iconst 3, 1) := by decide +kernel
theorem dX5_digitsBehind_117 : decode cX5_digitsBehind 117 = .ok (.ireturn, 1) := by decide +kernel
theorem dX5_digitsBehind_118 : decode cX5_digitsBehind 118 = .ok (.iconst 0, 1) := by decide +kernel
theorem dX5_digitsBehind_119 : decode cX5_digitsBehind 119 = .ok (.ireturn, 1) := by decide +kernel
theorem dX5_isAllowed_0 : decode cX5_isAllowed 0 = .ok (.aload_n 0, 1) := by decide +kernel
theorem dX5_isAllowed_1 : decode cX5_isAllowed 1 = .ok (.iload_n 1, 1) := by decide +kernel
theorem dX5_isAllowed_2 : decode cX5_isAllowed 2 = .ok (.iload_n 2, 1) := by decide +kernel
theorem dX5_isAllowed_3 : decode cX5_isAllowed 3 = .ok (.iadd, 1) := by decide +kernel
theorem dX5_isAllowed_4 : decode cX5_isAllowed 4 = .ok (.invokevirtual 19, 3) := by decide +kernel
theorem dX5_isAllowed_7 : decode cX5_isAllowed 7 = .ok (.bipush 48, 2) := by decide +kernel
theorem dX5_isAllowed_9 : decode cX5_isAllowed 9 = .ok (.isub, 1) := by decide +kernel
theorem dX5_isAllowed_10 : decode cX5_isAllowed 10 = .ok (.istore_n 3, 1) := by decide +kernel
theorem dX5_isAllowed_11 : decode cX5_isAllowed 11 = .ok (.iload_n 3, 1) := by decide +kernel
theorem dX5_isAllowed_12 : decode cX5_isAllowed 12 = .ok (.ifCond .lt 9, 3) := by decide +kernel
theorem dX5_isAllowed_15 : decode cX5_isAllowed 15 = .ok (.iload_n 3, 1) := by decide +kernel
theorem dX5_isAllowed_16 : decode cX5_isAllowed 16 = .ok (.bipush 9, 2) := by decide +kernel
theorem dX5_isAllowed_18 : decode cX5_isAllowed 18 = .ok (.if_icmp .le 5, 3) := by decide +kernel
theorem dX5_isAllowed_21 : decode cX5_isAllowed 21 = .ok (.iconst 0, 1) := by decide +kernel
theorem dX5_isAllowed_22 : decode cX5_isAllowed 22 = .ok (.ireturn, 1) := by decide +kernel
theorem dX5_isAllowed_23 : decode cX5_isAllowed 23 = .ok (.aload_n 0, 1) := by decide +kernel
theorem dX5_isAllowed_24 : decode cX5_isAllowed 24 = .ok (.iload_n 1, 1) := by decide +kernel
theorem dX5_isAllowed_25 : decode cX5_isAllowed 25 = .ok (.invokevirtual 19, 3) := by decide +kernel
theorem dX5_isAllowed_28 : decode cX5_isAllowed 28 = .ok (.lookupswitch 103 #[(99, 46), (109, 44), (112, 79), (116, 91)], 44) := by decide +kernel
theorem dX5_isAllowed_72 : decode cX5_isAllowed 72 = .ok (.iconst 1, 1) := by decide +kernel
theorem dX5_isAllowed_73 : decode cX5_isAllowed 73 = .ok (.ireturn, 1) := by decide +kernel
theorem dX5_isAllowed_74 : decode cX5_isAllowed 74 = .ok (.iload_n 2, 1) := by decide +kernel
theorem dX5_isAllowed_75 : decode cX5_isAllowed 75 = .ok (.iconst 1, 1) := by decide +kernel
theorem dX5_isAllowed_76 : decode cX5_isAllowed 76 = .ok (.if_icmp .ne 17, 3) := by decide +kernel
theorem dX5_isAllowed_79 : decode cX5_isAllowed 79 = .ok (.iload_n 3, 1) := by decide +kernel
theorem dX5_isAllowed_80 : decode cX5_isAllowed 80 = .ok (.bipush 6, 2) := by decide +kernel
theorem dX5_isAllowed_82 : decode cX5_isAllowed 82 = .ok (.if_icmp .ge 7, 3) := by decide +kernel
theorem dX5_isAllowed_85 : decode cX5_isAllowed 85 = .ok (.iconst 1, 1) := by decide +kernel
theorem dX5_isAllowed_86 : decode cX5_isAllowed 86 = .ok (.goto 20, 3) := by decide +kernel
theorem dX5_isAllowed_89 : decode cX5_isAllowed 89 = .ok (.iconst 0, 1) := by decide +kernel
theorem dX5_isAllowed_90 : decode cX5_isAllowed 90 = .ok (.goto 16, 3) := by decide +kernel
theorem dX5_isAllowed_93 : decode cX5_isAllowed 93 = .ok (.aload_n 0, 1) := by decide +kernel
theorem dX5_isAllowed_94 : decode cX5_isAllowed 94 = .ok (.iload_n 1, 1) := by decide +kernel
theorem dX5_isAllowed_95 : decode cX5_isAllowed 95 = .ok (.iconst 2, 1) := by decide +kernel
theorem dX5_isAllowed_96 : decode cX5_isAllowed 96 = .ok (.iadd, 1) := by decide +kernel
theorem dX5_isAllowed_97 : decode cX5_isAllowed 97 = .ok (.iload_n 2, 1) := by decide +kernel
theorem dX5_isAllowed_98 : decode cX5_isAllowed 98 = .ok (.iconst 1, 1) := by decide +kernel
theorem dX5_isAllowed_99 : decode cX5_isAllowed 99 = .ok (.isub, 1) := by decide +kernel
theorem dX5_isAllowed_100 : decode cX5_isAllowed 100 = .ok (.iconst 1, 1) := by decide +kernel
theorem dX5_isAllowed_101 : decode cX5_isAllowed 101 = .ok (.bipush 63, 2) := by decide +kernel
theorem dX5_isAllowed_103 : decode cX5_isAllowed 103 = .ok (.invokevirtual 30, 3) := by decide +kernel
theorem dX5_isAllowed_106 : decode cX5_isAllowed 106 = .ok (.ireturn, 1) := by decide +kernel
theorem dX5_isAllowed_107 : decode cX5_isAllowed 107 = .ok (.aload_n 0, 1) := by decide +kernel
theorem dX5_isAllowed_108 : decode cX5_isAllowed 108 = .ok (.iload_n 1, 1) := by decide +kernel
theorem dX5_isAllowed_109 : decode cX5_isAllowed 109 = .ok (.iconst 1, 1) := by decide +kernel
theorem dX5_isAllowed_110 : decode cX5_isAllowed 110 = .ok (.iadd, 1) := by decide +kernel
theorem dX5_isAllowed_111 : decode cX5_isAllowed 111 = .ok (.iload_n 2, 1) := by decide +kernel
theorem dX5_isAllowed_112 : decode cX5_isAllowed 112 = .ok (.iconst 0, 1) := by decide +kernel
theorem dX5_isAllowed_113 : decode cX5_isAllowed 113 = .ok (.bipush 40, 2) := by decide +kernel
theorem dX5_isAllowed_115 : decode cX5_isAllowed 115 = .ok (.invokevirtual 30, 3) := by decide +kernel
theorem dX5_isAllowed_118 : decode cX5_isAllowed 118 = .ok (.ireturn, 1) := by decide +kernel
theorem dX5_isAllowed_119 : decode cX5_isAllowed 119 = .ok (.aload_n 0, 1) := by decide +kernel
theorem dX5_isAllowed_120 : decode cX5_isAllowed 120 = .ok (.iload_n 1, 1) := by decide +kernel
theorem dX5_isAllowed_121 : decode cX5_isAllowed 121 = .ok (.iconst 1, 1) := by decide +kernel
theorem dX5_isAllowed_122 : decode cX5_isAllowed 122 = .ok (.iadd, 1) := by decide +kernel
theorem dX5_isAllowed_123 : decode cX5_isAllowed 123 = .ok (.iload_n 2, 1) := by decide +kernel
theorem dX5_isAllowed_124 : decode cX5_isAllowed 124 = .ok (.iconst 1, 1) := by decide +kernel
theorem dX5_isAllowed_125 : decode cX5_isAllowed 125 = .ok (.bipush 60, 2) := by decide +kernel
theorem dX5_isAllowed_127 : decode cX5_isAllowed 127 = .ok (.invokevirtual 30, 3) := by decide +kernel
theorem dX5_isAllowed_130 : decode cX5_isAllowed 130 = .ok (.ireturn, 1) := by decide +kernel
theorem dX5_isAllowed_131 : decode cX5_isAllowed 131 = .ok (.iload_n 3, 1) := by decide +kernel
theorem dX5_isAllowed_132 : decode cX5_isAllowed 132 = .ok (.bipush 6, 2) := by decide +kernel
theorem dX5_isAllowed_134 : decode cX5_isAllowed 134 = .ok (.if_icmp .ge 7, 3) := by decide +kernel
theorem dX5_isAllowed_137 : decode cX5_isAllowed 137 = .ok (.iconst 1, 1) := by decide +kernel
theorem dX5_isAllowed_138 : decode cX5_isAllowed 138 = .ok (.goto 4, 3) := by decide +kernel
theorem dX5_isAllowed_141 : decode cX5_isAllowed 141 = .ok (.iconst 0, 1) := by decide +kernel
theorem dX5_isAllowed_142 : decode cX5_isAllowed 142 = .ok (.ireturn, 1) := by decide +kernel
theorem dX5_beginsNumber_0 : decode cX5_beginsNumber 0 = .ok (.aload_n 0, 1) := by decide +kernel
theorem dX5_beginsNumber_1 : decode cX5_beginsNumber 1 = .ok (.iload_n 1, 1) := by decide +kernel
theorem dX5_beginsNumber_2 : decode cX5_beginsNumber 2 = .ok (.invokevirtual 19, 3) := by decide +kernel
theorem dX5_beginsNumber_5 : decode cX5_beginsNumber 5 = .ok (.bipush 48, 2) := by decide +kernel
theorem dX5_beginsNumber_7 : decode cX5_beginsNumber 7 = .ok (.isub, 1) := by decide +kernel
theorem dX5_beginsNumber_8 : decode cX5_beginsNumber 8 = .ok (.istore 5, 2) := by decide +kernel
theorem dX5_beginsNumber_10 : decode cX5_beginsNumber 10 = .ok (.iload_n 2, 1) := by decide +kernel
theorem dX5_beginsNumber_11 : decode cX5_beginsNumber 11 = .ok (.iconst 1, 1) := by decide +kernel
theorem dX5_beginsNumber_12 : decode cX5_beginsNumber 12 = .ok (.if_icmp .ne 28, 3) := by decide +kernel
theorem dX5_beginsNumber_15 : decode cX5_beginsNumber 15 = .ok (.iload 5, 2) := by decide +kernel
theorem dX5_beginsNumber_17 : decode cX5_beginsNumber 17 = .ok (.iload_n 3, 1) := by decide +kernel
theorem dX5_beginsNumber_18 : decode cX5_beginsNumber 18 = .ok (.bipush 10, 2) := by decide +kernel
theorem dX5_beginsNumber_20 : decode cX5_beginsNumber 20 = .ok (.idiv, 1) := by decide +kernel
theorem dX5_beginsNumber_21 : decode cX5_beginsNumber 21 = .ok (.if_icmp .lt 17, 3) := by decide +kernel
theorem dX5_beginsNumber_24 : decode cX5_beginsNumber 24 = .ok (.iload 5, 2) := by decide +kernel
theorem dX5_beginsNumber_26 : decode cX5_beginsNumber 26 = .ok (.iload 4, 2) := by decide +kernel
theorem dX5_beginsNumber_28 : decode cX5_beginsNumber 28 = .ok (.bipush 10, 2) := by decide +kernel
theorem dX5_beginsNumber_30 : decode cX5_beginsNumber 30 = .ok (.idiv, 1) := by decide +kernel
theorem dX5_beginsNumber_31 : decode cX5_beginsNumber 31 = .ok (.if_icmp .gt 7, 3) := by decide +kernel
theorem dX5_beginsNumber_34 : decode cX5_beginsNumber 34 = .ok (.iconst 1, 1) := by decide +kernel
theorem dX5_beginsNumber_35 : decode cX5_beginsNumber 35 = .ok (.goto 4, 3) := by decide +kernel
theorem dX5_beginsNumber_38 : decode cX5_beginsNumber 38 = .ok (.iconst 0, 1) := by decide +kernel
theorem dX5_beginsNumber_39 : decode cX5_beginsNumber 39 = .ok (.ireturn, 1) := by decide +kernel
theorem dX5_beginsNumber_40 : decode cX5_beginsNumber 40 = .ok (.aload_n 0, 1) := by decide +kernel
theorem dX5_beginsNumber_41 : decode cX5_beginsNumber 41 = .ok (.iload_n 1, 1) := by decide +kernel
theorem dX5_beginsNumber_42 : decode cX5_beginsNumber 42 = .ok (.invokevirtual 34, 3) := by decide +kernel
theorem dX5_beginsNumber_45 : decode cX5_beginsNumber 45 = .ok (.istore 6, 2) := by decide +kernel
theorem dX5_beginsNumber_47 : decode cX5_beginsNumber 47 = .ok (.iload 6, 2) := by decide +kernel
theorem dX5_beginsNumber_49 : decode cX5_beginsNumber 49 = .ok (.iload_n 3, 1) := by decide +kernel
theorem dX5_beginsNumber_50 : decode cX5_beginsNumber 50 = .ok (.if_icmp .lt 14, 3) := by decide +kernel
theorem dX5_beginsNumber_53 : decode cX5_beginsNumber 53 = .ok (.iload 6, 2) := by decide +kernel
theorem dX5_beginsNumber_55 : decode cX5_beginsNumber 55 = .ok (.iload 4, 2) := by decide +kernel
theorem dX5_beginsNumber_57 : decode cX5_beginsNumber 57 = .ok (.if_icmp .gt 7, 3) := by decide +kernel
theorem dX5_beginsNumber_60 : decode cX5_beginsNumber 60 = .ok (.iconst 1, 1) := by decide +kernel
theorem dX5_beginsNumber_61 : decode cX5_beginsNumber 61 = .ok (.goto 4, 3) := by decide +kernel
theorem dX5_beginsNumber_64 : decode cX5_beginsNumber 64 = .ok (.iconst 0, 1) := by decide +kernel
theorem dX5_beginsNumber_65 : decode cX5_beginsNumber 65 = .ok (.ireturn, 1) := by decide +kernel
theorem dX5_twoDigits_0 : decode cX5_twoDigits 0 = .ok (.aload_n 0, 1) := by decide +kernel
theorem dX5_twoDigits_1 : decode cX5_twoDigits 1 = .ok (.iload_n 1, 1) := by decide +kernel
theorem dX5_twoDigits_2 : decode cX5_twoDigits 2 = .ok (.invokevirtual 19, 3) := by decide +kernel
theorem dX5_twoDigits_5 : decode cX5_twoDigits 5 = .ok (.bipush 48, 2) := by decide +kernel
theorem dX5_twoDigits_7 : decode cX5_twoDigits 7 = .ok (.isub, 1) := by decide +kernel
theorem dX5_twoDigits_8 : decode cX5_twoDigits 8 = .ok (.bipush 10, 2) := by decide +kernel
theorem dX5_twoDigits_10 : decode cX5_twoDigits 10 = .ok (.imul, 1) := by decide +kernel
theorem dX5_twoDigits_11 : decode cX5_twoDigits 11 = .ok (.aload_n 0, 1) := by decide +kernel
theorem dX5_twoDigits_12 : decode cX5_twoDigits 12 = .ok (.iload_n 1, 1) := by decide +kernel
theorem dX5_twoDigits_13 : decode cX5_twoDigits 13 = .ok (.iconst 1, 1) := by decide +kernel
theorem dX5_twoDigits_14 : decode cX5_twoDigits 14 = .ok (.iadd, 1) := by decide +kernel
theorem dX5_twoDigits_15 : decode cX5_twoDigits 15 = .ok (.invokevirtual 19, 3) := by decide +kernel
theorem dX5_twoDigits_18 : decode cX5_twoDigits 18 = .ok (.iadd, 1) := by decide +kernel
theorem dX5_twoDigits_19 : decode cX5_twoDigits 19 = .ok (.bipush 48, 2) := by decide +kernel
theorem dX5_twoDigits_21 : decode cX5_twoDigits 21 = .ok (.isub, 1) := by decide +kernel
theorem dX5_twoDigits_22 : decode cX5_twoDigits 22 = .ok (.ireturn, 1) := by decide +kernel
theorem dX5_firstNumber_0 : decode cX5_firstNumber 0 = .ok (.aload_n 0, 1) := by decide +kernel
theorem dX5_firstNumber_1 : decode cX5_firstNumber 1 = .ok (.iload_n 1, 1) := by decide +kernel
theorem dX5_firstNumber_2 : decode cX5_firstNumber 2 = .ok (.invokevirtual 19, 3) := by decide +kernel
theorem dX5_firstNumber_5 : decode cX5_firstNumber 5 = .ok (.istore_n 2, 1) := by decide +kernel
theorem dX5_firstNumber_6 : decode cX5_firstNumber 6 = .ok (.iload_n 2, 1) := by decide +kernel
theorem dX5_firstNumber_7 : decode cX5_firstNumber 7 = .ok (.bipush 112, 2) := by decide +kernel
theorem dX5_firstNumber_9 : decode cX5_firstNumber 9 = .ok (.if_icmp .eq 9, 3) := by decide +kernel
theorem dX5_firstNumber_12 : decode cX5_firstNumber 12 = .ok (.iload_n 2, 1) := by decide +kernel
theorem dX5_firstNumber_13 : decode cX5_firstNumber 13 = .ok (.bipush 116, 2) := by decide +kernel
theorem dX5_firstNumber_15 : decode cX5_firstNumber 15 = .ok (.if_icmp .ne 13, 3) := by decide +kernel
theorem dX5_firstNumber_18 : decode cX5_firstNumber 18 = .ok (.aload_n 0, 1) := by decide +kernel
theorem dX5_firstNumber_19 : decode cX5_firstNumber 19 = .ok (.iload_n 1, 1) := by decide +kernel
theorem dX5_firstNumber_20 : decode cX5_firstNumber 20 = .ok (.iconst 1, 1) := by decide +kernel
theorem dX5_firstNumber_21 : decode cX5_firstNumber 21 = .ok (.iadd, 1) := by decide +kernel
theorem dX5_firstNumber_22 : decode cX5_firstNumber 22 = .ok (.invokevirtual 34, 3) := by decide +kernel
theorem dX5_firstNumber_25 : decode cX5_firstNumber 25 = .ok (.goto 13, 3) := by decide +kernel
theorem dX5_firstNumber_28 : decode cX5_firstNumber 28 = .ok (.aload_n 0, 1) := by decide +kernel
theorem dX5_firstNumber_29 : decode cX5_firstNumber 29 = .ok (.iload_n 1, 1) := by decide +kernel
theorem dX5_firstNumber_30 : decode cX5_firstNumber 30 = .ok (.iconst 1, 1) := by decide +kernel
theorem dX5_firstNumber_31 : decode cX5_firstNumber 31 = .ok (.iadd, 1) := by decide +kernel
theorem dX5_firstNumber_32 : decode cX5_firstNumber 32 = .ok (.invokevirtual 19, 3) := by decide +kernel
theorem dX5_firstNumber_35 : decode cX5_firstNumber 35 = .ok (.bipush 48, 2) := by decide +kernel
theorem dX5_firstNumber_37 : decode cX5_firstNumber 37 = .ok (.isub, 1) := by decide +kernel
theorem dX5_firstNumber_38 : decode cX5_firstNumber 38 = .ok (.ireturn, 1) := by decide +kernel
theorem dX5_secondNumber_0 : decode cX5_secondNumber 0 = .ok (.aload_n 0, 1) := by decide +kernel
theorem dX5_secondNumber_1 : decode cX5_secondNumber 1 = .ok (.iload_n 1, 1) := by decide +kernel
theorem dX5_secondNumber_2 : decode cX5_secondNumber 2 = .ok (.invokevirtual 19, 3) := by decide +kernel
theorem dX5_secondNumber_5 : decode cX5_secondNumber 5 = .ok (.bipush 99, 2) := by decide +kernel
theorem dX5_secondNumber_7 : decode cX5_secondNumber 7 = .ok (.if_icmp .ne 13, 3) := by decide +kernel
theorem dX5_secondNumber_10 : decode cX5_secondNumber 10 = .ok (.aload_n 0, 1) := by decide +kernel
theorem dX5_secondNumber_11 : decode cX5_secondNumber 11 = .ok (.iload_n 1, 1) := by decide +kernel
theorem dX5_secondNumber_12 : decode cX5_secondNumber 12 = .ok (.iconst 2, 1) := by decide +kernel
theorem dX5_secondNumber_13 : decode cX5_secondNumber 13 = .ok (.iadd, 1) := by decide +kernel
theorem dX5_secondNumber_14 : decode cX5_secondNumber 14 = .ok (.invokevirtual 34, 3) := by decide +kernel
theorem dX5_secondNumber_17 : decode cX5_secondNumber 17 = .ok (.goto 13, 3) := by decide +kernel
theorem dX5_secondNumber_20 : decode cX5_secondNumber 20 = .ok (.aload_n 0, 1) := by decide +kernel
theorem dX5_secondNumber_21 : decode cX5_secondNumber 21 = .ok (.iload_n 1, 1) := by decide +kernel
theorem dX5_secondNumber_22 : decode cX5_secondNumber 22 = .ok (.iconst 2, 1) := by decide +kernel
theorem dX5_secondNumber_23 : decode cX5_secondNumber 23 = .ok (.iadd, 1) := by decide +kernel
theorem dX5_secondNumber_24 : decode cX5_secondNumber 24 = .ok (.invokevirtual 19, 3) := by decide +kernel
theorem dX5_secondNumber_27 : decode cX5_secondNumber 27 = .ok (.bipush 48, 2) := by decide +kernel
theorem dX5_secondNumber_29 : decode cX5_secondNumber 29 = .ok (.isub, 1) := by decide +kernel
theorem dX5_secondNumber_30 : decode cX5_secondNumber 30 = .ok (.ireturn, 1) := by decide +kernel
theorem dX6_init_0 : decode cX6_init 0 = .ok (.aload_n 0, 1) := by decide +kernel
theorem dX6_init_1 : decode cX6_init 1 = .ok (.invokespecial 1, 3) := by decide +kernel
theorem dX6_init_4 : decode cX6_init 4 = .ok (.aload_n 0, 1) := by decide +kernel
theorem dX6_init_5 : decode cX6_init 5 = .ok (.new 7, 3) := by decide +kernel
theorem dX6_init_8 : decode cX6_init 8 = .ok (.dup, 1) := by decide +kernel
theorem dX6_init_9 : decode cX6_init 9 = .ok (.invokespecial 9, 3) := by decide +kernel
theorem dX6_init_12 : decode cX6_init 12 = .ok (.putfield 10, 3) := by decide +kernel
theorem dX6_init_15 : decode cX6_init 15 = .ok (.aload_n 0, 1) := by decide +kernel
theorem dX6_init_16 : decode cX6_init 16 = .ok (.new 16, 3) := by decide +kernel
theorem dX6_init_19 : decode cX6_init 19 = .ok (.dup, 1) := by decide +kernel
theorem dX6_init_20 : decode cX6_init 20 = .ok (.invokespecial 18, 3) := by decide +kernel
theorem dX6_init_23 : decode cX6_init 23 = .ok (.putfield 19, 3) := by decide +kernel
theorem dX6_init_26 : decode cX6_init 26 = .ok (.aload_n 0, 1) := by decide +kernel
theorem dX6_init_27 : decode cX6_init 27 = .ok (.new 16, 3) := by decide +kernel
theorem dX6_init_30 : decode cX6_init 30 = .ok (.dup, 1) := by decide +kernel
theorem dX6_init_31 : decode cX6_init 31 = .ok (.invokespecial 18, 3) := by decide +kernel
theorem dX6_init_34 : decode cX6_init 34 = .ok (.putfield 23, 3) := by decide +kernel
theorem dX6_init_37 : decode cX6_init 37 = .ok (.aload_n 0, 1) := by decide +kernel
theorem dX6_init_38 : decode cX6_init 38 = .ok (.new 16, 3) := by decide +kernel
theorem dX6_init_41 : decode cX6_init 41 = .ok (.dup, 1) := by decide +kernel
theorem dX6_init_42 : decode cX6_init 42 = .ok (.invokespecial 18, 3) := by decide +kernel
theorem dX6_init_45 : decode cX6_init 45 = .ok (.putfield 26, 3) := by decide +kernel
theorem dX6_init_48 : decode cX6_init 48 = .ok (.aload_n 0, 1) := by decide +kernel
theorem dX6_init_49 : decode cX6_init 49 = .ok (.new 29, 3) := by decide +kernel
theorem dX6_init_52 : decode cX6_init 52 = .ok (.dup, 1) := by decide +kernel
theorem dX6_init_53 : decode cX6_init 53 = .ok (.invokespecial 31, 3) := by decide +kernel
theorem dX6_init_56 : decode cX6_init 56 = .ok (.putfield 32, 3) := by decide +kernel
theorem dX6_init_59 : decode cX6_init 59 = .ok (.aload_n 0, 1) := by decide +kernel
theorem dX6_init_60 : decode cX6_init 60 = .ok (.iconst 2, 1) := by decide +kernel
theorem dX6_init_61 : decode cX6_init 61 = .ok (.anewarray 16, 3) := by decide +kernel
theorem dX6_init_64 : decode cX6_init 64 = .ok (.putfield 36, 3) := by decide +kernel
theorem dX6_init_67 : decode cX6_init 67 = .ok (.iconst 0, 1) := by decide +kernel
theorem dX6_init_68 : decode cX6_init 68 = .ok (.istore_n 1, 1) := by decide +kernel
theorem dX6_init_69 : decode cX6_init 69 = .ok (.iload_n 1, 1) := by decide +kernel
theorem dX6_init_70 : decode cX6_init 70 = .ok (.iconst 2, 1) := by decide +kernel
theorem dX6_init_71 : decode cX6_init 71 = .ok (.if_icmp .ge 22, 3) := by decide +kernel
theorem dX6_init_74 : decode cX6_init 74 = .ok (.aload_n 0, 1) := by decide +kernel
end
section
theorem dX6_init_75 : decode cX6_init 75 = .ok (.getfield 36, 3) := by decide +kernel
theorem dX6_init_78 : decode cX6_init 78 = .ok (.iload_n 1, 1) := by decide +kernel
theorem dX6_init_79 : decode cX6_init 79 = .ok (.new 16, 3) := by decide +kernel
theorem dX6_init_82 : decode cX6_init 82 = .ok (.dup, 1) := by decide +kernel
theorem dX6_init_83 : decode cX6_init 83 = .ok (.invokespecial 18, 3) := by decide +kernel
theorem dX6_init_86 : decode cX6_init 86 = .ok (.aastore, 1) := by decide +kernel
theorem dX6_init_87 : decode cX6_init 87 = .ok (.iinc 1 1, 3) := by decide +kernel
theorem dX6_init_90 : decode cX6_init 90 = .ok (.goto (-21), 3) := by decide +kernel
theorem dX6_init_93 : decode cX6_init 93 = .ok (.aload_n 0, 1) := by decide +kernel
theorem dX6_init_94 : decode cX6_init 94 = .ok (.iconst 2, 1) := by decide +kernel
theorem dX6_init_95 : decode cX6_init 95 = .ok (.newarray .boolean, 2) := by decide +kernel
theorem dX6_init_97 : decode cX6_init 97 = .ok (.putfield 40, 3) := by decide +kernel
theorem dX6_init_100 : decode cX6_init 100 = .ok (.return_, 1) := by decide +kernel
theorem dX6_append_0 : decode cX6_append 0 = .ok (.iload_n 1, 1) := by decide +kernel
theorem dX6_append_1 : decode cX6_append 1 = .ok (.ifCond .lt 10, 3) := by decide +kernel
theorem dX6_append_4 : decode cX6_append 4 = .ok (.iload_n 1, 1) := by decide +kernel
theorem dX6_append_5 : decode cX6_append 5 = .ok (.sipush 255, 3) := by decide +kernel
theorem dX6_append_8 : decode cX6_append 8 = .ok (.if_icmp .le 13, 3) := by decide +kernel
theorem dX6_append_11 : decode cX6_append 11 = .ok (.new 44, 3) := by decide +kernel
theorem dX6_append_14 : decode cX6_append 14 = .ok (.dup, 1) := by decide +kernel
theorem dX6_append_15 : decode cX6_append 15 = .ok (.ldc 46, 2) := by decide +kernel
theorem dX6_append_17 : decode cX6_append 17 = .ok (.invokespecial 48, 3) := by decide +kernel
theorem dX6_append_20 : decode cX6_append 20 = .ok (.athrow, 1) := by decide +kernel
theorem dX6_append_21 : decode cX6_append 21 = .ok (.aload_n 0, 1) := by decide +kernel
theorem dX6_append_22 : decode cX6_append 22 = .ok (.getfield 10, 3) := by decide +kernel
theorem dX6_append_25 : decode cX6_append 25 = .ok (.getfield 51, 3) := by decide +kernel
theorem dX6_append_28 : decode cX6_append 28 = .ok (.bipush 120, 2) := by decide +kernel
theorem dX6_append_30 : decode cX6_append 30 = .ok (.if_icmp .lt 13, 3) := by decide +kernel
theorem dX6_append_33 : decode cX6_append 33 = .ok (.new 55, 3) := by decide +kernel
theorem dX6_append_36 : decode cX6_append 36 = .ok (.dup, 1) := by decide +kernel
theorem dX6_append_37 : decode cX6_append 37 = .ok (.ldc 57, 2) := by decide +kernel
theorem dX6_append_39 : decode cX6_append 39 = .ok (.invokespecial 59, 3) := by decide +kernel
theorem dX6_append_42 : decode cX6_append 42 = .ok (.athrow, 1) := by decide +kernel
theorem dX6_append_43 : decode cX6_append 43 = .ok (.aload_n 0, 1) := by decide +kernel
theorem dX6_append_44 : decode cX6_append 44 = .ok (.getfield 10, 3) := by decide +kernel
theorem dX6_append_47 : decode cX6_append 47 = .ok (.iload_n 1, 1) := by decide +kernel
theorem dX6_append_48 : decode cX6_append 48 = .ok (.invokevirtual 60, 3) := by decide +kernel
theorem dX6_append_51 : decode cX6_append 51 = .ok (.aload_n 0, 1) := by decide +kernel
theorem dX6_append_52 : decode cX6_append 52 = .ok (.getfield 10, 3) := by decide +kernel
theorem dX6_append_55 : decode cX6_append 55 = .ok (.getfield 51, 3) := by decide +kernel
theorem dX6_append_58 : decode cX6_append 58 = .ok (.ireturn, 1) := by decide +kernel
theorem dX6_clearText_0 : decode cX6_clearText 0 = .ok (.aload_n 0, 1) := by decide +kernel
theorem dX6_clearText_1 : decode cX6_clearText 1 = .ok (.getfield 10, 3) := by decide +kernel
theorem dX6_clearText_4 : decode cX6_clearText 4 = .ok (.getfield 51, 3) := by decide +kernel
theorem dX6_clearText_7 : decode cX6_clearText 7 = .ok (.istore_n 1, 1) := by decide +kernel
theorem dX6_clearText_8 : decode cX6_clearText 8 = .ok (.aload_n 0, 1) := by decide +kernel
theorem dX6_clearText_9 : decode cX6_clearText 9 = .ok (.getfield 10, 3) := by decide +kernel
theorem dX6_clearText_12 : decode cX6_clearText 12 = .ok (.iconst 0, 1) := by decide +kernel
theorem dX6_clearText_13 : decode cX6_clearText 13 = .ok (.putfield 51, 3) := by decide +kernel
theorem dX6_clearText_16 : decode cX6_clearText 16 = .ok (.iload_n 1, 1) := by decide +kernel
theorem dX6_clearText_17 : decode cX6_clearText 17 = .ok (.ireturn, 1) := by decide +kernel
theorem dX6_errorPosition_0 : decode cX6_errorPosition 0 = .ok (.aload_n 0, 1) := by decide +kernel
theorem dX6_errorPosition_1 : decode cX6_errorPosition 1 = .ok (.getfield 10, 3) := by decide +kernel
theorem dX6_errorPosition_4 : decode cX6_errorPosition 4 = .ok (.invokevirtual 64, 3) := by decide +kernel
theorem dX6_errorPosition_7 : decode cX6_errorPosition 7 = .ok (.ireturn, 1) := by decide +kernel
theorem dX6_load_0 : decode cX6_load 0 = .ok (.aload_n 0, 1) := by decide +kernel
theorem dX6_load_1 : decode cX6_load 1 = .ok (.getfield 10, 3) := by decide +kernel
theorem dX6_load_4 : decode cX6_load 4 = .ok (.invokevirtual 64, 3) := by decide +kernel
theorem dX6_load_7 : decode cX6_load 7 = .ok (.iconst (-1), 1) := by decide +kernel
theorem dX6_load_8 : decode cX6_load 8 = .ok (.if_icmp .eq 13, 3) := by decide +kernel
theorem dX6_load_11 : decode cX6_load 11 = .ok (.new 55, 3) := by decide +kernel
theorem dX6_load_14 : decode cX6_load 14 = .ok (.dup, 1) := by decide +kernel
theorem dX6_load_15 : decode cX6_load 15 = .ok (.ldc 68, 2) := by decide +kernel
theorem dX6_load_17 : decode cX6_load 17 = .ok (.invokespecial 59, 3) := by decide +kernel
theorem dX6_load_20 : decode cX6_load 20 = .ok (.athrow, 1) := by decide +kernel
theorem dX6_load_21 : decode cX6_load 21 = .ok (.aload_n 0, 1) := by decide +kernel
theorem dX6_load_22 : decode cX6_load 22 = .ok (.getfield 19, 3) := by decide +kernel
theorem dX6_load_25 : decode cX6_load 25 = .ok (.aload_n 0, 1) := by decide +kernel
theorem dX6_load_26 : decode cX6_load 26 = .ok (.getfield 23, 3) := by decide +kernel
theorem dX6_load_29 : decode cX6_load 29 = .ok (.invokevirtual 70, 3) := by decide +kernel
theorem dX6_load_32 : decode cX6_load 32 = .ok (.aload_n 0, 1) := by decide +kernel
theorem dX6_load_33 : decode cX6_load 33 = .ok (.getfield 32, 3) := by decide +kernel
theorem dX6_load_36 : decode cX6_load 36 = .ok (.iconst 0, 1) := by decide +kernel
theorem dX6_load_37 : decode cX6_load 37 = .ok (.putfield 74, 3) := by decide +kernel
theorem dX6_load_40 : decode cX6_load 40 = .ok (.iconst 0, 1) := by decide +kernel
theorem dX6_load_41 : decode cX6_load 41 = .ok (.istore_n 1, 1) := by decide +kernel
theorem dX6_load_42 : decode cX6_load 42 = .ok (.iload_n 1, 1) := by decide +kernel
theorem dX6_load_43 : decode cX6_load 43 = .ok (.iconst 2, 1) := by decide +kernel
theorem dX6_load_44 : decode cX6_load 44 = .ok (.if_icmp .ge 16, 3) := by decide +kernel
theorem dX6_load_47 : decode cX6_load 47 = .ok (.aload_n 0, 1) := by decide +kernel
theorem dX6_load_48 : decode cX6_load 48 = .ok (.getfield 40, 3) := by decide +kernel
theorem dX6_load_51 : decode cX6_load 51 = .ok (.iload_n 1, 1) := by decide +kernel
theorem dX6_load_52 : decode cX6_load 52 = .ok (.iconst 0, 1) := by decide +kernel
theorem dX6_load_53 : decode cX6_load 53 = .ok (.bastore, 1) := by decide +kernel
theorem dX6_load_54 : decode cX6_load 54 = .ok (.iinc 1 1, 3) := by decide +kernel
theorem dX6_load_57 : decode cX6_load 57 = .ok (.goto (-15), 3) := by decide +kernel
theorem dX6_load_60 : decode cX6_load 60 = .ok (.iconst 0, 1) := by decide +kernel
theorem dX6_load_61 : decode cX6_load 61 = .ok (.istore_n 1, 1) := by decide +kernel
theorem dX6_load_62 : decode cX6_load 62 = .ok (.iconst 1, 1) := by decide +kernel
theorem dX6_load_63 : decode cX6_load 63 = .ok (.istore_n 2, 1) := by decide +kernel
theorem dX6_load_64 : decode cX6_load 64 = .ok (.iload_n 2, 1) := by decide +kernel
theorem dX6_load_65 : decode cX6_load 65 = .ok (.aload_n 0, 1) := by decide +kernel
theorem dX6_load_66 : decode cX6_load 66 = .ok (.getfield 10, 3) := by decide +kernel
theorem dX6_load_69 : decode cX6_load 69 = .ok (.getfield 51, 3) := by decide +kernel
theorem dX6_load_72 : decode cX6_load 72 = .ok (.if_icmp .ge 56, 3) := by decide +kernel
theorem dX6_load_75 : decode cX6_load 75 = .ok (.aload_n 0, 1) := by decide +kernel
theorem dX6_load_76 : decode cX6_load 76 = .ok (.getfield 19, 3) := by decide +kernel
theorem dX6_load_79 : decode cX6_load 79 = .ok (.aload_n 0, 1) := by decide +kernel
theorem dX6_load_80 : decode cX6_load 80 = .ok (.getfield 10, 3) := by decide +kernel
theorem dX6_load_83 : decode cX6_load 83 = .ok (.iload_n 2, 1) := by decide +kernel
theorem dX6_load_84 : decode cX6_load 84 = .ok (.invokevirtual 77, 3) := by decide +kernel
theorem dX6_load_87 : decode cX6_load 87 = .ok (.aload_n 0, 1) := by decide +kernel
theorem dX6_load_88 : decode cX6_load 88 = .ok (.getfield 10, 3) := by decide +kernel
theorem dX6_load_91 : decode cX6_load 91 = .ok (.iload_n 2, 1) := by decide +kernel
theorem dX6_load_92 : decode cX6_load 92 = .ok (.invokevirtual 81, 3) := by decide +kernel
theorem dX6_load_95 : decode cX6_load 95 = .ok (.aload_n 0, 1) := by decide +kernel
theorem dX6_load_96 : decode cX6_load 96 = .ok (.getfield 10, 3) := by decide +kernel
theorem dX6_load_99 : decode cX6_load 99 = .ok (.iload_n 2, 1) := by decide +kernel
theorem dX6_load_100 : decode cX6_load 100 = .ok (.invokevirtual 84, 3) := by decide +kernel
theorem dX6_load_103 : decode cX6_load 103 = .ok (.invokevirtual 87, 3) := by decide +kernel
theorem dX6_load_106 : decode cX6_load 106 = .ok (.ifCond .ne 6, 3) := by decide +kernel
theorem dX6_load_109 : decode cX6_load 109 = .ok (.iinc 1 1, 3) := by decide +kernel
theorem dX6_load_112 : decode cX6_load 112 = .ok (.iload_n 2, 1) := by decide +kernel
theorem dX6_load_113 : decode cX6_load 113 = .ok (.iconst 1, 1) := by decide +kernel
theorem dX6_load_114 : decode cX6_load 114 = .ok (.aload_n 0, 1) := by decide +kernel
theorem dX6_load_115 : decode cX6_load 115 = .ok (.getfield 10, 3) := by decide +kernel
theorem dX6_load_118 : decode cX6_load 118 = .ok (.iload_n 2, 1) := by decide +kernel
theorem dX6_load_119 : decode cX6_load 119 = .ok (.invokevirtual 91, 3) := by decide +kernel
theorem dX6_load_122 : decode cX6_load 122 = .ok (.iadd, 1) := by decide +kernel
theorem dX6_load_123 : decode cX6_load 123 = .ok (.iadd, 1) := by decide +kernel
theorem dX6_load_124 : decode cX6_load 124 = .ok (.istore_n 2, 1) := by decide +kernel
theorem dX6_load_125 : decode cX6_load 125 = .ok (.goto (-61), 3) := by decide +kernel
theorem dX6_load_128 : decode cX6_load 128 = .ok (.iload_n 1, 1) := by decide +kernel
theorem dX6_load_129 : decode cX6_load 129 = .ok (.ireturn, 1) := by decide +kernel
theorem dX6_about_0 : decode cX6_about 0 = .ok (.iload_n 1, 1) := by decide +kernel
theorem dX6_about_1 : decode cX6_about 1 = .ok (.tableswitch 143 0 9 #[55, 63, 71, 82, 93, 101, 109, 117, 126, 135], 55) := by decide +kernel
theorem dX6_about_56 : decode cX6_about 56 = .ok (.aload_n 0, 1) := by decide +kernel
theorem dX6_about_57 : decode cX6_about 57 = .ok (.getfield 19, 3) := by decide +kernel
theorem dX6_about_60 : decode cX6_about 60 = .ok (.getfield 94, 3) := by decide +kernel
theorem dX6_about_63 : decode cX6_about 63 = .ok (.ireturn, 1) := by decide +kernel
theorem dX6_about_64 : decode cX6_about 64 = .ok (.aload_n 0, 1) := by decide +kernel
theorem dX6_about_65 : decode cX6_about 65 = .ok (.getfield 19, 3) := by decide +kernel
theorem dX6_about_68 : decode cX6_about 68 = .ok (.getfield 95, 3) := by decide +kernel
theorem dX6_about_71 : decode cX6_about 71 = .ok (.ireturn, 1) := by decide +kernel
theorem dX6_about_72 : decode cX6_about 72 = .ok (.aload_n 0, 1) := by decide +kernel
theorem dX6_about_73 : decode cX6_about 73 = .ok (.getfield 19, 3) := by decide +kernel
theorem dX6_about_76 : decode cX6_about 76 = .ok (.getfield 98, 3) := by decide +kernel
theorem dX6_about_79 : decode cX6_about 79 = .ok (.getfield 102, 3) := by decide +kernel
theorem dX6_about_82 : decode cX6_about 82 = .ok (.ireturn, 1) := by decide +kernel
theorem dX6_about_83 : decode cX6_about 83 = .ok (.aload_n 0, 1) := by decide +kernel
theorem dX6_about_84 : decode cX6_about 84 = .ok (.getfield 19, 3) := by decide +kernel
theorem dX6_about_87 : decode cX6_about 87 = .ok (.getfield 98, 3) := by decide +kernel
theorem dX6_about_90 : decode cX6_about 90 = .ok (.getfield 105, 3) := by decide +kernel
theorem dX6_about_93 : decode cX6_about 93 = .ok (.ireturn, 1) := by decide +kernel
theorem dX6_about_94 : decode cX6_about 94 = .ok (.aload_n 0, 1) := by decide +kernel
theorem dX6_about_95 : decode cX6_about 95 = .ok (.getfield 19, 3) := by decide +kernel
theorem dX6_about_98 : decode cX6_about 98 = .ok (.getfield 108, 3) := by decide +kernel
theorem dX6_about_101 : decode cX6_about 101 = .ok (.ireturn, 1) := by decide +kernel
theorem dX6_about_102 : decode cX6_about 102 = .ok (.aload_n 0, 1) := by decide +kernel
theorem dX6_about_103 : decode cX6_about 103 = .ok (.getfield 19, 3) := by decide +kernel
theorem dX6_about_106 : decode cX6_about 106 = .ok (.getfield 111, 3) := by decide +kernel
theorem dX6_about_109 : decode cX6_about 109 = .ok (.ireturn, 1) := by decide +kernel
theorem dX6_about_110 : decode cX6_about 110 = .ok (.aload_n 0, 1) := by decide +kernel
theorem dX6_about_111 : decode cX6_about 111 = .ok (.getfield 19, 3) := by decide +kernel
theorem dX6_about_114 : decode cX6_about 114 = .ok (.getfield 114, 3) := by decide +kernel
theorem dX6_about_117 : decode cX6_about 117 = .ok (.ireturn, 1) := by decide +kernel
theorem dX6_about_118 : decode cX6_about 118 = .ok (.aload_n 0, 1) := by decide +kernel
theorem dX6_about_119 : decode cX6_about 119 = .ok (.getfield 19, 3) := by decide +kernel
theorem dX6_about_122 : decode cX6_about 122 = .ok (.iconst 0, 1) := by decide +kernel
theorem dX6_about_123 : decode cX6_about 123 = .ok (.invokevirtual 117, 3) := by decide +kernel
theorem dX6_about_126 : decode cX6_about 126 = .ok (.ireturn, 1) := by decide +kernel
theorem dX6_about_127 : decode cX6_about 127 = .ok (.aload_n 0, 1) := by decide +kernel
theorem dX6_about_128 : decode cX6_about 128 = .ok (.getfield 19, 3) := by decide +kernel
theorem dX6_about_131 : decode cX6_about 131 = .ok (.iconst 2, 1) := by decide +kernel
theorem dX6_about_132 : decode cX6_about 132 = .ok (.invokevirtual 117, 3) := by decide +kernel
theorem dX6_about_135 : decode cX6_about 135 = .ok (.ireturn, 1) := by decide +kernel
theorem dX6_about_136 : decode cX6_about 136 = .ok (.aload_n 0, 1) := by decide +kernel
theorem dX6_about_137 : decode cX6_about 137 = .ok (.getfield 19, 3) := by decide +kernel
theorem dX6_about_140 : decode cX6_about 140 = .ok (.getfield 120, 3) := by decide +kernel
theorem dX6_about_143 : decode cX6_about 143 = .ok (.ireturn, 1) := by decide +kernel
theorem dX6_about_144 : decode cX6_about 144 = .ok (.new 44, 3) := by decide +kernel
theorem dX6_about_147 : decode cX6_about 147 = .ok (.dup, 1) := by decide +kernel
theorem dX6_about_148 : decode cX6_about 148 = .ok (.ldc 123, 2) := by decide +kernel
theorem dX6_about_150 : decode cX6_about 150 = .ok (.invokespecial 48, 3) := by decide +kernel
theorem dX6_about_153 : decode cX6_about 153 = .ok (.athrow, 1) := by decide +kernel
theorem dX6_memberOf_0 : decode cX6_memberOf 0 = .ok (.aload_n 0, 1) := by decide +kernel
theorem dX6_memberOf_1 : decode cX6_memberOf 1 = .ok (.iload_n 1, 1) := by decide +kernel
theorem dX6_memberOf_2 : decode cX6_memberOf 2 = .ok (.invokevirtual 125, 3) := by decide +kernel
theorem dX6_memberOf_5 : decode cX6_memberOf 5 = .ok (.aload_n 0, 1) := by decide +kernel
theorem dX6_memberOf_6 : decode cX6_memberOf 6 = .ok (.getfield 19, 3) := by decide +kernel
theorem dX6_memberOf_9 : decode cX6_memberOf 9 = .ok (.getfield 128, 3) := by decide +kernel
theorem dX6_memberOf_12 : decode cX6_memberOf 12 = .ok (.iload_n 1, 1) := by decide +kernel
theorem dX6_memberOf_13 : decode cX6_memberOf 13 = .ok (.aaload, 1) := by decide +kernel
theorem dX6_memberOf_14 : decode cX6_memberOf 14 = .ok (.astore_n 3, 1) := by decide +kernel
theorem dX6_memberOf_15 : decode cX6_memberOf 15 = .ok (.iload_n 2, 1) := by decide +kernel
theorem dX6_memberOf_16 : decode cX6_memberOf 16 = .ok (.tableswitch 130 0 11 #[64, 69, 74, 79, 84, 89, 94, 99, 104, 109, 114, 122], 64) := by decide +kernel
theorem dX6_memberOf_80 : decode cX6_memberOf 80 = .ok (.aload_n 3, 1) := by decide +kernel
theorem dX6_memberOf_81 : decode cX6_memberOf 81 = .ok (.getfield 132, 3) := by decide +kernel
theorem dX6_memberOf_84 : decode cX6_memberOf 84 = .ok (.ireturn, 1) := by decide +kernel
theorem dX6_memberOf_85 : decode cX6_memberOf 85 = .ok (.aload_n 3, 1) := by decide +kernel
theorem dX6_memberOf_86 : decode cX6_memberOf 86 = .ok (.getfield 137, 3) := by decide +kernel
theorem dX6_memberOf_89 : decode cX6_memberOf 89 = .ok (.ireturn, 1) := by decide +kernel
theorem dX6_memberOf_90 : decode cX6_memberOf 90 = .ok (.aload_n 3, 1) := by decide +kernel
theorem dX6_memberOf_91 : decode cX6_memberOf 91 = .ok (.getfield 140, 3) := by decide +kernel
theorem dX6_memberOf_94 : decode cX6_memberOf 94 = .ok (.ireturn, 1) := by decide +kernel
theorem dX6_memberOf_95 : decode cX6_memberOf 95 = .ok (.aload_n 3, 1) := by decide +kernel
theorem dX6_memberOf_96 : decode cX6_memberOf 96 = .ok (.getfield 143, 3) := by decide +kernel
theorem dX6_memberOf_99 : decode cX6_memberOf 99 = .ok (.ireturn, 1) := by decide +kernel
theorem dX6_memberOf_100 : decode cX6_memberOf 100 = .ok (.aload_n 3, 1) := by decide +kernel
theorem dX6_memberOf_101 : decode cX6_memberOf 101 = .ok (.getfield 146, 3) := by decide +kernel
theorem dX6_memberOf_104 : decode cX6_memberOf 104 = .ok (.ireturn, 1) := by decide +kernel
theorem dX6_memberOf_105 : decode cX6_memberOf 105 = .ok (.aload_n 3, 1) := by decide +kernel
theorem dX6_memberOf_106 : decode cX6_memberOf 106 = .ok (.getfield 149, 3) := by decide +kernel
theorem dX6_memberOf_109 : decode cX6_memberOf 109 = .ok (.ireturn, 1) := by decide +kernel
theorem dX6_memberOf_110 : decode cX6_memberOf 110 = .ok (.aload_n 3, 1) := by decide +kernel
theorem dX6_memberOf_111 : decode cX6_memberOf 111 = .ok (.getfield 152, 3) := by decide +kernel
theorem dX6_memberOf_114 : decode cX6_memberOf 114 = .ok (.ireturn, 1) := by decide +kernel
theorem dX6_memberOf_115 : decode cX6_memberOf 115 = .ok (.aload_n 3, 1) := by decide +kernel
theorem dX6_memberOf_116 : decode cX6_memberOf 116 = .ok (.getfield 155, 3) := by decide +kernel
theorem dX6_memberOf_119 : decode cX6_memberOf 119 = .ok (.ireturn, 1) := by decide +kernel
theorem dX6_memberOf_120 : decode cX6_memberOf 120 = .ok (.aload_n 3, 1) := by decide +kernel
theorem dX6_memberOf_121 : decode cX6_memberOf 121 = .ok (.getfield 156, 3) := by decide +kernel
theorem dX6_memberOf_124 : decode cX6_memberOf 124 = .ok (.ireturn, 1) := by decide +kernel
theorem dX6_memberOf_125 : decode cX6_memberOf 125 = .ok (.aload_n 3, 1) := by decide +kernel
theorem dX6_memberOf_126 : decode cX6_memberOf 126 = .ok (.getfield 159, 3) := by decide +kernel
theorem dX6_memberOf_129 : decode cX6_memberOf 129 = .ok (.ireturn, 1) := by decide +kernel
theorem dX6_memberOf_130 : decode cX6_memberOf 130 = .ok (.aload_n 3, 1) := by decide +kernel
theorem dX6_memberOf_131 : decode cX6_memberOf 131 = .ok (.getfield 162, 3) := by decide +kernel
theorem dX6_memberOf_134 : decode cX6_memberOf 134 = .ok (.getfield 166, 3) := by decide +kernel
theorem dX6_memberOf_137 : decode cX6_memberOf 137 = .ok (.ireturn, 1) := by decide +kernel
theorem dX6_memberOf_138 : decode cX6_memberOf 138 = .ok (.aload_n 3, 1) := by decide +kernel
theorem dX6_memberOf_139 : decode cX6_memberOf 139 = .ok (.getfield 169, 3) := by decide +kernel
theorem dX6_memberOf_142 : decode cX6_memberOf 142 = .ok (.getfield 166, 3) := by decide +kernel
theorem dX6_memberOf_145 : decode cX6_memberOf 145 = .ok (.ireturn, 1) := by decide +kernel
theorem dX6_memberOf_146 : decode cX6_memberOf 146 = .ok (.new 44, 3) := by decide +kernel
theorem dX6_memberOf_149 : decode cX6_memberOf 149 = .ok (.dup, 1) := by decide +kernel
theorem dX6_memberOf_150 : decode cX6_memberOf 150 = .ok (.ldc 172, 2) := by decide +kernel
theorem dX6_memberOf_152 : decode cX6_memberOf 152 = .ok (.invokespecial 48, 3) := by decide +kernel
theorem dX6_memberOf_155 : decode cX6_memberOf 155 = .ok (.athrow, 1) := by decide +kernel
theorem dX6_session_0 : decode cX6_session 0 = .ok (.aload_n 0, 1) := by decide +kernel
theorem dX6_session_1 : decode cX6_session 1 = .ok (.iload_n 1, 1) := by decide +kernel
theorem dX6_session_2 : decode cX6_session 2 = .ok (.invokevirtual 125, 3) := by decide +kernel
theorem dX6_session_5 : decode cX6_session 5 = .ok (.aload_n 0, 1) := by decide +kernel
theorem dX6_session_6 : decode cX6_session 6 = .ok (.getfield 19, 3) := by decide +kernel
theorem dX6_session_9 : decode cX6_session 9 = .ok (.getfield 128, 3) := by decide +kernel
theorem dX6_session_12 : decode cX6_session 12 = .ok (.iload_n 1, 1) := by decide +kernel
theorem dX6_session_13 : decode cX6_session 13 = .ok (.aaload, 1) := by decide +kernel
theorem dX6_session_14 : decode cX6_session 14 = .ok (.getfield 169, 3) := by decide +kernel
theorem dX6_session_17 : decode cX6_session 17 = .ok (.astore 4, 2) := by decide +kernel
theorem dX6_session_19 : decode cX6_session 19 = .ok (.iload_n 2, 1) := by decide +kernel
theorem dX6_session_20 : decode cX6_session 20 = .ok (.ifCond .lt 12, 3) := by decide +kernel
theorem dX6_session_23 : decode cX6_session 23 = .ok (.iload_n 2, 1) := by decide +kernel
theorem dX6_session_24 : decode cX6_session 24 = .ok (.aload 4, 2) := by decide +kernel
theorem dX6_session_26 : decode cX6_session 26 = .ok (.getfield 166, 3) := by decide +kernel
theorem dX6_session_29 : decode cX6_session 29 = .ok (.if_icmp .lt 13, 3) := by decide +kernel
theorem dX6_session_32 : decode cX6_session 32 = .ok (.new 174, 3) := by decide +kernel
theorem dX6_session_35 : decode cX6_session 35 = .ok (.dup, 1) := by decide +kernel
theorem dX6_session_36 : decode cX6_session 36 = .ok (.ldc 176, 2) := by decide +kernel
theorem dX6_session_38 : decode cX6_session 38 = .ok (.invokespecial 178, 3) := by decide +kernel
theorem dX6_session_41 : decode cX6_session 41 = .ok (.athrow, 1) := by decide +kernel
theorem dX6_session_42 : decode cX6_session 42 = .ok (.iload_n 3, 1) := by decide +kernel
theorem dX6_session_43 : decode cX6_session 43 = .ok (.tableswitch 49 0 2 #[25, 33, 41], 25) := by decide +kernel
theorem dX6_session_68 : decode cX6_session 68 = .ok (.aload 4, 2) := by decide +kernel
theorem dX6_session_70 : decode cX6_session 70 = .ok (.getfield 179, 3) := by decide +kernel
theorem dX6_session_73 : decode cX6_session 73 = .ok (.iload_n 2, 1) := by decide +kernel
theorem dX6_session_74 : decode cX6_session 74 = .ok (.iaload, 1) := by decide +kernel
theorem dX6_session_75 : decode cX6_session 75 = .ok (.ireturn, 1) := by decide +kernel
theorem dX6_session_76 : decode cX6_session 76 = .ok (.aload 4, 2) := by decide +kernel
theorem dX6_session_78 : decode cX6_session 78 = .ok (.getfield 183, 3) := by decide +kernel
theorem dX6_session_81 : decode cX6_session 81 = .ok (.iload_n 2, 1) := by decide +kernel
theorem dX6_session_82 : decode cX6_session 82 = .ok (.iaload, 1) := by decide +kernel
theorem dX6_session_83 : decode cX6_session 83 = .ok (.ireturn, 1) := by decide +kernel
theorem dX6_session_84 : decode cX6_session 84 = .ok (.aload 4, 2) := by decide +kernel
theorem dX6_session_86 : decode cX6_session 86 = .ok (.getfield 186, 3) := by decide +kernel
theorem dX6_session_89 : decode cX6_session 89 = .ok (.iload_n 2, 1) := by decide +kernel
theorem dX6_session_90 : decode cX6_session 90 = .ok (.iaload, 1) := by decide +kernel
theorem dX6_session_91 : decode cX6_session 91 = .ok (.ireturn, 1) := by decide +kernel
theorem dX6_session_92 : decode cX6_session 92 = .ok (.new 44, 3) := by decide +kernel
theorem dX6_session_95 : decode cX6_session 95 = .ok (.dup, 1) := by decide +kernel
theorem dX6_session_96 : decode cX6_session 96 = .ok (.ldc 188, 2) := by decide +kernel
theorem dX6_session_98 : decode cX6_session 98 = .ok (.invokespecial 48, 3) := by decide +kernel
theorem dX6_session_101 : decode cX6_session 101 = .ok (.athrow, 1) := by decide +kernel
theorem dX6_note_0 : decode cX6_note 0 = .ok (.iload_n 1, 1) := by decide +kernel
theorem dX6_note_1 : decode cX6_note 1 = .ok (.ifCond .lt 17, 3) := by decide +kernel
theorem dX6_note_4 : decode cX6_note 4 = .ok (.iload_n 1, 1) := by decide +kernel
theorem dX6_note_5 : decode cX6_note 5 = .ok (.aload_n 0, 1) := by decide +kernel
theorem dX6_note_6 : decode cX6_note 6 = .ok (.getfield 19, 3) := by decide +kernel
theorem dX6_note_9 : decode cX6_note 9 = .ok (.getfield 98, 3) := by decide +kernel
theorem dX6_note_12 : decode cX6_note 12 = .ok (.getfield 102, 3) := by decide +kernel
theorem dX6_note_15 : decode cX6_note 15 = .ok (.if_icmp .lt 13, 3) := by decide +kernel
theorem dX6_note_18 : decode cX6_note 18 = .ok (.new 174, 3) := by decide +kernel
theorem dX6_note_21 : decode cX6_note 21 = .ok (.dup, 1) := by decide +kernel
theorem dX6_note_22 : decode cX6_note 22 = .ok (.ldc 190, 2) := by decide +kernel
theorem dX6_note_24 : decode cX6_note 24 = .ok (.invokespecial 178, 3) := by decide +kernel
theorem dX6_note_27 : decode cX6_note 27 = .ok (.athrow, 1) := by decide +kernel
theorem dX6_note_28 : decode cX6_note 28 = .ok (.iload_n 2, 1) := by decide +kernel
theorem dX6_note_29 : decode cX6_note 29 = .ok (.ifCond .lt 9, 3) := by decide +kernel
theorem dX6_note_32 : decode cX6_note 32 = .ok (.iload_n 2, 1) := by decide +kernel
theorem dX6_note_33 : decode cX6_note 33 = .ok (.bipush 6, 2) := by decide +kernel
theorem dX6_note_35 : decode cX6_note 35 = .ok (.if_icmp .lt 13, 3) := by decide +kernel
theorem dX6_note_38 : decode cX6_note 38 = .ok (.new 44, 3) := by decide +kernel
theorem dX6_note_41 : decode cX6_note 41 = .ok (.dup, 1) := by decide +kernel
theorem dX6_note_42 : decode cX6_note 42 = .ok (.ldc 192, 2) := by decide +kernel
theorem dX6_note_44 : decode cX6_note 44 = .ok (.invokespecial 48, 3) := by decide +kernel
theorem dX6_note_47 : decode cX6_note 47 = .ok (.athrow, 1) := by decide +kernel
theorem dX6_note_48 : decode cX6_note 48 = .ok (.aload_n 0, 1) := by decide +kernel
theorem dX6_note_49 : decode cX6_note 49 = .ok (.getfield 19, 3) := by decide +kernel
theorem dX6_note_52 : decode cX6_note 52 = .ok (.getfield 98, 3) := by decide +kernel
theorem dX6_note_55 : decode cX6_note 55 = .ok (.getfield 194, 3) := by decide +kernel
theorem dX6_note_58 : decode cX6_note 58 = .ok (.iload_n 1, 1) := by decide +kernel
theorem dX6_note_59 : decode cX6_note 59 = .ok (.bipush 9, 2) := by decide +kernel
theorem dX6_note_61 : decode cX6_note 61 = .ok (.imul, 1) := by decide +kernel
theorem dX6_note_62 : decode cX6_note 62 = .ok (.iload_n 2, 1) := by decide +kernel
theorem dX6_note_63 : decode cX6_note 63 = .ok (.iadd, 1) := by decide +kernel
theorem dX6_note_64 : decode cX6_note 64 = .ok (.iaload, 1) := by decide +kernel
theorem dX6_note_65 : decode cX6_note 65 = .ok (.ireturn, 1) := by decide +kernel
theorem dX6_isCut_0 : decode cX6_isCut 0 = .ok (.aload_n 0, 1) := by decide +kernel
theorem dX6_isCut_1 : decode cX6_isCut 1 = .ok (.iload_n 1, 1) := by decide +kernel
theorem dX6_isCut_2 : decode cX6_isCut 2 = .ok (.invokevirtual 125, 3) := by decide +kernel
theorem dX6_isCut_5 : decode cX6_isCut 5 = .ok (.aload_n 0, 1) := by decide +kernel
theorem dX6_isCut_6 : decode cX6_isCut 6 = .ok (.iload_n 2, 1) := by decide +kernel
theorem dX6_isCut_7 : decode cX6_isCut 7 = .ok (.invokevirtual 125, 3) := by decide +kernel
theorem dX6_isCut_10 : decode cX6_isCut 10 = .ok (.aload_n 0, 1) := by decide +kernel
theorem dX6_isCut_11 : decode cX6_isCut 11 = .ok (.getfield 19, 3) := by decide +kernel
theorem dX6_isCut_14 : decode cX6_isCut 14 = .ok (.getfield 98, 3) := by decide +kernel
theorem dX6_isCut_17 : decode cX6_isCut 17 = .ok (.iload_n 1, 1) := by decide +kernel
theorem dX6_isCut_18 : decode cX6_isCut 18 = .ok (.iload_n 2, 1) := by decide +kernel
theorem dX6_isCut_19 : decode cX6_isCut 19 = .ok (.invokevirtual 197, 3) := by decide +kernel
theorem dX6_isCut_22 : decode cX6_isCut 22 = .ok (.ifCond .eq 7, 3) := by decide +kernel
theorem dX6_isCut_25 : decode cX6_isCut 25 = .ok (.iconst 1, 1) := by decide +kernel
theorem dX6_isCut_26 : decode cX6_isCut 26 = .ok (.goto 4, 3) := by decide +kernel
theorem dX6_isCut_29 : decode cX6_isCut 29 = .ok (.iconst 0, 1) := by decide +kernel
theorem dX6_isCut_30 : decode cX6_isCut 30 = .ok (.ireturn, 1) := by decide +kernel
theorem dX6_member_0 : decode cX6_member 0 = .ok (.iload_n 1, 1) := by decide +kernel
theorem dX6_member_1 : decode cX6_member 1 = .ok (.invokestatic 201, 3) := by decide +kernel
theorem dX6_member_4 : decode cX6_member 4 = .ok (.ifCond .ne 13, 3) := by decide +kernel
theorem dX6_member_7 : decode cX6_member 7 = .ok (.new 44, 3) := by decide +kernel
theorem dX6_member_10 : decode cX6_member 10 = .ok (.dup, 1) := by decide +kernel
theorem dX6_member_11 : decode cX6_member 11 = .ok (.ldc 205, 2) := by decide +kernel
theorem dX6_member_13 : decode cX6_member 13 = .ok (.invokespecial 48, 3) := by decide +kernel
theorem dX6_member_16 : decode cX6_member 16 = .ok (.athrow, 1) := by decide +kernel
theorem dX6_member_17 : decode cX6_member 17 = .ok (.aload_n 0, 1) := by decide +kernel
theorem dX6_member_18 : decode cX6_member 18 = .ok (.getfield 19, 3) := by decide +kernel
theorem dX6_member_21 : decode cX6_member 21 = .ok (.getfield 94, 3) := by decide +kernel
theorem dX6_member_24 : decode cX6_member 24 = .ok (.bipush 6, 2) := by decide +kernel
theorem dX6_member_26 : decode cX6_member 26 = .ok (.if_icmp .lt 13, 3) := by decide +kernel
theorem dX6_member_29 : decode cX6_member 29 = .ok (.new 55, 3) := by decide +kernel
theorem dX6_member_32 : decode cX6_member 32 = .ok (.dup, 1) := by decide +kernel
theorem dX6_member_33 : decode cX6_member 33 = .ok (.ldc 207, 2) := by decide +kernel
theorem dX6_member_35 : decode cX6_member 35 = .ok (.invokespecial 59, 3) := by decide +kernel
theorem dX6_member_38 : decode cX6_member 38 = .ok (.athrow, 1) := by decide +kernel
theorem dX6_member_39 : decode cX6_member 39 = .ok (.aload_n 0, 1) := by decide +kernel
theorem dX6_member_40 : decode cX6_member 40 = .ok (.getfield 32, 3) := by decide +kernel
theorem dX6_member_43 : decode cX6_member 43 = .ok (.aload_n 0, 1) := by decide +kernel
theorem dX6_member_44 : decode cX6_member 44 = .ok (.getfield 19, 3) := by decide +kernel
theorem dX6_member_47 : decode cX6_member 47 = .ok (.invokevirtual 209, 3) := by decide +kernel
theorem dX6_member_50 : decode cX6_member 50 = .ok (.aload_n 0, 1) := by decide +kernel
theorem dX6_member_51 : decode cX6_member 51 = .ok (.getfield 19, 3) := by decide +kernel
theorem dX6_member_54 : decode cX6_member 54 = .ok (.iload_n 1, 1) := by decide +kernel
theorem dX6_member_55 : decode cX6_member 55 = .ok (.invokevirtual 212, 3) := by decide +kernel
theorem dX6_member_58 : decode cX6_member 58 = .ok (.ireturn, 1) := by decide +kernel
theorem dX6_say_0 : decode cX6_say 0 = .ok (.aload_n 0, 1) := by decide +kernel
theorem dX6_say_1 : decode cX6_say 1 = .ok (.iload_n 1, 1) := by decide +kernel
theorem dX6_say_2 : decode cX6_say 2 = .ok (.invokevirtual 125, 3) := by decide +kernel
theorem dX6_say_5 : decode cX6_say 5 = .ok (.aload_n 0, 1) := by decide +kernel
theorem dX6_say_6 : decode cX6_say 6 = .ok (.getfield 19, 3) := by decide +kernel
theorem dX6_say_9 : decode cX6_say 9 = .ok (.getfield 128, 3) := by decide +kernel
theorem dX6_say_12 : decode cX6_say 12 = .ok (.iload_n 1, 1) := by decide +kernel
theorem dX6_say_13 : decode cX6_say 13 = .ok (.aaload, 1) := by decide +kernel
theorem dX6_say_14 : decode cX6_say 14 = .ok (.invokevirtual 215, 3) := by decide +kernel
theorem dX6_say_17 : decode cX6_say 17 = .ok (.ifCond .ne 13, 3) := by decide +kernel
theorem dX6_say_20 : decode cX6_say 20 = .ok (.new 55, 3) := by decide +kernel
theorem dX6_say_23 : decode cX6_say 23 = .ok (.dup, 1) := by decide +kernel
theorem dX6_say_24 : decode cX6_say 24 = .ok (.ldc 219, 2) := by decide +kernel
theorem dX6_say_26 : decode cX6_say 26 = .ok (.invokespecial 59, 3) := by decide +kernel
theorem dX6_say_29 : decode cX6_say 29 = .ok (.athrow, 1) := by decide +kernel
theorem dX6_say_30 : decode cX6_say 30 = .ok (.aload_n 0, 1) := by decide +kernel
theorem dX6_say_31 : decode cX6_say 31 = .ok (.getfield 32, 3) := by decide +kernel
theorem dX6_say_34 : decode cX6_say 34 = .ok (.aload_n 0, 1) := by decide +kernel
theorem dX6_say_35 : decode cX6_say 35 = .ok (.getfield 19, 3) := by decide +kernel
theorem dX6_say_38 : decode cX6_say 38 = .ok (.invokevirtual 209, 3) := by decide +kernel
theorem dX6_say_41 : decode cX6_say 41 = .ok (.aload_n 0, 1) := by decide +kernel
theorem dX6_say_42 : decode cX6_say 42 = .ok (.getfield 19, 3) := by decide +kernel
theorem dX6_say_45 : decode cX6_say 45 = .ok (.iload_n 1, 1) := by decide +kernel
theorem dX6_say_46 : decode cX6_say 46 = .ok (.invokevirtual 221, 3) := by decide +kernel
theorem dX6_say_49 : decode cX6_say 49 = .ok (.ireturn, 1) := by decide +kernel
theorem dX6_call_0 : decode cX6_call 0 = .ok (.aload_n 0, 1) := by decide +kernel
theorem dX6_call_1 : decode cX6_call 1 = .ok (.iload_n 1, 1) := by decide +kernel
theorem dX6_call_2 : decode cX6_call 2 = .ok (.invokevirtual 125, 3) := by decide +kernel
theorem dX6_call_5 : decode cX6_call 5 = .ok (.aload_n 0, 1) := by decide +kernel
theorem dX6_call_6 : decode cX6_call 6 = .ok (.getfield 19, 3) := by decide +kernel
theorem dX6_call_9 : decode cX6_call 9 = .ok (.iload_n 1, 1) := by decide +kernel
theorem dX6_call_10 : decode cX6_call 10 = .ok (.iload_n 2, 1) := by decide +kernel
theorem dX6_call_11 : decode cX6_call 11 = .ok (.invokevirtual 224, 3) := by decide +kernel
theorem dX6_call_14 : decode cX6_call 14 = .ok (.ifCond .ne 13, 3) := by decide +kernel
theorem dX6_call_17 : decode cX6_call 17 = .ok (.new 44, 3) := by decide +kernel
theorem dX6_call_20 : decode cX6_call 20 = .ok (.dup, 1) := by decide +kernel
theorem dX6_call_21 : decode cX6_call 21 = .ok (.ldc 227, 2) := by decide +kernel
theorem dX6_call_23 : decode cX6_call 23 = .ok (.invokespecial 48, 3) := by decide +kernel
theorem dX6_call_26 : decode cX6_call 26 = .ok (.athrow, 1) := by decide +kernel
theorem dX6_call_27 : decode cX6_call 27 = .ok (.aload_n 0, 1) := by decide +kernel
theorem dX6_call_28 : decode cX6_call 28 = .ok (.getfield 19, 3) := by decide +kernel
theorem dX6_call_31 : decode cX6_call 31 = .ok (.iload_n 1, 1) := by decide +kernel
theorem dX6_call_32 : decode cX6_call 32 = .ok (.invokevirtual 229, 3) := by decide +kernel
theorem dX6_call_35 : decode cX6_call 35 = .ok (.ifCond .eq 13, 3) := by decide +kernel
theorem dX6_call_38 : decode cX6_call 38 = .ok (.new 55, 3) := by decide +kernel
theorem dX6_call_41 : decode cX6_call 41 = .ok (.dup, 1) := by decide +kernel
theorem dX6_call_42 : decode cX6_call 42 = .ok (.ldc 232, 2) := by decide +kernel
theorem dX6_call_44 : decode cX6_call 44 = .ok (.invokespecial 59, 3) := by decide +kernel
theorem dX6_call_47 : decode cX6_call 47 = .ok (.athrow, 1) := by decide +kernel
theorem dX6_call_48 : decode cX6_call 48 = .ok (.aload_n 0, 1) := by decide +kernel
theorem dX6_call_49 : decode cX6_call 49 = .ok (.getfield 32, 3) := by decide +kernel
theorem dX6_call_52 : decode cX6_call 52 = .ok (.aload_n 0, 1) := by decide +kernel
theorem dX6_call_53 : decode cX6_call 53 = .ok (.getfield 19, 3) := by decide +kernel
theorem dX6_call_56 : decode cX6_call 56 = .ok (.invokevirtual 209, 3) := by decide +kernel
theorem dX6_call_59 : decode cX6_call 59 = .ok (.aload_n 0, 1) := by decide +kernel
theorem dX6_call_60 : decode cX6_call 60 = .ok (.getfield 19, 3) := by decide +kernel
theorem dX6_call_63 : decode cX6_call 63 = .ok (.iload_n 1, 1) := by decide +kernel
theorem dX6_call_64 : decode cX6_call 64 = .ok (.iload_n 2, 1) := by decide +kernel
theorem dX6_call_65 : decode cX6_call 65 = .ok (.invokevirtual 234, 3) := by decide +kernel
theorem dX6_call_68 : decode cX6_call 68 = .ok (.ireturn, 1) := by decide +kernel
theorem dX6_cut_0 : decode cX6_cut 0 = .ok (.aload_n 0, 1) := by decide +kernel
theorem dX6_cut_1 : decode cX6_cut 1 = .ok (.iload_n 1, 1) := by decide +kernel
theorem dX6_cut_2 : decode cX6_cut 2 = .ok (.invokevirtual 125, 3) := by decide +kernel
theorem dX6_cut_5 : decode cX6_cut 5 = .ok (.aload_n 0, 1) := by decide +kernel
theorem dX6_cut_6 : decode cX6_cut 6 = .ok (.iload_n 2, 1) := by decide +kernel
theorem dX6_cut_7 : decode cX6_cut 7 = .ok (.invokevirtual 125, 3) := by decide +kernel
theorem dX6_cut_10 : decode cX6_cut 10 = .ok (.iload_n 1, 1) := by decide +kernel
theorem dX6_cut_11 : decode cX6_cut 11 = .ok (.iload_n 2, 1) := by decide +kernel
theorem dX6_cut_12 : decode cX6_cut 12 = .ok (.if_icmp .ne 13, 3) := by decide +kernel
theorem dX6_cut_15 : decode cX6_cut 15 = .ok (.new 44, 3) := by decide +kernel
theorem dX6_cut_18 : decode cX6_cut 18 = .ok (.dup, 1) := by decide +kernel
theorem dX6_cut_19 : decode cX6_cut 19 = .ok (.ldc 238, 2) := by decide +kernel
theorem dX6_cut_21 : decode cX6_cut 21 = .ok (.invokespecial 48, 3) := by decide +kernel
theorem dX6_cut_24 : decode cX6_cut 24 = .ok (.athrow, 1) := by decide +kernel
theorem dX6_cut_25 : decode cX6_cut 25 = .ok (.aload_n 0, 1) := by decide +kernel
theorem dX6_cut_26 : decode cX6_cut 26 = .ok (.getfield 32, 3) := by decide +kernel
theorem dX6_cut_29 : decode cX6_cut 29 = .ok (.aload_n 0, 1) := by decide +kernel
theorem dX6_cut_30 : decode cX6_cut 30 = .ok (.getfield 19, 3) := by decide +kernel
theorem dX6_cut_33 : decode cX6_cut 33 = .ok (.invokevirtual 209, 3) := by decide +kernel
theorem dX6_cut_36 : decode cX6_cut 36 = .ok (.aload_n 0, 1) := by decide +kernel
theorem dX6_cut_37 : decode cX6_cut 37 = .ok (.getfield 19, 3) := by decide +kernel
theorem dX6_cut_40 : decode cX6_cut 40 = .ok (.getfield 98, 3) := by decide +kernel
theorem dX6_cut_43 : decode cX6_cut 43 = .ok (.iload_n 1, 1) := by decide +kernel
theorem dX6_cut_44 : decode cX6_cut 44 = .ok (.iload_n 2, 1) := by decide +kernel
theorem dX6_cut_45 : decode cX6_cut 45 = .ok (.iload_n 3, 1) := by decide +kernel
theorem dX6_cut_46 : decode cX6_cut 46 = .ok (.invokevirtual 240, 3) := by decide +kernel
theorem dX6_cut_49 : decode cX6_cut 49 = .ok (.aload_n 0, 1) := by decide +kernel
theorem dX6_cut_50 : decode cX6_cut 50 = .ok (.getfield 19, 3) := by decide +kernel
theorem dX6_cut_53 : decode cX6_cut 53 = .ok (.getfield 98, 3) := by decide +kernel
theorem dX6_cut_56 : decode cX6_cut 56 = .ok (.getfield 244, 3) := by decide +kernel
theorem dX6_cut_59 : decode cX6_cut 59 = .ok (.ireturn, 1) := by decide +kernel
theorem dX6_leave_0 : decode cX6_leave 0 = .ok (.aload_n 0, 1) := by decide +kernel
theorem dX6_leave_1 : decode cX6_leave 1 = .ok (.iload_n 1, 1) := by decide +kernel
theorem dX6_leave_2 : decode cX6_leave 2 = .ok (.invokevirtual 125, 3) := by decide +kernel
theorem dX6_leave_5 : decode cX6_leave 5 = .ok (.aload_n 0, 1) := by decide +kernel
theorem dX6_leave_6 : decode cX6_leave 6 = .ok (.getfield 19, 3) := by decide +kernel
theorem dX6_leave_9 : decode cX6_leave 9 = .ok (.iload_n 1, 1) := by decide +kernel
theorem dX6_leave_10 : decode cX6_leave 10 = .ok (.invokevirtual 229, 3) := by decide +kernel
theorem dX6_leave_13 : decode cX6_leave 13 = .ok (.ifCond .eq 13, 3) := by decide +kernel
theorem dX6_leave_16 : decode cX6_leave 16 = .ok (.new 55, 3) := by decide +kernel
theorem dX6_leave_19 : decode cX6_leave 19 = .ok (.dup, 1) := by decide +kernel
theorem dX6_leave_20 : decode cX6_leave 20 = .ok (.ldc 232, 2) := by decide +kernel
theorem dX6_leave_22 : decode cX6_leave 22 = .ok (.invokespecial 59, 3) := by decide +kernel
theorem dX6_leave_25 : decode cX6_leave 25 = .ok (.athrow, 1) := by decide +kernel
theorem dX6_leave_26 : decode cX6_leave 26 = .ok (.aload_n 0, 1) := by decide +kernel
theorem dX6_leave_27 : decode cX6_leave 27 = .ok (.getfield 32, 3) := by decide +kernel
theorem dX6_leave_30 : decode cX6_leave 30 = .ok (.aload_n 0, 1) := by decide +kernel
theorem dX6_leave_31 : decode cX6_leave 31 = .ok (.getfield 19, 3) := by decide +kernel
theorem dX6_leave_34 : decode cX6_leave 34 = .ok (.invokevirtual 209, 3) := by decide +kernel
theorem dX6_leave_37 : decode cX6_leave 37 = .ok (.aload_n 0, 1) := by decide +kernel
theorem dX6_leave_38 : decode cX6_leave 38 = .ok (.getfield 19, 3) := by decide +kernel
theorem dX6_leave_41 : decode cX6_leave 41 = .ok (.getfield 128, 3) := by decide +kernel
theorem dX6_leave_44 : decode cX6_leave 44 = .ok (.iload_n 1, 1) := by decide +kernel
theorem dX6_leave_45 : decode cX6_leave 45 = .ok (.aaload, 1) := by decide +kernel
theorem dX6_leave_46 : decode cX6_leave 46 = .ok (.invokevirtual 247, 3) := by decide +kernel
theorem dX6_leave_49 : decode cX6_leave 49 = .ok (.aload_n 0, 1) := by decide +kernel
theorem dX6_leave_50 : decode cX6_leave 50 = .ok (.getfield 19, 3) := by decide +kernel
theorem dX6_leave_53 : decode cX6_leave 53 = .ok (.getfield 128, 3) := by decide +kernel
theorem dX6_leave_56 : decode cX6_leave 56 = .ok (.iload_n 1, 1) := by decide +kernel
theorem dX6_leave_57 : decode cX6_leave 57 = .ok (.aaload, 1) := by decide +kernel
theorem dX6_leave_58 : decode cX6_leave 58 = .ok (.getfield 140, 3) := by decide +kernel
theorem dX6_leave_61 : decode cX6_leave 61 = .ok (.ireturn, 1) := by decide +kernel
theorem dX6_back_0 : decode cX6_back 0 = .ok (.aload_n 0, 1) := by decide +kernel
theorem dX6_back_1 : decode cX6_back 1 = .ok (.iload_n 1, 1) := by decide +kernel
theorem dX6_back_2 : decode cX6_back 2 = .ok (.invokevirtual 125, 3) := by decide +kernel
theorem dX6_back_5 : decode cX6_back 5 = .ok (.aload_n 0, 1) := by decide +kernel
theorem dX6_back_6 : decode cX6_back 6 = .ok (.getfield 19, 3) := by decide +kernel
theorem dX6_back_9 : decode cX6_back 9 = .ok (.iload_n 1, 1) := by decide +kernel
theorem dX6_back_10 : decode cX6_back 10 = .ok (.invokevirtual 229, 3) := by decide +kernel
theorem dX6_back_13 : decode cX6_back 13 = .ok (.ifCond .ne 13, 3) := by decide +kernel
theorem dX6_back_16 : decode cX6_back 16 = .ok (.new 55, 3) := by decide +kernel
theorem dX6_back_19 : decode cX6_back 19 = .ok (.dup, 1) := by decide +kernel
theorem dX6_back_20 : decode cX6_back 20 = .ok (.ldc 250, 2) := by decide +kernel
theorem dX6_back_22 : decode cX6_back 22 = .ok (.invokespecial 59, 3) := by decide +kernel
theorem dX6_back_25 : decode cX6_back 25 = .ok (.athrow, 1) := by decide +kernel
theorem dX6_back_26 : decode cX6_back 26 = .ok (.aload_n 0, 1) := by decide +kernel
theorem dX6_back_27 : decode cX6_back 27 = .ok (.getfield 32, 3) := by decide +kernel
theorem dX6_back_30 : decode cX6_back 30 = .ok (.aload_n 0, 1) := by decide +kernel
theorem dX6_back_31 : decode cX6_back 31 = .ok (.getfield 19, 3) := by decide +kernel
theorem dX6_back_34 : decode cX6_back 34 = .ok (.invokevirtual 209, 3) := by decide +kernel
theorem dX6_back_37 : decode cX6_back 37 = .ok (.aload_n 0, 1) := by decide +kernel
theorem dX6_back_38 : decode cX6_back 38 = .ok (.getfield 19, 3) := by decide +kernel
theorem dX6_back_41 : decode cX6_back 41 = .ok (.getfield 128, 3) := by decide +kernel
theorem dX6_back_44 : decode cX6_back 44 = .ok (.iload_n 1, 1) := by decide +kernel
theorem dX6_back_45 : decode cX6_back 45 = .ok (.aaload, 1) := by decide +kernel
theorem dX6_back_46 : decode cX6_back 46 = .ok (.invokevirtual 252, 3) := by decide +kernel
theorem dX6_back_49 : decode cX6_back 49 = .ok (.aload_n 0, 1) := by decide +kernel
theorem dX6_back_50 : decode cX6_back 50 = .ok (.getfield 19, 3) := by decide +kernel
theorem dX6_back_53 : decode cX6_back 53 = .ok (.getfield 128, 3) := by decide +kernel
theorem dX6_back_56 : decode cX6_back 56 = .ok (.iload_n 1, 1) := by decide +kernel
theorem dX6_back_57 : decode cX6_back 57 = .ok (.aaload, 1) := by decide +kernel
theorem dX6_back_58 : decode cX6_back 58 = .ok (.getfield 140, 3) := by decide +kernel
theorem dX6_back_61 : decode cX6_back 61 = .ok (.ireturn, 1) := by decide +kernel
theorem dX6_set_0 : decode cX6_set 0 = .ok (.iload_n 1, 1) := by decide +kernel
theorem dX6_set_1 : decode cX6_set 1 = .ok (.invokestatic 255, 3) := by decide +kernel
theorem dX6_set_4 : decode cX6_set 4 = .ok (.ifCond .ne 14, 3) := by decide +kernel
theorem dX6_set_7 : decode cX6_set 7 = .ok (.new 44, 3) := by decide +kernel
theorem dX6_set_10 : decode cX6_set 10 = .ok (.dup, 1) := by decide +kernel
theorem dX6_set_11 : decode cX6_set 11 = .ok (.ldc_w 258, 3) := by decide +kernel
theorem dX6_set_14 : decode cX6_set 14 = .ok (.invokespecial 48, 3) := by decide +kernel
theorem dX6_set_17 : decode cX6_set 17 = .ok (.athrow, 1) := by decide +kernel
theorem dX6_set_18 : decode cX6_set 18 = .ok (.aload_n 0, 1) := by decide +kernel
theorem dX6_set_19 : decode cX6_set 19 = .ok (.getfield 32, 3) := by decide +kernel
theorem dX6_set_22 : decode cX6_set 22 = .ok (.aload_n 0, 1) := by decide +kernel
theorem dX6_set_23 : decode cX6_set 23 = .ok (.getfield 19, 3) := by decide +kernel
theorem dX6_set_26 : decode cX6_set 26 = .ok (.invokevirtual 209, 3) := by decide +kernel
theorem dX6_set_29 : decode cX6_set 29 = .ok (.aload_n 0, 1) := by decide +kernel
theorem dX6_set_30 : decode cX6_set 30 = .ok (.getfield 19, 3) := by decide +kernel
theorem dX6_set_33 : decode cX6_set 33 = .ok (.getfield 120, 3) := by decide +kernel
theorem dX6_set_36 : decode cX6_set 36 = .ok (.istore_n 2, 1) := by decide +kernel
theorem dX6_set_37 : decode cX6_set 37 = .ok (.aload_n 0, 1) := by decide +kernel
theorem dX6_set_38 : decode cX6_set 38 = .ok (.getfield 19, 3) := by decide +kernel
theorem dX6_set_41 : decode cX6_set 41 = .ok (.iload_n 1, 1) := by decide +kernel
theorem dX6_set_42 : decode cX6_set 42 = .ok (.putfield 120, 3) := by decide +kernel
theorem dX6_set_45 : decode cX6_set 45 = .ok (.iload_n 2, 1) := by decide +kernel
theorem dX6_set_46 : decode cX6_set 46 = .ok (.ireturn, 1) := by decide +kernel
theorem dX6_ticks_0 : decode cX6_ticks 0 = .ok (.iload_n 1, 1) := by decide +kernel
theorem dX6_ticks_1 : decode cX6_ticks 1 = .ok (.invokestatic 260, 3) := by decide +kernel
theorem dX6_ticks_4 : decode cX6_ticks 4 = .ok (.ifCond .ne 14, 3) := by decide +kernel
theorem dX6_ticks_7 : decode cX6_ticks 7 = .ok (.new 44, 3) := by decide +kernel
theorem dX6_ticks_10 : decode cX6_ticks 10 = .ok (.dup, 1) := by decide +kernel
theorem dX6_ticks_11 : decode cX6_ticks 11 = .ok (.ldc_w 263, 3) := by decide +kernel
theorem dX6_ticks_14 : decode cX6_ticks 14 = .ok (.invokespecial 48, 3) := by decide +kernel
theorem dX6_ticks_17 : decode cX6_ticks 17 = .ok (.athrow, 1) := by decide +kernel
theorem dX6_ticks_18 : decode cX6_ticks 18 = .ok (.aload_n 0, 1) := by decide +kernel
theorem dX6_ticks_19 : decode cX6_ticks 19 = .ok (.getfield 32, 3) := by decide +kernel
theorem dX6_ticks_22 : decode cX6_ticks 22 = .ok (.aload_n 0, 1) := by decide +kernel
theorem dX6_ticks_23 : decode cX6_ticks 23 = .ok (.getfield 19, 3) := by decide +kernel
theorem dX6_ticks_26 : decode cX6_ticks 26 = .ok (.invokevirtual 209, 3) := by decide +kernel
theorem dX6_ticks_29 : decode cX6_ticks 29 = .ok (.aload_n 0, 1) := by decide +kernel
theorem dX6_ticks_30 : decode cX6_ticks 30 = .ok (.getfield 19, 3) := by decide +kernel
theorem dX6_ticks_33 : decode cX6_ticks 33 = .ok (.getfield 114, 3) := by decide +kernel
theorem dX6_ticks_36 : decode cX6_ticks 36 = .ok (.istore_n 2, 1) := by decide +kernel
theorem dX6_ticks_37 : decode cX6_ticks 37 = .ok (.aload_n 0, 1) := by decide +kernel
theorem dX6_ticks_38 : decode cX6_ticks 38 = .ok (.getfield 19, 3) := by decide +kernel
theorem dX6_ticks_41 : decode cX6_ticks 41 = .ok (.iload_n 1, 1) := by decide +kernel
theorem dX6_ticks_42 : decode cX6_ticks 42 = .ok (.invokevirtual 265, 3) := by decide +kernel
theorem dX6_ticks_45 : decode cX6_ticks 45 = .ok (.aload_n 0, 1) := by decide +kernel
theorem dX6_ticks_46 : decode cX6_ticks 46 = .ok (.getfield 19, 3) := by decide +kernel
theorem dX6_ticks_49 : decode cX6_ticks 49 = .ok (.getfield 114, 3) := by decide +kernel
theorem dX6_ticks_52 : decode cX6_ticks 52 = .ok (.iload_n 2, 1) := by decide +kernel
theorem dX6_ticks_53 : decode cX6_ticks 53 = .ok (.isub, 1) := by decide +kernel
theorem dX6_ticks_54 : decode cX6_ticks 54 = .ok (.ireturn, 1) := by decide +kernel
theorem dX6_undo_0 : decode cX6_undo 0 = .ok (.aload_n 0, 1) := by decide +kernel
theorem dX6_undo_1 : decode cX6_undo 1 = .ok (.getfield 32, 3) := by decide +kernel
theorem dX6_undo_4 : decode cX6_undo 4 = .ok (.getfield 74, 3) := by decide +kernel
theorem dX6_undo_7 : decode cX6_undo 7 = .ok (.ifCond .gt 14, 3) := by decide +kernel
theorem dX6_undo_10 : decode cX6_undo 10 = .ok (.new 55, 3) := by decide +kernel
theorem dX6_undo_13 : decode cX6_undo 13 = .ok (.dup, 1) := by decide +kernel
theorem dX6_undo_14 : decode cX6_undo 14 = .ok (.ldc_w 268, 3) := by decide +kernel
theorem dX6_undo_17 : decode cX6_undo 17 = .ok (.invokespecial 59, 3) := by decide +kernel
theorem dX6_undo_20 : decode cX6_undo 20 = .ok (.athrow, 1) := by decide +kernel
theorem dX6_undo_21 : decode cX6_undo 21 = .ok (.aload_n 0, 1) := by decide +kernel
theorem dX6_undo_22 : decode cX6_undo 22 = .ok (.getfield 19, 3) := by decide +kernel
theorem dX6_undo_25 : decode cX6_undo 25 = .ok (.aload_n 0, 1) := by decide +kernel
theorem dX6_undo_26 : decode cX6_undo 26 = .ok (.getfield 32, 3) := by decide +kernel
theorem dX6_undo_29 : decode cX6_undo 29 = .ok (.invokevirtual 270, 3) := by decide +kernel
theorem dX6_undo_32 : decode cX6_undo 32 = .ok (.invokevirtual 70, 3) := by decide +kernel
theorem dX6_undo_35 : decode cX6_undo 35 = .ok (.aload_n 0, 1) := by decide +kernel
theorem dX6_undo_36 : decode cX6_undo 36 = .ok (.getfield 32, 3) := by decide +kernel
theorem dX6_undo_39 : decode cX6_undo 39 = .ok (.getfield 74, 3) := by decide +kernel
theorem dX6_undo_42 : decode cX6_undo 42 = .ok (.ireturn, 1) := by decide +kernel
theorem dX6_standsIn_0 : decode cX6_standsIn 0 = .ok (.aload_n 0, 1) := by decide +kernel
theorem dX6_standsIn_1 : decode cX6_standsIn 1 = .ok (.iload_n 1, 1) := by decide +kernel
theorem dX6_standsIn_2 : decode cX6_standsIn 2 = .ok (.invokevirtual 125, 3) := by decide +kernel
theorem dX6_standsIn_5 : decode cX6_standsIn 5 = .ok (.iload_n 3, 1) := by decide +kernel
theorem dX6_standsIn_6 : decode cX6_standsIn 6 = .ok (.ifCond .lt 20, 3) := by decide +kernel
theorem dX6_standsIn_9 : decode cX6_standsIn 9 = .ok (.iload_n 3, 1) := by decide +kernel
theorem dX6_standsIn_10 : decode cX6_standsIn 10 = .ok (.iconst 1, 1) := by decide +kernel
theorem dX6_standsIn_11 : decode cX6_standsIn 11 = .ok (.if_icmp .gt 15, 3) := by decide +kernel
theorem dX6_standsIn_14 : decode cX6_standsIn 14 = .ok (.aload_n 0, 1) := by decide +kernel
theorem dX6_standsIn_15 : decode cX6_standsIn 15 = .ok (.getfield 19, 3) := by decide +kernel
theorem dX6_standsIn_18 : decode cX6_standsIn 18 = .ok (.iload_n 1, 1) := by decide +kernel
theorem dX6_standsIn_19 : decode cX6_standsIn 19 = .ok (.iload_n 2, 1) := by decide +kernel
theorem dX6_standsIn_20 : decode cX6_standsIn 20 = .ok (.invokevirtual 224, 3) := by decide +kernel
theorem dX6_standsIn_23 : decode cX6_standsIn 23 = .ok (.ifCond .ne 14, 3) := by decide +kernel
theorem dX6_standsIn_26 : decode cX6_standsIn 26 = .ok (.new 44, 3) := by decide +kernel
theorem dX6_standsIn_29 : decode cX6_standsIn 29 = .ok (.dup, 1) := by decide +kernel
theorem dX6_standsIn_30 : decode cX6_standsIn 30 = .ok (.ldc_w 274, 3) := by decide +kernel
theorem dX6_standsIn_33 : decode cX6_standsIn 33 = .ok (.invokespecial 48, 3) := by decide +kernel
theorem dX6_standsIn_36 : decode cX6_standsIn 36 = .ok (.athrow, 1) := by decide +kernel
theorem dX6_standsIn_37 : decode cX6_standsIn 37 = .ok (.aload_n 0, 1) := by decide +kernel
theorem dX6_standsIn_38 : decode cX6_standsIn 38 = .ok (.getfield 19, 3) := by decide +kernel
theorem dX6_standsIn_41 : decode cX6_standsIn 41 = .ok (.iload_n 1, 1) := by decide +kernel
theorem dX6_standsIn_42 : decode cX6_standsIn 42 = .ok (.invokevirtual 229, 3) := by decide +kernel
theorem dX6_standsIn_45 : decode cX6_standsIn 45 = .ok (.ifCond .eq 5, 3) := by decide +kernel
theorem dX6_standsIn_48 : decode cX6_standsIn 48 = .ok (.iconst (-1), 1) := by decide +kernel
theorem dX6_standsIn_49 : decode cX6_standsIn 49 = .ok (.ireturn, 1) := by decide +kernel
theorem dX6_standsIn_50 : decode cX6_standsIn 50 = .ok (.aload_n 0, 1) := by decide +kernel
theorem dX6_standsIn_51 : decode cX6_standsIn 51 = .ok (.getfield 26, 3) := by decide +kernel
theorem dX6_standsIn_54 : decode cX6_standsIn 54 = .ok (.aload_n 0, 1) := by decide +kernel
theorem dX6_standsIn_55 : decode cX6_standsIn 55 = .ok (.getfield 19, 3) := by decide +kernel
theorem dX6_standsIn_58 : decode cX6_standsIn 58 = .ok (.invokevirtual 70, 3) := by decide +kernel
theorem dX6_standsIn_61 : decode cX6_standsIn 61 = .ok (.aload_n 0, 1) := by decide +kernel
theorem dX6_standsIn_62 : decode cX6_standsIn 62 = .ok (.getfield 26, 3) := by decide +kernel
theorem dX6_standsIn_65 : decode cX6_standsIn 65 = .ok (.iload_n 1, 1) := by decide +kernel
theorem dX6_standsIn_66 : decode cX6_standsIn 66 = .ok (.iload_n 2, 1) := by decide +kernel
theorem dX6_standsIn_67 : decode cX6_standsIn 67 = .ok (.invokevirtual 234, 3) := by decide +kernel
theorem dX6_standsIn_70 : decode cX6_standsIn 70 = .ok (.istore 4, 2) := by decide +kernel
theorem dX6_standsIn_72 : decode cX6_standsIn 72 = .ok (.iconst 0, 1) := by decide +kernel
theorem dX6_standsIn_73 : decode cX6_standsIn 73 = .ok (.istore 5, 2) := by decide +kernel
theorem dX6_standsIn_75 : decode cX6_standsIn 75 = .ok (.iload 5, 2) := by decide +kernel
theorem dX6_standsIn_77 : decode cX6_standsIn 77 = .ok (.bipush 100, 2) := by decide +kernel
theorem dX6_standsIn_79 : decode cX6_standsIn 79 = .ok (.if_icmp .gt 59, 3) := by decide +kernel
theorem dX6_standsIn_82 : decode cX6_standsIn 82 = .ok (.iload_n 3, 1) := by decide +kernel
theorem dX6_standsIn_83 : decode cX6_standsIn 83 = .ok (.ifCond .ne 24, 3) := by decide +kernel
theorem dX6_standsIn_86 : decode cX6_standsIn 86 = .ok (.aload_n 0, 1) := by decide +kernel
theorem dX6_standsIn_87 : decode cX6_standsIn 87 = .ok (.getfield 26, 3) := by decide +kernel
theorem dX6_standsIn_90 : decode cX6_standsIn 90 = .ok (.getfield 128, 3) := by decide +kernel
theorem dX6_standsIn_93 : decode cX6_standsIn 93 = .ok (.iload_n 1, 1) := by decide +kernel
theorem dX6_standsIn_94 : decode cX6_standsIn 94 = .ok (.aaload, 1) := by decide +kernel
theorem dX6_standsIn_95 : decode cX6_standsIn 95 = .ok (.iload 4, 2) := by decide +kernel
theorem dX6_standsIn_97 : decode cX6_standsIn 97 = .ok (.iload_n 1, 1) := by decide +kernel
theorem dX6_standsIn_98 : decode cX6_standsIn 98 = .ok (.invokevirtual 276, 3) := by decide +kernel
theorem dX6_standsIn_101 : decode cX6_standsIn 101 = .ok (.ifCond .eq 23, 3) := by decide +kernel
theorem dX6_standsIn_104 : decode cX6_standsIn 104 = .ok (.goto 17, 3) := by decide +kernel
theorem dX6_standsIn_107 : decode cX6_standsIn 107 = .ok (.aload_n 0, 1) := by decide +kernel
theorem dX6_standsIn_108 : decode cX6_standsIn 108 = .ok (.getfield 26, 3) := by decide +kernel
theorem dX6_standsIn_111 : decode cX6_standsIn 111 = .ok (.iload_n 2, 1) := by decide +kernel
theorem dX6_standsIn_112 : decode cX6_standsIn 112 = .ok (.iload 4, 2) := by decide +kernel
theorem dX6_standsIn_114 : decode cX6_standsIn 114 = .ok (.iload_n 1, 1) := by decide +kernel
theorem dX6_standsIn_115 : decode cX6_standsIn 115 = .ok (.invokevirtual 279, 3) := by decide +kernel
theorem dX6_standsIn_118 : decode cX6_standsIn 118 = .ok (.ifCond .eq 6, 3) := by decide +kernel
theorem dX6_standsIn_121 : decode cX6_standsIn 121 = .ok (.iload 5, 2) := by decide +kernel
theorem dX6_standsIn_123 : decode cX6_standsIn 123 = .ok (.ireturn, 1) := by decide +kernel
theorem dX6_standsIn_124 : decode cX6_standsIn 124 = .ok (.aload_n 0, 1) := by decide +kernel
theorem dX6_standsIn_125 : decode cX6_standsIn 125 = .ok (.getfield 26, 3) := by decide +kernel
theorem dX6_standsIn_128 : decode cX6_standsIn 128 = .ok (.iconst 1, 1) := by decide +kernel
theorem dX6_standsIn_129 : decode cX6_standsIn 129 = .ok (.invokevirtual 265, 3) := by decide +kernel
theorem dX6_standsIn_132 : decode cX6_standsIn 132 = .ok (.iinc 5 1, 3) := by decide +kernel
theorem dX6_standsIn_135 : decode cX6_standsIn 135 = .ok (.goto (-60), 3) := by decide +kernel
theorem dX6_standsIn_138 : decode cX6_standsIn 138 = .ok (.iconst (-1), 1) := by decide +kernel
theorem dX6_standsIn_139 : decode cX6_standsIn 139 = .ok (.ireturn, 1) := by decide +kernel
theorem dX6_compare_0 : decode cX6_compare 0 = .ok (.aload_n 0, 1) := by decide +kernel
theorem dX6_compare_1 : decode cX6_compare 1 = .ok (.iload_n 1, 1) := by decide +kernel
theorem dX6_compare_2 : decode cX6_compare 2 = .ok (.invokevirtual 125, 3) := by decide +kernel
theorem dX6_compare_5 : decode cX6_compare 5 = .ok (.aload_n 0, 1) := by decide +kernel
theorem dX6_compare_6 : decode cX6_compare 6 = .ok (.iload_n 2, 1) := by decide +kernel
theorem dX6_compare_7 : decode cX6_compare 7 = .ok (.invokevirtual 125, 3) := by decide +kernel
theorem dX6_compare_10 : decode cX6_compare 10 = .ok (.iload_n 3, 1) := by decide +kernel
theorem dX6_compare_11 : decode cX6_compare 11 = .ok (.lookupswitch 47 #[(0, 25), (1, 36)], 25) := by decide +kernel
theorem dX6_compare_36 : decode cX6_compare 36 = .ok (.aload_n 0, 1) := by decide +kernel
theorem dX6_compare_37 : decode cX6_compare 37 = .ok (.getfield 19, 3) := by decide +kernel
theorem dX6_compare_40 : decode cX6_compare 40 = .ok (.iload_n 1, 1) := by decide +kernel
theorem dX6_compare_41 : decode cX6_compare 41 = .ok (.iload_n 2, 1) := by decide +kernel
theorem dX6_compare_42 : decode cX6_compare 42 = .ok (.iconst 0, 1) := by decide +kernel
theorem dX6_compare_43 : decode cX6_compare 43 = .ok (.invokevirtual 282, 3) := by decide +kernel
theorem dX6_compare_46 : decode cX6_compare 46 = .ok (.ireturn, 1) := by decide +kernel
theorem dX6_compare_47 : decode cX6_compare 47 = .ok (.aload_n 0, 1) := by decide +kernel
theorem dX6_compare_48 : decode cX6_compare 48 = .ok (.getfield 19, 3) := by decide +kernel
theorem dX6_compare_51 : decode cX6_compare 51 = .ok (.iload_n 1, 1) := by decide +kernel
theorem dX6_compare_52 : decode cX6_compare 52 = .ok (.iload_n 2, 1) := by decide +kernel
theorem dX6_compare_53 : decode cX6_compare 53 = .ok (.iconst 1, 1) := by decide +kernel
theorem dX6_compare_54 : decode cX6_compare 54 = .ok (.invokevirtual 282, 3) := by decide +kernel
theorem dX6_compare_57 : decode cX6_compare 57 = .ok (.ireturn, 1) := by decide +kernel
theorem dX6_compare_58 : decode cX6_compare 58 = .ok (.new 44, 3) := by decide +kernel
theorem dX6_compare_61 : decode cX6_compare 61 = .ok (.dup, 1) := by decide +kernel
theorem dX6_compare_62 : decode cX6_compare 62 = .ok (.ldc_w 286, 3) := by decide +kernel
theorem dX6_compare_65 : decode cX6_compare 65 = .ok (.invokespecial 48, 3) := by decide +kernel
theorem dX6_compare_68 : decode cX6_compare 68 = .ok (.athrow, 1) := by decide +kernel
theorem dX6_lacks_0 : decode cX6_lacks 0 = .ok (.aload_n 0, 1) := by decide +kernel
theorem dX6_lacks_1 : decode cX6_lacks 1 = .ok (.iload_n 1, 1) := by decide +kernel
theorem dX6_lacks_2 : decode cX6_lacks 2 = .ok (.invokevirtual 125, 3) := by decide +kernel
theorem dX6_lacks_5 : decode cX6_lacks 5 = .ok (.aload_n 0, 1) := by decide +kernel
theorem dX6_lacks_6 : decode cX6_lacks 6 = .ok (.getfield 19, 3) := by decide +kernel
theorem dX6_lacks_9 : decode cX6_lacks 9 = .ok (.iload_n 1, 1) := by decide +kernel
theorem dX6_lacks_10 : decode cX6_lacks 10 = .ok (.invokevirtual 288, 3) := by decide +kernel
theorem dX6_lacks_13 : decode cX6_lacks 13 = .ok (.invokestatic 291, 3) := by decide +kernel
theorem dX6_lacks_16 : decode cX6_lacks 16 = .ok (.ireturn, 1) := by decide +kernel
theorem dX6_together_0 : decode cX6_together 0 = .ok (.iconst 0, 1) := by decide +kernel
theorem dX6_together_1 : decode cX6_together 1 = .ok (.istore_n 1, 1) := by decide +kernel
theorem dX6_together_2 : decode cX6_together 2 = .ok (.iconst 0, 1) := by decide +kernel
theorem dX6_together_3 : decode cX6_together 3 = .ok (.istore_n 2, 1) := by decide +kernel
theorem dX6_together_4 : decode cX6_together 4 = .ok (.iload_n 2, 1) := by decide +kernel
theorem dX6_together_5 : decode cX6_together 5 = .ok (.aload_n 0, 1) := by decide +kernel
theorem dX6_together_6 : decode cX6_together 6 = .ok (.getfield 19, 3) := by decide +kernel
theorem dX6_together_9 : decode cX6_together 9 = .ok (.getfield 94, 3) := by decide +kernel
theorem dX6_together_12 : decode cX6_together 12 = .ok (.if_icmp .ge 31, 3) := by decide +kernel
theorem dX6_together_15 : decode cX6_together 15 = .ok (.aload_n 0, 1) := by decide +kernel
theorem dX6_together_16 : decode cX6_together 16 = .ok (.getfield 19, 3) := by decide +kernel
theorem dX6_together_19 : decode cX6_together 19 = .ok (.iload_n 2, 1) := by decide +kernel
theorem dX6_together_20 : decode cX6_together 20 = .ok (.invokevirtual 296, 3) := by decide +kernel
theorem dX6_together_23 : decode cX6_together 23 = .ok (.istore_n 3, 1) := by decide +kernel
theorem dX6_together_24 : decode cX6_together 24 = .ok (.iload_n 3, 1) := by decide +kernel
theorem dX6_together_25 : decode cX6_together 25 = .ok (.invokestatic 291, 3) := by decide +kernel
theorem dX6_together_28 : decode cX6_together 28 = .ok (.iload_n 1, 1) := by decide +kernel
theorem dX6_together_29 : decode cX6_together 29 = .ok (.invokestatic 291, 3) := by decide +kernel
theorem dX6_together_32 : decode cX6_together 32 = .ok (.if_icmp .le 5, 3) := by decide +kernel
theorem dX6_together_35 : decode cX6_together 35 = .ok (.iload_n 3, 1) := by decide +kernel
theorem dX6_together_36 : decode cX6_together 36 = .ok (.istore_n 1, 1) := by decide +kernel
theorem dX6_together_37 : decode cX6_together 37 = .ok (.iinc 2 1, 3) := by decide +kernel
theorem dX6_together_40 : decode cX6_together 40 = .ok (.goto (-36), 3) := by decide +kernel
theorem dX6_together_43 : decode cX6_together 43 = .ok (.iload_n 1, 1) := by decide +kernel
theorem dX6_together_44 : decode cX6_together 44 = .ok (.ireturn, 1) := by decide +kernel
theorem dX6_runScript_0 : decode cX6_runScript 0 = .ok (.iload_n 1, 1) := by decide +kernel
theorem dX6_runScript_1 : decode cX6_runScript 1 = .ok (.iconst 1, 1) := by decide +kernel
theorem dX6_runScript_2 : decode cX6_runScript 2 = .ok (.if_icmp .lt 8, 3) := by decide +kernel
theorem dX6_runScript_5 : decode cX6_runScript 5 = .ok (.iload_n 1, 1) := by decide +kernel
theorem dX6_runScript_6 : decode cX6_runScript 6 = .ok (.iconst 3, 1) := by decide +kernel
theorem dX6_runScript_7 : decode cX6_runScript 7 = .ok (.if_icmp .le 14, 3) := by decide +kernel
theorem dX6_runScript_10 : decode cX6_runScript 10 = .ok (.new 44, 3) := by decide +kernel
theorem dX6_runScript_13 : decode cX6_runScript 13 = .ok (.dup, 1) := by decide +kernel
theorem dX6_runScript_14 : decode cX6_runScript 14 = .ok (.ldc_w 299, 3) := by decide +kernel
theorem dX6_runScript_17 : decode cX6_runScript 17 = .ok (.invokespecial 48, 3) := by decide +kernel
theorem dX6_runScript_20 : decode cX6_runScript 20 = .ok (.athrow, 1) := by decide +kernel
theorem dX6_runScript_21 : decode cX6_runScript 21 = .ok (.lconst 1, 1) := by decide +kernel
theorem dX6_runScript_22 : decode cX6_runScript 22 = .ok (.lstore 4, 2) := by decide +kernel
theorem dX6_runScript_24 : decode cX6_runScript 24 = .ok (.iconst 0, 1) := by decide +kernel
theorem dX6_runScript_25 : decode cX6_runScript 25 = .ok (.istore 6, 2) := by decide +kernel
theorem dX6_runScript_27 : decode cX6_runScript 27 = .ok (.iload 6, 2) := by decide +kernel
theorem dX6_runScript_29 : decode cX6_runScript 29 = .ok (.iload_n 1, 1) := by decide +kernel
theorem dX6_runScript_30 : decode cX6_runScript 30 = .ok (.if_icmp .ge 17, 3) := by decide +kernel
theorem dX6_runScript_33 : decode cX6_runScript 33 = .ok (.lload 4, 2) := by decide +kernel
theorem dX6_runScript_35 : decode cX6_runScript 35 = .ok (.ldc2_w 301, 3) := by decide +kernel
theorem dX6_runScript_38 : decode cX6_runScript 38 = .ok (.lmul, 1) := by decide +kernel
theorem dX6_runScript_39 : decode cX6_runScript 39 = .ok (.lstore 4, 2) := by decide +kernel
theorem dX6_runScript_41 : decode cX6_runScript 41 = .ok (.iinc 6 1, 3) := by decide +kernel
theorem dX6_runScript_44 : decode cX6_runScript 44 = .ok (.goto (-17), 3) := by decide +kernel
theorem dX6_runScript_47 : decode cX6_runScript 47 = .ok (.lload_n 2, 1) := by decide +kernel
theorem dX6_runScript_48 : decode cX6_runScript 48 = .ok (.lconst 0, 1) := by decide +kernel
theorem dX6_runScript_49 : decode cX6_runScript 49 = .ok (.lcmp, 1) := by decide +kernel
theorem dX6_runScript_50 : decode cX6_runScript 50 = .ok (.ifCond .lt 10, 3) := by decide +kernel
theorem dX6_runScript_53 : decode cX6_runScript 53 = .ok (.lload_n 2, 1) := by decide +kernel
theorem dX6_runScript_54 : decode cX6_runScript 54 = .ok (.lload 4, 2) := by decide +kernel
theorem dX6_runScript_56 : decode cX6_runScript 56 = .ok (.lcmp, 1) := by decide +kernel
theorem dX6_runScript_57 : decode cX6_runScript 57 = .ok (.ifCond .lt 14, 3) := by decide +kernel
theorem dX6_runScript_60 : decode cX6_runScript 60 = .ok (.new 44, 3) := by decide +kernel
theorem dX6_runScript_63 : decode cX6_runScript 63 = .ok (.dup, 1) := by decide +kernel
theorem dX6_runScript_64 : decode cX6_runScript 64 = .ok (.ldc_w 303, 3) := by decide +kernel
theorem dX6_runScript_67 : decode cX6_runScript 67 = .ok (.invokespecial 48, 3) := by decide +kernel
theorem dX6_runScript_70 : decode cX6_runScript 70 = .ok (.athrow, 1) := by decide +kernel
theorem dX6_runScript_71 : decode cX6_runScript 71 = .ok (.aload_n 0, 1) := by decide +kernel
theorem dX6_runScript_72 : decode cX6_runScript 72 = .ok (.getfield 26, 3) := by decide +kernel
theorem dX6_runScript_75 : decode cX6_runScript 75 = .ok (.aload_n 0, 1) := by decide +kernel
theorem dX6_runScript_76 : decode cX6_runScript 76 = .ok (.getfield 19, 3) := by decide +kernel
theorem dX6_runScript_79 : decode cX6_runScript 79 = .ok (.invokevirtual 70, 3) := by decide +kernel
theorem dX6_runScript_82 : decode cX6_runScript 82 = .ok (.lload_n 2, 1) := by decide +kernel
theorem dX6_runScript_83 : decode cX6_runScript 83 = .ok (.lstore 6, 2) := by decide +kernel
theorem dX6_runScript_85 : decode cX6_runScript 85 = .ok (.iload_n 1, 1) := by decide +kernel
theorem dX6_runScript_86 : decode cX6_runScript 86 = .ok (.istore 8, 2) := by decide +kernel
theorem dX6_runScript_88 : decode cX6_runScript 88 = .ok (.iload 8, 2) := by decide +kernel
theorem dX6_runScript_90 : decode cX6_runScript 90 = .ok (.iconst 3, 1) := by decide +kernel
theorem dX6_runScript_91 : decode cX6_runScript 91 = .ok (.if_icmp .ge 17, 3) := by decide +kernel
theorem dX6_runScript_94 : decode cX6_runScript 94 = .ok (.lload 6, 2) := by decide +kernel
theorem dX6_runScript_96 : decode cX6_runScript 96 = .ok (.ldc2_w 301, 3) := by decide +kernel
theorem dX6_runScript_99 : decode cX6_runScript 99 = .ok (.lmul, 1) := by decide +kernel
theorem dX6_runScript_100 : decode cX6_runScript 100 = .ok (.lstore 6, 2) := by decide +kernel
theorem dX6_runScript_102 : decode cX6_runScript 102 = .ok (.iinc 8 1, 3) := by decide +kernel
theorem dX6_runScript_105 : decode cX6_runScript 105 = .ok (.goto (-17), 3) := by decide +kernel
theorem dX6_runScript_108 : decode cX6_runScript 108 = .ok (.iconst 0, 1) := by decide +kernel
theorem dX6_runScript_109 : decode cX6_runScript 109 = .ok (.istore 8, 2) := by decide +kernel
theorem dX6_runScript_111 : decode cX6_runScript 111 = .ok (.iload 8, 2) := by decide +kernel
theorem dX6_runScript_113 : decode cX6_runScript 113 = .ok (.iload_n 1, 1) := by decide +kernel
theorem dX6_runScript_114 : decode cX6_runScript 114 = .ok (.if_icmp .ge 38, 3) := by decide +kernel
theorem dX6_runScript_117 : decode cX6_runScript 117 = .ok (.aload_n 0, 1) := by decide +kernel
theorem dX6_runScript_118 : decode cX6_runScript 118 = .ok (.lload 6, 2) := by decide +kernel
theorem dX6_runScript_120 : decode cX6_runScript 120 = .ok (.ldc2_w 305, 3) := by decide +kernel
theorem dX6_runScript_123 : decode cX6_runScript 123 = .ok (.ldiv, 1) := by decide +kernel
theorem dX6_runScript_124 : decode cX6_runScript 124 = .ok (.l2i, 1) := by decide +kernel
theorem dX6_runScript_125 : decode cX6_runScript 125 = .ok (.invokevirtual 307, 3) := by decide +kernel
theorem dX6_runScript_128 : decode cX6_runScript 128 = .ok (.ifCond .ne 6, 3) := by decide +kernel
theorem dX6_runScript_131 : decode cX6_runScript 131 = .ok (.iload 8, 2) := by decide +kernel
theorem dX6_runScript_133 : decode cX6_runScript 133 = .ok (.ireturn, 1) := by decide +kernel
theorem dX6_runScript_134 : decode cX6_runScript 134 = .ok (.lload 6, 2) := by decide +kernel
theorem dX6_runScript_136 : decode cX6_runScript 136 = .ok (.ldc2_w 305, 3) := by decide +kernel
theorem dX6_runScript_139 : decode cX6_runScript 139 = .ok (.lrem, 1) := by decide +kernel
theorem dX6_runScript_140 : decode cX6_runScript 140 = .ok (.ldc2_w 301, 3) := by decide +kernel
theorem dX6_runScript_143 : decode cX6_runScript 143 = .ok (.lmul, 1) := by decide +kernel
theorem dX6_runScript_144 : decode cX6_runScript 144 = .ok (.lstore 6, 2) := by decide +kernel
theorem dX6_runScript_146 : decode cX6_runScript 146 = .ok (.iinc 8 1, 3) := by decide +kernel
theorem dX6_runScript_149 : decode cX6_runScript 149 = .ok (.goto (-38), 3) := by decide +kernel
theorem dX6_runScript_152 : decode cX6_runScript 152 = .ok (.iconst (-1), 1) := by decide +kernel
theorem dX6_runScript_153 : decode cX6_runScript 153 = .ok (.ireturn, 1) := by decide +kernel
theorem dX6_simulate_0 : decode cX6_simulate 0 = .ok (.iload_n 3, 1) := by decide +kernel
theorem dX6_simulate_1 : decode cX6_simulate 1 = .ok (.iconst 1, 1) := by decide +kernel
theorem dX6_simulate_2 : decode cX6_simulate 2 = .ok (.if_icmp .lt 9, 3) := by decide +kernel
theorem dX6_simulate_5 : decode cX6_simulate 5 = .ok (.iload_n 3, 1) := by decide +kernel
theorem dX6_simulate_6 : decode cX6_simulate 6 = .ok (.bipush 60, 2) := by decide +kernel
theorem dX6_simulate_8 : decode cX6_simulate 8 = .ok (.if_icmp .le 14, 3) := by decide +kernel
theorem dX6_simulate_11 : decode cX6_simulate 11 = .ok (.new 44, 3) := by decide +kernel
theorem dX6_simulate_14 : decode cX6_simulate 14 = .ok (.dup, 1) := by decide +kernel
theorem dX6_simulate_15 : decode cX6_simulate 15 = .ok (.ldc_w 310, 3) := by decide +kernel
theorem dX6_simulate_18 : decode cX6_simulate 18 = .ok (.invokespecial 48, 3) := by decide +kernel
theorem dX6_simulate_21 : decode cX6_simulate 21 = .ok (.athrow, 1) := by decide +kernel
theorem dX6_simulate_22 : decode cX6_simulate 22 = .ok (.aload_n 0, 1) := by decide +kernel
theorem dX6_simulate_23 : decode cX6_simulate 23 = .ok (.getfield 26, 3) := by decide +kernel
theorem dX6_simulate_26 : decode cX6_simulate 26 = .ok (.aload_n 0, 1) := by decide +kernel
theorem dX6_simulate_27 : decode cX6_simulate 27 = .ok (.getfield 19, 3) := by decide +kernel
theorem dX6_simulate_30 : decode cX6_simulate 30 = .ok (.invokevirtual 70, 3) := by decide +kernel
theorem dX6_simulate_33 : decode cX6_simulate 33 = .ok (.lload_n 1, 1) := by decide +kernel
theorem dX6_simulate_34 : decode cX6_simulate 34 = .ok (.lstore 4, 2) := by decide +kernel
theorem dX6_simulate_36 : decode cX6_simulate 36 = .ok (.iconst 0, 1) := by decide +kernel
theorem dX6_simulate_37 : decode cX6_simulate 37 = .ok (.istore 6, 2) := by decide +kernel
theorem dX6_simulate_39 : decode cX6_simulate 39 = .ok (.iload 6, 2) := by decide +kernel
theorem dX6_simulate_41 : decode cX6_simulate 41 = .ok (.iload_n 3, 1) := by decide +kernel
theorem dX6_simulate_42 : decode cX6_simulate 42 = .ok (.if_icmp .ge 31, 3) := by decide +kernel
theorem dX6_simulate_45 : decode cX6_simulate 45 = .ok (.lload 4, 2) := by decide +kernel
theorem dX6_simulate_47 : decode cX6_simulate 47 = .ok (.ldc2_w 312, 3) := by decide +kernel
theorem dX6_simulate_50 : decode cX6_simulate 50 = .ok (.lmul, 1) := by decide +kernel
theorem dX6_simulate_51 : decode cX6_simulate 51 = .ok (.ldc2_w 314, 3) := by decide +kernel
theorem dX6_simulate_54 : decode cX6_simulate 54 = .ok (.ladd, 1) := by decide +kernel
theorem dX6_simulate_55 : decode cX6_simulate 55 = .ok (.lstore 4, 2) := by decide +kernel
theorem dX6_simulate_57 : decode cX6_simulate 57 = .ok (.aload_n 0, 1) := by decide +kernel
theorem dX6_simulate_58 : decode cX6_simulate 58 = .ok (.lload 4, 2) := by decide +kernel
theorem dX6_simulate_60 : decode cX6_simulate 60 = .ok (.bipush 33, 2) := by decide +kernel
theorem dX6_simulate_62 : decode cX6_simulate 62 = .ok (.lushr, 1) := by decide +kernel
theorem dX6_simulate_63 : decode cX6_simulate 63 = .ok (.l2i, 1) := by decide +kernel
theorem dX6_simulate_64 : decode cX6_simulate 64 = .ok (.invokevirtual 316, 3) := by decide +kernel
theorem dX6_simulate_67 : decode cX6_simulate 67 = .ok (.iinc 6 1, 3) := by decide +kernel
theorem dX6_simulate_70 : decode cX6_simulate 70 = .ok (.goto (-31), 3) := by decide +kernel
theorem dX6_simulate_73 : decode cX6_simulate 73 = .ok (.aload_n 0, 1) := by decide +kernel
theorem dX6_simulate_74 : decode cX6_simulate 74 = .ok (.getfield 26, 3) := by decide +kernel
theorem dX6_simulate_77 : decode cX6_simulate 77 = .ok (.getfield 114, 3) := by decide +kernel
theorem dX6_simulate_80 : decode cX6_simulate 80 = .ok (.aload_n 0, 1) := by decide +kernel
theorem dX6_simulate_81 : decode cX6_simulate 81 = .ok (.getfield 19, 3) := by decide +kernel
theorem dX6_simulate_84 : decode cX6_simulate 84 = .ok (.getfield 114, 3) := by decide +kernel
theorem dX6_simulate_87 : decode cX6_simulate 87 = .ok (.isub, 1) := by decide +kernel
theorem dX6_simulate_88 : decode cX6_simulate 88 = .ok (.istore 6, 2) := by decide +kernel
theorem dX6_simulate_90 : decode cX6_simulate 90 = .ok (.aload_n 0, 1) := by decide +kernel
theorem dX6_simulate_91 : decode cX6_simulate 91 = .ok (.getfield 26, 3) := by decide +kernel
theorem dX6_simulate_94 : decode cX6_simulate 94 = .ok (.getfield 108, 3) := by decide +kernel
theorem dX6_simulate_97 : decode cX6_simulate 97 = .ok (.aload_n 0, 1) := by decide +kernel
theorem dX6_simulate_98 : decode cX6_simulate 98 = .ok (.getfield 19, 3) := by decide +kernel
theorem dX6_simulate_101 : decode cX6_simulate 101 = .ok (.getfield 108, 3) := by decide +kernel
theorem dX6_simulate_104 : decode cX6_simulate 104 = .ok (.isub, 1) := by decide +kernel
theorem dX6_simulate_105 : decode cX6_simulate 105 = .ok (.istore 7, 2) := by decide +kernel
theorem dX6_simulate_107 : decode cX6_simulate 107 = .ok (.aload_n 0, 1) := by decide +kernel
theorem dX6_simulate_108 : decode cX6_simulate 108 = .ok (.getfield 26, 3) := by decide +kernel
theorem dX6_simulate_111 : decode cX6_simulate 111 = .ok (.getfield 111, 3) := by decide +kernel
theorem dX6_simulate_114 : decode cX6_simulate 114 = .ok (.aload_n 0, 1) := by decide +kernel
theorem dX6_simulate_115 : decode cX6_simulate 115 = .ok (.getfield 19, 3) := by decide +kernel
theorem dX6_simulate_118 : decode cX6_simulate 118 = .ok (.getfield 111, 3) := by decide +kernel
theorem dX6_simulate_121 : decode cX6_simulate 121 = .ok (.isub, 1) := by decide +kernel
theorem dX6_simulate_122 : decode cX6_simulate 122 = .ok (.bipush 99, 2) := by decide +kernel
theorem dX6_simulate_124 : decode cX6_simulate 124 = .ok (.invokestatic 319, 3) := by decide +kernel
theorem dX6_simulate_127 : decode cX6_simulate 127 = .ok (.istore 8, 2) := by decide +kernel
theorem dX6_simulate_129 : decode cX6_simulate 129 = .ok (.sipush 10000, 3) := by decide +kernel
theorem dX6_simulate_132 : decode cX6_simulate 132 = .ok (.iload 6, 2) := by decide +kernel
theorem dX6_simulate_134 : decode cX6_simulate 134 = .ok (.imul, 1) := by decide +kernel
theorem dX6_simulate_135 : decode cX6_simulate 135 = .ok (.bipush 100, 2) := by decide +kernel
theorem dX6_simulate_137 : decode cX6_simulate 137 = .ok (.iload 7, 2) := by decide +kernel
theorem dX6_simulate_139 : decode cX6_simulate 139 = .ok (.imul, 1) := by decide +kernel
theorem dX6_simulate_140 : decode cX6_simulate 140 = .ok (.iadd, 1) := by decide +kernel
theorem dX6_simulate_141 : decode cX6_simulate 141 = .ok (.iload 8, 2) := by decide +kernel
theorem dX6_simulate_143 : decode cX6_simulate 143 = .ok (.iadd, 1) := by decide +kernel
theorem dX6_simulate_144 : decode cX6_simulate 144 = .ok (.ireturn, 1) := by decide +kernel
theorem dX6_save_0 : decode cX6_save 0 = .ok (.iload_n 1, 1) := by decide +kernel
theorem dX6_save_1 : decode cX6_save 1 = .ok (.invokestatic 324, 3) := by decide +kernel
theorem dX6_save_4 : decode cX6_save 4 = .ok (.aload_n 0, 1) := by decide +kernel
theorem dX6_save_5 : decode cX6_save 5 = .ok (.getfield 36, 3) := by decide +kernel
theorem dX6_save_8 : decode cX6_save 8 = .ok (.iload_n 1, 1) := by decide +kernel
theorem dX6_save_9 : decode cX6_save 9 = .ok (.aaload, 1) := by decide +kernel
theorem dX6_save_10 : decode cX6_save 10 = .ok (.aload_n 0, 1) := by decide +kernel
theorem dX6_save_11 : decode cX6_save 11 = .ok (.getfield 19, 3) := by decide +kernel
theorem dX6_save_14 : decode cX6_save 14 = .ok (.invokevirtual 70, 3) := by decide +kernel
theorem dX6_save_17 : decode cX6_save 17 = .ok (.aload_n 0, 1) := by decide +kernel
theorem dX6_save_18 : decode cX6_save 18 = .ok (.getfield 40, 3) := by decide +kernel
theorem dX6_save_21 : decode cX6_save 21 = .ok (.iload_n 1, 1) := by decide +kernel
theorem dX6_save_22 : decode cX6_save 22 = .ok (.iconst 1, 1) := by decide +kernel
theorem dX6_save_23 : decode cX6_save 23 = .ok (.bastore, 1) := by decide +kernel
theorem dX6_save_24 : decode cX6_save 24 = .ok (.aload_n 0, 1) := by decide +kernel
theorem dX6_save_25 : decode cX6_save 25 = .ok (.getfield 19, 3) := by decide +kernel
theorem dX6_save_28 : decode cX6_save 28 = .ok (.getfield 95, 3) := by decide +kernel
theorem dX6_save_31 : decode cX6_save 31 = .ok (.ireturn, 1) := by decide +kernel
theorem dX6_restore_0 : decode cX6_restore 0 = .ok (.iload_n 1, 1) := by decide +kernel
theorem dX6_restore_1 : decode cX6_restore 1 = .ok (.invokestatic 324, 3) := by decide +kernel
theorem dX6_restore_4 : decode cX6_restore 4 = .ok (.aload_n 0, 1) := by decide +kernel
theorem dX6_restore_5 : decode cX6_restore 5 = .ok (.getfield 40, 3) := by decide +kernel
theorem dX6_restore_8 : decode cX6_restore 8 = .ok (.iload_n 1, 1) := by decide +kernel
theorem dX6_restore_9 : decode cX6_restore 9 = .ok (.baload, 1) := by decide +kernel
theorem dX6_restore_10 : decode cX6_restore 10 = .ok (.ifCond .ne 14, 3) := by decide +kernel
theorem dX6_restore_13 : decode cX6_restore 13 = .ok (.new 55, 3) := by decide +kernel
theorem dX6_restore_16 : decode cX6_restore 16 = .ok (.dup, 1) := by decide +kernel
theorem dX6_restore_17 : decode cX6_restore 17 = .ok (.ldc_w 327, 3) := by decide +kernel
theorem dX6_restore_20 : decode cX6_restore 20 = .ok (.invokespecial 59, 3) := by decide +kernel
theorem dX6_restore_23 : decode cX6_restore 23 = .ok (.athrow, 1) := by decide +kernel
theorem dX6_restore_24 : decode cX6_restore 24 = .ok (.aload_n 0, 1) := by decide +kernel
theorem dX6_restore_25 : decode cX6_restore 25 = .ok (.getfield 19, 3) := by decide +kernel
theorem dX6_restore_28 : decode cX6_restore 28 = .ok (.aload_n 0, 1) := by decide +kernel
theorem dX6_restore_29 : decode cX6_restore 29 = .ok (.getfield 36, 3) := by decide +kernel
theorem dX6_restore_32 : decode cX6_restore 32 = .ok (.iload_n 1, 1) := by decide +kernel
theorem dX6_restore_33 : decode cX6_restore 33 = .ok (.aaload, 1) := by decide +kernel
theorem dX6_restore_34 : decode cX6_restore 34 = .ok (.invokevirtual 70, 3) := by decide +kernel
theorem dX6_restore_37 : decode cX6_restore 37 = .ok (.aload_n 0, 1) := by decide +kernel
theorem dX6_restore_38 : decode cX6_restore 38 = .ok (.getfield 32, 3) := by decide +kernel
theorem dX6_restore_41 : decode cX6_restore 41 = .ok (.iconst 0, 1) := by decide +kernel
theorem dX6_restore_42 : decode cX6_restore 42 = .ok (.putfield 74, 3) := by decide +kernel
theorem dX6_restore_45 : decode cX6_restore 45 = .ok (.aload_n 0, 1) := by decide +kernel
theorem dX6_restore_46 : decode cX6_restore 46 = .ok (.getfield 19, 3) := by decide +kernel
theorem dX6_restore_49 : decode cX6_restore 49 = .ok (.getfield 95, 3) := by decide +kernel
theorem dX6_restore_52 : decode cX6_restore 52 = .ok (.ireturn, 1) := by decide +kernel
theorem dX6_checkMember_0 : decode cX6_checkMember 0 = .ok (.aload_n 0, 1) := by decide +kernel
theorem dX6_checkMember_1 : decode cX6_checkMember 1 = .ok (.getfield 19, 3) := by decide +kernel
theorem dX6_checkMember_4 : decode cX6_checkMember 4 = .ok (.iload_n 1, 1) := by decide +kernel
theorem dX6_checkMember_5 : decode cX6_checkMember 5 = .ok (.invokevirtual 329, 3) := by decide +kernel
theorem dX6_checkMember_8 : decode cX6_checkMember 8 = .ok (.ifCond .ne 14, 3) := by decide +kernel
theorem dX6_checkMember_11 : decode cX6_checkMember 11 = .ok (.new 174, 3) := by decide +kernel
theorem dX6_checkMember_14 : decode cX6_checkMember 14 = .ok (.dup, 1) := by decide +kernel
theorem dX6_checkMember_15 : decode cX6_checkMember 15 = .ok (.ldc_w 332, 3) := by decide +kernel
theorem dX6_checkMember_18 : decode cX6_checkMember 18 = .ok (.invokespecial 178, 3) := by decide +kernel
theorem dX6_checkMember_21 : decode cX6_checkMember 21 = .ok (.athrow, 1) := by decide +kernel
theorem dX6_checkMember_22 : decode cX6_checkMember 22 = .ok (.return_, 1) := by decide +kernel
theorem dX6_checkSlot_0 : decode cX6_checkSlot 0 = .ok (.iload_n 0, 1) := by decide +kernel
theorem dX6_checkSlot_1 : decode cX6_checkSlot 1 = .ok (.ifCond .lt 8, 3) := by decide +kernel
theorem dX6_checkSlot_4 : decode cX6_checkSlot 4 = .ok (.iload_n 0, 1) := by decide +kernel
theorem dX6_checkSlot_5 : decode cX6_checkSlot 5 = .ok (.iconst 2, 1) := by decide +kernel
theorem dX6_checkSlot_6 : decode cX6_checkSlot 6 = .ok (.if_icmp .lt 14, 3) := by decide +kernel
theorem dX6_checkSlot_9 : decode cX6_checkSlot 9 = .ok (.new 174, 3) := by decide +kernel
theorem dX6_checkSlot_12 : decode cX6_checkSlot 12 = .ok (.dup, 1) := by decide +kernel
theorem dX6_checkSlot_13 : decode cX6_checkSlot 13 = .ok (.ldc_w 334, 3) := by decide +kernel
theorem dX6_checkSlot_16 : decode cX6_checkSlot 16 = .ok (.invokespecial 178, 3) := by decide +kernel
theorem dX6_checkSlot_19 : decode cX6_checkSlot 19 = .ok (.athrow, 1) := by decide +kernel
theorem dX6_checkSlot_20 : decode cX6_checkSlot 20 = .ok (.return_, 1) := by decide +kernel
theorem dX6_succeeds_0 : decode cX6_succeeds 0 = .ok (.iload_n 1, 1) := by decide +kernel
theorem dX6_succeeds_1 : decode cX6_succeeds 1 = .ok (.sipush 1000, 3) := by decide +kernel
theorem dX6_succeeds_4 : decode cX6_succeeds 4 = .ok (.idiv, 1) := by decide +kernel
theorem dX6_succeeds_5 : decode cX6_succeeds 5 = .ok (.bipush 10, 2) := by decide +kernel
theorem dX6_succeeds_7 : decode cX6_succeeds 7 = .ok (.irem, 1) := by decide +kernel
theorem dX6_succeeds_8 : decode cX6_succeeds 8 = .ok (.istore_n 2, 1) := by decide +kernel
theorem dX6_succeeds_9 : decode cX6_succeeds 9 = .ok (.iload_n 1, 1) := by decide +kernel
theorem dX6_succeeds_10 : decode cX6_succeeds 10 = .ok (.bipush 100, 2) := by decide +kernel
theorem dX6_succeeds_12 : decode cX6_succeeds 12 = .ok (.idiv, 1) := by decide +kernel
theorem dX6_succeeds_13 : decode cX6_succeeds 13 = .ok (.bipush 10, 2) := by decide +kernel
theorem dX6_succeeds_15 : decode cX6_succeeds 15 = .ok (.irem, 1) := by decide +kernel
theorem dX6_succeeds_16 : decode cX6_succeeds 16 = .ok (.istore_n 3, 1) := by decide +kernel
theorem dX6_succeeds_17 : decode cX6_succeeds 17 = .ok (.iload_n 1, 1) := by decide +kernel
theorem dX6_succeeds_18 : decode cX6_succeeds 18 = .ok (.bipush 100, 2) := by decide +kernel
theorem dX6_succeeds_20 : decode cX6_succeeds 20 = .ok (.irem, 1) := by decide +kernel
theorem dX6_succeeds_21 : decode cX6_succeeds 21 = .ok (.istore 4, 2) := by decide +kernel
theorem dX6_succeeds_23 : decode cX6_succeeds 23 = .ok (.iload_n 1, 1) := by decide +kernel
theorem dX6_succeeds_24 : decode cX6_succeeds 24 = .ok (.sipush 10000, 3) := by decide +kernel
theorem dX6_succeeds_27 : decode cX6_succeeds 27 = .ok (.idiv, 1) := by decide +kernel
theorem dX6_succeeds_28 : decode cX6_succeeds 28 = .ok (.tableswitch 396 1 9 #[52, 81, 106, 151, 200, 229, 267, 305, 346], 52) := by decide +kernel
theorem dX6_succeeds_80 : decode cX6_succeeds 80 = .ok (.iload_n 3, 1) := by decide +kernel
theorem dX6_succeeds_81 : decode cX6_succeeds 81 = .ok (.ifCond .ne 26, 3) := by decide +kernel
theorem dX6_succeeds_84 : decode cX6_succeeds 84 = .ok (.iload 4, 2) := by decide +kernel
theorem dX6_succeeds_86 : decode cX6_succeeds 86 = .ok (.ifCond .ne 21, 3) := by decide +kernel
theorem dX6_succeeds_89 : decode cX6_succeeds 89 = .ok (.aload_n 0, 1) := by decide +kernel
theorem dX6_succeeds_90 : decode cX6_succeeds 90 = .ok (.getfield 26, 3) := by decide +kernel
theorem dX6_succeeds_93 : decode cX6_succeeds 93 = .ok (.bipush 115, 2) := by decide +kernel
theorem dX6_succeeds_95 : decode cX6_succeeds 95 = .ok (.iload_n 2, 1) := by decide +kernel
theorem dX6_succeeds_96 : decode cX6_succeeds 96 = .ok (.iconst 0, 1) := by decide +kernel
theorem dX6_succeeds_97 : decode cX6_succeeds 97 = .ok (.invokevirtual 87, 3) := by decide +kernel
theorem dX6_succeeds_100 : decode cX6_succeeds 100 = .ok (.ifCond .eq 7, 3) := by decide +kernel
theorem dX6_succeeds_103 : decode cX6_succeeds 103 = .ok (.iconst 1, 1) := by decide +kernel
theorem dX6_succeeds_104 : decode cX6_succeeds 104 = .ok (.goto 4, 3) := by decide +kernel
theorem dX6_succeeds_107 : decode cX6_succeeds 107 = .ok (.iconst 0, 1) := by decide +kernel
theorem dX6_succeeds_108 : decode cX6_succeeds 108 = .ok (.ireturn, 1) := by decide +kernel
theorem dX6_succeeds_109 : decode cX6_succeeds 109 = .ok (.iload_n 3, 1) := by decide +kernel
theorem dX6_succeeds_110 : decode cX6_succeeds 110 = .ok (.ifCond .ne 22, 3) := by decide +kernel
theorem dX6_succeeds_113 : decode cX6_succeeds 113 = .ok (.aload_n 0, 1) := by decide +kernel
theorem dX6_succeeds_114 : decode cX6_succeeds 114 = .ok (.getfield 26, 3) := by decide +kernel
theorem dX6_succeeds_117 : decode cX6_succeeds 117 = .ok (.bipush 99, 2) := by decide +kernel
theorem dX6_succeeds_119 : decode cX6_succeeds 119 = .ok (.iload_n 2, 1) := by decide +kernel
theorem dX6_succeeds_120 : decode cX6_succeeds 120 = .ok (.iload 4, 2) := by decide +kernel
theorem dX6_succeeds_122 : decode cX6_succeeds 122 = .ok (.invokevirtual 87, 3) := by decide +kernel
theorem dX6_succeeds_125 : decode cX6_succeeds 125 = .ok (.ifCond .eq 7, 3) := by decide +kernel
theorem dX6_succeeds_128 : decode cX6_succeeds 128 = .ok (.iconst 1, 1) := by decide +kernel
theorem dX6_succeeds_129 : decode cX6_succeeds 129 = .ok (.goto 4, 3) := by decide +kernel
theorem dX6_succeeds_132 : decode cX6_succeeds 132 = .ok (.iconst 0, 1) := by decide +kernel
theorem dX6_succeeds_133 : decode cX6_succeeds 133 = .ok (.ireturn, 1) := by decide +kernel
theorem dX6_succeeds_134 : decode cX6_succeeds 134 = .ok (.iload 4, 2) := by decide +kernel
theorem dX6_succeeds_136 : decode cX6_succeeds 136 = .ok (.bipush 10, 2) := by decide +kernel
theorem dX6_succeeds_138 : decode cX6_succeeds 138 = .ok (.if_icmp .ne 17, 3) := by decide +kernel
theorem dX6_succeeds_141 : decode cX6_succeeds 141 = .ok (.aload_n 0, 1) := by decide +kernel
theorem dX6_succeeds_142 : decode cX6_succeeds 142 = .ok (.getfield 26, 3) := by decide +kernel
theorem dX6_succeeds_145 : decode cX6_succeeds 145 = .ok (.bipush 120, 2) := by decide +kernel
theorem dX6_succeeds_147 : decode cX6_succeeds 147 = .ok (.iload_n 2, 1) := by decide +kernel
theorem dX6_succeeds_148 : decode cX6_succeeds 148 = .ok (.iload_n 3, 1) := by decide +kernel
theorem dX6_succeeds_149 : decode cX6_succeeds 149 = .ok (.invokevirtual 87, 3) := by decide +kernel
theorem dX6_succeeds_152 : decode cX6_succeeds 152 = .ok (.ifCond .ne 21, 3) := by decide +kernel
theorem dX6_succeeds_155 : decode cX6_succeeds 155 = .ok (.iload 4, 2) := by decide +kernel
theorem dX6_succeeds_157 : decode cX6_succeeds 157 = .ok (.ifCond .ne 20, 3) := by decide +kernel
theorem dX6_succeeds_160 : decode cX6_succeeds 160 = .ok (.aload_n 0, 1) := by decide +kernel
theorem dX6_succeeds_161 : decode cX6_succeeds 161 = .ok (.getfield 26, 3) := by decide +kernel
theorem dX6_succeeds_164 : decode cX6_succeeds 164 = .ok (.iconst 0, 1) := by decide +kernel
theorem dX6_succeeds_165 : decode cX6_succeeds 165 = .ok (.iload_n 2, 1) := by decide +kernel
theorem dX6_succeeds_166 : decode cX6_succeeds 166 = .ok (.iload_n 3, 1) := by decide +kernel
theorem dX6_succeeds_167 : decode cX6_succeeds 167 = .ok (.invokevirtual 87, 3) := by decide +kernel
theorem dX6_succeeds_170 : decode cX6_succeeds 170 = .ok (.ifCond .eq 7, 3) := by decide +kernel
theorem dX6_succeeds_173 : decode cX6_succeeds 173 = .ok (.iconst 1, 1) := by decide +kernel
theorem dX6_succeeds_174 : decode cX6_succeeds 174 = .ok (.goto 4, 3) := by decide +kernel
theorem dX6_succeeds_177 : decode cX6_succeeds 177 = .ok (.iconst 0, 1) := by decide +kernel
theorem dX6_succeeds_178 : decode cX6_succeeds 178 = .ok (.ireturn, 1) := by decide +kernel
theorem dX6_succeeds_179 : decode cX6_succeeds 179 = .ok (.iload_n 3, 1) := by decide +kernel
theorem dX6_succeeds_180 : decode cX6_succeeds 180 = .ok (.ifCond .ne 46, 3) := by decide +kernel
theorem dX6_succeeds_183 : decode cX6_succeeds 183 = .ok (.iload 4, 2) := by decide +kernel
theorem dX6_succeeds_185 : decode cX6_succeeds 185 = .ok (.ifCond .ne 17, 3) := by decide +kernel
theorem dX6_succeeds_188 : decode cX6_succeeds 188 = .ok (.aload_n 0, 1) := by decide +kernel
theorem dX6_succeeds_189 : decode cX6_succeeds 189 = .ok (.getfield 26, 3) := by decide +kernel
theorem dX6_succeeds_192 : decode cX6_succeeds 192 = .ok (.bipush 103, 2) := by decide +kernel
theorem dX6_succeeds_194 : decode cX6_succeeds 194 = .ok (.iload_n 2, 1) := by decide +kernel
theorem dX6_succeeds_195 : decode cX6_succeeds 195 = .ok (.iconst 0, 1) := by decide +kernel
theorem dX6_succeeds_196 : decode cX6_succeeds 196 = .ok (.invokevirtual 87, 3) := by decide +kernel
theorem dX6_succeeds_199 : decode cX6_succeeds 199 = .ok (.ifCond .ne 23, 3) := by decide +kernel
theorem dX6_succeeds_202 : decode cX6_succeeds 202 = .ok (.iload 4, 2) := by decide +kernel
theorem dX6_succeeds_204 : decode cX6_succeeds 204 = .ok (.iconst 1, 1) := by decide +kernel
theorem dX6_succeeds_205 : decode cX6_succeeds 205 = .ok (.if_icmp .ne 21, 3) := by decide +kernel
theorem dX6_succeeds_208 : decode cX6_succeeds 208 = .ok (.aload_n 0, 1) := by decide +kernel
theorem dX6_succeeds_209 : decode cX6_succeeds 209 = .ok (.getfield 26, 3) := by decide +kernel
theorem dX6_succeeds_212 : decode cX6_succeeds 212 = .ok (.bipush 98, 2) := by decide +kernel
theorem dX6_succeeds_214 : decode cX6_succeeds 214 = .ok (.iload_n 2, 1) := by decide +kernel
theorem dX6_succeeds_215 : decode cX6_succeeds 215 = .ok (.iconst 0, 1) := by decide +kernel
theorem dX6_succeeds_216 : decode cX6_succeeds 216 = .ok (.invokevirtual 87, 3) := by decide +kernel
theorem dX6_succeeds_219 : decode cX6_succeeds 219 = .ok (.ifCond .eq 7, 3) := by decide +kernel
theorem dX6_succeeds_222 : decode cX6_succeeds 222 = .ok (.iconst 1, 1) := by decide +kernel
theorem dX6_succeeds_223 : decode cX6_succeeds 223 = .ok (.goto 4, 3) := by decide +kernel
theorem dX6_succeeds_226 : decode cX6_succeeds 226 = .ok (.iconst 0, 1) := by decide +kernel
theorem dX6_succeeds_227 : decode cX6_succeeds 227 = .ok (.ireturn, 1) := by decide +kernel
theorem dX6_succeeds_228 : decode cX6_succeeds 228 = .ok (.iload_n 2, 1) := by decide +kernel
theorem dX6_succeeds_229 : decode cX6_succeeds 229 = .ok (.ifCond .ne 26, 3) := by decide +kernel
theorem dX6_succeeds_232 : decode cX6_succeeds 232 = .ok (.iload_n 3, 1) := by decide +kernel
theorem dX6_succeeds_233 : decode cX6_succeeds 233 = .ok (.ifCond .ne 22, 3) := by decide +kernel
theorem dX6_succeeds_236 : decode cX6_succeeds 236 = .ok (.aload_n 0, 1) := by decide +kernel
theorem dX6_succeeds_237 : decode cX6_succeeds 237 = .ok (.getfield 26, 3) := by decide +kernel
theorem dX6_succeeds_240 : decode cX6_succeeds 240 = .ok (.bipush 116, 2) := by decide +kernel
theorem dX6_succeeds_242 : decode cX6_succeeds 242 = .ok (.iload 4, 2) := by decide +kernel
theorem dX6_succeeds_244 : decode cX6_succeeds 244 = .ok (.iconst 0, 1) := by decide +kernel
theorem dX6_succeeds_245 : decode cX6_succeeds 245 = .ok (.invokevirtual 87, 3) := by decide +kernel
theorem dX6_succeeds_248 : decode cX6_succeeds 248 = .ok (.ifCond .eq 7, 3) := by decide +kernel
theorem dX6_succeeds_251 : decode cX6_succeeds 251 = .ok (.iconst 1, 1) := by decide +kernel
theorem dX6_succeeds_252 : decode cX6_succeeds 252 = .ok (.goto 4, 3) := by decide +kernel
theorem dX6_succeeds_255 : decode cX6_succeeds 255 = .ok (.iconst 0, 1) := by decide +kernel
theorem dX6_succeeds_256 : decode cX6_succeeds 256 = .ok (.ireturn, 1) := by decide +kernel
theorem dX6_succeeds_257 : decode cX6_succeeds 257 = .ok (.iload_n 3, 1) := by decide +kernel
theorem dX6_succeeds_258 : decode cX6_succeeds 258 = .ok (.ifCond .ne 35, 3) := by decide +kernel
theorem dX6_succeeds_261 : decode cX6_succeeds 261 = .ok (.aload_n 0, 1) := by decide +kernel
theorem dX6_succeeds_262 : decode cX6_succeeds 262 = .ok (.getfield 26, 3) := by decide +kernel
theorem dX6_succeeds_265 : decode cX6_succeeds 265 = .ok (.iload_n 2, 1) := by decide +kernel
theorem dX6_succeeds_266 : decode cX6_succeeds 266 = .ok (.invokevirtual 329, 3) := by decide +kernel
theorem dX6_succeeds_269 : decode cX6_succeeds 269 = .ok (.ifCond .eq 24, 3) := by decide +kernel
theorem dX6_succeeds_272 : decode cX6_succeeds 272 = .ok (.aload_n 0, 1) := by decide +kernel
theorem dX6_succeeds_273 : decode cX6_succeeds 273 = .ok (.getfield 26, 3) := by decide +kernel
theorem dX6_succeeds_276 : decode cX6_succeeds 276 = .ok (.getfield 128, 3) := by decide +kernel
theorem dX6_succeeds_279 : decode cX6_succeeds 279 = .ok (.iload_n 2, 1) := by decide +kernel
theorem dX6_succeeds_280 : decode cX6_succeeds 280 = .ok (.aaload, 1) := by decide +kernel
theorem dX6_succeeds_281 : decode cX6_succeeds 281 = .ok (.getfield 140, 3) := by decide +kernel
theorem dX6_succeeds_284 : decode cX6_succeeds 284 = .ok (.iload 4, 2) := by decide +kernel
theorem dX6_succeeds_286 : decode cX6_succeeds 286 = .ok (.if_icmp .lt 7, 3) := by decide +kernel
theorem dX6_succeeds_289 : decode cX6_succeeds 289 = .ok (.iconst 1, 1) := by decide +kernel
theorem dX6_succeeds_290 : decode cX6_succeeds 290 = .ok (.goto 4, 3) := by decide +kernel
theorem dX6_succeeds_293 : decode cX6_succeeds 293 = .ok (.iconst 0, 1) := by decide +kernel
theorem dX6_succeeds_294 : decode cX6_succeeds 294 = .ok (.ireturn, 1) := by decide +kernel
theorem dX6_succeeds_295 : decode cX6_succeeds 295 = .ok (.iload_n 3, 1) := by decide +kernel
theorem dX6_succeeds_296 : decode cX6_succeeds 296 = .ok (.ifCond .ne 35, 3) := by decide +kernel
theorem dX6_succeeds_299 : decode cX6_succeeds 299 = .ok (.aload_n 0, 1) := by decide +kernel
theorem dX6_succeeds_300 : decode cX6_succeeds 300 = .ok (.getfield 26, 3) := by decide +kernel
theorem dX6_succeeds_303 : decode cX6_succeeds 303 = .ok (.iload_n 2, 1) := by decide +kernel
theorem dX6_succeeds_304 : decode cX6_succeeds 304 = .ok (.invokevirtual 329, 3) := by decide +kernel
theorem dX6_succeeds_307 : decode cX6_succeeds 307 = .ok (.ifCond .eq 24, 3) := by decide +kernel
theorem dX6_succeeds_310 : decode cX6_succeeds 310 = .ok (.aload_n 0, 1) := by decide +kernel
theorem dX6_succeeds_311 : decode cX6_succeeds 311 = .ok (.getfield 26, 3) := by decide +kernel
theorem dX6_succeeds_314 : decode cX6_succeeds 314 = .ok (.getfield 128, 3) := by decide +kernel
theorem dX6_succeeds_317 : decode cX6_succeeds 317 = .ok (.iload_n 2, 1) := by decide +kernel
theorem dX6_succeeds_318 : decode cX6_succeeds 318 = .ok (.aaload, 1) := by decide +kernel
theorem dX6_succeeds_319 : decode cX6_succeeds 319 = .ok (.getfield 137, 3) := by decide +kernel
theorem dX6_succeeds_322 : decode cX6_succeeds 322 = .ok (.iload 4, 2) := by decide +kernel
theorem dX6_succeeds_324 : decode cX6_succeeds 324 = .ok (.if_icmp .ne 7, 3) := by decide +kernel
theorem dX6_succeeds_327 : decode cX6_succeeds 327 = .ok (.iconst 1, 1) := by decide +kernel
theorem dX6_succeeds_328 : decode cX6_succeeds 328 = .ok (.goto 4, 3) := by decide +kernel
theorem dX6_succeeds_331 : decode cX6_succeeds 331 = .ok (.iconst 0, 1) := by decide +kernel
theorem dX6_succeeds_332 : decode cX6_succeeds 332 = .ok (.ireturn, 1) := by decide +kernel
theorem dX6_succeeds_333 : decode cX6_succeeds 333 = .ok (.iload_n 3, 1) := by decide +kernel
theorem dX6_succeeds_334 : decode cX6_succeeds 334 = .ok (.ifCond .ne 38, 3) := by decide +kernel
theorem dX6_succeeds_337 : decode cX6_succeeds 337 = .ok (.aload_n 0, 1) := by decide +kernel
theorem dX6_succeeds_338 : decode cX6_succeeds 338 = .ok (.getfield 26, 3) := by decide +kernel
theorem dX6_succeeds_341 : decode cX6_succeeds 341 = .ok (.iload_n 2, 1) := by decide +kernel
theorem dX6_succeeds_342 : decode cX6_succeeds 342 = .ok (.invokevirtual 329, 3) := by decide +kernel
theorem dX6_succeeds_345 : decode cX6_succeeds 345 = .ok (.ifCond .eq 27, 3) := by decide +kernel
theorem dX6_succeeds_348 : decode cX6_succeeds 348 = .ok (.aload_n 0, 1) := by decide +kernel
theorem dX6_succeeds_349 : decode cX6_succeeds 349 = .ok (.getfield 26, 3) := by decide +kernel
theorem dX6_succeeds_352 : decode cX6_succeeds 352 = .ok (.getfield 128, 3) := by decide +kernel
theorem dX6_succeeds_355 : decode cX6_succeeds 355 = .ok (.iload_n 2, 1) := by decide +kernel
theorem dX6_succeeds_356 : decode cX6_succeeds 356 = .ok (.aaload, 1) := by decide +kernel
theorem dX6_succeeds_357 : decode cX6_succeeds 357 = .ok (.getfield 149, 3) := by decide +kernel
theorem dX6_succeeds_360 : decode cX6_succeeds 360 = .ok (.invokestatic 291, 3) := by decide +kernel
theorem dX6_succeeds_363 : decode cX6_succeeds 363 = .ok (.iload 4, 2) := by decide +kernel
theorem dX6_succeeds_365 : decode cX6_succeeds 365 = .ok (.if_icmp .lt 7, 3) := by decide +kernel
theorem dX6_succeeds_368 : decode cX6_succeeds 368 = .ok (.iconst 1, 1) := by decide +kernel
theorem dX6_succeeds_369 : decode cX6_succeeds 369 = .ok (.goto 4, 3) := by decide +kernel
theorem dX6_succeeds_372 : decode cX6_succeeds 372 = .ok (.iconst 0, 1) := by decide +kernel
theorem dX6_succeeds_373 : decode cX6_succeeds 373 = .ok (.ireturn, 1) := by decide +kernel
theorem dX6_succeeds_374 : decode cX6_succeeds 374 = .ok (.iload 4, 2) := by decide +kernel
theorem dX6_succeeds_376 : decode cX6_succeeds 376 = .ok (.bipush 10, 2) := by decide +kernel
theorem dX6_succeeds_378 : decode cX6_succeeds 378 = .ok (.if_icmp .ge 44, 3) := by decide +kernel
theorem dX6_succeeds_381 : decode cX6_succeeds 381 = .ok (.aload_n 0, 1) := by decide +kernel
theorem dX6_succeeds_382 : decode cX6_succeeds 382 = .ok (.getfield 26, 3) := by decide +kernel
theorem dX6_succeeds_385 : decode cX6_succeeds 385 = .ok (.iload_n 2, 1) := by decide +kernel
theorem dX6_succeeds_386 : decode cX6_succeeds 386 = .ok (.invokevirtual 329, 3) := by decide +kernel
theorem dX6_succeeds_389 : decode cX6_succeeds 389 = .ok (.ifCond .eq 33, 3) := by decide +kernel
theorem dX6_succeeds_392 : decode cX6_succeeds 392 = .ok (.aload_n 0, 1) := by decide +kernel
theorem dX6_succeeds_393 : decode cX6_succeeds 393 = .ok (.getfield 26, 3) := by decide +kernel
theorem dX6_succeeds_396 : decode cX6_succeeds 396 = .ok (.iload_n 3, 1) := by decide +kernel
theorem dX6_succeeds_397 : decode cX6_succeeds 397 = .ok (.invokevirtual 329, 3) := by decide +kernel
theorem dX6_succeeds_400 : decode cX6_succeeds 400 = .ok (.ifCond .eq 22, 3) := by decide +kernel
theorem dX6_succeeds_403 : decode cX6_succeeds 403 = .ok (.aload_n 0, 1) := by decide +kernel
theorem dX6_succeeds_404 : decode cX6_succeeds 404 = .ok (.getfield 26, 3) := by decide +kernel
theorem dX6_succeeds_407 : decode cX6_succeeds 407 = .ok (.iload_n 2, 1) := by decide +kernel
theorem dX6_succeeds_408 : decode cX6_succeeds 408 = .ok (.iload_n 3, 1) := by decide +kernel
theorem dX6_succeeds_409 : decode cX6_succeeds 409 = .ok (.iconst 1, 1) := by decide +kernel
theorem dX6_succeeds_410 : decode cX6_succeeds 410 = .ok (.invokevirtual 282, 3) := by decide +kernel
theorem dX6_succeeds_413 : decode cX6_succeeds 413 = .ok (.iload 4, 2) := by decide +kernel
theorem dX6_succeeds_415 : decode cX6_succeeds 415 = .ok (.if_icmp .gt 7, 3) := by decide +kernel
theorem dX6_succeeds_418 : decode cX6_succeeds 418 = .ok (.iconst 1, 1) := by decide +kernel
theorem dX6_succeeds_419 : decode cX6_succeeds 419 = .ok (.goto 4, 3) := by decide +kernel
theorem dX6_succeeds_422 : decode cX6_succeeds 422 = .ok (.iconst 0, 1) := by decide +kernel
theorem dX6_succeeds_423 : decode cX6_succeeds 423 = .ok (.ireturn, 1) := by decide +kernel
theorem dX6_succeeds_424 : decode cX6_succeeds 424 = .ok (.iconst 0, 1) := by decide +kernel
theorem dX6_succeeds_425 : decode cX6_succeeds 425 = .ok (.ireturn, 1) := by decide +kernel
theorem dX6_takeTurn_0 : decode cX6_takeTurn 0 = .ok (.iload_n 1, 1) := by decide +kernel
theorem dX6_takeTurn_1 : decode cX6_takeTurn 1 = .ok (.bipush 16, 2) := by decide +kernel
theorem dX6_takeTurn_3 : decode cX6_takeTurn 3 = .ok (.idiv, 1) := by decide +kernel
theorem dX6_takeTurn_4 : decode cX6_takeTurn 4 = .ok (.istore_n 2, 1) := by decide +kernel
theorem dX6_takeTurn_5 : decode cX6_takeTurn 5 = .ok (.iload_n 2, 1) := by decide +kernel
theorem dX6_takeTurn_6 : decode cX6_takeTurn 6 = .ok (.bipush 6, 2) := by decide +kernel
theorem dX6_takeTurn_8 : decode cX6_takeTurn 8 = .ok (.irem, 1) := by decide +kernel
theorem dX6_takeTurn_9 : decode cX6_takeTurn 9 = .ok (.istore_n 3, 1) := by decide +kernel
theorem dX6_takeTurn_10 : decode cX6_takeTurn 10 = .ok (.iload_n 1, 1) := by decide +kernel
theorem dX6_takeTurn_11 : decode cX6_takeTurn 11 = .ok (.bipush 16, 2) := by decide +kernel
theorem dX6_takeTurn_13 : decode cX6_takeTurn 13 = .ok (.irem, 1) := by decide +kernel
theorem dX6_takeTurn_14 : decode cX6_takeTurn 14 = .ok (.tableswitch 205 0 10 #[58, 76, 76, 76, 76, 76, 91, 91, 124, 158, 187], 58) := by decide +kernel
theorem dX6_takeTurn_72 : decode cX6_takeTurn 72 = .ok (.aload_n 0, 1) := by decide +kernel
theorem dX6_takeTurn_73 : decode cX6_takeTurn 73 = .ok (.getfield 26, 3) := by decide +kernel
theorem dX6_takeTurn_76 : decode cX6_takeTurn 76 = .ok (.bipush 109, 2) := by decide +kernel
theorem dX6_takeTurn_78 : decode cX6_takeTurn 78 = .ok (.iload_n 2, 1) := by decide +kernel
theorem dX6_takeTurn_79 : decode cX6_takeTurn 79 = .ok (.bipush 10, 2) := by decide +kernel
theorem dX6_takeTurn_81 : decode cX6_takeTurn 81 = .ok (.irem, 1) := by decide +kernel
theorem dX6_takeTurn_82 : decode cX6_takeTurn 82 = .ok (.iconst 0, 1) := by decide +kernel
theorem dX6_takeTurn_83 : decode cX6_takeTurn 83 = .ok (.invokevirtual 87, 3) := by decide +kernel
theorem dX6_takeTurn_86 : decode cX6_takeTurn 86 = .ok (.pop, 1) := by decide +kernel
theorem dX6_takeTurn_87 : decode cX6_takeTurn 87 = .ok (.goto 149, 3) := by decide +kernel
theorem dX6_takeTurn_90 : decode cX6_takeTurn 90 = .ok (.aload_n 0, 1) := by decide +kernel
theorem dX6_takeTurn_91 : decode cX6_takeTurn 91 = .ok (.getfield 26, 3) := by decide +kernel
theorem dX6_takeTurn_94 : decode cX6_takeTurn 94 = .ok (.bipush 115, 2) := by decide +kernel
theorem dX6_takeTurn_96 : decode cX6_takeTurn 96 = .ok (.iload_n 3, 1) := by decide +kernel
theorem dX6_takeTurn_97 : decode cX6_takeTurn 97 = .ok (.iconst 0, 1) := by decide +kernel
theorem dX6_takeTurn_98 : decode cX6_takeTurn 98 = .ok (.invokevirtual 87, 3) := by decide +kernel
theorem dX6_takeTurn_101 : decode cX6_takeTurn 101 = .ok (.pop, 1) := by decide +kernel
theorem dX6_takeTurn_102 : decode cX6_takeTurn 102 = .ok (.goto 134, 3) := by decide +kernel
theorem dX6_takeTurn_105 : decode cX6_takeTurn 105 = .ok (.aload_n 0, 1) := by decide +kernel
theorem dX6_takeTurn_106 : decode cX6_takeTurn 106 = .ok (.getfield 26, 3) := by decide +kernel
theorem dX6_takeTurn_109 : decode cX6_takeTurn 109 = .ok (.bipush 99, 2) := by decide +kernel
theorem dX6_takeTurn_111 : decode cX6_takeTurn 111 = .ok (.iload_n 3, 1) := by decide +kernel
theorem dX6_takeTurn_112 : decode cX6_takeTurn 112 = .ok (.iload_n 2, 1) := by decide +kernel
theorem dX6_takeTurn_113 : decode cX6_takeTurn 113 = .ok (.bipush 8, 2) := by decide +kernel
theorem dX6_takeTurn_115 : decode cX6_takeTurn 115 = .ok (.idiv, 1) := by decide +kernel
theorem dX6_takeTurn_116 : decode cX6_takeTurn 116 = .ok (.bipush 64, 2) := by decide +kernel
theorem dX6_takeTurn_118 : decode cX6_takeTurn 118 = .ok (.irem, 1) := by decide +kernel
theorem dX6_takeTurn_119 : decode cX6_takeTurn 119 = .ok (.aload_n 0, 1) := by decide +kernel
theorem dX6_takeTurn_120 : decode cX6_takeTurn 120 = .ok (.getfield 26, 3) := by decide +kernel
theorem dX6_takeTurn_123 : decode cX6_takeTurn 123 = .ok (.invokevirtual 336, 3) := by decide +kernel
theorem dX6_takeTurn_126 : decode cX6_takeTurn 126 = .ok (.iand, 1) := by decide +kernel
theorem dX6_takeTurn_127 : decode cX6_takeTurn 127 = .ok (.iconst 1, 1) := by decide +kernel
theorem dX6_takeTurn_128 : decode cX6_takeTurn 128 = .ok (.iload_n 3, 1) := by decide +kernel
theorem dX6_takeTurn_129 : decode cX6_takeTurn 129 = .ok (.ishl, 1) := by decide +kernel
theorem dX6_takeTurn_130 : decode cX6_takeTurn 130 = .ok (.ior, 1) := by decide +kernel
theorem dX6_takeTurn_131 : decode cX6_takeTurn 131 = .ok (.invokevirtual 87, 3) := by decide +kernel
theorem dX6_takeTurn_134 : decode cX6_takeTurn 134 = .ok (.pop, 1) := by decide +kernel
theorem dX6_takeTurn_135 : decode cX6_takeTurn 135 = .ok (.goto 101, 3) := by decide +kernel
theorem dX6_takeTurn_138 : decode cX6_takeTurn 138 = .ok (.aload_n 0, 1) := by decide +kernel
theorem dX6_takeTurn_139 : decode cX6_takeTurn 139 = .ok (.getfield 26, 3) := by decide +kernel
theorem dX6_takeTurn_142 : decode cX6_takeTurn 142 = .ok (.iload_n 2, 1) := by decide +kernel
theorem dX6_takeTurn_143 : decode cX6_takeTurn 143 = .ok (.bipush 64, 2) := by decide +kernel
theorem dX6_takeTurn_145 : decode cX6_takeTurn 145 = .ok (.idiv, 1) := by decide +kernel
theorem dX6_takeTurn_146 : decode cX6_takeTurn 146 = .ok (.iconst 3, 1) := by decide +kernel
theorem dX6_takeTurn_147 : decode cX6_takeTurn 147 = .ok (.irem, 1) := by decide +kernel
theorem dX6_takeTurn_148 : decode cX6_takeTurn 148 = .ok (.ifCond .ne 8, 3) := by decide +kernel
theorem dX6_takeTurn_151 : decode cX6_takeTurn 151 = .ok (.bipush 120, 2) := by decide +kernel
theorem dX6_takeTurn_153 : decode cX6_takeTurn 153 = .ok (.goto 4, 3) := by decide +kernel
theorem dX6_takeTurn_156 : decode cX6_takeTurn 156 = .ok (.iconst 0, 1) := by decide +kernel
theorem dX6_takeTurn_157 : decode cX6_takeTurn 157 = .ok (.iload_n 3, 1) := by decide +kernel
theorem dX6_takeTurn_158 : decode cX6_takeTurn 158 = .ok (.iload_n 2, 1) := by decide +kernel
theorem dX6_takeTurn_159 : decode cX6_takeTurn 159 = .ok (.bipush 6, 2) := by decide +kernel
theorem dX6_takeTurn_161 : decode cX6_takeTurn 161 = .ok (.idiv, 1) := by decide +kernel
theorem dX6_takeTurn_162 : decode cX6_takeTurn 162 = .ok (.bipush 6, 2) := by decide +kernel
theorem dX6_takeTurn_164 : decode cX6_takeTurn 164 = .ok (.irem, 1) := by decide +kernel
theorem dX6_takeTurn_165 : decode cX6_takeTurn 165 = .ok (.invokevirtual 87, 3) := by decide +kernel
theorem dX6_takeTurn_168 : decode cX6_takeTurn 168 = .ok (.pop, 1) := by decide +kernel
theorem dX6_takeTurn_169 : decode cX6_takeTurn 169 = .ok (.goto 67, 3) := by decide +kernel
theorem dX6_takeTurn_172 : decode cX6_takeTurn 172 = .ok (.aload_n 0, 1) := by decide +kernel
theorem dX6_takeTurn_173 : decode cX6_takeTurn 173 = .ok (.getfield 26, 3) := by decide +kernel
theorem dX6_takeTurn_176 : decode cX6_takeTurn 176 = .ok (.iload_n 2, 1) := by decide +kernel
theorem dX6_takeTurn_177 : decode cX6_takeTurn 177 = .ok (.bipush 8, 2) := by decide +kernel
theorem dX6_takeTurn_179 : decode cX6_takeTurn 179 = .ok (.idiv, 1) := by decide +kernel
theorem dX6_takeTurn_180 : decode cX6_takeTurn 180 = .ok (.iconst 3, 1) := by decide +kernel
theorem dX6_takeTurn_181 : decode cX6_takeTurn 181 = .ok (.irem, 1) := by decide +kernel
theorem dX6_takeTurn_182 : decode cX6_takeTurn 182 = .ok (.ifCond .ne 8, 3) := by decide +kernel
theorem dX6_takeTurn_185 : decode cX6_takeTurn 185 = .ok (.bipush 103, 2) := by decide +kernel
theorem dX6_takeTurn_187 : decode cX6_takeTurn 187 = .ok (.goto 5, 3) := by decide +kernel
theorem dX6_takeTurn_190 : decode cX6_takeTurn 190 = .ok (.bipush 98, 2) := by decide +kernel
theorem dX6_takeTurn_192 : decode cX6_takeTurn 192 = .ok (.iload_n 3, 1) := by decide +kernel
theorem dX6_takeTurn_193 : decode cX6_takeTurn 193 = .ok (.iconst 0, 1) := by decide +kernel
theorem dX6_takeTurn_194 : decode cX6_takeTurn 194 = .ok (.invokevirtual 87, 3) := by decide +kernel
theorem dX6_takeTurn_197 : decode cX6_takeTurn 197 = .ok (.pop, 1) := by decide +kernel
theorem dX6_takeTurn_198 : decode cX6_takeTurn 198 = .ok (.goto 38, 3) := by decide +kernel
theorem dX6_takeTurn_201 : decode cX6_takeTurn 201 = .ok (.aload_n 0, 1) := by decide +kernel
theorem dX6_takeTurn_202 : decode cX6_takeTurn 202 = .ok (.getfield 26, 3) := by decide +kernel
theorem dX6_takeTurn_205 : decode cX6_takeTurn 205 = .ok (.bipush 112, 2) := by decide +kernel
theorem dX6_takeTurn_207 : decode cX6_takeTurn 207 = .ok (.iload_n 2, 1) := by decide +kernel
theorem dX6_takeTurn_208 : decode cX6_takeTurn 208 = .ok (.bipush 41, 2) := by decide +kernel
theorem dX6_takeTurn_210 : decode cX6_takeTurn 210 = .ok (.irem, 1) := by decide +kernel
theorem dX6_takeTurn_211 : decode cX6_takeTurn 211 = .ok (.iconst 0, 1) := by decide +kernel
theorem dX6_takeTurn_212 : decode cX6_takeTurn 212 = .ok (.invokevirtual 87, 3) := by decide +kernel
theorem dX6_takeTurn_215 : decode cX6_takeTurn 215 = .ok (.pop, 1) := by decide +kernel
theorem dX6_takeTurn_216 : decode cX6_takeTurn 216 = .ok (.goto 20, 3) := by decide +kernel
theorem dX6_takeTurn_219 : decode cX6_takeTurn 219 = .ok (.aload_n 0, 1) := by decide +kernel
theorem dX6_takeTurn_220 : decode cX6_takeTurn 220 = .ok (.getfield 26, 3) := by decide +kernel
theorem dX6_takeTurn_223 : decode cX6_takeTurn 223 = .ok (.bipush 116, 2) := by decide +kernel
theorem dX6_takeTurn_225 : decode cX6_takeTurn 225 = .ok (.iconst 1, 1) := by decide +kernel
theorem dX6_takeTurn_226 : decode cX6_takeTurn 226 = .ok (.iload_n 2, 1) := by decide +kernel
theorem dX6_takeTurn_227 : decode cX6_takeTurn 227 = .ok (.bipush 8, 2) := by decide +kernel
theorem dX6_takeTurn_229 : decode cX6_takeTurn 229 = .ok (.irem, 1) := by decide +kernel
theorem dX6_takeTurn_230 : decode cX6_takeTurn 230 = .ok (.iadd, 1) := by decide +kernel
theorem dX6_takeTurn_231 : decode cX6_takeTurn 231 = .ok (.iconst 0, 1) := by decide +kernel
theorem dX6_takeTurn_232 : decode cX6_takeTurn 232 = .ok (.invokevirtual 87, 3) := by decide +kernel
theorem dX6_takeTurn_235 : decode cX6_takeTurn 235 = .ok (.pop, 1) := by decide +kernel
theorem dX6_takeTurn_236 : decode cX6_takeTurn 236 = .ok (.return_, 1) := by decide +kernel
theorem dX6_isPlace_0 : decode cX6_isPlace 0 = .ok (.iload_n 0, 1) := by decide +kernel
theorem dX6_isPlace_1 : decode cX6_isPlace 1 = .ok (.ifCond .lt 13, 3) := by decide +kernel
theorem dX6_isPlace_4 : decode cX6_isPlace 4 = .ok (.iload_n 0, 1) := by decide +kernel
theorem dX6_isPlace_5 : decode cX6_isPlace 5 = .ok (.bipush 9, 2) := by decide +kernel
theorem dX6_isPlace_7 : decode cX6_isPlace 7 = .ok (.if_icmp .gt 7, 3) := by decide +kernel
theorem dX6_isPlace_10 : decode cX6_isPlace 10 = .ok (.iconst 1, 1) := by decide +kernel
theorem dX6_isPlace_11 : decode cX6_isPlace 11 = .ok (.goto 4, 3) := by decide +kernel
theorem dX6_isPlace_14 : decode cX6_isPlace 14 = .ok (.iconst 0, 1) := by decide +kernel
theorem dX6_isPlace_15 : decode cX6_isPlace 15 = .ok (.ireturn, 1) := by decide +kernel
theorem dX6_isPatience_0 : decode cX6_isPatience 0 = .ok (.iload_n 0, 1) := by decide +kernel
theorem dX6_isPatience_1 : decode cX6_isPatience 1 = .ok (.ifCond .lt 13, 3) := by decide +kernel
theorem dX6_isPatience_4 : decode cX6_isPatience 4 = .ok (.iload_n 0, 1) := by decide +kernel
theorem dX6_isPatience_5 : decode cX6_isPatience 5 = .ok (.bipush 40, 2) := by decide +kernel
theorem dX6_isPatience_7 : decode cX6_isPatience 7 = .ok (.if_icmp .gt 7, 3) := by decide +kernel
theorem dX6_isPatience_10 : decode cX6_isPatience 10 = .ok (.iconst 1, 1) := by decide +kernel
theorem dX6_isPatience_11 : decode cX6_isPatience 11 = .ok (.goto 4, 3) := by decide +kernel
theorem dX6_isPatience_14 : decode cX6_isPatience 14 = .ok (.iconst 0, 1) := by decide +kernel
theorem dX6_isPatience_15 : decode cX6_isPatience 15 = .ok (.ireturn, 1) := by decide +kernel
theorem dX6_areTicks_0 : decode cX6_areTicks 0 = .ok (.iload_n 0, 1) := by decide +kernel
theorem dX6_areTicks_1 : decode cX6_areTicks 1 = .ok (.iconst 1, 1) := by decide +kernel
theorem dX6_areTicks_2 : decode cX6_areTicks 2 = .ok (.if_icmp .lt 13, 3) := by decide +kernel
theorem dX6_areTicks_5 : decode cX6_areTicks 5 = .ok (.iload_n 0, 1) := by decide +kernel
theorem dX6_areTicks_6 : decode cX6_areTicks 6 = .ok (.bipush 60, 2) := by decide +kernel
theorem dX6_areTicks_8 : decode cX6_areTicks 8 = .ok (.if_icmp .gt 7, 3) := by decide +kernel
theorem dX6_areTicks_11 : decode cX6_areTicks 11 = .ok (.iconst 1, 1) := by decide +kernel
theorem dX6_areTicks_12 : decode cX6_areTicks 12 = .ok (.goto 4, 3) := by decide +kernel
theorem dX6_areTicks_15 : decode cX6_areTicks 15 = .ok (.iconst 0, 1) := by decide +kernel
theorem dX6_areTicks_16 : decode cX6_areTicks 16 = .ok (.ireturn, 1) := by decide +kernel
theorem dX6_hasBit_0 : decode cX6_hasBit 0 = .ok (.iload_n 0, 1) := by decide +kernel
theorem dX6_hasBit_1 : decode cX6_hasBit 1 = .ok (.iload_n 1, 1) := by decide +kernel
theorem dX6_hasBit_2 : decode cX6_hasBit 2 = .ok (.ishr, 1) := by decide +kernel
theorem dX6_hasBit_3 : decode cX6_hasBit 3 = .ok (.iconst 1, 1) := by decide +kernel
theorem dX6_hasBit_4 : decode cX6_hasBit 4 = .ok (.iand, 1) := by decide +kernel
theorem dX6_hasBit_5 : decode cX6_hasBit 5 = .ok (.ifCond .eq 7, 3) := by decide +kernel
theorem dX6_hasBit_8 : decode cX6_hasBit 8 = .ok (.iconst 1, 1) := by decide +kernel
theorem dX6_hasBit_9 : decode cX6_hasBit 9 = .ok (.goto 4, 3) := by decide +kernel
theorem dX6_hasBit_12 : decode cX6_hasBit 12 = .ok (.iconst 0, 1) := by decide +kernel
theorem dX6_hasBit_13 : decode cX6_hasBit 13 = .ok (.ireturn, 1) := by decide +kernel
theorem dX7_init_0 : decode cX7_init 0 = .ok (.aload_n 0, 1) := by decide +kernel
theorem dX7_init_1 : decode cX7_init 1 = .ok (.invokespecial 1, 3) := by decide +kernel
theorem dX7_init_4 : decode cX7_init 4 = .ok (.aload_n 0, 1) := by decide +kernel
theorem dX7_init_5 : decode cX7_init 5 = .ok (.bipush 120, 2) := by decide +kernel
theorem dX7_init_7 : decode cX7_init 7 = .ok (.newarray .int, 2) := by decide +kernel
theorem dX7_init_9 : decode cX7_init 9 = .ok (.putfield 7, 3) := by decide +kernel
theorem dX7_init_12 : decode cX7_init 12 = .ok (.aload_n 0, 1) := by decide +kernel
theorem dX7_init_13 : decode cX7_init 13 = .ok (.sipush 2012, 3) := by decide +kernel
theorem dX7_init_16 : decode cX7_init 16 = .ok (.newarray .int, 2) := by decide +kernel
theorem dX7_init_18 : decode cX7_init 18 = .ok (.putfield 13, 3) := by decide +kernel
theorem dX7_init_21 : decode cX7_init 21 = .ok (.aload_n 0, 1) := by decide +kernel
theorem dX7_init_22 : decode cX7_init 22 = .ok (.sipush 2012, 3) := by decide +kernel
theorem dX7_init_25 : decode cX7_init 25 = .ok (.newarray .int, 2) := by decide +kernel
theorem dX7_init_27 : decode cX7_init 27 = .ok (.putfield 16, 3) := by decide +kernel
theorem dX7_init_30 : decode cX7_init 30 = .ok (.aload_n 0, 1) := by decide +kernel
theorem dX7_init_31 : decode cX7_init 31 = .ok (.sipush 28168, 3) := by decide +kernel
theorem dX7_init_34 : decode cX7_init 34 = .ok (.newarray .int, 2) := by decide +kernel
theorem dX7_init_36 : decode cX7_init 36 = .ok (.putfield 19, 3) := by decide +kernel
theorem dX7_init_39 : decode cX7_init 39 = .ok (.aload_n 0, 1) := by decide +kernel
theorem dX7_init_40 : decode cX7_init 40 = .ok (.sipush 4024, 3) := by decide +kernel
theorem dX7_init_43 : decode cX7_init 43 = .ok (.newarray .int, 2) := by decide +kernel
theorem dX7_init_45 : decode cX7_init 45 = .ok (.putfield 22, 3) := by decide +kernel
theorem dX7_init_48 : decode cX7_init 48 = .ok (.aload_n 0, 1) := by decide +kernel
theorem dX7_init_49 : decode cX7_init 49 = .ok (.iconst 2, 1) := by decide +kernel
theorem dX7_init_50 : decode cX7_init 50 = .ok (.newarray .boolean, 2) := by decide +kernel
theorem dX7_init_52 : decode cX7_init 52 = .ok (.putfield 25, 3) := by decide +kernel
theorem dX7_init_55 : decode cX7_init 55 = .ok (.aload_n 0, 1) := by decide +kernel
theorem dX7_init_56 : decode cX7_init 56 = .ok (.bipush 10, 2) := by decide +kernel
theorem dX7_init_58 : decode cX7_init 58 = .ok (.newarray .int, 2) := by decide +kernel
theorem dX7_init_60 : decode cX7_init 60 = .ok (.putfield 29, 3) := by decide +kernel
theorem dX7_init_63 : decode cX7_init 63 = .ok (.aload_n 0, 1) := by decide +kernel
theorem dX7_init_64 : decode cX7_init 64 = .ok (.getfield 13, 3) := by decide +kernel
theorem dX7_init_67 : decode cX7_init 67 = .ok (.invokestatic 32, 3) := by decide +kernel
theorem dX7_init_70 : decode cX7_init 70 = .ok (.return_, 1) := by decide +kernel
theorem dX7_thrown_0 : decode cX7_thrown 0 = .ok (.aload_n 0, 1) := by decide +kernel
theorem dX7_thrown_1 : decode cX7_thrown 1 = .ok (.getfield 36, 3) := by decide +kernel
theorem dX7_thrown_4 : decode cX7_thrown 4 = .ok (.ireturn, 1) := by decide +kernel
theorem dX7_refused_0 : decode cX7_refused 0 = .ok (.aload_n 0, 1) := by decide +kernel
theorem dX7_refused_1 : decode cX7_refused 1 = .ok (.iload_n 1, 1) := by decide +kernel
theorem dX7_refused_2 : decode cX7_refused 2 = .ok (.putfield 36, 3) := by decide +kernel
theorem dX7_refused_5 : decode cX7_refused 5 = .ok (.iload_n 1, 1) := by decide +kernel
theorem dX7_refused_6 : decode cX7_refused 6 = .ok (.ifCond .le 7, 3) := by decide +kernel
theorem dX7_refused_9 : decode cX7_refused 9 = .ok (.iconst 1, 1) := by decide +kernel
theorem dX7_refused_10 : decode cX7_refused 10 = .ok (.goto 4, 3) := by decide +kernel
theorem dX7_refused_13 : decode cX7_refused 13 = .ok (.iconst 0, 1) := by decide +kernel
theorem dX7_refused_14 : decode cX7_refused 14 = .ok (.ireturn, 1) := by decide +kernel
theorem dX7_in_0 : decode cX7_in 0 = .ok (.lload_n 0, 1) := by decide +kernel
theorem dX7_in_1 : decode cX7_in 1 = .ok (.lload_n 2, 1) := by decide +kernel
theorem dX7_in_2 : decode cX7_in 2 = .ok (.lcmp, 1) := by decide +kernel
theorem dX7_in_3 : decode cX7_in 3 = .ok (.ifCond .lt 14, 3) := by decide +kernel
theorem dX7_in_6 : decode cX7_in 6 = .ok (.lload_n 0, 1) := by decide +kernel
theorem dX7_in_7 : decode cX7_in 7 = .ok (.lload 4, 2) := by decide +kernel
theorem dX7_in_9 : decode cX7_in 9 = .ok (.lcmp, 1) := by decide +kernel
theorem dX7_in_10 : decode cX7_in 10 = .ok (.ifCond .gt 7, 3) := by decide +kernel
theorem dX7_in_13 : decode cX7_in 13 = .ok (.iconst 1, 1) := by decide +kernel
theorem dX7_in_14 : decode cX7_in 14 = .ok (.goto 4, 3) := by decide +kernel
theorem dX7_in_17 : decode cX7_in 17 = .ok (.iconst 0, 1) := by decide +kernel
theorem dX7_in_18 : decode cX7_in 18 = .ok (.ireturn, 1) := by decide +kernel
theorem dX7_copyState_0 : decode cX7_copyState 0 = .ok (.iconst 0, 1) := by decide +kernel
theorem dX7_copyState_1 : decode cX7_copyState 1 = .ok (.istore 4, 2) := by decide +kernel
theorem dX7_copyState_3 : decode cX7_copyState 3 = .ok (.iload 4, 2) := by decide +kernel
theorem dX7_copyState_5 : decode cX7_copyState 5 = .ok (.sipush 2012, 3) := by decide +kernel
theorem dX7_copyState_8 : decode cX7_copyState 8 = .ok (.if_icmp .ge 21, 3) := by decide +kernel
theorem dX7_copyState_11 : decode cX7_copyState 11 = .ok (.aload_n 2, 1) := by decide +kernel
theorem dX7_copyState_12 : decode cX7_copyState 12 = .ok (.iload_n 3, 1) := by decide +kernel
theorem dX7_copyState_13 : decode cX7_copyState 13 = .ok (.iload 4, 2) := by decide +kernel
theorem dX7_copyState_15 : decode cX7_copyState 15 = .ok (.iadd, 1) := by decide +kernel
theorem dX7_copyState_16 : decode cX7_copyState 16 = .ok (.aload_n 0, 1) := by decide +kernel
theorem dX7_copyState_17 : decode cX7_copyState 17 = .ok (.iload_n 1, 1) := by decide +kernel
theorem dX7_copyState_18 : decode cX7_copyState 18 = .ok (.iload 4, 2) := by decide +kernel
theorem dX7_copyState_20 : decode cX7_copyState 20 = .ok (.iadd, 1) := by decide +kernel
theorem dX7_copyState_21 : decode cX7_copyState 21 = .ok (.iaload, 1) := by decide +kernel
theorem dX7_copyState_22 : decode cX7_copyState 22 = .ok (.iastore, 1) := by decide +kernel
theorem dX7_copyState_23 : decode cX7_copyState 23 = .ok (.iinc 4 1, 3) := by decide +kernel
theorem dX7_copyState_26 : decode cX7_copyState 26 = .ok (.goto (-23), 3) := by decide +kernel
theorem dX7_copyState_29 : decode cX7_copyState 29 = .ok (.return_, 1) := by decide +kernel
theorem dX7_clear_0 : decode cX7_clear 0 = .ok (.iconst 0, 1) := by decide +kernel
theorem dX7_clear_1 : decode cX7_clear 1 = .ok (.istore_n 1, 1) := by decide +kernel
theorem dX7_clear_2 : decode cX7_clear 2 = .ok (.iload_n 1, 1) := by decide +kernel
theorem dX7_clear_3 : decode cX7_clear 3 = .ok (.sipush 2012, 3) := by decide +kernel
theorem dX7_clear_6 : decode cX7_clear 6 = .ok (.if_icmp .ge 13, 3) := by decide +kernel
theorem dX7_clear_9 : decode cX7_clear 9 = .ok (.aload_n 0, 1) := by decide +kernel
theorem dX7_clear_10 : decode cX7_clear 10 = .ok (.iload_n 1, 1) := by decide +kernel
theorem dX7_clear_11 : decode cX7_clear 11 = .ok (.iconst 0, 1) := by decide +kernel
theorem dX7_clear_12 : decode cX7_clear 12 = .ok (.iastore, 1) := by decide +kernel
theorem dX7_clear_13 : decode cX7_clear 13 = .ok (.iinc 1 1, 3) := by decide +kernel
theorem dX7_clear_16 : decode cX7_clear 16 = .ok (.goto (-14), 3) := by decide +kernel
theorem dX7_clear_19 : decode cX7_clear 19 = .ok (.return_, 1) := by decide +kernel
theorem dX7_of_0 : decode cX7_of 0 = .ok (.aload_n 0, 1) := by decide +kernel
theorem dX7_of_1 : decode cX7_of 1 = .ok (.bipush 14, 2) := by decide +kernel
theorem dX7_of_3 : decode cX7_of 3 = .ok (.bipush 83, 2) := by decide +kernel
theorem dX7_of_5 : decode cX7_of 5 = .ok (.iload_n 1, 1) := by decide +kernel
theorem dX7_of_6 : decode cX7_of 6 = .ok (.imul, 1) := by decide +kernel
theorem dX7_of_7 : decode cX7_of 7 = .ok (.iadd, 1) := by decide +kernel
theorem dX7_of_8 : decode cX7_of 8 = .ok (.iload_n 2, 1) := by decide +kernel
theorem dX7_of_9 : decode cX7_of 9 = .ok (.iadd, 1) := by decide +kernel
theorem dX7_of_10 : decode cX7_of 10 = .ok (.iaload, 1) := by decide +kernel
theorem dX7_of_11 : decode cX7_of 11 = .ok (.ireturn, 1) := by decide +kernel
theorem dX7_lay_0 : decode cX7_lay 0 = .ok (.aload_n 0, 1) := by decide +kernel
theorem dX7_lay_1 : decode cX7_lay 1 = .ok (.bipush 14, 2) := by decide +kernel
theorem dX7_lay_3 : decode cX7_lay 3 = .ok (.bipush 83, 2) := by decide +kernel
theorem dX7_lay_5 : decode cX7_lay 5 = .ok (.iload_n 1, 1) := by decide +kernel
theorem dX7_lay_6 : decode cX7_lay 6 = .ok (.imul, 1) := by decide +kernel
theorem dX7_lay_7 : decode cX7_lay 7 = .ok (.iadd, 1) := by decide +kernel
theorem dX7_lay_8 : decode cX7_lay 8 = .ok (.iload_n 2, 1) := by decide +kernel
theorem dX7_lay_9 : decode cX7_lay 9 = .ok (.iadd, 1) := by decide +kernel
theorem dX7_lay_10 : decode cX7_lay 10 = .ok (.iload_n 3, 1) := by decide +kernel
theorem dX7_lay_11 : decode cX7_lay 11 = .ok (.iastore, 1) := by decide +kernel
theorem dX7_lay_12 : decode cX7_lay 12 = .ok (.return_, 1) := by decide +kernel
theorem dX7_ofNote_0 : decode cX7_ofNote 0 = .ok (.aload_n 0, 1) := by decide +kernel
theorem dX7_ofNote_1 : decode cX7_ofNote 1 = .ok (.sipush 512, 3) := by decide +kernel
theorem dX7_ofNote_4 : decode cX7_ofNote 4 = .ok (.bipush 10, 2) := by decide +kernel
theorem dX7_ofNote_6 : decode cX7_ofNote 6 = .ok (.iload_n 1, 1) := by decide +kernel
theorem dX7_ofNote_7 : decode cX7_ofNote 7 = .ok (.imul, 1) := by decide +kernel
theorem dX7_ofNote_8 : decode cX7_ofNote 8 = .ok (.iadd, 1) := by decide +kernel
theorem dX7_ofNote_9 : decode cX7_ofNote 9 = .ok (.iload_n 2, 1) := by decide +kernel
theorem dX7_ofNote_10 : decode cX7_ofNote 10 = .ok (.iadd, 1) := by decide +kernel
theorem dX7_ofNote_11 : decode cX7_ofNote 11 = .ok (.iaload, 1) := by decide +kernel
theorem dX7_ofNote_12 : decode cX7_ofNote 12 = .ok (.ireturn, 1) := by decide +kernel
theorem dX7_isMember_0 : decode cX7_isMember 0 = .ok (.iload_n 1, 1) := by decide +kernel
theorem dX7_isMember_1 : decode cX7_isMember 1 = .ok (.i2l, 1) := by decide +kernel
theorem dX7_isMember_2 : decode cX7_isMember 2 = .ok (.lconst 0, 1) := by decide +kernel
theorem dX7_isMember_3 : decode cX7_isMember 3 = .ok (.aload_n 0, 1) := by decide +kernel
theorem dX7_isMember_4 : decode cX7_isMember 4 = .ok (.iconst 0, 1) := by decide +kernel
theorem dX7_isMember_5 : decode cX7_isMember 5 = .ok (.iaload, 1) := by decide +kernel
theorem dX7_isMember_6 : decode cX7_isMember 6 = .ok (.iconst 1, 1) := by decide +kernel
theorem dX7_isMember_7 : decode cX7_isMember 7 = .ok (.isub, 1) := by decide +kernel
theorem dX7_isMember_8 : decode cX7_isMember 8 = .ok (.i2l, 1) := by decide +kernel
theorem dX7_isMember_9 : decode cX7_isMember 9 = .ok (.invokestatic 40, 3) := by decide +kernel
theorem dX7_isMember_12 : decode cX7_isMember 12 = .ok (.ireturn, 1) := by decide +kernel
theorem dX7_has_0 : decode cX7_has 0 = .ok (.iload_n 0, 1) := by decide +kernel
theorem dX7_has_1 : decode cX7_has 1 = .ok (.iload_n 1, 1) := by decide +kernel
theorem dX7_has_2 : decode cX7_has 2 = .ok (.ishr, 1) := by decide +kernel
theorem dX7_has_3 : decode cX7_has 3 = .ok (.iconst 1, 1) := by decide +kernel
theorem dX7_has_4 : decode cX7_has 4 = .ok (.iand, 1) := by decide +kernel
theorem dX7_has_5 : decode cX7_has 5 = .ok (.iconst 1, 1) := by decide +kernel
theorem dX7_has_6 : decode cX7_has 6 = .ok (.if_icmp .ne 7, 3) := by decide +kernel
theorem dX7_has_9 : decode cX7_has 9 = .ok (.iconst 1, 1) := by decide +kernel
theorem dX7_has_10 : decode cX7_has 10 = .ok (.goto 4, 3) := by decide +kernel
theorem dX7_has_13 : decode cX7_has 13 = .ok (.iconst 0, 1) := by decide +kernel
theorem dX7_has_14 : decode cX7_has 14 = .ok (.ireturn, 1) := by decide +kernel
theorem dX7_bits_0 : decode cX7_bits 0 = .ok (.iconst 0, 1) := by decide +kernel
theorem dX7_bits_1 : decode cX7_bits 1 = .ok (.istore_n 1, 1) := by decide +kernel
theorem dX7_bits_2 : decode cX7_bits 2 = .ok (.iconst 0, 1) := by decide +kernel
theorem dX7_bits_3 : decode cX7_bits 3 = .ok (.istore_n 2, 1) := by decide +kernel
theorem dX7_bits_4 : decode cX7_bits 4 = .ok (.iload_n 2, 1) := by decide +kernel
theorem dX7_bits_5 : decode cX7_bits 5 = .ok (.bipush 24, 2) := by decide +kernel
theorem dX7_bits_7 : decode cX7_bits 7 = .ok (.if_icmp .ge 17, 3) := by decide +kernel
theorem dX7_bits_10 : decode cX7_bits 10 = .ok (.iload_n 1, 1) := by decide +kernel
theorem dX7_bits_11 : decode cX7_bits 11 = .ok (.iload_n 0, 1) := by decide +kernel
theorem dX7_bits_12 : decode cX7_bits 12 = .ok (.iload_n 2, 1) := by decide +kernel
theorem dX7_bits_13 : decode cX7_bits 13 = .ok (.ishr, 1) := by decide +kernel
theorem dX7_bits_14 : decode cX7_bits 14 = .ok (.iconst 1, 1) := by decide +kernel
theorem dX7_bits_15 : decode cX7_bits 15 = .ok (.iand, 1) := by decide +kernel
theorem dX7_bits_16 : decode cX7_bits 16 = .ok (.iadd, 1) := by decide +kernel
theorem dX7_bits_17 : decode cX7_bits 17 = .ok (.istore_n 1, 1) := by decide +kernel
theorem dX7_bits_18 : decode cX7_bits 18 = .ok (.iinc 2 1, 3) := by decide +kernel
theorem dX7_bits_21 : decode cX7_bits 21 = .ok (.goto (-17), 3) := by decide +kernel
theorem dX7_bits_24 : decode cX7_bits 24 = .ok (.iload_n 1, 1) := by decide +kernel
theorem dX7_bits_25 : decode cX7_bits 25 = .ok (.ireturn, 1) := by decide +kernel
theorem dX7_isOneRoll_0 : decode cX7_isOneRoll 0 = .ok (.aload_n 0, 1) := by decide +kernel
theorem dX7_isOneRoll_1 : decode cX7_isOneRoll 1 = .ok (.iload_n 1, 1) := by decide +kernel
theorem dX7_isOneRoll_2 : decode cX7_isOneRoll 2 = .ok (.iconst 2, 1) := by decide +kernel
theorem dX7_isOneRoll_3 : decode cX7_isOneRoll 3 = .ok (.invokestatic 44, 3) := by decide +kernel
theorem dX7_isOneRoll_6 : decode cX7_isOneRoll 6 = .ok (.aload_n 0, 1) := by decide +kernel
theorem dX7_isOneRoll_7 : decode cX7_isOneRoll 7 = .ok (.iload_n 2, 1) := by decide +kernel
theorem dX7_isOneRoll_8 : decode cX7_isOneRoll 8 = .ok (.iconst 2, 1) := by decide +kernel
theorem dX7_isOneRoll_9 : decode cX7_isOneRoll 9 = .ok (.invokestatic 44, 3) := by decide +kernel
theorem dX7_isOneRoll_12 : decode cX7_isOneRoll 12 = .ok (.if_icmp .ne 22, 3) := by decide +kernel
theorem dX7_isOneRoll_15 : decode cX7_isOneRoll 15 = .ok (.aload_n 0, 1) := by decide +kernel
theorem dX7_isOneRoll_16 : decode cX7_isOneRoll 16 = .ok (.iload_n 1, 1) := by decide +kernel
theorem dX7_isOneRoll_17 : decode cX7_isOneRoll 17 = .ok (.iconst 3, 1) := by decide +kernel
theorem dX7_isOneRoll_18 : decode cX7_isOneRoll 18 = .ok (.invokestatic 44, 3) := by decide +kernel
theorem dX7_isOneRoll_21 : decode cX7_isOneRoll 21 = .ok (.aload_n 0, 1) := by decide +kernel
theorem dX7_isOneRoll_22 : decode cX7_isOneRoll 22 = .ok (.iload_n 2, 1) := by decide +kernel
theorem dX7_isOneRoll_23 : decode cX7_isOneRoll 23 = .ok (.iconst 3, 1) := by decide +kernel
theorem dX7_isOneRoll_24 : decode cX7_isOneRoll 24 = .ok (.invokestatic 44, 3) := by decide +kernel
theorem dX7_isOneRoll_27 : decode cX7_isOneRoll 27 = .ok (.if_icmp .ne 7, 3) := by decide +kernel
theorem dX7_isOneRoll_30 : decode cX7_isOneRoll 30 = .ok (.iconst 1, 1) := by decide +kernel
theorem dX7_isOneRoll_31 : decode cX7_isOneRoll 31 = .ok (.goto 4, 3) := by decide +kernel
theorem dX7_isOneRoll_34 : decode cX7_isOneRoll 34 = .ok (.iconst 0, 1) := by decide +kernel
theorem dX7_isOneRoll_35 : decode cX7_isOneRoll 35 = .ok (.ireturn, 1) := by decide +kernel
theorem dX7_isSet_0 : decode cX7_isSet 0 = .ok (.iload_n 2, 1) := by decide +kernel
theorem dX7_isSet_1 : decode cX7_isSet 1 = .ok (.i2l, 1) := by decide +kernel
theorem dX7_isSet_2 : decode cX7_isSet 2 = .ok (.lconst 0, 1) := by decide +kernel
theorem dX7_isSet_3 : decode cX7_isSet 3 = .ok (.iconst 1, 1) := by decide +kernel
theorem dX7_isSet_4 : decode cX7_isSet 4 = .ok (.aload_n 0, 1) := by decide +kernel
theorem dX7_isSet_5 : decode cX7_isSet 5 = .ok (.iconst 0, 1) := by decide +kernel
theorem dX7_isSet_6 : decode cX7_isSet 6 = .ok (.iaload, 1) := by decide +kernel
theorem dX7_isSet_7 : decode cX7_isSet 7 = .ok (.ishl, 1) := by decide +kernel
theorem dX7_isSet_8 : decode cX7_isSet 8 = .ok (.iconst 1, 1) := by decide +kernel
theorem dX7_isSet_9 : decode cX7_isSet 9 = .ok (.isub, 1) := by decide +kernel
theorem dX7_isSet_10 : decode cX7_isSet 10 = .ok (.i2l, 1) := by decide +kernel
theorem dX7_isSet_11 : decode cX7_isSet 11 = .ok (.invokestatic 40, 3) := by decide +kernel
theorem dX7_isSet_14 : decode cX7_isSet 14 = .ok (.ifCond .eq 15, 3) := by decide +kernel
theorem dX7_isSet_17 : decode cX7_isSet 17 = .ok (.iload_n 2, 1) := by decide +kernel
theorem dX7_isSet_18 : decode cX7_isSet 18 = .ok (.iload_n 1, 1) := by decide +kernel
theorem dX7_isSet_19 : decode cX7_isSet 19 = .ok (.invokestatic 48, 3) := by decide +kernel
theorem dX7_isSet_22 : decode cX7_isSet 22 = .ok (.ifCond .eq 7, 3) := by decide +kernel
theorem dX7_isSet_25 : decode cX7_isSet 25 = .ok (.iconst 1, 1) := by decide +kernel
theorem dX7_isSet_26 : decode cX7_isSet 26 = .ok (.goto 4, 3) := by decide +kernel
theorem dX7_isSet_29 : decode cX7_isSet 29 = .ok (.iconst 0, 1) := by decide +kernel
theorem dX7_isSet_30 : decode cX7_isSet 30 = .ok (.ireturn, 1) := by decide +kernel
theorem dX7_far_0 : decode cX7_far 0 = .ok (.aload_n 0, 1) := by decide +kernel
theorem dX7_far_1 : decode cX7_far 1 = .ok (.iload_n 1, 1) := by decide +kernel
theorem dX7_far_2 : decode cX7_far 2 = .ok (.iconst 0, 1) := by decide +kernel
theorem dX7_far_3 : decode cX7_far 3 = .ok (.invokestatic 44, 3) := by decide +kernel
theorem dX7_far_6 : decode cX7_far 6 = .ok (.aload_n 0, 1) := by decide +kernel
theorem dX7_far_7 : decode cX7_far 7 = .ok (.iload_n 2, 1) := by decide +kernel
theorem dX7_far_8 : decode cX7_far 8 = .ok (.iconst 0, 1) := by decide +kernel
theorem dX7_far_9 : decode cX7_far 9 = .ok (.invokestatic 44, 3) := by decide +kernel
theorem dX7_far_12 : decode cX7_far 12 = .ok (.isub, 1) := by decide +kernel
theorem dX7_far_13 : decode cX7_far 13 = .ok (.istore_n 3, 1) := by decide +kernel
theorem dX7_far_14 : decode cX7_far 14 = .ok (.iload_n 3, 1) := by decide +kernel
theorem dX7_far_15 : decode cX7_far 15 = .ok (.ifCond .ge 8, 3) := by decide +kernel
theorem dX7_far_18 : decode cX7_far 18 = .ok (.iload_n 3, 1) := by decide +kernel
theorem dX7_far_19 : decode cX7_far 19 = .ok (.ineg, 1) := by decide +kernel
theorem dX7_far_20 : decode cX7_far 20 = .ok (.goto 4, 3) := by decide +kernel
theorem dX7_far_23 : decode cX7_far 23 = .ok (.iload_n 3, 1) := by decide +kernel
theorem dX7_far_24 : decode cX7_far 24 = .ok (.iconst 1, 1) := by decide +kernel
theorem dX7_far_25 : decode cX7_far 25 = .ok (.iadd, 1) := by decide +kernel
theorem dX7_far_26 : decode cX7_far 26 = .ok (.ireturn, 1) := by decide +kernel
theorem dX7_send_0 : decode cX7_send 0 = .ok (.aload_n 0, 1) := by decide +kernel
theorem dX7_send_1 : decode cX7_send 1 = .ok (.bipush 8, 2) := by decide +kernel
theorem dX7_send_3 : decode cX7_send 3 = .ok (.iload_n 2, 1) := by decide +kernel
theorem dX7_send_4 : decode cX7_send 4 = .ok (.iadd, 1) := by decide +kernel
theorem dX7_send_5 : decode cX7_send 5 = .ok (.iaload, 1) := by decide +kernel
theorem dX7_send_6 : decode cX7_send 6 = .ok (.iload_n 3, 1) := by decide +kernel
theorem dX7_send_7 : decode cX7_send 7 = .ok (.invokestatic 48, 3) := by decide +kernel
theorem dX7_send_10 : decode cX7_send 10 = .ok (.ifCond .ne 12, 3) := by decide +kernel
theorem dX7_send_13 : decode cX7_send 13 = .ok (.aload_n 0, 1) := by decide +kernel
theorem dX7_send_14 : decode cX7_send 14 = .ok (.iconst 2, 1) := by decide +kernel
theorem dX7_send_15 : decode cX7_send 15 = .ok (.iaload, 1) := by decide +kernel
theorem dX7_send_16 : decode cX7_send 16 = .ok (.sipush 150, 3) := by decide +kernel
theorem dX7_send_19 : decode cX7_send 19 = .ok (.if_icmp .ne 11, 3) := by decide +kernel
theorem dX7_send_22 : decode cX7_send 22 = .ok (.aload_n 0, 1) := by decide +kernel
theorem dX7_send_23 : decode cX7_send 23 = .ok (.iconst 3, 1) := by decide +kernel
theorem dX7_send_24 : decode cX7_send 24 = .ok (.dup2, 1) := by decide +kernel
theorem dX7_send_25 : decode cX7_send 25 = .ok (.iaload, 1) := by decide +kernel
theorem dX7_send_26 : decode cX7_send 26 = .ok (.iconst 1, 1) := by decide +kernel
theorem dX7_send_27 : decode cX7_send 27 = .ok (.iadd, 1) := by decide +kernel
theorem dX7_send_28 : decode cX7_send 28 = .ok (.iastore, 1) := by decide +kernel
theorem dX7_send_29 : decode cX7_send 29 = .ok (.return_, 1) := by decide +kernel
theorem dX7_send_30 : decode cX7_send 30 = .ok (.aload_n 0, 1) := by decide +kernel
theorem dX7_send_31 : decode cX7_send 31 = .ok (.iconst 1, 1) := by decide +kernel
theorem dX7_send_32 : decode cX7_send 32 = .ok (.iaload, 1) := by decide +kernel
theorem dX7_send_33 : decode cX7_send 33 = .ok (.aload_n 0, 1) := by decide +kernel
theorem dX7_send_34 : decode cX7_send 34 = .ok (.iload_n 2, 1) := by decide +kernel
theorem dX7_send_35 : decode cX7_send 35 = .ok (.iload_n 3, 1) := by decide +kernel
theorem dX7_send_36 : decode cX7_send 36 = .ok (.invokestatic 52, 3) := by decide +kernel
theorem dX7_send_39 : decode cX7_send 39 = .ok (.iadd, 1) := by decide +kernel
theorem dX7_send_40 : decode cX7_send 40 = .ok (.istore 7, 2) := by decide +kernel
theorem dX7_send_42 : decode cX7_send 42 = .ok (.aload_n 0, 1) := by decide +kernel
theorem dX7_send_43 : decode cX7_send 43 = .ok (.iconst 2, 1) := by decide +kernel
theorem dX7_send_44 : decode cX7_send 44 = .ok (.iaload, 1) := by decide +kernel
theorem dX7_send_45 : decode cX7_send 45 = .ok (.istore 8, 2) := by decide +kernel
theorem dX7_send_47 : decode cX7_send 47 = .ok (.iload 8, 2) := by decide +kernel
theorem dX7_send_49 : decode cX7_send 49 = .ok (.ifCond .le 69, 3) := by decide +kernel
theorem dX7_send_52 : decode cX7_send 52 = .ok (.aload_n 0, 1) := by decide +kernel
theorem dX7_send_53 : decode cX7_send 53 = .ok (.iload 8, 2) := by decide +kernel
theorem dX7_send_55 : decode cX7_send 55 = .ok (.iconst 1, 1) := by decide +kernel
theorem dX7_send_56 : decode cX7_send 56 = .ok (.isub, 1) := by decide +kernel
theorem dX7_send_57 : decode cX7_send 57 = .ok (.iconst 3, 1) := by decide +kernel
theorem dX7_send_58 : decode cX7_send 58 = .ok (.invokestatic 55, 3) := by decide +kernel
theorem dX7_send_61 : decode cX7_send 61 = .ok (.iload 7, 2) := by decide +kernel
theorem dX7_send_63 : decode cX7_send 63 = .ok (.if_icmp .le 55, 3) := by decide +kernel
theorem dX7_send_66 : decode cX7_send 66 = .ok (.iconst 0, 1) := by decide +kernel
theorem dX7_send_67 : decode cX7_send 67 = .ok (.istore 9, 2) := by decide +kernel
theorem dX7_send_69 : decode cX7_send 69 = .ok (.iload 9, 2) := by decide +kernel
theorem dX7_send_71 : decode cX7_send 71 = .ok (.bipush 10, 2) := by decide +kernel
theorem dX7_send_73 : decode cX7_send 73 = .ok (.if_icmp .ge 39, 3) := by decide +kernel
theorem dX7_send_76 : decode cX7_send 76 = .ok (.aload_n 0, 1) := by decide +kernel
theorem dX7_send_77 : decode cX7_send 77 = .ok (.sipush 512, 3) := by decide +kernel
theorem dX7_send_80 : decode cX7_send 80 = .ok (.bipush 10, 2) := by decide +kernel
theorem dX7_send_82 : decode cX7_send 82 = .ok (.iload 8, 2) := by decide +kernel
theorem dX7_send_84 : decode cX7_send 84 = .ok (.imul, 1) := by decide +kernel
theorem dX7_send_85 : decode cX7_send 85 = .ok (.iadd, 1) := by decide +kernel
theorem dX7_send_86 : decode cX7_send 86 = .ok (.iload 9, 2) := by decide +kernel
theorem dX7_send_88 : decode cX7_send 88 = .ok (.iadd, 1) := by decide +kernel
theorem dX7_send_89 : decode cX7_send 89 = .ok (.aload_n 0, 1) := by decide +kernel
theorem dX7_send_90 : decode cX7_send 90 = .ok (.sipush 512, 3) := by decide +kernel
theorem dX7_send_93 : decode cX7_send 93 = .ok (.bipush 10, 2) := by decide +kernel
theorem dX7_send_95 : decode cX7_send 95 = .ok (.iload 8, 2) := by decide +kernel
theorem dX7_send_97 : decode cX7_send 97 = .ok (.iconst 1, 1) := by decide +kernel
theorem dX7_send_98 : decode cX7_send 98 = .ok (.isub, 1) := by decide +kernel
theorem dX7_send_99 : decode cX7_send 99 = .ok (.imul, 1) := by decide +kernel
theorem dX7_send_100 : decode cX7_send 100 = .ok (.iadd, 1) := by decide +kernel
theorem dX7_send_101 : decode cX7_send 101 = .ok (.iload 9, 2) := by decide +kernel
theorem dX7_send_103 : decode cX7_send 103 = .ok (.iadd, 1) := by decide +kernel
theorem dX7_send_104 : decode cX7_send 104 = .ok (.iaload, 1) := by decide +kernel
theorem dX7_send_105 : decode cX7_send 105 = .ok (.iastore, 1) := by decide +kernel
theorem dX7_send_106 : decode cX7_send 106 = .ok (.iinc 9 1, 3) := by decide +kernel
theorem dX7_send_109 : decode cX7_send 109 = .ok (.goto (-40), 3) := by decide +kernel
theorem dX7_send_112 : decode cX7_send 112 = .ok (.iinc 8 (-1), 3) := by decide +kernel
theorem dX7_send_115 : decode cX7_send 115 = .ok (.goto (-68), 3) := by decide +kernel
theorem dX7_send_118 : decode cX7_send 118 = .ok (.sipush 512, 3) := by decide +kernel
theorem dX7_send_121 : decode cX7_send 121 = .ok (.bipush 10, 2) := by decide +kernel
theorem dX7_send_123 : decode cX7_send 123 = .ok (.iload 8, 2) := by decide +kernel
theorem dX7_send_125 : decode cX7_send 125 = .ok (.imul, 1) := by decide +kernel
theorem dX7_send_126 : decode cX7_send 126 = .ok (.iadd, 1) := by decide +kernel
theorem dX7_send_127 : decode cX7_send 127 = .ok (.istore 9, 2) := by decide +kernel
theorem dX7_send_129 : decode cX7_send 129 = .ok (.aload_n 0, 1) := by decide +kernel
theorem dX7_send_130 : decode cX7_send 130 = .ok (.iload 9, 2) := by decide +kernel
theorem dX7_send_132 : decode cX7_send 132 = .ok (.iconst 0, 1) := by decide +kernel
theorem dX7_send_133 : decode cX7_send 133 = .ok (.iadd, 1) := by decide +kernel
theorem dX7_send_134 : decode cX7_send 134 = .ok (.iload_n 1, 1) := by decide +kernel
theorem dX7_send_135 : decode cX7_send 135 = .ok (.iastore, 1) := by decide +kernel
theorem dX7_send_136 : decode cX7_send 136 = .ok (.aload_n 0, 1) := by decide +kernel
theorem dX7_send_137 : decode cX7_send 137 = .ok (.iload 9, 2) := by decide +kernel
theorem dX7_send_139 : decode cX7_send 139 = .ok (.iconst 1, 1) := by decide +kernel
theorem dX7_send_140 : decode cX7_send 140 = .ok (.iadd, 1) := by decide +kernel
theorem dX7_send_141 : decode cX7_send 141 = .ok (.iload_n 2, 1) := by decide +kernel
theorem dX7_send_142 : decode cX7_send 142 = .ok (.iastore, 1) := by decide +kernel
theorem dX7_send_143 : decode cX7_send 143 = .ok (.aload_n 0, 1) := by decide +kernel
theorem dX7_send_144 : decode cX7_send 144 = .ok (.iload 9, 2) := by decide +kernel
theorem dX7_send_146 : decode cX7_send 146 = .ok (.iconst 2, 1) := by decide +kernel
theorem dX7_send_147 : decode cX7_send 147 = .ok (.iadd, 1) := by decide +kernel
theorem dX7_send_148 : decode cX7_send 148 = .ok (.iload_n 3, 1) := by decide +kernel
theorem dX7_send_149 : decode cX7_send 149 = .ok (.iastore, 1) := by decide +kernel
theorem dX7_send_150 : decode cX7_send 150 = .ok (.aload_n 0, 1) := by decide +kernel
theorem dX7_send_151 : decode cX7_send 151 = .ok (.iload 9, 2) := by decide +kernel
theorem dX7_send_153 : decode cX7_send 153 = .ok (.iconst 3, 1) := by decide +kernel
theorem dX7_send_154 : decode cX7_send 154 = .ok (.iadd, 1) := by decide +kernel
theorem dX7_send_155 : decode cX7_send 155 = .ok (.iload 7, 2) := by decide +kernel
theorem dX7_send_157 : decode cX7_send 157 = .ok (.iastore, 1) := by decide +kernel
theorem dX7_send_158 : decode cX7_send 158 = .ok (.aload_n 0, 1) := by decide +kernel
theorem dX7_send_159 : decode cX7_send 159 = .ok (.iload 9, 2) := by decide +kernel
theorem dX7_send_161 : decode cX7_send 161 = .ok (.iconst 4, 1) := by decide +kernel
theorem dX7_send_162 : decode cX7_send 162 = .ok (.iadd, 1) := by decide +kernel
theorem dX7_send_163 : decode cX7_send 163 = .ok (.iload 4, 2) := by decide +kernel
theorem dX7_send_165 : decode cX7_send 165 = .ok (.iastore, 1) := by decide +kernel
theorem dX7_send_166 : decode cX7_send 166 = .ok (.aload_n 0, 1) := by decide +kernel
theorem dX7_send_167 : decode cX7_send 167 = .ok (.iload 9, 2) := by decide +kernel
theorem dX7_send_169 : decode cX7_send 169 = .ok (.iconst 5, 1) := by decide +kernel
theorem dX7_send_170 : decode cX7_send 170 = .ok (.iadd, 1) := by decide +kernel
theorem dX7_send_171 : decode cX7_send 171 = .ok (.iload 5, 2) := by decide +kernel
theorem dX7_send_173 : decode cX7_send 173 = .ok (.iastore, 1) := by decide +kernel
theorem dX7_send_174 : decode cX7_send 174 = .ok (.aload_n 0, 1) := by decide +kernel
theorem dX7_send_175 : decode cX7_send 175 = .ok (.iload 9, 2) := by decide +kernel
theorem dX7_send_177 : decode cX7_send 177 = .ok (.bipush 6, 2) := by decide +kernel
theorem dX7_send_179 : decode cX7_send 179 = .ok (.iadd, 1) := by decide +kernel
theorem dX7_send_180 : decode cX7_send 180 = .ok (.iload 6, 2) := by decide +kernel
theorem dX7_send_182 : decode cX7_send 182 = .ok (.iastore, 1) := by decide +kernel
theorem dX7_send_183 : decode cX7_send 183 = .ok (.aload_n 0, 1) := by decide +kernel
theorem dX7_send_184 : decode cX7_send 184 = .ok (.iload 9, 2) := by decide +kernel
theorem dX7_send_186 : decode cX7_send 186 = .ok (.bipush 7, 2) := by decide +kernel
theorem dX7_send_188 : decode cX7_send 188 = .ok (.iadd, 1) := by decide +kernel
theorem dX7_send_189 : decode cX7_send 189 = .ok (.aload_n 0, 1) := by decide +kernel
theorem dX7_send_190 : decode cX7_send 190 = .ok (.iload_n 2, 1) := by decide +kernel
theorem dX7_send_191 : decode cX7_send 191 = .ok (.iconst 2, 1) := by decide +kernel
theorem dX7_send_192 : decode cX7_send 192 = .ok (.invokestatic 44, 3) := by decide +kernel
theorem dX7_send_195 : decode cX7_send 195 = .ok (.iastore, 1) := by decide +kernel
theorem dX7_send_196 : decode cX7_send 196 = .ok (.aload_n 0, 1) := by decide +kernel
theorem dX7_send_197 : decode cX7_send 197 = .ok (.iload 9, 2) := by decide +kernel
theorem dX7_send_199 : decode cX7_send 199 = .ok (.bipush 8, 2) := by decide +kernel
theorem dX7_send_201 : decode cX7_send 201 = .ok (.iadd, 1) := by decide +kernel
theorem dX7_send_202 : decode cX7_send 202 = .ok (.aload_n 0, 1) := by decide +kernel
theorem dX7_send_203 : decode cX7_send 203 = .ok (.iload_n 2, 1) := by decide +kernel
theorem dX7_send_204 : decode cX7_send 204 = .ok (.iconst 3, 1) := by decide +kernel
theorem dX7_send_205 : decode cX7_send 205 = .ok (.invokestatic 44, 3) := by decide +kernel
theorem dX7_send_208 : decode cX7_send 208 = .ok (.iastore, 1) := by decide +kernel
theorem dX7_send_209 : decode cX7_send 209 = .ok (.aload_n 0, 1) := by decide +kernel
theorem dX7_send_210 : decode cX7_send 210 = .ok (.iload 9, 2) := by decide +kernel
theorem dX7_send_212 : decode cX7_send 212 = .ok (.bipush 9, 2) := by decide +kernel
theorem dX7_send_214 : decode cX7_send 214 = .ok (.iadd, 1) := by decide +kernel
theorem dX7_send_215 : decode cX7_send 215 = .ok (.aload_n 0, 1) := by decide +kernel
theorem dX7_send_216 : decode cX7_send 216 = .ok (.iload_n 2, 1) := by decide +kernel
theorem dX7_send_217 : decode cX7_send 217 = .ok (.iconst 4, 1) := by decide +kernel
theorem dX7_send_218 : decode cX7_send 218 = .ok (.invokestatic 44, 3) := by decide +kernel
theorem dX7_send_221 : decode cX7_send 221 = .ok (.iastore, 1) := by decide +kernel
theorem dX7_send_222 : decode cX7_send 222 = .ok (.aload_n 0, 1) := by decide +kernel
theorem dX7_send_223 : decode cX7_send 223 = .ok (.iconst 2, 1) := by decide +kernel
theorem dX7_send_224 : decode cX7_send 224 = .ok (.dup2, 1) := by decide +kernel
theorem dX7_send_225 : decode cX7_send 225 = .ok (.iaload, 1) := by decide +kernel
theorem dX7_send_226 : decode cX7_send 226 = .ok (.iconst 1, 1) := by decide +kernel
theorem dX7_send_227 : decode cX7_send 227 = .ok (.iadd, 1) := by decide +kernel
theorem dX7_send_228 : decode cX7_send 228 = .ok (.iastore, 1) := by decide +kernel
theorem dX7_send_229 : decode cX7_send 229 = .ok (.return_, 1) := by decide +kernel
theorem dX7_takeFirst_0 : decode cX7_takeFirst 0 = .ok (.iconst 0, 1) := by decide +kernel
theorem dX7_takeFirst_1 : decode cX7_takeFirst 1 = .ok (.istore_n 2, 1) := by decide +kernel
theorem dX7_takeFirst_2 : decode cX7_takeFirst 2 = .ok (.iload_n 2, 1) := by decide +kernel
theorem dX7_takeFirst_3 : decode cX7_takeFirst 3 = .ok (.bipush 10, 2) := by decide +kernel
theorem dX7_takeFirst_5 : decode cX7_takeFirst 5 = .ok (.if_icmp .ge 22, 3) := by decide +kernel
theorem dX7_takeFirst_8 : decode cX7_takeFirst 8 = .ok (.aload_n 0, 1) := by decide +kernel
theorem dX7_takeFirst_9 : decode cX7_takeFirst 9 = .ok (.getfield 29, 3) := by decide +kernel
theorem dX7_takeFirst_12 : decode cX7_takeFirst 12 = .ok (.iload_n 2, 1) := by decide +kernel
theorem dX7_takeFirst_13 : decode cX7_takeFirst 13 = .ok (.aload_n 1, 1) := by decide +kernel
theorem dX7_takeFirst_14 : decode cX7_takeFirst 14 = .ok (.sipush 512, 3) := by decide +kernel
theorem dX7_takeFirst_17 : decode cX7_takeFirst 17 = .ok (.iload_n 2, 1) := by decide +kernel
theorem dX7_takeFirst_18 : decode cX7_takeFirst 18 = .ok (.iadd, 1) := by decide +kernel
theorem dX7_takeFirst_19 : decode cX7_takeFirst 19 = .ok (.iaload, 1) := by decide +kernel
theorem dX7_takeFirst_20 : decode cX7_takeFirst 20 = .ok (.iastore, 1) := by decide +kernel
theorem dX7_takeFirst_21 : decode cX7_takeFirst 21 = .ok (.iinc 2 1, 3) := by decide +kernel
theorem dX7_takeFirst_24 : decode cX7_takeFirst 24 = .ok (.goto (-22), 3) := by decide +kernel
theorem dX7_takeFirst_27 : decode cX7_takeFirst 27 = .ok (.aload_n 1, 1) := by decide +kernel
theorem dX7_takeFirst_28 : decode cX7_takeFirst 28 = .ok (.iconst 2, 1) := by decide +kernel
theorem dX7_takeFirst_29 : decode cX7_takeFirst 29 = .ok (.dup2, 1) := by decide +kernel
theorem dX7_takeFirst_30 : decode cX7_takeFirst 30 = .ok (.iaload, 1) := by decide +kernel
theorem dX7_takeFirst_31 : decode cX7_takeFirst 31 = .ok (.iconst 1, 1) := by decide +kernel
theorem dX7_takeFirst_32 : decode cX7_takeFirst 32 = .ok (.isub, 1) := by decide +kernel
theorem dX7_takeFirst_33 : decode cX7_takeFirst 33 = .ok (.iastore, 1) := by decide +kernel
theorem dX7_takeFirst_34 : decode cX7_takeFirst 34 = .ok (.sipush 512, 3) := by decide +kernel
theorem dX7_takeFirst_37 : decode cX7_takeFirst 37 = .ok (.istore_n 2, 1) := by decide +kernel
theorem dX7_takeFirst_38 : decode cX7_takeFirst 38 = .ok (.iload_n 2, 1) := by decide +kernel
theorem dX7_takeFirst_39 : decode cX7_takeFirst 39 = .ok (.sipush 512, 3) := by decide +kernel
theorem dX7_takeFirst_42 : decode cX7_takeFirst 42 = .ok (.bipush 10, 2) := by decide +kernel
theorem dX7_takeFirst_44 : decode cX7_takeFirst 44 = .ok (.aload_n 1, 1) := by decide +kernel
theorem dX7_takeFirst_45 : decode cX7_takeFirst 45 = .ok (.iconst 2, 1) := by decide +kernel
theorem dX7_takeFirst_46 : decode cX7_takeFirst 46 = .ok (.iaload, 1) := by decide +kernel
theorem dX7_takeFirst_47 : decode cX7_takeFirst 47 = .ok (.imul, 1) := by decide +kernel
theorem dX7_takeFirst_48 : decode cX7_takeFirst 48 = .ok (.iadd, 1) := by decide +kernel
theorem dX7_takeFirst_49 : decode cX7_takeFirst 49 = .ok (.if_icmp .ge 18, 3) := by decide +kernel
theorem dX7_takeFirst_52 : decode cX7_takeFirst 52 = .ok (.aload_n 1, 1) := by decide +kernel
theorem dX7_takeFirst_53 : decode cX7_takeFirst 53 = .ok (.iload_n 2, 1) := by decide +kernel
theorem dX7_takeFirst_54 : decode cX7_takeFirst 54 = .ok (.aload_n 1, 1) := by decide +kernel
theorem dX7_takeFirst_55 : decode cX7_takeFirst 55 = .ok (.iload_n 2, 1) := by decide +kernel
theorem dX7_takeFirst_56 : decode cX7_takeFirst 56 = .ok (.bipush 10, 2) := by decide +kernel
theorem dX7_takeFirst_58 : decode cX7_takeFirst 58 = .ok (.iadd, 1) := by decide +kernel
theorem dX7_takeFirst_59 : decode cX7_takeFirst 59 = .ok (.iaload, 1) := by decide +kernel
theorem dX7_takeFirst_60 : decode cX7_takeFirst 60 = .ok (.iastore, 1) := by decide +kernel
theorem dX7_takeFirst_61 : decode cX7_takeFirst 61 = .ok (.iinc 2 1, 3) := by decide +kernel
theorem dX7_takeFirst_64 : decode cX7_takeFirst 64 = .ok (.goto (-26), 3) := by decide +kernel
theorem dX7_takeFirst_67 : decode cX7_takeFirst 67 = .ok (.return_, 1) := by decide +kernel
theorem dX7_over_0 : decode cX7_over 0 = .ok (.bipush 14, 2) := by decide +kernel
theorem dX7_over_2 : decode cX7_over 2 = .ok (.bipush 83, 2) := by decide +kernel
theorem dX7_over_4 : decode cX7_over 4 = .ok (.iload_n 1, 1) := by decide +kernel
theorem dX7_over_5 : decode cX7_over 5 = .ok (.imul, 1) := by decide +kernel
theorem dX7_over_6 : decode cX7_over 6 = .ok (.iadd, 1) := by decide +kernel
theorem dX7_over_7 : decode cX7_over 7 = .ok (.istore_n 3, 1) := by decide +kernel
theorem dX7_over_8 : decode cX7_over 8 = .ok (.aload_n 0, 1) := by decide +kernel
theorem dX7_over_9 : decode cX7_over 9 = .ok (.iload_n 3, 1) := by decide +kernel
theorem dX7_over_10 : decode cX7_over 10 = .ok (.bipush 67, 2) := by decide +kernel
theorem dX7_over_12 : decode cX7_over 12 = .ok (.iadd, 1) := by decide +kernel
theorem dX7_over_13 : decode cX7_over 13 = .ok (.iaload, 1) := by decide +kernel
theorem dX7_over_14 : decode cX7_over 14 = .ok (.iconst 5, 1) := by decide +kernel
theorem dX7_over_15 : decode cX7_over 15 = .ok (.if_icmp .ne 49, 3) := by decide +kernel
theorem dX7_over_18 : decode cX7_over 18 = .ok (.iconst 0, 1) := by decide +kernel
theorem dX7_over_19 : decode cX7_over 19 = .ok (.istore 4, 2) := by decide +kernel
theorem dX7_over_21 : decode cX7_over 21 = .ok (.iload 4, 2) := by decide +kernel
theorem dX7_over_23 : decode cX7_over 23 = .ok (.bipush 12, 2) := by decide +kernel
theorem dX7_over_25 : decode cX7_over 25 = .ok (.if_icmp .ge 29, 3) := by decide +kernel
theorem dX7_over_28 : decode cX7_over 28 = .ok (.aload_n 0, 1) := by decide +kernel
theorem dX7_over_29 : decode cX7_over 29 = .ok (.iload_n 3, 1) := by decide +kernel
theorem dX7_over_30 : decode cX7_over 30 = .ok (.bipush 68, 2) := by decide +kernel
theorem dX7_over_32 : decode cX7_over 32 = .ok (.iadd, 1) := by decide +kernel
theorem dX7_over_33 : decode cX7_over 33 = .ok (.iload 4, 2) := by decide +kernel
theorem dX7_over_35 : decode cX7_over 35 = .ok (.iadd, 1) := by decide +kernel
theorem dX7_over_36 : decode cX7_over 36 = .ok (.aload_n 0, 1) := by decide +kernel
theorem dX7_over_37 : decode cX7_over 37 = .ok (.iload_n 3, 1) := by decide +kernel
theorem dX7_over_38 : decode cX7_over 38 = .ok (.bipush 68, 2) := by decide +kernel
theorem dX7_over_40 : decode cX7_over 40 = .ok (.iadd, 1) := by decide +kernel
theorem dX7_over_41 : decode cX7_over 41 = .ok (.iload 4, 2) := by decide +kernel
theorem dX7_over_43 : decode cX7_over 43 = .ok (.iadd, 1) := by decide +kernel
theorem dX7_over_44 : decode cX7_over 44 = .ok (.iconst 3, 1) := by decide +kernel
theorem dX7_over_45 : decode cX7_over 45 = .ok (.iadd, 1) := by decide +kernel
theorem dX7_over_46 : decode cX7_over 46 = .ok (.iaload, 1) := by decide +kernel
theorem dX7_over_47 : decode cX7_over 47 = .ok (.iastore, 1) := by decide +kernel
theorem dX7_over_48 : decode cX7_over 48 = .ok (.iinc 4 1, 3) := by decide +kernel
theorem dX7_over_51 : decode cX7_over 51 = .ok (.goto (-30), 3) := by decide +kernel
theorem dX7_over_54 : decode cX7_over 54 = .ok (.aload_n 0, 1) := by decide +kernel
theorem dX7_over_55 : decode cX7_over 55 = .ok (.iload_n 3, 1) := by decide +kernel
theorem dX7_over_56 : decode cX7_over 56 = .ok (.bipush 67, 2) := by decide +kernel
theorem dX7_over_58 : decode cX7_over 58 = .ok (.iadd, 1) := by decide +kernel
theorem dX7_over_59 : decode cX7_over 59 = .ok (.dup2, 1) := by decide +kernel
theorem dX7_over_60 : decode cX7_over 60 = .ok (.iaload, 1) := by decide +kernel
theorem dX7_over_61 : decode cX7_over 61 = .ok (.iconst 1, 1) := by decide +kernel
theorem dX7_over_62 : decode cX7_over 62 = .ok (.isub, 1) := by decide +kernel
theorem dX7_over_63 : decode cX7_over 63 = .ok (.iastore, 1) := by decide +kernel
theorem dX7_over_64 : decode cX7_over 64 = .ok (.iload_n 3, 1) := by decide +kernel
theorem dX7_over_65 : decode cX7_over 65 = .ok (.bipush 68, 2) := by decide +kernel
theorem dX7_over_67 : decode cX7_over 67 = .ok (.iadd, 1) := by decide +kernel
theorem dX7_over_68 : decode cX7_over 68 = .ok (.iconst 3, 1) := by decide +kernel
theorem dX7_over_69 : decode cX7_over 69 = .ok (.aload_n 0, 1) := by decide +kernel
theorem dX7_over_70 : decode cX7_over 70 = .ok (.iload_n 3, 1) := by decide +kernel
theorem dX7_over_71 : decode cX7_over 71 = .ok (.bipush 67, 2) := by decide +kernel
theorem dX7_over_73 : decode cX7_over 73 = .ok (.iadd, 1) := by decide +kernel
theorem dX7_over_74 : decode cX7_over 74 = .ok (.iaload, 1) := by decide +kernel
theorem dX7_over_75 : decode cX7_over 75 = .ok (.imul, 1) := by decide +kernel
theorem dX7_over_76 : decode cX7_over 76 = .ok (.iadd, 1) := by decide +kernel
theorem dX7_over_77 : decode cX7_over 77 = .ok (.istore 4, 2) := by decide +kernel
theorem dX7_over_79 : decode cX7_over 79 = .ok (.aload_n 0, 1) := by decide +kernel
theorem dX7_over_80 : decode cX7_over 80 = .ok (.iload 4, 2) := by decide +kernel
theorem dX7_over_82 : decode cX7_over 82 = .ok (.aload_n 0, 1) := by decide +kernel
theorem dX7_over_83 : decode cX7_over 83 = .ok (.iload_n 3, 1) := by decide +kernel
theorem dX7_over_84 : decode cX7_over 84 = .ok (.iconst 2, 1) := by decide +kernel
theorem dX7_over_85 : decode cX7_over 85 = .ok (.iadd, 1) := by decide +kernel
theorem dX7_over_86 : decode cX7_over 86 = .ok (.iaload, 1) := by decide +kernel
theorem dX7_over_87 : decode cX7_over 87 = .ok (.iastore, 1) := by decide +kernel
theorem dX7_over_88 : decode cX7_over 88 = .ok (.aload_n 0, 1) := by decide +kernel
theorem dX7_over_89 : decode cX7_over 89 = .ok (.iload 4, 2) := by decide +kernel
theorem dX7_over_91 : decode cX7_over 91 = .ok (.iconst 1, 1) := by decide +kernel
theorem dX7_over_92 : decode cX7_over 92 = .ok (.iadd, 1) := by decide +kernel
theorem dX7_over_93 : decode cX7_over 93 = .ok (.aload_n 0, 1) := by decide +kernel
theorem dX7_over_94 : decode cX7_over 94 = .ok (.iload_n 3, 1) := by decide +kernel
theorem dX7_over_95 : decode cX7_over 95 = .ok (.iconst 3, 1) := by decide +kernel
theorem dX7_over_96 : decode cX7_over 96 = .ok (.iadd, 1) := by decide +kernel
theorem dX7_over_97 : decode cX7_over 97 = .ok (.iaload, 1) := by decide +kernel
theorem dX7_over_98 : decode cX7_over 98 = .ok (.iastore, 1) := by decide +kernel
theorem dX7_over_99 : decode cX7_over 99 = .ok (.aload_n 0, 1) := by decide +kernel
theorem dX7_over_100 : decode cX7_over 100 = .ok (.iload 4, 2) := by decide +kernel
theorem dX7_over_102 : decode cX7_over 102 = .ok (.iconst 2, 1) := by decide +kernel
theorem dX7_over_103 : decode cX7_over 103 = .ok (.iadd, 1) := by decide +kernel
theorem dX7_over_104 : decode cX7_over 104 = .ok (.iload_n 2, 1) := by decide +kernel
theorem dX7_over_105 : decode cX7_over 105 = .ok (.iastore, 1) := by decide +kernel
theorem dX7_over_106 : decode cX7_over 106 = .ok (.aload_n 0, 1) := by decide +kernel
theorem dX7_over_107 : decode cX7_over 107 = .ok (.iload_n 3, 1) := by decide +kernel
theorem dX7_over_108 : decode cX7_over 108 = .ok (.bipush 67, 2) := by decide +kernel
theorem dX7_over_110 : decode cX7_over 110 = .ok (.iadd, 1) := by decide +kernel
theorem dX7_over_111 : decode cX7_over 111 = .ok (.dup2, 1) := by decide +kernel
theorem dX7_over_112 : decode cX7_over 112 = .ok (.iaload, 1) := by decide +kernel
theorem dX7_over_113 : decode cX7_over 113 = .ok (.iconst 1, 1) := by decide +kernel
theorem dX7_over_114 : decode cX7_over 114 = .ok (.iadd, 1) := by decide +kernel
theorem dX7_over_115 : decode cX7_over 115 = .ok (.iastore, 1) := by decide +kernel
theorem dX7_over_116 : decode cX7_over 116 = .ok (.return_, 1) := by decide +kernel
theorem dX7_enter_0 : decode cX7_enter 0 = .ok (.aload_n 0, 1) := by decide +kernel
theorem dX7_enter_1 : decode cX7_enter 1 = .ok (.iload_n 1, 1) := by decide +kernel
theorem dX7_enter_2 : decode cX7_enter 2 = .ok (.iconst 1, 1) := by decide +kernel
theorem dX7_enter_3 : decode cX7_enter 3 = .ok (.iconst 0, 1) := by decide +kernel
theorem dX7_enter_4 : decode cX7_enter 4 = .ok (.invokestatic 58, 3) := by decide +kernel
theorem dX7_enter_7 : decode cX7_enter 7 = .ok (.aload_n 0, 1) := by decide +kernel
theorem dX7_enter_8 : decode cX7_enter 8 = .ok (.iload_n 1, 1) := by decide +kernel
theorem dX7_enter_9 : decode cX7_enter 9 = .ok (.iconst 2, 1) := by decide +kernel
theorem dX7_enter_10 : decode cX7_enter 10 = .ok (.iload_n 2, 1) := by decide +kernel
theorem dX7_enter_11 : decode cX7_enter 11 = .ok (.invokestatic 58, 3) := by decide +kernel
theorem dX7_enter_14 : decode cX7_enter 14 = .ok (.aload_n 0, 1) := by decide +kernel
theorem dX7_enter_15 : decode cX7_enter 15 = .ok (.iload_n 1, 1) := by decide +kernel
theorem dX7_enter_16 : decode cX7_enter 16 = .ok (.iconst 3, 1) := by decide +kernel
theorem dX7_enter_17 : decode cX7_enter 17 = .ok (.iload_n 3, 1) := by decide +kernel
theorem dX7_enter_18 : decode cX7_enter 18 = .ok (.invokestatic 58, 3) := by decide +kernel
theorem dX7_enter_21 : decode cX7_enter 21 = .ok (.aload_n 0, 1) := by decide +kernel
theorem dX7_enter_22 : decode cX7_enter 22 = .ok (.iload_n 1, 1) := by decide +kernel
theorem dX7_enter_23 : decode cX7_enter 23 = .ok (.iconst 4, 1) := by decide +kernel
theorem dX7_enter_24 : decode cX7_enter 24 = .ok (.iload 4, 2) := by decide +kernel
theorem dX7_enter_26 : decode cX7_enter 26 = .ok (.invokestatic 58, 3) := by decide +kernel
theorem dX7_enter_29 : decode cX7_enter 29 = .ok (.aload_n 0, 1) := by decide +kernel
theorem dX7_enter_30 : decode cX7_enter 30 = .ok (.iload_n 1, 1) := by decide +kernel
theorem dX7_enter_31 : decode cX7_enter 31 = .ok (.iconst 5, 1) := by decide +kernel
theorem dX7_enter_32 : decode cX7_enter 32 = .ok (.iconst 0, 1) := by decide +kernel
theorem dX7_enter_33 : decode cX7_enter 33 = .ok (.invokestatic 58, 3) := by decide +kernel
theorem dX7_enter_36 : decode cX7_enter 36 = .ok (.aload_n 0, 1) := by decide +kernel
theorem dX7_enter_37 : decode cX7_enter 37 = .ok (.iload_n 1, 1) := by decide +kernel
theorem dX7_enter_38 : decode cX7_enter 38 = .ok (.bipush 7, 2) := by decide +kernel
theorem dX7_enter_40 : decode cX7_enter 40 = .ok (.iconst 0, 1) := by decide +kernel
theorem dX7_enter_41 : decode cX7_enter 41 = .ok (.invokestatic 58, 3) := by decide +kernel
theorem dX7_enter_44 : decode cX7_enter 44 = .ok (.return_, 1) := by decide +kernel
theorem dX7_callsNone_0 : decode cX7_callsNone 0 = .ok (.aload_n 0, 1) := by decide +kernel
theorem dX7_callsNone_1 : decode cX7_callsNone 1 = .ok (.iload_n 1, 1) := by decide +kernel
theorem dX7_callsNone_2 : decode cX7_callsNone 2 = .ok (.bipush 8, 2) := by decide +kernel
theorem dX7_callsNone_4 : decode cX7_callsNone 4 = .ok (.iconst 0, 1) := by decide +kernel
theorem dX7_callsNone_5 : decode cX7_callsNone 5 = .ok (.invokestatic 58, 3) := by decide +kernel
theorem dX7_callsNone_8 : decode cX7_callsNone 8 = .ok (.aload_n 0, 1) := by decide +kernel
theorem dX7_callsNone_9 : decode cX7_callsNone 9 = .ok (.iload_n 1, 1) := by decide +kernel
theorem dX7_callsNone_10 : decode cX7_callsNone 10 = .ok (.bipush 9, 2) := by decide +kernel
theorem dX7_callsNone_12 : decode cX7_callsNone 12 = .ok (.iconst 0, 1) := by decide +kernel
theorem dX7_callsNone_13 : decode cX7_callsNone 13 = .ok (.invokestatic 58, 3) := by decide +kernel
theorem dX7_callsNone_16 : decode cX7_callsNone 16 = .ok (.aload_n 0, 1) := by decide +kernel
theorem dX7_callsNone_17 : decode cX7_callsNone 17 = .ok (.iload_n 1, 1) := by decide +kernel
theorem dX7_callsNone_18 : decode cX7_callsNone 18 = .ok (.bipush 10, 2) := by decide +kernel
theorem dX7_callsNone_20 : decode cX7_callsNone 20 = .ok (.iconst 0, 1) := by decide +kernel
theorem dX7_callsNone_21 : decode cX7_callsNone 21 = .ok (.invokestatic 58, 3) := by decide +kernel
theorem dX7_callsNone_24 : decode cX7_callsNone 24 = .ok (.return_, 1) := by decide +kernel
theorem dX7_told_0 : decode cX7_told 0 = .ok (.iload_n 2, 1) := by decide +kernel
theorem dX7_told_1 : decode cX7_told 1 = .ok (.aload_n 0, 1) := by decide +kernel
theorem dX7_told_2 : decode cX7_told 2 = .ok (.iload_n 1, 1) := by decide +kernel
theorem dX7_told_3 : decode cX7_told 3 = .ok (.bipush 6, 2) := by decide +kernel
theorem dX7_told_5 : decode cX7_told 5 = .ok (.invokestatic 44, 3) := by decide +kernel
theorem dX7_told_8 : decode cX7_told 8 = .ok (.if_icmp .lt 13, 3) := by decide +kernel
theorem dX7_told_11 : decode cX7_told 11 = .ok (.iload_n 2, 1) := by decide +kernel
theorem dX7_told_12 : decode cX7_told 12 = .ok (.aload_n 0, 1) := by decide +kernel
theorem dX7_told_13 : decode cX7_told 13 = .ok (.iload_n 1, 1) := by decide +kernel
theorem dX7_told_14 : decode cX7_told 14 = .ok (.iconst 2, 1) := by decide +kernel
theorem dX7_told_15 : decode cX7_told 15 = .ok (.invokestatic 44, 3) := by decide +kernel
theorem dX7_told_18 : decode cX7_told 18 = .ok (.if_icmp .gt 4, 3) := by decide +kernel
theorem dX7_told_21 : decode cX7_told 21 = .ok (.return_, 1) := by decide +kernel
theorem dX7_told_22 : decode cX7_told 22 = .ok (.aload_n 0, 1) := by decide +kernel
theorem dX7_told_23 : decode cX7_told 23 = .ok (.iload_n 1, 1) := by decide +kernel
theorem dX7_told_24 : decode cX7_told 24 = .ok (.iload 5, 2) := by decide +kernel
theorem dX7_told_26 : decode cX7_told 26 = .ok (.invokestatic 62, 3) := by decide +kernel
theorem dX7_told_29 : decode cX7_told 29 = .ok (.aload_n 0, 1) := by decide +kernel
theorem dX7_told_30 : decode cX7_told 30 = .ok (.iload_n 1, 1) := by decide +kernel
theorem dX7_told_31 : decode cX7_told 31 = .ok (.iload_n 2, 1) := by decide +kernel
theorem dX7_told_32 : decode cX7_told 32 = .ok (.iload_n 3, 1) := by decide +kernel
theorem dX7_told_33 : decode cX7_told 33 = .ok (.iload 4, 2) := by decide +kernel
theorem dX7_told_35 : decode cX7_told 35 = .ok (.invokestatic 66, 3) := by decide +kernel
theorem dX7_told_38 : decode cX7_told 38 = .ok (.bipush 14, 2) := by decide +kernel
theorem dX7_told_40 : decode cX7_told 40 = .ok (.bipush 83, 2) := by decide +kernel
theorem dX7_told_42 : decode cX7_told 42 = .ok (.iload_n 1, 1) := by decide +kernel
theorem dX7_told_43 : decode cX7_told 43 = .ok (.imul, 1) := by decide +kernel
theorem dX7_told_44 : decode cX7_told 44 = .ok (.iadd, 1) := by decide +kernel
theorem dX7_told_45 : decode cX7_told 45 = .ok (.istore 6, 2) := by decide +kernel
theorem dX7_told_47 : decode cX7_told 47 = .ok (.iconst 0, 1) := by decide +kernel
theorem dX7_told_48 : decode cX7_told 48 = .ok (.istore 7, 2) := by decide +kernel
theorem dX7_told_50 : decode cX7_told 50 = .ok (.iconst 0, 1) := by decide +kernel
theorem dX7_told_51 : decode cX7_told 51 = .ok (.istore 8, 2) := by decide +kernel
theorem dX7_told_53 : decode cX7_told 53 = .ok (.iload 8, 2) := by decide +kernel
theorem dX7_told_55 : decode cX7_told 55 = .ok (.aload_n 0, 1) := by decide +kernel
theorem dX7_told_56 : decode cX7_told 56 = .ok (.iload 6, 2) := by decide +kernel
theorem dX7_told_58 : decode cX7_told 58 = .ok (.bipush 30, 2) := by decide +kernel
theorem dX7_told_60 : decode cX7_told 60 = .ok (.iadd, 1) := by decide +kernel
theorem dX7_told_61 : decode cX7_told 61 = .ok (.iaload, 1) := by decide +kernel
theorem dX7_told_62 : decode cX7_told 62 = .ok (.if_icmp .ge 111, 3) := by decide +kernel
theorem dX7_told_65 : decode cX7_told 65 = .ok (.iload 6, 2) := by decide +kernel
theorem dX7_told_67 : decode cX7_told 67 = .ok (.bipush 31, 2) := by decide +kernel
theorem dX7_told_69 : decode cX7_told 69 = .ok (.iadd, 1) := by decide +kernel
theorem dX7_told_70 : decode cX7_told 70 = .ok (.iconst 3, 1) := by decide +kernel
theorem dX7_told_71 : decode cX7_told 71 = .ok (.iload 8, 2) := by decide +kernel
theorem dX7_told_73 : decode cX7_told 73 = .ok (.imul, 1) := by decide +kernel
theorem dX7_told_74 : decode cX7_told 74 = .ok (.iadd, 1) := by decide +kernel
theorem dX7_told_75 : decode cX7_told 75 = .ok (.istore 9, 2) := by decide +kernel
theorem dX7_told_77 : decode cX7_told 77 = .ok (.aload_n 0, 1) := by decide +kernel
theorem dX7_told_78 : decode cX7_told 78 = .ok (.iload 9, 2) := by decide +kernel
theorem dX7_told_80 : decode cX7_told 80 = .ok (.iaload, 1) := by decide +kernel
theorem dX7_told_81 : decode cX7_told 81 = .ok (.iload_n 2, 1) := by decide +kernel
theorem dX7_told_82 : decode cX7_told 82 = .ok (.if_icmp .ne 30, 3) := by decide +kernel
theorem dX7_told_85 : decode cX7_told 85 = .ok (.aload_n 0, 1) := by decide +kernel
theorem dX7_told_86 : decode cX7_told 86 = .ok (.iload 9, 2) := by decide +kernel
theorem dX7_told_88 : decode cX7_told 88 = .ok (.iconst 1, 1) := by decide +kernel
theorem dX7_told_89 : decode cX7_told 89 = .ok (.iadd, 1) := by decide +kernel
theorem dX7_told_90 : decode cX7_told 90 = .ok (.iaload, 1) := by decide +kernel
theorem dX7_told_91 : decode cX7_told 91 = .ok (.iload_n 3, 1) := by decide +kernel
theorem dX7_told_92 : decode cX7_told 92 = .ok (.if_icmp .ne 20, 3) := by decide +kernel
theorem dX7_told_95 : decode cX7_told 95 = .ok (.aload_n 0, 1) := by decide +kernel
theorem dX7_told_96 : decode cX7_told 96 = .ok (.iload 6, 2) := by decide +kernel
theorem dX7_told_98 : decode cX7_told 98 = .ok (.iconst 5, 1) := by decide +kernel
theorem dX7_told_99 : decode cX7_told 99 = .ok (.iadd, 1) := by decide +kernel
theorem dX7_told_100 : decode cX7_told 100 = .ok (.dup2, 1) := by decide +kernel
theorem dX7_told_101 : decode cX7_told 101 = .ok (.iaload, 1) := by decide +kernel
theorem dX7_told_102 : decode cX7_told 102 = .ok (.iconst 1, 1) := by decide +kernel
theorem dX7_told_103 : decode cX7_told 103 = .ok (.aload_n 0, 1) := by decide +kernel
theorem dX7_told_104 : decode cX7_told 104 = .ok (.iload 9, 2) := by decide +kernel
theorem dX7_told_106 : decode cX7_told 106 = .ok (.iconst 2, 1) := by decide +kernel
theorem dX7_told_107 : decode cX7_told 107 = .ok (.iadd, 1) := by decide +kernel
theorem dX7_told_108 : decode cX7_told 108 = .ok (.iaload, 1) := by decide +kernel
theorem dX7_told_109 : decode cX7_told 109 = .ok (.ishl, 1) := by decide +kernel
theorem dX7_told_110 : decode cX7_told 110 = .ok (.ior, 1) := by decide +kernel
theorem dX7_told_111 : decode cX7_told 111 = .ok (.iastore, 1) := by decide +kernel
theorem dX7_told_112 : decode cX7_told 112 = .ok (.aload_n 0, 1) := by decide +kernel
theorem dX7_told_113 : decode cX7_told 113 = .ok (.iload 9, 2) := by decide +kernel
theorem dX7_told_115 : decode cX7_told 115 = .ok (.iaload, 1) := by decide +kernel
theorem dX7_told_116 : decode cX7_told 116 = .ok (.iload_n 2, 1) := by decide +kernel
theorem dX7_told_117 : decode cX7_told 117 = .ok (.if_icmp .le 50, 3) := by decide +kernel
theorem dX7_told_120 : decode cX7_told 120 = .ok (.iload 6, 2) := by decide +kernel
theorem dX7_told_122 : decode cX7_told 122 = .ok (.bipush 31, 2) := by decide +kernel
theorem dX7_told_124 : decode cX7_told 124 = .ok (.iadd, 1) := by decide +kernel
theorem dX7_told_125 : decode cX7_told 125 = .ok (.iconst 3, 1) := by decide +kernel
theorem dX7_told_126 : decode cX7_told 126 = .ok (.iload 7, 2) := by decide +kernel
theorem dX7_told_128 : decode cX7_told 128 = .ok (.imul, 1) := by decide +kernel
theorem dX7_told_129 : decode cX7_told 129 = .ok (.iadd, 1) := by decide +kernel
theorem dX7_told_130 : decode cX7_told 130 = .ok (.istore 10, 2) := by decide +kernel
theorem dX7_told_132 : decode cX7_told 132 = .ok (.aload_n 0, 1) := by decide +kernel
theorem dX7_told_133 : decode cX7_told 133 = .ok (.iload 10, 2) := by decide +kernel
theorem dX7_told_135 : decode cX7_told 135 = .ok (.aload_n 0, 1) := by decide +kernel
theorem dX7_told_136 : decode cX7_told 136 = .ok (.iload 9, 2) := by decide +kernel
theorem dX7_told_138 : decode cX7_told 138 = .ok (.iaload, 1) := by decide +kernel
theorem dX7_told_139 : decode cX7_told 139 = .ok (.iastore, 1) := by decide +kernel
theorem dX7_told_140 : decode cX7_told 140 = .ok (.aload_n 0, 1) := by decide +kernel
theorem dX7_told_141 : decode cX7_told 141 = .ok (.iload 10, 2) := by decide +kernel
theorem dX7_told_143 : decode cX7_told 143 = .ok (.iconst 1, 1) := by decide +kernel
theorem dX7_told_144 : decode cX7_told 144 = .ok (.iadd, 1) := by decide +kernel
theorem dX7_told_145 : decode cX7_told 145 = .ok (.aload_n 0, 1) := by decide +kernel
theorem dX7_told_146 : decode cX7_told 146 = .ok (.iload 9, 2) := by decide +kernel
theorem dX7_told_148 : decode cX7_told 148 = .ok (.iconst 1, 1) := by decide +kernel
theorem dX7_told_149 : decode cX7_told 149 = .ok (.iadd, 1) := by decide +kernel
theorem dX7_told_150 : decode cX7_told 150 = .ok (.iaload, 1) := by decide +kernel
theorem dX7_told_151 : decode cX7_told 151 = .ok (.iastore, 1) := by decide +kernel
theorem dX7_told_152 : decode cX7_told 152 = .ok (.aload_n 0, 1) := by decide +kernel
theorem dX7_told_153 : decode cX7_told 153 = .ok (.iload 10, 2) := by decide +kernel
theorem dX7_told_155 : decode cX7_told 155 = .ok (.iconst 2, 1) := by decide +kernel
theorem dX7_told_156 : decode cX7_told 156 = .ok (.iadd, 1) := by decide +kernel
theorem dX7_told_157 : decode cX7_told 157 = .ok (.aload_n 0, 1) := by decide +kernel
theorem dX7_told_158 : decode cX7_told 158 = .ok (.iload 9, 2) := by decide +kernel
theorem dX7_told_160 : decode cX7_told 160 = .ok (.iconst 2, 1) := by decide +kernel
theorem dX7_told_161 : decode cX7_told 161 = .ok (.iadd, 1) := by decide +kernel
theorem dX7_told_162 : decode cX7_told 162 = .ok (.iaload, 1) := by decide +kernel
theorem dX7_told_163 : decode cX7_told 163 = .ok (.iastore, 1) := by decide +kernel
theorem dX7_told_164 : decode cX7_told 164 = .ok (.iinc 7 1, 3) := by decide +kernel
theorem dX7_told_167 : decode cX7_told 167 = .ok (.iinc 8 1, 3) := by decide +kernel
theorem dX7_told_170 : decode cX7_told 170 = .ok (.goto (-117), 3) := by decide +kernel
theorem dX7_told_173 : decode cX7_told 173 = .ok (.aload_n 0, 1) := by decide +kernel
theorem dX7_told_174 : decode cX7_told 174 = .ok (.iload 6, 2) := by decide +kernel
theorem dX7_told_176 : decode cX7_told 176 = .ok (.bipush 30, 2) := by decide +kernel
theorem dX7_told_178 : decode cX7_told 178 = .ok (.iadd, 1) := by decide +kernel
theorem dX7_told_179 : decode cX7_told 179 = .ok (.iload 7, 2) := by decide +kernel
theorem dX7_told_181 : decode cX7_told 181 = .ok (.iastore, 1) := by decide +kernel
theorem dX7_told_182 : decode cX7_told 182 = .ok (.return_, 1) := by decide +kernel
theorem dX7_heardBy_0 : decode cX7_heardBy 0 = .ok (.bipush 14, 2) := by decide +kernel
theorem dX7_heardBy_2 : decode cX7_heardBy 2 = .ok (.bipush 83, 2) := by decide +kernel
theorem dX7_heardBy_4 : decode cX7_heardBy 4 = .ok (.iload_n 1, 1) := by decide +kernel
theorem dX7_heardBy_5 : decode cX7_heardBy 5 = .ok (.imul, 1) := by decide +kernel
theorem dX7_heardBy_6 : decode cX7_heardBy 6 = .ok (.iadd, 1) := by decide +kernel
theorem dX7_heardBy_7 : decode cX7_heardBy 7 = .ok (.bipush 12, 2) := by decide +kernel
theorem dX7_heardBy_9 : decode cX7_heardBy 9 = .ok (.iadd, 1) := by decide +kernel
theorem dX7_heardBy_10 : decode cX7_heardBy 10 = .ok (.istore_n 3, 1) := by decide +kernel
theorem dX7_heardBy_11 : decode cX7_heardBy 11 = .ok (.iconst 0, 1) := by decide +kernel
theorem dX7_heardBy_12 : decode cX7_heardBy 12 = .ok (.istore 4, 2) := by decide +kernel
theorem dX7_heardBy_14 : decode cX7_heardBy 14 = .ok (.iconst 0, 1) := by decide +kernel
theorem dX7_heardBy_15 : decode cX7_heardBy 15 = .ok (.istore 5, 2) := by decide +kernel
theorem dX7_heardBy_17 : decode cX7_heardBy 17 = .ok (.iload 5, 2) := by decide +kernel
theorem dX7_heardBy_19 : decode cX7_heardBy 19 = .ok (.bipush 6, 2) := by decide +kernel
theorem dX7_heardBy_21 : decode cX7_heardBy 21 = .ok (.if_icmp .ge 95, 3) := by decide +kernel
theorem dX7_heardBy_24 : decode cX7_heardBy 24 = .ok (.aload_n 0, 1) := by decide +kernel
theorem dX7_heardBy_25 : decode cX7_heardBy 25 = .ok (.iload_n 3, 1) := by decide +kernel
theorem dX7_heardBy_26 : decode cX7_heardBy 26 = .ok (.iconst 3, 1) := by decide +kernel
theorem dX7_heardBy_27 : decode cX7_heardBy 27 = .ok (.iload 5, 2) := by decide +kernel
theorem dX7_heardBy_29 : decode cX7_heardBy 29 = .ok (.imul, 1) := by decide +kernel
theorem dX7_heardBy_30 : decode cX7_heardBy 30 = .ok (.iadd, 1) := by decide +kernel
theorem dX7_heardBy_31 : decode cX7_heardBy 31 = .ok (.iaload, 1) := by decide +kernel
theorem dX7_heardBy_32 : decode cX7_heardBy 32 = .ok (.aload_n 0, 1) := by decide +kernel
theorem dX7_heardBy_33 : decode cX7_heardBy 33 = .ok (.iload_n 3, 1) := by decide +kernel
theorem dX7_heardBy_34 : decode cX7_heardBy 34 = .ok (.iconst 3, 1) := by decide +kernel
theorem dX7_heardBy_35 : decode cX7_heardBy 35 = .ok (.iload_n 2, 1) := by decide +kernel
theorem dX7_heardBy_36 : decode cX7_heardBy 36 = .ok (.imul, 1) := by decide +kernel
theorem dX7_heardBy_37 : decode cX7_heardBy 37 = .ok (.iadd, 1) := by decide +kernel
theorem dX7_heardBy_38 : decode cX7_heardBy 38 = .ok (.iaload, 1) := by decide +kernel
theorem dX7_heardBy_39 : decode cX7_heardBy 39 = .ok (.if_icmp .ne 29, 3) := by decide +kernel
theorem dX7_heardBy_42 : decode cX7_heardBy 42 = .ok (.aload_n 0, 1) := by decide +kernel
theorem dX7_heardBy_43 : decode cX7_heardBy 43 = .ok (.iload_n 3, 1) := by decide +kernel
theorem dX7_heardBy_44 : decode cX7_heardBy 44 = .ok (.iconst 3, 1) := by decide +kernel
theorem dX7_heardBy_45 : decode cX7_heardBy 45 = .ok (.iload 5, 2) := by decide +kernel
theorem dX7_heardBy_47 : decode cX7_heardBy 47 = .ok (.imul, 1) := by decide +kernel
theorem dX7_heardBy_48 : decode cX7_heardBy 48 = .ok (.iadd, 1) := by decide +kernel
theorem dX7_heardBy_49 : decode cX7_heardBy 49 = .ok (.iconst 1, 1) := by decide +kernel
theorem dX7_heardBy_50 : decode cX7_heardBy 50 = .ok (.iadd, 1) := by decide +kernel
theorem dX7_heardBy_51 : decode cX7_heardBy 51 = .ok (.iaload, 1) := by decide +kernel
theorem dX7_heardBy_52 : decode cX7_heardBy 52 = .ok (.aload_n 0, 1) := by decide +kernel
theorem dX7_heardBy_53 : decode cX7_heardBy 53 = .ok (.iload_n 3, 1) := by decide +kernel
theorem dX7_heardBy_54 : decode cX7_heardBy 54 = .ok (.iconst 3, 1) := by decide +kernel
theorem dX7_heardBy_55 : decode cX7_heardBy 55 = .ok (.iload_n 2, 1) := by decide +kernel
theorem dX7_heardBy_56 : decode cX7_heardBy 56 = .ok (.imul, 1) := by decide +kernel
theorem dX7_heardBy_57 : decode cX7_heardBy 57 = .ok (.iadd, 1) := by decide +kernel
theorem dX7_heardBy_58 : decode cX7_heardBy 58 = .ok (.iconst 1, 1) := by decide +kernel
theorem dX7_heardBy_59 : decode cX7_heardBy 59 = .ok (.iadd, 1) := by decide +kernel
theorem dX7_heardBy_60 : decode cX7_heardBy 60 = .ok (.iaload, 1) := by decide +kernel
theorem dX7_heardBy_61 : decode cX7_heardBy 61 = .ok (.if_icmp .ne 7, 3) := by decide +kernel
theorem dX7_heardBy_64 : decode cX7_heardBy 64 = .ok (.iconst 1, 1) := by decide +kernel
theorem dX7_heardBy_65 : decode cX7_heardBy 65 = .ok (.goto 4, 3) := by decide +kernel
theorem dX7_heardBy_68 : decode cX7_heardBy 68 = .ok (.iconst 0, 1) := by decide +kernel
theorem dX7_heardBy_69 : decode cX7_heardBy 69 = .ok (.istore 6, 2) := by decide +kernel
theorem dX7_heardBy_71 : decode cX7_heardBy 71 = .ok (.iload 4, 2) := by decide +kernel
theorem dX7_heardBy_73 : decode cX7_heardBy 73 = .ok (.aload_n 0, 1) := by decide +kernel
theorem dX7_heardBy_74 : decode cX7_heardBy 74 = .ok (.iload_n 1, 1) := by decide +kernel
theorem dX7_heardBy_75 : decode cX7_heardBy 75 = .ok (.bipush 10, 2) := by decide +kernel
theorem dX7_heardBy_77 : decode cX7_heardBy 77 = .ok (.invokestatic 44, 3) := by decide +kernel
theorem dX7_heardBy_80 : decode cX7_heardBy 80 = .ok (.iload 5, 2) := by decide +kernel
theorem dX7_heardBy_82 : decode cX7_heardBy 82 = .ok (.invokestatic 48, 3) := by decide +kernel
theorem dX7_heardBy_85 : decode cX7_heardBy 85 = .ok (.ifCond .eq 21, 3) := by decide +kernel
theorem dX7_heardBy_88 : decode cX7_heardBy 88 = .ok (.iload 6, 2) := by decide +kernel
theorem dX7_heardBy_90 : decode cX7_heardBy 90 = .ok (.ifCond .eq 16, 3) := by decide +kernel
theorem dX7_heardBy_93 : decode cX7_heardBy 93 = .ok (.aload_n 0, 1) := by decide +kernel
theorem dX7_heardBy_94 : decode cX7_heardBy 94 = .ok (.iload_n 3, 1) := by decide +kernel
theorem dX7_heardBy_95 : decode cX7_heardBy 95 = .ok (.iconst 3, 1) := by decide +kernel
theorem dX7_heardBy_96 : decode cX7_heardBy 96 = .ok (.iload 5, 2) := by decide +kernel
theorem dX7_heardBy_98 : decode cX7_heardBy 98 = .ok (.imul, 1) := by decide +kernel
theorem dX7_heardBy_99 : decode cX7_heardBy 99 = .ok (.iadd, 1) := by decide +kernel
theorem dX7_heardBy_100 : decode cX7_heardBy 100 = .ok (.iconst 2, 1) := by decide +kernel
theorem dX7_heardBy_101 : decode cX7_heardBy 101 = .ok (.iadd, 1) := by decide +kernel
theorem dX7_heardBy_102 : decode cX7_heardBy 102 = .ok (.iaload, 1) := by decide +kernel
theorem dX7_heardBy_103 : decode cX7_heardBy 103 = .ok (.goto 4, 3) := by decide +kernel
theorem dX7_heardBy_106 : decode cX7_heardBy 106 = .ok (.iconst 0, 1) := by decide +kernel
theorem dX7_heardBy_107 : decode cX7_heardBy 107 = .ok (.ior, 1) := by decide +kernel
theorem dX7_heardBy_108 : decode cX7_heardBy 108 = .ok (.istore 4, 2) := by decide +kernel
theorem dX7_heardBy_110 : decode cX7_heardBy 110 = .ok (.iinc 5 1, 3) := by decide +kernel
theorem dX7_heardBy_113 : decode cX7_heardBy 113 = .ok (.goto (-96), 3) := by decide +kernel
theorem dX7_heardBy_116 : decode cX7_heardBy 116 = .ok (.iload 4, 2) := by decide +kernel
theorem dX7_heardBy_118 : decode cX7_heardBy 118 = .ok (.ireturn, 1) := by decide +kernel
theorem dX7_answers_0 : decode cX7_answers 0 = .ok (.bipush 14, 2) := by decide +kernel
theorem dX7_answers_2 : decode cX7_answers 2 = .ok (.bipush 83, 2) := by decide +kernel
theorem dX7_answers_4 : decode cX7_answers 4 = .ok (.iload_n 1, 1) := by decide +kernel
theorem dX7_answers_5 : decode cX7_answers 5 = .ok (.imul, 1) := by decide +kernel
theorem dX7_answers_6 : decode cX7_answers 6 = .ok (.iadd, 1) := by decide +kernel
theorem dX7_answers_7 : decode cX7_answers 7 = .ok (.bipush 12, 2) := by decide +kernel
theorem dX7_answers_9 : decode cX7_answers 9 = .ok (.iadd, 1) := by decide +kernel
theorem dX7_answers_10 : decode cX7_answers 10 = .ok (.iconst 3, 1) := by decide +kernel
theorem dX7_answers_11 : decode cX7_answers 11 = .ok (.iload_n 2, 1) := by decide +kernel
theorem dX7_answers_12 : decode cX7_answers 12 = .ok (.imul, 1) := by decide +kernel
theorem dX7_answers_13 : decode cX7_answers 13 = .ok (.iadd, 1) := by decide +kernel
theorem dX7_answers_14 : decode cX7_answers 14 = .ok (.istore 6, 2) := by decide +kernel
theorem dX7_answers_16 : decode cX7_answers 16 = .ok (.aload_n 0, 1) := by decide +kernel
theorem dX7_answers_17 : decode cX7_answers 17 = .ok (.iload 6, 2) := by decide +kernel
theorem dX7_answers_19 : decode cX7_answers 19 = .ok (.iload_n 3, 1) := by decide +kernel
theorem dX7_answers_20 : decode cX7_answers 20 = .ok (.iastore, 1) := by decide +kernel
theorem dX7_answers_21 : decode cX7_answers 21 = .ok (.aload_n 0, 1) := by decide +kernel
theorem dX7_answers_22 : decode cX7_answers 22 = .ok (.iload 6, 2) := by decide +kernel
theorem dX7_answers_24 : decode cX7_answers 24 = .ok (.iconst 1, 1) := by decide +kernel
theorem dX7_answers_25 : decode cX7_answers 25 = .ok (.iadd, 1) := by decide +kernel
theorem dX7_answers_26 : decode cX7_answers 26 = .ok (.iload 4, 2) := by decide +kernel
theorem dX7_answers_28 : decode cX7_answers 28 = .ok (.iastore, 1) := by decide +kernel
theorem dX7_answers_29 : decode cX7_answers 29 = .ok (.aload_n 0, 1) := by decide +kernel
theorem dX7_answers_30 : decode cX7_answers 30 = .ok (.iload 6, 2) := by decide +kernel
theorem dX7_answers_32 : decode cX7_answers 32 = .ok (.iconst 2, 1) := by decide +kernel
theorem dX7_answers_33 : decode cX7_answers 33 = .ok (.iadd, 1) := by decide +kernel
theorem dX7_answers_34 : decode cX7_answers 34 = .ok (.iload 5, 2) := by decide +kernel
theorem dX7_answers_36 : decode cX7_answers 36 = .ok (.iastore, 1) := by decide +kernel
theorem dX7_answers_37 : decode cX7_answers 37 = .ok (.aload_n 0, 1) := by decide +kernel
theorem dX7_answers_38 : decode cX7_answers 38 = .ok (.iload_n 1, 1) := by decide +kernel
theorem dX7_answers_39 : decode cX7_answers 39 = .ok (.bipush 10, 2) := by decide +kernel
theorem dX7_answers_41 : decode cX7_answers 41 = .ok (.aload_n 0, 1) := by decide +kernel
theorem dX7_answers_42 : decode cX7_answers 42 = .ok (.iload_n 1, 1) := by decide +kernel
theorem dX7_answers_43 : decode cX7_answers 43 = .ok (.bipush 10, 2) := by decide +kernel
theorem dX7_answers_45 : decode cX7_answers 45 = .ok (.invokestatic 44, 3) := by decide +kernel
theorem dX7_answers_48 : decode cX7_answers 48 = .ok (.iconst 1, 1) := by decide +kernel
theorem dX7_answers_49 : decode cX7_answers 49 = .ok (.iload_n 2, 1) := by decide +kernel
theorem dX7_answers_50 : decode cX7_answers 50 = .ok (.ishl, 1) := by decide +kernel
theorem dX7_answers_51 : decode cX7_answers 51 = .ok (.ior, 1) := by decide +kernel
theorem dX7_answers_52 : decode cX7_answers 52 = .ok (.invokestatic 58, 3) := by decide +kernel
theorem dX7_answers_55 : decode cX7_answers 55 = .ok (.aload_n 0, 1) := by decide +kernel
theorem dX7_answers_56 : decode cX7_answers 56 = .ok (.iload_n 1, 1) := by decide +kernel
theorem dX7_answers_57 : decode cX7_answers 57 = .ok (.bipush 10, 2) := by decide +kernel
theorem dX7_answers_59 : decode cX7_answers 59 = .ok (.invokestatic 44, 3) := by decide +kernel
theorem dX7_answers_62 : decode cX7_answers 62 = .ok (.aload_n 0, 1) := by decide +kernel
theorem dX7_answers_63 : decode cX7_answers 63 = .ok (.iload_n 1, 1) := by decide +kernel
theorem dX7_answers_64 : decode cX7_answers 64 = .ok (.bipush 9, 2) := by decide +kernel
theorem dX7_answers_66 : decode cX7_answers 66 = .ok (.invokestatic 44, 3) := by decide +kernel
theorem dX7_answers_69 : decode cX7_answers 69 = .ok (.if_icmp .ne 8, 3) := by decide +kernel
theorem dX7_answers_72 : decode cX7_answers 72 = .ok (.aload_n 0, 1) := by decide +kernel
theorem dX7_answers_73 : decode cX7_answers 73 = .ok (.iload_n 1, 1) := by decide +kernel
theorem dX7_answers_74 : decode cX7_answers 74 = .ok (.invokestatic 70, 3) := by decide +kernel
theorem dX7_answers_77 : decode cX7_answers 77 = .ok (.return_, 1) := by decide +kernel
theorem dX7_stands_0 : decode cX7_stands 0 = .ok (.aload_n 0, 1) := by decide +kernel
theorem dX7_stands_1 : decode cX7_stands 1 = .ok (.iload_n 1, 1) := by decide +kernel
theorem dX7_stands_2 : decode cX7_stands 2 = .ok (.bipush 8, 2) := by decide +kernel
theorem dX7_stands_4 : decode cX7_stands 4 = .ok (.invokestatic 44, 3) := by decide +kernel
theorem dX7_stands_7 : decode cX7_stands 7 = .ok (.istore_n 2, 1) := by decide +kernel
theorem dX7_stands_8 : decode cX7_stands 8 = .ok (.aload_n 0, 1) := by decide +kernel
theorem dX7_stands_9 : decode cX7_stands 9 = .ok (.iload_n 1, 1) := by decide +kernel
theorem dX7_stands_10 : decode cX7_stands 10 = .ok (.bipush 9, 2) := by decide +kernel
theorem dX7_stands_12 : decode cX7_stands 12 = .ok (.invokestatic 44, 3) := by decide +kernel
theorem dX7_stands_15 : decode cX7_stands 15 = .ok (.istore_n 3, 1) := by decide +kernel
theorem dX7_stands_16 : decode cX7_stands 16 = .ok (.aload_n 0, 1) := by decide +kernel
theorem dX7_stands_17 : decode cX7_stands 17 = .ok (.bipush 6, 2) := by decide +kernel
theorem dX7_stands_19 : decode cX7_stands 19 = .ok (.dup2, 1) := by decide +kernel
theorem dX7_stands_20 : decode cX7_stands 20 = .ok (.iaload, 1) := by decide +kernel
theorem dX7_stands_21 : decode cX7_stands 21 = .ok (.iconst 1, 1) := by decide +kernel
theorem dX7_stands_22 : decode cX7_stands 22 = .ok (.iadd, 1) := by decide +kernel
theorem dX7_stands_23 : decode cX7_stands 23 = .ok (.iastore, 1) := by decide +kernel
theorem dX7_stands_24 : decode cX7_stands 24 = .ok (.aload_n 0, 1) := by decide +kernel
theorem dX7_stands_25 : decode cX7_stands 25 = .ok (.iload_n 1, 1) := by decide +kernel
theorem dX7_stands_26 : decode cX7_stands 26 = .ok (.iload_n 2, 1) := by decide +kernel
theorem dX7_stands_27 : decode cX7_stands 27 = .ok (.iload_n 1, 1) := by decide +kernel
theorem dX7_stands_28 : decode cX7_stands 28 = .ok (.iload_n 3, 1) := by decide +kernel
theorem dX7_stands_29 : decode cX7_stands 29 = .ok (.aload_n 0, 1) := by decide +kernel
theorem dX7_stands_30 : decode cX7_stands 30 = .ok (.iload_n 1, 1) := by decide +kernel
theorem dX7_stands_31 : decode cX7_stands 31 = .ok (.iload_n 1, 1) := by decide +kernel
theorem dX7_stands_32 : decode cX7_stands 32 = .ok (.invokestatic 74, 3) := by decide +kernel
theorem dX7_stands_35 : decode cX7_stands 35 = .ok (.invokestatic 77, 3) := by decide +kernel
theorem dX7_stands_38 : decode cX7_stands 38 = .ok (.iconst 0, 1) := by decide +kernel
theorem dX7_stands_39 : decode cX7_stands 39 = .ok (.istore 4, 2) := by decide +kernel
theorem dX7_stands_41 : decode cX7_stands 41 = .ok (.iload 4, 2) := by decide +kernel
end
section
theorem dX7_stands_43 : decode cX7_stands 43 = .ok (.aload_n 0, 1) := by decide +kernel
theorem dX7_stands_44 : decode cX7_stands 44 = .ok (.iconst 0, 1) := by decide +kernel
theorem dX7_stands_45 : decode cX7_stands 45 = .ok (.iaload, 1) := by decide +kernel
theorem dX7_stands_46 : decode cX7_stands 46 = .ok (.if_icmp .ge 41, 3) := by decide +kernel
theorem dX7_stands_49 : decode cX7_stands 49 = .ok (.iload 4, 2) := by decide +kernel
theorem dX7_stands_51 : decode cX7_stands 51 = .ok (.iload_n 1, 1) := by decide +kernel
theorem dX7_stands_52 : decode cX7_stands 52 = .ok (.if_icmp .eq 29, 3) := by decide +kernel
theorem dX7_stands_55 : decode cX7_stands 55 = .ok (.iload_n 3, 1) := by decide +kernel
theorem dX7_stands_56 : decode cX7_stands 56 = .ok (.iload 4, 2) := by decide +kernel
theorem dX7_stands_58 : decode cX7_stands 58 = .ok (.invokestatic 48, 3) := by decide +kernel
theorem dX7_stands_61 : decode cX7_stands 61 = .ok (.ifCond .eq 20, 3) := by decide +kernel
theorem dX7_stands_64 : decode cX7_stands 64 = .ok (.aload_n 0, 1) := by decide +kernel
theorem dX7_stands_65 : decode cX7_stands 65 = .ok (.iconst 3, 1) := by decide +kernel
theorem dX7_stands_66 : decode cX7_stands 66 = .ok (.iload_n 1, 1) := by decide +kernel
theorem dX7_stands_67 : decode cX7_stands 67 = .ok (.iload 4, 2) := by decide +kernel
theorem dX7_stands_69 : decode cX7_stands 69 = .ok (.iload_n 2, 1) := by decide +kernel
theorem dX7_stands_70 : decode cX7_stands 70 = .ok (.iload_n 1, 1) := by decide +kernel
theorem dX7_stands_71 : decode cX7_stands 71 = .ok (.aload_n 0, 1) := by decide +kernel
theorem dX7_stands_72 : decode cX7_stands 72 = .ok (.iload_n 1, 1) := by decide +kernel
theorem dX7_stands_73 : decode cX7_stands 73 = .ok (.iload 4, 2) := by decide +kernel
theorem dX7_stands_75 : decode cX7_stands 75 = .ok (.invokestatic 74, 3) := by decide +kernel
theorem dX7_stands_78 : decode cX7_stands 78 = .ok (.invokestatic 81, 3) := by decide +kernel
theorem dX7_stands_81 : decode cX7_stands 81 = .ok (.iinc 4 1, 3) := by decide +kernel
theorem dX7_stands_84 : decode cX7_stands 84 = .ok (.goto (-43), 3) := by decide +kernel
theorem dX7_stands_87 : decode cX7_stands 87 = .ok (.aload_n 0, 1) := by decide +kernel
theorem dX7_stands_88 : decode cX7_stands 88 = .ok (.iload_n 1, 1) := by decide +kernel
theorem dX7_stands_89 : decode cX7_stands 89 = .ok (.invokestatic 85, 3) := by decide +kernel
theorem dX7_stands_92 : decode cX7_stands 92 = .ok (.return_, 1) := by decide +kernel
theorem dX7_callOn_0 : decode cX7_callOn 0 = .ok (.aload_n 0, 1) := by decide +kernel
theorem dX7_callOn_1 : decode cX7_callOn 1 = .ok (.iload_n 1, 1) := by decide +kernel
theorem dX7_callOn_2 : decode cX7_callOn 2 = .ok (.bipush 6, 2) := by decide +kernel
theorem dX7_callOn_4 : decode cX7_callOn 4 = .ok (.invokestatic 44, 3) := by decide +kernel
theorem dX7_callOn_7 : decode cX7_callOn 7 = .ok (.iconst 1, 1) := by decide +kernel
theorem dX7_callOn_8 : decode cX7_callOn 8 = .ok (.iadd, 1) := by decide +kernel
theorem dX7_callOn_9 : decode cX7_callOn 9 = .ok (.istore_n 3, 1) := by decide +kernel
theorem dX7_callOn_10 : decode cX7_callOn 10 = .ok (.aload_n 0, 1) := by decide +kernel
theorem dX7_callOn_11 : decode cX7_callOn 11 = .ok (.iload_n 1, 1) := by decide +kernel
theorem dX7_callOn_12 : decode cX7_callOn 12 = .ok (.bipush 6, 2) := by decide +kernel
theorem dX7_callOn_14 : decode cX7_callOn 14 = .ok (.iload_n 3, 1) := by decide +kernel
theorem dX7_callOn_15 : decode cX7_callOn 15 = .ok (.invokestatic 58, 3) := by decide +kernel
theorem dX7_callOn_18 : decode cX7_callOn 18 = .ok (.aload_n 0, 1) := by decide +kernel
theorem dX7_callOn_19 : decode cX7_callOn 19 = .ok (.iload_n 1, 1) := by decide +kernel
theorem dX7_callOn_20 : decode cX7_callOn 20 = .ok (.iconst 1, 1) := by decide +kernel
theorem dX7_callOn_21 : decode cX7_callOn 21 = .ok (.iconst 1, 1) := by decide +kernel
theorem dX7_callOn_22 : decode cX7_callOn 22 = .ok (.invokestatic 58, 3) := by decide +kernel
theorem dX7_callOn_25 : decode cX7_callOn 25 = .ok (.aload_n 0, 1) := by decide +kernel
theorem dX7_callOn_26 : decode cX7_callOn 26 = .ok (.iload_n 1, 1) := by decide +kernel
theorem dX7_callOn_27 : decode cX7_callOn 27 = .ok (.bipush 8, 2) := by decide +kernel
theorem dX7_callOn_29 : decode cX7_callOn 29 = .ok (.iload_n 3, 1) := by decide +kernel
theorem dX7_callOn_30 : decode cX7_callOn 30 = .ok (.invokestatic 58, 3) := by decide +kernel
theorem dX7_callOn_33 : decode cX7_callOn 33 = .ok (.aload_n 0, 1) := by decide +kernel
theorem dX7_callOn_34 : decode cX7_callOn 34 = .ok (.iload_n 1, 1) := by decide +kernel
theorem dX7_callOn_35 : decode cX7_callOn 35 = .ok (.bipush 9, 2) := by decide +kernel
theorem dX7_callOn_37 : decode cX7_callOn 37 = .ok (.iload_n 2, 1) := by decide +kernel
theorem dX7_callOn_38 : decode cX7_callOn 38 = .ok (.invokestatic 58, 3) := by decide +kernel
theorem dX7_callOn_41 : decode cX7_callOn 41 = .ok (.aload_n 0, 1) := by decide +kernel
theorem dX7_callOn_42 : decode cX7_callOn 42 = .ok (.iload_n 1, 1) := by decide +kernel
theorem dX7_callOn_43 : decode cX7_callOn 43 = .ok (.bipush 10, 2) := by decide +kernel
theorem dX7_callOn_45 : decode cX7_callOn 45 = .ok (.iconst 0, 1) := by decide +kernel
theorem dX7_callOn_46 : decode cX7_callOn 46 = .ok (.invokestatic 58, 3) := by decide +kernel
theorem dX7_callOn_49 : decode cX7_callOn 49 = .ok (.aload_n 0, 1) := by decide +kernel
theorem dX7_callOn_50 : decode cX7_callOn 50 = .ok (.iload_n 1, 1) := by decide +kernel
theorem dX7_callOn_51 : decode cX7_callOn 51 = .ok (.bipush 11, 2) := by decide +kernel
theorem dX7_callOn_53 : decode cX7_callOn 53 = .ok (.aload_n 0, 1) := by decide +kernel
theorem dX7_callOn_54 : decode cX7_callOn 54 = .ok (.iconst 1, 1) := by decide +kernel
theorem dX7_callOn_55 : decode cX7_callOn 55 = .ok (.iaload, 1) := by decide +kernel
theorem dX7_callOn_56 : decode cX7_callOn 56 = .ok (.invokestatic 58, 3) := by decide +kernel
theorem dX7_callOn_59 : decode cX7_callOn 59 = .ok (.iload_n 2, 1) := by decide +kernel
theorem dX7_callOn_60 : decode cX7_callOn 60 = .ok (.iconst 1, 1) := by decide +kernel
theorem dX7_callOn_61 : decode cX7_callOn 61 = .ok (.iload_n 1, 1) := by decide +kernel
theorem dX7_callOn_62 : decode cX7_callOn 62 = .ok (.ishl, 1) := by decide +kernel
theorem dX7_callOn_63 : decode cX7_callOn 63 = .ok (.if_icmp .eq 46, 3) := by decide +kernel
theorem dX7_callOn_66 : decode cX7_callOn 66 = .ok (.iconst 0, 1) := by decide +kernel
theorem dX7_callOn_67 : decode cX7_callOn 67 = .ok (.istore 4, 2) := by decide +kernel
theorem dX7_callOn_69 : decode cX7_callOn 69 = .ok (.iload 4, 2) := by decide +kernel
theorem dX7_callOn_71 : decode cX7_callOn 71 = .ok (.aload_n 0, 1) := by decide +kernel
theorem dX7_callOn_72 : decode cX7_callOn 72 = .ok (.iconst 0, 1) := by decide +kernel
theorem dX7_callOn_73 : decode cX7_callOn 73 = .ok (.iaload, 1) := by decide +kernel
theorem dX7_callOn_74 : decode cX7_callOn 74 = .ok (.if_icmp .ge 35, 3) := by decide +kernel
theorem dX7_callOn_77 : decode cX7_callOn 77 = .ok (.iload 4, 2) := by decide +kernel
theorem dX7_callOn_79 : decode cX7_callOn 79 = .ok (.iload_n 1, 1) := by decide +kernel
theorem dX7_callOn_80 : decode cX7_callOn 80 = .ok (.if_icmp .eq 23, 3) := by decide +kernel
theorem dX7_callOn_83 : decode cX7_callOn 83 = .ok (.iload_n 2, 1) := by decide +kernel
theorem dX7_callOn_84 : decode cX7_callOn 84 = .ok (.iload 4, 2) := by decide +kernel
theorem dX7_callOn_86 : decode cX7_callOn 86 = .ok (.invokestatic 48, 3) := by decide +kernel
theorem dX7_callOn_89 : decode cX7_callOn 89 = .ok (.ifCond .eq 14, 3) := by decide +kernel
theorem dX7_callOn_92 : decode cX7_callOn 92 = .ok (.aload_n 0, 1) := by decide +kernel
theorem dX7_callOn_93 : decode cX7_callOn 93 = .ok (.iconst 1, 1) := by decide +kernel
theorem dX7_callOn_94 : decode cX7_callOn 94 = .ok (.iload_n 1, 1) := by decide +kernel
theorem dX7_callOn_95 : decode cX7_callOn 95 = .ok (.iload 4, 2) := by decide +kernel
theorem dX7_callOn_97 : decode cX7_callOn 97 = .ok (.iload_n 3, 1) := by decide +kernel
theorem dX7_callOn_98 : decode cX7_callOn 98 = .ok (.iload_n 1, 1) := by decide +kernel
theorem dX7_callOn_99 : decode cX7_callOn 99 = .ok (.iload_n 2, 1) := by decide +kernel
theorem dX7_callOn_100 : decode cX7_callOn 100 = .ok (.invokestatic 81, 3) := by decide +kernel
theorem dX7_callOn_103 : decode cX7_callOn 103 = .ok (.iinc 4 1, 3) := by decide +kernel
theorem dX7_callOn_106 : decode cX7_callOn 106 = .ok (.goto (-37), 3) := by decide +kernel
theorem dX7_callOn_109 : decode cX7_callOn 109 = .ok (.aload_n 0, 1) := by decide +kernel
theorem dX7_callOn_110 : decode cX7_callOn 110 = .ok (.iload_n 1, 1) := by decide +kernel
theorem dX7_callOn_111 : decode cX7_callOn 111 = .ok (.iload_n 1, 1) := by decide +kernel
theorem dX7_callOn_112 : decode cX7_callOn 112 = .ok (.aload_n 0, 1) := by decide +kernel
theorem dX7_callOn_113 : decode cX7_callOn 113 = .ok (.iload_n 1, 1) := by decide +kernel
theorem dX7_callOn_114 : decode cX7_callOn 114 = .ok (.iconst 2, 1) := by decide +kernel
theorem dX7_callOn_115 : decode cX7_callOn 115 = .ok (.invokestatic 44, 3) := by decide +kernel
theorem dX7_callOn_118 : decode cX7_callOn 118 = .ok (.aload_n 0, 1) := by decide +kernel
theorem dX7_callOn_119 : decode cX7_callOn 119 = .ok (.iload_n 1, 1) := by decide +kernel
theorem dX7_callOn_120 : decode cX7_callOn 120 = .ok (.iconst 3, 1) := by decide +kernel
theorem dX7_callOn_121 : decode cX7_callOn 121 = .ok (.invokestatic 44, 3) := by decide +kernel
theorem dX7_callOn_124 : decode cX7_callOn 124 = .ok (.aload_n 0, 1) := by decide +kernel
theorem dX7_callOn_125 : decode cX7_callOn 125 = .ok (.iload_n 1, 1) := by decide +kernel
theorem dX7_callOn_126 : decode cX7_callOn 126 = .ok (.iconst 5, 1) := by decide +kernel
theorem dX7_callOn_127 : decode cX7_callOn 127 = .ok (.invokestatic 44, 3) := by decide +kernel
theorem dX7_callOn_130 : decode cX7_callOn 130 = .ok (.invokestatic 88, 3) := by decide +kernel
theorem dX7_callOn_133 : decode cX7_callOn 133 = .ok (.iload_n 3, 1) := by decide +kernel
theorem dX7_callOn_134 : decode cX7_callOn 134 = .ok (.ireturn, 1) := by decide +kernel
theorem dX7_speech_0 : decode cX7_speech 0 = .ok (.aload_n 0, 1) := by decide +kernel
theorem dX7_speech_1 : decode cX7_speech 1 = .ok (.getfield 29, 3) := by decide +kernel
theorem dX7_speech_4 : decode cX7_speech 4 = .ok (.iconst 2, 1) := by decide +kernel
theorem dX7_speech_5 : decode cX7_speech 5 = .ok (.iaload, 1) := by decide +kernel
theorem dX7_speech_6 : decode cX7_speech 6 = .ok (.istore_n 2, 1) := by decide +kernel
theorem dX7_speech_7 : decode cX7_speech 7 = .ok (.bipush 14, 2) := by decide +kernel
theorem dX7_speech_9 : decode cX7_speech 9 = .ok (.bipush 83, 2) := by decide +kernel
theorem dX7_speech_11 : decode cX7_speech 11 = .ok (.iload_n 2, 1) := by decide +kernel
theorem dX7_speech_12 : decode cX7_speech 12 = .ok (.imul, 1) := by decide +kernel
theorem dX7_speech_13 : decode cX7_speech 13 = .ok (.iadd, 1) := by decide +kernel
theorem dX7_speech_14 : decode cX7_speech 14 = .ok (.istore_n 3, 1) := by decide +kernel
theorem dX7_speech_15 : decode cX7_speech 15 = .ok (.aload_n 1, 1) := by decide +kernel
theorem dX7_speech_16 : decode cX7_speech 16 = .ok (.iload_n 3, 1) := by decide +kernel
theorem dX7_speech_17 : decode cX7_speech 17 = .ok (.iconst 2, 1) := by decide +kernel
theorem dX7_speech_18 : decode cX7_speech 18 = .ok (.iadd, 1) := by decide +kernel
theorem dX7_speech_19 : decode cX7_speech 19 = .ok (.iaload, 1) := by decide +kernel
theorem dX7_speech_20 : decode cX7_speech 20 = .ok (.aload_n 0, 1) := by decide +kernel
theorem dX7_speech_21 : decode cX7_speech 21 = .ok (.getfield 29, 3) := by decide +kernel
theorem dX7_speech_24 : decode cX7_speech 24 = .ok (.iconst 4, 1) := by decide +kernel
theorem dX7_speech_25 : decode cX7_speech 25 = .ok (.iaload, 1) := by decide +kernel
theorem dX7_speech_26 : decode cX7_speech 26 = .ok (.if_icmp .ne 21, 3) := by decide +kernel
theorem dX7_speech_29 : decode cX7_speech 29 = .ok (.aload_n 1, 1) := by decide +kernel
theorem dX7_speech_30 : decode cX7_speech 30 = .ok (.iload_n 3, 1) := by decide +kernel
theorem dX7_speech_31 : decode cX7_speech 31 = .ok (.iconst 3, 1) := by decide +kernel
theorem dX7_speech_32 : decode cX7_speech 32 = .ok (.iadd, 1) := by decide +kernel
theorem dX7_speech_33 : decode cX7_speech 33 = .ok (.iaload, 1) := by decide +kernel
theorem dX7_speech_34 : decode cX7_speech 34 = .ok (.aload_n 0, 1) := by decide +kernel
theorem dX7_speech_35 : decode cX7_speech 35 = .ok (.getfield 29, 3) := by decide +kernel
theorem dX7_speech_38 : decode cX7_speech 38 = .ok (.iconst 5, 1) := by decide +kernel
theorem dX7_speech_39 : decode cX7_speech 39 = .ok (.iaload, 1) := by decide +kernel
theorem dX7_speech_40 : decode cX7_speech 40 = .ok (.if_icmp .ne 7, 3) := by decide +kernel
theorem dX7_speech_43 : decode cX7_speech 43 = .ok (.iconst 1, 1) := by decide +kernel
theorem dX7_speech_44 : decode cX7_speech 44 = .ok (.goto 4, 3) := by decide +kernel
theorem dX7_speech_47 : decode cX7_speech 47 = .ok (.iconst 0, 1) := by decide +kernel
theorem dX7_speech_48 : decode cX7_speech 48 = .ok (.istore 4, 2) := by decide +kernel
theorem dX7_speech_50 : decode cX7_speech 50 = .ok (.iload 4, 2) := by decide +kernel
theorem dX7_speech_52 : decode cX7_speech 52 = .ok (.ifCond .eq 31, 3) := by decide +kernel
theorem dX7_speech_55 : decode cX7_speech 55 = .ok (.aload_n 1, 1) := by decide +kernel
theorem dX7_speech_56 : decode cX7_speech 56 = .ok (.iload_n 3, 1) := by decide +kernel
theorem dX7_speech_57 : decode cX7_speech 57 = .ok (.iconst 1, 1) := by decide +kernel
theorem dX7_speech_58 : decode cX7_speech 58 = .ok (.iadd, 1) := by decide +kernel
theorem dX7_speech_59 : decode cX7_speech 59 = .ok (.iaload, 1) := by decide +kernel
theorem dX7_speech_60 : decode cX7_speech 60 = .ok (.ifCond .ne 23, 3) := by decide +kernel
theorem dX7_speech_63 : decode cX7_speech 63 = .ok (.aload_n 1, 1) := by decide +kernel
theorem dX7_speech_64 : decode cX7_speech 64 = .ok (.iload_n 3, 1) := by decide +kernel
theorem dX7_speech_65 : decode cX7_speech 65 = .ok (.iconst 5, 1) := by decide +kernel
theorem dX7_speech_66 : decode cX7_speech 66 = .ok (.iadd, 1) := by decide +kernel
theorem dX7_speech_67 : decode cX7_speech 67 = .ok (.dup2, 1) := by decide +kernel
theorem dX7_speech_68 : decode cX7_speech 68 = .ok (.iaload, 1) := by decide +kernel
theorem dX7_speech_69 : decode cX7_speech 69 = .ok (.iconst 1, 1) := by decide +kernel
theorem dX7_speech_70 : decode cX7_speech 70 = .ok (.aload_n 0, 1) := by decide +kernel
theorem dX7_speech_71 : decode cX7_speech 71 = .ok (.getfield 29, 3) := by decide +kernel
theorem dX7_speech_74 : decode cX7_speech 74 = .ok (.bipush 6, 2) := by decide +kernel
theorem dX7_speech_76 : decode cX7_speech 76 = .ok (.iaload, 1) := by decide +kernel
theorem dX7_speech_77 : decode cX7_speech 77 = .ok (.ishl, 1) := by decide +kernel
theorem dX7_speech_78 : decode cX7_speech 78 = .ok (.ior, 1) := by decide +kernel
theorem dX7_speech_79 : decode cX7_speech 79 = .ok (.iastore, 1) := by decide +kernel
theorem dX7_speech_80 : decode cX7_speech 80 = .ok (.goto 98, 3) := by decide +kernel
theorem dX7_speech_83 : decode cX7_speech 83 = .ok (.aload_n 0, 1) := by decide +kernel
theorem dX7_speech_84 : decode cX7_speech 84 = .ok (.getfield 29, 3) := by decide +kernel
theorem dX7_speech_87 : decode cX7_speech 87 = .ok (.iconst 4, 1) := by decide +kernel
theorem dX7_speech_88 : decode cX7_speech 88 = .ok (.iaload, 1) := by decide +kernel
theorem dX7_speech_89 : decode cX7_speech 89 = .ok (.aload_n 1, 1) := by decide +kernel
theorem dX7_speech_90 : decode cX7_speech 90 = .ok (.iload_n 3, 1) := by decide +kernel
theorem dX7_speech_91 : decode cX7_speech 91 = .ok (.iconst 2, 1) := by decide +kernel
theorem dX7_speech_92 : decode cX7_speech 92 = .ok (.iadd, 1) := by decide +kernel
theorem dX7_speech_93 : decode cX7_speech 93 = .ok (.iaload, 1) := by decide +kernel
theorem dX7_speech_94 : decode cX7_speech 94 = .ok (.if_icmp .le 77, 3) := by decide +kernel
theorem dX7_speech_97 : decode cX7_speech 97 = .ok (.aload_n 1, 1) := by decide +kernel
theorem dX7_speech_98 : decode cX7_speech 98 = .ok (.iload_n 3, 1) := by decide +kernel
theorem dX7_speech_99 : decode cX7_speech 99 = .ok (.bipush 30, 2) := by decide +kernel
theorem dX7_speech_101 : decode cX7_speech 101 = .ok (.iadd, 1) := by decide +kernel
theorem dX7_speech_102 : decode cX7_speech 102 = .ok (.iaload, 1) := by decide +kernel
theorem dX7_speech_103 : decode cX7_speech 103 = .ok (.bipush 12, 2) := by decide +kernel
theorem dX7_speech_105 : decode cX7_speech 105 = .ok (.if_icmp .ge 66, 3) := by decide +kernel
theorem dX7_speech_108 : decode cX7_speech 108 = .ok (.iload_n 3, 1) := by decide +kernel
theorem dX7_speech_109 : decode cX7_speech 109 = .ok (.bipush 31, 2) := by decide +kernel
theorem dX7_speech_111 : decode cX7_speech 111 = .ok (.iadd, 1) := by decide +kernel
theorem dX7_speech_112 : decode cX7_speech 112 = .ok (.iconst 3, 1) := by decide +kernel
theorem dX7_speech_113 : decode cX7_speech 113 = .ok (.aload_n 1, 1) := by decide +kernel
theorem dX7_speech_114 : decode cX7_speech 114 = .ok (.iload_n 3, 1) := by decide +kernel
theorem dX7_speech_115 : decode cX7_speech 115 = .ok (.bipush 30, 2) := by decide +kernel
theorem dX7_speech_117 : decode cX7_speech 117 = .ok (.iadd, 1) := by decide +kernel
theorem dX7_speech_118 : decode cX7_speech 118 = .ok (.iaload, 1) := by decide +kernel
theorem dX7_speech_119 : decode cX7_speech 119 = .ok (.imul, 1) := by decide +kernel
theorem dX7_speech_120 : decode cX7_speech 120 = .ok (.iadd, 1) := by decide +kernel
theorem dX7_speech_121 : decode cX7_speech 121 = .ok (.istore 5, 2) := by decide +kernel
theorem dX7_speech_123 : decode cX7_speech 123 = .ok (.aload_n 1, 1) := by decide +kernel
theorem dX7_speech_124 : decode cX7_speech 124 = .ok (.iload 5, 2) := by decide +kernel
theorem dX7_speech_126 : decode cX7_speech 126 = .ok (.aload_n 0, 1) := by decide +kernel
theorem dX7_speech_127 : decode cX7_speech 127 = .ok (.getfield 29, 3) := by decide +kernel
theorem dX7_speech_130 : decode cX7_speech 130 = .ok (.iconst 4, 1) := by decide +kernel
theorem dX7_speech_131 : decode cX7_speech 131 = .ok (.iaload, 1) := by decide +kernel
theorem dX7_speech_132 : decode cX7_speech 132 = .ok (.iastore, 1) := by decide +kernel
theorem dX7_speech_133 : decode cX7_speech 133 = .ok (.aload_n 1, 1) := by decide +kernel
theorem dX7_speech_134 : decode cX7_speech 134 = .ok (.iload 5, 2) := by decide +kernel
theorem dX7_speech_136 : decode cX7_speech 136 = .ok (.iconst 1, 1) := by decide +kernel
theorem dX7_speech_137 : decode cX7_speech 137 = .ok (.iadd, 1) := by decide +kernel
theorem dX7_speech_138 : decode cX7_speech 138 = .ok (.aload_n 0, 1) := by decide +kernel
theorem dX7_speech_139 : decode cX7_speech 139 = .ok (.getfield 29, 3) := by decide +kernel
theorem dX7_speech_142 : decode cX7_speech 142 = .ok (.iconst 5, 1) := by decide +kernel
theorem dX7_speech_143 : decode cX7_speech 143 = .ok (.iaload, 1) := by decide +kernel
theorem dX7_speech_144 : decode cX7_speech 144 = .ok (.iastore, 1) := by decide +kernel
theorem dX7_speech_145 : decode cX7_speech 145 = .ok (.aload_n 1, 1) := by decide +kernel
theorem dX7_speech_146 : decode cX7_speech 146 = .ok (.iload 5, 2) := by decide +kernel
theorem dX7_speech_148 : decode cX7_speech 148 = .ok (.iconst 2, 1) := by decide +kernel
theorem dX7_speech_149 : decode cX7_speech 149 = .ok (.iadd, 1) := by decide +kernel
theorem dX7_speech_150 : decode cX7_speech 150 = .ok (.aload_n 0, 1) := by decide +kernel
theorem dX7_speech_151 : decode cX7_speech 151 = .ok (.getfield 29, 3) := by decide +kernel
theorem dX7_speech_154 : decode cX7_speech 154 = .ok (.bipush 6, 2) := by decide +kernel
theorem dX7_speech_156 : decode cX7_speech 156 = .ok (.iaload, 1) := by decide +kernel
theorem dX7_speech_157 : decode cX7_speech 157 = .ok (.iastore, 1) := by decide +kernel
theorem dX7_speech_158 : decode cX7_speech 158 = .ok (.aload_n 1, 1) := by decide +kernel
theorem dX7_speech_159 : decode cX7_speech 159 = .ok (.iload_n 3, 1) := by decide +kernel
theorem dX7_speech_160 : decode cX7_speech 160 = .ok (.bipush 30, 2) := by decide +kernel
theorem dX7_speech_162 : decode cX7_speech 162 = .ok (.iadd, 1) := by decide +kernel
theorem dX7_speech_163 : decode cX7_speech 163 = .ok (.dup2, 1) := by decide +kernel
theorem dX7_speech_164 : decode cX7_speech 164 = .ok (.iaload, 1) := by decide +kernel
theorem dX7_speech_165 : decode cX7_speech 165 = .ok (.iconst 1, 1) := by decide +kernel
theorem dX7_speech_166 : decode cX7_speech 166 = .ok (.iadd, 1) := by decide +kernel
theorem dX7_speech_167 : decode cX7_speech 167 = .ok (.iastore, 1) := by decide +kernel
theorem dX7_speech_168 : decode cX7_speech 168 = .ok (.goto 10, 3) := by decide +kernel
theorem dX7_speech_171 : decode cX7_speech 171 = .ok (.aload_n 1, 1) := by decide +kernel
theorem dX7_speech_172 : decode cX7_speech 172 = .ok (.iconst 5, 1) := by decide +kernel
theorem dX7_speech_173 : decode cX7_speech 173 = .ok (.dup2, 1) := by decide +kernel
theorem dX7_speech_174 : decode cX7_speech 174 = .ok (.iaload, 1) := by decide +kernel
theorem dX7_speech_175 : decode cX7_speech 175 = .ok (.iconst 1, 1) := by decide +kernel
theorem dX7_speech_176 : decode cX7_speech 176 = .ok (.iadd, 1) := by decide +kernel
theorem dX7_speech_177 : decode cX7_speech 177 = .ok (.iastore, 1) := by decide +kernel
theorem dX7_speech_178 : decode cX7_speech 178 = .ok (.return_, 1) := by decide +kernel
theorem dX7_called_0 : decode cX7_called 0 = .ok (.aload_n 0, 1) := by decide +kernel
theorem dX7_called_1 : decode cX7_called 1 = .ok (.getfield 29, 3) := by decide +kernel
theorem dX7_called_4 : decode cX7_called 4 = .ok (.iconst 2, 1) := by decide +kernel
theorem dX7_called_5 : decode cX7_called 5 = .ok (.iaload, 1) := by decide +kernel
theorem dX7_called_6 : decode cX7_called 6 = .ok (.istore_n 2, 1) := by decide +kernel
theorem dX7_called_7 : decode cX7_called 7 = .ok (.aload_n 0, 1) := by decide +kernel
theorem dX7_called_8 : decode cX7_called 8 = .ok (.getfield 29, 3) := by decide +kernel
theorem dX7_called_11 : decode cX7_called 11 = .ok (.iconst 4, 1) := by decide +kernel
theorem dX7_called_12 : decode cX7_called 12 = .ok (.iaload, 1) := by decide +kernel
theorem dX7_called_13 : decode cX7_called 13 = .ok (.aload_n 1, 1) := by decide +kernel
theorem dX7_called_14 : decode cX7_called 14 = .ok (.iload_n 2, 1) := by decide +kernel
theorem dX7_called_15 : decode cX7_called 15 = .ok (.bipush 6, 2) := by decide +kernel
theorem dX7_called_17 : decode cX7_called 17 = .ok (.invokestatic 44, 3) := by decide +kernel
theorem dX7_called_20 : decode cX7_called 20 = .ok (.if_icmp .le 58, 3) := by decide +kernel
theorem dX7_called_23 : decode cX7_called 23 = .ok (.aload_n 1, 1) := by decide +kernel
theorem dX7_called_24 : decode cX7_called 24 = .ok (.iload_n 2, 1) := by decide +kernel
theorem dX7_called_25 : decode cX7_called 25 = .ok (.bipush 6, 2) := by decide +kernel
theorem dX7_called_27 : decode cX7_called 27 = .ok (.aload_n 0, 1) := by decide +kernel
theorem dX7_called_28 : decode cX7_called 28 = .ok (.getfield 29, 3) := by decide +kernel
theorem dX7_called_31 : decode cX7_called 31 = .ok (.iconst 4, 1) := by decide +kernel
theorem dX7_called_32 : decode cX7_called 32 = .ok (.iaload, 1) := by decide +kernel
theorem dX7_called_33 : decode cX7_called 33 = .ok (.invokestatic 58, 3) := by decide +kernel
theorem dX7_called_36 : decode cX7_called 36 = .ok (.aload_n 1, 1) := by decide +kernel
theorem dX7_called_37 : decode cX7_called 37 = .ok (.iload_n 2, 1) := by decide +kernel
theorem dX7_called_38 : decode cX7_called 38 = .ok (.iconst 1, 1) := by decide +kernel
theorem dX7_called_39 : decode cX7_called 39 = .ok (.iconst 1, 1) := by decide +kernel
theorem dX7_called_40 : decode cX7_called 40 = .ok (.invokestatic 58, 3) := by decide +kernel
theorem dX7_called_43 : decode cX7_called 43 = .ok (.aload_n 1, 1) := by decide +kernel
theorem dX7_called_44 : decode cX7_called 44 = .ok (.iload_n 2, 1) := by decide +kernel
theorem dX7_called_45 : decode cX7_called 45 = .ok (.invokestatic 85, 3) := by decide +kernel
theorem dX7_called_48 : decode cX7_called 48 = .ok (.aload_n 1, 1) := by decide +kernel
theorem dX7_called_49 : decode cX7_called 49 = .ok (.iconst 2, 1) := by decide +kernel
theorem dX7_called_50 : decode cX7_called 50 = .ok (.iload_n 2, 1) := by decide +kernel
theorem dX7_called_51 : decode cX7_called 51 = .ok (.aload_n 0, 1) := by decide +kernel
theorem dX7_called_52 : decode cX7_called 52 = .ok (.getfield 29, 3) := by decide +kernel
theorem dX7_called_55 : decode cX7_called 55 = .ok (.iconst 1, 1) := by decide +kernel
theorem dX7_called_56 : decode cX7_called 56 = .ok (.iaload, 1) := by decide +kernel
theorem dX7_called_57 : decode cX7_called 57 = .ok (.aload_n 0, 1) := by decide +kernel
theorem dX7_called_58 : decode cX7_called 58 = .ok (.getfield 29, 3) := by decide +kernel
theorem dX7_called_61 : decode cX7_called 61 = .ok (.iconst 4, 1) := by decide +kernel
theorem dX7_called_62 : decode cX7_called 62 = .ok (.iaload, 1) := by decide +kernel
theorem dX7_called_63 : decode cX7_called 63 = .ok (.aload_n 0, 1) := by decide +kernel
theorem dX7_called_64 : decode cX7_called 64 = .ok (.getfield 29, 3) := by decide +kernel
theorem dX7_called_67 : decode cX7_called 67 = .ok (.iconst 1, 1) := by decide +kernel
theorem dX7_called_68 : decode cX7_called 68 = .ok (.iaload, 1) := by decide +kernel
theorem dX7_called_69 : decode cX7_called 69 = .ok (.aload_n 1, 1) := by decide +kernel
theorem dX7_called_70 : decode cX7_called 70 = .ok (.iload_n 2, 1) := by decide +kernel
theorem dX7_called_71 : decode cX7_called 71 = .ok (.iconst 5, 1) := by decide +kernel
theorem dX7_called_72 : decode cX7_called 72 = .ok (.invokestatic 44, 3) := by decide +kernel
theorem dX7_called_75 : decode cX7_called 75 = .ok (.invokestatic 81, 3) := by decide +kernel
theorem dX7_called_78 : decode cX7_called 78 = .ok (.return_, 1) := by decide +kernel
theorem dX7_replied_0 : decode cX7_replied 0 = .ok (.aload_n 0, 1) := by decide +kernel
theorem dX7_replied_1 : decode cX7_replied 1 = .ok (.getfield 29, 3) := by decide +kernel
theorem dX7_replied_4 : decode cX7_replied 4 = .ok (.iconst 2, 1) := by decide +kernel
theorem dX7_replied_5 : decode cX7_replied 5 = .ok (.iaload, 1) := by decide +kernel
theorem dX7_replied_6 : decode cX7_replied 6 = .ok (.istore_n 2, 1) := by decide +kernel
theorem dX7_replied_7 : decode cX7_replied 7 = .ok (.aload_n 1, 1) := by decide +kernel
theorem dX7_replied_8 : decode cX7_replied 8 = .ok (.iload_n 2, 1) := by decide +kernel
theorem dX7_replied_9 : decode cX7_replied 9 = .ok (.bipush 8, 2) := by decide +kernel
theorem dX7_replied_11 : decode cX7_replied 11 = .ok (.invokestatic 44, 3) := by decide +kernel
theorem dX7_replied_14 : decode cX7_replied 14 = .ok (.aload_n 0, 1) := by decide +kernel
theorem dX7_replied_15 : decode cX7_replied 15 = .ok (.getfield 29, 3) := by decide +kernel
theorem dX7_replied_18 : decode cX7_replied 18 = .ok (.iconst 4, 1) := by decide +kernel
theorem dX7_replied_19 : decode cX7_replied 19 = .ok (.iaload, 1) := by decide +kernel
theorem dX7_replied_20 : decode cX7_replied 20 = .ok (.if_icmp .ne 35, 3) := by decide +kernel
theorem dX7_replied_23 : decode cX7_replied 23 = .ok (.aload_n 1, 1) := by decide +kernel
theorem dX7_replied_24 : decode cX7_replied 24 = .ok (.iload_n 2, 1) := by decide +kernel
theorem dX7_replied_25 : decode cX7_replied 25 = .ok (.aload_n 0, 1) := by decide +kernel
theorem dX7_replied_26 : decode cX7_replied 26 = .ok (.getfield 29, 3) := by decide +kernel
theorem dX7_replied_29 : decode cX7_replied 29 = .ok (.iconst 1, 1) := by decide +kernel
theorem dX7_replied_30 : decode cX7_replied 30 = .ok (.iaload, 1) := by decide +kernel
theorem dX7_replied_31 : decode cX7_replied 31 = .ok (.aload_n 0, 1) := by decide +kernel
theorem dX7_replied_32 : decode cX7_replied 32 = .ok (.getfield 29, 3) := by decide +kernel
theorem dX7_replied_35 : decode cX7_replied 35 = .ok (.bipush 7, 2) := by decide +kernel
theorem dX7_replied_37 : decode cX7_replied 37 = .ok (.iaload, 1) := by decide +kernel
theorem dX7_replied_38 : decode cX7_replied 38 = .ok (.aload_n 0, 1) := by decide +kernel
theorem dX7_replied_39 : decode cX7_replied 39 = .ok (.getfield 29, 3) := by decide +kernel
theorem dX7_replied_42 : decode cX7_replied 42 = .ok (.bipush 8, 2) := by decide +kernel
theorem dX7_replied_44 : decode cX7_replied 44 = .ok (.iaload, 1) := by decide +kernel
theorem dX7_replied_45 : decode cX7_replied 45 = .ok (.aload_n 0, 1) := by decide +kernel
theorem dX7_replied_46 : decode cX7_replied 46 = .ok (.getfield 29, 3) := by decide +kernel
theorem dX7_replied_49 : decode cX7_replied 49 = .ok (.bipush 6, 2) := by decide +kernel
theorem dX7_replied_51 : decode cX7_replied 51 = .ok (.iaload, 1) := by decide +kernel
theorem dX7_replied_52 : decode cX7_replied 52 = .ok (.invokestatic 88, 3) := by decide +kernel
theorem dX7_replied_55 : decode cX7_replied 55 = .ok (.return_, 1) := by decide +kernel
theorem dX7_comes_0 : decode cX7_comes 0 = .ok (.aload_n 0, 1) := by decide +kernel
theorem dX7_comes_1 : decode cX7_comes 1 = .ok (.aload_n 1, 1) := by decide +kernel
theorem dX7_comes_2 : decode cX7_comes 2 = .ok (.invokevirtual 91, 3) := by decide +kernel
theorem dX7_comes_5 : decode cX7_comes 5 = .ok (.aload_n 1, 1) := by decide +kernel
theorem dX7_comes_6 : decode cX7_comes 6 = .ok (.aload_n 0, 1) := by decide +kernel
theorem dX7_comes_7 : decode cX7_comes 7 = .ok (.getfield 29, 3) := by decide +kernel
theorem dX7_comes_10 : decode cX7_comes 10 = .ok (.iconst 2, 1) := by decide +kernel
theorem dX7_comes_11 : decode cX7_comes 11 = .ok (.iaload, 1) := by decide +kernel
theorem dX7_comes_12 : decode cX7_comes 12 = .ok (.iconst 1, 1) := by decide +kernel
theorem dX7_comes_13 : decode cX7_comes 13 = .ok (.invokestatic 44, 3) := by decide +kernel
theorem dX7_comes_16 : decode cX7_comes 16 = .ok (.iconst 2, 1) := by decide +kernel
theorem dX7_comes_17 : decode cX7_comes 17 = .ok (.if_icmp .ne 11, 3) := by decide +kernel
theorem dX7_comes_20 : decode cX7_comes 20 = .ok (.aload_n 1, 1) := by decide +kernel
theorem dX7_comes_21 : decode cX7_comes 21 = .ok (.iconst 3, 1) := by decide +kernel
theorem dX7_comes_22 : decode cX7_comes 22 = .ok (.dup2, 1) := by decide +kernel
theorem dX7_comes_23 : decode cX7_comes 23 = .ok (.iaload, 1) := by decide +kernel
theorem dX7_comes_24 : decode cX7_comes 24 = .ok (.iconst 1, 1) := by decide +kernel
theorem dX7_comes_25 : decode cX7_comes 25 = .ok (.iadd, 1) := by decide +kernel
theorem dX7_comes_26 : decode cX7_comes 26 = .ok (.iastore, 1) := by decide +kernel
theorem dX7_comes_27 : decode cX7_comes 27 = .ok (.return_, 1) := by decide +kernel
theorem dX7_comes_28 : decode cX7_comes 28 = .ok (.aload_n 0, 1) := by decide +kernel
theorem dX7_comes_29 : decode cX7_comes 29 = .ok (.getfield 29, 3) := by decide +kernel
theorem dX7_comes_32 : decode cX7_comes 32 = .ok (.iconst 0, 1) := by decide +kernel
theorem dX7_comes_33 : decode cX7_comes 33 = .ok (.iaload, 1) := by decide +kernel
theorem dX7_comes_34 : decode cX7_comes 34 = .ok (.tableswitch 50 0 2 #[26, 34, 42], 26) := by decide +kernel
theorem dX7_comes_60 : decode cX7_comes 60 = .ok (.aload_n 0, 1) := by decide +kernel
theorem dX7_comes_61 : decode cX7_comes 61 = .ok (.aload_n 1, 1) := by decide +kernel
theorem dX7_comes_62 : decode cX7_comes 62 = .ok (.invokevirtual 94, 3) := by decide +kernel
theorem dX7_comes_65 : decode cX7_comes 65 = .ok (.goto 55, 3) := by decide +kernel
theorem dX7_comes_68 : decode cX7_comes 68 = .ok (.aload_n 0, 1) := by decide +kernel
theorem dX7_comes_69 : decode cX7_comes 69 = .ok (.aload_n 1, 1) := by decide +kernel
theorem dX7_comes_70 : decode cX7_comes 70 = .ok (.invokevirtual 97, 3) := by decide +kernel
theorem dX7_comes_73 : decode cX7_comes 73 = .ok (.goto 47, 3) := by decide +kernel
theorem dX7_comes_76 : decode cX7_comes 76 = .ok (.aload_n 0, 1) := by decide +kernel
theorem dX7_comes_77 : decode cX7_comes 77 = .ok (.aload_n 1, 1) := by decide +kernel
theorem dX7_comes_78 : decode cX7_comes 78 = .ok (.invokevirtual 100, 3) := by decide +kernel
theorem dX7_comes_81 : decode cX7_comes 81 = .ok (.goto 39, 3) := by decide +kernel
theorem dX7_comes_84 : decode cX7_comes 84 = .ok (.aload_n 1, 1) := by decide +kernel
theorem dX7_comes_85 : decode cX7_comes 85 = .ok (.aload_n 0, 1) := by decide +kernel
theorem dX7_comes_86 : decode cX7_comes 86 = .ok (.getfield 29, 3) := by decide +kernel
theorem dX7_comes_89 : decode cX7_comes 89 = .ok (.iconst 2, 1) := by decide +kernel
theorem dX7_comes_90 : decode cX7_comes 90 = .ok (.iaload, 1) := by decide +kernel
theorem dX7_comes_91 : decode cX7_comes 91 = .ok (.aload_n 0, 1) := by decide +kernel
theorem dX7_comes_92 : decode cX7_comes 92 = .ok (.getfield 29, 3) := by decide +kernel
theorem dX7_comes_95 : decode cX7_comes 95 = .ok (.iconst 4, 1) := by decide +kernel
theorem dX7_comes_96 : decode cX7_comes 96 = .ok (.iaload, 1) := by decide +kernel
theorem dX7_comes_97 : decode cX7_comes 97 = .ok (.aload_n 0, 1) := by decide +kernel
theorem dX7_comes_98 : decode cX7_comes 98 = .ok (.getfield 29, 3) := by decide +kernel
theorem dX7_comes_101 : decode cX7_comes 101 = .ok (.iconst 5, 1) := by decide +kernel
theorem dX7_comes_102 : decode cX7_comes 102 = .ok (.iaload, 1) := by decide +kernel
theorem dX7_comes_103 : decode cX7_comes 103 = .ok (.aload_n 0, 1) := by decide +kernel
theorem dX7_comes_104 : decode cX7_comes 104 = .ok (.getfield 29, 3) := by decide +kernel
theorem dX7_comes_107 : decode cX7_comes 107 = .ok (.bipush 9, 2) := by decide +kernel
theorem dX7_comes_109 : decode cX7_comes 109 = .ok (.iaload, 1) := by decide +kernel
theorem dX7_comes_110 : decode cX7_comes 110 = .ok (.aload_n 0, 1) := by decide +kernel
theorem dX7_comes_111 : decode cX7_comes 111 = .ok (.getfield 29, 3) := by decide +kernel
theorem dX7_comes_114 : decode cX7_comes 114 = .ok (.bipush 6, 2) := by decide +kernel
theorem dX7_comes_116 : decode cX7_comes 116 = .ok (.iaload, 1) := by decide +kernel
theorem dX7_comes_117 : decode cX7_comes 117 = .ok (.invokestatic 77, 3) := by decide +kernel
theorem dX7_comes_120 : decode cX7_comes 120 = .ok (.return_, 1) := by decide +kernel
theorem dX7_tick_0 : decode cX7_tick 0 = .ok (.aload_n 1, 1) := by decide +kernel
theorem dX7_tick_1 : decode cX7_tick 1 = .ok (.iconst 1, 1) := by decide +kernel
theorem dX7_tick_2 : decode cX7_tick 2 = .ok (.dup2, 1) := by decide +kernel
theorem dX7_tick_3 : decode cX7_tick 3 = .ok (.iaload, 1) := by decide +kernel
theorem dX7_tick_4 : decode cX7_tick 4 = .ok (.iconst 1, 1) := by decide +kernel
theorem dX7_tick_5 : decode cX7_tick 5 = .ok (.iadd, 1) := by decide +kernel
theorem dX7_tick_6 : decode cX7_tick 6 = .ok (.iastore, 1) := by decide +kernel
theorem dX7_tick_7 : decode cX7_tick 7 = .ok (.aload_n 1, 1) := by decide +kernel
theorem dX7_tick_8 : decode cX7_tick 8 = .ok (.iconst 2, 1) := by decide +kernel
theorem dX7_tick_9 : decode cX7_tick 9 = .ok (.iaload, 1) := by decide +kernel
theorem dX7_tick_10 : decode cX7_tick 10 = .ok (.ifCond .le 23, 3) := by decide +kernel
theorem dX7_tick_13 : decode cX7_tick 13 = .ok (.aload_n 1, 1) := by decide +kernel
theorem dX7_tick_14 : decode cX7_tick 14 = .ok (.iconst 0, 1) := by decide +kernel
theorem dX7_tick_15 : decode cX7_tick 15 = .ok (.iconst 3, 1) := by decide +kernel
theorem dX7_tick_16 : decode cX7_tick 16 = .ok (.invokestatic 55, 3) := by decide +kernel
theorem dX7_tick_19 : decode cX7_tick 19 = .ok (.aload_n 1, 1) := by decide +kernel
theorem dX7_tick_20 : decode cX7_tick 20 = .ok (.iconst 1, 1) := by decide +kernel
theorem dX7_tick_21 : decode cX7_tick 21 = .ok (.iaload, 1) := by decide +kernel
theorem dX7_tick_22 : decode cX7_tick 22 = .ok (.if_icmp .ne 11, 3) := by decide +kernel
theorem dX7_tick_25 : decode cX7_tick 25 = .ok (.aload_n 0, 1) := by decide +kernel
theorem dX7_tick_26 : decode cX7_tick 26 = .ok (.aload_n 1, 1) := by decide +kernel
theorem dX7_tick_27 : decode cX7_tick 27 = .ok (.invokevirtual 103, 3) := by decide +kernel
theorem dX7_tick_30 : decode cX7_tick 30 = .ok (.goto (-23), 3) := by decide +kernel
theorem dX7_tick_33 : decode cX7_tick 33 = .ok (.iconst 0, 1) := by decide +kernel
theorem dX7_tick_34 : decode cX7_tick 34 = .ok (.istore_n 2, 1) := by decide +kernel
theorem dX7_tick_35 : decode cX7_tick 35 = .ok (.iload_n 2, 1) := by decide +kernel
theorem dX7_tick_36 : decode cX7_tick 36 = .ok (.aload_n 1, 1) := by decide +kernel
theorem dX7_tick_37 : decode cX7_tick 37 = .ok (.iconst 0, 1) := by decide +kernel
theorem dX7_tick_38 : decode cX7_tick 38 = .ok (.iaload, 1) := by decide +kernel
theorem dX7_tick_39 : decode cX7_tick 39 = .ok (.if_icmp .ge 57, 3) := by decide +kernel
theorem dX7_tick_42 : decode cX7_tick 42 = .ok (.aload_n 1, 1) := by decide +kernel
theorem dX7_tick_43 : decode cX7_tick 43 = .ok (.bipush 7, 2) := by decide +kernel
theorem dX7_tick_45 : decode cX7_tick 45 = .ok (.iaload, 1) := by decide +kernel
theorem dX7_tick_46 : decode cX7_tick 46 = .ok (.ifCond .le 50, 3) := by decide +kernel
theorem dX7_tick_49 : decode cX7_tick 49 = .ok (.aload_n 1, 1) := by decide +kernel
theorem dX7_tick_50 : decode cX7_tick 50 = .ok (.iload_n 2, 1) := by decide +kernel
theorem dX7_tick_51 : decode cX7_tick 51 = .ok (.bipush 8, 2) := by decide +kernel
theorem dX7_tick_53 : decode cX7_tick 53 = .ok (.invokestatic 44, 3) := by decide +kernel
theorem dX7_tick_56 : decode cX7_tick 56 = .ok (.ifCond .le 34, 3) := by decide +kernel
theorem dX7_tick_59 : decode cX7_tick 59 = .ok (.aload_n 1, 1) := by decide +kernel
theorem dX7_tick_60 : decode cX7_tick 60 = .ok (.iconst 1, 1) := by decide +kernel
theorem dX7_tick_61 : decode cX7_tick 61 = .ok (.iaload, 1) := by decide +kernel
theorem dX7_tick_62 : decode cX7_tick 62 = .ok (.aload_n 1, 1) := by decide +kernel
theorem dX7_tick_63 : decode cX7_tick 63 = .ok (.iload_n 2, 1) := by decide +kernel
theorem dX7_tick_64 : decode cX7_tick 64 = .ok (.bipush 11, 2) := by decide +kernel
theorem dX7_tick_66 : decode cX7_tick 66 = .ok (.invokestatic 44, 3) := by decide +kernel
theorem dX7_tick_69 : decode cX7_tick 69 = .ok (.isub, 1) := by decide +kernel
theorem dX7_tick_70 : decode cX7_tick 70 = .ok (.aload_n 1, 1) := by decide +kernel
theorem dX7_tick_71 : decode cX7_tick 71 = .ok (.bipush 7, 2) := by decide +kernel
theorem dX7_tick_73 : decode cX7_tick 73 = .ok (.iaload, 1) := by decide +kernel
theorem dX7_tick_74 : decode cX7_tick 74 = .ok (.if_icmp .lt 16, 3) := by decide +kernel
theorem dX7_tick_77 : decode cX7_tick 77 = .ok (.aload_n 1, 1) := by decide +kernel
theorem dX7_tick_78 : decode cX7_tick 78 = .ok (.iload_n 2, 1) := by decide +kernel
theorem dX7_tick_79 : decode cX7_tick 79 = .ok (.aload_n 1, 1) := by decide +kernel
theorem dX7_tick_80 : decode cX7_tick 80 = .ok (.iload_n 2, 1) := by decide +kernel
theorem dX7_tick_81 : decode cX7_tick 81 = .ok (.bipush 10, 2) := by decide +kernel
theorem dX7_tick_83 : decode cX7_tick 83 = .ok (.invokestatic 44, 3) := by decide +kernel
theorem dX7_tick_86 : decode cX7_tick 86 = .ok (.invokestatic 106, 3) := by decide +kernel
theorem dX7_tick_89 : decode cX7_tick 89 = .ok (.pop, 1) := by decide +kernel
theorem dX7_tick_90 : decode cX7_tick 90 = .ok (.iinc 2 1, 3) := by decide +kernel
theorem dX7_tick_93 : decode cX7_tick 93 = .ok (.goto (-58), 3) := by decide +kernel
theorem dX7_tick_96 : decode cX7_tick 96 = .ok (.return_, 1) := by decide +kernel
theorem dX7_ticksOn_0 : decode cX7_ticksOn 0 = .ok (.aload_n 1, 1) := by decide +kernel
theorem dX7_ticksOn_1 : decode cX7_ticksOn 1 = .ok (.bipush 6, 2) := by decide +kernel
theorem dX7_ticksOn_3 : decode cX7_ticksOn 3 = .ok (.iaload, 1) := by decide +kernel
theorem dX7_ticksOn_4 : decode cX7_ticksOn 4 = .ok (.istore_n 3, 1) := by decide +kernel
theorem dX7_ticksOn_5 : decode cX7_ticksOn 5 = .ok (.iconst 0, 1) := by decide +kernel
theorem dX7_ticksOn_6 : decode cX7_ticksOn 6 = .ok (.istore 4, 2) := by decide +kernel
theorem dX7_ticksOn_8 : decode cX7_ticksOn 8 = .ok (.iload 4, 2) := by decide +kernel
theorem dX7_ticksOn_10 : decode cX7_ticksOn 10 = .ok (.iload_n 2, 1) := by decide +kernel
theorem dX7_ticksOn_11 : decode cX7_ticksOn 11 = .ok (.if_icmp .ge 14, 3) := by decide +kernel
theorem dX7_ticksOn_14 : decode cX7_ticksOn 14 = .ok (.aload_n 0, 1) := by decide +kernel
theorem dX7_ticksOn_15 : decode cX7_ticksOn 15 = .ok (.aload_n 1, 1) := by decide +kernel
theorem dX7_ticksOn_16 : decode cX7_ticksOn 16 = .ok (.invokevirtual 109, 3) := by decide +kernel
theorem dX7_ticksOn_19 : decode cX7_ticksOn 19 = .ok (.iinc 4 1, 3) := by decide +kernel
theorem dX7_ticksOn_22 : decode cX7_ticksOn 22 = .ok (.goto (-14), 3) := by decide +kernel
theorem dX7_ticksOn_25 : decode cX7_ticksOn 25 = .ok (.aload_n 1, 1) := by decide +kernel
theorem dX7_ticksOn_26 : decode cX7_ticksOn 26 = .ok (.bipush 6, 2) := by decide +kernel
theorem dX7_ticksOn_28 : decode cX7_ticksOn 28 = .ok (.iaload, 1) := by decide +kernel
theorem dX7_ticksOn_29 : decode cX7_ticksOn 29 = .ok (.iload_n 3, 1) := by decide +kernel
theorem dX7_ticksOn_30 : decode cX7_ticksOn 30 = .ok (.isub, 1) := by decide +kernel
theorem dX7_ticksOn_31 : decode cX7_ticksOn 31 = .ok (.ireturn, 1) := by decide +kernel
theorem dX7_memberOn_0 : decode cX7_memberOn 0 = .ok (.aload_n 0, 1) := by decide +kernel
theorem dX7_memberOn_1 : decode cX7_memberOn 1 = .ok (.iconst 0, 1) := by decide +kernel
theorem dX7_memberOn_2 : decode cX7_memberOn 2 = .ok (.iaload, 1) := by decide +kernel
theorem dX7_memberOn_3 : decode cX7_memberOn 3 = .ok (.istore_n 2, 1) := by decide +kernel
theorem dX7_memberOn_4 : decode cX7_memberOn 4 = .ok (.iconst 0, 1) := by decide +kernel
theorem dX7_memberOn_5 : decode cX7_memberOn 5 = .ok (.istore_n 3, 1) := by decide +kernel
theorem dX7_memberOn_6 : decode cX7_memberOn 6 = .ok (.iload_n 3, 1) := by decide +kernel
theorem dX7_memberOn_7 : decode cX7_memberOn 7 = .ok (.bipush 83, 2) := by decide +kernel
theorem dX7_memberOn_9 : decode cX7_memberOn 9 = .ok (.if_icmp .ge 16, 3) := by decide +kernel
theorem dX7_memberOn_12 : decode cX7_memberOn 12 = .ok (.aload_n 0, 1) := by decide +kernel
theorem dX7_memberOn_13 : decode cX7_memberOn 13 = .ok (.iload_n 2, 1) := by decide +kernel
theorem dX7_memberOn_14 : decode cX7_memberOn 14 = .ok (.iload_n 3, 1) := by decide +kernel
theorem dX7_memberOn_15 : decode cX7_memberOn 15 = .ok (.iconst 0, 1) := by decide +kernel
theorem dX7_memberOn_16 : decode cX7_memberOn 16 = .ok (.invokestatic 58, 3) := by decide +kernel
theorem dX7_memberOn_19 : decode cX7_memberOn 19 = .ok (.iinc 3 1, 3) := by decide +kernel
theorem dX7_memberOn_22 : decode cX7_memberOn 22 = .ok (.goto (-16), 3) := by decide +kernel
theorem dX7_memberOn_25 : decode cX7_memberOn 25 = .ok (.aload_n 0, 1) := by decide +kernel
theorem dX7_memberOn_26 : decode cX7_memberOn 26 = .ok (.iload_n 2, 1) := by decide +kernel
theorem dX7_memberOn_27 : decode cX7_memberOn 27 = .ok (.iconst 0, 1) := by decide +kernel
theorem dX7_memberOn_28 : decode cX7_memberOn 28 = .ok (.iload_n 1, 1) := by decide +kernel
theorem dX7_memberOn_29 : decode cX7_memberOn 29 = .ok (.invokestatic 58, 3) := by decide +kernel
theorem dX7_memberOn_32 : decode cX7_memberOn 32 = .ok (.aload_n 0, 1) := by decide +kernel
theorem dX7_memberOn_33 : decode cX7_memberOn 33 = .ok (.iload_n 2, 1) := by decide +kernel
theorem dX7_memberOn_34 : decode cX7_memberOn 34 = .ok (.iconst 3, 1) := by decide +kernel
theorem dX7_memberOn_35 : decode cX7_memberOn 35 = .ok (.iload_n 2, 1) := by decide +kernel
theorem dX7_memberOn_36 : decode cX7_memberOn 36 = .ok (.invokestatic 58, 3) := by decide +kernel
theorem dX7_memberOn_39 : decode cX7_memberOn 39 = .ok (.aload_n 0, 1) := by decide +kernel
theorem dX7_memberOn_40 : decode cX7_memberOn 40 = .ok (.iload_n 2, 1) := by decide +kernel
theorem dX7_memberOn_41 : decode cX7_memberOn 41 = .ok (.iconst 4, 1) := by decide +kernel
theorem dX7_memberOn_42 : decode cX7_memberOn 42 = .ok (.iconst 1, 1) := by decide +kernel
theorem dX7_memberOn_43 : decode cX7_memberOn 43 = .ok (.iload_n 2, 1) := by decide +kernel
theorem dX7_memberOn_44 : decode cX7_memberOn 44 = .ok (.ishl, 1) := by decide +kernel
theorem dX7_memberOn_45 : decode cX7_memberOn 45 = .ok (.invokestatic 58, 3) := by decide +kernel
theorem dX7_memberOn_48 : decode cX7_memberOn 48 = .ok (.aload_n 0, 1) := by decide +kernel
theorem dX7_memberOn_49 : decode cX7_memberOn 49 = .ok (.iconst 0, 1) := by decide +kernel
theorem dX7_memberOn_50 : decode cX7_memberOn 50 = .ok (.dup2, 1) := by decide +kernel
theorem dX7_memberOn_51 : decode cX7_memberOn 51 = .ok (.iaload, 1) := by decide +kernel
theorem dX7_memberOn_52 : decode cX7_memberOn 52 = .ok (.iconst 1, 1) := by decide +kernel
theorem dX7_memberOn_53 : decode cX7_memberOn 53 = .ok (.iadd, 1) := by decide +kernel
theorem dX7_memberOn_54 : decode cX7_memberOn 54 = .ok (.iastore, 1) := by decide +kernel
theorem dX7_memberOn_55 : decode cX7_memberOn 55 = .ok (.iload_n 2, 1) := by decide +kernel
theorem dX7_memberOn_56 : decode cX7_memberOn 56 = .ok (.ireturn, 1) := by decide +kernel
theorem dX7_canSay_0 : decode cX7_canSay 0 = .ok (.aload_n 0, 1) := by decide +kernel
theorem dX7_canSay_1 : decode cX7_canSay 1 = .ok (.iload_n 1, 1) := by decide +kernel
theorem dX7_canSay_2 : decode cX7_canSay 2 = .ok (.invokestatic 112, 3) := by decide +kernel
theorem dX7_canSay_5 : decode cX7_canSay 5 = .ok (.ifCond .eq 27, 3) := by decide +kernel
theorem dX7_canSay_8 : decode cX7_canSay 8 = .ok (.aload_n 0, 1) := by decide +kernel
theorem dX7_canSay_9 : decode cX7_canSay 9 = .ok (.iload_n 1, 1) := by decide +kernel
theorem dX7_canSay_10 : decode cX7_canSay 10 = .ok (.iconst 1, 1) := by decide +kernel
theorem dX7_canSay_11 : decode cX7_canSay 11 = .ok (.invokestatic 44, 3) := by decide +kernel
theorem dX7_canSay_14 : decode cX7_canSay 14 = .ok (.ifCond .ne 18, 3) := by decide +kernel
theorem dX7_canSay_17 : decode cX7_canSay 17 = .ok (.aload_n 0, 1) := by decide +kernel
theorem dX7_canSay_18 : decode cX7_canSay 18 = .ok (.iload_n 1, 1) := by decide +kernel
theorem dX7_canSay_19 : decode cX7_canSay 19 = .ok (.bipush 7, 2) := by decide +kernel
theorem dX7_canSay_21 : decode cX7_canSay 21 = .ok (.invokestatic 44, 3) := by decide +kernel
theorem dX7_canSay_24 : decode cX7_canSay 24 = .ok (.iconst 4, 1) := by decide +kernel
theorem dX7_canSay_25 : decode cX7_canSay 25 = .ok (.if_icmp .ge 7, 3) := by decide +kernel
theorem dX7_canSay_28 : decode cX7_canSay 28 = .ok (.iconst 1, 1) := by decide +kernel
theorem dX7_canSay_29 : decode cX7_canSay 29 = .ok (.goto 4, 3) := by decide +kernel
theorem dX7_canSay_32 : decode cX7_canSay 32 = .ok (.iconst 0, 1) := by decide +kernel
theorem dX7_canSay_33 : decode cX7_canSay 33 = .ok (.ireturn, 1) := by decide +kernel
theorem dX7_sayOn_0 : decode cX7_sayOn 0 = .ok (.iconst 4, 1) := by decide +kernel
theorem dX7_sayOn_1 : decode cX7_sayOn 1 = .ok (.iload_n 1, 1) := by decide +kernel
theorem dX7_sayOn_2 : decode cX7_sayOn 2 = .ok (.imul, 1) := by decide +kernel
theorem dX7_sayOn_3 : decode cX7_sayOn 3 = .ok (.aload_n 0, 1) := by decide +kernel
theorem dX7_sayOn_4 : decode cX7_sayOn 4 = .ok (.iload_n 1, 1) := by decide +kernel
theorem dX7_sayOn_5 : decode cX7_sayOn 5 = .ok (.bipush 7, 2) := by decide +kernel
theorem dX7_sayOn_7 : decode cX7_sayOn 7 = .ok (.invokestatic 44, 3) := by decide +kernel
theorem dX7_sayOn_10 : decode cX7_sayOn 10 = .ok (.iadd, 1) := by decide +kernel
theorem dX7_sayOn_11 : decode cX7_sayOn 11 = .ok (.istore_n 2, 1) := by decide +kernel
theorem dX7_sayOn_12 : decode cX7_sayOn 12 = .ok (.aload_n 0, 1) := by decide +kernel
theorem dX7_sayOn_13 : decode cX7_sayOn 13 = .ok (.iload_n 1, 1) := by decide +kernel
theorem dX7_sayOn_14 : decode cX7_sayOn 14 = .ok (.bipush 7, 2) := by decide +kernel
theorem dX7_sayOn_16 : decode cX7_sayOn 16 = .ok (.aload_n 0, 1) := by decide +kernel
theorem dX7_sayOn_17 : decode cX7_sayOn 17 = .ok (.iload_n 1, 1) := by decide +kernel
theorem dX7_sayOn_18 : decode cX7_sayOn 18 = .ok (.bipush 7, 2) := by decide +kernel
theorem dX7_sayOn_20 : decode cX7_sayOn 20 = .ok (.invokestatic 44, 3) := by decide +kernel
theorem dX7_sayOn_23 : decode cX7_sayOn 23 = .ok (.iconst 1, 1) := by decide +kernel
theorem dX7_sayOn_24 : decode cX7_sayOn 24 = .ok (.iadd, 1) := by decide +kernel
theorem dX7_sayOn_25 : decode cX7_sayOn 25 = .ok (.invokestatic 58, 3) := by decide +kernel
theorem dX7_sayOn_28 : decode cX7_sayOn 28 = .ok (.aload_n 0, 1) := by decide +kernel
theorem dX7_sayOn_29 : decode cX7_sayOn 29 = .ok (.iload_n 1, 1) := by decide +kernel
theorem dX7_sayOn_30 : decode cX7_sayOn 30 = .ok (.iconst 5, 1) := by decide +kernel
theorem dX7_sayOn_31 : decode cX7_sayOn 31 = .ok (.aload_n 0, 1) := by decide +kernel
theorem dX7_sayOn_32 : decode cX7_sayOn 32 = .ok (.iload_n 1, 1) := by decide +kernel
theorem dX7_sayOn_33 : decode cX7_sayOn 33 = .ok (.iconst 5, 1) := by decide +kernel
theorem dX7_sayOn_34 : decode cX7_sayOn 34 = .ok (.invokestatic 44, 3) := by decide +kernel
theorem dX7_sayOn_37 : decode cX7_sayOn 37 = .ok (.iconst 1, 1) := by decide +kernel
theorem dX7_sayOn_38 : decode cX7_sayOn 38 = .ok (.iload_n 2, 1) := by decide +kernel
theorem dX7_sayOn_39 : decode cX7_sayOn 39 = .ok (.ishl, 1) := by decide +kernel
theorem dX7_sayOn_40 : decode cX7_sayOn 40 = .ok (.ior, 1) := by decide +kernel
theorem dX7_sayOn_41 : decode cX7_sayOn 41 = .ok (.invokestatic 58, 3) := by decide +kernel
theorem dX7_sayOn_44 : decode cX7_sayOn 44 = .ok (.aload_n 0, 1) := by decide +kernel
theorem dX7_sayOn_45 : decode cX7_sayOn 45 = .ok (.iconst 4, 1) := by decide +kernel
theorem dX7_sayOn_46 : decode cX7_sayOn 46 = .ok (.dup2, 1) := by decide +kernel
theorem dX7_sayOn_47 : decode cX7_sayOn 47 = .ok (.iaload, 1) := by decide +kernel
theorem dX7_sayOn_48 : decode cX7_sayOn 48 = .ok (.iconst 1, 1) := by decide +kernel
theorem dX7_sayOn_49 : decode cX7_sayOn 49 = .ok (.iadd, 1) := by decide +kernel
theorem dX7_sayOn_50 : decode cX7_sayOn 50 = .ok (.iastore, 1) := by decide +kernel
theorem dX7_sayOn_51 : decode cX7_sayOn 51 = .ok (.iconst 0, 1) := by decide +kernel
theorem dX7_sayOn_52 : decode cX7_sayOn 52 = .ok (.istore_n 3, 1) := by decide +kernel
theorem dX7_sayOn_53 : decode cX7_sayOn 53 = .ok (.iload_n 3, 1) := by decide +kernel
theorem dX7_sayOn_54 : decode cX7_sayOn 54 = .ok (.aload_n 0, 1) := by decide +kernel
theorem dX7_sayOn_55 : decode cX7_sayOn 55 = .ok (.iconst 0, 1) := by decide +kernel
theorem dX7_sayOn_56 : decode cX7_sayOn 56 = .ok (.iaload, 1) := by decide +kernel
theorem dX7_sayOn_57 : decode cX7_sayOn 57 = .ok (.if_icmp .ge 47, 3) := by decide +kernel
theorem dX7_sayOn_60 : decode cX7_sayOn 60 = .ok (.iload_n 3, 1) := by decide +kernel
theorem dX7_sayOn_61 : decode cX7_sayOn 61 = .ok (.iload_n 1, 1) := by decide +kernel
theorem dX7_sayOn_62 : decode cX7_sayOn 62 = .ok (.if_icmp .eq 36, 3) := by decide +kernel
theorem dX7_sayOn_65 : decode cX7_sayOn 65 = .ok (.aload_n 0, 1) := by decide +kernel
theorem dX7_sayOn_66 : decode cX7_sayOn 66 = .ok (.iload_n 1, 1) := by decide +kernel
theorem dX7_sayOn_67 : decode cX7_sayOn 67 = .ok (.iconst 4, 1) := by decide +kernel
theorem dX7_sayOn_68 : decode cX7_sayOn 68 = .ok (.invokestatic 44, 3) := by decide +kernel
theorem dX7_sayOn_71 : decode cX7_sayOn 71 = .ok (.iload_n 3, 1) := by decide +kernel
theorem dX7_sayOn_72 : decode cX7_sayOn 72 = .ok (.invokestatic 48, 3) := by decide +kernel
theorem dX7_sayOn_75 : decode cX7_sayOn 75 = .ok (.ifCond .eq 23, 3) := by decide +kernel
theorem dX7_sayOn_78 : decode cX7_sayOn 78 = .ok (.aload_n 0, 1) := by decide +kernel
theorem dX7_sayOn_79 : decode cX7_sayOn 79 = .ok (.iconst 0, 1) := by decide +kernel
theorem dX7_sayOn_80 : decode cX7_sayOn 80 = .ok (.iload_n 1, 1) := by decide +kernel
theorem dX7_sayOn_81 : decode cX7_sayOn 81 = .ok (.iload_n 3, 1) := by decide +kernel
theorem dX7_sayOn_82 : decode cX7_sayOn 82 = .ok (.aload_n 0, 1) := by decide +kernel
theorem dX7_sayOn_83 : decode cX7_sayOn 83 = .ok (.iload_n 1, 1) := by decide +kernel
theorem dX7_sayOn_84 : decode cX7_sayOn 84 = .ok (.iconst 2, 1) := by decide +kernel
theorem dX7_sayOn_85 : decode cX7_sayOn 85 = .ok (.invokestatic 44, 3) := by decide +kernel
theorem dX7_sayOn_88 : decode cX7_sayOn 88 = .ok (.aload_n 0, 1) := by decide +kernel
theorem dX7_sayOn_89 : decode cX7_sayOn 89 = .ok (.iload_n 1, 1) := by decide +kernel
theorem dX7_sayOn_90 : decode cX7_sayOn 90 = .ok (.iconst 3, 1) := by decide +kernel
theorem dX7_sayOn_91 : decode cX7_sayOn 91 = .ok (.invokestatic 44, 3) := by decide +kernel
theorem dX7_sayOn_94 : decode cX7_sayOn 94 = .ok (.iload_n 2, 1) := by decide +kernel
theorem dX7_sayOn_95 : decode cX7_sayOn 95 = .ok (.invokestatic 81, 3) := by decide +kernel
theorem dX7_sayOn_98 : decode cX7_sayOn 98 = .ok (.iinc 3 1, 3) := by decide +kernel
theorem dX7_sayOn_101 : decode cX7_sayOn 101 = .ok (.goto (-48), 3) := by decide +kernel
theorem dX7_sayOn_104 : decode cX7_sayOn 104 = .ok (.iload_n 2, 1) := by decide +kernel
theorem dX7_sayOn_105 : decode cX7_sayOn 105 = .ok (.ireturn, 1) := by decide +kernel
theorem dX7_canCall_0 : decode cX7_canCall 0 = .ok (.aload_n 0, 1) := by decide +kernel
theorem dX7_canCall_1 : decode cX7_canCall 1 = .ok (.iload_n 1, 1) := by decide +kernel
theorem dX7_canCall_2 : decode cX7_canCall 2 = .ok (.invokestatic 112, 3) := by decide +kernel
theorem dX7_canCall_5 : decode cX7_canCall 5 = .ok (.ifCond .eq 26, 3) := by decide +kernel
theorem dX7_canCall_8 : decode cX7_canCall 8 = .ok (.aload_n 0, 1) := by decide +kernel
theorem dX7_canCall_9 : decode cX7_canCall 9 = .ok (.iload_n 1, 1) := by decide +kernel
theorem dX7_canCall_10 : decode cX7_canCall 10 = .ok (.iload_n 2, 1) := by decide +kernel
theorem dX7_canCall_11 : decode cX7_canCall 11 = .ok (.invokestatic 116, 3) := by decide +kernel
theorem dX7_canCall_14 : decode cX7_canCall 14 = .ok (.ifCond .eq 17, 3) := by decide +kernel
theorem dX7_canCall_17 : decode cX7_canCall 17 = .ok (.aload_n 0, 1) := by decide +kernel
theorem dX7_canCall_18 : decode cX7_canCall 18 = .ok (.iload_n 1, 1) := by decide +kernel
theorem dX7_canCall_19 : decode cX7_canCall 19 = .ok (.iconst 1, 1) := by decide +kernel
theorem dX7_canCall_20 : decode cX7_canCall 20 = .ok (.invokestatic 44, 3) := by decide +kernel
theorem dX7_canCall_23 : decode cX7_canCall 23 = .ok (.iconst 2, 1) := by decide +kernel
theorem dX7_canCall_24 : decode cX7_canCall 24 = .ok (.if_icmp .eq 7, 3) := by decide +kernel
theorem dX7_canCall_27 : decode cX7_canCall 27 = .ok (.iconst 1, 1) := by decide +kernel
theorem dX7_canCall_28 : decode cX7_canCall 28 = .ok (.goto 4, 3) := by decide +kernel
theorem dX7_canCall_31 : decode cX7_canCall 31 = .ok (.iconst 0, 1) := by decide +kernel
theorem dX7_canCall_32 : decode cX7_canCall 32 = .ok (.ireturn, 1) := by decide +kernel
theorem dX7_cutOn_0 : decode cX7_cutOn 0 = .ok (.aload_n 0, 1) := by decide +kernel
theorem dX7_cutOn_1 : decode cX7_cutOn 1 = .ok (.bipush 8, 2) := by decide +kernel
theorem dX7_cutOn_3 : decode cX7_cutOn 3 = .ok (.iload_n 1, 1) := by decide +kernel
theorem dX7_cutOn_4 : decode cX7_cutOn 4 = .ok (.iadd, 1) := by decide +kernel
theorem dX7_cutOn_5 : decode cX7_cutOn 5 = .ok (.iload_n 3, 1) := by decide +kernel
theorem dX7_cutOn_6 : decode cX7_cutOn 6 = .ok (.ifCond .eq 16, 3) := by decide +kernel
theorem dX7_cutOn_9 : decode cX7_cutOn 9 = .ok (.aload_n 0, 1) := by decide +kernel
theorem dX7_cutOn_10 : decode cX7_cutOn 10 = .ok (.bipush 8, 2) := by decide +kernel
theorem dX7_cutOn_12 : decode cX7_cutOn 12 = .ok (.iload_n 1, 1) := by decide +kernel
theorem dX7_cutOn_13 : decode cX7_cutOn 13 = .ok (.iadd, 1) := by decide +kernel
theorem dX7_cutOn_14 : decode cX7_cutOn 14 = .ok (.iaload, 1) := by decide +kernel
theorem dX7_cutOn_15 : decode cX7_cutOn 15 = .ok (.iconst 1, 1) := by decide +kernel
theorem dX7_cutOn_16 : decode cX7_cutOn 16 = .ok (.iload_n 2, 1) := by decide +kernel
theorem dX7_cutOn_17 : decode cX7_cutOn 17 = .ok (.ishl, 1) := by decide +kernel
theorem dX7_cutOn_18 : decode cX7_cutOn 18 = .ok (.ior, 1) := by decide +kernel
theorem dX7_cutOn_19 : decode cX7_cutOn 19 = .ok (.goto 15, 3) := by decide +kernel
theorem dX7_cutOn_22 : decode cX7_cutOn 22 = .ok (.aload_n 0, 1) := by decide +kernel
theorem dX7_cutOn_23 : decode cX7_cutOn 23 = .ok (.bipush 8, 2) := by decide +kernel
theorem dX7_cutOn_25 : decode cX7_cutOn 25 = .ok (.iload_n 1, 1) := by decide +kernel
theorem dX7_cutOn_26 : decode cX7_cutOn 26 = .ok (.iadd, 1) := by decide +kernel
theorem dX7_cutOn_27 : decode cX7_cutOn 27 = .ok (.iaload, 1) := by decide +kernel
theorem dX7_cutOn_28 : decode cX7_cutOn 28 = .ok (.iconst 1, 1) := by decide +kernel
theorem dX7_cutOn_29 : decode cX7_cutOn 29 = .ok (.iload_n 2, 1) := by decide +kernel
theorem dX7_cutOn_30 : decode cX7_cutOn 30 = .ok (.ishl, 1) := by decide +kernel
theorem dX7_cutOn_31 : decode cX7_cutOn 31 = .ok (.iconst (-1), 1) := by decide +kernel
theorem dX7_cutOn_32 : decode cX7_cutOn 32 = .ok (.ixor, 1) := by decide +kernel
theorem dX7_cutOn_33 : decode cX7_cutOn 33 = .ok (.iand, 1) := by decide +kernel
theorem dX7_cutOn_34 : decode cX7_cutOn 34 = .ok (.iastore, 1) := by decide +kernel
theorem dX7_cutOn_35 : decode cX7_cutOn 35 = .ok (.aload_n 0, 1) := by decide +kernel
theorem dX7_cutOn_36 : decode cX7_cutOn 36 = .ok (.bipush 8, 2) := by decide +kernel
theorem dX7_cutOn_38 : decode cX7_cutOn 38 = .ok (.iload_n 2, 1) := by decide +kernel
theorem dX7_cutOn_39 : decode cX7_cutOn 39 = .ok (.iadd, 1) := by decide +kernel
theorem dX7_cutOn_40 : decode cX7_cutOn 40 = .ok (.iload_n 3, 1) := by decide +kernel
theorem dX7_cutOn_41 : decode cX7_cutOn 41 = .ok (.ifCond .eq 16, 3) := by decide +kernel
theorem dX7_cutOn_44 : decode cX7_cutOn 44 = .ok (.aload_n 0, 1) := by decide +kernel
theorem dX7_cutOn_45 : decode cX7_cutOn 45 = .ok (.bipush 8, 2) := by decide +kernel
theorem dX7_cutOn_47 : decode cX7_cutOn 47 = .ok (.iload_n 2, 1) := by decide +kernel
theorem dX7_cutOn_48 : decode cX7_cutOn 48 = .ok (.iadd, 1) := by decide +kernel
theorem dX7_cutOn_49 : decode cX7_cutOn 49 = .ok (.iaload, 1) := by decide +kernel
theorem dX7_cutOn_50 : decode cX7_cutOn 50 = .ok (.iconst 1, 1) := by decide +kernel
theorem dX7_cutOn_51 : decode cX7_cutOn 51 = .ok (.iload_n 1, 1) := by decide +kernel
theorem dX7_cutOn_52 : decode cX7_cutOn 52 = .ok (.ishl, 1) := by decide +kernel
theorem dX7_cutOn_53 : decode cX7_cutOn 53 = .ok (.ior, 1) := by decide +kernel
theorem dX7_cutOn_54 : decode cX7_cutOn 54 = .ok (.goto 15, 3) := by decide +kernel
theorem dX7_cutOn_57 : decode cX7_cutOn 57 = .ok (.aload_n 0, 1) := by decide +kernel
theorem dX7_cutOn_58 : decode cX7_cutOn 58 = .ok (.bipush 8, 2) := by decide +kernel
theorem dX7_cutOn_60 : decode cX7_cutOn 60 = .ok (.iload_n 2, 1) := by decide +kernel
theorem dX7_cutOn_61 : decode cX7_cutOn 61 = .ok (.iadd, 1) := by decide +kernel
theorem dX7_cutOn_62 : decode cX7_cutOn 62 = .ok (.iaload, 1) := by decide +kernel
theorem dX7_cutOn_63 : decode cX7_cutOn 63 = .ok (.iconst 1, 1) := by decide +kernel
theorem dX7_cutOn_64 : decode cX7_cutOn 64 = .ok (.iload_n 1, 1) := by decide +kernel
theorem dX7_cutOn_65 : decode cX7_cutOn 65 = .ok (.ishl, 1) := by decide +kernel
theorem dX7_cutOn_66 : decode cX7_cutOn 66 = .ok (.iconst (-1), 1) := by decide +kernel
theorem dX7_cutOn_67 : decode cX7_cutOn 67 = .ok (.ixor, 1) := by decide +kernel
theorem dX7_cutOn_68 : decode cX7_cutOn 68 = .ok (.iand, 1) := by decide +kernel
theorem dX7_cutOn_69 : decode cX7_cutOn 69 = .ok (.iastore, 1) := by decide +kernel
theorem dX7_cutOn_70 : decode cX7_cutOn 70 = .ok (.iconst 0, 1) := by decide +kernel
theorem dX7_cutOn_71 : decode cX7_cutOn 71 = .ok (.istore 4, 2) := by decide +kernel
theorem dX7_cutOn_73 : decode cX7_cutOn 73 = .ok (.iconst 0, 1) := by decide +kernel
theorem dX7_cutOn_74 : decode cX7_cutOn 74 = .ok (.istore 5, 2) := by decide +kernel
theorem dX7_cutOn_76 : decode cX7_cutOn 76 = .ok (.iload 5, 2) := by decide +kernel
theorem dX7_cutOn_78 : decode cX7_cutOn 78 = .ok (.bipush 6, 2) := by decide +kernel
theorem dX7_cutOn_80 : decode cX7_cutOn 80 = .ok (.if_icmp .ge 24, 3) := by decide +kernel
theorem dX7_cutOn_83 : decode cX7_cutOn 83 = .ok (.iload 4, 2) := by decide +kernel
theorem dX7_cutOn_85 : decode cX7_cutOn 85 = .ok (.aload_n 0, 1) := by decide +kernel
theorem dX7_cutOn_86 : decode cX7_cutOn 86 = .ok (.bipush 8, 2) := by decide +kernel
theorem dX7_cutOn_88 : decode cX7_cutOn 88 = .ok (.iload 5, 2) := by decide +kernel
theorem dX7_cutOn_90 : decode cX7_cutOn 90 = .ok (.iadd, 1) := by decide +kernel
theorem dX7_cutOn_91 : decode cX7_cutOn 91 = .ok (.iaload, 1) := by decide +kernel
theorem dX7_cutOn_92 : decode cX7_cutOn 92 = .ok (.invokestatic 120, 3) := by decide +kernel
theorem dX7_cutOn_95 : decode cX7_cutOn 95 = .ok (.iadd, 1) := by decide +kernel
theorem dX7_cutOn_96 : decode cX7_cutOn 96 = .ok (.istore 4, 2) := by decide +kernel
theorem dX7_cutOn_98 : decode cX7_cutOn 98 = .ok (.iinc 5 1, 3) := by decide +kernel
theorem dX7_cutOn_101 : decode cX7_cutOn 101 = .ok (.goto (-25), 3) := by decide +kernel
theorem dX7_cutOn_104 : decode cX7_cutOn 104 = .ok (.iload 4, 2) := by decide +kernel
theorem dX7_cutOn_106 : decode cX7_cutOn 106 = .ok (.iconst 2, 1) := by decide +kernel
theorem dX7_cutOn_107 : decode cX7_cutOn 107 = .ok (.idiv, 1) := by decide +kernel
theorem dX7_cutOn_108 : decode cX7_cutOn 108 = .ok (.ireturn, 1) := by decide +kernel
theorem dX7_isGone_0 : decode cX7_isGone 0 = .ok (.aload_n 0, 1) := by decide +kernel
theorem dX7_isGone_1 : decode cX7_isGone 1 = .ok (.iload_n 1, 1) := by decide +kernel
theorem dX7_isGone_2 : decode cX7_isGone 2 = .ok (.invokestatic 112, 3) := by decide +kernel
theorem dX7_isGone_5 : decode cX7_isGone 5 = .ok (.ifCond .eq 17, 3) := by decide +kernel
theorem dX7_isGone_8 : decode cX7_isGone 8 = .ok (.aload_n 0, 1) := by decide +kernel
theorem dX7_isGone_9 : decode cX7_isGone 9 = .ok (.iload_n 1, 1) := by decide +kernel
theorem dX7_isGone_10 : decode cX7_isGone 10 = .ok (.iconst 1, 1) := by decide +kernel
theorem dX7_isGone_11 : decode cX7_isGone 11 = .ok (.invokestatic 44, 3) := by decide +kernel
theorem dX7_isGone_14 : decode cX7_isGone 14 = .ok (.iconst 2, 1) := by decide +kernel
theorem dX7_isGone_15 : decode cX7_isGone 15 = .ok (.if_icmp .ne 7, 3) := by decide +kernel
theorem dX7_isGone_18 : decode cX7_isGone 18 = .ok (.iconst 1, 1) := by decide +kernel
theorem dX7_isGone_19 : decode cX7_isGone 19 = .ok (.goto 4, 3) := by decide +kernel
theorem dX7_isGone_22 : decode cX7_isGone 22 = .ok (.iconst 0, 1) := by decide +kernel
theorem dX7_isGone_23 : decode cX7_isGone 23 = .ok (.ireturn, 1) := by decide +kernel
theorem dX7_leaveOn_0 : decode cX7_leaveOn 0 = .ok (.aload_n 0, 1) := by decide +kernel
theorem dX7_leaveOn_1 : decode cX7_leaveOn 1 = .ok (.iload_n 1, 1) := by decide +kernel
theorem dX7_leaveOn_2 : decode cX7_leaveOn 2 = .ok (.iconst 1, 1) := by decide +kernel
theorem dX7_leaveOn_3 : decode cX7_leaveOn 3 = .ok (.iconst 2, 1) := by decide +kernel
theorem dX7_leaveOn_4 : decode cX7_leaveOn 4 = .ok (.invokestatic 58, 3) := by decide +kernel
theorem dX7_leaveOn_7 : decode cX7_leaveOn 7 = .ok (.aload_n 0, 1) := by decide +kernel
theorem dX7_leaveOn_8 : decode cX7_leaveOn 8 = .ok (.iload_n 1, 1) := by decide +kernel
theorem dX7_leaveOn_9 : decode cX7_leaveOn 9 = .ok (.invokestatic 85, 3) := by decide +kernel
theorem dX7_leaveOn_12 : decode cX7_leaveOn 12 = .ok (.aload_n 0, 1) := by decide +kernel
theorem dX7_leaveOn_13 : decode cX7_leaveOn 13 = .ok (.iload_n 1, 1) := by decide +kernel
theorem dX7_leaveOn_14 : decode cX7_leaveOn 14 = .ok (.bipush 30, 2) := by decide +kernel
theorem dX7_leaveOn_16 : decode cX7_leaveOn 16 = .ok (.iconst 0, 1) := by decide +kernel
theorem dX7_leaveOn_17 : decode cX7_leaveOn 17 = .ok (.invokestatic 58, 3) := by decide +kernel
theorem dX7_leaveOn_20 : decode cX7_leaveOn 20 = .ok (.aload_n 0, 1) := by decide +kernel
theorem dX7_leaveOn_21 : decode cX7_leaveOn 21 = .ok (.iload_n 1, 1) := by decide +kernel
theorem dX7_leaveOn_22 : decode cX7_leaveOn 22 = .ok (.iconst 2, 1) := by decide +kernel
theorem dX7_leaveOn_23 : decode cX7_leaveOn 23 = .ok (.invokestatic 44, 3) := by decide +kernel
theorem dX7_leaveOn_26 : decode cX7_leaveOn 26 = .ok (.ireturn, 1) := by decide +kernel
theorem dX7_backOn_0 : decode cX7_backOn 0 = .ok (.aload_n 0, 1) := by decide +kernel
theorem dX7_backOn_1 : decode cX7_backOn 1 = .ok (.iload_n 1, 1) := by decide +kernel
theorem dX7_backOn_2 : decode cX7_backOn 2 = .ok (.bipush 6, 2) := by decide +kernel
theorem dX7_backOn_4 : decode cX7_backOn 4 = .ok (.invokestatic 44, 3) := by decide +kernel
theorem dX7_backOn_7 : decode cX7_backOn 7 = .ok (.iconst 1, 1) := by decide +kernel
theorem dX7_backOn_8 : decode cX7_backOn 8 = .ok (.iadd, 1) := by decide +kernel
theorem dX7_backOn_9 : decode cX7_backOn 9 = .ok (.istore_n 2, 1) := by decide +kernel
theorem dX7_backOn_10 : decode cX7_backOn 10 = .ok (.aload_n 0, 1) := by decide +kernel
theorem dX7_backOn_11 : decode cX7_backOn 11 = .ok (.iload_n 1, 1) := by decide +kernel
theorem dX7_backOn_12 : decode cX7_backOn 12 = .ok (.aload_n 0, 1) := by decide +kernel
theorem dX7_backOn_13 : decode cX7_backOn 13 = .ok (.iload_n 1, 1) := by decide +kernel
theorem dX7_backOn_14 : decode cX7_backOn 14 = .ok (.iconst 5, 1) := by decide +kernel
theorem dX7_backOn_15 : decode cX7_backOn 15 = .ok (.invokestatic 44, 3) := by decide +kernel
theorem dX7_backOn_18 : decode cX7_backOn 18 = .ok (.invokestatic 62, 3) := by decide +kernel
theorem dX7_backOn_21 : decode cX7_backOn 21 = .ok (.aload_n 0, 1) := by decide +kernel
theorem dX7_backOn_22 : decode cX7_backOn 22 = .ok (.iload_n 1, 1) := by decide +kernel
theorem dX7_backOn_23 : decode cX7_backOn 23 = .ok (.bipush 6, 2) := by decide +kernel
theorem dX7_backOn_25 : decode cX7_backOn 25 = .ok (.iload_n 2, 1) := by decide +kernel
theorem dX7_backOn_26 : decode cX7_backOn 26 = .ok (.invokestatic 58, 3) := by decide +kernel
theorem dX7_backOn_29 : decode cX7_backOn 29 = .ok (.aload_n 0, 1) := by decide +kernel
theorem dX7_backOn_30 : decode cX7_backOn 30 = .ok (.iload_n 1, 1) := by decide +kernel
theorem dX7_backOn_31 : decode cX7_backOn 31 = .ok (.iload_n 2, 1) := by decide +kernel
theorem dX7_backOn_32 : decode cX7_backOn 32 = .ok (.iload_n 1, 1) := by decide +kernel
theorem dX7_backOn_33 : decode cX7_backOn 33 = .ok (.iconst 1, 1) := by decide +kernel
theorem dX7_backOn_34 : decode cX7_backOn 34 = .ok (.iload_n 1, 1) := by decide +kernel
theorem dX7_backOn_35 : decode cX7_backOn 35 = .ok (.ishl, 1) := by decide +kernel
theorem dX7_backOn_36 : decode cX7_backOn 36 = .ok (.invokestatic 66, 3) := by decide +kernel
theorem dX7_backOn_39 : decode cX7_backOn 39 = .ok (.iload_n 2, 1) := by decide +kernel
theorem dX7_backOn_40 : decode cX7_backOn 40 = .ok (.ireturn, 1) := by decide +kernel
theorem dX7_append_0 : decode cX7_append 0 = .ok (.aload_n 0, 1) := by decide +kernel
theorem dX7_append_1 : decode cX7_append 1 = .ok (.iload_n 1, 1) := by decide +kernel
theorem dX7_append_2 : decode cX7_append 2 = .ok (.i2l, 1) := by decide +kernel
theorem dX7_append_3 : decode cX7_append 3 = .ok (.lconst 0, 1) := by decide +kernel
theorem dX7_append_4 : decode cX7_append 4 = .ok (.ldc2_w 124, 3) := by decide +kernel
theorem dX7_append_7 : decode cX7_append 7 = .ok (.invokestatic 40, 3) := by decide +kernel
theorem dX7_append_10 : decode cX7_append 10 = .ok (.ifCond .ne 7, 3) := by decide +kernel
theorem dX7_append_13 : decode cX7_append 13 = .ok (.iconst 1, 1) := by decide +kernel
theorem dX7_append_14 : decode cX7_append 14 = .ok (.goto 17, 3) := by decide +kernel
theorem dX7_append_17 : decode cX7_append 17 = .ok (.aload_n 0, 1) := by decide +kernel
theorem dX7_append_18 : decode cX7_append 18 = .ok (.getfield 126, 3) := by decide +kernel
theorem dX7_append_21 : decode cX7_append 21 = .ok (.bipush 120, 2) := by decide +kernel
theorem dX7_append_23 : decode cX7_append 23 = .ok (.if_icmp .ne 7, 3) := by decide +kernel
theorem dX7_append_26 : decode cX7_append 26 = .ok (.iconst 2, 1) := by decide +kernel
theorem dX7_append_27 : decode cX7_append 27 = .ok (.goto 4, 3) := by decide +kernel
theorem dX7_append_30 : decode cX7_append 30 = .ok (.iconst 0, 1) := by decide +kernel
theorem dX7_append_31 : decode cX7_append 31 = .ok (.invokevirtual 129, 3) := by decide +kernel
theorem dX7_append_34 : decode cX7_append 34 = .ok (.ifCond .eq 5, 3) := by decide +kernel
theorem dX7_append_37 : decode cX7_append 37 = .ok (.iconst 0, 1) := by decide +kernel
theorem dX7_append_38 : decode cX7_append 38 = .ok (.ireturn, 1) := by decide +kernel
theorem dX7_append_39 : decode cX7_append 39 = .ok (.aload_n 0, 1) := by decide +kernel
theorem dX7_append_40 : decode cX7_append 40 = .ok (.getfield 7, 3) := by decide +kernel
theorem dX7_append_43 : decode cX7_append 43 = .ok (.aload_n 0, 1) := by decide +kernel
theorem dX7_append_44 : decode cX7_append 44 = .ok (.getfield 126, 3) := by decide +kernel
theorem dX7_append_47 : decode cX7_append 47 = .ok (.iload_n 1, 1) := by decide +kernel
theorem dX7_append_48 : decode cX7_append 48 = .ok (.iastore, 1) := by decide +kernel
theorem dX7_append_49 : decode cX7_append 49 = .ok (.aload_n 0, 1) := by decide +kernel
theorem dX7_append_50 : decode cX7_append 50 = .ok (.dup, 1) := by decide +kernel
theorem dX7_append_51 : decode cX7_append 51 = .ok (.getfield 126, 3) := by decide +kernel
theorem dX7_append_54 : decode cX7_append 54 = .ok (.iconst 1, 1) := by decide +kernel
theorem dX7_append_55 : decode cX7_append 55 = .ok (.iadd, 1) := by decide +kernel
theorem dX7_append_56 : decode cX7_append 56 = .ok (.putfield 126, 3) := by decide +kernel
theorem dX7_append_59 : decode cX7_append 59 = .ok (.aload_n 0, 1) := by decide +kernel
theorem dX7_append_60 : decode cX7_append 60 = .ok (.getfield 126, 3) := by decide +kernel
theorem dX7_append_63 : decode cX7_append 63 = .ok (.ireturn, 1) := by decide +kernel
theorem dX7_clearText_0 : decode cX7_clearText 0 = .ok (.aload_n 0, 1) := by decide +kernel
theorem dX7_clearText_1 : decode cX7_clearText 1 = .ok (.iconst 0, 1) := by decide +kernel
theorem dX7_clearText_2 : decode cX7_clearText 2 = .ok (.putfield 36, 3) := by decide +kernel
theorem dX7_clearText_5 : decode cX7_clearText 5 = .ok (.aload_n 0, 1) := by decide +kernel
theorem dX7_clearText_6 : decode cX7_clearText 6 = .ok (.getfield 126, 3) := by decide +kernel
theorem dX7_clearText_9 : decode cX7_clearText 9 = .ok (.istore_n 1, 1) := by decide +kernel
theorem dX7_clearText_10 : decode cX7_clearText 10 = .ok (.aload_n 0, 1) := by decide +kernel
theorem dX7_clearText_11 : decode cX7_clearText 11 = .ok (.iconst 0, 1) := by decide +kernel
theorem dX7_clearText_12 : decode cX7_clearText 12 = .ok (.putfield 126, 3) := by decide +kernel
theorem dX7_clearText_15 : decode cX7_clearText 15 = .ok (.iload_n 1, 1) := by decide +kernel
theorem dX7_clearText_16 : decode cX7_clearText 16 = .ok (.ireturn, 1) := by decide +kernel
theorem dX7_figures_0 : decode cX7_figures 0 = .ok (.iconst 0, 1) := by decide +kernel
theorem dX7_figures_1 : decode cX7_figures 1 = .ok (.istore 5, 2) := by decide +kernel
theorem dX7_figures_3 : decode cX7_figures 3 = .ok (.iload_n 2, 1) := by decide +kernel
theorem dX7_figures_4 : decode cX7_figures 4 = .ok (.iconst 2, 1) := by decide +kernel
theorem dX7_figures_5 : decode cX7_figures 5 = .ok (.if_icmp .ne 8, 3) := by decide +kernel
theorem dX7_figures_8 : decode cX7_figures 8 = .ok (.bipush 10, 2) := by decide +kernel
theorem dX7_figures_10 : decode cX7_figures 10 = .ok (.goto 4, 3) := by decide +kernel
theorem dX7_figures_13 : decode cX7_figures 13 = .ok (.iconst 1, 1) := by decide +kernel
theorem dX7_figures_14 : decode cX7_figures 14 = .ok (.istore 6, 2) := by decide +kernel
theorem dX7_figures_16 : decode cX7_figures 16 = .ok (.iload 6, 2) := by decide +kernel
theorem dX7_figures_18 : decode cX7_figures 18 = .ok (.ifCond .le 104, 3) := by decide +kernel
theorem dX7_figures_21 : decode cX7_figures 21 = .ok (.iload_n 1, 1) := by decide +kernel
theorem dX7_figures_22 : decode cX7_figures 22 = .ok (.iconst (-1), 1) := by decide +kernel
theorem dX7_figures_23 : decode cX7_figures 23 = .ok (.if_icmp .eq 99, 3) := by decide +kernel
theorem dX7_figures_26 : decode cX7_figures 26 = .ok (.aload_n 0, 1) := by decide +kernel
theorem dX7_figures_27 : decode cX7_figures 27 = .ok (.getfield 133, 3) := by decide +kernel
theorem dX7_figures_30 : decode cX7_figures 30 = .ok (.aload_n 0, 1) := by decide +kernel
theorem dX7_figures_31 : decode cX7_figures 31 = .ok (.getfield 126, 3) := by decide +kernel
theorem dX7_figures_34 : decode cX7_figures 34 = .ok (.if_icmp .ge 18, 3) := by decide +kernel
theorem dX7_figures_37 : decode cX7_figures 37 = .ok (.aload_n 0, 1) := by decide +kernel
theorem dX7_figures_38 : decode cX7_figures 38 = .ok (.getfield 7, 3) := by decide +kernel
theorem dX7_figures_41 : decode cX7_figures 41 = .ok (.aload_n 0, 1) := by decide +kernel
theorem dX7_figures_42 : decode cX7_figures 42 = .ok (.getfield 133, 3) := by decide +kernel
theorem dX7_figures_45 : decode cX7_figures 45 = .ok (.iaload, 1) := by decide +kernel
theorem dX7_figures_46 : decode cX7_figures 46 = .ok (.bipush 48, 2) := by decide +kernel
theorem dX7_figures_48 : decode cX7_figures 48 = .ok (.isub, 1) := by decide +kernel
theorem dX7_figures_49 : decode cX7_figures 49 = .ok (.goto 4, 3) := by decide +kernel
theorem dX7_figures_52 : decode cX7_figures 52 = .ok (.iconst (-1), 1) := by decide +kernel
theorem dX7_figures_53 : decode cX7_figures 53 = .ok (.istore 7, 2) := by decide +kernel
theorem dX7_figures_55 : decode cX7_figures 55 = .ok (.iload 5, 2) := by decide +kernel
theorem dX7_figures_57 : decode cX7_figures 57 = .ok (.iload 7, 2) := by decide +kernel
theorem dX7_figures_59 : decode cX7_figures 59 = .ok (.iload 6, 2) := by decide +kernel
theorem dX7_figures_61 : decode cX7_figures 61 = .ok (.imul, 1) := by decide +kernel
theorem dX7_figures_62 : decode cX7_figures 62 = .ok (.iadd, 1) := by decide +kernel
theorem dX7_figures_63 : decode cX7_figures 63 = .ok (.istore 8, 2) := by decide +kernel
theorem dX7_figures_65 : decode cX7_figures 65 = .ok (.iload 7, 2) := by decide +kernel
theorem dX7_figures_67 : decode cX7_figures 67 = .ok (.i2l, 1) := by decide +kernel
theorem dX7_figures_68 : decode cX7_figures 68 = .ok (.lconst 0, 1) := by decide +kernel
theorem dX7_figures_69 : decode cX7_figures 69 = .ok (.ldc2_w 136, 3) := by decide +kernel
theorem dX7_figures_72 : decode cX7_figures 72 = .ok (.invokestatic 40, 3) := by decide +kernel
theorem dX7_figures_75 : decode cX7_figures 75 = .ok (.ifCond .eq 21, 3) := by decide +kernel
theorem dX7_figures_78 : decode cX7_figures 78 = .ok (.iload 8, 2) := by decide +kernel
theorem dX7_figures_80 : decode cX7_figures 80 = .ok (.iload 4, 2) := by decide +kernel
theorem dX7_figures_82 : decode cX7_figures 82 = .ok (.if_icmp .gt 14, 3) := by decide +kernel
theorem dX7_figures_85 : decode cX7_figures 85 = .ok (.iload 8, 2) := by decide +kernel
theorem dX7_figures_87 : decode cX7_figures 87 = .ok (.iload 6, 2) := by decide +kernel
theorem dX7_figures_89 : decode cX7_figures 89 = .ok (.iadd, 1) := by decide +kernel
theorem dX7_figures_90 : decode cX7_figures 90 = .ok (.iconst 1, 1) := by decide +kernel
theorem dX7_figures_91 : decode cX7_figures 91 = .ok (.isub, 1) := by decide +kernel
theorem dX7_figures_92 : decode cX7_figures 92 = .ok (.iload_n 3, 1) := by decide +kernel
theorem dX7_figures_93 : decode cX7_figures 93 = .ok (.if_icmp .ge 5, 3) := by decide +kernel
theorem dX7_figures_96 : decode cX7_figures 96 = .ok (.iconst (-1), 1) := by decide +kernel
theorem dX7_figures_97 : decode cX7_figures 97 = .ok (.ireturn, 1) := by decide +kernel
theorem dX7_figures_98 : decode cX7_figures 98 = .ok (.iload 8, 2) := by decide +kernel
theorem dX7_figures_100 : decode cX7_figures 100 = .ok (.istore 5, 2) := by decide +kernel
theorem dX7_figures_102 : decode cX7_figures 102 = .ok (.aload_n 0, 1) := by decide +kernel
theorem dX7_figures_103 : decode cX7_figures 103 = .ok (.dup, 1) := by decide +kernel
theorem dX7_figures_104 : decode cX7_figures 104 = .ok (.getfield 133, 3) := by decide +kernel
theorem dX7_figures_107 : decode cX7_figures 107 = .ok (.iconst 1, 1) := by decide +kernel
theorem dX7_figures_108 : decode cX7_figures 108 = .ok (.iadd, 1) := by decide +kernel
theorem dX7_figures_109 : decode cX7_figures 109 = .ok (.putfield 133, 3) := by decide +kernel
theorem dX7_figures_112 : decode cX7_figures 112 = .ok (.iload 6, 2) := by decide +kernel
theorem dX7_figures_114 : decode cX7_figures 114 = .ok (.bipush 10, 2) := by decide +kernel
theorem dX7_figures_116 : decode cX7_figures 116 = .ok (.idiv, 1) := by decide +kernel
theorem dX7_figures_117 : decode cX7_figures 117 = .ok (.istore 6, 2) := by decide +kernel
theorem dX7_figures_119 : decode cX7_figures 119 = .ok (.goto (-103), 3) := by decide +kernel
theorem dX7_figures_122 : decode cX7_figures 122 = .ok (.iload_n 1, 1) := by decide +kernel
theorem dX7_figures_123 : decode cX7_figures 123 = .ok (.iconst (-1), 1) := by decide +kernel
theorem dX7_figures_124 : decode cX7_figures 124 = .ok (.if_icmp .ne 7, 3) := by decide +kernel
theorem dX7_figures_127 : decode cX7_figures 127 = .ok (.iconst (-1), 1) := by decide +kernel
theorem dX7_figures_128 : decode cX7_figures 128 = .ok (.goto 5, 3) := by decide +kernel
theorem dX7_figures_131 : decode cX7_figures 131 = .ok (.iload 5, 2) := by decide +kernel
theorem dX7_figures_133 : decode cX7_figures 133 = .ok (.ireturn, 1) := by decide +kernel
theorem dX7_done_0 : decode cX7_done 0 = .ok (.aload_n 0, 1) := by decide +kernel
theorem dX7_done_1 : decode cX7_done 1 = .ok (.dup, 1) := by decide +kernel
theorem dX7_done_2 : decode cX7_done 2 = .ok (.getfield 138, 3) := by decide +kernel
theorem dX7_done_5 : decode cX7_done 5 = .ok (.iload_n 1, 1) := by decide +kernel
theorem dX7_done_6 : decode cX7_done 6 = .ok (.ifCond .eq 7, 3) := by decide +kernel
theorem dX7_done_9 : decode cX7_done 9 = .ok (.iconst 0, 1) := by decide +kernel
theorem dX7_done_10 : decode cX7_done 10 = .ok (.goto 4, 3) := by decide +kernel
theorem dX7_done_13 : decode cX7_done 13 = .ok (.iconst 1, 1) := by decide +kernel
theorem dX7_done_14 : decode cX7_done 14 = .ok (.iadd, 1) := by decide +kernel
theorem dX7_done_15 : decode cX7_done 15 = .ok (.putfield 138, 3) := by decide +kernel
theorem dX7_done_18 : decode cX7_done 18 = .ok (.iconst 1, 1) := by decide +kernel
theorem dX7_done_19 : decode cX7_done 19 = .ok (.ireturn, 1) := by decide +kernel
theorem dX7_who_0 : decode cX7_who 0 = .ok (.aload_n 0, 1) := by decide +kernel
theorem dX7_who_1 : decode cX7_who 1 = .ok (.iload_n 1, 1) := by decide +kernel
theorem dX7_who_2 : decode cX7_who 2 = .ok (.iconst 1, 1) := by decide +kernel
theorem dX7_who_3 : decode cX7_who 3 = .ok (.iconst 0, 1) := by decide +kernel
theorem dX7_who_4 : decode cX7_who 4 = .ok (.iconst 5, 1) := by decide +kernel
theorem dX7_who_5 : decode cX7_who 5 = .ok (.invokevirtual 141, 3) := by decide +kernel
theorem dX7_who_8 : decode cX7_who 8 = .ok (.ireturn, 1) := by decide +kernel
theorem dX7_readCommand_0 : decode cX7_readCommand 0 = .ok (.aload_n 0, 1) := by decide +kernel
theorem dX7_readCommand_1 : decode cX7_readCommand 1 = .ok (.getfield 7, 3) := by decide +kernel
theorem dX7_readCommand_4 : decode cX7_readCommand 4 = .ok (.aload_n 0, 1) := by decide +kernel
theorem dX7_readCommand_5 : decode cX7_readCommand 5 = .ok (.getfield 133, 3) := by decide +kernel
theorem dX7_readCommand_8 : decode cX7_readCommand 8 = .ok (.iaload, 1) := by decide +kernel
theorem dX7_readCommand_9 : decode cX7_readCommand 9 = .ok (.istore_n 2, 1) := by decide +kernel
theorem dX7_readCommand_10 : decode cX7_readCommand 10 = .ok (.aload_n 0, 1) := by decide +kernel
theorem dX7_readCommand_11 : decode cX7_readCommand 11 = .ok (.dup, 1) := by decide +kernel
theorem dX7_readCommand_12 : decode cX7_readCommand 12 = .ok (.getfield 133, 3) := by decide +kernel
theorem dX7_readCommand_15 : decode cX7_readCommand 15 = .ok (.iconst 1, 1) := by decide +kernel
theorem dX7_readCommand_16 : decode cX7_readCommand 16 = .ok (.iadd, 1) := by decide +kernel
theorem dX7_readCommand_17 : decode cX7_readCommand 17 = .ok (.putfield 133, 3) := by decide +kernel
theorem dX7_readCommand_20 : decode cX7_readCommand 20 = .ok (.iload_n 2, 1) := by decide +kernel
theorem dX7_readCommand_21 : decode cX7_readCommand 21 = .ok (.tableswitch 511 98 120 #[386, 201, 511, 511, 511, 333, 511, 511, 511, 511, 511, 107, 511, 511, 431, 511, 511, 156, 469, 511, 511, 511, 262], 107) := by decide +kernel
theorem dX7_readCommand_128 : decode cX7_readCommand 128 = .ok (.aload_n 0, 1) := by decide +kernel
theorem dX7_readCommand_129 : decode cX7_readCommand 129 = .ok (.iconst 0, 1) := by decide +kernel
theorem dX7_readCommand_130 : decode cX7_readCommand 130 = .ok (.iconst 1, 1) := by decide +kernel
theorem dX7_readCommand_131 : decode cX7_readCommand 131 = .ok (.iconst 0, 1) := by decide +kernel
theorem dX7_readCommand_132 : decode cX7_readCommand 132 = .ok (.bipush 9, 2) := by decide +kernel
theorem dX7_readCommand_134 : decode cX7_readCommand 134 = .ok (.invokevirtual 141, 3) := by decide +kernel
theorem dX7_readCommand_137 : decode cX7_readCommand 137 = .ok (.istore_n 3, 1) := by decide +kernel
theorem dX7_readCommand_138 : decode cX7_readCommand 138 = .ok (.iload_n 3, 1) := by decide +kernel
theorem dX7_readCommand_139 : decode cX7_readCommand 139 = .ok (.iconst (-1), 1) := by decide +kernel
theorem dX7_readCommand_140 : decode cX7_readCommand 140 = .ok (.if_icmp .eq 35, 3) := by decide +kernel
theorem dX7_readCommand_143 : decode cX7_readCommand 143 = .ok (.aload_n 0, 1) := by decide +kernel
theorem dX7_readCommand_144 : decode cX7_readCommand 144 = .ok (.aload_n 1, 1) := by decide +kernel
theorem dX7_readCommand_145 : decode cX7_readCommand 145 = .ok (.iconst 0, 1) := by decide +kernel
theorem dX7_readCommand_146 : decode cX7_readCommand 146 = .ok (.iaload, 1) := by decide +kernel
theorem dX7_readCommand_147 : decode cX7_readCommand 147 = .ok (.bipush 6, 2) := by decide +kernel
theorem dX7_readCommand_149 : decode cX7_readCommand 149 = .ok (.if_icmp .ge 15, 3) := by decide +kernel
theorem dX7_readCommand_152 : decode cX7_readCommand 152 = .ok (.aload_n 1, 1) := by decide +kernel
theorem dX7_readCommand_153 : decode cX7_readCommand 153 = .ok (.iload_n 3, 1) := by decide +kernel
theorem dX7_readCommand_154 : decode cX7_readCommand 154 = .ok (.invokestatic 145, 3) := by decide +kernel
theorem dX7_readCommand_157 : decode cX7_readCommand 157 = .ok (.ifCond .lt 7, 3) := by decide +kernel
theorem dX7_readCommand_160 : decode cX7_readCommand 160 = .ok (.iconst 1, 1) := by decide +kernel
theorem dX7_readCommand_161 : decode cX7_readCommand 161 = .ok (.goto 4, 3) := by decide +kernel
theorem dX7_readCommand_164 : decode cX7_readCommand 164 = .ok (.iconst 0, 1) := by decide +kernel
theorem dX7_readCommand_165 : decode cX7_readCommand 165 = .ok (.invokevirtual 149, 3) := by decide +kernel
theorem dX7_readCommand_168 : decode cX7_readCommand 168 = .ok (.ifCond .eq 7, 3) := by decide +kernel
theorem dX7_readCommand_171 : decode cX7_readCommand 171 = .ok (.iconst 1, 1) := by decide +kernel
theorem dX7_readCommand_172 : decode cX7_readCommand 172 = .ok (.goto 4, 3) := by decide +kernel
theorem dX7_readCommand_175 : decode cX7_readCommand 175 = .ok (.iconst 0, 1) := by decide +kernel
theorem dX7_readCommand_176 : decode cX7_readCommand 176 = .ok (.ireturn, 1) := by decide +kernel
theorem dX7_readCommand_177 : decode cX7_readCommand 177 = .ok (.aload_n 0, 1) := by decide +kernel
theorem dX7_readCommand_178 : decode cX7_readCommand 178 = .ok (.iconst 0, 1) := by decide +kernel
theorem dX7_readCommand_179 : decode cX7_readCommand 179 = .ok (.invokevirtual 153, 3) := by decide +kernel
theorem dX7_readCommand_182 : decode cX7_readCommand 182 = .ok (.istore_n 3, 1) := by decide +kernel
theorem dX7_readCommand_183 : decode cX7_readCommand 183 = .ok (.iload_n 3, 1) := by decide +kernel
theorem dX7_readCommand_184 : decode cX7_readCommand 184 = .ok (.iconst (-1), 1) := by decide +kernel
theorem dX7_readCommand_185 : decode cX7_readCommand 185 = .ok (.if_icmp .eq 35, 3) := by decide +kernel
theorem dX7_readCommand_188 : decode cX7_readCommand 188 = .ok (.aload_n 0, 1) := by decide +kernel
theorem dX7_readCommand_189 : decode cX7_readCommand 189 = .ok (.aload_n 1, 1) := by decide +kernel
theorem dX7_readCommand_190 : decode cX7_readCommand 190 = .ok (.iload_n 3, 1) := by decide +kernel
theorem dX7_readCommand_191 : decode cX7_readCommand 191 = .ok (.invokestatic 156, 3) := by decide +kernel
theorem dX7_readCommand_194 : decode cX7_readCommand 194 = .ok (.ifCond .eq 15, 3) := by decide +kernel
theorem dX7_readCommand_197 : decode cX7_readCommand 197 = .ok (.aload_n 1, 1) := by decide +kernel
theorem dX7_readCommand_198 : decode cX7_readCommand 198 = .ok (.iload_n 3, 1) := by decide +kernel
theorem dX7_readCommand_199 : decode cX7_readCommand 199 = .ok (.invokestatic 159, 3) := by decide +kernel
theorem dX7_readCommand_202 : decode cX7_readCommand 202 = .ok (.ifCond .lt 7, 3) := by decide +kernel
theorem dX7_readCommand_205 : decode cX7_readCommand 205 = .ok (.iconst 1, 1) := by decide +kernel
theorem dX7_readCommand_206 : decode cX7_readCommand 206 = .ok (.goto 4, 3) := by decide +kernel
theorem dX7_readCommand_209 : decode cX7_readCommand 209 = .ok (.iconst 0, 1) := by decide +kernel
theorem dX7_readCommand_210 : decode cX7_readCommand 210 = .ok (.invokevirtual 149, 3) := by decide +kernel
theorem dX7_readCommand_213 : decode cX7_readCommand 213 = .ok (.ifCond .eq 7, 3) := by decide +kernel
theorem dX7_readCommand_216 : decode cX7_readCommand 216 = .ok (.iconst 1, 1) := by decide +kernel
theorem dX7_readCommand_217 : decode cX7_readCommand 217 = .ok (.goto 4, 3) := by decide +kernel
theorem dX7_readCommand_220 : decode cX7_readCommand 220 = .ok (.iconst 0, 1) := by decide +kernel
theorem dX7_readCommand_221 : decode cX7_readCommand 221 = .ok (.ireturn, 1) := by decide +kernel
theorem dX7_readCommand_222 : decode cX7_readCommand 222 = .ok (.aload_n 0, 1) := by decide +kernel
theorem dX7_readCommand_223 : decode cX7_readCommand 223 = .ok (.iconst 0, 1) := by decide +kernel
theorem dX7_readCommand_224 : decode cX7_readCommand 224 = .ok (.invokevirtual 153, 3) := by decide +kernel
theorem dX7_readCommand_227 : decode cX7_readCommand 227 = .ok (.istore_n 3, 1) := by decide +kernel
theorem dX7_readCommand_228 : decode cX7_readCommand 228 = .ok (.aload_n 0, 1) := by decide +kernel
theorem dX7_readCommand_229 : decode cX7_readCommand 229 = .ok (.iload_n 3, 1) := by decide +kernel
theorem dX7_readCommand_230 : decode cX7_readCommand 230 = .ok (.iconst 2, 1) := by decide +kernel
theorem dX7_readCommand_231 : decode cX7_readCommand 231 = .ok (.iconst 1, 1) := by decide +kernel
theorem dX7_readCommand_232 : decode cX7_readCommand 232 = .ok (.bipush 63, 2) := by decide +kernel
theorem dX7_readCommand_234 : decode cX7_readCommand 234 = .ok (.invokevirtual 141, 3) := by decide +kernel
theorem dX7_readCommand_237 : decode cX7_readCommand 237 = .ok (.istore 4, 2) := by decide +kernel
theorem dX7_readCommand_239 : decode cX7_readCommand 239 = .ok (.iload 4, 2) := by decide +kernel
theorem dX7_readCommand_241 : decode cX7_readCommand 241 = .ok (.iconst (-1), 1) := by decide +kernel
theorem dX7_readCommand_242 : decode cX7_readCommand 242 = .ok (.if_icmp .eq 39, 3) := by decide +kernel
theorem dX7_readCommand_245 : decode cX7_readCommand 245 = .ok (.aload_n 0, 1) := by decide +kernel
theorem dX7_readCommand_246 : decode cX7_readCommand 246 = .ok (.aload_n 1, 1) := by decide +kernel
theorem dX7_readCommand_247 : decode cX7_readCommand 247 = .ok (.iload_n 3, 1) := by decide +kernel
theorem dX7_readCommand_248 : decode cX7_readCommand 248 = .ok (.iload 4, 2) := by decide +kernel
theorem dX7_readCommand_250 : decode cX7_readCommand 250 = .ok (.invokestatic 162, 3) := by decide +kernel
theorem dX7_readCommand_253 : decode cX7_readCommand 253 = .ok (.ifCond .eq 17, 3) := by decide +kernel
theorem dX7_readCommand_256 : decode cX7_readCommand 256 = .ok (.aload_n 1, 1) := by decide +kernel
theorem dX7_readCommand_257 : decode cX7_readCommand 257 = .ok (.iload_n 3, 1) := by decide +kernel
theorem dX7_readCommand_258 : decode cX7_readCommand 258 = .ok (.iload 4, 2) := by decide +kernel
theorem dX7_readCommand_260 : decode cX7_readCommand 260 = .ok (.invokestatic 106, 3) := by decide +kernel
theorem dX7_readCommand_263 : decode cX7_readCommand 263 = .ok (.ifCond .le 7, 3) := by decide +kernel
theorem dX7_readCommand_266 : decode cX7_readCommand 266 = .ok (.iconst 1, 1) := by decide +kernel
theorem dX7_readCommand_267 : decode cX7_readCommand 267 = .ok (.goto 4, 3) := by decide +kernel
theorem dX7_readCommand_270 : decode cX7_readCommand 270 = .ok (.iconst 0, 1) := by decide +kernel
theorem dX7_readCommand_271 : decode cX7_readCommand 271 = .ok (.invokevirtual 149, 3) := by decide +kernel
theorem dX7_readCommand_274 : decode cX7_readCommand 274 = .ok (.ifCond .eq 7, 3) := by decide +kernel
theorem dX7_readCommand_277 : decode cX7_readCommand 277 = .ok (.iconst 1, 1) := by decide +kernel
theorem dX7_readCommand_278 : decode cX7_readCommand 278 = .ok (.goto 4, 3) := by decide +kernel
theorem dX7_readCommand_281 : decode cX7_readCommand 281 = .ok (.iconst 0, 1) := by decide +kernel
theorem dX7_readCommand_282 : decode cX7_readCommand 282 = .ok (.ireturn, 1) := by decide +kernel
theorem dX7_readCommand_283 : decode cX7_readCommand 283 = .ok (.aload_n 0, 1) := by decide +kernel
theorem dX7_readCommand_284 : decode cX7_readCommand 284 = .ok (.iconst 0, 1) := by decide +kernel
theorem dX7_readCommand_285 : decode cX7_readCommand 285 = .ok (.invokevirtual 153, 3) := by decide +kernel
theorem dX7_readCommand_288 : decode cX7_readCommand 288 = .ok (.istore_n 3, 1) := by decide +kernel
theorem dX7_readCommand_289 : decode cX7_readCommand 289 = .ok (.aload_n 0, 1) := by decide +kernel
theorem dX7_readCommand_290 : decode cX7_readCommand 290 = .ok (.iload_n 3, 1) := by decide +kernel
theorem dX7_readCommand_291 : decode cX7_readCommand 291 = .ok (.invokevirtual 153, 3) := by decide +kernel
theorem dX7_readCommand_294 : decode cX7_readCommand 294 = .ok (.istore 4, 2) := by decide +kernel
theorem dX7_readCommand_296 : decode cX7_readCommand 296 = .ok (.iload 4, 2) := by decide +kernel
theorem dX7_readCommand_298 : decode cX7_readCommand 298 = .ok (.iconst (-1), 1) := by decide +kernel
theorem dX7_readCommand_299 : decode cX7_readCommand 299 = .ok (.if_icmp .eq 53, 3) := by decide +kernel
theorem dX7_readCommand_302 : decode cX7_readCommand 302 = .ok (.aload_n 0, 1) := by decide +kernel
theorem dX7_readCommand_303 : decode cX7_readCommand 303 = .ok (.aload_n 1, 1) := by decide +kernel
theorem dX7_readCommand_304 : decode cX7_readCommand 304 = .ok (.iload_n 3, 1) := by decide +kernel
theorem dX7_readCommand_305 : decode cX7_readCommand 305 = .ok (.invokestatic 112, 3) := by decide +kernel
theorem dX7_readCommand_308 : decode cX7_readCommand 308 = .ok (.ifCond .eq 33, 3) := by decide +kernel
theorem dX7_readCommand_311 : decode cX7_readCommand 311 = .ok (.aload_n 1, 1) := by decide +kernel
theorem dX7_readCommand_312 : decode cX7_readCommand 312 = .ok (.iload 4, 2) := by decide +kernel
theorem dX7_readCommand_314 : decode cX7_readCommand 314 = .ok (.invokestatic 112, 3) := by decide +kernel
theorem dX7_readCommand_317 : decode cX7_readCommand 317 = .ok (.ifCond .eq 24, 3) := by decide +kernel
theorem dX7_readCommand_320 : decode cX7_readCommand 320 = .ok (.iload_n 3, 1) := by decide +kernel
theorem dX7_readCommand_321 : decode cX7_readCommand 321 = .ok (.iload 4, 2) := by decide +kernel
theorem dX7_readCommand_323 : decode cX7_readCommand 323 = .ok (.if_icmp .eq 18, 3) := by decide +kernel
theorem dX7_readCommand_326 : decode cX7_readCommand 326 = .ok (.aload_n 1, 1) := by decide +kernel
theorem dX7_readCommand_327 : decode cX7_readCommand 327 = .ok (.iload_n 3, 1) := by decide +kernel
theorem dX7_readCommand_328 : decode cX7_readCommand 328 = .ok (.iload 4, 2) := by decide +kernel
theorem dX7_readCommand_330 : decode cX7_readCommand 330 = .ok (.iconst 1, 1) := by decide +kernel
theorem dX7_readCommand_331 : decode cX7_readCommand 331 = .ok (.invokestatic 165, 3) := by decide +kernel
theorem dX7_readCommand_334 : decode cX7_readCommand 334 = .ok (.ifCond .le 7, 3) := by decide +kernel
theorem dX7_readCommand_337 : decode cX7_readCommand 337 = .ok (.iconst 1, 1) := by decide +kernel
theorem dX7_readCommand_338 : decode cX7_readCommand 338 = .ok (.goto 4, 3) := by decide +kernel
theorem dX7_readCommand_341 : decode cX7_readCommand 341 = .ok (.iconst 0, 1) := by decide +kernel
theorem dX7_readCommand_342 : decode cX7_readCommand 342 = .ok (.invokevirtual 149, 3) := by decide +kernel
theorem dX7_readCommand_345 : decode cX7_readCommand 345 = .ok (.ifCond .eq 7, 3) := by decide +kernel
theorem dX7_readCommand_348 : decode cX7_readCommand 348 = .ok (.iconst 1, 1) := by decide +kernel
theorem dX7_readCommand_349 : decode cX7_readCommand 349 = .ok (.goto 4, 3) := by decide +kernel
theorem dX7_readCommand_352 : decode cX7_readCommand 352 = .ok (.iconst 0, 1) := by decide +kernel
theorem dX7_readCommand_353 : decode cX7_readCommand 353 = .ok (.ireturn, 1) := by decide +kernel
theorem dX7_readCommand_354 : decode cX7_readCommand 354 = .ok (.aload_n 0, 1) := by decide +kernel
theorem dX7_readCommand_355 : decode cX7_readCommand 355 = .ok (.iconst 0, 1) := by decide +kernel
theorem dX7_readCommand_356 : decode cX7_readCommand 356 = .ok (.invokevirtual 153, 3) := by decide +kernel
theorem dX7_readCommand_359 : decode cX7_readCommand 359 = .ok (.istore_n 3, 1) := by decide +kernel
theorem dX7_readCommand_360 : decode cX7_readCommand 360 = .ok (.iload_n 3, 1) := by decide +kernel
theorem dX7_readCommand_361 : decode cX7_readCommand 361 = .ok (.iconst (-1), 1) := by decide +kernel
theorem dX7_readCommand_362 : decode cX7_readCommand 362 = .ok (.if_icmp .eq 43, 3) := by decide +kernel
theorem dX7_readCommand_365 : decode cX7_readCommand 365 = .ok (.aload_n 0, 1) := by decide +kernel
theorem dX7_readCommand_366 : decode cX7_readCommand 366 = .ok (.aload_n 1, 1) := by decide +kernel
theorem dX7_readCommand_367 : decode cX7_readCommand 367 = .ok (.iload_n 3, 1) := by decide +kernel
theorem dX7_readCommand_368 : decode cX7_readCommand 368 = .ok (.invokestatic 112, 3) := by decide +kernel
theorem dX7_readCommand_371 : decode cX7_readCommand 371 = .ok (.ifCond .eq 23, 3) := by decide +kernel
theorem dX7_readCommand_374 : decode cX7_readCommand 374 = .ok (.aload_n 1, 1) := by decide +kernel
theorem dX7_readCommand_375 : decode cX7_readCommand 375 = .ok (.iload_n 3, 1) := by decide +kernel
theorem dX7_readCommand_376 : decode cX7_readCommand 376 = .ok (.invokestatic 169, 3) := by decide +kernel
theorem dX7_readCommand_379 : decode cX7_readCommand 379 = .ok (.ifCond .ne 15, 3) := by decide +kernel
theorem dX7_readCommand_382 : decode cX7_readCommand 382 = .ok (.aload_n 1, 1) := by decide +kernel
theorem dX7_readCommand_383 : decode cX7_readCommand 383 = .ok (.iload_n 3, 1) := by decide +kernel
theorem dX7_readCommand_384 : decode cX7_readCommand 384 = .ok (.invokestatic 172, 3) := by decide +kernel
theorem dX7_readCommand_387 : decode cX7_readCommand 387 = .ok (.ifCond .lt 7, 3) := by decide +kernel
theorem dX7_readCommand_390 : decode cX7_readCommand 390 = .ok (.iconst 1, 1) := by decide +kernel
theorem dX7_readCommand_391 : decode cX7_readCommand 391 = .ok (.goto 4, 3) := by decide +kernel
theorem dX7_readCommand_394 : decode cX7_readCommand 394 = .ok (.iconst 0, 1) := by decide +kernel
theorem dX7_readCommand_395 : decode cX7_readCommand 395 = .ok (.invokevirtual 149, 3) := by decide +kernel
theorem dX7_readCommand_398 : decode cX7_readCommand 398 = .ok (.ifCond .eq 7, 3) := by decide +kernel
theorem dX7_readCommand_401 : decode cX7_readCommand 401 = .ok (.iconst 1, 1) := by decide +kernel
theorem dX7_readCommand_402 : decode cX7_readCommand 402 = .ok (.goto 4, 3) := by decide +kernel
theorem dX7_readCommand_405 : decode cX7_readCommand 405 = .ok (.iconst 0, 1) := by decide +kernel
theorem dX7_readCommand_406 : decode cX7_readCommand 406 = .ok (.ireturn, 1) := by decide +kernel
theorem dX7_readCommand_407 : decode cX7_readCommand 407 = .ok (.aload_n 0, 1) := by decide +kernel
theorem dX7_readCommand_408 : decode cX7_readCommand 408 = .ok (.iconst 0, 1) := by decide +kernel
theorem dX7_readCommand_409 : decode cX7_readCommand 409 = .ok (.invokevirtual 153, 3) := by decide +kernel
theorem dX7_readCommand_412 : decode cX7_readCommand 412 = .ok (.istore_n 3, 1) := by decide +kernel
theorem dX7_readCommand_413 : decode cX7_readCommand 413 = .ok (.iload_n 3, 1) := by decide +kernel
theorem dX7_readCommand_414 : decode cX7_readCommand 414 = .ok (.iconst (-1), 1) := by decide +kernel
theorem dX7_readCommand_415 : decode cX7_readCommand 415 = .ok (.if_icmp .eq 35, 3) := by decide +kernel
theorem dX7_readCommand_418 : decode cX7_readCommand 418 = .ok (.aload_n 0, 1) := by decide +kernel
theorem dX7_readCommand_419 : decode cX7_readCommand 419 = .ok (.aload_n 1, 1) := by decide +kernel
theorem dX7_readCommand_420 : decode cX7_readCommand 420 = .ok (.iload_n 3, 1) := by decide +kernel
theorem dX7_readCommand_421 : decode cX7_readCommand 421 = .ok (.invokestatic 169, 3) := by decide +kernel
theorem dX7_readCommand_424 : decode cX7_readCommand 424 = .ok (.ifCond .eq 15, 3) := by decide +kernel
theorem dX7_readCommand_427 : decode cX7_readCommand 427 = .ok (.aload_n 1, 1) := by decide +kernel
theorem dX7_readCommand_428 : decode cX7_readCommand 428 = .ok (.iload_n 3, 1) := by decide +kernel
theorem dX7_readCommand_429 : decode cX7_readCommand 429 = .ok (.invokestatic 175, 3) := by decide +kernel
theorem dX7_readCommand_432 : decode cX7_readCommand 432 = .ok (.ifCond .le 7, 3) := by decide +kernel
theorem dX7_readCommand_435 : decode cX7_readCommand 435 = .ok (.iconst 1, 1) := by decide +kernel
theorem dX7_readCommand_436 : decode cX7_readCommand 436 = .ok (.goto 4, 3) := by decide +kernel
theorem dX7_readCommand_439 : decode cX7_readCommand 439 = .ok (.iconst 0, 1) := by decide +kernel
theorem dX7_readCommand_440 : decode cX7_readCommand 440 = .ok (.invokevirtual 149, 3) := by decide +kernel
theorem dX7_readCommand_443 : decode cX7_readCommand 443 = .ok (.ifCond .eq 7, 3) := by decide +kernel
theorem dX7_readCommand_446 : decode cX7_readCommand 446 = .ok (.iconst 1, 1) := by decide +kernel
theorem dX7_readCommand_447 : decode cX7_readCommand 447 = .ok (.goto 4, 3) := by decide +kernel
theorem dX7_readCommand_450 : decode cX7_readCommand 450 = .ok (.iconst 0, 1) := by decide +kernel
theorem dX7_readCommand_451 : decode cX7_readCommand 451 = .ok (.ireturn, 1) := by decide +kernel
theorem dX7_readCommand_452 : decode cX7_readCommand 452 = .ok (.aload_n 0, 1) := by decide +kernel
theorem dX7_readCommand_453 : decode cX7_readCommand 453 = .ok (.iconst 0, 1) := by decide +kernel
theorem dX7_readCommand_454 : decode cX7_readCommand 454 = .ok (.iconst 2, 1) := by decide +kernel
theorem dX7_readCommand_455 : decode cX7_readCommand 455 = .ok (.iconst 0, 1) := by decide +kernel
theorem dX7_readCommand_456 : decode cX7_readCommand 456 = .ok (.bipush 40, 2) := by decide +kernel
theorem dX7_readCommand_458 : decode cX7_readCommand 458 = .ok (.invokevirtual 141, 3) := by decide +kernel
theorem dX7_readCommand_461 : decode cX7_readCommand 461 = .ok (.istore_n 3, 1) := by decide +kernel
theorem dX7_readCommand_462 : decode cX7_readCommand 462 = .ok (.aload_n 1, 1) := by decide +kernel
theorem dX7_readCommand_463 : decode cX7_readCommand 463 = .ok (.bipush 7, 2) := by decide +kernel
theorem dX7_readCommand_465 : decode cX7_readCommand 465 = .ok (.iload_n 3, 1) := by decide +kernel
theorem dX7_readCommand_466 : decode cX7_readCommand 466 = .ok (.iconst (-1), 1) := by decide +kernel
theorem dX7_readCommand_467 : decode cX7_readCommand 467 = .ok (.if_icmp .ne 10, 3) := by decide +kernel
theorem dX7_readCommand_470 : decode cX7_readCommand 470 = .ok (.aload_n 1, 1) := by decide +kernel
theorem dX7_readCommand_471 : decode cX7_readCommand 471 = .ok (.bipush 7, 2) := by decide +kernel
theorem dX7_readCommand_473 : decode cX7_readCommand 473 = .ok (.iaload, 1) := by decide +kernel
theorem dX7_readCommand_474 : decode cX7_readCommand 474 = .ok (.goto 4, 3) := by decide +kernel
theorem dX7_readCommand_477 : decode cX7_readCommand 477 = .ok (.iload_n 3, 1) := by decide +kernel
theorem dX7_readCommand_478 : decode cX7_readCommand 478 = .ok (.iastore, 1) := by decide +kernel
theorem dX7_readCommand_479 : decode cX7_readCommand 479 = .ok (.iload_n 3, 1) := by decide +kernel
theorem dX7_readCommand_480 : decode cX7_readCommand 480 = .ok (.iconst (-1), 1) := by decide +kernel
theorem dX7_readCommand_481 : decode cX7_readCommand 481 = .ok (.if_icmp .eq 7, 3) := by decide +kernel
theorem dX7_readCommand_484 : decode cX7_readCommand 484 = .ok (.iconst 1, 1) := by decide +kernel
theorem dX7_readCommand_485 : decode cX7_readCommand 485 = .ok (.goto 4, 3) := by decide +kernel
theorem dX7_readCommand_488 : decode cX7_readCommand 488 = .ok (.iconst 0, 1) := by decide +kernel
theorem dX7_readCommand_489 : decode cX7_readCommand 489 = .ok (.ireturn, 1) := by decide +kernel
theorem dX7_readCommand_490 : decode cX7_readCommand 490 = .ok (.aload_n 0, 1) := by decide +kernel
theorem dX7_readCommand_491 : decode cX7_readCommand 491 = .ok (.iconst 0, 1) := by decide +kernel
theorem dX7_readCommand_492 : decode cX7_readCommand 492 = .ok (.iconst 2, 1) := by decide +kernel
theorem dX7_readCommand_493 : decode cX7_readCommand 493 = .ok (.iconst 1, 1) := by decide +kernel
theorem dX7_readCommand_494 : decode cX7_readCommand 494 = .ok (.bipush 60, 2) := by decide +kernel
theorem dX7_readCommand_496 : decode cX7_readCommand 496 = .ok (.invokevirtual 141, 3) := by decide +kernel
theorem dX7_readCommand_499 : decode cX7_readCommand 499 = .ok (.istore_n 3, 1) := by decide +kernel
theorem dX7_readCommand_500 : decode cX7_readCommand 500 = .ok (.iload_n 3, 1) := by decide +kernel
theorem dX7_readCommand_501 : decode cX7_readCommand 501 = .ok (.iconst (-1), 1) := by decide +kernel
theorem dX7_readCommand_502 : decode cX7_readCommand 502 = .ok (.if_icmp .eq 28, 3) := by decide +kernel
theorem dX7_readCommand_505 : decode cX7_readCommand 505 = .ok (.aload_n 0, 1) := by decide +kernel
theorem dX7_readCommand_506 : decode cX7_readCommand 506 = .ok (.aload_n 0, 1) := by decide +kernel
theorem dX7_readCommand_507 : decode cX7_readCommand 507 = .ok (.aload_n 1, 1) := by decide +kernel
theorem dX7_readCommand_508 : decode cX7_readCommand 508 = .ok (.iload_n 3, 1) := by decide +kernel
theorem dX7_readCommand_509 : decode cX7_readCommand 509 = .ok (.invokevirtual 178, 3) := by decide +kernel
theorem dX7_readCommand_512 : decode cX7_readCommand 512 = .ok (.ifCond .lt 7, 3) := by decide +kernel
theorem dX7_readCommand_515 : decode cX7_readCommand 515 = .ok (.iconst 1, 1) := by decide +kernel
theorem dX7_readCommand_516 : decode cX7_readCommand 516 = .ok (.goto 4, 3) := by decide +kernel
theorem dX7_readCommand_519 : decode cX7_readCommand 519 = .ok (.iconst 0, 1) := by decide +kernel
theorem dX7_readCommand_520 : decode cX7_readCommand 520 = .ok (.invokevirtual 149, 3) := by decide +kernel
theorem dX7_readCommand_523 : decode cX7_readCommand 523 = .ok (.ifCond .eq 7, 3) := by decide +kernel
theorem dX7_readCommand_526 : decode cX7_readCommand 526 = .ok (.iconst 1, 1) := by decide +kernel
theorem dX7_readCommand_527 : decode cX7_readCommand 527 = .ok (.goto 4, 3) := by decide +kernel
theorem dX7_readCommand_530 : decode cX7_readCommand 530 = .ok (.iconst 0, 1) := by decide +kernel
theorem dX7_readCommand_531 : decode cX7_readCommand 531 = .ok (.ireturn, 1) := by decide +kernel
theorem dX7_readCommand_532 : decode cX7_readCommand 532 = .ok (.aload_n 0, 1) := by decide +kernel
theorem dX7_readCommand_533 : decode cX7_readCommand 533 = .ok (.dup, 1) := by decide +kernel
theorem dX7_readCommand_534 : decode cX7_readCommand 534 = .ok (.getfield 133, 3) := by decide +kernel
theorem dX7_readCommand_537 : decode cX7_readCommand 537 = .ok (.iconst 1, 1) := by decide +kernel
theorem dX7_readCommand_538 : decode cX7_readCommand 538 = .ok (.isub, 1) := by decide +kernel
theorem dX7_readCommand_539 : decode cX7_readCommand 539 = .ok (.putfield 133, 3) := by decide +kernel
theorem dX7_readCommand_542 : decode cX7_readCommand 542 = .ok (.iconst 0, 1) := by decide +kernel
theorem dX7_readCommand_543 : decode cX7_readCommand 543 = .ok (.ireturn, 1) := by decide +kernel
theorem dX7_readText_0 : decode cX7_readText 0 = .ok (.aload_n 1, 1) := by decide +kernel
theorem dX7_readText_1 : decode cX7_readText 1 = .ok (.invokestatic 32, 3) := by decide +kernel
theorem dX7_readText_4 : decode cX7_readText 4 = .ok (.aload_n 0, 1) := by decide +kernel
theorem dX7_readText_5 : decode cX7_readText 5 = .ok (.iconst 0, 1) := by decide +kernel
theorem dX7_readText_6 : decode cX7_readText 6 = .ok (.putfield 138, 3) := by decide +kernel
theorem dX7_readText_9 : decode cX7_readText 9 = .ok (.aload_n 0, 1) := by decide +kernel
theorem dX7_readText_10 : decode cX7_readText 10 = .ok (.iconst 0, 1) := by decide +kernel
theorem dX7_readText_11 : decode cX7_readText 11 = .ok (.putfield 133, 3) := by decide +kernel
theorem dX7_readText_14 : decode cX7_readText 14 = .ok (.aload_n 0, 1) := by decide +kernel
theorem dX7_readText_15 : decode cX7_readText 15 = .ok (.getfield 126, 3) := by decide +kernel
theorem dX7_readText_18 : decode cX7_readText 18 = .ok (.ifCond .eq 14, 3) := by decide +kernel
theorem dX7_readText_21 : decode cX7_readText 21 = .ok (.aload_n 0, 1) := by decide +kernel
theorem dX7_readText_22 : decode cX7_readText 22 = .ok (.getfield 7, 3) := by decide +kernel
theorem dX7_readText_25 : decode cX7_readText 25 = .ok (.iconst 0, 1) := by decide +kernel
theorem dX7_readText_26 : decode cX7_readText 26 = .ok (.iaload, 1) := by decide +kernel
theorem dX7_readText_27 : decode cX7_readText 27 = .ok (.bipush 82, 2) := by decide +kernel
theorem dX7_readText_29 : decode cX7_readText 29 = .ok (.if_icmp .eq 5, 3) := by decide +kernel
theorem dX7_readText_32 : decode cX7_readText 32 = .ok (.iconst 0, 1) := by decide +kernel
theorem dX7_readText_33 : decode cX7_readText 33 = .ok (.ireturn, 1) := by decide +kernel
theorem dX7_readText_34 : decode cX7_readText 34 = .ok (.aload_n 0, 1) := by decide +kernel
theorem dX7_readText_35 : decode cX7_readText 35 = .ok (.iconst 1, 1) := by decide +kernel
theorem dX7_readText_36 : decode cX7_readText 36 = .ok (.putfield 133, 3) := by decide +kernel
theorem dX7_readText_39 : decode cX7_readText 39 = .ok (.aload_n 0, 1) := by decide +kernel
theorem dX7_readText_40 : decode cX7_readText 40 = .ok (.getfield 133, 3) := by decide +kernel
theorem dX7_readText_43 : decode cX7_readText 43 = .ok (.aload_n 0, 1) := by decide +kernel
theorem dX7_readText_44 : decode cX7_readText 44 = .ok (.getfield 126, 3) := by decide +kernel
theorem dX7_readText_47 : decode cX7_readText 47 = .ok (.if_icmp .ge 16, 3) := by decide +kernel
theorem dX7_readText_50 : decode cX7_readText 50 = .ok (.aload_n 0, 1) := by decide +kernel
theorem dX7_readText_51 : decode cX7_readText 51 = .ok (.aload_n 1, 1) := by decide +kernel
theorem dX7_readText_52 : decode cX7_readText 52 = .ok (.invokevirtual 181, 3) := by decide +kernel
theorem dX7_readText_55 : decode cX7_readText 55 = .ok (.ifCond .ne (-16), 3) := by decide +kernel
theorem dX7_readText_58 : decode cX7_readText 58 = .ok (.aload_n 0, 1) := by decide +kernel
theorem dX7_readText_59 : decode cX7_readText 59 = .ok (.getfield 133, 3) := by decide +kernel
theorem dX7_readText_62 : decode cX7_readText 62 = .ok (.ireturn, 1) := by decide +kernel
theorem dX7_readText_63 : decode cX7_readText 63 = .ok (.iconst (-1), 1) := by decide +kernel
theorem dX7_readText_64 : decode cX7_readText 64 = .ok (.ireturn, 1) := by decide +kernel
theorem dX7_errorPosition_0 : decode cX7_errorPosition 0 = .ok (.aload_n 0, 1) := by decide +kernel
theorem dX7_errorPosition_1 : decode cX7_errorPosition 1 = .ok (.iconst 0, 1) := by decide +kernel
theorem dX7_errorPosition_2 : decode cX7_errorPosition 2 = .ok (.putfield 36, 3) := by decide +kernel
theorem dX7_errorPosition_5 : decode cX7_errorPosition 5 = .ok (.aload_n 0, 1) := by decide +kernel
theorem dX7_errorPosition_6 : decode cX7_errorPosition 6 = .ok (.aload_n 0, 1) := by decide +kernel
theorem dX7_errorPosition_7 : decode cX7_errorPosition 7 = .ok (.getfield 16, 3) := by decide +kernel
theorem dX7_errorPosition_10 : decode cX7_errorPosition 10 = .ok (.invokevirtual 185, 3) := by decide +kernel
theorem dX7_errorPosition_13 : decode cX7_errorPosition 13 = .ok (.ireturn, 1) := by decide +kernel
theorem dX7_load_0 : decode cX7_load 0 = .ok (.aload_n 0, 1) := by decide +kernel
theorem dX7_load_1 : decode cX7_load 1 = .ok (.aload_n 0, 1) := by decide +kernel
theorem dX7_load_2 : decode cX7_load 2 = .ok (.aload_n 0, 1) := by decide +kernel
theorem dX7_load_3 : decode cX7_load 3 = .ok (.getfield 16, 3) := by decide +kernel
theorem dX7_load_6 : decode cX7_load 6 = .ok (.invokevirtual 185, 3) := by decide +kernel
theorem dX7_load_9 : decode cX7_load 9 = .ok (.iconst (-1), 1) := by decide +kernel
theorem dX7_load_10 : decode cX7_load 10 = .ok (.if_icmp .ne 7, 3) := by decide +kernel
theorem dX7_load_13 : decode cX7_load 13 = .ok (.iconst 0, 1) := by decide +kernel
theorem dX7_load_14 : decode cX7_load 14 = .ok (.goto 4, 3) := by decide +kernel
theorem dX7_load_17 : decode cX7_load 17 = .ok (.iconst 1, 1) := by decide +kernel
theorem dX7_load_18 : decode cX7_load 18 = .ok (.invokevirtual 129, 3) := by decide +kernel
theorem dX7_load_21 : decode cX7_load 21 = .ok (.ifCond .eq 5, 3) := by decide +kernel
theorem dX7_load_24 : decode cX7_load 24 = .ok (.iconst 0, 1) := by decide +kernel
theorem dX7_load_25 : decode cX7_load 25 = .ok (.ireturn, 1) := by decide +kernel
theorem dX7_load_26 : decode cX7_load 26 = .ok (.aload_n 0, 1) := by decide +kernel
theorem dX7_load_27 : decode cX7_load 27 = .ok (.getfield 16, 3) := by decide +kernel
theorem dX7_load_30 : decode cX7_load 30 = .ok (.iconst 0, 1) := by decide +kernel
theorem dX7_load_31 : decode cX7_load 31 = .ok (.aload_n 0, 1) := by decide +kernel
theorem dX7_load_32 : decode cX7_load 32 = .ok (.getfield 13, 3) := by decide +kernel
theorem dX7_load_35 : decode cX7_load 35 = .ok (.iconst 0, 1) := by decide +kernel
theorem dX7_load_36 : decode cX7_load 36 = .ok (.invokestatic 189, 3) := by decide +kernel
theorem dX7_load_39 : decode cX7_load 39 = .ok (.aload_n 0, 1) := by decide +kernel
theorem dX7_load_40 : decode cX7_load 40 = .ok (.iconst 0, 1) := by decide +kernel
theorem dX7_load_41 : decode cX7_load 41 = .ok (.putfield 193, 3) := by decide +kernel
theorem dX7_load_44 : decode cX7_load 44 = .ok (.aload_n 0, 1) := by decide +kernel
theorem dX7_load_45 : decode cX7_load 45 = .ok (.getfield 25, 3) := by decide +kernel
theorem dX7_load_48 : decode cX7_load 48 = .ok (.iconst 0, 1) := by decide +kernel
theorem dX7_load_49 : decode cX7_load 49 = .ok (.iconst 0, 1) := by decide +kernel
theorem dX7_load_50 : decode cX7_load 50 = .ok (.bastore, 1) := by decide +kernel
theorem dX7_load_51 : decode cX7_load 51 = .ok (.aload_n 0, 1) := by decide +kernel
theorem dX7_load_52 : decode cX7_load 52 = .ok (.getfield 25, 3) := by decide +kernel
theorem dX7_load_55 : decode cX7_load 55 = .ok (.iconst 1, 1) := by decide +kernel
theorem dX7_load_56 : decode cX7_load 56 = .ok (.iconst 0, 1) := by decide +kernel
theorem dX7_load_57 : decode cX7_load 57 = .ok (.bastore, 1) := by decide +kernel
theorem dX7_load_58 : decode cX7_load 58 = .ok (.aload_n 0, 1) := by decide +kernel
theorem dX7_load_59 : decode cX7_load 59 = .ok (.getfield 138, 3) := by decide +kernel
theorem dX7_load_62 : decode cX7_load 62 = .ok (.ireturn, 1) := by decide +kernel
theorem dX7_thoseWho_0 : decode cX7_thoseWho 0 = .ok (.iconst 0, 1) := by decide +kernel
theorem dX7_thoseWho_1 : decode cX7_thoseWho 1 = .ok (.istore_n 2, 1) := by decide +kernel
theorem dX7_thoseWho_2 : decode cX7_thoseWho 2 = .ok (.iconst 0, 1) := by decide +kernel
theorem dX7_thoseWho_3 : decode cX7_thoseWho 3 = .ok (.istore_n 3, 1) := by decide +kernel
theorem dX7_thoseWho_4 : decode cX7_thoseWho 4 = .ok (.iload_n 3, 1) := by decide +kernel
theorem dX7_thoseWho_5 : decode cX7_thoseWho 5 = .ok (.aload_n 0, 1) := by decide +kernel
theorem dX7_thoseWho_6 : decode cX7_thoseWho 6 = .ok (.iconst 0, 1) := by decide +kernel
theorem dX7_thoseWho_7 : decode cX7_thoseWho 7 = .ok (.iaload, 1) := by decide +kernel
theorem dX7_thoseWho_8 : decode cX7_thoseWho 8 = .ok (.if_icmp .ge 29, 3) := by decide +kernel
theorem dX7_thoseWho_11 : decode cX7_thoseWho 11 = .ok (.iload_n 2, 1) := by decide +kernel
theorem dX7_thoseWho_12 : decode cX7_thoseWho 12 = .ok (.aload_n 0, 1) := by decide +kernel
theorem dX7_thoseWho_13 : decode cX7_thoseWho 13 = .ok (.iload_n 3, 1) := by decide +kernel
theorem dX7_thoseWho_14 : decode cX7_thoseWho 14 = .ok (.iconst 1, 1) := by decide +kernel
theorem dX7_thoseWho_15 : decode cX7_thoseWho 15 = .ok (.invokestatic 44, 3) := by decide +kernel
theorem dX7_thoseWho_18 : decode cX7_thoseWho 18 = .ok (.iload_n 1, 1) := by decide +kernel
theorem dX7_thoseWho_19 : decode cX7_thoseWho 19 = .ok (.if_icmp .ne 9, 3) := by decide +kernel
theorem dX7_thoseWho_22 : decode cX7_thoseWho 22 = .ok (.iconst 1, 1) := by decide +kernel
theorem dX7_thoseWho_23 : decode cX7_thoseWho 23 = .ok (.iload_n 3, 1) := by decide +kernel
theorem dX7_thoseWho_24 : decode cX7_thoseWho 24 = .ok (.ishl, 1) := by decide +kernel
theorem dX7_thoseWho_25 : decode cX7_thoseWho 25 = .ok (.goto 4, 3) := by decide +kernel
theorem dX7_thoseWho_28 : decode cX7_thoseWho 28 = .ok (.iconst 0, 1) := by decide +kernel
theorem dX7_thoseWho_29 : decode cX7_thoseWho 29 = .ok (.ior, 1) := by decide +kernel
theorem dX7_thoseWho_30 : decode cX7_thoseWho 30 = .ok (.istore_n 2, 1) := by decide +kernel
theorem dX7_thoseWho_31 : decode cX7_thoseWho 31 = .ok (.iinc 3 1, 3) := by decide +kernel
theorem dX7_thoseWho_34 : decode cX7_thoseWho 34 = .ok (.goto (-30), 3) := by decide +kernel
theorem dX7_thoseWho_37 : decode cX7_thoseWho 37 = .ok (.iload_n 2, 1) := by decide +kernel
theorem dX7_thoseWho_38 : decode cX7_thoseWho 38 = .ok (.ireturn, 1) := by decide +kernel
theorem dX7_about_0 : decode cX7_about 0 = .ok (.aload_n 0, 1) := by decide +kernel
theorem dX7_about_1 : decode cX7_about 1 = .ok (.iload_n 1, 1) := by decide +kernel
theorem dX7_about_2 : decode cX7_about 2 = .ok (.i2l, 1) := by decide +kernel
theorem dX7_about_3 : decode cX7_about 3 = .ok (.lconst 0, 1) := by decide +kernel
theorem dX7_about_4 : decode cX7_about 4 = .ok (.ldc2_w 136, 3) := by decide +kernel
theorem dX7_about_7 : decode cX7_about 7 = .ok (.invokestatic 40, 3) := by decide +kernel
theorem dX7_about_10 : decode cX7_about 10 = .ok (.ifCond .eq 7, 3) := by decide +kernel
theorem dX7_about_13 : decode cX7_about 13 = .ok (.iconst 0, 1) := by decide +kernel
theorem dX7_about_14 : decode cX7_about 14 = .ok (.goto 4, 3) := by decide +kernel
theorem dX7_about_17 : decode cX7_about 17 = .ok (.iconst 1, 1) := by decide +kernel
theorem dX7_about_18 : decode cX7_about 18 = .ok (.invokevirtual 129, 3) := by decide +kernel
theorem dX7_about_21 : decode cX7_about 21 = .ok (.ifCond .eq 5, 3) := by decide +kernel
theorem dX7_about_24 : decode cX7_about 24 = .ok (.iconst 0, 1) := by decide +kernel
theorem dX7_about_25 : decode cX7_about 25 = .ok (.ireturn, 1) := by decide +kernel
theorem dX7_about_26 : decode cX7_about 26 = .ok (.iload_n 1, 1) := by decide +kernel
theorem dX7_about_27 : decode cX7_about 27 = .ok (.bipush 7, 2) := by decide +kernel
theorem dX7_about_29 : decode cX7_about 29 = .ok (.if_icmp .ge 12, 3) := by decide +kernel
theorem dX7_about_32 : decode cX7_about 32 = .ok (.aload_n 0, 1) := by decide +kernel
theorem dX7_about_33 : decode cX7_about 33 = .ok (.getfield 13, 3) := by decide +kernel
theorem dX7_about_36 : decode cX7_about 36 = .ok (.iload_n 1, 1) := by decide +kernel
theorem dX7_about_37 : decode cX7_about 37 = .ok (.iaload, 1) := by decide +kernel
theorem dX7_about_38 : decode cX7_about 38 = .ok (.goto 44, 3) := by decide +kernel
theorem dX7_about_41 : decode cX7_about 41 = .ok (.iload_n 1, 1) := by decide +kernel
theorem dX7_about_42 : decode cX7_about 42 = .ok (.bipush 7, 2) := by decide +kernel
theorem dX7_about_44 : decode cX7_about 44 = .ok (.if_icmp .ne 14, 3) := by decide +kernel
theorem dX7_about_47 : decode cX7_about 47 = .ok (.aload_n 0, 1) := by decide +kernel
theorem dX7_about_48 : decode cX7_about 48 = .ok (.getfield 13, 3) := by decide +kernel
theorem dX7_about_51 : decode cX7_about 51 = .ok (.iconst 0, 1) := by decide +kernel
theorem dX7_about_52 : decode cX7_about 52 = .ok (.invokestatic 196, 3) := by decide +kernel
theorem dX7_about_55 : decode cX7_about 55 = .ok (.goto 27, 3) := by decide +kernel
theorem dX7_about_58 : decode cX7_about 58 = .ok (.iload_n 1, 1) := by decide +kernel
theorem dX7_about_59 : decode cX7_about 59 = .ok (.bipush 8, 2) := by decide +kernel
theorem dX7_about_61 : decode cX7_about 61 = .ok (.if_icmp .ne 14, 3) := by decide +kernel
theorem dX7_about_64 : decode cX7_about 64 = .ok (.aload_n 0, 1) := by decide +kernel
theorem dX7_about_65 : decode cX7_about 65 = .ok (.getfield 13, 3) := by decide +kernel
theorem dX7_about_68 : decode cX7_about 68 = .ok (.iconst 2, 1) := by decide +kernel
theorem dX7_about_69 : decode cX7_about 69 = .ok (.invokestatic 196, 3) := by decide +kernel
theorem dX7_about_72 : decode cX7_about 72 = .ok (.goto 10, 3) := by decide +kernel
theorem dX7_about_75 : decode cX7_about 75 = .ok (.aload_n 0, 1) := by decide +kernel
theorem dX7_about_76 : decode cX7_about 76 = .ok (.getfield 13, 3) := by decide +kernel
theorem dX7_about_79 : decode cX7_about 79 = .ok (.bipush 7, 2) := by decide +kernel
theorem dX7_about_81 : decode cX7_about 81 = .ok (.iaload, 1) := by decide +kernel
theorem dX7_about_82 : decode cX7_about 82 = .ok (.ireturn, 1) := by decide +kernel
theorem dX7_memberOf_0 : decode cX7_memberOf 0 = .ok (.aload_n 0, 1) := by decide +kernel
theorem dX7_memberOf_1 : decode cX7_memberOf 1 = .ok (.aload_n 0, 1) := by decide +kernel
theorem dX7_memberOf_2 : decode cX7_memberOf 2 = .ok (.getfield 13, 3) := by decide +kernel
theorem dX7_memberOf_5 : decode cX7_memberOf 5 = .ok (.iload_n 1, 1) := by decide +kernel
theorem dX7_memberOf_6 : decode cX7_memberOf 6 = .ok (.invokestatic 112, 3) := by decide +kernel
theorem dX7_memberOf_9 : decode cX7_memberOf 9 = .ok (.ifCond .ne 7, 3) := by decide +kernel
theorem dX7_memberOf_12 : decode cX7_memberOf 12 = .ok (.iconst 1, 1) := by decide +kernel
theorem dX7_memberOf_13 : decode cX7_memberOf 13 = .ok (.goto 20, 3) := by decide +kernel
theorem dX7_memberOf_16 : decode cX7_memberOf 16 = .ok (.iload_n 2, 1) := by decide +kernel
theorem dX7_memberOf_17 : decode cX7_memberOf 17 = .ok (.i2l, 1) := by decide +kernel
theorem dX7_memberOf_18 : decode cX7_memberOf 18 = .ok (.lconst 0, 1) := by decide +kernel
theorem dX7_memberOf_19 : decode cX7_memberOf 19 = .ok (.ldc2_w 199, 3) := by decide +kernel
theorem dX7_memberOf_22 : decode cX7_memberOf 22 = .ok (.invokestatic 40, 3) := by decide +kernel
theorem dX7_memberOf_25 : decode cX7_memberOf 25 = .ok (.ifCond .eq 7, 3) := by decide +kernel
theorem dX7_memberOf_28 : decode cX7_memberOf 28 = .ok (.iconst 0, 1) := by decide +kernel
theorem dX7_memberOf_29 : decode cX7_memberOf 29 = .ok (.goto 4, 3) := by decide +kernel
theorem dX7_memberOf_32 : decode cX7_memberOf 32 = .ok (.iconst 2, 1) := by decide +kernel
theorem dX7_memberOf_33 : decode cX7_memberOf 33 = .ok (.invokevirtual 129, 3) := by decide +kernel
theorem dX7_memberOf_36 : decode cX7_memberOf 36 = .ok (.ifCond .eq 5, 3) := by decide +kernel
theorem dX7_memberOf_39 : decode cX7_memberOf 39 = .ok (.iconst 0, 1) := by decide +kernel
theorem dX7_memberOf_40 : decode cX7_memberOf 40 = .ok (.ireturn, 1) := by decide +kernel
theorem dX7_memberOf_41 : decode cX7_memberOf 41 = .ok (.iload_n 2, 1) := by decide +kernel
theorem dX7_memberOf_42 : decode cX7_memberOf 42 = .ok (.tableswitch 74 8 11 #[30, 41, 52, 63], 30) := by decide +kernel
theorem dX7_memberOf_72 : decode cX7_memberOf 72 = .ok (.aload_n 0, 1) := by decide +kernel
theorem dX7_memberOf_73 : decode cX7_memberOf 73 = .ok (.getfield 13, 3) := by decide +kernel
theorem dX7_memberOf_76 : decode cX7_memberOf 76 = .ok (.iload_n 1, 1) := by decide +kernel
theorem dX7_memberOf_77 : decode cX7_memberOf 77 = .ok (.bipush 9, 2) := by decide +kernel
theorem dX7_memberOf_79 : decode cX7_memberOf 79 = .ok (.invokestatic 44, 3) := by decide +kernel
theorem dX7_memberOf_82 : decode cX7_memberOf 82 = .ok (.ireturn, 1) := by decide +kernel
theorem dX7_memberOf_83 : decode cX7_memberOf 83 = .ok (.aload_n 0, 1) := by decide +kernel
theorem dX7_memberOf_84 : decode cX7_memberOf 84 = .ok (.getfield 13, 3) := by decide +kernel
theorem dX7_memberOf_87 : decode cX7_memberOf 87 = .ok (.iload_n 1, 1) := by decide +kernel
theorem dX7_memberOf_88 : decode cX7_memberOf 88 = .ok (.bipush 10, 2) := by decide +kernel
theorem dX7_memberOf_90 : decode cX7_memberOf 90 = .ok (.invokestatic 44, 3) := by decide +kernel
theorem dX7_memberOf_93 : decode cX7_memberOf 93 = .ok (.ireturn, 1) := by decide +kernel
theorem dX7_memberOf_94 : decode cX7_memberOf 94 = .ok (.aload_n 0, 1) := by decide +kernel
theorem dX7_memberOf_95 : decode cX7_memberOf 95 = .ok (.getfield 13, 3) := by decide +kernel
theorem dX7_memberOf_98 : decode cX7_memberOf 98 = .ok (.iload_n 1, 1) := by decide +kernel
theorem dX7_memberOf_99 : decode cX7_memberOf 99 = .ok (.bipush 30, 2) := by decide +kernel
theorem dX7_memberOf_101 : decode cX7_memberOf 101 = .ok (.invokestatic 44, 3) := by decide +kernel
theorem dX7_memberOf_104 : decode cX7_memberOf 104 = .ok (.ireturn, 1) := by decide +kernel
theorem dX7_memberOf_105 : decode cX7_memberOf 105 = .ok (.aload_n 0, 1) := by decide +kernel
theorem dX7_memberOf_106 : decode cX7_memberOf 106 = .ok (.getfield 13, 3) := by decide +kernel
theorem dX7_memberOf_109 : decode cX7_memberOf 109 = .ok (.iload_n 1, 1) := by decide +kernel
theorem dX7_memberOf_110 : decode cX7_memberOf 110 = .ok (.bipush 67, 2) := by decide +kernel
theorem dX7_memberOf_112 : decode cX7_memberOf 112 = .ok (.invokestatic 44, 3) := by decide +kernel
theorem dX7_memberOf_115 : decode cX7_memberOf 115 = .ok (.ireturn, 1) := by decide +kernel
theorem dX7_memberOf_116 : decode cX7_memberOf 116 = .ok (.aload_n 0, 1) := by decide +kernel
theorem dX7_memberOf_117 : decode cX7_memberOf 117 = .ok (.getfield 13, 3) := by decide +kernel
theorem dX7_memberOf_120 : decode cX7_memberOf 120 = .ok (.iload_n 1, 1) := by decide +kernel
theorem dX7_memberOf_121 : decode cX7_memberOf 121 = .ok (.iload_n 2, 1) := by decide +kernel
theorem dX7_memberOf_122 : decode cX7_memberOf 122 = .ok (.invokestatic 44, 3) := by decide +kernel
theorem dX7_memberOf_125 : decode cX7_memberOf 125 = .ok (.ireturn, 1) := by decide +kernel
theorem dX7_session_0 : decode cX7_session 0 = .ok (.aload_n 0, 1) := by decide +kernel
theorem dX7_session_1 : decode cX7_session 1 = .ok (.getfield 13, 3) := by decide +kernel
theorem dX7_session_4 : decode cX7_session 4 = .ok (.iload_n 1, 1) := by decide +kernel
theorem dX7_session_5 : decode cX7_session 5 = .ok (.invokestatic 112, 3) := by decide +kernel
theorem dX7_session_8 : decode cX7_session 8 = .ok (.ifCond .eq 29, 3) := by decide +kernel
theorem dX7_session_11 : decode cX7_session 11 = .ok (.iload_n 2, 1) := by decide +kernel
theorem dX7_session_12 : decode cX7_session 12 = .ok (.i2l, 1) := by decide +kernel
theorem dX7_session_13 : decode cX7_session 13 = .ok (.lconst 0, 1) := by decide +kernel
theorem dX7_session_14 : decode cX7_session 14 = .ok (.aload_n 0, 1) := by decide +kernel
theorem dX7_session_15 : decode cX7_session 15 = .ok (.getfield 13, 3) := by decide +kernel
theorem dX7_session_18 : decode cX7_session 18 = .ok (.iload_n 1, 1) := by decide +kernel
theorem dX7_session_19 : decode cX7_session 19 = .ok (.bipush 67, 2) := by decide +kernel
theorem dX7_session_21 : decode cX7_session 21 = .ok (.invokestatic 44, 3) := by decide +kernel
theorem dX7_session_24 : decode cX7_session 24 = .ok (.iconst 1, 1) := by decide +kernel
theorem dX7_session_25 : decode cX7_session 25 = .ok (.isub, 1) := by decide +kernel
theorem dX7_session_26 : decode cX7_session 26 = .ok (.i2l, 1) := by decide +kernel
theorem dX7_session_27 : decode cX7_session 27 = .ok (.invokestatic 40, 3) := by decide +kernel
theorem dX7_session_30 : decode cX7_session 30 = .ok (.ifCond .eq 7, 3) := by decide +kernel
theorem dX7_session_33 : decode cX7_session 33 = .ok (.iconst 1, 1) := by decide +kernel
theorem dX7_session_34 : decode cX7_session 34 = .ok (.goto 4, 3) := by decide +kernel
theorem dX7_session_37 : decode cX7_session 37 = .ok (.iconst 0, 1) := by decide +kernel
theorem dX7_session_38 : decode cX7_session 38 = .ok (.istore 4, 2) := by decide +kernel
theorem dX7_session_40 : decode cX7_session 40 = .ok (.aload_n 0, 1) := by decide +kernel
theorem dX7_session_41 : decode cX7_session 41 = .ok (.iload 4, 2) := by decide +kernel
theorem dX7_session_43 : decode cX7_session 43 = .ok (.ifCond .ne 7, 3) := by decide +kernel
theorem dX7_session_46 : decode cX7_session 46 = .ok (.iconst 1, 1) := by decide +kernel
theorem dX7_session_47 : decode cX7_session 47 = .ok (.goto 20, 3) := by decide +kernel
theorem dX7_session_50 : decode cX7_session 50 = .ok (.iload_n 3, 1) := by decide +kernel
theorem dX7_session_51 : decode cX7_session 51 = .ok (.i2l, 1) := by decide +kernel
theorem dX7_session_52 : decode cX7_session 52 = .ok (.lconst 0, 1) := by decide +kernel
theorem dX7_session_53 : decode cX7_session 53 = .ok (.ldc2_w 201, 3) := by decide +kernel
theorem dX7_session_56 : decode cX7_session 56 = .ok (.invokestatic 40, 3) := by decide +kernel
theorem dX7_session_59 : decode cX7_session 59 = .ok (.ifCond .eq 7, 3) := by decide +kernel
theorem dX7_session_62 : decode cX7_session 62 = .ok (.iconst 0, 1) := by decide +kernel
theorem dX7_session_63 : decode cX7_session 63 = .ok (.goto 4, 3) := by decide +kernel
theorem dX7_session_66 : decode cX7_session 66 = .ok (.iconst 2, 1) := by decide +kernel
theorem dX7_session_67 : decode cX7_session 67 = .ok (.invokevirtual 129, 3) := by decide +kernel
theorem dX7_session_70 : decode cX7_session 70 = .ok (.ifCond .eq 5, 3) := by decide +kernel
theorem dX7_session_73 : decode cX7_session 73 = .ok (.iconst 0, 1) := by decide +kernel
theorem dX7_session_74 : decode cX7_session 74 = .ok (.ireturn, 1) := by decide +kernel
theorem dX7_session_75 : decode cX7_session 75 = .ok (.aload_n 0, 1) := by decide +kernel
theorem dX7_session_76 : decode cX7_session 76 = .ok (.getfield 13, 3) := by decide +kernel
theorem dX7_session_79 : decode cX7_session 79 = .ok (.iload_n 1, 1) := by decide +kernel
theorem dX7_session_80 : decode cX7_session 80 = .ok (.bipush 68, 2) := by decide +kernel
theorem dX7_session_82 : decode cX7_session 82 = .ok (.iconst 3, 1) := by decide +kernel
theorem dX7_session_83 : decode cX7_session 83 = .ok (.iload_n 2, 1) := by decide +kernel
theorem dX7_session_84 : decode cX7_session 84 = .ok (.imul, 1) := by decide +kernel
theorem dX7_session_85 : decode cX7_session 85 = .ok (.iadd, 1) := by decide +kernel
theorem dX7_session_86 : decode cX7_session 86 = .ok (.iload_n 3, 1) := by decide +kernel
theorem dX7_session_87 : decode cX7_session 87 = .ok (.iadd, 1) := by decide +kernel
theorem dX7_session_88 : decode cX7_session 88 = .ok (.invokestatic 44, 3) := by decide +kernel
theorem dX7_session_91 : decode cX7_session 91 = .ok (.ireturn, 1) := by decide +kernel
theorem dX7_note_0 : decode cX7_note 0 = .ok (.aload_n 0, 1) := by decide +kernel
theorem dX7_note_1 : decode cX7_note 1 = .ok (.iload_n 1, 1) := by decide +kernel
theorem dX7_note_2 : decode cX7_note 2 = .ok (.i2l, 1) := by decide +kernel
theorem dX7_note_3 : decode cX7_note 3 = .ok (.lconst 0, 1) := by decide +kernel
theorem dX7_note_4 : decode cX7_note 4 = .ok (.aload_n 0, 1) := by decide +kernel
theorem dX7_note_5 : decode cX7_note 5 = .ok (.getfield 13, 3) := by decide +kernel
theorem dX7_note_8 : decode cX7_note 8 = .ok (.iconst 2, 1) := by decide +kernel
theorem dX7_note_9 : decode cX7_note 9 = .ok (.iaload, 1) := by decide +kernel
theorem dX7_note_10 : decode cX7_note 10 = .ok (.iconst 1, 1) := by decide +kernel
theorem dX7_note_11 : decode cX7_note 11 = .ok (.isub, 1) := by decide +kernel
theorem dX7_note_12 : decode cX7_note 12 = .ok (.i2l, 1) := by decide +kernel
theorem dX7_note_13 : decode cX7_note 13 = .ok (.invokestatic 40, 3) := by decide +kernel
theorem dX7_note_16 : decode cX7_note 16 = .ok (.ifCond .ne 7, 3) := by decide +kernel
theorem dX7_note_19 : decode cX7_note 19 = .ok (.iconst 1, 1) := by decide +kernel
theorem dX7_note_20 : decode cX7_note 20 = .ok (.goto 20, 3) := by decide +kernel
theorem dX7_note_23 : decode cX7_note 23 = .ok (.iload_n 2, 1) := by decide +kernel
theorem dX7_note_24 : decode cX7_note 24 = .ok (.i2l, 1) := by decide +kernel
theorem dX7_note_25 : decode cX7_note 25 = .ok (.lconst 0, 1) := by decide +kernel
theorem dX7_note_26 : decode cX7_note 26 = .ok (.ldc2_w 203, 3) := by decide +kernel
theorem dX7_note_29 : decode cX7_note 29 = .ok (.invokestatic 40, 3) := by decide +kernel
theorem dX7_note_32 : decode cX7_note 32 = .ok (.ifCond .eq 7, 3) := by decide +kernel
theorem dX7_note_35 : decode cX7_note 35 = .ok (.iconst 0, 1) := by decide +kernel
theorem dX7_note_36 : decode cX7_note 36 = .ok (.goto 4, 3) := by decide +kernel
theorem dX7_note_39 : decode cX7_note 39 = .ok (.iconst 2, 1) := by decide +kernel
theorem dX7_note_40 : decode cX7_note 40 = .ok (.invokevirtual 129, 3) := by decide +kernel
theorem dX7_note_43 : decode cX7_note 43 = .ok (.ifCond .eq 5, 3) := by decide +kernel
theorem dX7_note_46 : decode cX7_note 46 = .ok (.iconst 0, 1) := by decide +kernel
theorem dX7_note_47 : decode cX7_note 47 = .ok (.ireturn, 1) := by decide +kernel
theorem dX7_note_48 : decode cX7_note 48 = .ok (.aload_n 0, 1) := by decide +kernel
theorem dX7_note_49 : decode cX7_note 49 = .ok (.getfield 13, 3) := by decide +kernel
theorem dX7_note_52 : decode cX7_note 52 = .ok (.iload_n 1, 1) := by decide +kernel
theorem dX7_note_53 : decode cX7_note 53 = .ok (.iload_n 2, 1) := by decide +kernel
theorem dX7_note_54 : decode cX7_note 54 = .ok (.iconst 5, 1) := by decide +kernel
theorem dX7_note_55 : decode cX7_note 55 = .ok (.if_icmp .ne 8, 3) := by decide +kernel
theorem dX7_note_58 : decode cX7_note 58 = .ok (.bipush 6, 2) := by decide +kernel
theorem dX7_note_60 : decode cX7_note 60 = .ok (.goto 4, 3) := by decide +kernel
theorem dX7_note_63 : decode cX7_note 63 = .ok (.iload_n 2, 1) := by decide +kernel
theorem dX7_note_64 : decode cX7_note 64 = .ok (.invokestatic 55, 3) := by decide +kernel
theorem dX7_note_67 : decode cX7_note 67 = .ok (.ireturn, 1) := by decide +kernel
theorem dX7_isCut_0 : decode cX7_isCut 0 = .ok (.aload_n 0, 1) := by decide +kernel
theorem dX7_isCut_1 : decode cX7_isCut 1 = .ok (.aload_n 0, 1) := by decide +kernel
theorem dX7_isCut_2 : decode cX7_isCut 2 = .ok (.getfield 13, 3) := by decide +kernel
theorem dX7_isCut_5 : decode cX7_isCut 5 = .ok (.iload_n 1, 1) := by decide +kernel
theorem dX7_isCut_6 : decode cX7_isCut 6 = .ok (.invokestatic 112, 3) := by decide +kernel
theorem dX7_isCut_9 : decode cX7_isCut 9 = .ok (.ifCond .eq 18, 3) := by decide +kernel
theorem dX7_isCut_12 : decode cX7_isCut 12 = .ok (.aload_n 0, 1) := by decide +kernel
theorem dX7_isCut_13 : decode cX7_isCut 13 = .ok (.getfield 13, 3) := by decide +kernel
theorem dX7_isCut_16 : decode cX7_isCut 16 = .ok (.iload_n 2, 1) := by decide +kernel
theorem dX7_isCut_17 : decode cX7_isCut 17 = .ok (.invokestatic 112, 3) := by decide +kernel
theorem dX7_isCut_20 : decode cX7_isCut 20 = .ok (.ifCond .eq 7, 3) := by decide +kernel
theorem dX7_isCut_23 : decode cX7_isCut 23 = .ok (.iconst 0, 1) := by decide +kernel
theorem dX7_isCut_24 : decode cX7_isCut 24 = .ok (.goto 4, 3) := by decide +kernel
theorem dX7_isCut_27 : decode cX7_isCut 27 = .ok (.iconst 1, 1) := by decide +kernel
theorem dX7_isCut_28 : decode cX7_isCut 28 = .ok (.invokevirtual 129, 3) := by decide +kernel
theorem dX7_isCut_31 : decode cX7_isCut 31 = .ok (.ifCond .eq 5, 3) := by decide +kernel
theorem dX7_isCut_34 : decode cX7_isCut 34 = .ok (.iconst 0, 1) := by decide +kernel
theorem dX7_isCut_35 : decode cX7_isCut 35 = .ok (.ireturn, 1) := by decide +kernel
theorem dX7_isCut_36 : decode cX7_isCut 36 = .ok (.aload_n 0, 1) := by decide +kernel
theorem dX7_isCut_37 : decode cX7_isCut 37 = .ok (.getfield 13, 3) := by decide +kernel
theorem dX7_isCut_40 : decode cX7_isCut 40 = .ok (.bipush 8, 2) := by decide +kernel
theorem dX7_isCut_42 : decode cX7_isCut 42 = .ok (.iload_n 1, 1) := by decide +kernel
theorem dX7_isCut_43 : decode cX7_isCut 43 = .ok (.iadd, 1) := by decide +kernel
theorem dX7_isCut_44 : decode cX7_isCut 44 = .ok (.iaload, 1) := by decide +kernel
theorem dX7_isCut_45 : decode cX7_isCut 45 = .ok (.iload_n 2, 1) := by decide +kernel
theorem dX7_isCut_46 : decode cX7_isCut 46 = .ok (.invokestatic 48, 3) := by decide +kernel
theorem dX7_isCut_49 : decode cX7_isCut 49 = .ok (.ifCond .eq 7, 3) := by decide +kernel
theorem dX7_isCut_52 : decode cX7_isCut 52 = .ok (.iconst 1, 1) := by decide +kernel
theorem dX7_isCut_53 : decode cX7_isCut 53 = .ok (.goto 4, 3) := by decide +kernel
theorem dX7_isCut_56 : decode cX7_isCut 56 = .ok (.iconst 0, 1) := by decide +kernel
theorem dX7_isCut_57 : decode cX7_isCut 57 = .ok (.ireturn, 1) := by decide +kernel
theorem dX7_remember_0 : decode cX7_remember 0 = .ok (.aload_n 0, 1) := by decide +kernel
theorem dX7_remember_1 : decode cX7_remember 1 = .ok (.getfield 193, 3) := by decide +kernel
theorem dX7_remember_4 : decode cX7_remember 4 = .ok (.bipush 14, 2) := by decide +kernel
theorem dX7_remember_6 : decode cX7_remember 6 = .ok (.if_icmp .ne 44, 3) := by decide +kernel
theorem dX7_remember_9 : decode cX7_remember 9 = .ok (.iconst 0, 1) := by decide +kernel
theorem dX7_remember_10 : decode cX7_remember 10 = .ok (.istore_n 1, 1) := by decide +kernel
theorem dX7_remember_11 : decode cX7_remember 11 = .ok (.iload_n 1, 1) := by decide +kernel
theorem dX7_remember_12 : decode cX7_remember 12 = .ok (.sipush 26156, 3) := by decide +kernel
theorem dX7_remember_15 : decode cX7_remember 15 = .ok (.if_icmp .ge 25, 3) := by decide +kernel
theorem dX7_remember_18 : decode cX7_remember 18 = .ok (.aload_n 0, 1) := by decide +kernel
theorem dX7_remember_19 : decode cX7_remember 19 = .ok (.getfield 19, 3) := by decide +kernel
theorem dX7_remember_22 : decode cX7_remember 22 = .ok (.iload_n 1, 1) := by decide +kernel
theorem dX7_remember_23 : decode cX7_remember 23 = .ok (.aload_n 0, 1) := by decide +kernel
theorem dX7_remember_24 : decode cX7_remember 24 = .ok (.getfield 19, 3) := by decide +kernel
theorem dX7_remember_27 : decode cX7_remember 27 = .ok (.iload_n 1, 1) := by decide +kernel
theorem dX7_remember_28 : decode cX7_remember 28 = .ok (.sipush 2012, 3) := by decide +kernel
theorem dX7_remember_31 : decode cX7_remember 31 = .ok (.iadd, 1) := by decide +kernel
theorem dX7_remember_32 : decode cX7_remember 32 = .ok (.iaload, 1) := by decide +kernel
theorem dX7_remember_33 : decode cX7_remember 33 = .ok (.iastore, 1) := by decide +kernel
theorem dX7_remember_34 : decode cX7_remember 34 = .ok (.iinc 1 1, 3) := by decide +kernel
theorem dX7_remember_37 : decode cX7_remember 37 = .ok (.goto (-26), 3) := by decide +kernel
theorem dX7_remember_40 : decode cX7_remember 40 = .ok (.aload_n 0, 1) := by decide +kernel
theorem dX7_remember_41 : decode cX7_remember 41 = .ok (.dup, 1) := by decide +kernel
theorem dX7_remember_42 : decode cX7_remember 42 = .ok (.getfield 193, 3) := by decide +kernel
theorem dX7_remember_45 : decode cX7_remember 45 = .ok (.iconst 1, 1) := by decide +kernel
theorem dX7_remember_46 : decode cX7_remember 46 = .ok (.isub, 1) := by decide +kernel
theorem dX7_remember_47 : decode cX7_remember 47 = .ok (.putfield 193, 3) := by decide +kernel
theorem dX7_remember_50 : decode cX7_remember 50 = .ok (.aload_n 0, 1) := by decide +kernel
theorem dX7_remember_51 : decode cX7_remember 51 = .ok (.getfield 13, 3) := by decide +kernel
theorem dX7_remember_54 : decode cX7_remember 54 = .ok (.iconst 0, 1) := by decide +kernel
theorem dX7_remember_55 : decode cX7_remember 55 = .ok (.aload_n 0, 1) := by decide +kernel
theorem dX7_remember_56 : decode cX7_remember 56 = .ok (.getfield 19, 3) := by decide +kernel
theorem dX7_remember_59 : decode cX7_remember 59 = .ok (.sipush 2012, 3) := by decide +kernel
theorem dX7_remember_62 : decode cX7_remember 62 = .ok (.aload_n 0, 1) := by decide +kernel
theorem dX7_remember_63 : decode cX7_remember 63 = .ok (.getfield 193, 3) := by decide +kernel
theorem dX7_remember_66 : decode cX7_remember 66 = .ok (.imul, 1) := by decide +kernel
theorem dX7_remember_67 : decode cX7_remember 67 = .ok (.invokestatic 189, 3) := by decide +kernel
theorem dX7_remember_70 : decode cX7_remember 70 = .ok (.aload_n 0, 1) := by decide +kernel
theorem dX7_remember_71 : decode cX7_remember 71 = .ok (.dup, 1) := by decide +kernel
theorem dX7_remember_72 : decode cX7_remember 72 = .ok (.getfield 193, 3) := by decide +kernel
theorem dX7_remember_75 : decode cX7_remember 75 = .ok (.iconst 1, 1) := by decide +kernel
theorem dX7_remember_76 : decode cX7_remember 76 = .ok (.iadd, 1) := by decide +kernel
theorem dX7_remember_77 : decode cX7_remember 77 = .ok (.putfield 193, 3) := by decide +kernel
theorem dX7_remember_80 : decode cX7_remember 80 = .ok (.return_, 1) := by decide +kernel
theorem dX7_member_0 : decode cX7_member 0 = .ok (.aload_n 0, 1) := by decide +kernel
theorem dX7_member_1 : decode cX7_member 1 = .ok (.iload_n 1, 1) := by decide +kernel
theorem dX7_member_2 : decode cX7_member 2 = .ok (.i2l, 1) := by decide +kernel
theorem dX7_member_3 : decode cX7_member 3 = .ok (.lconst 0, 1) := by decide +kernel
theorem dX7_member_4 : decode cX7_member 4 = .ok (.ldc2_w 136, 3) := by decide +kernel
theorem dX7_member_7 : decode cX7_member 7 = .ok (.invokestatic 40, 3) := by decide +kernel
theorem dX7_member_10 : decode cX7_member 10 = .ok (.ifCond .ne 7, 3) := by decide +kernel
theorem dX7_member_13 : decode cX7_member 13 = .ok (.iconst 1, 1) := by decide +kernel
theorem dX7_member_14 : decode cX7_member 14 = .ok (.goto 19, 3) := by decide +kernel
theorem dX7_member_17 : decode cX7_member 17 = .ok (.aload_n 0, 1) := by decide +kernel
theorem dX7_member_18 : decode cX7_member 18 = .ok (.getfield 13, 3) := by decide +kernel
theorem dX7_member_21 : decode cX7_member 21 = .ok (.iconst 0, 1) := by decide +kernel
theorem dX7_member_22 : decode cX7_member 22 = .ok (.iaload, 1) := by decide +kernel
theorem dX7_member_23 : decode cX7_member 23 = .ok (.bipush 6, 2) := by decide +kernel
theorem dX7_member_25 : decode cX7_member 25 = .ok (.if_icmp .ge 7, 3) := by decide +kernel
theorem dX7_member_28 : decode cX7_member 28 = .ok (.iconst 0, 1) := by decide +kernel
theorem dX7_member_29 : decode cX7_member 29 = .ok (.goto 4, 3) := by decide +kernel
theorem dX7_member_32 : decode cX7_member 32 = .ok (.iconst 2, 1) := by decide +kernel
theorem dX7_member_33 : decode cX7_member 33 = .ok (.invokevirtual 129, 3) := by decide +kernel
theorem dX7_member_36 : decode cX7_member 36 = .ok (.ifCond .eq 5, 3) := by decide +kernel
theorem dX7_member_39 : decode cX7_member 39 = .ok (.iconst 0, 1) := by decide +kernel
theorem dX7_member_40 : decode cX7_member 40 = .ok (.ireturn, 1) := by decide +kernel
theorem dX7_member_41 : decode cX7_member 41 = .ok (.aload_n 0, 1) := by decide +kernel
theorem dX7_member_42 : decode cX7_member 42 = .ok (.invokevirtual 205, 3) := by decide +kernel
theorem dX7_member_45 : decode cX7_member 45 = .ok (.aload_n 0, 1) := by decide +kernel
theorem dX7_member_46 : decode cX7_member 46 = .ok (.getfield 13, 3) := by decide +kernel
theorem dX7_member_49 : decode cX7_member 49 = .ok (.iload_n 1, 1) := by decide +kernel
theorem dX7_member_50 : decode cX7_member 50 = .ok (.invokestatic 145, 3) := by decide +kernel
theorem dX7_member_53 : decode cX7_member 53 = .ok (.ireturn, 1) := by decide +kernel
theorem dX7_say_0 : decode cX7_say 0 = .ok (.aload_n 0, 1) := by decide +kernel
theorem dX7_say_1 : decode cX7_say 1 = .ok (.aload_n 0, 1) := by decide +kernel
theorem dX7_say_2 : decode cX7_say 2 = .ok (.getfield 13, 3) := by decide +kernel
theorem dX7_say_5 : decode cX7_say 5 = .ok (.iload_n 1, 1) := by decide +kernel
theorem dX7_say_6 : decode cX7_say 6 = .ok (.invokestatic 112, 3) := by decide +kernel
theorem dX7_say_9 : decode cX7_say 9 = .ok (.ifCond .ne 7, 3) := by decide +kernel
theorem dX7_say_12 : decode cX7_say 12 = .ok (.iconst 1, 1) := by decide +kernel
theorem dX7_say_13 : decode cX7_say 13 = .ok (.goto 19, 3) := by decide +kernel
theorem dX7_say_16 : decode cX7_say 16 = .ok (.aload_n 0, 1) := by decide +kernel
theorem dX7_say_17 : decode cX7_say 17 = .ok (.getfield 13, 3) := by decide +kernel
theorem dX7_say_20 : decode cX7_say 20 = .ok (.iload_n 1, 1) := by decide +kernel
theorem dX7_say_21 : decode cX7_say 21 = .ok (.invokestatic 156, 3) := by decide +kernel
theorem dX7_say_24 : decode cX7_say 24 = .ok (.ifCond .eq 7, 3) := by decide +kernel
theorem dX7_say_27 : decode cX7_say 27 = .ok (.iconst 0, 1) := by decide +kernel
theorem dX7_say_28 : decode cX7_say 28 = .ok (.goto 4, 3) := by decide +kernel
theorem dX7_say_31 : decode cX7_say 31 = .ok (.iconst 2, 1) := by decide +kernel
theorem dX7_say_32 : decode cX7_say 32 = .ok (.invokevirtual 129, 3) := by decide +kernel
theorem dX7_say_35 : decode cX7_say 35 = .ok (.ifCond .eq 5, 3) := by decide +kernel
theorem dX7_say_38 : decode cX7_say 38 = .ok (.iconst 0, 1) := by decide +kernel
theorem dX7_say_39 : decode cX7_say 39 = .ok (.ireturn, 1) := by decide +kernel
theorem dX7_say_40 : decode cX7_say 40 = .ok (.aload_n 0, 1) := by decide +kernel
theorem dX7_say_41 : decode cX7_say 41 = .ok (.invokevirtual 205, 3) := by decide +kernel
theorem dX7_say_44 : decode cX7_say 44 = .ok (.aload_n 0, 1) := by decide +kernel
theorem dX7_say_45 : decode cX7_say 45 = .ok (.getfield 13, 3) := by decide +kernel
theorem dX7_say_48 : decode cX7_say 48 = .ok (.iload_n 1, 1) := by decide +kernel
theorem dX7_say_49 : decode cX7_say 49 = .ok (.invokestatic 159, 3) := by decide +kernel
theorem dX7_say_52 : decode cX7_say 52 = .ok (.ireturn, 1) := by decide +kernel
theorem dX7_call_0 : decode cX7_call 0 = .ok (.aload_n 0, 1) := by decide +kernel
theorem dX7_call_1 : decode cX7_call 1 = .ok (.aload_n 0, 1) := by decide +kernel
theorem dX7_call_2 : decode cX7_call 2 = .ok (.getfield 13, 3) := by decide +kernel
theorem dX7_call_5 : decode cX7_call 5 = .ok (.iload_n 1, 1) := by decide +kernel
theorem dX7_call_6 : decode cX7_call 6 = .ok (.invokestatic 112, 3) := by decide +kernel
theorem dX7_call_9 : decode cX7_call 9 = .ok (.ifCond .ne 7, 3) := by decide +kernel
theorem dX7_call_12 : decode cX7_call 12 = .ok (.iconst 1, 1) := by decide +kernel
theorem dX7_call_13 : decode cX7_call 13 = .ok (.goto 37, 3) := by decide +kernel
theorem dX7_call_16 : decode cX7_call 16 = .ok (.aload_n 0, 1) := by decide +kernel
theorem dX7_call_17 : decode cX7_call 17 = .ok (.getfield 13, 3) := by decide +kernel
theorem dX7_call_20 : decode cX7_call 20 = .ok (.iload_n 1, 1) := by decide +kernel
theorem dX7_call_21 : decode cX7_call 21 = .ok (.iload_n 2, 1) := by decide +kernel
theorem dX7_call_22 : decode cX7_call 22 = .ok (.invokestatic 116, 3) := by decide +kernel
theorem dX7_call_25 : decode cX7_call 25 = .ok (.ifCond .ne 7, 3) := by decide +kernel
theorem dX7_call_28 : decode cX7_call 28 = .ok (.iconst 2, 1) := by decide +kernel
theorem dX7_call_29 : decode cX7_call 29 = .ok (.goto 21, 3) := by decide +kernel
theorem dX7_call_32 : decode cX7_call 32 = .ok (.aload_n 0, 1) := by decide +kernel
theorem dX7_call_33 : decode cX7_call 33 = .ok (.getfield 13, 3) := by decide +kernel
theorem dX7_call_36 : decode cX7_call 36 = .ok (.iload_n 1, 1) := by decide +kernel
theorem dX7_call_37 : decode cX7_call 37 = .ok (.iconst 1, 1) := by decide +kernel
theorem dX7_call_38 : decode cX7_call 38 = .ok (.invokestatic 44, 3) := by decide +kernel
theorem dX7_call_41 : decode cX7_call 41 = .ok (.iconst 2, 1) := by decide +kernel
theorem dX7_call_42 : decode cX7_call 42 = .ok (.if_icmp .ne 7, 3) := by decide +kernel
theorem dX7_call_45 : decode cX7_call 45 = .ok (.iconst 3, 1) := by decide +kernel
theorem dX7_call_46 : decode cX7_call 46 = .ok (.goto 4, 3) := by decide +kernel
theorem dX7_call_49 : decode cX7_call 49 = .ok (.iconst 0, 1) := by decide +kernel
theorem dX7_call_50 : decode cX7_call 50 = .ok (.invokevirtual 129, 3) := by decide +kernel
theorem dX7_call_53 : decode cX7_call 53 = .ok (.ifCond .eq 5, 3) := by decide +kernel
theorem dX7_call_56 : decode cX7_call 56 = .ok (.iconst 0, 1) := by decide +kernel
theorem dX7_call_57 : decode cX7_call 57 = .ok (.ireturn, 1) := by decide +kernel
theorem dX7_call_58 : decode cX7_call 58 = .ok (.aload_n 0, 1) := by decide +kernel
theorem dX7_call_59 : decode cX7_call 59 = .ok (.invokevirtual 205, 3) := by decide +kernel
theorem dX7_call_62 : decode cX7_call 62 = .ok (.aload_n 0, 1) := by decide +kernel
theorem dX7_call_63 : decode cX7_call 63 = .ok (.getfield 13, 3) := by decide +kernel
theorem dX7_call_66 : decode cX7_call 66 = .ok (.iload_n 1, 1) := by decide +kernel
theorem dX7_call_67 : decode cX7_call 67 = .ok (.iload_n 2, 1) := by decide +kernel
theorem dX7_call_68 : decode cX7_call 68 = .ok (.invokestatic 106, 3) := by decide +kernel
theorem dX7_call_71 : decode cX7_call 71 = .ok (.ireturn, 1) := by decide +kernel
theorem dX7_cut_0 : decode cX7_cut 0 = .ok (.aload_n 0, 1) := by decide +kernel
theorem dX7_cut_1 : decode cX7_cut 1 = .ok (.aload_n 0, 1) := by decide +kernel
theorem dX7_cut_2 : decode cX7_cut 2 = .ok (.getfield 13, 3) := by decide +kernel
theorem dX7_cut_5 : decode cX7_cut 5 = .ok (.iload_n 1, 1) := by decide +kernel
theorem dX7_cut_6 : decode cX7_cut 6 = .ok (.invokestatic 112, 3) := by decide +kernel
theorem dX7_cut_9 : decode cX7_cut 9 = .ok (.ifCond .eq 14, 3) := by decide +kernel
theorem dX7_cut_12 : decode cX7_cut 12 = .ok (.aload_n 0, 1) := by decide +kernel
theorem dX7_cut_13 : decode cX7_cut 13 = .ok (.getfield 13, 3) := by decide +kernel
theorem dX7_cut_16 : decode cX7_cut 16 = .ok (.iload_n 2, 1) := by decide +kernel
theorem dX7_cut_17 : decode cX7_cut 17 = .ok (.invokestatic 112, 3) := by decide +kernel
theorem dX7_cut_20 : decode cX7_cut 20 = .ok (.ifCond .ne 7, 3) := by decide +kernel
theorem dX7_cut_23 : decode cX7_cut 23 = .ok (.iconst 1, 1) := by decide +kernel
theorem dX7_cut_24 : decode cX7_cut 24 = .ok (.goto 13, 3) := by decide +kernel
theorem dX7_cut_27 : decode cX7_cut 27 = .ok (.iload_n 1, 1) := by decide +kernel
theorem dX7_cut_28 : decode cX7_cut 28 = .ok (.iload_n 2, 1) := by decide +kernel
theorem dX7_cut_29 : decode cX7_cut 29 = .ok (.if_icmp .ne 7, 3) := by decide +kernel
theorem dX7_cut_32 : decode cX7_cut 32 = .ok (.iconst 2, 1) := by decide +kernel
theorem dX7_cut_33 : decode cX7_cut 33 = .ok (.goto 4, 3) := by decide +kernel
theorem dX7_cut_36 : decode cX7_cut 36 = .ok (.iconst 0, 1) := by decide +kernel
theorem dX7_cut_37 : decode cX7_cut 37 = .ok (.invokevirtual 129, 3) := by decide +kernel
theorem dX7_cut_40 : decode cX7_cut 40 = .ok (.ifCond .eq 5, 3) := by decide +kernel
theorem dX7_cut_43 : decode cX7_cut 43 = .ok (.iconst 0, 1) := by decide +kernel
theorem dX7_cut_44 : decode cX7_cut 44 = .ok (.ireturn, 1) := by decide +kernel
theorem dX7_cut_45 : decode cX7_cut 45 = .ok (.aload_n 0, 1) := by decide +kernel
theorem dX7_cut_46 : decode cX7_cut 46 = .ok (.invokevirtual 205, 3) := by decide +kernel
theorem dX7_cut_49 : decode cX7_cut 49 = .ok (.aload_n 0, 1) := by decide +kernel
theorem dX7_cut_50 : decode cX7_cut 50 = .ok (.getfield 13, 3) := by decide +kernel
theorem dX7_cut_53 : decode cX7_cut 53 = .ok (.iload_n 1, 1) := by decide +kernel
theorem dX7_cut_54 : decode cX7_cut 54 = .ok (.iload_n 2, 1) := by decide +kernel
theorem dX7_cut_55 : decode cX7_cut 55 = .ok (.iload_n 3, 1) := by decide +kernel
theorem dX7_cut_56 : decode cX7_cut 56 = .ok (.invokestatic 165, 3) := by decide +kernel
theorem dX7_cut_59 : decode cX7_cut 59 = .ok (.ireturn, 1) := by decide +kernel
theorem dX7_leave_0 : decode cX7_leave 0 = .ok (.aload_n 0, 1) := by decide +kernel
theorem dX7_leave_1 : decode cX7_leave 1 = .ok (.aload_n 0, 1) := by decide +kernel
theorem dX7_leave_2 : decode cX7_leave 2 = .ok (.getfield 13, 3) := by decide +kernel
theorem dX7_leave_5 : decode cX7_leave 5 = .ok (.iload_n 1, 1) := by decide +kernel
theorem dX7_leave_6 : decode cX7_leave 6 = .ok (.invokestatic 112, 3) := by decide +kernel
theorem dX7_leave_9 : decode cX7_leave 9 = .ok (.ifCond .ne 7, 3) := by decide +kernel
theorem dX7_leave_12 : decode cX7_leave 12 = .ok (.iconst 1, 1) := by decide +kernel
theorem dX7_leave_13 : decode cX7_leave 13 = .ok (.goto 19, 3) := by decide +kernel
theorem dX7_leave_16 : decode cX7_leave 16 = .ok (.aload_n 0, 1) := by decide +kernel
theorem dX7_leave_17 : decode cX7_leave 17 = .ok (.getfield 13, 3) := by decide +kernel
theorem dX7_leave_20 : decode cX7_leave 20 = .ok (.iload_n 1, 1) := by decide +kernel
theorem dX7_leave_21 : decode cX7_leave 21 = .ok (.invokestatic 169, 3) := by decide +kernel
theorem dX7_leave_24 : decode cX7_leave 24 = .ok (.ifCond .eq 7, 3) := by decide +kernel
theorem dX7_leave_27 : decode cX7_leave 27 = .ok (.iconst 2, 1) := by decide +kernel
theorem dX7_leave_28 : decode cX7_leave 28 = .ok (.goto 4, 3) := by decide +kernel
theorem dX7_leave_31 : decode cX7_leave 31 = .ok (.iconst 0, 1) := by decide +kernel
theorem dX7_leave_32 : decode cX7_leave 32 = .ok (.invokevirtual 129, 3) := by decide +kernel
theorem dX7_leave_35 : decode cX7_leave 35 = .ok (.ifCond .eq 5, 3) := by decide +kernel
theorem dX7_leave_38 : decode cX7_leave 38 = .ok (.iconst 0, 1) := by decide +kernel
theorem dX7_leave_39 : decode cX7_leave 39 = .ok (.ireturn, 1) := by decide +kernel
theorem dX7_leave_40 : decode cX7_leave 40 = .ok (.aload_n 0, 1) := by decide +kernel
theorem dX7_leave_41 : decode cX7_leave 41 = .ok (.invokevirtual 205, 3) := by decide +kernel
theorem dX7_leave_44 : decode cX7_leave 44 = .ok (.aload_n 0, 1) := by decide +kernel
theorem dX7_leave_45 : decode cX7_leave 45 = .ok (.getfield 13, 3) := by decide +kernel
theorem dX7_leave_48 : decode cX7_leave 48 = .ok (.iload_n 1, 1) := by decide +kernel
theorem dX7_leave_49 : decode cX7_leave 49 = .ok (.invokestatic 172, 3) := by decide +kernel
theorem dX7_leave_52 : decode cX7_leave 52 = .ok (.ireturn, 1) := by decide +kernel
theorem dX7_back_0 : decode cX7_back 0 = .ok (.aload_n 0, 1) := by decide +kernel
theorem dX7_back_1 : decode cX7_back 1 = .ok (.aload_n 0, 1) := by decide +kernel
theorem dX7_back_2 : decode cX7_back 2 = .ok (.getfield 13, 3) := by decide +kernel
theorem dX7_back_5 : decode cX7_back 5 = .ok (.iload_n 1, 1) := by decide +kernel
theorem dX7_back_6 : decode cX7_back 6 = .ok (.invokestatic 112, 3) := by decide +kernel
theorem dX7_back_9 : decode cX7_back 9 = .ok (.ifCond .ne 7, 3) := by decide +kernel
theorem dX7_back_12 : decode cX7_back 12 = .ok (.iconst 1, 1) := by decide +kernel
theorem dX7_back_13 : decode cX7_back 13 = .ok (.goto 19, 3) := by decide +kernel
theorem dX7_back_16 : decode cX7_back 16 = .ok (.aload_n 0, 1) := by decide +kernel
theorem dX7_back_17 : decode cX7_back 17 = .ok (.getfield 13, 3) := by decide +kernel
theorem dX7_back_20 : decode cX7_back 20 = .ok (.iload_n 1, 1) := by decide +kernel
theorem dX7_back_21 : decode cX7_back 21 = .ok (.invokestatic 169, 3) := by decide +kernel
theorem dX7_back_24 : decode cX7_back 24 = .ok (.ifCond .eq 7, 3) := by decide +kernel
theorem dX7_back_27 : decode cX7_back 27 = .ok (.iconst 0, 1) := by decide +kernel
theorem dX7_back_28 : decode cX7_back 28 = .ok (.goto 4, 3) := by decide +kernel
theorem dX7_back_31 : decode cX7_back 31 = .ok (.iconst 2, 1) := by decide +kernel
theorem dX7_back_32 : decode cX7_back 32 = .ok (.invokevirtual 129, 3) := by decide +kernel
theorem dX7_back_35 : decode cX7_back 35 = .ok (.ifCond .eq 5, 3) := by decide +kernel
theorem dX7_back_38 : decode cX7_back 38 = .ok (.iconst 0, 1) := by decide +kernel
theorem dX7_back_39 : decode cX7_back 39 = .ok (.ireturn, 1) := by decide +kernel
theorem dX7_back_40 : decode cX7_back 40 = .ok (.aload_n 0, 1) := by decide +kernel
theorem dX7_back_41 : decode cX7_back 41 = .ok (.invokevirtual 205, 3) := by decide +kernel
theorem dX7_back_44 : decode cX7_back 44 = .ok (.aload_n 0, 1) := by decide +kernel
theorem dX7_back_45 : decode cX7_back 45 = .ok (.getfield 13, 3) := by decide +kernel
theorem dX7_back_48 : decode cX7_back 48 = .ok (.iload_n 1, 1) := by decide +kernel
theorem dX7_back_49 : decode cX7_back 49 = .ok (.invokestatic 175, 3) := by decide +kernel
theorem dX7_back_52 : decode cX7_back 52 = .ok (.ireturn, 1) := by decide +kernel
theorem dX7_set_0 : decode cX7_set 0 = .ok (.aload_n 0, 1) := by decide +kernel
theorem dX7_set_1 : decode cX7_set 1 = .ok (.iload_n 1, 1) := by decide +kernel
theorem dX7_set_2 : decode cX7_set 2 = .ok (.i2l, 1) := by decide +kernel
theorem dX7_set_3 : decode cX7_set 3 = .ok (.lconst 0, 1) := by decide +kernel
theorem dX7_set_4 : decode cX7_set 4 = .ok (.ldc2_w 208, 3) := by decide +kernel
theorem dX7_set_7 : decode cX7_set 7 = .ok (.invokestatic 40, 3) := by decide +kernel
theorem dX7_set_10 : decode cX7_set 10 = .ok (.ifCond .eq 7, 3) := by decide +kernel
theorem dX7_set_13 : decode cX7_set 13 = .ok (.iconst 0, 1) := by decide +kernel
theorem dX7_set_14 : decode cX7_set 14 = .ok (.goto 4, 3) := by decide +kernel
theorem dX7_set_17 : decode cX7_set 17 = .ok (.iconst 1, 1) := by decide +kernel
theorem dX7_set_18 : decode cX7_set 18 = .ok (.invokevirtual 129, 3) := by decide +kernel
theorem dX7_set_21 : decode cX7_set 21 = .ok (.ifCond .eq 5, 3) := by decide +kernel
theorem dX7_set_24 : decode cX7_set 24 = .ok (.iconst 0, 1) := by decide +kernel
theorem dX7_set_25 : decode cX7_set 25 = .ok (.ireturn, 1) := by decide +kernel
theorem dX7_set_26 : decode cX7_set 26 = .ok (.aload_n 0, 1) := by decide +kernel
theorem dX7_set_27 : decode cX7_set 27 = .ok (.invokevirtual 205, 3) := by decide +kernel
theorem dX7_set_30 : decode cX7_set 30 = .ok (.aload_n 0, 1) := by decide +kernel
theorem dX7_set_31 : decode cX7_set 31 = .ok (.getfield 13, 3) := by decide +kernel
theorem dX7_set_34 : decode cX7_set 34 = .ok (.bipush 7, 2) := by decide +kernel
theorem dX7_set_36 : decode cX7_set 36 = .ok (.iaload, 1) := by decide +kernel
theorem dX7_set_37 : decode cX7_set 37 = .ok (.istore_n 2, 1) := by decide +kernel
theorem dX7_set_38 : decode cX7_set 38 = .ok (.aload_n 0, 1) := by decide +kernel
theorem dX7_set_39 : decode cX7_set 39 = .ok (.getfield 13, 3) := by decide +kernel
theorem dX7_set_42 : decode cX7_set 42 = .ok (.bipush 7, 2) := by decide +kernel
theorem dX7_set_44 : decode cX7_set 44 = .ok (.iload_n 1, 1) := by decide +kernel
theorem dX7_set_45 : decode cX7_set 45 = .ok (.iastore, 1) := by decide +kernel
theorem dX7_set_46 : decode cX7_set 46 = .ok (.iload_n 2, 1) := by decide +kernel
theorem dX7_set_47 : decode cX7_set 47 = .ok (.ireturn, 1) := by decide +kernel
theorem dX7_ticks_0 : decode cX7_ticks 0 = .ok (.aload_n 0, 1) := by decide +kernel
theorem dX7_ticks_1 : decode cX7_ticks 1 = .ok (.iload_n 1, 1) := by decide +kernel
theorem dX7_ticks_2 : decode cX7_ticks 2 = .ok (.i2l, 1) := by decide +kernel
theorem dX7_ticks_3 : decode cX7_ticks 3 = .ok (.lconst 1, 1) := by decide +kernel
theorem dX7_ticks_4 : decode cX7_ticks 4 = .ok (.ldc2_w 210, 3) := by decide +kernel
theorem dX7_ticks_7 : decode cX7_ticks 7 = .ok (.invokestatic 40, 3) := by decide +kernel
theorem dX7_ticks_10 : decode cX7_ticks 10 = .ok (.ifCond .eq 7, 3) := by decide +kernel
theorem dX7_ticks_13 : decode cX7_ticks 13 = .ok (.iconst 0, 1) := by decide +kernel
theorem dX7_ticks_14 : decode cX7_ticks 14 = .ok (.goto 4, 3) := by decide +kernel
theorem dX7_ticks_17 : decode cX7_ticks 17 = .ok (.iconst 1, 1) := by decide +kernel
theorem dX7_ticks_18 : decode cX7_ticks 18 = .ok (.invokevirtual 129, 3) := by decide +kernel
theorem dX7_ticks_21 : decode cX7_ticks 21 = .ok (.ifCond .eq 5, 3) := by decide +kernel
theorem dX7_ticks_24 : decode cX7_ticks 24 = .ok (.iconst 0, 1) := by decide +kernel
theorem dX7_ticks_25 : decode cX7_ticks 25 = .ok (.ireturn, 1) := by decide +kernel
theorem dX7_ticks_26 : decode cX7_ticks 26 = .ok (.aload_n 0, 1) := by decide +kernel
theorem dX7_ticks_27 : decode cX7_ticks 27 = .ok (.invokevirtual 205, 3) := by decide +kernel
theorem dX7_ticks_30 : decode cX7_ticks 30 = .ok (.aload_n 0, 1) := by decide +kernel
theorem dX7_ticks_31 : decode cX7_ticks 31 = .ok (.aload_n 0, 1) := by decide +kernel
theorem dX7_ticks_32 : decode cX7_ticks 32 = .ok (.getfield 13, 3) := by decide +kernel
theorem dX7_ticks_35 : decode cX7_ticks 35 = .ok (.iload_n 1, 1) := by decide +kernel
theorem dX7_ticks_36 : decode cX7_ticks 36 = .ok (.invokevirtual 178, 3) := by decide +kernel
theorem dX7_ticks_39 : decode cX7_ticks 39 = .ok (.ireturn, 1) := by decide +kernel
theorem dX7_undo_0 : decode cX7_undo 0 = .ok (.aload_n 0, 1) := by decide +kernel
theorem dX7_undo_1 : decode cX7_undo 1 = .ok (.aload_n 0, 1) := by decide +kernel
theorem dX7_undo_2 : decode cX7_undo 2 = .ok (.getfield 193, 3) := by decide +kernel
theorem dX7_undo_5 : decode cX7_undo 5 = .ok (.ifCond .ne 7, 3) := by decide +kernel
theorem dX7_undo_8 : decode cX7_undo 8 = .ok (.iconst 1, 1) := by decide +kernel
theorem dX7_undo_9 : decode cX7_undo 9 = .ok (.goto 4, 3) := by decide +kernel
theorem dX7_undo_12 : decode cX7_undo 12 = .ok (.iconst 0, 1) := by decide +kernel
theorem dX7_undo_13 : decode cX7_undo 13 = .ok (.invokevirtual 129, 3) := by decide +kernel
theorem dX7_undo_16 : decode cX7_undo 16 = .ok (.ifCond .eq 5, 3) := by decide +kernel
theorem dX7_undo_19 : decode cX7_undo 19 = .ok (.iconst 0, 1) := by decide +kernel
theorem dX7_undo_20 : decode cX7_undo 20 = .ok (.ireturn, 1) := by decide +kernel
theorem dX7_undo_21 : decode cX7_undo 21 = .ok (.aload_n 0, 1) := by decide +kernel
theorem dX7_undo_22 : decode cX7_undo 22 = .ok (.dup, 1) := by decide +kernel
theorem dX7_undo_23 : decode cX7_undo 23 = .ok (.getfield 193, 3) := by decide +kernel
theorem dX7_undo_26 : decode cX7_undo 26 = .ok (.iconst 1, 1) := by decide +kernel
theorem dX7_undo_27 : decode cX7_undo 27 = .ok (.isub, 1) := by decide +kernel
theorem dX7_undo_28 : decode cX7_undo 28 = .ok (.putfield 193, 3) := by decide +kernel
theorem dX7_undo_31 : decode cX7_undo 31 = .ok (.aload_n 0, 1) := by decide +kernel
theorem dX7_undo_32 : decode cX7_undo 32 = .ok (.getfield 19, 3) := by decide +kernel
theorem dX7_undo_35 : decode cX7_undo 35 = .ok (.sipush 2012, 3) := by decide +kernel
theorem dX7_undo_38 : decode cX7_undo 38 = .ok (.aload_n 0, 1) := by decide +kernel
theorem dX7_undo_39 : decode cX7_undo 39 = .ok (.getfield 193, 3) := by decide +kernel
theorem dX7_undo_42 : decode cX7_undo 42 = .ok (.imul, 1) := by decide +kernel
theorem dX7_undo_43 : decode cX7_undo 43 = .ok (.aload_n 0, 1) := by decide +kernel
theorem dX7_undo_44 : decode cX7_undo 44 = .ok (.getfield 13, 3) := by decide +kernel
theorem dX7_undo_47 : decode cX7_undo 47 = .ok (.iconst 0, 1) := by decide +kernel
theorem dX7_undo_48 : decode cX7_undo 48 = .ok (.invokestatic 189, 3) := by decide +kernel
theorem dX7_undo_51 : decode cX7_undo 51 = .ok (.aload_n 0, 1) := by decide +kernel
theorem dX7_undo_52 : decode cX7_undo 52 = .ok (.getfield 193, 3) := by decide +kernel
theorem dX7_undo_55 : decode cX7_undo 55 = .ok (.ireturn, 1) := by decide +kernel
theorem dX7_isThere_0 : decode cX7_isThere 0 = .ok (.iconst 1, 1) := by decide +kernel
theorem dX7_isThere_1 : decode cX7_isThere 1 = .ok (.istore 5, 2) := by decide +kernel
theorem dX7_isThere_3 : decode cX7_isThere 3 = .ok (.iconst 0, 1) := by decide +kernel
theorem dX7_isThere_4 : decode cX7_isThere 4 = .ok (.istore 6, 2) := by decide +kernel
theorem dX7_isThere_6 : decode cX7_isThere 6 = .ok (.iload 6, 2) := by decide +kernel
theorem dX7_isThere_8 : decode cX7_isThere 8 = .ok (.aload_n 0, 1) := by decide +kernel
theorem dX7_isThere_9 : decode cX7_isThere 9 = .ok (.getfield 16, 3) := by decide +kernel
theorem dX7_isThere_12 : decode cX7_isThere 12 = .ok (.iconst 0, 1) := by decide +kernel
theorem dX7_isThere_13 : decode cX7_isThere 13 = .ok (.iaload, 1) := by decide +kernel
theorem dX7_isThere_14 : decode cX7_isThere 14 = .ok (.if_icmp .ge 94, 3) := by decide +kernel
theorem dX7_isThere_17 : decode cX7_isThere 17 = .ok (.aload_n 0, 1) := by decide +kernel
theorem dX7_isThere_18 : decode cX7_isThere 18 = .ok (.getfield 16, 3) := by decide +kernel
theorem dX7_isThere_21 : decode cX7_isThere 21 = .ok (.iload 6, 2) := by decide +kernel
theorem dX7_isThere_23 : decode cX7_isThere 23 = .ok (.iconst 1, 1) := by decide +kernel
theorem dX7_isThere_24 : decode cX7_isThere 24 = .ok (.invokestatic 44, 3) := by decide +kernel
theorem dX7_isThere_27 : decode cX7_isThere 27 = .ok (.ifCond .ne 35, 3) := by decide +kernel
theorem dX7_isThere_30 : decode cX7_isThere 30 = .ok (.aload_n 0, 1) := by decide +kernel
theorem dX7_isThere_31 : decode cX7_isThere 31 = .ok (.getfield 16, 3) := by decide +kernel
theorem dX7_isThere_34 : decode cX7_isThere 34 = .ok (.iload 6, 2) := by decide +kernel
theorem dX7_isThere_36 : decode cX7_isThere 36 = .ok (.iconst 2, 1) := by decide +kernel
theorem dX7_isThere_37 : decode cX7_isThere 37 = .ok (.invokestatic 44, 3) := by decide +kernel
theorem dX7_isThere_40 : decode cX7_isThere 40 = .ok (.iload_n 2, 1) := by decide +kernel
theorem dX7_isThere_41 : decode cX7_isThere 41 = .ok (.if_icmp .ne 21, 3) := by decide +kernel
theorem dX7_isThere_44 : decode cX7_isThere 44 = .ok (.aload_n 0, 1) := by decide +kernel
theorem dX7_isThere_45 : decode cX7_isThere 45 = .ok (.getfield 16, 3) := by decide +kernel
theorem dX7_isThere_48 : decode cX7_isThere 48 = .ok (.iload 6, 2) := by decide +kernel
theorem dX7_isThere_50 : decode cX7_isThere 50 = .ok (.iconst 3, 1) := by decide +kernel
theorem dX7_isThere_51 : decode cX7_isThere 51 = .ok (.invokestatic 44, 3) := by decide +kernel
theorem dX7_isThere_54 : decode cX7_isThere 54 = .ok (.iload_n 1, 1) := by decide +kernel
theorem dX7_isThere_55 : decode cX7_isThere 55 = .ok (.if_icmp .ne 7, 3) := by decide +kernel
theorem dX7_isThere_58 : decode cX7_isThere 58 = .ok (.iconst 1, 1) := by decide +kernel
theorem dX7_isThere_59 : decode cX7_isThere 59 = .ok (.goto 4, 3) := by decide +kernel
theorem dX7_isThere_62 : decode cX7_isThere 62 = .ok (.iconst 0, 1) := by decide +kernel
theorem dX7_isThere_63 : decode cX7_isThere 63 = .ok (.istore 7, 2) := by decide +kernel
theorem dX7_isThere_65 : decode cX7_isThere 65 = .ok (.iload 5, 2) := by decide +kernel
theorem dX7_isThere_67 : decode cX7_isThere 67 = .ok (.ifCond .eq 32, 3) := by decide +kernel
theorem dX7_isThere_70 : decode cX7_isThere 70 = .ok (.iload 7, 2) := by decide +kernel
theorem dX7_isThere_72 : decode cX7_isThere 72 = .ok (.ifCond .ne 23, 3) := by decide +kernel
theorem dX7_isThere_75 : decode cX7_isThere 75 = .ok (.iload_n 3, 1) := by decide +kernel
theorem dX7_isThere_76 : decode cX7_isThere 76 = .ok (.iload 6, 2) := by decide +kernel
theorem dX7_isThere_78 : decode cX7_isThere 78 = .ok (.invokestatic 48, 3) := by decide +kernel
theorem dX7_isThere_81 : decode cX7_isThere 81 = .ok (.ifCond .eq 14, 3) := by decide +kernel
theorem dX7_isThere_84 : decode cX7_isThere 84 = .ok (.iload 4, 2) := by decide +kernel
theorem dX7_isThere_86 : decode cX7_isThere 86 = .ok (.ifCond .ne 13, 3) := by decide +kernel
theorem dX7_isThere_89 : decode cX7_isThere 89 = .ok (.iload 6, 2) := by decide +kernel
theorem dX7_isThere_91 : decode cX7_isThere 91 = .ok (.iload_n 1, 1) := by decide +kernel
theorem dX7_isThere_92 : decode cX7_isThere 92 = .ok (.if_icmp .eq 7, 3) := by decide +kernel
theorem dX7_isThere_95 : decode cX7_isThere 95 = .ok (.iconst 1, 1) := by decide +kernel
theorem dX7_isThere_96 : decode cX7_isThere 96 = .ok (.goto 4, 3) := by decide +kernel
theorem dX7_isThere_99 : decode cX7_isThere 99 = .ok (.iconst 0, 1) := by decide +kernel
theorem dX7_isThere_100 : decode cX7_isThere 100 = .ok (.istore 5, 2) := by decide +kernel
theorem dX7_isThere_102 : decode cX7_isThere 102 = .ok (.iinc 6 1, 3) := by decide +kernel
theorem dX7_isThere_105 : decode cX7_isThere 105 = .ok (.goto (-99), 3) := by decide +kernel
theorem dX7_isThere_108 : decode cX7_isThere 108 = .ok (.iload 5, 2) := by decide +kernel
theorem dX7_isThere_110 : decode cX7_isThere 110 = .ok (.ireturn, 1) := by decide +kernel
theorem dX7_standsIn_0 : decode cX7_standsIn 0 = .ok (.aload_n 0, 1) := by decide +kernel
theorem dX7_standsIn_1 : decode cX7_standsIn 1 = .ok (.aload_n 0, 1) := by decide +kernel
theorem dX7_standsIn_2 : decode cX7_standsIn 2 = .ok (.getfield 13, 3) := by decide +kernel
theorem dX7_standsIn_5 : decode cX7_standsIn 5 = .ok (.iload_n 1, 1) := by decide +kernel
theorem dX7_standsIn_6 : decode cX7_standsIn 6 = .ok (.invokestatic 112, 3) := by decide +kernel
theorem dX7_standsIn_9 : decode cX7_standsIn 9 = .ok (.ifCond .ne 7, 3) := by decide +kernel
theorem dX7_standsIn_12 : decode cX7_standsIn 12 = .ok (.iconst 1, 1) := by decide +kernel
theorem dX7_standsIn_13 : decode cX7_standsIn 13 = .ok (.goto 30, 3) := by decide +kernel
theorem dX7_standsIn_16 : decode cX7_standsIn 16 = .ok (.iload_n 3, 1) := by decide +kernel
theorem dX7_standsIn_17 : decode cX7_standsIn 17 = .ok (.i2l, 1) := by decide +kernel
theorem dX7_standsIn_18 : decode cX7_standsIn 18 = .ok (.lconst 0, 1) := by decide +kernel
theorem dX7_standsIn_19 : decode cX7_standsIn 19 = .ok (.lconst 1, 1) := by decide +kernel
theorem dX7_standsIn_20 : decode cX7_standsIn 20 = .ok (.invokestatic 40, 3) := by decide +kernel
theorem dX7_standsIn_23 : decode cX7_standsIn 23 = .ok (.ifCond .eq 15, 3) := by decide +kernel
theorem dX7_standsIn_26 : decode cX7_standsIn 26 = .ok (.aload_n 0, 1) := by decide +kernel
theorem dX7_standsIn_27 : decode cX7_standsIn 27 = .ok (.getfield 13, 3) := by decide +kernel
theorem dX7_standsIn_30 : decode cX7_standsIn 30 = .ok (.iload_n 1, 1) := by decide +kernel
theorem dX7_standsIn_31 : decode cX7_standsIn 31 = .ok (.iload_n 2, 1) := by decide +kernel
theorem dX7_standsIn_32 : decode cX7_standsIn 32 = .ok (.invokestatic 116, 3) := by decide +kernel
theorem dX7_standsIn_35 : decode cX7_standsIn 35 = .ok (.ifCond .ne 7, 3) := by decide +kernel
theorem dX7_standsIn_38 : decode cX7_standsIn 38 = .ok (.iconst 2, 1) := by decide +kernel
theorem dX7_standsIn_39 : decode cX7_standsIn 39 = .ok (.goto 4, 3) := by decide +kernel
theorem dX7_standsIn_42 : decode cX7_standsIn 42 = .ok (.iconst 0, 1) := by decide +kernel
theorem dX7_standsIn_43 : decode cX7_standsIn 43 = .ok (.invokevirtual 129, 3) := by decide +kernel
theorem dX7_standsIn_46 : decode cX7_standsIn 46 = .ok (.ifCond .eq 5, 3) := by decide +kernel
theorem dX7_standsIn_49 : decode cX7_standsIn 49 = .ok (.iconst 0, 1) := by decide +kernel
theorem dX7_standsIn_50 : decode cX7_standsIn 50 = .ok (.ireturn, 1) := by decide +kernel
theorem dX7_standsIn_51 : decode cX7_standsIn 51 = .ok (.aload_n 0, 1) := by decide +kernel
theorem dX7_standsIn_52 : decode cX7_standsIn 52 = .ok (.getfield 13, 3) := by decide +kernel
theorem dX7_standsIn_55 : decode cX7_standsIn 55 = .ok (.iload_n 1, 1) := by decide +kernel
theorem dX7_standsIn_56 : decode cX7_standsIn 56 = .ok (.invokestatic 169, 3) := by decide +kernel
theorem dX7_standsIn_59 : decode cX7_standsIn 59 = .ok (.ifCond .eq 5, 3) := by decide +kernel
theorem dX7_standsIn_62 : decode cX7_standsIn 62 = .ok (.iconst (-1), 1) := by decide +kernel
theorem dX7_standsIn_63 : decode cX7_standsIn 63 = .ok (.ireturn, 1) := by decide +kernel
theorem dX7_standsIn_64 : decode cX7_standsIn 64 = .ok (.aload_n 0, 1) := by decide +kernel
theorem dX7_standsIn_65 : decode cX7_standsIn 65 = .ok (.getfield 13, 3) := by decide +kernel
theorem dX7_standsIn_68 : decode cX7_standsIn 68 = .ok (.iconst 0, 1) := by decide +kernel
theorem dX7_standsIn_69 : decode cX7_standsIn 69 = .ok (.aload_n 0, 1) := by decide +kernel
theorem dX7_standsIn_70 : decode cX7_standsIn 70 = .ok (.getfield 16, 3) := by decide +kernel
theorem dX7_standsIn_73 : decode cX7_standsIn 73 = .ok (.iconst 0, 1) := by decide +kernel
theorem dX7_standsIn_74 : decode cX7_standsIn 74 = .ok (.invokestatic 189, 3) := by decide +kernel
theorem dX7_standsIn_77 : decode cX7_standsIn 77 = .ok (.aload_n 0, 1) := by decide +kernel
theorem dX7_standsIn_78 : decode cX7_standsIn 78 = .ok (.getfield 16, 3) := by decide +kernel
theorem dX7_standsIn_81 : decode cX7_standsIn 81 = .ok (.bipush 6, 2) := by decide +kernel
theorem dX7_standsIn_83 : decode cX7_standsIn 83 = .ok (.iaload, 1) := by decide +kernel
theorem dX7_standsIn_84 : decode cX7_standsIn 84 = .ok (.istore 4, 2) := by decide +kernel
theorem dX7_standsIn_86 : decode cX7_standsIn 86 = .ok (.aload_n 0, 1) := by decide +kernel
theorem dX7_standsIn_87 : decode cX7_standsIn 87 = .ok (.getfield 16, 3) := by decide +kernel
theorem dX7_standsIn_90 : decode cX7_standsIn 90 = .ok (.iload_n 1, 1) := by decide +kernel
theorem dX7_standsIn_91 : decode cX7_standsIn 91 = .ok (.iload_n 2, 1) := by decide +kernel
theorem dX7_standsIn_92 : decode cX7_standsIn 92 = .ok (.invokestatic 106, 3) := by decide +kernel
theorem dX7_standsIn_95 : decode cX7_standsIn 95 = .ok (.istore 5, 2) := by decide +kernel
theorem dX7_standsIn_97 : decode cX7_standsIn 97 = .ok (.iconst 0, 1) := by decide +kernel
theorem dX7_standsIn_98 : decode cX7_standsIn 98 = .ok (.istore 6, 2) := by decide +kernel
theorem dX7_standsIn_100 : decode cX7_standsIn 100 = .ok (.iconst 0, 1) := by decide +kernel
theorem dX7_standsIn_101 : decode cX7_standsIn 101 = .ok (.istore 7, 2) := by decide +kernel
theorem dX7_standsIn_103 : decode cX7_standsIn 103 = .ok (.iload 7, 2) := by decide +kernel
theorem dX7_standsIn_105 : decode cX7_standsIn 105 = .ok (.bipush 100, 2) := by decide +kernel
theorem dX7_standsIn_107 : decode cX7_standsIn 107 = .ok (.if_icmp .gt 75, 3) := by decide +kernel
theorem dX7_standsIn_110 : decode cX7_standsIn 110 = .ok (.iload 6, 2) := by decide +kernel
theorem dX7_standsIn_112 : decode cX7_standsIn 112 = .ok (.ifCond .ne 25, 3) := by decide +kernel
theorem dX7_standsIn_115 : decode cX7_standsIn 115 = .ok (.aload_n 0, 1) := by decide +kernel
theorem dX7_standsIn_116 : decode cX7_standsIn 116 = .ok (.getfield 16, 3) := by decide +kernel
theorem dX7_standsIn_119 : decode cX7_standsIn 119 = .ok (.bipush 6, 2) := by decide +kernel
theorem dX7_standsIn_121 : decode cX7_standsIn 121 = .ok (.iaload, 1) := by decide +kernel
theorem dX7_standsIn_122 : decode cX7_standsIn 122 = .ok (.iload 4, 2) := by decide +kernel
theorem dX7_standsIn_124 : decode cX7_standsIn 124 = .ok (.if_icmp .le 17, 3) := by decide +kernel
theorem dX7_standsIn_127 : decode cX7_standsIn 127 = .ok (.aload_n 0, 1) := by decide +kernel
theorem dX7_standsIn_128 : decode cX7_standsIn 128 = .ok (.iload_n 1, 1) := by decide +kernel
theorem dX7_standsIn_129 : decode cX7_standsIn 129 = .ok (.iload 5, 2) := by decide +kernel
theorem dX7_standsIn_131 : decode cX7_standsIn 131 = .ok (.invokevirtual 212, 3) := by decide +kernel
theorem dX7_standsIn_134 : decode cX7_standsIn 134 = .ok (.ifCond .eq 7, 3) := by decide +kernel
theorem dX7_standsIn_137 : decode cX7_standsIn 137 = .ok (.iconst 1, 1) := by decide +kernel
theorem dX7_standsIn_138 : decode cX7_standsIn 138 = .ok (.goto 4, 3) := by decide +kernel
theorem dX7_standsIn_141 : decode cX7_standsIn 141 = .ok (.iconst 0, 1) := by decide +kernel
theorem dX7_standsIn_142 : decode cX7_standsIn 142 = .ok (.istore 6, 2) := by decide +kernel
theorem dX7_standsIn_144 : decode cX7_standsIn 144 = .ok (.iload 6, 2) := by decide +kernel
theorem dX7_standsIn_146 : decode cX7_standsIn 146 = .ok (.ifCond .eq 22, 3) := by decide +kernel
theorem dX7_standsIn_149 : decode cX7_standsIn 149 = .ok (.iload_n 3, 1) := by decide +kernel
theorem dX7_standsIn_150 : decode cX7_standsIn 150 = .ok (.ifCond .eq 15, 3) := by decide +kernel
theorem dX7_standsIn_153 : decode cX7_standsIn 153 = .ok (.aload_n 0, 1) := by decide +kernel
theorem dX7_standsIn_154 : decode cX7_standsIn 154 = .ok (.iload_n 1, 1) := by decide +kernel
theorem dX7_standsIn_155 : decode cX7_standsIn 155 = .ok (.iload 5, 2) := by decide +kernel
theorem dX7_standsIn_157 : decode cX7_standsIn 157 = .ok (.iload_n 2, 1) := by decide +kernel
theorem dX7_standsIn_158 : decode cX7_standsIn 158 = .ok (.iconst 1, 1) := by decide +kernel
theorem dX7_standsIn_159 : decode cX7_standsIn 159 = .ok (.invokevirtual 215, 3) := by decide +kernel
theorem dX7_standsIn_162 : decode cX7_standsIn 162 = .ok (.ifCond .eq 6, 3) := by decide +kernel
theorem dX7_standsIn_165 : decode cX7_standsIn 165 = .ok (.iload 7, 2) := by decide +kernel
theorem dX7_standsIn_167 : decode cX7_standsIn 167 = .ok (.ireturn, 1) := by decide +kernel
theorem dX7_standsIn_168 : decode cX7_standsIn 168 = .ok (.aload_n 0, 1) := by decide +kernel
theorem dX7_standsIn_169 : decode cX7_standsIn 169 = .ok (.aload_n 0, 1) := by decide +kernel
theorem dX7_standsIn_170 : decode cX7_standsIn 170 = .ok (.getfield 16, 3) := by decide +kernel
theorem dX7_standsIn_173 : decode cX7_standsIn 173 = .ok (.invokevirtual 109, 3) := by decide +kernel
theorem dX7_standsIn_176 : decode cX7_standsIn 176 = .ok (.iinc 7 1, 3) := by decide +kernel
theorem dX7_standsIn_179 : decode cX7_standsIn 179 = .ok (.goto (-76), 3) := by decide +kernel
theorem dX7_standsIn_182 : decode cX7_standsIn 182 = .ok (.iconst (-1), 1) := by decide +kernel
theorem dX7_standsIn_183 : decode cX7_standsIn 183 = .ok (.ireturn, 1) := by decide +kernel
theorem dX7_standsNow_0 : decode cX7_standsNow 0 = .ok (.aload_n 0, 1) := by decide +kernel
theorem dX7_standsNow_1 : decode cX7_standsNow 1 = .ok (.getfield 16, 3) := by decide +kernel
theorem dX7_standsNow_4 : decode cX7_standsNow 4 = .ok (.iload_n 1, 1) := by decide +kernel
theorem dX7_standsNow_5 : decode cX7_standsNow 5 = .ok (.iconst 2, 1) := by decide +kernel
theorem dX7_standsNow_6 : decode cX7_standsNow 6 = .ok (.invokestatic 44, 3) := by decide +kernel
theorem dX7_standsNow_9 : decode cX7_standsNow 9 = .ok (.iload_n 2, 1) := by decide +kernel
theorem dX7_standsNow_10 : decode cX7_standsNow 10 = .ok (.if_icmp .ne 20, 3) := by decide +kernel
theorem dX7_standsNow_13 : decode cX7_standsNow 13 = .ok (.aload_n 0, 1) := by decide +kernel
theorem dX7_standsNow_14 : decode cX7_standsNow 14 = .ok (.getfield 16, 3) := by decide +kernel
theorem dX7_standsNow_17 : decode cX7_standsNow 17 = .ok (.iload_n 1, 1) := by decide +kernel
theorem dX7_standsNow_18 : decode cX7_standsNow 18 = .ok (.iconst 3, 1) := by decide +kernel
theorem dX7_standsNow_19 : decode cX7_standsNow 19 = .ok (.invokestatic 44, 3) := by decide +kernel
theorem dX7_standsNow_22 : decode cX7_standsNow 22 = .ok (.iload_n 1, 1) := by decide +kernel
theorem dX7_standsNow_23 : decode cX7_standsNow 23 = .ok (.if_icmp .ne 7, 3) := by decide +kernel
theorem dX7_standsNow_26 : decode cX7_standsNow 26 = .ok (.iconst 1, 1) := by decide +kernel
theorem dX7_standsNow_27 : decode cX7_standsNow 27 = .ok (.goto 4, 3) := by decide +kernel
theorem dX7_standsNow_30 : decode cX7_standsNow 30 = .ok (.iconst 0, 1) := by decide +kernel
theorem dX7_standsNow_31 : decode cX7_standsNow 31 = .ok (.ireturn, 1) := by decide +kernel
theorem dX7_compare_0 : decode cX7_compare 0 = .ok (.aload_n 0, 1) := by decide +kernel
theorem dX7_compare_1 : decode cX7_compare 1 = .ok (.aload_n 0, 1) := by decide +kernel
theorem dX7_compare_2 : decode cX7_compare 2 = .ok (.getfield 13, 3) := by decide +kernel
theorem dX7_compare_5 : decode cX7_compare 5 = .ok (.iload_n 1, 1) := by decide +kernel
theorem dX7_compare_6 : decode cX7_compare 6 = .ok (.invokestatic 112, 3) := by decide +kernel
theorem dX7_compare_9 : decode cX7_compare 9 = .ok (.ifCond .eq 14, 3) := by decide +kernel
theorem dX7_compare_12 : decode cX7_compare 12 = .ok (.aload_n 0, 1) := by decide +kernel
theorem dX7_compare_13 : decode cX7_compare 13 = .ok (.getfield 13, 3) := by decide +kernel
theorem dX7_compare_16 : decode cX7_compare 16 = .ok (.iload_n 2, 1) := by decide +kernel
theorem dX7_compare_17 : decode cX7_compare 17 = .ok (.invokestatic 112, 3) := by decide +kernel
theorem dX7_compare_20 : decode cX7_compare 20 = .ok (.ifCond .ne 7, 3) := by decide +kernel
theorem dX7_compare_23 : decode cX7_compare 23 = .ok (.iconst 1, 1) := by decide +kernel
theorem dX7_compare_24 : decode cX7_compare 24 = .ok (.goto 18, 3) := by decide +kernel
theorem dX7_compare_27 : decode cX7_compare 27 = .ok (.iload_n 3, 1) := by decide +kernel
theorem dX7_compare_28 : decode cX7_compare 28 = .ok (.i2l, 1) := by decide +kernel
theorem dX7_compare_29 : decode cX7_compare 29 = .ok (.lconst 0, 1) := by decide +kernel
theorem dX7_compare_30 : decode cX7_compare 30 = .ok (.lconst 1, 1) := by decide +kernel
theorem dX7_compare_31 : decode cX7_compare 31 = .ok (.invokestatic 40, 3) := by decide +kernel
theorem dX7_compare_34 : decode cX7_compare 34 = .ok (.ifCond .eq 7, 3) := by decide +kernel
theorem dX7_compare_37 : decode cX7_compare 37 = .ok (.iconst 0, 1) := by decide +kernel
theorem dX7_compare_38 : decode cX7_compare 38 = .ok (.goto 4, 3) := by decide +kernel
theorem dX7_compare_41 : decode cX7_compare 41 = .ok (.iconst 2, 1) := by decide +kernel
theorem dX7_compare_42 : decode cX7_compare 42 = .ok (.invokevirtual 129, 3) := by decide +kernel
theorem dX7_compare_45 : decode cX7_compare 45 = .ok (.ifCond .eq 5, 3) := by decide +kernel
theorem dX7_compare_48 : decode cX7_compare 48 = .ok (.iconst 0, 1) := by decide +kernel
theorem dX7_compare_49 : decode cX7_compare 49 = .ok (.ireturn, 1) := by decide +kernel
theorem dX7_compare_50 : decode cX7_compare 50 = .ok (.aload_n 0, 1) := by decide +kernel
theorem dX7_compare_51 : decode cX7_compare 51 = .ok (.getfield 13, 3) := by decide +kernel
theorem dX7_compare_54 : decode cX7_compare 54 = .ok (.iload_n 1, 1) := by decide +kernel
theorem dX7_compare_55 : decode cX7_compare 55 = .ok (.iload_n 2, 1) := by decide +kernel
theorem dX7_compare_56 : decode cX7_compare 56 = .ok (.iload_n 3, 1) := by decide +kernel
theorem dX7_compare_57 : decode cX7_compare 57 = .ok (.invokestatic 219, 3) := by decide +kernel
theorem dX7_compare_60 : decode cX7_compare 60 = .ok (.ireturn, 1) := by decide +kernel
theorem dX7_compared_0 : decode cX7_compared 0 = .ok (.iconst 0, 1) := by decide +kernel
theorem dX7_compared_1 : decode cX7_compared 1 = .ok (.istore 4, 2) := by decide +kernel
theorem dX7_compared_3 : decode cX7_compared 3 = .ok (.iconst 0, 1) := by decide +kernel
theorem dX7_compared_4 : decode cX7_compared 4 = .ok (.istore 5, 2) := by decide +kernel
theorem dX7_compared_6 : decode cX7_compared 6 = .ok (.iload 5, 2) := by decide +kernel
theorem dX7_compared_8 : decode cX7_compared 8 = .ok (.aload_n 0, 1) := by decide +kernel
theorem dX7_compared_9 : decode cX7_compared 9 = .ok (.iload_n 1, 1) := by decide +kernel
theorem dX7_compared_10 : decode cX7_compared 10 = .ok (.bipush 67, 2) := by decide +kernel
theorem dX7_compared_12 : decode cX7_compared 12 = .ok (.invokestatic 44, 3) := by decide +kernel
theorem dX7_compared_15 : decode cX7_compared 15 = .ok (.if_icmp .ge 145, 3) := by decide +kernel
theorem dX7_compared_18 : decode cX7_compared 18 = .ok (.iconst 0, 1) := by decide +kernel
theorem dX7_compared_19 : decode cX7_compared 19 = .ok (.istore 6, 2) := by decide +kernel
theorem dX7_compared_21 : decode cX7_compared 21 = .ok (.iload 6, 2) := by decide +kernel
theorem dX7_compared_23 : decode cX7_compared 23 = .ok (.aload_n 0, 1) := by decide +kernel
theorem dX7_compared_24 : decode cX7_compared 24 = .ok (.iload_n 2, 1) := by decide +kernel
theorem dX7_compared_25 : decode cX7_compared 25 = .ok (.bipush 67, 2) := by decide +kernel
theorem dX7_compared_27 : decode cX7_compared 27 = .ok (.invokestatic 44, 3) := by decide +kernel
theorem dX7_compared_30 : decode cX7_compared 30 = .ok (.if_icmp .ge 124, 3) := by decide +kernel
theorem dX7_compared_33 : decode cX7_compared 33 = .ok (.aload_n 0, 1) := by decide +kernel
theorem dX7_compared_34 : decode cX7_compared 34 = .ok (.iload_n 1, 1) := by decide +kernel
theorem dX7_compared_35 : decode cX7_compared 35 = .ok (.bipush 68, 2) := by decide +kernel
theorem dX7_compared_37 : decode cX7_compared 37 = .ok (.iconst 3, 1) := by decide +kernel
theorem dX7_compared_38 : decode cX7_compared 38 = .ok (.iload 5, 2) := by decide +kernel
theorem dX7_compared_40 : decode cX7_compared 40 = .ok (.imul, 1) := by decide +kernel
theorem dX7_compared_41 : decode cX7_compared 41 = .ok (.iadd, 1) := by decide +kernel
theorem dX7_compared_42 : decode cX7_compared 42 = .ok (.invokestatic 44, 3) := by decide +kernel
theorem dX7_compared_45 : decode cX7_compared 45 = .ok (.aload_n 0, 1) := by decide +kernel
theorem dX7_compared_46 : decode cX7_compared 46 = .ok (.iload_n 2, 1) := by decide +kernel
theorem dX7_compared_47 : decode cX7_compared 47 = .ok (.bipush 68, 2) := by decide +kernel
theorem dX7_compared_49 : decode cX7_compared 49 = .ok (.iconst 3, 1) := by decide +kernel
theorem dX7_compared_50 : decode cX7_compared 50 = .ok (.iload 6, 2) := by decide +kernel
theorem dX7_compared_52 : decode cX7_compared 52 = .ok (.imul, 1) := by decide +kernel
theorem dX7_compared_53 : decode cX7_compared 53 = .ok (.iadd, 1) := by decide +kernel
theorem dX7_compared_54 : decode cX7_compared 54 = .ok (.invokestatic 44, 3) := by decide +kernel
theorem dX7_compared_57 : decode cX7_compared 57 = .ok (.if_icmp .ne 38, 3) := by decide +kernel
theorem dX7_compared_60 : decode cX7_compared 60 = .ok (.aload_n 0, 1) := by decide +kernel
theorem dX7_compared_61 : decode cX7_compared 61 = .ok (.iload_n 1, 1) := by decide +kernel
theorem dX7_compared_62 : decode cX7_compared 62 = .ok (.bipush 68, 2) := by decide +kernel
theorem dX7_compared_64 : decode cX7_compared 64 = .ok (.iconst 3, 1) := by decide +kernel
theorem dX7_compared_65 : decode cX7_compared 65 = .ok (.iload 5, 2) := by decide +kernel
theorem dX7_compared_67 : decode cX7_compared 67 = .ok (.imul, 1) := by decide +kernel
theorem dX7_compared_68 : decode cX7_compared 68 = .ok (.iadd, 1) := by decide +kernel
theorem dX7_compared_69 : decode cX7_compared 69 = .ok (.iconst 1, 1) := by decide +kernel
theorem dX7_compared_70 : decode cX7_compared 70 = .ok (.iadd, 1) := by decide +kernel
theorem dX7_compared_71 : decode cX7_compared 71 = .ok (.invokestatic 44, 3) := by decide +kernel
theorem dX7_compared_74 : decode cX7_compared 74 = .ok (.aload_n 0, 1) := by decide +kernel
theorem dX7_compared_75 : decode cX7_compared 75 = .ok (.iload_n 2, 1) := by decide +kernel
theorem dX7_compared_76 : decode cX7_compared 76 = .ok (.bipush 68, 2) := by decide +kernel
theorem dX7_compared_78 : decode cX7_compared 78 = .ok (.iconst 3, 1) := by decide +kernel
theorem dX7_compared_79 : decode cX7_compared 79 = .ok (.iload 6, 2) := by decide +kernel
theorem dX7_compared_81 : decode cX7_compared 81 = .ok (.imul, 1) := by decide +kernel
theorem dX7_compared_82 : decode cX7_compared 82 = .ok (.iadd, 1) := by decide +kernel
theorem dX7_compared_83 : decode cX7_compared 83 = .ok (.iconst 1, 1) := by decide +kernel
theorem dX7_compared_84 : decode cX7_compared 84 = .ok (.iadd, 1) := by decide +kernel
theorem dX7_compared_85 : decode cX7_compared 85 = .ok (.invokestatic 44, 3) := by decide +kernel
theorem dX7_compared_88 : decode cX7_compared 88 = .ok (.if_icmp .ne 7, 3) := by decide +kernel
theorem dX7_compared_91 : decode cX7_compared 91 = .ok (.iconst 1, 1) := by decide +kernel
theorem dX7_compared_92 : decode cX7_compared 92 = .ok (.goto 4, 3) := by decide +kernel
theorem dX7_compared_95 : decode cX7_compared 95 = .ok (.iconst 0, 1) := by decide +kernel
theorem dX7_compared_96 : decode cX7_compared 96 = .ok (.istore 7, 2) := by decide +kernel
theorem dX7_compared_98 : decode cX7_compared 98 = .ok (.iload 4, 2) := by decide +kernel
theorem dX7_compared_100 : decode cX7_compared 100 = .ok (.iload 7, 2) := by decide +kernel
theorem dX7_compared_102 : decode cX7_compared 102 = .ok (.ifCond .eq 42, 3) := by decide +kernel
theorem dX7_compared_105 : decode cX7_compared 105 = .ok (.iload_n 3, 1) := by decide +kernel
theorem dX7_compared_106 : decode cX7_compared 106 = .ok (.ifCond .eq 34, 3) := by decide +kernel
theorem dX7_compared_109 : decode cX7_compared 109 = .ok (.aload_n 0, 1) := by decide +kernel
theorem dX7_compared_110 : decode cX7_compared 110 = .ok (.iload_n 1, 1) := by decide +kernel
theorem dX7_compared_111 : decode cX7_compared 111 = .ok (.bipush 68, 2) := by decide +kernel
theorem dX7_compared_113 : decode cX7_compared 113 = .ok (.iconst 3, 1) := by decide +kernel
theorem dX7_compared_114 : decode cX7_compared 114 = .ok (.iload 5, 2) := by decide +kernel
theorem dX7_compared_116 : decode cX7_compared 116 = .ok (.imul, 1) := by decide +kernel
theorem dX7_compared_117 : decode cX7_compared 117 = .ok (.iadd, 1) := by decide +kernel
theorem dX7_compared_118 : decode cX7_compared 118 = .ok (.iconst 2, 1) := by decide +kernel
theorem dX7_compared_119 : decode cX7_compared 119 = .ok (.iadd, 1) := by decide +kernel
theorem dX7_compared_120 : decode cX7_compared 120 = .ok (.invokestatic 44, 3) := by decide +kernel
theorem dX7_compared_123 : decode cX7_compared 123 = .ok (.aload_n 0, 1) := by decide +kernel
theorem dX7_compared_124 : decode cX7_compared 124 = .ok (.iload_n 2, 1) := by decide +kernel
theorem dX7_compared_125 : decode cX7_compared 125 = .ok (.bipush 68, 2) := by decide +kernel
theorem dX7_compared_127 : decode cX7_compared 127 = .ok (.iconst 3, 1) := by decide +kernel
theorem dX7_compared_128 : decode cX7_compared 128 = .ok (.iload 6, 2) := by decide +kernel
theorem dX7_compared_130 : decode cX7_compared 130 = .ok (.imul, 1) := by decide +kernel
theorem dX7_compared_131 : decode cX7_compared 131 = .ok (.iadd, 1) := by decide +kernel
theorem dX7_compared_132 : decode cX7_compared 132 = .ok (.iconst 2, 1) := by decide +kernel
theorem dX7_compared_133 : decode cX7_compared 133 = .ok (.iadd, 1) := by decide +kernel
theorem dX7_compared_134 : decode cX7_compared 134 = .ok (.invokestatic 44, 3) := by decide +kernel
theorem dX7_compared_137 : decode cX7_compared 137 = .ok (.if_icmp .eq 7, 3) := by decide +kernel
theorem dX7_compared_140 : decode cX7_compared 140 = .ok (.iconst 1, 1) := by decide +kernel
theorem dX7_compared_141 : decode cX7_compared 141 = .ok (.goto 4, 3) := by decide +kernel
theorem dX7_compared_144 : decode cX7_compared 144 = .ok (.iconst 0, 1) := by decide +kernel
theorem dX7_compared_145 : decode cX7_compared 145 = .ok (.iadd, 1) := by decide +kernel
theorem dX7_compared_146 : decode cX7_compared 146 = .ok (.istore 4, 2) := by decide +kernel
theorem dX7_compared_148 : decode cX7_compared 148 = .ok (.iinc 6 1, 3) := by decide +kernel
theorem dX7_compared_151 : decode cX7_compared 151 = .ok (.goto (-130), 3) := by decide +kernel
theorem dX7_compared_154 : decode cX7_compared 154 = .ok (.iinc 5 1, 3) := by decide +kernel
theorem dX7_compared_157 : decode cX7_compared 157 = .ok (.goto (-151), 3) := by decide +kernel
theorem dX7_compared_160 : decode cX7_compared 160 = .ok (.iload 4, 2) := by decide +kernel
theorem dX7_compared_162 : decode cX7_compared 162 = .ok (.ireturn, 1) := by decide +kernel
theorem dX7_lacks_0 : decode cX7_lacks 0 = .ok (.aload_n 0, 1) := by decide +kernel
theorem dX7_lacks_1 : decode cX7_lacks 1 = .ok (.aload_n 0, 1) := by decide +kernel
theorem dX7_lacks_2 : decode cX7_lacks 2 = .ok (.getfield 13, 3) := by decide +kernel
theorem dX7_lacks_5 : decode cX7_lacks 5 = .ok (.iload_n 1, 1) := by decide +kernel
theorem dX7_lacks_6 : decode cX7_lacks 6 = .ok (.invokestatic 112, 3) := by decide +kernel
theorem dX7_lacks_9 : decode cX7_lacks 9 = .ok (.ifCond .eq 7, 3) := by decide +kernel
theorem dX7_lacks_12 : decode cX7_lacks 12 = .ok (.iconst 0, 1) := by decide +kernel
theorem dX7_lacks_13 : decode cX7_lacks 13 = .ok (.goto 4, 3) := by decide +kernel
theorem dX7_lacks_16 : decode cX7_lacks 16 = .ok (.iconst 1, 1) := by decide +kernel
theorem dX7_lacks_17 : decode cX7_lacks 17 = .ok (.invokevirtual 129, 3) := by decide +kernel
theorem dX7_lacks_20 : decode cX7_lacks 20 = .ok (.ifCond .eq 5, 3) := by decide +kernel
theorem dX7_lacks_23 : decode cX7_lacks 23 = .ok (.iconst 0, 1) := by decide +kernel
theorem dX7_lacks_24 : decode cX7_lacks 24 = .ok (.ireturn, 1) := by decide +kernel
theorem dX7_lacks_25 : decode cX7_lacks 25 = .ok (.iconst 0, 1) := by decide +kernel
theorem dX7_lacks_26 : decode cX7_lacks 26 = .ok (.istore_n 2, 1) := by decide +kernel
theorem dX7_lacks_27 : decode cX7_lacks 27 = .ok (.iconst 0, 1) := by decide +kernel
theorem dX7_lacks_28 : decode cX7_lacks 28 = .ok (.istore_n 3, 1) := by decide +kernel
theorem dX7_lacks_29 : decode cX7_lacks 29 = .ok (.iload_n 3, 1) := by decide +kernel
theorem dX7_lacks_30 : decode cX7_lacks 30 = .ok (.aload_n 0, 1) := by decide +kernel
theorem dX7_lacks_31 : decode cX7_lacks 31 = .ok (.getfield 13, 3) := by decide +kernel
theorem dX7_lacks_34 : decode cX7_lacks 34 = .ok (.iconst 0, 1) := by decide +kernel
theorem dX7_lacks_35 : decode cX7_lacks 35 = .ok (.iaload, 1) := by decide +kernel
theorem dX7_lacks_36 : decode cX7_lacks 36 = .ok (.if_icmp .ge 37, 3) := by decide +kernel
theorem dX7_lacks_39 : decode cX7_lacks 39 = .ok (.iload_n 2, 1) := by decide +kernel
theorem dX7_lacks_40 : decode cX7_lacks 40 = .ok (.aload_n 0, 1) := by decide +kernel
theorem dX7_lacks_41 : decode cX7_lacks 41 = .ok (.getfield 13, 3) := by decide +kernel
theorem dX7_lacks_44 : decode cX7_lacks 44 = .ok (.iload_n 1, 1) := by decide +kernel
theorem dX7_lacks_45 : decode cX7_lacks 45 = .ok (.iload_n 3, 1) := by decide +kernel
theorem dX7_lacks_46 : decode cX7_lacks 46 = .ok (.invokestatic 223, 3) := by decide +kernel
theorem dX7_lacks_49 : decode cX7_lacks 49 = .ok (.ifCond .eq 15, 3) := by decide +kernel
theorem dX7_lacks_52 : decode cX7_lacks 52 = .ok (.aload_n 0, 1) := by decide +kernel
end
section
theorem dX7_lacks_53 : decode cX7_lacks 53 = .ok (.getfield 13, 3) := by decide +kernel
theorem dX7_lacks_56 : decode cX7_lacks 56 = .ok (.iload_n 3, 1) := by decide +kernel
theorem dX7_lacks_57 : decode cX7_lacks 57 = .ok (.iconst 5, 1) := by decide +kernel
theorem dX7_lacks_58 : decode cX7_lacks 58 = .ok (.invokestatic 44, 3) := by decide +kernel
theorem dX7_lacks_61 : decode cX7_lacks 61 = .ok (.goto 4, 3) := by decide +kernel
theorem dX7_lacks_64 : decode cX7_lacks 64 = .ok (.iconst 0, 1) := by decide +kernel
theorem dX7_lacks_65 : decode cX7_lacks 65 = .ok (.ior, 1) := by decide +kernel
theorem dX7_lacks_66 : decode cX7_lacks 66 = .ok (.istore_n 2, 1) := by decide +kernel
theorem dX7_lacks_67 : decode cX7_lacks 67 = .ok (.iinc 3 1, 3) := by decide +kernel
theorem dX7_lacks_70 : decode cX7_lacks 70 = .ok (.goto (-41), 3) := by decide +kernel
theorem dX7_lacks_73 : decode cX7_lacks 73 = .ok (.iload_n 2, 1) := by decide +kernel
theorem dX7_lacks_74 : decode cX7_lacks 74 = .ok (.aload_n 0, 1) := by decide +kernel
theorem dX7_lacks_75 : decode cX7_lacks 75 = .ok (.getfield 13, 3) := by decide +kernel
theorem dX7_lacks_78 : decode cX7_lacks 78 = .ok (.iload_n 1, 1) := by decide +kernel
theorem dX7_lacks_79 : decode cX7_lacks 79 = .ok (.iconst 5, 1) := by decide +kernel
theorem dX7_lacks_80 : decode cX7_lacks 80 = .ok (.invokestatic 44, 3) := by decide +kernel
theorem dX7_lacks_83 : decode cX7_lacks 83 = .ok (.iconst (-1), 1) := by decide +kernel
theorem dX7_lacks_84 : decode cX7_lacks 84 = .ok (.ixor, 1) := by decide +kernel
theorem dX7_lacks_85 : decode cX7_lacks 85 = .ok (.iand, 1) := by decide +kernel
theorem dX7_lacks_86 : decode cX7_lacks 86 = .ok (.invokestatic 120, 3) := by decide +kernel
theorem dX7_lacks_89 : decode cX7_lacks 89 = .ok (.ireturn, 1) := by decide +kernel
theorem dX7_together_0 : decode cX7_together 0 = .ok (.aload_n 0, 1) := by decide +kernel
theorem dX7_together_1 : decode cX7_together 1 = .ok (.iconst 0, 1) := by decide +kernel
theorem dX7_together_2 : decode cX7_together 2 = .ok (.putfield 36, 3) := by decide +kernel
theorem dX7_together_5 : decode cX7_together 5 = .ok (.iconst 0, 1) := by decide +kernel
theorem dX7_together_6 : decode cX7_together 6 = .ok (.istore_n 1, 1) := by decide +kernel
theorem dX7_together_7 : decode cX7_together 7 = .ok (.iconst 0, 1) := by decide +kernel
theorem dX7_together_8 : decode cX7_together 8 = .ok (.istore_n 2, 1) := by decide +kernel
theorem dX7_together_9 : decode cX7_together 9 = .ok (.iload_n 2, 1) := by decide +kernel
theorem dX7_together_10 : decode cX7_together 10 = .ok (.aload_n 0, 1) := by decide +kernel
theorem dX7_together_11 : decode cX7_together 11 = .ok (.getfield 13, 3) := by decide +kernel
theorem dX7_together_14 : decode cX7_together 14 = .ok (.iconst 0, 1) := by decide +kernel
theorem dX7_together_15 : decode cX7_together 15 = .ok (.iaload, 1) := by decide +kernel
theorem dX7_together_16 : decode cX7_together 16 = .ok (.if_icmp .ge 95, 3) := by decide +kernel
theorem dX7_together_19 : decode cX7_together 19 = .ok (.iconst 0, 1) := by decide +kernel
theorem dX7_together_20 : decode cX7_together 20 = .ok (.istore_n 3, 1) := by decide +kernel
theorem dX7_together_21 : decode cX7_together 21 = .ok (.iconst 0, 1) := by decide +kernel
theorem dX7_together_22 : decode cX7_together 22 = .ok (.istore 4, 2) := by decide +kernel
theorem dX7_together_24 : decode cX7_together 24 = .ok (.iload 4, 2) := by decide +kernel
theorem dX7_together_26 : decode cX7_together 26 = .ok (.aload_n 0, 1) := by decide +kernel
theorem dX7_together_27 : decode cX7_together 27 = .ok (.getfield 13, 3) := by decide +kernel
theorem dX7_together_30 : decode cX7_together 30 = .ok (.iconst 0, 1) := by decide +kernel
theorem dX7_together_31 : decode cX7_together 31 = .ok (.iaload, 1) := by decide +kernel
theorem dX7_together_32 : decode cX7_together 32 = .ok (.if_icmp .ge 56, 3) := by decide +kernel
theorem dX7_together_35 : decode cX7_together 35 = .ok (.iload_n 3, 1) := by decide +kernel
theorem dX7_together_36 : decode cX7_together 36 = .ok (.aload_n 0, 1) := by decide +kernel
theorem dX7_together_37 : decode cX7_together 37 = .ok (.getfield 13, 3) := by decide +kernel
theorem dX7_together_40 : decode cX7_together 40 = .ok (.iload_n 2, 1) := by decide +kernel
theorem dX7_together_41 : decode cX7_together 41 = .ok (.invokestatic 169, 3) := by decide +kernel
theorem dX7_together_44 : decode cX7_together 44 = .ok (.ifCond .ne 35, 3) := by decide +kernel
theorem dX7_together_47 : decode cX7_together 47 = .ok (.aload_n 0, 1) := by decide +kernel
theorem dX7_together_48 : decode cX7_together 48 = .ok (.getfield 13, 3) := by decide +kernel
theorem dX7_together_51 : decode cX7_together 51 = .ok (.iload 4, 2) := by decide +kernel
theorem dX7_together_53 : decode cX7_together 53 = .ok (.invokestatic 169, 3) := by decide +kernel
theorem dX7_together_56 : decode cX7_together 56 = .ok (.ifCond .ne 23, 3) := by decide +kernel
theorem dX7_together_59 : decode cX7_together 59 = .ok (.aload_n 0, 1) := by decide +kernel
theorem dX7_together_60 : decode cX7_together 60 = .ok (.getfield 13, 3) := by decide +kernel
theorem dX7_together_63 : decode cX7_together 63 = .ok (.iload_n 2, 1) := by decide +kernel
theorem dX7_together_64 : decode cX7_together 64 = .ok (.iload 4, 2) := by decide +kernel
theorem dX7_together_66 : decode cX7_together 66 = .ok (.invokestatic 223, 3) := by decide +kernel
theorem dX7_together_69 : decode cX7_together 69 = .ok (.ifCond .eq 10, 3) := by decide +kernel
theorem dX7_together_72 : decode cX7_together 72 = .ok (.iconst 1, 1) := by decide +kernel
theorem dX7_together_73 : decode cX7_together 73 = .ok (.iload 4, 2) := by decide +kernel
theorem dX7_together_75 : decode cX7_together 75 = .ok (.ishl, 1) := by decide +kernel
theorem dX7_together_76 : decode cX7_together 76 = .ok (.goto 4, 3) := by decide +kernel
theorem dX7_together_79 : decode cX7_together 79 = .ok (.iconst 0, 1) := by decide +kernel
theorem dX7_together_80 : decode cX7_together 80 = .ok (.ior, 1) := by decide +kernel
theorem dX7_together_81 : decode cX7_together 81 = .ok (.istore_n 3, 1) := by decide +kernel
theorem dX7_together_82 : decode cX7_together 82 = .ok (.iinc 4 1, 3) := by decide +kernel
theorem dX7_together_85 : decode cX7_together 85 = .ok (.goto (-61), 3) := by decide +kernel
theorem dX7_together_88 : decode cX7_together 88 = .ok (.iload_n 3, 1) := by decide +kernel
theorem dX7_together_89 : decode cX7_together 89 = .ok (.invokestatic 120, 3) := by decide +kernel
theorem dX7_together_92 : decode cX7_together 92 = .ok (.iload_n 1, 1) := by decide +kernel
theorem dX7_together_93 : decode cX7_together 93 = .ok (.invokestatic 120, 3) := by decide +kernel
theorem dX7_together_96 : decode cX7_together 96 = .ok (.if_icmp .le 7, 3) := by decide +kernel
theorem dX7_together_99 : decode cX7_together 99 = .ok (.iload_n 3, 1) := by decide +kernel
theorem dX7_together_100 : decode cX7_together 100 = .ok (.goto 4, 3) := by decide +kernel
theorem dX7_together_103 : decode cX7_together 103 = .ok (.iload_n 1, 1) := by decide +kernel
theorem dX7_together_104 : decode cX7_together 104 = .ok (.istore_n 1, 1) := by decide +kernel
theorem dX7_together_105 : decode cX7_together 105 = .ok (.iinc 2 1, 3) := by decide +kernel
theorem dX7_together_108 : decode cX7_together 108 = .ok (.goto (-99), 3) := by decide +kernel
theorem dX7_together_111 : decode cX7_together 111 = .ok (.iload_n 1, 1) := by decide +kernel
theorem dX7_together_112 : decode cX7_together 112 = .ok (.ireturn, 1) := by decide +kernel
theorem dX7_command_0 : decode cX7_command 0 = .ok (.iload_n 2, 1) := by decide +kernel
theorem dX7_command_1 : decode cX7_command 1 = .ok (.sipush 1000, 3) := by decide +kernel
theorem dX7_command_4 : decode cX7_command 4 = .ok (.idiv, 1) := by decide +kernel
theorem dX7_command_5 : decode cX7_command 5 = .ok (.istore_n 3, 1) := by decide +kernel
theorem dX7_command_6 : decode cX7_command 6 = .ok (.iload_n 2, 1) := by decide +kernel
theorem dX7_command_7 : decode cX7_command 7 = .ok (.sipush 1000, 3) := by decide +kernel
theorem dX7_command_10 : decode cX7_command 10 = .ok (.irem, 1) := by decide +kernel
theorem dX7_command_11 : decode cX7_command 11 = .ok (.istore 4, 2) := by decide +kernel
theorem dX7_command_13 : decode cX7_command 13 = .ok (.iload 4, 2) := by decide +kernel
theorem dX7_command_15 : decode cX7_command 15 = .ok (.bipush 100, 2) := by decide +kernel
theorem dX7_command_17 : decode cX7_command 17 = .ok (.idiv, 1) := by decide +kernel
theorem dX7_command_18 : decode cX7_command 18 = .ok (.istore 5, 2) := by decide +kernel
theorem dX7_command_20 : decode cX7_command 20 = .ok (.iload_n 2, 1) := by decide +kernel
theorem dX7_command_21 : decode cX7_command 21 = .ok (.bipush 10, 2) := by decide +kernel
theorem dX7_command_23 : decode cX7_command 23 = .ok (.idiv, 1) := by decide +kernel
theorem dX7_command_24 : decode cX7_command 24 = .ok (.bipush 10, 2) := by decide +kernel
theorem dX7_command_26 : decode cX7_command 26 = .ok (.irem, 1) := by decide +kernel
theorem dX7_command_27 : decode cX7_command 27 = .ok (.istore 6, 2) := by decide +kernel
theorem dX7_command_29 : decode cX7_command 29 = .ok (.iload_n 2, 1) := by decide +kernel
theorem dX7_command_30 : decode cX7_command 30 = .ok (.bipush 10, 2) := by decide +kernel
theorem dX7_command_32 : decode cX7_command 32 = .ok (.irem, 1) := by decide +kernel
theorem dX7_command_33 : decode cX7_command 33 = .ok (.istore 7, 2) := by decide +kernel
theorem dX7_command_35 : decode cX7_command 35 = .ok (.iload_n 2, 1) := by decide +kernel
theorem dX7_command_36 : decode cX7_command 36 = .ok (.bipush 100, 2) := by decide +kernel
theorem dX7_command_38 : decode cX7_command 38 = .ok (.irem, 1) := by decide +kernel
theorem dX7_command_39 : decode cX7_command 39 = .ok (.istore 8, 2) := by decide +kernel
theorem dX7_command_41 : decode cX7_command 41 = .ok (.iload_n 1, 1) := by decide +kernel
theorem dX7_command_42 : decode cX7_command 42 = .ok (.tableswitch 462 1 9 #[50, 83, 122, 192, 265, 295, 333, 371, 412], 50) := by decide +kernel
theorem dX7_command_92 : decode cX7_command 92 = .ok (.iload 4, 2) := by decide +kernel
theorem dX7_command_94 : decode cX7_command 94 = .ok (.ifCond .ne 29, 3) := by decide +kernel
theorem dX7_command_97 : decode cX7_command 97 = .ok (.aload_n 0, 1) := by decide +kernel
theorem dX7_command_98 : decode cX7_command 98 = .ok (.getfield 16, 3) := by decide +kernel
theorem dX7_command_101 : decode cX7_command 101 = .ok (.iload_n 3, 1) := by decide +kernel
theorem dX7_command_102 : decode cX7_command 102 = .ok (.invokestatic 156, 3) := by decide +kernel
theorem dX7_command_105 : decode cX7_command 105 = .ok (.ifCond .eq 18, 3) := by decide +kernel
theorem dX7_command_108 : decode cX7_command 108 = .ok (.aload_n 0, 1) := by decide +kernel
theorem dX7_command_109 : decode cX7_command 109 = .ok (.getfield 16, 3) := by decide +kernel
theorem dX7_command_112 : decode cX7_command 112 = .ok (.iload_n 3, 1) := by decide +kernel
theorem dX7_command_113 : decode cX7_command 113 = .ok (.invokestatic 159, 3) := by decide +kernel
theorem dX7_command_116 : decode cX7_command 116 = .ok (.ifCond .lt 7, 3) := by decide +kernel
theorem dX7_command_119 : decode cX7_command 119 = .ok (.iconst 1, 1) := by decide +kernel
theorem dX7_command_120 : decode cX7_command 120 = .ok (.goto 4, 3) := by decide +kernel
theorem dX7_command_123 : decode cX7_command 123 = .ok (.iconst 0, 1) := by decide +kernel
theorem dX7_command_124 : decode cX7_command 124 = .ok (.ireturn, 1) := by decide +kernel
theorem dX7_command_125 : decode cX7_command 125 = .ok (.iload 4, 2) := by decide +kernel
theorem dX7_command_127 : decode cX7_command 127 = .ok (.bipush 100, 2) := by decide +kernel
theorem dX7_command_129 : decode cX7_command 129 = .ok (.if_icmp .ge 33, 3) := by decide +kernel
theorem dX7_command_132 : decode cX7_command 132 = .ok (.aload_n 0, 1) := by decide +kernel
theorem dX7_command_133 : decode cX7_command 133 = .ok (.getfield 16, 3) := by decide +kernel
theorem dX7_command_136 : decode cX7_command 136 = .ok (.iload_n 3, 1) := by decide +kernel
theorem dX7_command_137 : decode cX7_command 137 = .ok (.iload 8, 2) := by decide +kernel
theorem dX7_command_139 : decode cX7_command 139 = .ok (.invokestatic 162, 3) := by decide +kernel
theorem dX7_command_142 : decode cX7_command 142 = .ok (.ifCond .eq 20, 3) := by decide +kernel
theorem dX7_command_145 : decode cX7_command 145 = .ok (.aload_n 0, 1) := by decide +kernel
theorem dX7_command_146 : decode cX7_command 146 = .ok (.getfield 16, 3) := by decide +kernel
theorem dX7_command_149 : decode cX7_command 149 = .ok (.iload_n 3, 1) := by decide +kernel
theorem dX7_command_150 : decode cX7_command 150 = .ok (.iload 8, 2) := by decide +kernel
theorem dX7_command_152 : decode cX7_command 152 = .ok (.invokestatic 106, 3) := by decide +kernel
theorem dX7_command_155 : decode cX7_command 155 = .ok (.ifCond .le 7, 3) := by decide +kernel
theorem dX7_command_158 : decode cX7_command 158 = .ok (.iconst 1, 1) := by decide +kernel
theorem dX7_command_159 : decode cX7_command 159 = .ok (.goto 4, 3) := by decide +kernel
theorem dX7_command_162 : decode cX7_command 162 = .ok (.iconst 0, 1) := by decide +kernel
theorem dX7_command_163 : decode cX7_command 163 = .ok (.ireturn, 1) := by decide +kernel
theorem dX7_command_164 : decode cX7_command 164 = .ok (.iload 7, 2) := by decide +kernel
theorem dX7_command_166 : decode cX7_command 166 = .ok (.ifCond .ne 66, 3) := by decide +kernel
theorem dX7_command_169 : decode cX7_command 169 = .ok (.iload 6, 2) := by decide +kernel
theorem dX7_command_171 : decode cX7_command 171 = .ok (.iconst 2, 1) := by decide +kernel
theorem dX7_command_172 : decode cX7_command 172 = .ok (.if_icmp .ge 60, 3) := by decide +kernel
theorem dX7_command_175 : decode cX7_command 175 = .ok (.iload_n 3, 1) := by decide +kernel
theorem dX7_command_176 : decode cX7_command 176 = .ok (.iload 5, 2) := by decide +kernel
theorem dX7_command_178 : decode cX7_command 178 = .ok (.if_icmp .eq 54, 3) := by decide +kernel
theorem dX7_command_181 : decode cX7_command 181 = .ok (.aload_n 0, 1) := by decide +kernel
theorem dX7_command_182 : decode cX7_command 182 = .ok (.getfield 16, 3) := by decide +kernel
theorem dX7_command_185 : decode cX7_command 185 = .ok (.iload_n 3, 1) := by decide +kernel
theorem dX7_command_186 : decode cX7_command 186 = .ok (.invokestatic 112, 3) := by decide +kernel
theorem dX7_command_189 : decode cX7_command 189 = .ok (.ifCond .eq 43, 3) := by decide +kernel
theorem dX7_command_192 : decode cX7_command 192 = .ok (.aload_n 0, 1) := by decide +kernel
theorem dX7_command_193 : decode cX7_command 193 = .ok (.getfield 16, 3) := by decide +kernel
theorem dX7_command_196 : decode cX7_command 196 = .ok (.iload 5, 2) := by decide +kernel
theorem dX7_command_198 : decode cX7_command 198 = .ok (.invokestatic 112, 3) := by decide +kernel
theorem dX7_command_201 : decode cX7_command 201 = .ok (.ifCond .eq 31, 3) := by decide +kernel
theorem dX7_command_204 : decode cX7_command 204 = .ok (.aload_n 0, 1) := by decide +kernel
theorem dX7_command_205 : decode cX7_command 205 = .ok (.getfield 16, 3) := by decide +kernel
theorem dX7_command_208 : decode cX7_command 208 = .ok (.iload_n 3, 1) := by decide +kernel
theorem dX7_command_209 : decode cX7_command 209 = .ok (.iload 5, 2) := by decide +kernel
theorem dX7_command_211 : decode cX7_command 211 = .ok (.iload 6, 2) := by decide +kernel
theorem dX7_command_213 : decode cX7_command 213 = .ok (.iconst 1, 1) := by decide +kernel
theorem dX7_command_214 : decode cX7_command 214 = .ok (.if_icmp .ne 7, 3) := by decide +kernel
theorem dX7_command_217 : decode cX7_command 217 = .ok (.iconst 1, 1) := by decide +kernel
theorem dX7_command_218 : decode cX7_command 218 = .ok (.goto 4, 3) := by decide +kernel
theorem dX7_command_221 : decode cX7_command 221 = .ok (.iconst 0, 1) := by decide +kernel
theorem dX7_command_222 : decode cX7_command 222 = .ok (.invokestatic 165, 3) := by decide +kernel
theorem dX7_command_225 : decode cX7_command 225 = .ok (.ifCond .lt 7, 3) := by decide +kernel
theorem dX7_command_228 : decode cX7_command 228 = .ok (.iconst 1, 1) := by decide +kernel
theorem dX7_command_229 : decode cX7_command 229 = .ok (.goto 4, 3) := by decide +kernel
theorem dX7_command_232 : decode cX7_command 232 = .ok (.iconst 0, 1) := by decide +kernel
theorem dX7_command_233 : decode cX7_command 233 = .ok (.ireturn, 1) := by decide +kernel
theorem dX7_command_234 : decode cX7_command 234 = .ok (.iload 4, 2) := by decide +kernel
theorem dX7_command_236 : decode cX7_command 236 = .ok (.iconst 2, 1) := by decide +kernel
theorem dX7_command_237 : decode cX7_command 237 = .ok (.if_icmp .ge 68, 3) := by decide +kernel
theorem dX7_command_240 : decode cX7_command 240 = .ok (.aload_n 0, 1) := by decide +kernel
theorem dX7_command_241 : decode cX7_command 241 = .ok (.getfield 16, 3) := by decide +kernel
theorem dX7_command_244 : decode cX7_command 244 = .ok (.iload_n 3, 1) := by decide +kernel
theorem dX7_command_245 : decode cX7_command 245 = .ok (.invokestatic 112, 3) := by decide +kernel
theorem dX7_command_248 : decode cX7_command 248 = .ok (.ifCond .eq 57, 3) := by decide +kernel
theorem dX7_command_251 : decode cX7_command 251 = .ok (.aload_n 0, 1) := by decide +kernel
theorem dX7_command_252 : decode cX7_command 252 = .ok (.getfield 16, 3) := by decide +kernel
theorem dX7_command_255 : decode cX7_command 255 = .ok (.iload_n 3, 1) := by decide +kernel
theorem dX7_command_256 : decode cX7_command 256 = .ok (.invokestatic 169, 3) := by decide +kernel
theorem dX7_command_259 : decode cX7_command 259 = .ok (.iload 7, 2) := by decide +kernel
theorem dX7_command_261 : decode cX7_command 261 = .ok (.iconst 1, 1) := by decide +kernel
theorem dX7_command_262 : decode cX7_command 262 = .ok (.if_icmp .ne 7, 3) := by decide +kernel
theorem dX7_command_265 : decode cX7_command 265 = .ok (.iconst 1, 1) := by decide +kernel
theorem dX7_command_266 : decode cX7_command 266 = .ok (.goto 4, 3) := by decide +kernel
theorem dX7_command_269 : decode cX7_command 269 = .ok (.iconst 0, 1) := by decide +kernel
theorem dX7_command_270 : decode cX7_command 270 = .ok (.if_icmp .ne 35, 3) := by decide +kernel
theorem dX7_command_273 : decode cX7_command 273 = .ok (.iload 7, 2) := by decide +kernel
theorem dX7_command_275 : decode cX7_command 275 = .ok (.iconst 1, 1) := by decide +kernel
theorem dX7_command_276 : decode cX7_command 276 = .ok (.if_icmp .ne 14, 3) := by decide +kernel
theorem dX7_command_279 : decode cX7_command 279 = .ok (.aload_n 0, 1) := by decide +kernel
theorem dX7_command_280 : decode cX7_command 280 = .ok (.getfield 16, 3) := by decide +kernel
theorem dX7_command_283 : decode cX7_command 283 = .ok (.iload_n 3, 1) := by decide +kernel
theorem dX7_command_284 : decode cX7_command 284 = .ok (.invokestatic 175, 3) := by decide +kernel
theorem dX7_command_287 : decode cX7_command 287 = .ok (.goto 11, 3) := by decide +kernel
theorem dX7_command_290 : decode cX7_command 290 = .ok (.aload_n 0, 1) := by decide +kernel
theorem dX7_command_291 : decode cX7_command 291 = .ok (.getfield 16, 3) := by decide +kernel
theorem dX7_command_294 : decode cX7_command 294 = .ok (.iload_n 3, 1) := by decide +kernel
theorem dX7_command_295 : decode cX7_command 295 = .ok (.invokestatic 172, 3) := by decide +kernel
theorem dX7_command_298 : decode cX7_command 298 = .ok (.ifCond .lt 7, 3) := by decide +kernel
theorem dX7_command_301 : decode cX7_command 301 = .ok (.iconst 1, 1) := by decide +kernel
theorem dX7_command_302 : decode cX7_command 302 = .ok (.goto 4, 3) := by decide +kernel
theorem dX7_command_305 : decode cX7_command 305 = .ok (.iconst 0, 1) := by decide +kernel
theorem dX7_command_306 : decode cX7_command 306 = .ok (.ireturn, 1) := by decide +kernel
theorem dX7_command_307 : decode cX7_command 307 = .ok (.iload_n 2, 1) := by decide +kernel
theorem dX7_command_308 : decode cX7_command 308 = .ok (.i2l, 1) := by decide +kernel
theorem dX7_command_309 : decode cX7_command 309 = .ok (.lconst 1, 1) := by decide +kernel
theorem dX7_command_310 : decode cX7_command 310 = .ok (.ldc2_w 210, 3) := by decide +kernel
theorem dX7_command_313 : decode cX7_command 313 = .ok (.invokestatic 40, 3) := by decide +kernel
theorem dX7_command_316 : decode cX7_command 316 = .ok (.ifCond .eq 19, 3) := by decide +kernel
theorem dX7_command_319 : decode cX7_command 319 = .ok (.aload_n 0, 1) := by decide +kernel
theorem dX7_command_320 : decode cX7_command 320 = .ok (.aload_n 0, 1) := by decide +kernel
theorem dX7_command_321 : decode cX7_command 321 = .ok (.getfield 16, 3) := by decide +kernel
theorem dX7_command_324 : decode cX7_command 324 = .ok (.iload_n 2, 1) := by decide +kernel
theorem dX7_command_325 : decode cX7_command 325 = .ok (.invokevirtual 178, 3) := by decide +kernel
theorem dX7_command_328 : decode cX7_command 328 = .ok (.ifCond .lt 7, 3) := by decide +kernel
theorem dX7_command_331 : decode cX7_command 331 = .ok (.iconst 1, 1) := by decide +kernel
theorem dX7_command_332 : decode cX7_command 332 = .ok (.goto 4, 3) := by decide +kernel
theorem dX7_command_335 : decode cX7_command 335 = .ok (.iconst 0, 1) := by decide +kernel
theorem dX7_command_336 : decode cX7_command 336 = .ok (.ireturn, 1) := by decide +kernel
theorem dX7_command_337 : decode cX7_command 337 = .ok (.iload 4, 2) := by decide +kernel
theorem dX7_command_339 : decode cX7_command 339 = .ok (.bipush 100, 2) := by decide +kernel
theorem dX7_command_341 : decode cX7_command 341 = .ok (.if_icmp .ge 32, 3) := by decide +kernel
theorem dX7_command_344 : decode cX7_command 344 = .ok (.aload_n 0, 1) := by decide +kernel
theorem dX7_command_345 : decode cX7_command 345 = .ok (.getfield 16, 3) := by decide +kernel
theorem dX7_command_348 : decode cX7_command 348 = .ok (.iload_n 3, 1) := by decide +kernel
theorem dX7_command_349 : decode cX7_command 349 = .ok (.invokestatic 112, 3) := by decide +kernel
theorem dX7_command_352 : decode cX7_command 352 = .ok (.ifCond .eq 21, 3) := by decide +kernel
theorem dX7_command_355 : decode cX7_command 355 = .ok (.aload_n 0, 1) := by decide +kernel
theorem dX7_command_356 : decode cX7_command 356 = .ok (.getfield 16, 3) := by decide +kernel
theorem dX7_command_359 : decode cX7_command 359 = .ok (.iload_n 3, 1) := by decide +kernel
theorem dX7_command_360 : decode cX7_command 360 = .ok (.iconst 2, 1) := by decide +kernel
theorem dX7_command_361 : decode cX7_command 361 = .ok (.invokestatic 44, 3) := by decide +kernel
theorem dX7_command_364 : decode cX7_command 364 = .ok (.iload 8, 2) := by decide +kernel
theorem dX7_command_366 : decode cX7_command 366 = .ok (.if_icmp .lt 7, 3) := by decide +kernel
theorem dX7_command_369 : decode cX7_command 369 = .ok (.iconst 1, 1) := by decide +kernel
theorem dX7_command_370 : decode cX7_command 370 = .ok (.goto 4, 3) := by decide +kernel
theorem dX7_command_373 : decode cX7_command 373 = .ok (.iconst 0, 1) := by decide +kernel
theorem dX7_command_374 : decode cX7_command 374 = .ok (.ireturn, 1) := by decide +kernel
theorem dX7_command_375 : decode cX7_command 375 = .ok (.iload 4, 2) := by decide +kernel
theorem dX7_command_377 : decode cX7_command 377 = .ok (.bipush 10, 2) := by decide +kernel
theorem dX7_command_379 : decode cX7_command 379 = .ok (.if_icmp .ge 32, 3) := by decide +kernel
theorem dX7_command_382 : decode cX7_command 382 = .ok (.aload_n 0, 1) := by decide +kernel
theorem dX7_command_383 : decode cX7_command 383 = .ok (.getfield 16, 3) := by decide +kernel
theorem dX7_command_386 : decode cX7_command 386 = .ok (.iload_n 3, 1) := by decide +kernel
theorem dX7_command_387 : decode cX7_command 387 = .ok (.invokestatic 112, 3) := by decide +kernel
theorem dX7_command_390 : decode cX7_command 390 = .ok (.ifCond .eq 21, 3) := by decide +kernel
theorem dX7_command_393 : decode cX7_command 393 = .ok (.aload_n 0, 1) := by decide +kernel
theorem dX7_command_394 : decode cX7_command 394 = .ok (.getfield 16, 3) := by decide +kernel
theorem dX7_command_397 : decode cX7_command 397 = .ok (.iload_n 3, 1) := by decide +kernel
theorem dX7_command_398 : decode cX7_command 398 = .ok (.iconst 1, 1) := by decide +kernel
theorem dX7_command_399 : decode cX7_command 399 = .ok (.invokestatic 44, 3) := by decide +kernel
theorem dX7_command_402 : decode cX7_command 402 = .ok (.iload 7, 2) := by decide +kernel
theorem dX7_command_404 : decode cX7_command 404 = .ok (.if_icmp .ne 7, 3) := by decide +kernel
theorem dX7_command_407 : decode cX7_command 407 = .ok (.iconst 1, 1) := by decide +kernel
theorem dX7_command_408 : decode cX7_command 408 = .ok (.goto 4, 3) := by decide +kernel
theorem dX7_command_411 : decode cX7_command 411 = .ok (.iconst 0, 1) := by decide +kernel
theorem dX7_command_412 : decode cX7_command 412 = .ok (.ireturn, 1) := by decide +kernel
theorem dX7_command_413 : decode cX7_command 413 = .ok (.iload 4, 2) := by decide +kernel
theorem dX7_command_415 : decode cX7_command 415 = .ok (.bipush 100, 2) := by decide +kernel
theorem dX7_command_417 : decode cX7_command 417 = .ok (.if_icmp .ge 35, 3) := by decide +kernel
theorem dX7_command_420 : decode cX7_command 420 = .ok (.aload_n 0, 1) := by decide +kernel
theorem dX7_command_421 : decode cX7_command 421 = .ok (.getfield 16, 3) := by decide +kernel
theorem dX7_command_424 : decode cX7_command 424 = .ok (.iload_n 3, 1) := by decide +kernel
theorem dX7_command_425 : decode cX7_command 425 = .ok (.invokestatic 112, 3) := by decide +kernel
theorem dX7_command_428 : decode cX7_command 428 = .ok (.ifCond .eq 24, 3) := by decide +kernel
theorem dX7_command_431 : decode cX7_command 431 = .ok (.aload_n 0, 1) := by decide +kernel
theorem dX7_command_432 : decode cX7_command 432 = .ok (.getfield 16, 3) := by decide +kernel
theorem dX7_command_435 : decode cX7_command 435 = .ok (.iload_n 3, 1) := by decide +kernel
theorem dX7_command_436 : decode cX7_command 436 = .ok (.iconst 5, 1) := by decide +kernel
theorem dX7_command_437 : decode cX7_command 437 = .ok (.invokestatic 44, 3) := by decide +kernel
theorem dX7_command_440 : decode cX7_command 440 = .ok (.invokestatic 120, 3) := by decide +kernel
theorem dX7_command_443 : decode cX7_command 443 = .ok (.iload 8, 2) := by decide +kernel
theorem dX7_command_445 : decode cX7_command 445 = .ok (.if_icmp .lt 7, 3) := by decide +kernel
theorem dX7_command_448 : decode cX7_command 448 = .ok (.iconst 1, 1) := by decide +kernel
theorem dX7_command_449 : decode cX7_command 449 = .ok (.goto 4, 3) := by decide +kernel
theorem dX7_command_452 : decode cX7_command 452 = .ok (.iconst 0, 1) := by decide +kernel
theorem dX7_command_453 : decode cX7_command 453 = .ok (.ireturn, 1) := by decide +kernel
theorem dX7_command_454 : decode cX7_command 454 = .ok (.iload 6, 2) := by decide +kernel
theorem dX7_command_456 : decode cX7_command 456 = .ok (.ifCond .ne 46, 3) := by decide +kernel
theorem dX7_command_459 : decode cX7_command 459 = .ok (.aload_n 0, 1) := by decide +kernel
theorem dX7_command_460 : decode cX7_command 460 = .ok (.getfield 16, 3) := by decide +kernel
theorem dX7_command_463 : decode cX7_command 463 = .ok (.iload_n 3, 1) := by decide +kernel
theorem dX7_command_464 : decode cX7_command 464 = .ok (.invokestatic 112, 3) := by decide +kernel
theorem dX7_command_467 : decode cX7_command 467 = .ok (.ifCond .eq 35, 3) := by decide +kernel
theorem dX7_command_470 : decode cX7_command 470 = .ok (.aload_n 0, 1) := by decide +kernel
theorem dX7_command_471 : decode cX7_command 471 = .ok (.getfield 16, 3) := by decide +kernel
theorem dX7_command_474 : decode cX7_command 474 = .ok (.iload 5, 2) := by decide +kernel
theorem dX7_command_476 : decode cX7_command 476 = .ok (.invokestatic 112, 3) := by decide +kernel
theorem dX7_command_479 : decode cX7_command 479 = .ok (.ifCond .eq 23, 3) := by decide +kernel
theorem dX7_command_482 : decode cX7_command 482 = .ok (.aload_n 0, 1) := by decide +kernel
theorem dX7_command_483 : decode cX7_command 483 = .ok (.getfield 16, 3) := by decide +kernel
theorem dX7_command_486 : decode cX7_command 486 = .ok (.iload_n 3, 1) := by decide +kernel
theorem dX7_command_487 : decode cX7_command 487 = .ok (.iload 5, 2) := by decide +kernel
theorem dX7_command_489 : decode cX7_command 489 = .ok (.iconst 1, 1) := by decide +kernel
theorem dX7_command_490 : decode cX7_command 490 = .ok (.invokestatic 219, 3) := by decide +kernel
theorem dX7_command_493 : decode cX7_command 493 = .ok (.iload 7, 2) := by decide +kernel
theorem dX7_command_495 : decode cX7_command 495 = .ok (.if_icmp .gt 7, 3) := by decide +kernel
theorem dX7_command_498 : decode cX7_command 498 = .ok (.iconst 1, 1) := by decide +kernel
theorem dX7_command_499 : decode cX7_command 499 = .ok (.goto 4, 3) := by decide +kernel
theorem dX7_command_502 : decode cX7_command 502 = .ok (.iconst 0, 1) := by decide +kernel
theorem dX7_command_503 : decode cX7_command 503 = .ok (.ireturn, 1) := by decide +kernel
theorem dX7_command_504 : decode cX7_command 504 = .ok (.iconst 0, 1) := by decide +kernel
theorem dX7_command_505 : decode cX7_command 505 = .ok (.ireturn, 1) := by decide +kernel
theorem dX7_runScript_0 : decode cX7_runScript 0 = .ok (.lconst 1, 1) := by decide +kernel
theorem dX7_runScript_1 : decode cX7_runScript 1 = .ok (.lstore 4, 2) := by decide +kernel
theorem dX7_runScript_3 : decode cX7_runScript 3 = .ok (.iconst 0, 1) := by decide +kernel
theorem dX7_runScript_4 : decode cX7_runScript 4 = .ok (.istore 6, 2) := by decide +kernel
theorem dX7_runScript_6 : decode cX7_runScript 6 = .ok (.iload 6, 2) := by decide +kernel
theorem dX7_runScript_8 : decode cX7_runScript 8 = .ok (.iload_n 1, 1) := by decide +kernel
theorem dX7_runScript_9 : decode cX7_runScript 9 = .ok (.if_icmp .ge 23, 3) := by decide +kernel
theorem dX7_runScript_12 : decode cX7_runScript 12 = .ok (.iload 6, 2) := by decide +kernel
theorem dX7_runScript_14 : decode cX7_runScript 14 = .ok (.iconst 3, 1) := by decide +kernel
theorem dX7_runScript_15 : decode cX7_runScript 15 = .ok (.if_icmp .ge 17, 3) := by decide +kernel
theorem dX7_runScript_18 : decode cX7_runScript 18 = .ok (.lload 4, 2) := by decide +kernel
theorem dX7_runScript_20 : decode cX7_runScript 20 = .ok (.ldc2_w 226, 3) := by decide +kernel
theorem dX7_runScript_23 : decode cX7_runScript 23 = .ok (.lmul, 1) := by decide +kernel
theorem dX7_runScript_24 : decode cX7_runScript 24 = .ok (.lstore 4, 2) := by decide +kernel
theorem dX7_runScript_26 : decode cX7_runScript 26 = .ok (.iinc 6 1, 3) := by decide +kernel
theorem dX7_runScript_29 : decode cX7_runScript 29 = .ok (.goto (-23), 3) := by decide +kernel
theorem dX7_runScript_32 : decode cX7_runScript 32 = .ok (.aload_n 0, 1) := by decide +kernel
theorem dX7_runScript_33 : decode cX7_runScript 33 = .ok (.iload_n 1, 1) := by decide +kernel
theorem dX7_runScript_34 : decode cX7_runScript 34 = .ok (.i2l, 1) := by decide +kernel
theorem dX7_runScript_35 : decode cX7_runScript 35 = .ok (.lconst 1, 1) := by decide +kernel
theorem dX7_runScript_36 : decode cX7_runScript 36 = .ok (.ldc2_w 228, 3) := by decide +kernel
theorem dX7_runScript_39 : decode cX7_runScript 39 = .ok (.invokestatic 40, 3) := by decide +kernel
theorem dX7_runScript_42 : decode cX7_runScript 42 = .ok (.ifCond .eq 19, 3) := by decide +kernel
theorem dX7_runScript_45 : decode cX7_runScript 45 = .ok (.lload_n 2, 1) := by decide +kernel
theorem dX7_runScript_46 : decode cX7_runScript 46 = .ok (.lconst 0, 1) := by decide +kernel
theorem dX7_runScript_47 : decode cX7_runScript 47 = .ok (.lload 4, 2) := by decide +kernel
theorem dX7_runScript_49 : decode cX7_runScript 49 = .ok (.lconst 1, 1) := by decide +kernel
theorem dX7_runScript_50 : decode cX7_runScript 50 = .ok (.lsub, 1) := by decide +kernel
theorem dX7_runScript_51 : decode cX7_runScript 51 = .ok (.invokestatic 40, 3) := by decide +kernel
theorem dX7_runScript_54 : decode cX7_runScript 54 = .ok (.ifCond .eq 7, 3) := by decide +kernel
theorem dX7_runScript_57 : decode cX7_runScript 57 = .ok (.iconst 0, 1) := by decide +kernel
theorem dX7_runScript_58 : decode cX7_runScript 58 = .ok (.goto 4, 3) := by decide +kernel
theorem dX7_runScript_61 : decode cX7_runScript 61 = .ok (.iconst 1, 1) := by decide +kernel
theorem dX7_runScript_62 : decode cX7_runScript 62 = .ok (.invokevirtual 129, 3) := by decide +kernel
theorem dX7_runScript_65 : decode cX7_runScript 65 = .ok (.ifCond .eq 5, 3) := by decide +kernel
theorem dX7_runScript_68 : decode cX7_runScript 68 = .ok (.iconst 0, 1) := by decide +kernel
theorem dX7_runScript_69 : decode cX7_runScript 69 = .ok (.ireturn, 1) := by decide +kernel
theorem dX7_runScript_70 : decode cX7_runScript 70 = .ok (.aload_n 0, 1) := by decide +kernel
theorem dX7_runScript_71 : decode cX7_runScript 71 = .ok (.getfield 13, 3) := by decide +kernel
theorem dX7_runScript_74 : decode cX7_runScript 74 = .ok (.iconst 0, 1) := by decide +kernel
theorem dX7_runScript_75 : decode cX7_runScript 75 = .ok (.aload_n 0, 1) := by decide +kernel
theorem dX7_runScript_76 : decode cX7_runScript 76 = .ok (.getfield 16, 3) := by decide +kernel
theorem dX7_runScript_79 : decode cX7_runScript 79 = .ok (.iconst 0, 1) := by decide +kernel
theorem dX7_runScript_80 : decode cX7_runScript 80 = .ok (.invokestatic 189, 3) := by decide +kernel
theorem dX7_runScript_83 : decode cX7_runScript 83 = .ok (.iconst 0, 1) := by decide +kernel
theorem dX7_runScript_84 : decode cX7_runScript 84 = .ok (.istore 6, 2) := by decide +kernel
theorem dX7_runScript_86 : decode cX7_runScript 86 = .ok (.iload 6, 2) := by decide +kernel
theorem dX7_runScript_88 : decode cX7_runScript 88 = .ok (.iload_n 1, 1) := by decide +kernel
theorem dX7_runScript_89 : decode cX7_runScript 89 = .ok (.if_icmp .ge 50, 3) := by decide +kernel
theorem dX7_runScript_92 : decode cX7_runScript 92 = .ok (.lload 4, 2) := by decide +kernel
theorem dX7_runScript_94 : decode cX7_runScript 94 = .ok (.ldc2_w 226, 3) := by decide +kernel
theorem dX7_runScript_97 : decode cX7_runScript 97 = .ok (.ldiv, 1) := by decide +kernel
theorem dX7_runScript_98 : decode cX7_runScript 98 = .ok (.lstore 4, 2) := by decide +kernel
theorem dX7_runScript_100 : decode cX7_runScript 100 = .ok (.lload_n 2, 1) := by decide +kernel
theorem dX7_runScript_101 : decode cX7_runScript 101 = .ok (.lload 4, 2) := by decide +kernel
theorem dX7_runScript_103 : decode cX7_runScript 103 = .ok (.ldiv, 1) := by decide +kernel
theorem dX7_runScript_104 : decode cX7_runScript 104 = .ok (.ldc2_w 226, 3) := by decide +kernel
theorem dX7_runScript_107 : decode cX7_runScript 107 = .ok (.lrem, 1) := by decide +kernel
theorem dX7_runScript_108 : decode cX7_runScript 108 = .ok (.l2i, 1) := by decide +kernel
theorem dX7_runScript_109 : decode cX7_runScript 109 = .ok (.istore 7, 2) := by decide +kernel
theorem dX7_runScript_111 : decode cX7_runScript 111 = .ok (.aload_n 0, 1) := by decide +kernel
theorem dX7_runScript_112 : decode cX7_runScript 112 = .ok (.iload 7, 2) := by decide +kernel
theorem dX7_runScript_114 : decode cX7_runScript 114 = .ok (.sipush 10000, 3) := by decide +kernel
theorem dX7_runScript_117 : decode cX7_runScript 117 = .ok (.idiv, 1) := by decide +kernel
theorem dX7_runScript_118 : decode cX7_runScript 118 = .ok (.iload 7, 2) := by decide +kernel
theorem dX7_runScript_120 : decode cX7_runScript 120 = .ok (.sipush 10000, 3) := by decide +kernel
theorem dX7_runScript_123 : decode cX7_runScript 123 = .ok (.irem, 1) := by decide +kernel
theorem dX7_runScript_124 : decode cX7_runScript 124 = .ok (.invokevirtual 230, 3) := by decide +kernel
theorem dX7_runScript_127 : decode cX7_runScript 127 = .ok (.ifCond .ne 6, 3) := by decide +kernel
theorem dX7_runScript_130 : decode cX7_runScript 130 = .ok (.iload 6, 2) := by decide +kernel
theorem dX7_runScript_132 : decode cX7_runScript 132 = .ok (.ireturn, 1) := by decide +kernel
theorem dX7_runScript_133 : decode cX7_runScript 133 = .ok (.iinc 6 1, 3) := by decide +kernel
theorem dX7_runScript_136 : decode cX7_runScript 136 = .ok (.goto (-50), 3) := by decide +kernel
theorem dX7_runScript_139 : decode cX7_runScript 139 = .ok (.iconst (-1), 1) := by decide +kernel
theorem dX7_runScript_140 : decode cX7_runScript 140 = .ok (.ireturn, 1) := by decide +kernel
theorem dX7_turn_0 : decode cX7_turn 0 = .ok (.iload_n 1, 1) := by decide +kernel
theorem dX7_turn_1 : decode cX7_turn 1 = .ok (.bipush 16, 2) := by decide +kernel
theorem dX7_turn_3 : decode cX7_turn 3 = .ok (.idiv, 1) := by decide +kernel
theorem dX7_turn_4 : decode cX7_turn 4 = .ok (.istore_n 2, 1) := by decide +kernel
theorem dX7_turn_5 : decode cX7_turn 5 = .ok (.iload_n 2, 1) := by decide +kernel
theorem dX7_turn_6 : decode cX7_turn 6 = .ok (.bipush 6, 2) := by decide +kernel
theorem dX7_turn_8 : decode cX7_turn 8 = .ok (.irem, 1) := by decide +kernel
theorem dX7_turn_9 : decode cX7_turn 9 = .ok (.istore_n 3, 1) := by decide +kernel
theorem dX7_turn_10 : decode cX7_turn 10 = .ok (.iload_n 1, 1) := by decide +kernel
theorem dX7_turn_11 : decode cX7_turn 11 = .ok (.bipush 16, 2) := by decide +kernel
theorem dX7_turn_13 : decode cX7_turn 13 = .ok (.irem, 1) := by decide +kernel
theorem dX7_turn_14 : decode cX7_turn 14 = .ok (.istore 4, 2) := by decide +kernel
theorem dX7_turn_16 : decode cX7_turn 16 = .ok (.iload 4, 2) := by decide +kernel
theorem dX7_turn_18 : decode cX7_turn 18 = .ok (.ifCond .ne 29, 3) := by decide +kernel
theorem dX7_turn_21 : decode cX7_turn 21 = .ok (.aload_n 0, 1) := by decide +kernel
theorem dX7_turn_22 : decode cX7_turn 22 = .ok (.getfield 16, 3) := by decide +kernel
theorem dX7_turn_25 : decode cX7_turn 25 = .ok (.iconst 0, 1) := by decide +kernel
theorem dX7_turn_26 : decode cX7_turn 26 = .ok (.iaload, 1) := by decide +kernel
theorem dX7_turn_27 : decode cX7_turn 27 = .ok (.bipush 6, 2) := by decide +kernel
theorem dX7_turn_29 : decode cX7_turn 29 = .ok (.if_icmp .ge 244, 3) := by decide +kernel
theorem dX7_turn_32 : decode cX7_turn 32 = .ok (.aload_n 0, 1) := by decide +kernel
theorem dX7_turn_33 : decode cX7_turn 33 = .ok (.getfield 16, 3) := by decide +kernel
theorem dX7_turn_36 : decode cX7_turn 36 = .ok (.iload_n 2, 1) := by decide +kernel
theorem dX7_turn_37 : decode cX7_turn 37 = .ok (.bipush 10, 2) := by decide +kernel
theorem dX7_turn_39 : decode cX7_turn 39 = .ok (.irem, 1) := by decide +kernel
theorem dX7_turn_40 : decode cX7_turn 40 = .ok (.invokestatic 145, 3) := by decide +kernel
theorem dX7_turn_43 : decode cX7_turn 43 = .ok (.pop, 1) := by decide +kernel
theorem dX7_turn_44 : decode cX7_turn 44 = .ok (.goto 229, 3) := by decide +kernel
theorem dX7_turn_47 : decode cX7_turn 47 = .ok (.iload 4, 2) := by decide +kernel
theorem dX7_turn_49 : decode cX7_turn 49 = .ok (.bipush 6, 2) := by decide +kernel
theorem dX7_turn_51 : decode cX7_turn 51 = .ok (.if_icmp .ge 26, 3) := by decide +kernel
theorem dX7_turn_54 : decode cX7_turn 54 = .ok (.aload_n 0, 1) := by decide +kernel
theorem dX7_turn_55 : decode cX7_turn 55 = .ok (.getfield 16, 3) := by decide +kernel
theorem dX7_turn_58 : decode cX7_turn 58 = .ok (.iload_n 3, 1) := by decide +kernel
theorem dX7_turn_59 : decode cX7_turn 59 = .ok (.invokestatic 156, 3) := by decide +kernel
theorem dX7_turn_62 : decode cX7_turn 62 = .ok (.ifCond .eq 211, 3) := by decide +kernel
theorem dX7_turn_65 : decode cX7_turn 65 = .ok (.aload_n 0, 1) := by decide +kernel
theorem dX7_turn_66 : decode cX7_turn 66 = .ok (.getfield 16, 3) := by decide +kernel
theorem dX7_turn_69 : decode cX7_turn 69 = .ok (.iload_n 3, 1) := by decide +kernel
theorem dX7_turn_70 : decode cX7_turn 70 = .ok (.invokestatic 159, 3) := by decide +kernel
theorem dX7_turn_73 : decode cX7_turn 73 = .ok (.pop, 1) := by decide +kernel
theorem dX7_turn_74 : decode cX7_turn 74 = .ok (.goto 199, 3) := by decide +kernel
theorem dX7_turn_77 : decode cX7_turn 77 = .ok (.iload 4, 2) := by decide +kernel
theorem dX7_turn_79 : decode cX7_turn 79 = .ok (.bipush 8, 2) := by decide +kernel
theorem dX7_turn_81 : decode cX7_turn 81 = .ok (.if_icmp .ge 54, 3) := by decide +kernel
theorem dX7_turn_84 : decode cX7_turn 84 = .ok (.iload_n 2, 1) := by decide +kernel
theorem dX7_turn_85 : decode cX7_turn 85 = .ok (.bipush 8, 2) := by decide +kernel
theorem dX7_turn_87 : decode cX7_turn 87 = .ok (.idiv, 1) := by decide +kernel
theorem dX7_turn_88 : decode cX7_turn 88 = .ok (.bipush 64, 2) := by decide +kernel
theorem dX7_turn_90 : decode cX7_turn 90 = .ok (.irem, 1) := by decide +kernel
theorem dX7_turn_91 : decode cX7_turn 91 = .ok (.iconst 1, 1) := by decide +kernel
theorem dX7_turn_92 : decode cX7_turn 92 = .ok (.iload_n 3, 1) := by decide +kernel
theorem dX7_turn_93 : decode cX7_turn 93 = .ok (.ishl, 1) := by decide +kernel
theorem dX7_turn_94 : decode cX7_turn 94 = .ok (.ior, 1) := by decide +kernel
theorem dX7_turn_95 : decode cX7_turn 95 = .ok (.iconst 1, 1) := by decide +kernel
theorem dX7_turn_96 : decode cX7_turn 96 = .ok (.aload_n 0, 1) := by decide +kernel
theorem dX7_turn_97 : decode cX7_turn 97 = .ok (.getfield 16, 3) := by decide +kernel
theorem dX7_turn_100 : decode cX7_turn 100 = .ok (.iconst 0, 1) := by decide +kernel
theorem dX7_turn_101 : decode cX7_turn 101 = .ok (.iaload, 1) := by decide +kernel
theorem dX7_turn_102 : decode cX7_turn 102 = .ok (.ishl, 1) := by decide +kernel
theorem dX7_turn_103 : decode cX7_turn 103 = .ok (.iconst 1, 1) := by decide +kernel
theorem dX7_turn_104 : decode cX7_turn 104 = .ok (.isub, 1) := by decide +kernel
theorem dX7_turn_105 : decode cX7_turn 105 = .ok (.iand, 1) := by decide +kernel
theorem dX7_turn_106 : decode cX7_turn 106 = .ok (.istore 5, 2) := by decide +kernel
theorem dX7_turn_108 : decode cX7_turn 108 = .ok (.aload_n 0, 1) := by decide +kernel
theorem dX7_turn_109 : decode cX7_turn 109 = .ok (.getfield 16, 3) := by decide +kernel
theorem dX7_turn_112 : decode cX7_turn 112 = .ok (.iload_n 3, 1) := by decide +kernel
theorem dX7_turn_113 : decode cX7_turn 113 = .ok (.iload 5, 2) := by decide +kernel
theorem dX7_turn_115 : decode cX7_turn 115 = .ok (.invokestatic 162, 3) := by decide +kernel
theorem dX7_turn_118 : decode cX7_turn 118 = .ok (.ifCond .eq 14, 3) := by decide +kernel
theorem dX7_turn_121 : decode cX7_turn 121 = .ok (.aload_n 0, 1) := by decide +kernel
theorem dX7_turn_122 : decode cX7_turn 122 = .ok (.getfield 16, 3) := by decide +kernel
theorem dX7_turn_125 : decode cX7_turn 125 = .ok (.iload_n 3, 1) := by decide +kernel
theorem dX7_turn_126 : decode cX7_turn 126 = .ok (.iload 5, 2) := by decide +kernel
theorem dX7_turn_128 : decode cX7_turn 128 = .ok (.invokestatic 106, 3) := by decide +kernel
theorem dX7_turn_131 : decode cX7_turn 131 = .ok (.pop, 1) := by decide +kernel
theorem dX7_turn_132 : decode cX7_turn 132 = .ok (.goto 141, 3) := by decide +kernel
theorem dX7_turn_135 : decode cX7_turn 135 = .ok (.iload 4, 2) := by decide +kernel
theorem dX7_turn_137 : decode cX7_turn 137 = .ok (.bipush 8, 2) := by decide +kernel
theorem dX7_turn_139 : decode cX7_turn 139 = .ok (.if_icmp .ne 69, 3) := by decide +kernel
theorem dX7_turn_142 : decode cX7_turn 142 = .ok (.iload_n 2, 1) := by decide +kernel
theorem dX7_turn_143 : decode cX7_turn 143 = .ok (.bipush 6, 2) := by decide +kernel
theorem dX7_turn_145 : decode cX7_turn 145 = .ok (.idiv, 1) := by decide +kernel
theorem dX7_turn_146 : decode cX7_turn 146 = .ok (.bipush 6, 2) := by decide +kernel
theorem dX7_turn_148 : decode cX7_turn 148 = .ok (.irem, 1) := by decide +kernel
theorem dX7_turn_149 : decode cX7_turn 149 = .ok (.istore 5, 2) := by decide +kernel
theorem dX7_turn_151 : decode cX7_turn 151 = .ok (.aload_n 0, 1) := by decide +kernel
theorem dX7_turn_152 : decode cX7_turn 152 = .ok (.getfield 16, 3) := by decide +kernel
theorem dX7_turn_155 : decode cX7_turn 155 = .ok (.iload_n 3, 1) := by decide +kernel
theorem dX7_turn_156 : decode cX7_turn 156 = .ok (.invokestatic 112, 3) := by decide +kernel
theorem dX7_turn_159 : decode cX7_turn 159 = .ok (.ifCond .eq 46, 3) := by decide +kernel
theorem dX7_turn_162 : decode cX7_turn 162 = .ok (.aload_n 0, 1) := by decide +kernel
theorem dX7_turn_163 : decode cX7_turn 163 = .ok (.getfield 16, 3) := by decide +kernel
theorem dX7_turn_166 : decode cX7_turn 166 = .ok (.iload 5, 2) := by decide +kernel
theorem dX7_turn_168 : decode cX7_turn 168 = .ok (.invokestatic 112, 3) := by decide +kernel
theorem dX7_turn_171 : decode cX7_turn 171 = .ok (.ifCond .eq 34, 3) := by decide +kernel
theorem dX7_turn_174 : decode cX7_turn 174 = .ok (.iload_n 3, 1) := by decide +kernel
theorem dX7_turn_175 : decode cX7_turn 175 = .ok (.iload 5, 2) := by decide +kernel
theorem dX7_turn_177 : decode cX7_turn 177 = .ok (.if_icmp .eq 28, 3) := by decide +kernel
theorem dX7_turn_180 : decode cX7_turn 180 = .ok (.aload_n 0, 1) := by decide +kernel
theorem dX7_turn_181 : decode cX7_turn 181 = .ok (.getfield 16, 3) := by decide +kernel
theorem dX7_turn_184 : decode cX7_turn 184 = .ok (.iload_n 3, 1) := by decide +kernel
theorem dX7_turn_185 : decode cX7_turn 185 = .ok (.iload 5, 2) := by decide +kernel
theorem dX7_turn_187 : decode cX7_turn 187 = .ok (.iload_n 2, 1) := by decide +kernel
theorem dX7_turn_188 : decode cX7_turn 188 = .ok (.bipush 64, 2) := by decide +kernel
theorem dX7_turn_190 : decode cX7_turn 190 = .ok (.idiv, 1) := by decide +kernel
theorem dX7_turn_191 : decode cX7_turn 191 = .ok (.iconst 3, 1) := by decide +kernel
theorem dX7_turn_192 : decode cX7_turn 192 = .ok (.irem, 1) := by decide +kernel
theorem dX7_turn_193 : decode cX7_turn 193 = .ok (.ifCond .ne 7, 3) := by decide +kernel
theorem dX7_turn_196 : decode cX7_turn 196 = .ok (.iconst 1, 1) := by decide +kernel
theorem dX7_turn_197 : decode cX7_turn 197 = .ok (.goto 4, 3) := by decide +kernel
theorem dX7_turn_200 : decode cX7_turn 200 = .ok (.iconst 0, 1) := by decide +kernel
theorem dX7_turn_201 : decode cX7_turn 201 = .ok (.invokestatic 165, 3) := by decide +kernel
theorem dX7_turn_204 : decode cX7_turn 204 = .ok (.pop, 1) := by decide +kernel
theorem dX7_turn_205 : decode cX7_turn 205 = .ok (.goto 68, 3) := by decide +kernel
theorem dX7_turn_208 : decode cX7_turn 208 = .ok (.iload 4, 2) := by decide +kernel
theorem dX7_turn_210 : decode cX7_turn 210 = .ok (.bipush 9, 2) := by decide +kernel
theorem dX7_turn_212 : decode cX7_turn 212 = .ok (.if_icmp .ne 25, 3) := by decide +kernel
theorem dX7_turn_215 : decode cX7_turn 215 = .ok (.aload_n 0, 1) := by decide +kernel
theorem dX7_turn_216 : decode cX7_turn 216 = .ok (.iload_n 3, 1) := by decide +kernel
theorem dX7_turn_217 : decode cX7_turn 217 = .ok (.iload_n 2, 1) := by decide +kernel
theorem dX7_turn_218 : decode cX7_turn 218 = .ok (.bipush 8, 2) := by decide +kernel
theorem dX7_turn_220 : decode cX7_turn 220 = .ok (.idiv, 1) := by decide +kernel
theorem dX7_turn_221 : decode cX7_turn 221 = .ok (.iconst 3, 1) := by decide +kernel
theorem dX7_turn_222 : decode cX7_turn 222 = .ok (.irem, 1) := by decide +kernel
theorem dX7_turn_223 : decode cX7_turn 223 = .ok (.ifCond .ne 7, 3) := by decide +kernel
theorem dX7_turn_226 : decode cX7_turn 226 = .ok (.iconst 1, 1) := by decide +kernel
theorem dX7_turn_227 : decode cX7_turn 227 = .ok (.goto 4, 3) := by decide +kernel
theorem dX7_turn_230 : decode cX7_turn 230 = .ok (.iconst 0, 1) := by decide +kernel
theorem dX7_turn_231 : decode cX7_turn 231 = .ok (.invokevirtual 233, 3) := by decide +kernel
theorem dX7_turn_234 : decode cX7_turn 234 = .ok (.goto 39, 3) := by decide +kernel
theorem dX7_turn_237 : decode cX7_turn 237 = .ok (.iload 4, 2) := by decide +kernel
theorem dX7_turn_239 : decode cX7_turn 239 = .ok (.bipush 10, 2) := by decide +kernel
theorem dX7_turn_241 : decode cX7_turn 241 = .ok (.if_icmp .ne 17, 3) := by decide +kernel
theorem dX7_turn_244 : decode cX7_turn 244 = .ok (.aload_n 0, 1) := by decide +kernel
theorem dX7_turn_245 : decode cX7_turn 245 = .ok (.getfield 16, 3) := by decide +kernel
theorem dX7_turn_248 : decode cX7_turn 248 = .ok (.bipush 7, 2) := by decide +kernel
theorem dX7_turn_250 : decode cX7_turn 250 = .ok (.iload_n 2, 1) := by decide +kernel
theorem dX7_turn_251 : decode cX7_turn 251 = .ok (.bipush 41, 2) := by decide +kernel
theorem dX7_turn_253 : decode cX7_turn 253 = .ok (.irem, 1) := by decide +kernel
theorem dX7_turn_254 : decode cX7_turn 254 = .ok (.iastore, 1) := by decide +kernel
theorem dX7_turn_255 : decode cX7_turn 255 = .ok (.goto 18, 3) := by decide +kernel
theorem dX7_turn_258 : decode cX7_turn 258 = .ok (.aload_n 0, 1) := by decide +kernel
theorem dX7_turn_259 : decode cX7_turn 259 = .ok (.aload_n 0, 1) := by decide +kernel
theorem dX7_turn_260 : decode cX7_turn 260 = .ok (.getfield 16, 3) := by decide +kernel
theorem dX7_turn_263 : decode cX7_turn 263 = .ok (.iconst 1, 1) := by decide +kernel
theorem dX7_turn_264 : decode cX7_turn 264 = .ok (.iload_n 2, 1) := by decide +kernel
theorem dX7_turn_265 : decode cX7_turn 265 = .ok (.bipush 8, 2) := by decide +kernel
theorem dX7_turn_267 : decode cX7_turn 267 = .ok (.irem, 1) := by decide +kernel
theorem dX7_turn_268 : decode cX7_turn 268 = .ok (.iadd, 1) := by decide +kernel
theorem dX7_turn_269 : decode cX7_turn 269 = .ok (.invokevirtual 178, 3) := by decide +kernel
theorem dX7_turn_272 : decode cX7_turn 272 = .ok (.pop, 1) := by decide +kernel
theorem dX7_turn_273 : decode cX7_turn 273 = .ok (.return_, 1) := by decide +kernel
theorem dX7_turnGoing_0 : decode cX7_turnGoing 0 = .ok (.iload_n 2, 1) := by decide +kernel
theorem dX7_turnGoing_1 : decode cX7_turnGoing 1 = .ok (.ifCond .eq 37, 3) := by decide +kernel
theorem dX7_turnGoing_4 : decode cX7_turnGoing 4 = .ok (.aload_n 0, 1) := by decide +kernel
theorem dX7_turnGoing_5 : decode cX7_turnGoing 5 = .ok (.getfield 16, 3) := by decide +kernel
theorem dX7_turnGoing_8 : decode cX7_turnGoing 8 = .ok (.iload_n 1, 1) := by decide +kernel
theorem dX7_turnGoing_9 : decode cX7_turnGoing 9 = .ok (.invokestatic 112, 3) := by decide +kernel
theorem dX7_turnGoing_12 : decode cX7_turnGoing 12 = .ok (.ifCond .eq 26, 3) := by decide +kernel
theorem dX7_turnGoing_15 : decode cX7_turnGoing 15 = .ok (.aload_n 0, 1) := by decide +kernel
theorem dX7_turnGoing_16 : decode cX7_turnGoing 16 = .ok (.getfield 16, 3) := by decide +kernel
theorem dX7_turnGoing_19 : decode cX7_turnGoing 19 = .ok (.iload_n 1, 1) := by decide +kernel
theorem dX7_turnGoing_20 : decode cX7_turnGoing 20 = .ok (.invokestatic 169, 3) := by decide +kernel
theorem dX7_turnGoing_23 : decode cX7_turnGoing 23 = .ok (.ifCond .ne 15, 3) := by decide +kernel
theorem dX7_turnGoing_26 : decode cX7_turnGoing 26 = .ok (.aload_n 0, 1) := by decide +kernel
theorem dX7_turnGoing_27 : decode cX7_turnGoing 27 = .ok (.getfield 16, 3) := by decide +kernel
theorem dX7_turnGoing_30 : decode cX7_turnGoing 30 = .ok (.iload_n 1, 1) := by decide +kernel
theorem dX7_turnGoing_31 : decode cX7_turnGoing 31 = .ok (.invokestatic 172, 3) := by decide +kernel
theorem dX7_turnGoing_34 : decode cX7_turnGoing 34 = .ok (.pop, 1) := by decide +kernel
theorem dX7_turnGoing_35 : decode cX7_turnGoing 35 = .ok (.goto 27, 3) := by decide +kernel
theorem dX7_turnGoing_38 : decode cX7_turnGoing 38 = .ok (.iload_n 2, 1) := by decide +kernel
theorem dX7_turnGoing_39 : decode cX7_turnGoing 39 = .ok (.ifCond .ne 23, 3) := by decide +kernel
theorem dX7_turnGoing_42 : decode cX7_turnGoing 42 = .ok (.aload_n 0, 1) := by decide +kernel
theorem dX7_turnGoing_43 : decode cX7_turnGoing 43 = .ok (.getfield 16, 3) := by decide +kernel
theorem dX7_turnGoing_46 : decode cX7_turnGoing 46 = .ok (.iload_n 1, 1) := by decide +kernel
theorem dX7_turnGoing_47 : decode cX7_turnGoing 47 = .ok (.invokestatic 169, 3) := by decide +kernel
theorem dX7_turnGoing_50 : decode cX7_turnGoing 50 = .ok (.ifCond .eq 12, 3) := by decide +kernel
theorem dX7_turnGoing_53 : decode cX7_turnGoing 53 = .ok (.aload_n 0, 1) := by decide +kernel
theorem dX7_turnGoing_54 : decode cX7_turnGoing 54 = .ok (.getfield 16, 3) := by decide +kernel
theorem dX7_turnGoing_57 : decode cX7_turnGoing 57 = .ok (.iload_n 1, 1) := by decide +kernel
theorem dX7_turnGoing_58 : decode cX7_turnGoing 58 = .ok (.invokestatic 175, 3) := by decide +kernel
theorem dX7_turnGoing_61 : decode cX7_turnGoing 61 = .ok (.pop, 1) := by decide +kernel
theorem dX7_turnGoing_62 : decode cX7_turnGoing 62 = .ok (.return_, 1) := by decide +kernel
theorem dX7_simulate_0 : decode cX7_simulate 0 = .ok (.aload_n 0, 1) := by decide +kernel
theorem dX7_simulate_1 : decode cX7_simulate 1 = .ok (.iload_n 3, 1) := by decide +kernel
theorem dX7_simulate_2 : decode cX7_simulate 2 = .ok (.i2l, 1) := by decide +kernel
theorem dX7_simulate_3 : decode cX7_simulate 3 = .ok (.lconst 1, 1) := by decide +kernel
theorem dX7_simulate_4 : decode cX7_simulate 4 = .ok (.ldc2_w 210, 3) := by decide +kernel
theorem dX7_simulate_7 : decode cX7_simulate 7 = .ok (.invokestatic 40, 3) := by decide +kernel
theorem dX7_simulate_10 : decode cX7_simulate 10 = .ok (.ifCond .eq 7, 3) := by decide +kernel
theorem dX7_simulate_13 : decode cX7_simulate 13 = .ok (.iconst 0, 1) := by decide +kernel
theorem dX7_simulate_14 : decode cX7_simulate 14 = .ok (.goto 4, 3) := by decide +kernel
theorem dX7_simulate_17 : decode cX7_simulate 17 = .ok (.iconst 1, 1) := by decide +kernel
theorem dX7_simulate_18 : decode cX7_simulate 18 = .ok (.invokevirtual 129, 3) := by decide +kernel
theorem dX7_simulate_21 : decode cX7_simulate 21 = .ok (.ifCond .eq 5, 3) := by decide +kernel
theorem dX7_simulate_24 : decode cX7_simulate 24 = .ok (.iconst 0, 1) := by decide +kernel
theorem dX7_simulate_25 : decode cX7_simulate 25 = .ok (.ireturn, 1) := by decide +kernel
theorem dX7_simulate_26 : decode cX7_simulate 26 = .ok (.aload_n 0, 1) := by decide +kernel
theorem dX7_simulate_27 : decode cX7_simulate 27 = .ok (.getfield 13, 3) := by decide +kernel
theorem dX7_simulate_30 : decode cX7_simulate 30 = .ok (.iconst 0, 1) := by decide +kernel
theorem dX7_simulate_31 : decode cX7_simulate 31 = .ok (.aload_n 0, 1) := by decide +kernel
theorem dX7_simulate_32 : decode cX7_simulate 32 = .ok (.getfield 16, 3) := by decide +kernel
theorem dX7_simulate_35 : decode cX7_simulate 35 = .ok (.iconst 0, 1) := by decide +kernel
theorem dX7_simulate_36 : decode cX7_simulate 36 = .ok (.invokestatic 189, 3) := by decide +kernel
theorem dX7_simulate_39 : decode cX7_simulate 39 = .ok (.lload_n 1, 1) := by decide +kernel
theorem dX7_simulate_40 : decode cX7_simulate 40 = .ok (.lstore 4, 2) := by decide +kernel
theorem dX7_simulate_42 : decode cX7_simulate 42 = .ok (.iconst 0, 1) := by decide +kernel
theorem dX7_simulate_43 : decode cX7_simulate 43 = .ok (.istore 6, 2) := by decide +kernel
theorem dX7_simulate_45 : decode cX7_simulate 45 = .ok (.iload 6, 2) := by decide +kernel
theorem dX7_simulate_47 : decode cX7_simulate 47 = .ok (.iload_n 3, 1) := by decide +kernel
theorem dX7_simulate_48 : decode cX7_simulate 48 = .ok (.if_icmp .ge 31, 3) := by decide +kernel
theorem dX7_simulate_51 : decode cX7_simulate 51 = .ok (.lload 4, 2) := by decide +kernel
theorem dX7_simulate_53 : decode cX7_simulate 53 = .ok (.ldc2_w 237, 3) := by decide +kernel
theorem dX7_simulate_56 : decode cX7_simulate 56 = .ok (.lmul, 1) := by decide +kernel
theorem dX7_simulate_57 : decode cX7_simulate 57 = .ok (.ldc2_w 239, 3) := by decide +kernel
theorem dX7_simulate_60 : decode cX7_simulate 60 = .ok (.ladd, 1) := by decide +kernel
theorem dX7_simulate_61 : decode cX7_simulate 61 = .ok (.lstore 4, 2) := by decide +kernel
theorem dX7_simulate_63 : decode cX7_simulate 63 = .ok (.aload_n 0, 1) := by decide +kernel
theorem dX7_simulate_64 : decode cX7_simulate 64 = .ok (.lload 4, 2) := by decide +kernel
theorem dX7_simulate_66 : decode cX7_simulate 66 = .ok (.bipush 33, 2) := by decide +kernel
theorem dX7_simulate_68 : decode cX7_simulate 68 = .ok (.lushr, 1) := by decide +kernel
theorem dX7_simulate_69 : decode cX7_simulate 69 = .ok (.l2i, 1) := by decide +kernel
theorem dX7_simulate_70 : decode cX7_simulate 70 = .ok (.invokevirtual 241, 3) := by decide +kernel
theorem dX7_simulate_73 : decode cX7_simulate 73 = .ok (.iinc 6 1, 3) := by decide +kernel
theorem dX7_simulate_76 : decode cX7_simulate 76 = .ok (.goto (-31), 3) := by decide +kernel
theorem dX7_simulate_79 : decode cX7_simulate 79 = .ok (.aload_n 0, 1) := by decide +kernel
theorem dX7_simulate_80 : decode cX7_simulate 80 = .ok (.getfield 16, 3) := by decide +kernel
theorem dX7_simulate_83 : decode cX7_simulate 83 = .ok (.iconst 5, 1) := by decide +kernel
theorem dX7_simulate_84 : decode cX7_simulate 84 = .ok (.iaload, 1) := by decide +kernel
theorem dX7_simulate_85 : decode cX7_simulate 85 = .ok (.aload_n 0, 1) := by decide +kernel
theorem dX7_simulate_86 : decode cX7_simulate 86 = .ok (.getfield 13, 3) := by decide +kernel
theorem dX7_simulate_89 : decode cX7_simulate 89 = .ok (.iconst 5, 1) := by decide +kernel
theorem dX7_simulate_90 : decode cX7_simulate 90 = .ok (.iaload, 1) := by decide +kernel
theorem dX7_simulate_91 : decode cX7_simulate 91 = .ok (.isub, 1) := by decide +kernel
theorem dX7_simulate_92 : decode cX7_simulate 92 = .ok (.istore 6, 2) := by decide +kernel
theorem dX7_simulate_94 : decode cX7_simulate 94 = .ok (.sipush 10000, 3) := by decide +kernel
theorem dX7_simulate_97 : decode cX7_simulate 97 = .ok (.aload_n 0, 1) := by decide +kernel
theorem dX7_simulate_98 : decode cX7_simulate 98 = .ok (.getfield 16, 3) := by decide +kernel
theorem dX7_simulate_101 : decode cX7_simulate 101 = .ok (.bipush 6, 2) := by decide +kernel
theorem dX7_simulate_103 : decode cX7_simulate 103 = .ok (.iaload, 1) := by decide +kernel
theorem dX7_simulate_104 : decode cX7_simulate 104 = .ok (.aload_n 0, 1) := by decide +kernel
theorem dX7_simulate_105 : decode cX7_simulate 105 = .ok (.getfield 13, 3) := by decide +kernel
theorem dX7_simulate_108 : decode cX7_simulate 108 = .ok (.bipush 6, 2) := by decide +kernel
theorem dX7_simulate_110 : decode cX7_simulate 110 = .ok (.iaload, 1) := by decide +kernel
theorem dX7_simulate_111 : decode cX7_simulate 111 = .ok (.isub, 1) := by decide +kernel
theorem dX7_simulate_112 : decode cX7_simulate 112 = .ok (.imul, 1) := by decide +kernel
theorem dX7_simulate_113 : decode cX7_simulate 113 = .ok (.bipush 100, 2) := by decide +kernel
theorem dX7_simulate_115 : decode cX7_simulate 115 = .ok (.aload_n 0, 1) := by decide +kernel
theorem dX7_simulate_116 : decode cX7_simulate 116 = .ok (.getfield 16, 3) := by decide +kernel
theorem dX7_simulate_119 : decode cX7_simulate 119 = .ok (.iconst 4, 1) := by decide +kernel
theorem dX7_simulate_120 : decode cX7_simulate 120 = .ok (.iaload, 1) := by decide +kernel
theorem dX7_simulate_121 : decode cX7_simulate 121 = .ok (.aload_n 0, 1) := by decide +kernel
theorem dX7_simulate_122 : decode cX7_simulate 122 = .ok (.getfield 13, 3) := by decide +kernel
theorem dX7_simulate_125 : decode cX7_simulate 125 = .ok (.iconst 4, 1) := by decide +kernel
theorem dX7_simulate_126 : decode cX7_simulate 126 = .ok (.iaload, 1) := by decide +kernel
theorem dX7_simulate_127 : decode cX7_simulate 127 = .ok (.isub, 1) := by decide +kernel
theorem dX7_simulate_128 : decode cX7_simulate 128 = .ok (.imul, 1) := by decide +kernel
theorem dX7_simulate_129 : decode cX7_simulate 129 = .ok (.iadd, 1) := by decide +kernel
theorem dX7_simulate_130 : decode cX7_simulate 130 = .ok (.iload 6, 2) := by decide +kernel
theorem dX7_simulate_132 : decode cX7_simulate 132 = .ok (.bipush 99, 2) := by decide +kernel
theorem dX7_simulate_134 : decode cX7_simulate 134 = .ok (.if_icmp .le 8, 3) := by decide +kernel
theorem dX7_simulate_137 : decode cX7_simulate 137 = .ok (.bipush 99, 2) := by decide +kernel
theorem dX7_simulate_139 : decode cX7_simulate 139 = .ok (.goto 5, 3) := by decide +kernel
theorem dX7_simulate_142 : decode cX7_simulate 142 = .ok (.iload 6, 2) := by decide +kernel
theorem dX7_simulate_144 : decode cX7_simulate 144 = .ok (.iadd, 1) := by decide +kernel
theorem dX7_simulate_145 : decode cX7_simulate 145 = .ok (.ireturn, 1) := by decide +kernel
theorem dX7_save_0 : decode cX7_save 0 = .ok (.aload_n 0, 1) := by decide +kernel
theorem dX7_save_1 : decode cX7_save 1 = .ok (.iload_n 1, 1) := by decide +kernel
theorem dX7_save_2 : decode cX7_save 2 = .ok (.i2l, 1) := by decide +kernel
theorem dX7_save_3 : decode cX7_save 3 = .ok (.lconst 0, 1) := by decide +kernel
theorem dX7_save_4 : decode cX7_save 4 = .ok (.lconst 1, 1) := by decide +kernel
theorem dX7_save_5 : decode cX7_save 5 = .ok (.invokestatic 40, 3) := by decide +kernel
theorem dX7_save_8 : decode cX7_save 8 = .ok (.ifCond .eq 7, 3) := by decide +kernel
theorem dX7_save_11 : decode cX7_save 11 = .ok (.iconst 0, 1) := by decide +kernel
theorem dX7_save_12 : decode cX7_save 12 = .ok (.goto 4, 3) := by decide +kernel
theorem dX7_save_15 : decode cX7_save 15 = .ok (.iconst 1, 1) := by decide +kernel
theorem dX7_save_16 : decode cX7_save 16 = .ok (.invokevirtual 129, 3) := by decide +kernel
theorem dX7_save_19 : decode cX7_save 19 = .ok (.ifCond .eq 5, 3) := by decide +kernel
theorem dX7_save_22 : decode cX7_save 22 = .ok (.iconst 0, 1) := by decide +kernel
theorem dX7_save_23 : decode cX7_save 23 = .ok (.ireturn, 1) := by decide +kernel
theorem dX7_save_24 : decode cX7_save 24 = .ok (.aload_n 0, 1) := by decide +kernel
theorem dX7_save_25 : decode cX7_save 25 = .ok (.getfield 13, 3) := by decide +kernel
theorem dX7_save_28 : decode cX7_save 28 = .ok (.iconst 0, 1) := by decide +kernel
theorem dX7_save_29 : decode cX7_save 29 = .ok (.aload_n 0, 1) := by decide +kernel
theorem dX7_save_30 : decode cX7_save 30 = .ok (.getfield 22, 3) := by decide +kernel
theorem dX7_save_33 : decode cX7_save 33 = .ok (.sipush 2012, 3) := by decide +kernel
theorem dX7_save_36 : decode cX7_save 36 = .ok (.iload_n 1, 1) := by decide +kernel
theorem dX7_save_37 : decode cX7_save 37 = .ok (.imul, 1) := by decide +kernel
theorem dX7_save_38 : decode cX7_save 38 = .ok (.invokestatic 189, 3) := by decide +kernel
theorem dX7_save_41 : decode cX7_save 41 = .ok (.aload_n 0, 1) := by decide +kernel
theorem dX7_save_42 : decode cX7_save 42 = .ok (.getfield 25, 3) := by decide +kernel
theorem dX7_save_45 : decode cX7_save 45 = .ok (.iload_n 1, 1) := by decide +kernel
theorem dX7_save_46 : decode cX7_save 46 = .ok (.iconst 1, 1) := by decide +kernel
theorem dX7_save_47 : decode cX7_save 47 = .ok (.bastore, 1) := by decide +kernel
theorem dX7_save_48 : decode cX7_save 48 = .ok (.aload_n 0, 1) := by decide +kernel
theorem dX7_save_49 : decode cX7_save 49 = .ok (.getfield 13, 3) := by decide +kernel
theorem dX7_save_52 : decode cX7_save 52 = .ok (.iconst 1, 1) := by decide +kernel
theorem dX7_save_53 : decode cX7_save 53 = .ok (.iaload, 1) := by decide +kernel
theorem dX7_save_54 : decode cX7_save 54 = .ok (.ireturn, 1) := by decide +kernel
theorem dX7_restore_0 : decode cX7_restore 0 = .ok (.aload_n 0, 1) := by decide +kernel
theorem dX7_restore_1 : decode cX7_restore 1 = .ok (.iload_n 1, 1) := by decide +kernel
theorem dX7_restore_2 : decode cX7_restore 2 = .ok (.i2l, 1) := by decide +kernel
theorem dX7_restore_3 : decode cX7_restore 3 = .ok (.lconst 0, 1) := by decide +kernel
theorem dX7_restore_4 : decode cX7_restore 4 = .ok (.lconst 1, 1) := by decide +kernel
theorem dX7_restore_5 : decode cX7_restore 5 = .ok (.invokestatic 40, 3) := by decide +kernel
theorem dX7_restore_8 : decode cX7_restore 8 = .ok (.ifCond .ne 7, 3) := by decide +kernel
theorem dX7_restore_11 : decode cX7_restore 11 = .ok (.iconst 1, 1) := by decide +kernel
theorem dX7_restore_12 : decode cX7_restore 12 = .ok (.goto 17, 3) := by decide +kernel
theorem dX7_restore_15 : decode cX7_restore 15 = .ok (.aload_n 0, 1) := by decide +kernel
theorem dX7_restore_16 : decode cX7_restore 16 = .ok (.getfield 25, 3) := by decide +kernel
theorem dX7_restore_19 : decode cX7_restore 19 = .ok (.iload_n 1, 1) := by decide +kernel
theorem dX7_restore_20 : decode cX7_restore 20 = .ok (.baload, 1) := by decide +kernel
theorem dX7_restore_21 : decode cX7_restore 21 = .ok (.ifCond .ne 7, 3) := by decide +kernel
theorem dX7_restore_24 : decode cX7_restore 24 = .ok (.iconst 2, 1) := by decide +kernel
theorem dX7_restore_25 : decode cX7_restore 25 = .ok (.goto 4, 3) := by decide +kernel
theorem dX7_restore_28 : decode cX7_restore 28 = .ok (.iconst 0, 1) := by decide +kernel
theorem dX7_restore_29 : decode cX7_restore 29 = .ok (.invokevirtual 129, 3) := by decide +kernel
theorem dX7_restore_32 : decode cX7_restore 32 = .ok (.ifCond .eq 5, 3) := by decide +kernel
theorem dX7_restore_35 : decode cX7_restore 35 = .ok (.iconst 0, 1) := by decide +kernel
theorem dX7_restore_36 : decode cX7_restore 36 = .ok (.ireturn, 1) := by decide +kernel
theorem dX7_restore_37 : decode cX7_restore 37 = .ok (.aload_n 0, 1) := by decide +kernel
theorem dX7_restore_38 : decode cX7_restore 38 = .ok (.getfield 22, 3) := by decide +kernel
theorem dX7_restore_41 : decode cX7_restore 41 = .ok (.sipush 2012, 3) := by decide +kernel
theorem dX7_restore_44 : decode cX7_restore 44 = .ok (.iload_n 1, 1) := by decide +kernel
theorem dX7_restore_45 : decode cX7_restore 45 = .ok (.imul, 1) := by decide +kernel
theorem dX7_restore_46 : decode cX7_restore 46 = .ok (.aload_n 0, 1) := by decide +kernel
theorem dX7_restore_47 : decode cX7_restore 47 = .ok (.getfield 13, 3) := by decide +kernel
theorem dX7_restore_50 : decode cX7_restore 50 = .ok (.iconst 0, 1) := by decide +kernel
theorem dX7_restore_51 : decode cX7_restore 51 = .ok (.invokestatic 189, 3) := by decide +kernel
theorem dX7_restore_54 : decode cX7_restore 54 = .ok (.aload_n 0, 1) := by decide +kernel
theorem dX7_restore_55 : decode cX7_restore 55 = .ok (.iconst 0, 1) := by decide +kernel
theorem dX7_restore_56 : decode cX7_restore 56 = .ok (.putfield 193, 3) := by decide +kernel
theorem dX7_restore_59 : decode cX7_restore 59 = .ok (.aload_n 0, 1) := by decide +kernel
theorem dX7_restore_60 : decode cX7_restore 60 = .ok (.getfield 13, 3) := by decide +kernel
theorem dX7_restore_63 : decode cX7_restore 63 = .ok (.iconst 1, 1) := by decide +kernel
theorem dX7_restore_64 : decode cX7_restore 64 = .ok (.iaload, 1) := by decide +kernel
theorem dX7_restore_65 : decode cX7_restore 65 = .ok (.ireturn, 1) := by decide +kernel
theorem dL_append_0 : decode cL_append 0 = .ok (.aload_n 2, 1) := by decide +kernel
theorem dL_append_1 : decode cL_append 1 = .ok (.iconst 0, 1) := by decide +kernel
theorem dL_append_2 : decode cL_append 2 = .ok (.aload_n 0, 1) := by decide +kernel
theorem dL_append_3 : decode cL_append 3 = .ok (.iload_n 1, 1) := by decide +kernel
theorem dL_append_4 : decode cL_append 4 = .ok (.invokevirtual 7, 3) := by decide +kernel
theorem dL_append_7 : decode cL_append 7 = .ok (.i2l, 1) := by decide +kernel
theorem dL_append_8 : decode cL_append 8 = .ok (.lastore, 1) := by decide +kernel
theorem dL_append_9 : decode cL_append 9 = .ok (.goto 9, 3) := by decide +kernel
theorem dL_append_12 : decode cL_append 12 = .ok (.astore_n 3, 1) := by decide +kernel
theorem dL_append_13 : decode cL_append 13 = .ok (.iconst 1, 1) := by decide +kernel
theorem dL_append_14 : decode cL_append 14 = .ok (.ireturn, 1) := by decide +kernel
theorem dL_append_15 : decode cL_append 15 = .ok (.astore_n 3, 1) := by decide +kernel
theorem dL_append_16 : decode cL_append 16 = .ok (.iconst 2, 1) := by decide +kernel
theorem dL_append_17 : decode cL_append 17 = .ok (.ireturn, 1) := by decide +kernel
theorem dL_append_18 : decode cL_append 18 = .ok (.iconst 0, 1) := by decide +kernel
theorem dL_append_19 : decode cL_append 19 = .ok (.ireturn, 1) := by decide +kernel
theorem dL_load_0 : decode cL_load 0 = .ok (.aload_n 1, 1) := by decide +kernel
theorem dL_load_1 : decode cL_load 1 = .ok (.iconst 0, 1) := by decide +kernel
theorem dL_load_2 : decode cL_load 2 = .ok (.aload_n 0, 1) := by decide +kernel
theorem dL_load_3 : decode cL_load 3 = .ok (.invokevirtual 17, 3) := by decide +kernel
theorem dL_load_6 : decode cL_load 6 = .ok (.i2l, 1) := by decide +kernel
theorem dL_load_7 : decode cL_load 7 = .ok (.lastore, 1) := by decide +kernel
theorem dL_load_8 : decode cL_load 8 = .ok (.goto 6, 3) := by decide +kernel
theorem dL_load_11 : decode cL_load 11 = .ok (.astore_n 2, 1) := by decide +kernel
theorem dL_load_12 : decode cL_load 12 = .ok (.iconst 1, 1) := by decide +kernel
theorem dL_load_13 : decode cL_load 13 = .ok (.ireturn, 1) := by decide +kernel
theorem dL_load_14 : decode cL_load 14 = .ok (.iconst 0, 1) := by decide +kernel
theorem dL_load_15 : decode cL_load 15 = .ok (.ireturn, 1) := by decide +kernel
theorem dL_about_0 : decode cL_about 0 = .ok (.aload_n 2, 1) := by decide +kernel
theorem dL_about_1 : decode cL_about 1 = .ok (.iconst 0, 1) := by decide +kernel
theorem dL_about_2 : decode cL_about 2 = .ok (.aload_n 0, 1) := by decide +kernel
theorem dL_about_3 : decode cL_about 3 = .ok (.iload_n 1, 1) := by decide +kernel
theorem dL_about_4 : decode cL_about 4 = .ok (.invokevirtual 21, 3) := by decide +kernel
theorem dL_about_7 : decode cL_about 7 = .ok (.i2l, 1) := by decide +kernel
theorem dL_about_8 : decode cL_about 8 = .ok (.lastore, 1) := by decide +kernel
theorem dL_about_9 : decode cL_about 9 = .ok (.goto 6, 3) := by decide +kernel
theorem dL_about_12 : decode cL_about 12 = .ok (.astore_n 3, 1) := by decide +kernel
theorem dL_about_13 : decode cL_about 13 = .ok (.iconst 1, 1) := by decide +kernel
theorem dL_about_14 : decode cL_about 14 = .ok (.ireturn, 1) := by decide +kernel
theorem dL_about_15 : decode cL_about 15 = .ok (.iconst 0, 1) := by decide +kernel
theorem dL_about_16 : decode cL_about 16 = .ok (.ireturn, 1) := by decide +kernel
theorem dL_memberOf_0 : decode cL_memberOf 0 = .ok (.aload_n 3, 1) := by decide +kernel
theorem dL_memberOf_1 : decode cL_memberOf 1 = .ok (.iconst 0, 1) := by decide +kernel
theorem dL_memberOf_2 : decode cL_memberOf 2 = .ok (.aload_n 0, 1) := by decide +kernel
theorem dL_memberOf_3 : decode cL_memberOf 3 = .ok (.iload_n 1, 1) := by decide +kernel
theorem dL_memberOf_4 : decode cL_memberOf 4 = .ok (.iload_n 2, 1) := by decide +kernel
theorem dL_memberOf_5 : decode cL_memberOf 5 = .ok (.invokevirtual 24, 3) := by decide +kernel
theorem dL_memberOf_8 : decode cL_memberOf 8 = .ok (.i2l, 1) := by decide +kernel
theorem dL_memberOf_9 : decode cL_memberOf 9 = .ok (.lastore, 1) := by decide +kernel
theorem dL_memberOf_10 : decode cL_memberOf 10 = .ok (.goto 11, 3) := by decide +kernel
theorem dL_memberOf_13 : decode cL_memberOf 13 = .ok (.astore 4, 2) := by decide +kernel
theorem dL_memberOf_15 : decode cL_memberOf 15 = .ok (.iconst 1, 1) := by decide +kernel
theorem dL_memberOf_16 : decode cL_memberOf 16 = .ok (.ireturn, 1) := by decide +kernel
theorem dL_memberOf_17 : decode cL_memberOf 17 = .ok (.astore 4, 2) := by decide +kernel
theorem dL_memberOf_19 : decode cL_memberOf 19 = .ok (.iconst 2, 1) := by decide +kernel
theorem dL_memberOf_20 : decode cL_memberOf 20 = .ok (.ireturn, 1) := by decide +kernel
theorem dL_memberOf_21 : decode cL_memberOf 21 = .ok (.iconst 0, 1) := by decide +kernel
theorem dL_memberOf_22 : decode cL_memberOf 22 = .ok (.ireturn, 1) := by decide +kernel
theorem dL_session_0 : decode cL_session 0 = .ok (.aload 4, 2) := by decide +kernel
theorem dL_session_2 : decode cL_session 2 = .ok (.iconst 0, 1) := by decide +kernel
theorem dL_session_3 : decode cL_session 3 = .ok (.aload_n 0, 1) := by decide +kernel
theorem dL_session_4 : decode cL_session 4 = .ok (.iload_n 1, 1) := by decide +kernel
theorem dL_session_5 : decode cL_session 5 = .ok (.iload_n 2, 1) := by decide +kernel
theorem dL_session_6 : decode cL_session 6 = .ok (.iload_n 3, 1) := by decide +kernel
theorem dL_session_7 : decode cL_session 7 = .ok (.invokevirtual 30, 3) := by decide +kernel
theorem dL_session_10 : decode cL_session 10 = .ok (.i2l, 1) := by decide +kernel
theorem dL_session_11 : decode cL_session 11 = .ok (.lastore, 1) := by decide +kernel
theorem dL_session_12 : decode cL_session 12 = .ok (.goto 11, 3) := by decide +kernel
theorem dL_session_15 : decode cL_session 15 = .ok (.astore 5, 2) := by decide +kernel
theorem dL_session_17 : decode cL_session 17 = .ok (.iconst 1, 1) := by decide +kernel
theorem dL_session_18 : decode cL_session 18 = .ok (.ireturn, 1) := by decide +kernel
theorem dL_session_19 : decode cL_session 19 = .ok (.astore 5, 2) := by decide +kernel
theorem dL_session_21 : decode cL_session 21 = .ok (.iconst 2, 1) := by decide +kernel
theorem dL_session_22 : decode cL_session 22 = .ok (.ireturn, 1) := by decide +kernel
theorem dL_session_23 : decode cL_session 23 = .ok (.iconst 0, 1) := by decide +kernel
theorem dL_session_24 : decode cL_session 24 = .ok (.ireturn, 1) := by decide +kernel
theorem dL_note_0 : decode cL_note 0 = .ok (.aload_n 3, 1) := by decide +kernel
theorem dL_note_1 : decode cL_note 1 = .ok (.iconst 0, 1) := by decide +kernel
theorem dL_note_2 : decode cL_note 2 = .ok (.aload_n 0, 1) := by decide +kernel
theorem dL_note_3 : decode cL_note 3 = .ok (.iload_n 1, 1) := by decide +kernel
theorem dL_note_4 : decode cL_note 4 = .ok (.iload_n 2, 1) := by decide +kernel
theorem dL_note_5 : decode cL_note 5 = .ok (.invokevirtual 34, 3) := by decide +kernel
theorem dL_note_8 : decode cL_note 8 = .ok (.i2l, 1) := by decide +kernel
theorem dL_note_9 : decode cL_note 9 = .ok (.lastore, 1) := by decide +kernel
theorem dL_note_10 : decode cL_note 10 = .ok (.goto 11, 3) := by decide +kernel
theorem dL_note_13 : decode cL_note 13 = .ok (.astore 4, 2) := by decide +kernel
theorem dL_note_15 : decode cL_note 15 = .ok (.iconst 1, 1) := by decide +kernel
theorem dL_note_16 : decode cL_note 16 = .ok (.ireturn, 1) := by decide +kernel
theorem dL_note_17 : decode cL_note 17 = .ok (.astore 4, 2) := by decide +kernel
theorem dL_note_19 : decode cL_note 19 = .ok (.iconst 2, 1) := by decide +kernel
theorem dL_note_20 : decode cL_note 20 = .ok (.ireturn, 1) := by decide +kernel
theorem dL_note_21 : decode cL_note 21 = .ok (.iconst 0, 1) := by decide +kernel
theorem dL_note_22 : decode cL_note 22 = .ok (.ireturn, 1) := by decide +kernel
theorem dL_isCut_0 : decode cL_isCut 0 = .ok (.aload_n 3, 1) := by decide +kernel
theorem dL_isCut_1 : decode cL_isCut 1 = .ok (.iconst 0, 1) := by decide +kernel
theorem dL_isCut_2 : decode cL_isCut 2 = .ok (.aload_n 0, 1) := by decide +kernel
theorem dL_isCut_3 : decode cL_isCut 3 = .ok (.iload_n 1, 1) := by decide +kernel
theorem dL_isCut_4 : decode cL_isCut 4 = .ok (.iload_n 2, 1) := by decide +kernel
theorem dL_isCut_5 : decode cL_isCut 5 = .ok (.invokevirtual 37, 3) := by decide +kernel
theorem dL_isCut_8 : decode cL_isCut 8 = .ok (.i2l, 1) := by decide +kernel
theorem dL_isCut_9 : decode cL_isCut 9 = .ok (.lastore, 1) := by decide +kernel
theorem dL_isCut_10 : decode cL_isCut 10 = .ok (.goto 7, 3) := by decide +kernel
theorem dL_isCut_13 : decode cL_isCut 13 = .ok (.astore 4, 2) := by decide +kernel
theorem dL_isCut_15 : decode cL_isCut 15 = .ok (.iconst 1, 1) := by decide +kernel
theorem dL_isCut_16 : decode cL_isCut 16 = .ok (.ireturn, 1) := by decide +kernel
theorem dL_isCut_17 : decode cL_isCut 17 = .ok (.iconst 0, 1) := by decide +kernel
theorem dL_isCut_18 : decode cL_isCut 18 = .ok (.ireturn, 1) := by decide +kernel
theorem dL_member_0 : decode cL_member 0 = .ok (.aload_n 2, 1) := by decide +kernel
theorem dL_member_1 : decode cL_member 1 = .ok (.iconst 0, 1) := by decide +kernel
theorem dL_member_2 : decode cL_member 2 = .ok (.aload_n 0, 1) := by decide +kernel
theorem dL_member_3 : decode cL_member 3 = .ok (.iload_n 1, 1) := by decide +kernel
theorem dL_member_4 : decode cL_member 4 = .ok (.invokevirtual 40, 3) := by decide +kernel
theorem dL_member_7 : decode cL_member 7 = .ok (.i2l, 1) := by decide +kernel
theorem dL_member_8 : decode cL_member 8 = .ok (.lastore, 1) := by decide +kernel
theorem dL_member_9 : decode cL_member 9 = .ok (.goto 9, 3) := by decide +kernel
theorem dL_member_12 : decode cL_member 12 = .ok (.astore_n 3, 1) := by decide +kernel
theorem dL_member_13 : decode cL_member 13 = .ok (.iconst 1, 1) := by decide +kernel
theorem dL_member_14 : decode cL_member 14 = .ok (.ireturn, 1) := by decide +kernel
theorem dL_member_15 : decode cL_member 15 = .ok (.astore_n 3, 1) := by decide +kernel
theorem dL_member_16 : decode cL_member 16 = .ok (.iconst 2, 1) := by decide +kernel
theorem dL_member_17 : decode cL_member 17 = .ok (.ireturn, 1) := by decide +kernel
theorem dL_member_18 : decode cL_member 18 = .ok (.iconst 0, 1) := by decide +kernel
theorem dL_member_19 : decode cL_member 19 = .ok (.ireturn, 1) := by decide +kernel
theorem dL_say_0 : decode cL_say 0 = .ok (.aload_n 2, 1) := by decide +kernel
theorem dL_say_1 : decode cL_say 1 = .ok (.iconst 0, 1) := by decide +kernel
theorem dL_say_2 : decode cL_say 2 = .ok (.aload_n 0, 1) := by decide +kernel
theorem dL_say_3 : decode cL_say 3 = .ok (.iload_n 1, 1) := by decide +kernel
theorem dL_say_4 : decode cL_say 4 = .ok (.invokevirtual 43, 3) := by decide +kernel
theorem dL_say_7 : decode cL_say 7 = .ok (.i2l, 1) := by decide +kernel
theorem dL_say_8 : decode cL_say 8 = .ok (.lastore, 1) := by decide +kernel
theorem dL_say_9 : decode cL_say 9 = .ok (.goto 9, 3) := by decide +kernel
theorem dL_say_12 : decode cL_say 12 = .ok (.astore_n 3, 1) := by decide +kernel
theorem dL_say_13 : decode cL_say 13 = .ok (.iconst 1, 1) := by decide +kernel
theorem dL_say_14 : decode cL_say 14 = .ok (.ireturn, 1) := by decide +kernel
theorem dL_say_15 : decode cL_say 15 = .ok (.astore_n 3, 1) := by decide +kernel
theorem dL_say_16 : decode cL_say 16 = .ok (.iconst 2, 1) := by decide +kernel
theorem dL_say_17 : decode cL_say 17 = .ok (.ireturn, 1) := by decide +kernel
theorem dL_say_18 : decode cL_say 18 = .ok (.iconst 0, 1) := by decide +kernel
theorem dL_say_19 : decode cL_say 19 = .ok (.ireturn, 1) := by decide +kernel
theorem dL_call_0 : decode cL_call 0 = .ok (.aload_n 3, 1) := by decide +kernel
theorem dL_call_1 : decode cL_call 1 = .ok (.iconst 0, 1) := by decide +kernel
theorem dL_call_2 : decode cL_call 2 = .ok (.aload_n 0, 1) := by decide +kernel
theorem dL_call_3 : decode cL_call 3 = .ok (.iload_n 1, 1) := by decide +kernel
theorem dL_call_4 : decode cL_call 4 = .ok (.iload_n 2, 1) := by decide +kernel
theorem dL_call_5 : decode cL_call 5 = .ok (.invokevirtual 46, 3) := by decide +kernel
theorem dL_call_8 : decode cL_call 8 = .ok (.i2l, 1) := by decide +kernel
theorem dL_call_9 : decode cL_call 9 = .ok (.lastore, 1) := by decide +kernel
theorem dL_call_10 : decode cL_call 10 = .ok (.goto 15, 3) := by decide +kernel
theorem dL_call_13 : decode cL_call 13 = .ok (.astore 4, 2) := by decide +kernel
theorem dL_call_15 : decode cL_call 15 = .ok (.iconst 1, 1) := by decide +kernel
theorem dL_call_16 : decode cL_call 16 = .ok (.ireturn, 1) := by decide +kernel
theorem dL_call_17 : decode cL_call 17 = .ok (.astore 4, 2) := by decide +kernel
theorem dL_call_19 : decode cL_call 19 = .ok (.iconst 2, 1) := by decide +kernel
theorem dL_call_20 : decode cL_call 20 = .ok (.ireturn, 1) := by decide +kernel
theorem dL_call_21 : decode cL_call 21 = .ok (.astore 4, 2) := by decide +kernel
theorem dL_call_23 : decode cL_call 23 = .ok (.iconst 3, 1) := by decide +kernel
theorem dL_call_24 : decode cL_call 24 = .ok (.ireturn, 1) := by decide +kernel
theorem dL_call_25 : decode cL_call 25 = .ok (.iconst 0, 1) := by decide +kernel
theorem dL_call_26 : decode cL_call 26 = .ok (.ireturn, 1) := by decide +kernel
theorem dL_cut_0 : decode cL_cut 0 = .ok (.aload 4, 2) := by decide +kernel
theorem dL_cut_2 : decode cL_cut 2 = .ok (.iconst 0, 1) := by decide +kernel
theorem dL_cut_3 : decode cL_cut 3 = .ok (.aload_n 0, 1) := by decide +kernel
theorem dL_cut_4 : decode cL_cut 4 = .ok (.iload_n 1, 1) := by decide +kernel
theorem dL_cut_5 : decode cL_cut 5 = .ok (.iload_n 2, 1) := by decide +kernel
theorem dL_cut_6 : decode cL_cut 6 = .ok (.iload_n 3, 1) := by decide +kernel
theorem dL_cut_7 : decode cL_cut 7 = .ok (.invokevirtual 49, 3) := by decide +kernel
theorem dL_cut_10 : decode cL_cut 10 = .ok (.i2l, 1) := by decide +kernel
theorem dL_cut_11 : decode cL_cut 11 = .ok (.lastore, 1) := by decide +kernel
theorem dL_cut_12 : decode cL_cut 12 = .ok (.goto 11, 3) := by decide +kernel
theorem dL_cut_15 : decode cL_cut 15 = .ok (.astore 5, 2) := by decide +kernel
theorem dL_cut_17 : decode cL_cut 17 = .ok (.iconst 1, 1) := by decide +kernel
theorem dL_cut_18 : decode cL_cut 18 = .ok (.ireturn, 1) := by decide +kernel
theorem dL_cut_19 : decode cL_cut 19 = .ok (.astore 5, 2) := by decide +kernel
theorem dL_cut_21 : decode cL_cut 21 = .ok (.iconst 2, 1) := by decide +kernel
theorem dL_cut_22 : decode cL_cut 22 = .ok (.ireturn, 1) := by decide +kernel
theorem dL_cut_23 : decode cL_cut 23 = .ok (.iconst 0, 1) := by decide +kernel
theorem dL_cut_24 : decode cL_cut 24 = .ok (.ireturn, 1) := by decide +kernel
theorem dL_leave_0 : decode cL_leave 0 = .ok (.aload_n 2, 1) := by decide +kernel
theorem dL_leave_1 : decode cL_leave 1 = .ok (.iconst 0, 1) := by decide +kernel
theorem dL_leave_2 : decode cL_leave 2 = .ok (.aload_n 0, 1) := by decide +kernel
theorem dL_leave_3 : decode cL_leave 3 = .ok (.iload_n 1, 1) := by decide +kernel
theorem dL_leave_4 : decode cL_leave 4 = .ok (.invokevirtual 53, 3) := by decide +kernel
theorem dL_leave_7 : decode cL_leave 7 = .ok (.i2l, 1) := by decide +kernel
theorem dL_leave_8 : decode cL_leave 8 = .ok (.lastore, 1) := by decide +kernel
theorem dL_leave_9 : decode cL_leave 9 = .ok (.goto 9, 3) := by decide +kernel
theorem dL_leave_12 : decode cL_leave 12 = .ok (.astore_n 3, 1) := by decide +kernel
theorem dL_leave_13 : decode cL_leave 13 = .ok (.iconst 1, 1) := by decide +kernel
theorem dL_leave_14 : decode cL_leave 14 = .ok (.ireturn, 1) := by decide +kernel
theorem dL_leave_15 : decode cL_leave 15 = .ok (.astore_n 3, 1) := by decide +kernel
theorem dL_leave_16 : decode cL_leave 16 = .ok (.iconst 2, 1) := by decide +kernel
theorem dL_leave_17 : decode cL_leave 17 = .ok (.ireturn, 1) := by decide +kernel
theorem dL_leave_18 : decode cL_leave 18 = .ok (.iconst 0, 1) := by decide +kernel
theorem dL_leave_19 : decode cL_leave 19 = .ok (.ireturn, 1) := by decide +kernel
theorem dL_back_0 : decode cL_back 0 = .ok (.aload_n 2, 1) := by decide +kernel
theorem dL_back_1 : decode cL_back 1 = .ok (.iconst 0, 1) := by decide +kernel
theorem dL_back_2 : decode cL_back 2 = .ok (.aload_n 0, 1) := by decide +kernel
theorem dL_back_3 : decode cL_back 3 = .ok (.iload_n 1, 1) := by decide +kernel
theorem dL_back_4 : decode cL_back 4 = .ok (.invokevirtual 56, 3) := by decide +kernel
theorem dL_back_7 : decode cL_back 7 = .ok (.i2l, 1) := by decide +kernel
theorem dL_back_8 : decode cL_back 8 = .ok (.lastore, 1) := by decide +kernel
theorem dL_back_9 : decode cL_back 9 = .ok (.goto 9, 3) := by decide +kernel
theorem dL_back_12 : decode cL_back 12 = .ok (.astore_n 3, 1) := by decide +kernel
theorem dL_back_13 : decode cL_back 13 = .ok (.iconst 1, 1) := by decide +kernel
theorem dL_back_14 : decode cL_back 14 = .ok (.ireturn, 1) := by decide +kernel
theorem dL_back_15 : decode cL_back 15 = .ok (.astore_n 3, 1) := by decide +kernel
theorem dL_back_16 : decode cL_back 16 = .ok (.iconst 2, 1) := by decide +kernel
theorem dL_back_17 : decode cL_back 17 = .ok (.ireturn, 1) := by decide +kernel
theorem dL_back_18 : decode cL_back 18 = .ok (.iconst 0, 1) := by decide +kernel
theorem dL_back_19 : decode cL_back 19 = .ok (.ireturn, 1) := by decide +kernel
theorem dL_set_0 : decode cL_set 0 = .ok (.aload_n 2, 1) := by decide +kernel
theorem dL_set_1 : decode cL_set 1 = .ok (.iconst 0, 1) := by decide +kernel
theorem dL_set_2 : decode cL_set 2 = .ok (.aload_n 0, 1) := by decide +kernel
theorem dL_set_3 : decode cL_set 3 = .ok (.iload_n 1, 1) := by decide +kernel
theorem dL_set_4 : decode cL_set 4 = .ok (.invokevirtual 59, 3) := by decide +kernel
theorem dL_set_7 : decode cL_set 7 = .ok (.i2l, 1) := by decide +kernel
theorem dL_set_8 : decode cL_set 8 = .ok (.lastore, 1) := by decide +kernel
theorem dL_set_9 : decode cL_set 9 = .ok (.goto 6, 3) := by decide +kernel
theorem dL_set_12 : decode cL_set 12 = .ok (.astore_n 3, 1) := by decide +kernel
theorem dL_set_13 : decode cL_set 13 = .ok (.iconst 1, 1) := by decide +kernel
theorem dL_set_14 : decode cL_set 14 = .ok (.ireturn, 1) := by decide +kernel
theorem dL_set_15 : decode cL_set 15 = .ok (.iconst 0, 1) := by decide +kernel
theorem dL_set_16 : decode cL_set 16 = .ok (.ireturn, 1) := by decide +kernel
theorem dL_ticks_0 : decode cL_ticks 0 = .ok (.aload_n 2, 1) := by decide +kernel
theorem dL_ticks_1 : decode cL_ticks 1 = .ok (.iconst 0, 1) := by decide +kernel
theorem dL_ticks_2 : decode cL_ticks 2 = .ok (.aload_n 0, 1) := by decide +kernel
theorem dL_ticks_3 : decode cL_ticks 3 = .ok (.iload_n 1, 1) := by decide +kernel
theorem dL_ticks_4 : decode cL_ticks 4 = .ok (.invokevirtual 62, 3) := by decide +kernel
theorem dL_ticks_7 : decode cL_ticks 7 = .ok (.i2l, 1) := by decide +kernel
theorem dL_ticks_8 : decode cL_ticks 8 = .ok (.lastore, 1) := by decide +kernel
theorem dL_ticks_9 : decode cL_ticks 9 = .ok (.goto 6, 3) := by decide +kernel
theorem dL_ticks_12 : decode cL_ticks 12 = .ok (.astore_n 3, 1) := by decide +kernel
theorem dL_ticks_13 : decode cL_ticks 13 = .ok (.iconst 1, 1) := by decide +kernel
theorem dL_ticks_14 : decode cL_ticks 14 = .ok (.ireturn, 1) := by decide +kernel
theorem dL_ticks_15 : decode cL_ticks 15 = .ok (.iconst 0, 1) := by decide +kernel
theorem dL_ticks_16 : decode cL_ticks 16 = .ok (.ireturn, 1) := by decide +kernel
theorem dL_undo_0 : decode cL_undo 0 = .ok (.aload_n 1, 1) := by decide +kernel
theorem dL_undo_1 : decode cL_undo 1 = .ok (.iconst 0, 1) := by decide +kernel
theorem dL_undo_2 : decode cL_undo 2 = .ok (.aload_n 0, 1) := by decide +kernel
theorem dL_undo_3 : decode cL_undo 3 = .ok (.invokevirtual 65, 3) := by decide +kernel
theorem dL_undo_6 : decode cL_undo 6 = .ok (.i2l, 1) := by decide +kernel
theorem dL_undo_7 : decode cL_undo 7 = .ok (.lastore, 1) := by decide +kernel
theorem dL_undo_8 : decode cL_undo 8 = .ok (.goto 6, 3) := by decide +kernel
theorem dL_undo_11 : decode cL_undo 11 = .ok (.astore_n 2, 1) := by decide +kernel
theorem dL_undo_12 : decode cL_undo 12 = .ok (.iconst 1, 1) := by decide +kernel
theorem dL_undo_13 : decode cL_undo 13 = .ok (.ireturn, 1) := by decide +kernel
theorem dL_undo_14 : decode cL_undo 14 = .ok (.iconst 0, 1) := by decide +kernel
theorem dL_undo_15 : decode cL_undo 15 = .ok (.ireturn, 1) := by decide +kernel
theorem dL_standsIn_0 : decode cL_standsIn 0 = .ok (.aload 4, 2) := by decide +kernel
theorem dL_standsIn_2 : decode cL_standsIn 2 = .ok (.iconst 0, 1) := by decide +kernel
theorem dL_standsIn_3 : decode cL_standsIn 3 = .ok (.aload_n 0, 1) := by decide +kernel
theorem dL_standsIn_4 : decode cL_standsIn 4 = .ok (.iload_n 1, 1) := by decide +kernel
theorem dL_standsIn_5 : decode cL_standsIn 5 = .ok (.iload_n 2, 1) := by decide +kernel
theorem dL_standsIn_6 : decode cL_standsIn 6 = .ok (.iload_n 3, 1) := by decide +kernel
theorem dL_standsIn_7 : decode cL_standsIn 7 = .ok (.invokevirtual 68, 3) := by decide +kernel
theorem dL_standsIn_10 : decode cL_standsIn 10 = .ok (.i2l, 1) := by decide +kernel
theorem dL_standsIn_11 : decode cL_standsIn 11 = .ok (.lastore, 1) := by decide +kernel
theorem dL_standsIn_12 : decode cL_standsIn 12 = .ok (.goto 11, 3) := by decide +kernel
theorem dL_standsIn_15 : decode cL_standsIn 15 = .ok (.astore 5, 2) := by decide +kernel
theorem dL_standsIn_17 : decode cL_standsIn 17 = .ok (.iconst 1, 1) := by decide +kernel
theorem dL_standsIn_18 : decode cL_standsIn 18 = .ok (.ireturn, 1) := by decide +kernel
theorem dL_standsIn_19 : decode cL_standsIn 19 = .ok (.astore 5, 2) := by decide +kernel
theorem dL_standsIn_21 : decode cL_standsIn 21 = .ok (.iconst 2, 1) := by decide +kernel
theorem dL_standsIn_22 : decode cL_standsIn 22 = .ok (.ireturn, 1) := by decide +kernel
theorem dL_standsIn_23 : decode cL_standsIn 23 = .ok (.iconst 0, 1) := by decide +kernel
theorem dL_standsIn_24 : decode cL_standsIn 24 = .ok (.ireturn, 1) := by decide +kernel
theorem dL_compare_0 : decode cL_compare 0 = .ok (.aload 4, 2) := by decide +kernel
theorem dL_compare_2 : decode cL_compare 2 = .ok (.iconst 0, 1) := by decide +kernel
theorem dL_compare_3 : decode cL_compare 3 = .ok (.aload_n 0, 1) := by decide +kernel
theorem dL_compare_4 : decode cL_compare 4 = .ok (.iload_n 1, 1) := by decide +kernel
theorem dL_compare_5 : decode cL_compare 5 = .ok (.iload_n 2, 1) := by decide +kernel
theorem dL_compare_6 : decode cL_compare 6 = .ok (.iload_n 3, 1) := by decide +kernel
theorem dL_compare_7 : decode cL_compare 7 = .ok (.invokevirtual 71, 3) := by decide +kernel
theorem dL_compare_10 : decode cL_compare 10 = .ok (.i2l, 1) := by decide +kernel
theorem dL_compare_11 : decode cL_compare 11 = .ok (.lastore, 1) := by decide +kernel
theorem dL_compare_12 : decode cL_compare 12 = .ok (.goto 11, 3) := by decide +kernel
theorem dL_compare_15 : decode cL_compare 15 = .ok (.astore 5, 2) := by decide +kernel
theorem dL_compare_17 : decode cL_compare 17 = .ok (.iconst 1, 1) := by decide +kernel
theorem dL_compare_18 : decode cL_compare 18 = .ok (.ireturn, 1) := by decide +kernel
theorem dL_compare_19 : decode cL_compare 19 = .ok (.astore 5, 2) := by decide +kernel
theorem dL_compare_21 : decode cL_compare 21 = .ok (.iconst 2, 1) := by decide +kernel
theorem dL_compare_22 : decode cL_compare 22 = .ok (.ireturn, 1) := by decide +kernel
theorem dL_compare_23 : decode cL_compare 23 = .ok (.iconst 0, 1) := by decide +kernel
theorem dL_compare_24 : decode cL_compare 24 = .ok (.ireturn, 1) := by decide +kernel
theorem dL_lacks_0 : decode cL_lacks 0 = .ok (.aload_n 2, 1) := by decide +kernel
theorem dL_lacks_1 : decode cL_lacks 1 = .ok (.iconst 0, 1) := by decide +kernel
theorem dL_lacks_2 : decode cL_lacks 2 = .ok (.aload_n 0, 1) := by decide +kernel
theorem dL_lacks_3 : decode cL_lacks 3 = .ok (.iload_n 1, 1) := by decide +kernel
theorem dL_lacks_4 : decode cL_lacks 4 = .ok (.invokevirtual 74, 3) := by decide +kernel
theorem dL_lacks_7 : decode cL_lacks 7 = .ok (.i2l, 1) := by decide +kernel
theorem dL_lacks_8 : decode cL_lacks 8 = .ok (.lastore, 1) := by decide +kernel
theorem dL_lacks_9 : decode cL_lacks 9 = .ok (.goto 6, 3) := by decide +kernel
theorem dL_lacks_12 : decode cL_lacks 12 = .ok (.astore_n 3, 1) := by decide +kernel
theorem dL_lacks_13 : decode cL_lacks 13 = .ok (.iconst 1, 1) := by decide +kernel
theorem dL_lacks_14 : decode cL_lacks 14 = .ok (.ireturn, 1) := by decide +kernel
theorem dL_lacks_15 : decode cL_lacks 15 = .ok (.iconst 0, 1) := by decide +kernel
theorem dL_lacks_16 : decode cL_lacks 16 = .ok (.ireturn, 1) := by decide +kernel
theorem dL_runScript_0 : decode cL_runScript 0 = .ok (.aload 4, 2) := by decide +kernel
theorem dL_runScript_2 : decode cL_runScript 2 = .ok (.iconst 0, 1) := by decide +kernel
theorem dL_runScript_3 : decode cL_runScript 3 = .ok (.aload_n 0, 1) := by decide +kernel
theorem dL_runScript_4 : decode cL_runScript 4 = .ok (.iload_n 1, 1) := by decide +kernel
theorem dL_runScript_5 : decode cL_runScript 5 = .ok (.lload_n 2, 1) := by decide +kernel
theorem dL_runScript_6 : decode cL_runScript 6 = .ok (.invokevirtual 77, 3) := by decide +kernel
theorem dL_runScript_9 : decode cL_runScript 9 = .ok (.i2l, 1) := by decide +kernel
theorem dL_runScript_10 : decode cL_runScript 10 = .ok (.lastore, 1) := by decide +kernel
theorem dL_runScript_11 : decode cL_runScript 11 = .ok (.goto 7, 3) := by decide +kernel
theorem dL_runScript_14 : decode cL_runScript 14 = .ok (.astore 5, 2) := by decide +kernel
theorem dL_runScript_16 : decode cL_runScript 16 = .ok (.iconst 1, 1) := by decide +kernel
theorem dL_runScript_17 : decode cL_runScript 17 = .ok (.ireturn, 1) := by decide +kernel
theorem dL_runScript_18 : decode cL_runScript 18 = .ok (.iconst 0, 1) := by decide +kernel
theorem dL_runScript_19 : decode cL_runScript 19 = .ok (.ireturn, 1) := by decide +kernel
theorem dL_simulate_0 : decode cL_simulate 0 = .ok (.aload 4, 2) := by decide +kernel
theorem dL_simulate_2 : decode cL_simulate 2 = .ok (.iconst 0, 1) := by decide +kernel
theorem dL_simulate_3 : decode cL_simulate 3 = .ok (.aload_n 0, 1) := by decide +kernel
theorem dL_simulate_4 : decode cL_simulate 4 = .ok (.lload_n 1, 1) := by decide +kernel
theorem dL_simulate_5 : decode cL_simulate 5 = .ok (.iload_n 3, 1) := by decide +kernel
theorem dL_simulate_6 : decode cL_simulate 6 = .ok (.invokevirtual 81, 3) := by decide +kernel
theorem dL_simulate_9 : decode cL_simulate 9 = .ok (.i2l, 1) := by decide +kernel
theorem dL_simulate_10 : decode cL_simulate 10 = .ok (.lastore, 1) := by decide +kernel
theorem dL_simulate_11 : decode cL_simulate 11 = .ok (.goto 7, 3) := by decide +kernel
theorem dL_simulate_14 : decode cL_simulate 14 = .ok (.astore 5, 2) := by decide +kernel
theorem dL_simulate_16 : decode cL_simulate 16 = .ok (.iconst 1, 1) := by decide +kernel
theorem dL_simulate_17 : decode cL_simulate 17 = .ok (.ireturn, 1) := by decide +kernel
theorem dL_simulate_18 : decode cL_simulate 18 = .ok (.iconst 0, 1) := by decide +kernel
theorem dL_simulate_19 : decode cL_simulate 19 = .ok (.ireturn, 1) := by decide +kernel
theorem dL_save_0 : decode cL_save 0 = .ok (.aload_n 2, 1) := by decide +kernel
theorem dL_save_1 : decode cL_save 1 = .ok (.iconst 0, 1) := by decide +kernel
theorem dL_save_2 : decode cL_save 2 = .ok (.aload_n 0, 1) := by decide +kernel
theorem dL_save_3 : decode cL_save 3 = .ok (.iload_n 1, 1) := by decide +kernel
theorem dL_save_4 : decode cL_save 4 = .ok (.invokevirtual 85, 3) := by decide +kernel
theorem dL_save_7 : decode cL_save 7 = .ok (.i2l, 1) := by decide +kernel
theorem dL_save_8 : decode cL_save 8 = .ok (.lastore, 1) := by decide +kernel
theorem dL_save_9 : decode cL_save 9 = .ok (.goto 6, 3) := by decide +kernel
theorem dL_save_12 : decode cL_save 12 = .ok (.astore_n 3, 1) := by decide +kernel
theorem dL_save_13 : decode cL_save 13 = .ok (.iconst 1, 1) := by decide +kernel
theorem dL_save_14 : decode cL_save 14 = .ok (.ireturn, 1) := by decide +kernel
theorem dL_save_15 : decode cL_save 15 = .ok (.iconst 0, 1) := by decide +kernel
theorem dL_save_16 : decode cL_save 16 = .ok (.ireturn, 1) := by decide +kernel
theorem dL_restore_0 : decode cL_restore 0 = .ok (.aload_n 2, 1) := by decide +kernel
theorem dL_restore_1 : decode cL_restore 1 = .ok (.iconst 0, 1) := by decide +kernel
theorem dL_restore_2 : decode cL_restore 2 = .ok (.aload_n 0, 1) := by decide +kernel
theorem dL_restore_3 : decode cL_restore 3 = .ok (.iload_n 1, 1) := by decide +kernel
theorem dL_restore_4 : decode cL_restore 4 = .ok (.invokevirtual 88, 3) := by decide +kernel
theorem dL_restore_7 : decode cL_restore 7 = .ok (.i2l, 1) := by decide +kernel
theorem dL_restore_8 : decode cL_restore 8 = .ok (.lastore, 1) := by decide +kernel
theorem dL_restore_9 : decode cL_restore 9 = .ok (.goto 9, 3) := by decide +kernel
theorem dL_restore_12 : decode cL_restore 12 = .ok (.astore_n 3, 1) := by decide +kernel
theorem dL_restore_13 : decode cL_restore 13 = .ok (.iconst 1, 1) := by decide +kernel
theorem dL_restore_14 : decode cL_restore 14 = .ok (.ireturn, 1) := by decide +kernel
theorem dL_restore_15 : decode cL_restore 15 = .ok (.astore_n 3, 1) := by decide +kernel
theorem dL_restore_16 : decode cL_restore 16 = .ok (.iconst 2, 1) := by decide +kernel
theorem dL_restore_17 : decode cL_restore 17 = .ok (.ireturn, 1) := by decide +kernel
theorem dL_restore_18 : decode cL_restore 18 = .ok (.iconst 0, 1) := by decide +kernel
theorem dL_restore_19 : decode cL_restore 19 = .ok (.ireturn, 1) := by decide +kernel
theorem dL_law_0 : decode cL_law 0 = .ok (.new 8, 3) := by decide +kernel
theorem dL_law_3 : decode cL_law 3 = .ok (.dup, 1) := by decide +kernel
theorem dL_law_4 : decode cL_law 4 = .ok (.invokespecial 91, 3) := by decide +kernel
theorem dL_law_7 : decode cL_law 7 = .ok (.astore_n 1, 1) := by decide +kernel
theorem dL_law_8 : decode cL_law 8 = .ok (.new 92, 3) := by decide +kernel
theorem dL_law_11 : decode cL_law 11 = .ok (.dup, 1) := by decide +kernel
theorem dL_law_12 : decode cL_law 12 = .ok (.invokespecial 94, 3) := by decide +kernel
theorem dL_law_15 : decode cL_law 15 = .ok (.astore_n 2, 1) := by decide +kernel
theorem dL_law_16 : decode cL_law 16 = .ok (.iconst 1, 1) := by decide +kernel
theorem dL_law_17 : decode cL_law 17 = .ok (.newarray .long, 2) := by decide +kernel
theorem dL_law_19 : decode cL_law 19 = .ok (.astore_n 3, 1) := by decide +kernel
theorem dL_law_20 : decode cL_law 20 = .ok (.iconst 0, 1) := by decide +kernel
theorem dL_law_21 : decode cL_law 21 = .ok (.istore 4, 2) := by decide +kernel
theorem dL_law_23 : decode cL_law 23 = .ok (.iload 4, 2) := by decide +kernel
theorem dL_law_25 : decode cL_law 25 = .ok (.aload_n 0, 1) := by decide +kernel
theorem dL_law_26 : decode cL_law 26 = .ok (.arraylength, 1) := by decide +kernel
theorem dL_law_27 : decode cL_law 27 = .ok (.iconst 4, 1) := by decide +kernel
theorem dL_law_28 : decode cL_law 28 = .ok (.isub, 1) := by decide +kernel
theorem dL_law_29 : decode cL_law 29 = .ok (.if_icmp .gt 1684, 3) := by decide +kernel
theorem dL_law_32 : decode cL_law 32 = .ok (.aload_n 0, 1) := by decide +kernel
theorem dL_law_33 : decode cL_law 33 = .ok (.iload 4, 2) := by decide +kernel
theorem dL_law_35 : decode cL_law 35 = .ok (.iaload, 1) := by decide +kernel
theorem dL_law_36 : decode cL_law 36 = .ok (.bipush 31, 2) := by decide +kernel
theorem dL_law_38 : decode cL_law 38 = .ok (.iand, 1) := by decide +kernel
theorem dL_law_39 : decode cL_law 39 = .ok (.tableswitch 1668 0 25 #[117, 173, 186, 199, 243, 299, 367, 447, 515, 583, 639, 695, 763, 859, 915, 971, 1027, 1083, 1127, 1207, 1287, 1343, 1356, 1456, 1556, 1612], 117) := by decide +kernel
theorem dL_law_156 : decode cL_law 156 = .ok (.aload_n 1, 1) := by decide +kernel
theorem dL_law_157 : decode cL_law 157 = .ok (.aload_n 0, 1) := by decide +kernel
theorem dL_law_158 : decode cL_law 158 = .ok (.iload 4, 2) := by decide +kernel
theorem dL_law_160 : decode cL_law 160 = .ok (.iconst 1, 1) := by decide +kernel
theorem dL_law_161 : decode cL_law 161 = .ok (.iadd, 1) := by decide +kernel
theorem dL_law_162 : decode cL_law 162 = .ok (.iaload, 1) := by decide +kernel
theorem dL_law_163 : decode cL_law 163 = .ok (.aload_n 3, 1) := by decide +kernel
theorem dL_law_164 : decode cL_law 164 = .ok (.invokestatic 95, 3) := by decide +kernel
theorem dL_law_167 : decode cL_law 167 = .ok (.istore 5, 2) := by decide +kernel
theorem dL_law_169 : decode cL_law 169 = .ok (.aload_n 2, 1) := by decide +kernel
theorem dL_law_170 : decode cL_law 170 = .ok (.aload_n 0, 1) := by decide +kernel
theorem dL_law_171 : decode cL_law 171 = .ok (.iload 4, 2) := by decide +kernel
theorem dL_law_173 : decode cL_law 173 = .ok (.iconst 1, 1) := by decide +kernel
theorem dL_law_174 : decode cL_law 174 = .ok (.iadd, 1) := by decide +kernel
theorem dL_law_175 : decode cL_law 175 = .ok (.iaload, 1) := by decide +kernel
theorem dL_law_176 : decode cL_law 176 = .ok (.invokevirtual 100, 3) := by decide +kernel
theorem dL_law_179 : decode cL_law 179 = .ok (.istore 6, 2) := by decide +kernel
theorem dL_law_181 : decode cL_law 181 = .ok (.aload_n 2, 1) := by decide +kernel
theorem dL_law_182 : decode cL_law 182 = .ok (.invokevirtual 101, 3) := by decide +kernel
theorem dL_law_185 : decode cL_law 185 = .ok (.iload 5, 2) := by decide +kernel
theorem dL_law_187 : decode cL_law 187 = .ok (.if_icmp .eq 5, 3) := by decide +kernel
theorem dL_law_190 : decode cL_law 190 = .ok (.iconst 0, 1) := by decide +kernel
theorem dL_law_191 : decode cL_law 191 = .ok (.ireturn, 1) := by decide +kernel
theorem dL_law_192 : decode cL_law 192 = .ok (.iload 5, 2) := by decide +kernel
theorem dL_law_194 : decode cL_law 194 = .ok (.ifCond .ne 15, 3) := by decide +kernel
theorem dL_law_197 : decode cL_law 197 = .ok (.aload_n 3, 1) := by decide +kernel
theorem dL_law_198 : decode cL_law 198 = .ok (.iconst 0, 1) := by decide +kernel
theorem dL_law_199 : decode cL_law 199 = .ok (.laload, 1) := by decide +kernel
theorem dL_law_200 : decode cL_law 200 = .ok (.iload 6, 2) := by decide +kernel
theorem dL_law_202 : decode cL_law 202 = .ok (.i2l, 1) := by decide +kernel
theorem dL_law_203 : decode cL_law 203 = .ok (.lcmp, 1) := by decide +kernel
theorem dL_law_204 : decode cL_law 204 = .ok (.ifCond .eq 5, 3) := by decide +kernel
theorem dL_law_207 : decode cL_law 207 = .ok (.iconst 0, 1) := by decide +kernel
theorem dL_law_208 : decode cL_law 208 = .ok (.ireturn, 1) := by decide +kernel
theorem dL_law_209 : decode cL_law 209 = .ok (.goto 1498, 3) := by decide +kernel
theorem dL_law_212 : decode cL_law 212 = .ok (.aload_n 1, 1) := by decide +kernel
theorem dL_law_213 : decode cL_law 213 = .ok (.invokevirtual 104, 3) := by decide +kernel
theorem dL_law_216 : decode cL_law 216 = .ok (.aload_n 2, 1) := by decide +kernel
theorem dL_law_217 : decode cL_law 217 = .ok (.invokevirtual 107, 3) := by decide +kernel
theorem dL_law_220 : decode cL_law 220 = .ok (.if_icmp .eq 1487, 3) := by decide +kernel
theorem dL_law_223 : decode cL_law 223 = .ok (.iconst 0, 1) := by decide +kernel
theorem dL_law_224 : decode cL_law 224 = .ok (.ireturn, 1) := by decide +kernel
theorem dL_law_225 : decode cL_law 225 = .ok (.aload_n 1, 1) := by decide +kernel
theorem dL_law_226 : decode cL_law 226 = .ok (.invokevirtual 108, 3) := by decide +kernel
theorem dL_law_229 : decode cL_law 229 = .ok (.aload_n 2, 1) := by decide +kernel
theorem dL_law_230 : decode cL_law 230 = .ok (.invokevirtual 111, 3) := by decide +kernel
theorem dL_law_233 : decode cL_law 233 = .ok (.if_icmp .eq 1474, 3) := by decide +kernel
theorem dL_law_236 : decode cL_law 236 = .ok (.iconst 0, 1) := by decide +kernel
theorem dL_law_237 : decode cL_law 237 = .ok (.ireturn, 1) := by decide +kernel
theorem dL_law_238 : decode cL_law 238 = .ok (.aload_n 1, 1) := by decide +kernel
theorem dL_law_239 : decode cL_law 239 = .ok (.aload_n 3, 1) := by decide +kernel
theorem dL_law_240 : decode cL_law 240 = .ok (.invokestatic 112, 3) := by decide +kernel
theorem dL_law_243 : decode cL_law 243 = .ok (.istore 5, 2) := by decide +kernel
theorem dL_law_245 : decode cL_law 245 = .ok (.aload_n 2, 1) := by decide +kernel
theorem dL_law_246 : decode cL_law 246 = .ok (.invokevirtual 115, 3) := by decide +kernel
theorem dL_law_249 : decode cL_law 249 = .ok (.istore 6, 2) := by decide +kernel
theorem dL_law_251 : decode cL_law 251 = .ok (.aload_n 2, 1) := by decide +kernel
theorem dL_law_252 : decode cL_law 252 = .ok (.invokevirtual 101, 3) := by decide +kernel
theorem dL_law_255 : decode cL_law 255 = .ok (.iload 5, 2) := by decide +kernel
theorem dL_law_257 : decode cL_law 257 = .ok (.if_icmp .eq 5, 3) := by decide +kernel
theorem dL_law_260 : decode cL_law 260 = .ok (.iconst 0, 1) := by decide +kernel
theorem dL_law_261 : decode cL_law 261 = .ok (.ireturn, 1) := by decide +kernel
theorem dL_law_262 : decode cL_law 262 = .ok (.iload 5, 2) := by decide +kernel
theorem dL_law_264 : decode cL_law 264 = .ok (.ifCond .ne 15, 3) := by decide +kernel
theorem dL_law_267 : decode cL_law 267 = .ok (.aload_n 3, 1) := by decide +kernel
theorem dL_law_268 : decode cL_law 268 = .ok (.iconst 0, 1) := by decide +kernel
theorem dL_law_269 : decode cL_law 269 = .ok (.laload, 1) := by decide +kernel
theorem dL_law_270 : decode cL_law 270 = .ok (.iload 6, 2) := by decide +kernel
theorem dL_law_272 : decode cL_law 272 = .ok (.i2l, 1) := by decide +kernel
theorem dL_law_273 : decode cL_law 273 = .ok (.lcmp, 1) := by decide +kernel
theorem dL_law_274 : decode cL_law 274 = .ok (.ifCond .eq 5, 3) := by decide +kernel
theorem dL_law_277 : decode cL_law 277 = .ok (.iconst 0, 1) := by decide +kernel
theorem dL_law_278 : decode cL_law 278 = .ok (.ireturn, 1) := by decide +kernel
theorem dL_law_279 : decode cL_law 279 = .ok (.goto 1428, 3) := by decide +kernel
theorem dL_law_282 : decode cL_law 282 = .ok (.aload_n 1, 1) := by decide +kernel
theorem dL_law_283 : decode cL_law 283 = .ok (.aload_n 0, 1) := by decide +kernel
theorem dL_law_284 : decode cL_law 284 = .ok (.iload 4, 2) := by decide +kernel
theorem dL_law_286 : decode cL_law 286 = .ok (.iconst 1, 1) := by decide +kernel
theorem dL_law_287 : decode cL_law 287 = .ok (.iadd, 1) := by decide +kernel
theorem dL_law_288 : decode cL_law 288 = .ok (.iaload, 1) := by decide +kernel
theorem dL_law_289 : decode cL_law 289 = .ok (.aload_n 3, 1) := by decide +kernel
theorem dL_law_290 : decode cL_law 290 = .ok (.invokestatic 116, 3) := by decide +kernel
theorem dL_law_293 : decode cL_law 293 = .ok (.istore 5, 2) := by decide +kernel
theorem dL_law_295 : decode cL_law 295 = .ok (.aload_n 2, 1) := by decide +kernel
theorem dL_law_296 : decode cL_law 296 = .ok (.aload_n 0, 1) := by decide +kernel
theorem dL_law_297 : decode cL_law 297 = .ok (.iload 4, 2) := by decide +kernel
theorem dL_law_299 : decode cL_law 299 = .ok (.iconst 1, 1) := by decide +kernel
theorem dL_law_300 : decode cL_law 300 = .ok (.iadd, 1) := by decide +kernel
theorem dL_law_301 : decode cL_law 301 = .ok (.iaload, 1) := by decide +kernel
theorem dL_law_302 : decode cL_law 302 = .ok (.invokevirtual 118, 3) := by decide +kernel
theorem dL_law_305 : decode cL_law 305 = .ok (.istore 6, 2) := by decide +kernel
theorem dL_law_307 : decode cL_law 307 = .ok (.aload_n 2, 1) := by decide +kernel
theorem dL_law_308 : decode cL_law 308 = .ok (.invokevirtual 101, 3) := by decide +kernel
theorem dL_law_311 : decode cL_law 311 = .ok (.iload 5, 2) := by decide +kernel
theorem dL_law_313 : decode cL_law 313 = .ok (.if_icmp .eq 5, 3) := by decide +kernel
theorem dL_law_316 : decode cL_law 316 = .ok (.iconst 0, 1) := by decide +kernel
theorem dL_law_317 : decode cL_law 317 = .ok (.ireturn, 1) := by decide +kernel
theorem dL_law_318 : decode cL_law 318 = .ok (.iload 5, 2) := by decide +kernel
theorem dL_law_320 : decode cL_law 320 = .ok (.ifCond .ne 15, 3) := by decide +kernel
theorem dL_law_323 : decode cL_law 323 = .ok (.aload_n 3, 1) := by decide +kernel
theorem dL_law_324 : decode cL_law 324 = .ok (.iconst 0, 1) := by decide +kernel
theorem dL_law_325 : decode cL_law 325 = .ok (.laload, 1) := by decide +kernel
theorem dL_law_326 : decode cL_law 326 = .ok (.iload 6, 2) := by decide +kernel
theorem dL_law_328 : decode cL_law 328 = .ok (.i2l, 1) := by decide +kernel
theorem dL_law_329 : decode cL_law 329 = .ok (.lcmp, 1) := by decide +kernel
theorem dL_law_330 : decode cL_law 330 = .ok (.ifCond .eq 5, 3) := by decide +kernel
theorem dL_law_333 : decode cL_law 333 = .ok (.iconst 0, 1) := by decide +kernel
theorem dL_law_334 : decode cL_law 334 = .ok (.ireturn, 1) := by decide +kernel
theorem dL_law_335 : decode cL_law 335 = .ok (.goto 1372, 3) := by decide +kernel
theorem dL_law_338 : decode cL_law 338 = .ok (.aload_n 1, 1) := by decide +kernel
theorem dL_law_339 : decode cL_law 339 = .ok (.aload_n 0, 1) := by decide +kernel
theorem dL_law_340 : decode cL_law 340 = .ok (.iload 4, 2) := by decide +kernel
theorem dL_law_342 : decode cL_law 342 = .ok (.iconst 1, 1) := by decide +kernel
theorem dL_law_343 : decode cL_law 343 = .ok (.iadd, 1) := by decide +kernel
theorem dL_law_344 : decode cL_law 344 = .ok (.iaload, 1) := by decide +kernel
theorem dL_law_345 : decode cL_law 345 = .ok (.aload_n 0, 1) := by decide +kernel
theorem dL_law_346 : decode cL_law 346 = .ok (.iload 4, 2) := by decide +kernel
theorem dL_law_348 : decode cL_law 348 = .ok (.iconst 2, 1) := by decide +kernel
theorem dL_law_349 : decode cL_law 349 = .ok (.iadd, 1) := by decide +kernel
theorem dL_law_350 : decode cL_law 350 = .ok (.iaload, 1) := by decide +kernel
theorem dL_law_351 : decode cL_law 351 = .ok (.aload_n 3, 1) := by decide +kernel
theorem dL_law_352 : decode cL_law 352 = .ok (.invokestatic 119, 3) := by decide +kernel
theorem dL_law_355 : decode cL_law 355 = .ok (.istore 5, 2) := by decide +kernel
theorem dL_law_357 : decode cL_law 357 = .ok (.aload_n 2, 1) := by decide +kernel
theorem dL_law_358 : decode cL_law 358 = .ok (.aload_n 0, 1) := by decide +kernel
theorem dL_law_359 : decode cL_law 359 = .ok (.iload 4, 2) := by decide +kernel
theorem dL_law_361 : decode cL_law 361 = .ok (.iconst 1, 1) := by decide +kernel
theorem dL_law_362 : decode cL_law 362 = .ok (.iadd, 1) := by decide +kernel
theorem dL_law_363 : decode cL_law 363 = .ok (.iaload, 1) := by decide +kernel
theorem dL_law_364 : decode cL_law 364 = .ok (.aload_n 0, 1) := by decide +kernel
theorem dL_law_365 : decode cL_law 365 = .ok (.iload 4, 2) := by decide +kernel
theorem dL_law_367 : decode cL_law 367 = .ok (.iconst 2, 1) := by decide +kernel
theorem dL_law_368 : decode cL_law 368 = .ok (.iadd, 1) := by decide +kernel
theorem dL_law_369 : decode cL_law 369 = .ok (.iaload, 1) := by decide +kernel
theorem dL_law_370 : decode cL_law 370 = .ok (.invokevirtual 122, 3) := by decide +kernel
theorem dL_law_373 : decode cL_law 373 = .ok (.istore 6, 2) := by decide +kernel
theorem dL_law_375 : decode cL_law 375 = .ok (.aload_n 2, 1) := by decide +kernel
theorem dL_law_376 : decode cL_law 376 = .ok (.invokevirtual 101, 3) := by decide +kernel
theorem dL_law_379 : decode cL_law 379 = .ok (.iload 5, 2) := by decide +kernel
theorem dL_law_381 : decode cL_law 381 = .ok (.if_icmp .eq 5, 3) := by decide +kernel
theorem dL_law_384 : decode cL_law 384 = .ok (.iconst 0, 1) := by decide +kernel
theorem dL_law_385 : decode cL_law 385 = .ok (.ireturn, 1) := by decide +kernel
theorem dL_law_386 : decode cL_law 386 = .ok (.iload 5, 2) := by decide +kernel
theorem dL_law_388 : decode cL_law 388 = .ok (.ifCond .ne 15, 3) := by decide +kernel
theorem dL_law_391 : decode cL_law 391 = .ok (.aload_n 3, 1) := by decide +kernel
theorem dL_law_392 : decode cL_law 392 = .ok (.iconst 0, 1) := by decide +kernel
theorem dL_law_393 : decode cL_law 393 = .ok (.laload, 1) := by decide +kernel
theorem dL_law_394 : decode cL_law 394 = .ok (.iload 6, 2) := by decide +kernel
theorem dL_law_396 : decode cL_law 396 = .ok (.i2l, 1) := by decide +kernel
theorem dL_law_397 : decode cL_law 397 = .ok (.lcmp, 1) := by decide +kernel
theorem dL_law_398 : decode cL_law 398 = .ok (.ifCond .eq 5, 3) := by decide +kernel
theorem dL_law_401 : decode cL_law 401 = .ok (.iconst 0, 1) := by decide +kernel
theorem dL_law_402 : decode cL_law 402 = .ok (.ireturn, 1) := by decide +kernel
theorem dL_law_403 : decode cL_law 403 = .ok (.goto 1304, 3) := by decide +kernel
theorem dL_law_406 : decode cL_law 406 = .ok (.aload_n 1, 1) := by decide +kernel
theorem dL_law_407 : decode cL_law 407 = .ok (.aload_n 0, 1) := by decide +kernel
theorem dL_law_408 : decode cL_law 408 = .ok (.iload 4, 2) := by decide +kernel
theorem dL_law_410 : decode cL_law 410 = .ok (.iconst 1, 1) := by decide +kernel
theorem dL_law_411 : decode cL_law 411 = .ok (.iadd, 1) := by decide +kernel
theorem dL_law_412 : decode cL_law 412 = .ok (.iaload, 1) := by decide +kernel
theorem dL_law_413 : decode cL_law 413 = .ok (.aload_n 0, 1) := by decide +kernel
theorem dL_law_414 : decode cL_law 414 = .ok (.iload 4, 2) := by decide +kernel
theorem dL_law_416 : decode cL_law 416 = .ok (.iconst 2, 1) := by decide +kernel
theorem dL_law_417 : decode cL_law 417 = .ok (.iadd, 1) := by decide +kernel
theorem dL_law_418 : decode cL_law 418 = .ok (.iaload, 1) := by decide +kernel
theorem dL_law_419 : decode cL_law 419 = .ok (.aload_n 0, 1) := by decide +kernel
theorem dL_law_420 : decode cL_law 420 = .ok (.iload 4, 2) := by decide +kernel
theorem dL_law_422 : decode cL_law 422 = .ok (.iconst 3, 1) := by decide +kernel
theorem dL_law_423 : decode cL_law 423 = .ok (.iadd, 1) := by decide +kernel
theorem dL_law_424 : decode cL_law 424 = .ok (.iaload, 1) := by decide +kernel
theorem dL_law_425 : decode cL_law 425 = .ok (.aload_n 3, 1) := by decide +kernel
theorem dL_law_426 : decode cL_law 426 = .ok (.invokestatic 123, 3) := by decide +kernel
theorem dL_law_429 : decode cL_law 429 = .ok (.istore 5, 2) := by decide +kernel
theorem dL_law_431 : decode cL_law 431 = .ok (.aload_n 2, 1) := by decide +kernel
theorem dL_law_432 : decode cL_law 432 = .ok (.aload_n 0, 1) := by decide +kernel
theorem dL_law_433 : decode cL_law 433 = .ok (.iload 4, 2) := by decide +kernel
theorem dL_law_435 : decode cL_law 435 = .ok (.iconst 1, 1) := by decide +kernel
theorem dL_law_436 : decode cL_law 436 = .ok (.iadd, 1) := by decide +kernel
theorem dL_law_437 : decode cL_law 437 = .ok (.iaload, 1) := by decide +kernel
theorem dL_law_438 : decode cL_law 438 = .ok (.aload_n 0, 1) := by decide +kernel
theorem dL_law_439 : decode cL_law 439 = .ok (.iload 4, 2) := by decide +kernel
theorem dL_law_441 : decode cL_law 441 = .ok (.iconst 2, 1) := by decide +kernel
theorem dL_law_442 : decode cL_law 442 = .ok (.iadd, 1) := by decide +kernel
theorem dL_law_443 : decode cL_law 443 = .ok (.iaload, 1) := by decide +kernel
theorem dL_law_444 : decode cL_law 444 = .ok (.aload_n 0, 1) := by decide +kernel
theorem dL_law_445 : decode cL_law 445 = .ok (.iload 4, 2) := by decide +kernel
theorem dL_law_447 : decode cL_law 447 = .ok (.iconst 3, 1) := by decide +kernel
theorem dL_law_448 : decode cL_law 448 = .ok (.iadd, 1) := by decide +kernel
theorem dL_law_449 : decode cL_law 449 = .ok (.iaload, 1) := by decide +kernel
theorem dL_law_450 : decode cL_law 450 = .ok (.invokevirtual 126, 3) := by decide +kernel
theorem dL_law_453 : decode cL_law 453 = .ok (.istore 6, 2) := by decide +kernel
theorem dL_law_455 : decode cL_law 455 = .ok (.aload_n 2, 1) := by decide +kernel
theorem dL_law_456 : decode cL_law 456 = .ok (.invokevirtual 101, 3) := by decide +kernel
theorem dL_law_459 : decode cL_law 459 = .ok (.iload 5, 2) := by decide +kernel
theorem dL_law_461 : decode cL_law 461 = .ok (.if_icmp .eq 5, 3) := by decide +kernel
theorem dL_law_464 : decode cL_law 464 = .ok (.iconst 0, 1) := by decide +kernel
theorem dL_law_465 : decode cL_law 465 = .ok (.ireturn, 1) := by decide +kernel
theorem dL_law_466 : decode cL_law 466 = .ok (.iload 5, 2) := by decide +kernel
theorem dL_law_468 : decode cL_law 468 = .ok (.ifCond .ne 15, 3) := by decide +kernel
theorem dL_law_471 : decode cL_law 471 = .ok (.aload_n 3, 1) := by decide +kernel
theorem dL_law_472 : decode cL_law 472 = .ok (.iconst 0, 1) := by decide +kernel
theorem dL_law_473 : decode cL_law 473 = .ok (.laload, 1) := by decide +kernel
theorem dL_law_474 : decode cL_law 474 = .ok (.iload 6, 2) := by decide +kernel
theorem dL_law_476 : decode cL_law 476 = .ok (.i2l, 1) := by decide +kernel
theorem dL_law_477 : decode cL_law 477 = .ok (.lcmp, 1) := by decide +kernel
theorem dL_law_478 : decode cL_law 478 = .ok (.ifCond .eq 5, 3) := by decide +kernel
theorem dL_law_481 : decode cL_law 481 = .ok (.iconst 0, 1) := by decide +kernel
theorem dL_law_482 : decode cL_law 482 = .ok (.ireturn, 1) := by decide +kernel
theorem dL_law_483 : decode cL_law 483 = .ok (.goto 1224, 3) := by decide +kernel
theorem dL_law_486 : decode cL_law 486 = .ok (.aload_n 1, 1) := by decide +kernel
theorem dL_law_487 : decode cL_law 487 = .ok (.aload_n 0, 1) := by decide +kernel
theorem dL_law_488 : decode cL_law 488 = .ok (.iload 4, 2) := by decide +kernel
theorem dL_law_490 : decode cL_law 490 = .ok (.iconst 1, 1) := by decide +kernel
theorem dL_law_491 : decode cL_law 491 = .ok (.iadd, 1) := by decide +kernel
theorem dL_law_492 : decode cL_law 492 = .ok (.iaload, 1) := by decide +kernel
theorem dL_law_493 : decode cL_law 493 = .ok (.aload_n 0, 1) := by decide +kernel
theorem dL_law_494 : decode cL_law 494 = .ok (.iload 4, 2) := by decide +kernel
theorem dL_law_496 : decode cL_law 496 = .ok (.iconst 2, 1) := by decide +kernel
theorem dL_law_497 : decode cL_law 497 = .ok (.iadd, 1) := by decide +kernel
theorem dL_law_498 : decode cL_law 498 = .ok (.iaload, 1) := by decide +kernel
theorem dL_law_499 : decode cL_law 499 = .ok (.aload_n 3, 1) := by decide +kernel
theorem dL_law_500 : decode cL_law 500 = .ok (.invokestatic 127, 3) := by decide +kernel
theorem dL_law_503 : decode cL_law 503 = .ok (.istore 5, 2) := by decide +kernel
theorem dL_law_505 : decode cL_law 505 = .ok (.aload_n 2, 1) := by decide +kernel
theorem dL_law_506 : decode cL_law 506 = .ok (.aload_n 0, 1) := by decide +kernel
theorem dL_law_507 : decode cL_law 507 = .ok (.iload 4, 2) := by decide +kernel
theorem dL_law_509 : decode cL_law 509 = .ok (.iconst 1, 1) := by decide +kernel
theorem dL_law_510 : decode cL_law 510 = .ok (.iadd, 1) := by decide +kernel
theorem dL_law_511 : decode cL_law 511 = .ok (.iaload, 1) := by decide +kernel
theorem dL_law_512 : decode cL_law 512 = .ok (.aload_n 0, 1) := by decide +kernel
theorem dL_law_513 : decode cL_law 513 = .ok (.iload 4, 2) := by decide +kernel
theorem dL_law_515 : decode cL_law 515 = .ok (.iconst 2, 1) := by decide +kernel
theorem dL_law_516 : decode cL_law 516 = .ok (.iadd, 1) := by decide +kernel
theorem dL_law_517 : decode cL_law 517 = .ok (.iaload, 1) := by decide +kernel
theorem dL_law_518 : decode cL_law 518 = .ok (.invokevirtual 129, 3) := by decide +kernel
theorem dL_law_521 : decode cL_law 521 = .ok (.istore 6, 2) := by decide +kernel
theorem dL_law_523 : decode cL_law 523 = .ok (.aload_n 2, 1) := by decide +kernel
theorem dL_law_524 : decode cL_law 524 = .ok (.invokevirtual 101, 3) := by decide +kernel
theorem dL_law_527 : decode cL_law 527 = .ok (.iload 5, 2) := by decide +kernel
theorem dL_law_529 : decode cL_law 529 = .ok (.if_icmp .eq 5, 3) := by decide +kernel
theorem dL_law_532 : decode cL_law 532 = .ok (.iconst 0, 1) := by decide +kernel
theorem dL_law_533 : decode cL_law 533 = .ok (.ireturn, 1) := by decide +kernel
theorem dL_law_534 : decode cL_law 534 = .ok (.iload 5, 2) := by decide +kernel
theorem dL_law_536 : decode cL_law 536 = .ok (.ifCond .ne 15, 3) := by decide +kernel
theorem dL_law_539 : decode cL_law 539 = .ok (.aload_n 3, 1) := by decide +kernel
theorem dL_law_540 : decode cL_law 540 = .ok (.iconst 0, 1) := by decide +kernel
theorem dL_law_541 : decode cL_law 541 = .ok (.laload, 1) := by decide +kernel
theorem dL_law_542 : decode cL_law 542 = .ok (.iload 6, 2) := by decide +kernel
theorem dL_law_544 : decode cL_law 544 = .ok (.i2l, 1) := by decide +kernel
theorem dL_law_545 : decode cL_law 545 = .ok (.lcmp, 1) := by decide +kernel
theorem dL_law_546 : decode cL_law 546 = .ok (.ifCond .eq 5, 3) := by decide +kernel
theorem dL_law_549 : decode cL_law 549 = .ok (.iconst 0, 1) := by decide +kernel
theorem dL_law_550 : decode cL_law 550 = .ok (.ireturn, 1) := by decide +kernel
theorem dL_law_551 : decode cL_law 551 = .ok (.goto 1156, 3) := by decide +kernel
theorem dL_law_554 : decode cL_law 554 = .ok (.aload_n 1, 1) := by decide +kernel
theorem dL_law_555 : decode cL_law 555 = .ok (.aload_n 0, 1) := by decide +kernel
theorem dL_law_556 : decode cL_law 556 = .ok (.iload 4, 2) := by decide +kernel
theorem dL_law_558 : decode cL_law 558 = .ok (.iconst 1, 1) := by decide +kernel
theorem dL_law_559 : decode cL_law 559 = .ok (.iadd, 1) := by decide +kernel
theorem dL_law_560 : decode cL_law 560 = .ok (.iaload, 1) := by decide +kernel
theorem dL_law_561 : decode cL_law 561 = .ok (.aload_n 0, 1) := by decide +kernel
theorem dL_law_562 : decode cL_law 562 = .ok (.iload 4, 2) := by decide +kernel
theorem dL_law_564 : decode cL_law 564 = .ok (.iconst 2, 1) := by decide +kernel
theorem dL_law_565 : decode cL_law 565 = .ok (.iadd, 1) := by decide +kernel
theorem dL_law_566 : decode cL_law 566 = .ok (.iaload, 1) := by decide +kernel
theorem dL_law_567 : decode cL_law 567 = .ok (.aload_n 3, 1) := by decide +kernel
theorem dL_law_568 : decode cL_law 568 = .ok (.invokestatic 130, 3) := by decide +kernel
theorem dL_law_571 : decode cL_law 571 = .ok (.istore 5, 2) := by decide +kernel
theorem dL_law_573 : decode cL_law 573 = .ok (.aload_n 2, 1) := by decide +kernel
theorem dL_law_574 : decode cL_law 574 = .ok (.aload_n 0, 1) := by decide +kernel
theorem dL_law_575 : decode cL_law 575 = .ok (.iload 4, 2) := by decide +kernel
theorem dL_law_577 : decode cL_law 577 = .ok (.iconst 1, 1) := by decide +kernel
theorem dL_law_578 : decode cL_law 578 = .ok (.iadd, 1) := by decide +kernel
theorem dL_law_579 : decode cL_law 579 = .ok (.iaload, 1) := by decide +kernel
theorem dL_law_580 : decode cL_law 580 = .ok (.aload_n 0, 1) := by decide +kernel
theorem dL_law_581 : decode cL_law 581 = .ok (.iload 4, 2) := by decide +kernel
theorem dL_law_583 : decode cL_law 583 = .ok (.iconst 2, 1) := by decide +kernel
theorem dL_law_584 : decode cL_law 584 = .ok (.iadd, 1) := by decide +kernel
theorem dL_law_585 : decode cL_law 585 = .ok (.iaload, 1) := by decide +kernel
theorem dL_law_586 : decode cL_law 586 = .ok (.invokevirtual 132, 3) := by decide +kernel
theorem dL_law_589 : decode cL_law 589 = .ok (.istore 6, 2) := by decide +kernel
theorem dL_law_591 : decode cL_law 591 = .ok (.aload_n 2, 1) := by decide +kernel
theorem dL_law_592 : decode cL_law 592 = .ok (.invokevirtual 101, 3) := by decide +kernel
theorem dL_law_595 : decode cL_law 595 = .ok (.iload 5, 2) := by decide +kernel
theorem dL_law_597 : decode cL_law 597 = .ok (.if_icmp .eq 5, 3) := by decide +kernel
theorem dL_law_600 : decode cL_law 600 = .ok (.iconst 0, 1) := by decide +kernel
theorem dL_law_601 : decode cL_law 601 = .ok (.ireturn, 1) := by decide +kernel
theorem dL_law_602 : decode cL_law 602 = .ok (.iload 5, 2) := by decide +kernel
theorem dL_law_604 : decode cL_law 604 = .ok (.ifCond .ne 15, 3) := by decide +kernel
theorem dL_law_607 : decode cL_law 607 = .ok (.aload_n 3, 1) := by decide +kernel
theorem dL_law_608 : decode cL_law 608 = .ok (.iconst 0, 1) := by decide +kernel
theorem dL_law_609 : decode cL_law 609 = .ok (.laload, 1) := by decide +kernel
theorem dL_law_610 : decode cL_law 610 = .ok (.iload 6, 2) := by decide +kernel
theorem dL_law_612 : decode cL_law 612 = .ok (.i2l, 1) := by decide +kernel
theorem dL_law_613 : decode cL_law 613 = .ok (.lcmp, 1) := by decide +kernel
theorem dL_law_614 : decode cL_law 614 = .ok (.ifCond .eq 5, 3) := by decide +kernel
theorem dL_law_617 : decode cL_law 617 = .ok (.iconst 0, 1) := by decide +kernel
theorem dL_law_618 : decode cL_law 618 = .ok (.ireturn, 1) := by decide +kernel
theorem dL_law_619 : decode cL_law 619 = .ok (.goto 1088, 3) := by decide +kernel
theorem dL_law_622 : decode cL_law 622 = .ok (.aload_n 1, 1) := by decide +kernel
theorem dL_law_623 : decode cL_law 623 = .ok (.aload_n 0, 1) := by decide +kernel
theorem dL_law_624 : decode cL_law 624 = .ok (.iload 4, 2) := by decide +kernel
theorem dL_law_626 : decode cL_law 626 = .ok (.iconst 1, 1) := by decide +kernel
theorem dL_law_627 : decode cL_law 627 = .ok (.iadd, 1) := by decide +kernel
theorem dL_law_628 : decode cL_law 628 = .ok (.iaload, 1) := by decide +kernel
theorem dL_law_629 : decode cL_law 629 = .ok (.aload_n 3, 1) := by decide +kernel
theorem dL_law_630 : decode cL_law 630 = .ok (.invokestatic 133, 3) := by decide +kernel
theorem dL_law_633 : decode cL_law 633 = .ok (.istore 5, 2) := by decide +kernel
theorem dL_law_635 : decode cL_law 635 = .ok (.aload_n 2, 1) := by decide +kernel
theorem dL_law_636 : decode cL_law 636 = .ok (.aload_n 0, 1) := by decide +kernel
theorem dL_law_637 : decode cL_law 637 = .ok (.iload 4, 2) := by decide +kernel
theorem dL_law_639 : decode cL_law 639 = .ok (.iconst 1, 1) := by decide +kernel
theorem dL_law_640 : decode cL_law 640 = .ok (.iadd, 1) := by decide +kernel
theorem dL_law_641 : decode cL_law 641 = .ok (.iaload, 1) := by decide +kernel
theorem dL_law_642 : decode cL_law 642 = .ok (.invokevirtual 135, 3) := by decide +kernel
theorem dL_law_645 : decode cL_law 645 = .ok (.istore 6, 2) := by decide +kernel
theorem dL_law_647 : decode cL_law 647 = .ok (.aload_n 2, 1) := by decide +kernel
theorem dL_law_648 : decode cL_law 648 = .ok (.invokevirtual 101, 3) := by decide +kernel
theorem dL_law_651 : decode cL_law 651 = .ok (.iload 5, 2) := by decide +kernel
theorem dL_law_653 : decode cL_law 653 = .ok (.if_icmp .eq 5, 3) := by decide +kernel
theorem dL_law_656 : decode cL_law 656 = .ok (.iconst 0, 1) := by decide +kernel
theorem dL_law_657 : decode cL_law 657 = .ok (.ireturn, 1) := by decide +kernel
theorem dL_law_658 : decode cL_law 658 = .ok (.iload 5, 2) := by decide +kernel
theorem dL_law_660 : decode cL_law 660 = .ok (.ifCond .ne 15, 3) := by decide +kernel
theorem dL_law_663 : decode cL_law 663 = .ok (.aload_n 3, 1) := by decide +kernel
theorem dL_law_664 : decode cL_law 664 = .ok (.iconst 0, 1) := by decide +kernel
theorem dL_law_665 : decode cL_law 665 = .ok (.laload, 1) := by decide +kernel
theorem dL_law_666 : decode cL_law 666 = .ok (.iload 6, 2) := by decide +kernel
theorem dL_law_668 : decode cL_law 668 = .ok (.i2l, 1) := by decide +kernel
theorem dL_law_669 : decode cL_law 669 = .ok (.lcmp, 1) := by decide +kernel
theorem dL_law_670 : decode cL_law 670 = .ok (.ifCond .eq 5, 3) := by decide +kernel
theorem dL_law_673 : decode cL_law 673 = .ok (.iconst 0, 1) := by decide +kernel
theorem dL_law_674 : decode cL_law 674 = .ok (.ireturn, 1) := by decide +kernel
theorem dL_law_675 : decode cL_law 675 = .ok (.goto 1032, 3) := by decide +kernel
theorem dL_law_678 : decode cL_law 678 = .ok (.aload_n 1, 1) := by decide +kernel
theorem dL_law_679 : decode cL_law 679 = .ok (.aload_n 0, 1) := by decide +kernel
theorem dL_law_680 : decode cL_law 680 = .ok (.iload 4, 2) := by decide +kernel
theorem dL_law_682 : decode cL_law 682 = .ok (.iconst 1, 1) := by decide +kernel
theorem dL_law_683 : decode cL_law 683 = .ok (.iadd, 1) := by decide +kernel
theorem dL_law_684 : decode cL_law 684 = .ok (.iaload, 1) := by decide +kernel
theorem dL_law_685 : decode cL_law 685 = .ok (.aload_n 3, 1) := by decide +kernel
theorem dL_law_686 : decode cL_law 686 = .ok (.invokestatic 136, 3) := by decide +kernel
theorem dL_law_689 : decode cL_law 689 = .ok (.istore 5, 2) := by decide +kernel
theorem dL_law_691 : decode cL_law 691 = .ok (.aload_n 2, 1) := by decide +kernel
theorem dL_law_692 : decode cL_law 692 = .ok (.aload_n 0, 1) := by decide +kernel
theorem dL_law_693 : decode cL_law 693 = .ok (.iload 4, 2) := by decide +kernel
theorem dL_law_695 : decode cL_law 695 = .ok (.iconst 1, 1) := by decide +kernel
theorem dL_law_696 : decode cL_law 696 = .ok (.iadd, 1) := by decide +kernel
theorem dL_law_697 : decode cL_law 697 = .ok (.iaload, 1) := by decide +kernel
theorem dL_law_698 : decode cL_law 698 = .ok (.invokevirtual 138, 3) := by decide +kernel
theorem dL_law_701 : decode cL_law 701 = .ok (.istore 6, 2) := by decide +kernel
theorem dL_law_703 : decode cL_law 703 = .ok (.aload_n 2, 1) := by decide +kernel
theorem dL_law_704 : decode cL_law 704 = .ok (.invokevirtual 101, 3) := by decide +kernel
theorem dL_law_707 : decode cL_law 707 = .ok (.iload 5, 2) := by decide +kernel
theorem dL_law_709 : decode cL_law 709 = .ok (.if_icmp .eq 5, 3) := by decide +kernel
theorem dL_law_712 : decode cL_law 712 = .ok (.iconst 0, 1) := by decide +kernel
theorem dL_law_713 : decode cL_law 713 = .ok (.ireturn, 1) := by decide +kernel
theorem dL_law_714 : decode cL_law 714 = .ok (.iload 5, 2) := by decide +kernel
theorem dL_law_716 : decode cL_law 716 = .ok (.ifCond .ne 15, 3) := by decide +kernel
theorem dL_law_719 : decode cL_law 719 = .ok (.aload_n 3, 1) := by decide +kernel
theorem dL_law_720 : decode cL_law 720 = .ok (.iconst 0, 1) := by decide +kernel
theorem dL_law_721 : decode cL_law 721 = .ok (.laload, 1) := by decide +kernel
theorem dL_law_722 : decode cL_law 722 = .ok (.iload 6, 2) := by decide +kernel
theorem dL_law_724 : decode cL_law 724 = .ok (.i2l, 1) := by decide +kernel
theorem dL_law_725 : decode cL_law 725 = .ok (.lcmp, 1) := by decide +kernel
theorem dL_law_726 : decode cL_law 726 = .ok (.ifCond .eq 5, 3) := by decide +kernel
theorem dL_law_729 : decode cL_law 729 = .ok (.iconst 0, 1) := by decide +kernel
theorem dL_law_730 : decode cL_law 730 = .ok (.ireturn, 1) := by decide +kernel
theorem dL_law_731 : decode cL_law 731 = .ok (.goto 976, 3) := by decide +kernel
theorem dL_law_734 : decode cL_law 734 = .ok (.aload_n 1, 1) := by decide +kernel
theorem dL_law_735 : decode cL_law 735 = .ok (.aload_n 0, 1) := by decide +kernel
theorem dL_law_736 : decode cL_law 736 = .ok (.iload 4, 2) := by decide +kernel
theorem dL_law_738 : decode cL_law 738 = .ok (.iconst 1, 1) := by decide +kernel
theorem dL_law_739 : decode cL_law 739 = .ok (.iadd, 1) := by decide +kernel
theorem dL_law_740 : decode cL_law 740 = .ok (.iaload, 1) := by decide +kernel
theorem dL_law_741 : decode cL_law 741 = .ok (.aload_n 0, 1) := by decide +kernel
theorem dL_law_742 : decode cL_law 742 = .ok (.iload 4, 2) := by decide +kernel
theorem dL_law_744 : decode cL_law 744 = .ok (.iconst 2, 1) := by decide +kernel
theorem dL_law_745 : decode cL_law 745 = .ok (.iadd, 1) := by decide +kernel
theorem dL_law_746 : decode cL_law 746 = .ok (.iaload, 1) := by decide +kernel
theorem dL_law_747 : decode cL_law 747 = .ok (.aload_n 3, 1) := by decide +kernel
theorem dL_law_748 : decode cL_law 748 = .ok (.invokestatic 139, 3) := by decide +kernel
theorem dL_law_751 : decode cL_law 751 = .ok (.istore 5, 2) := by decide +kernel
theorem dL_law_753 : decode cL_law 753 = .ok (.aload_n 2, 1) := by decide +kernel
theorem dL_law_754 : decode cL_law 754 = .ok (.aload_n 0, 1) := by decide +kernel
theorem dL_law_755 : decode cL_law 755 = .ok (.iload 4, 2) := by decide +kernel
theorem dL_law_757 : decode cL_law 757 = .ok (.iconst 1, 1) := by decide +kernel
theorem dL_law_758 : decode cL_law 758 = .ok (.iadd, 1) := by decide +kernel
theorem dL_law_759 : decode cL_law 759 = .ok (.iaload, 1) := by decide +kernel
theorem dL_law_760 : decode cL_law 760 = .ok (.aload_n 0, 1) := by decide +kernel
theorem dL_law_761 : decode cL_law 761 = .ok (.iload 4, 2) := by decide +kernel
theorem dL_law_763 : decode cL_law 763 = .ok (.iconst 2, 1) := by decide +kernel
theorem dL_law_764 : decode cL_law 764 = .ok (.iadd, 1) := by decide +kernel
theorem dL_law_765 : decode cL_law 765 = .ok (.iaload, 1) := by decide +kernel
theorem dL_law_766 : decode cL_law 766 = .ok (.invokevirtual 141, 3) := by decide +kernel
theorem dL_law_769 : decode cL_law 769 = .ok (.istore 6, 2) := by decide +kernel
theorem dL_law_771 : decode cL_law 771 = .ok (.aload_n 2, 1) := by decide +kernel
theorem dL_law_772 : decode cL_law 772 = .ok (.invokevirtual 101, 3) := by decide +kernel
theorem dL_law_775 : decode cL_law 775 = .ok (.iload 5, 2) := by decide +kernel
theorem dL_law_777 : decode cL_law 777 = .ok (.if_icmp .eq 5, 3) := by decide +kernel
theorem dL_law_780 : decode cL_law 780 = .ok (.iconst 0, 1) := by decide +kernel
theorem dL_law_781 : decode cL_law 781 = .ok (.ireturn, 1) := by decide +kernel
theorem dL_law_782 : decode cL_law 782 = .ok (.iload 5, 2) := by decide +kernel
theorem dL_law_784 : decode cL_law 784 = .ok (.ifCond .ne 15, 3) := by decide +kernel
theorem dL_law_787 : decode cL_law 787 = .ok (.aload_n 3, 1) := by decide +kernel
theorem dL_law_788 : decode cL_law 788 = .ok (.iconst 0, 1) := by decide +kernel
theorem dL_law_789 : decode cL_law 789 = .ok (.laload, 1) := by decide +kernel
theorem dL_law_790 : decode cL_law 790 = .ok (.iload 6, 2) := by decide +kernel
theorem dL_law_792 : decode cL_law 792 = .ok (.i2l, 1) := by decide +kernel
theorem dL_law_793 : decode cL_law 793 = .ok (.lcmp, 1) := by decide +kernel
theorem dL_law_794 : decode cL_law 794 = .ok (.ifCond .eq 5, 3) := by decide +kernel
theorem dL_law_797 : decode cL_law 797 = .ok (.iconst 0, 1) := by decide +kernel
theorem dL_law_798 : decode cL_law 798 = .ok (.ireturn, 1) := by decide +kernel
theorem dL_law_799 : decode cL_law 799 = .ok (.goto 908, 3) := by decide +kernel
theorem dL_law_802 : decode cL_law 802 = .ok (.aload_n 1, 1) := by decide +kernel
theorem dL_law_803 : decode cL_law 803 = .ok (.aload_n 0, 1) := by decide +kernel
theorem dL_law_804 : decode cL_law 804 = .ok (.iload 4, 2) := by decide +kernel
theorem dL_law_806 : decode cL_law 806 = .ok (.iconst 1, 1) := by decide +kernel
theorem dL_law_807 : decode cL_law 807 = .ok (.iadd, 1) := by decide +kernel
theorem dL_law_808 : decode cL_law 808 = .ok (.iaload, 1) := by decide +kernel
theorem dL_law_809 : decode cL_law 809 = .ok (.aload_n 0, 1) := by decide +kernel
theorem dL_law_810 : decode cL_law 810 = .ok (.iload 4, 2) := by decide +kernel
theorem dL_law_812 : decode cL_law 812 = .ok (.iconst 2, 1) := by decide +kernel
theorem dL_law_813 : decode cL_law 813 = .ok (.iadd, 1) := by decide +kernel
theorem dL_law_814 : decode cL_law 814 = .ok (.iaload, 1) := by decide +kernel
theorem dL_law_815 : decode cL_law 815 = .ok (.aload_n 0, 1) := by decide +kernel
theorem dL_law_816 : decode cL_law 816 = .ok (.iload 4, 2) := by decide +kernel
theorem dL_law_818 : decode cL_law 818 = .ok (.iconst 3, 1) := by decide +kernel
theorem dL_law_819 : decode cL_law 819 = .ok (.iadd, 1) := by decide +kernel
theorem dL_law_820 : decode cL_law 820 = .ok (.iaload, 1) := by decide +kernel
theorem dL_law_821 : decode cL_law 821 = .ok (.ifCond .eq 7, 3) := by decide +kernel
theorem dL_law_824 : decode cL_law 824 = .ok (.iconst 1, 1) := by decide +kernel
theorem dL_law_825 : decode cL_law 825 = .ok (.goto 4, 3) := by decide +kernel
theorem dL_law_828 : decode cL_law 828 = .ok (.iconst 0, 1) := by decide +kernel
theorem dL_law_829 : decode cL_law 829 = .ok (.aload_n 3, 1) := by decide +kernel
theorem dL_law_830 : decode cL_law 830 = .ok (.invokestatic 142, 3) := by decide +kernel
theorem dL_law_833 : decode cL_law 833 = .ok (.istore 5, 2) := by decide +kernel
theorem dL_law_835 : decode cL_law 835 = .ok (.aload_n 2, 1) := by decide +kernel
theorem dL_law_836 : decode cL_law 836 = .ok (.aload_n 0, 1) := by decide +kernel
theorem dL_law_837 : decode cL_law 837 = .ok (.iload 4, 2) := by decide +kernel
theorem dL_law_839 : decode cL_law 839 = .ok (.iconst 1, 1) := by decide +kernel
theorem dL_law_840 : decode cL_law 840 = .ok (.iadd, 1) := by decide +kernel
theorem dL_law_841 : decode cL_law 841 = .ok (.iaload, 1) := by decide +kernel
theorem dL_law_842 : decode cL_law 842 = .ok (.aload_n 0, 1) := by decide +kernel
theorem dL_law_843 : decode cL_law 843 = .ok (.iload 4, 2) := by decide +kernel
theorem dL_law_845 : decode cL_law 845 = .ok (.iconst 2, 1) := by decide +kernel
theorem dL_law_846 : decode cL_law 846 = .ok (.iadd, 1) := by decide +kernel
theorem dL_law_847 : decode cL_law 847 = .ok (.iaload, 1) := by decide +kernel
theorem dL_law_848 : decode cL_law 848 = .ok (.aload_n 0, 1) := by decide +kernel
theorem dL_law_849 : decode cL_law 849 = .ok (.iload 4, 2) := by decide +kernel
theorem dL_law_851 : decode cL_law 851 = .ok (.iconst 3, 1) := by decide +kernel
theorem dL_law_852 : decode cL_law 852 = .ok (.iadd, 1) := by decide +kernel
theorem dL_law_853 : decode cL_law 853 = .ok (.iaload, 1) := by decide +kernel
theorem dL_law_854 : decode cL_law 854 = .ok (.ifCond .eq 7, 3) := by decide +kernel
theorem dL_law_857 : decode cL_law 857 = .ok (.iconst 1, 1) := by decide +kernel
theorem dL_law_858 : decode cL_law 858 = .ok (.goto 4, 3) := by decide +kernel
theorem dL_law_861 : decode cL_law 861 = .ok (.iconst 0, 1) := by decide +kernel
theorem dL_law_862 : decode cL_law 862 = .ok (.invokevirtual 145, 3) := by decide +kernel
theorem dL_law_865 : decode cL_law 865 = .ok (.istore 6, 2) := by decide +kernel
theorem dL_law_867 : decode cL_law 867 = .ok (.aload_n 2, 1) := by decide +kernel
theorem dL_law_868 : decode cL_law 868 = .ok (.invokevirtual 101, 3) := by decide +kernel
theorem dL_law_871 : decode cL_law 871 = .ok (.iload 5, 2) := by decide +kernel
theorem dL_law_873 : decode cL_law 873 = .ok (.if_icmp .eq 5, 3) := by decide +kernel
theorem dL_law_876 : decode cL_law 876 = .ok (.iconst 0, 1) := by decide +kernel
theorem dL_law_877 : decode cL_law 877 = .ok (.ireturn, 1) := by decide +kernel
theorem dL_law_878 : decode cL_law 878 = .ok (.iload 5, 2) := by decide +kernel
theorem dL_law_880 : decode cL_law 880 = .ok (.ifCond .ne 15, 3) := by decide +kernel
theorem dL_law_883 : decode cL_law 883 = .ok (.aload_n 3, 1) := by decide +kernel
theorem dL_law_884 : decode cL_law 884 = .ok (.iconst 0, 1) := by decide +kernel
theorem dL_law_885 : decode cL_law 885 = .ok (.laload, 1) := by decide +kernel
theorem dL_law_886 : decode cL_law 886 = .ok (.iload 6, 2) := by decide +kernel
theorem dL_law_888 : decode cL_law 888 = .ok (.i2l, 1) := by decide +kernel
theorem dL_law_889 : decode cL_law 889 = .ok (.lcmp, 1) := by decide +kernel
theorem dL_law_890 : decode cL_law 890 = .ok (.ifCond .eq 5, 3) := by decide +kernel
theorem dL_law_893 : decode cL_law 893 = .ok (.iconst 0, 1) := by decide +kernel
theorem dL_law_894 : decode cL_law 894 = .ok (.ireturn, 1) := by decide +kernel
theorem dL_law_895 : decode cL_law 895 = .ok (.goto 812, 3) := by decide +kernel
theorem dL_law_898 : decode cL_law 898 = .ok (.aload_n 1, 1) := by decide +kernel
theorem dL_law_899 : decode cL_law 899 = .ok (.aload_n 0, 1) := by decide +kernel
theorem dL_law_900 : decode cL_law 900 = .ok (.iload 4, 2) := by decide +kernel
theorem dL_law_902 : decode cL_law 902 = .ok (.iconst 1, 1) := by decide +kernel
theorem dL_law_903 : decode cL_law 903 = .ok (.iadd, 1) := by decide +kernel
theorem dL_law_904 : decode cL_law 904 = .ok (.iaload, 1) := by decide +kernel
theorem dL_law_905 : decode cL_law 905 = .ok (.aload_n 3, 1) := by decide +kernel
theorem dL_law_906 : decode cL_law 906 = .ok (.invokestatic 146, 3) := by decide +kernel
theorem dL_law_909 : decode cL_law 909 = .ok (.istore 5, 2) := by decide +kernel
theorem dL_law_911 : decode cL_law 911 = .ok (.aload_n 2, 1) := by decide +kernel
theorem dL_law_912 : decode cL_law 912 = .ok (.aload_n 0, 1) := by decide +kernel
theorem dL_law_913 : decode cL_law 913 = .ok (.iload 4, 2) := by decide +kernel
theorem dL_law_915 : decode cL_law 915 = .ok (.iconst 1, 1) := by decide +kernel
theorem dL_law_916 : decode cL_law 916 = .ok (.iadd, 1) := by decide +kernel
theorem dL_law_917 : decode cL_law 917 = .ok (.iaload, 1) := by decide +kernel
theorem dL_law_918 : decode cL_law 918 = .ok (.invokevirtual 148, 3) := by decide +kernel
theorem dL_law_921 : decode cL_law 921 = .ok (.istore 6, 2) := by decide +kernel
theorem dL_law_923 : decode cL_law 923 = .ok (.aload_n 2, 1) := by decide +kernel
theorem dL_law_924 : decode cL_law 924 = .ok (.invokevirtual 101, 3) := by decide +kernel
theorem dL_law_927 : decode cL_law 927 = .ok (.iload 5, 2) := by decide +kernel
theorem dL_law_929 : decode cL_law 929 = .ok (.if_icmp .eq 5, 3) := by decide +kernel
theorem dL_law_932 : decode cL_law 932 = .ok (.iconst 0, 1) := by decide +kernel
theorem dL_law_933 : decode cL_law 933 = .ok (.ireturn, 1) := by decide +kernel
theorem dL_law_934 : decode cL_law 934 = .ok (.iload 5, 2) := by decide +kernel
theorem dL_law_936 : decode cL_law 936 = .ok (.ifCond .ne 15, 3) := by decide +kernel
theorem dL_law_939 : decode cL_law 939 = .ok (.aload_n 3, 1) := by decide +kernel
theorem dL_law_940 : decode cL_law 940 = .ok (.iconst 0, 1) := by decide +kernel
theorem dL_law_941 : decode cL_law 941 = .ok (.laload, 1) := by decide +kernel
theorem dL_law_942 : decode cL_law 942 = .ok (.iload 6, 2) := by decide +kernel
theorem dL_law_944 : decode cL_law 944 = .ok (.i2l, 1) := by decide +kernel
theorem dL_law_945 : decode cL_law 945 = .ok (.lcmp, 1) := by decide +kernel
theorem dL_law_946 : decode cL_law 946 = .ok (.ifCond .eq 5, 3) := by decide +kernel
theorem dL_law_949 : decode cL_law 949 = .ok (.iconst 0, 1) := by decide +kernel
theorem dL_law_950 : decode cL_law 950 = .ok (.ireturn, 1) := by decide +kernel
theorem dL_law_951 : decode cL_law 951 = .ok (.goto 756, 3) := by decide +kernel
theorem dL_law_954 : decode cL_law 954 = .ok (.aload_n 1, 1) := by decide +kernel
theorem dL_law_955 : decode cL_law 955 = .ok (.aload_n 0, 1) := by decide +kernel
theorem dL_law_956 : decode cL_law 956 = .ok (.iload 4, 2) := by decide +kernel
theorem dL_law_958 : decode cL_law 958 = .ok (.iconst 1, 1) := by decide +kernel
theorem dL_law_959 : decode cL_law 959 = .ok (.iadd, 1) := by decide +kernel
theorem dL_law_960 : decode cL_law 960 = .ok (.iaload, 1) := by decide +kernel
theorem dL_law_961 : decode cL_law 961 = .ok (.aload_n 3, 1) := by decide +kernel
theorem dL_law_962 : decode cL_law 962 = .ok (.invokestatic 149, 3) := by decide +kernel
theorem dL_law_965 : decode cL_law 965 = .ok (.istore 5, 2) := by decide +kernel
theorem dL_law_967 : decode cL_law 967 = .ok (.aload_n 2, 1) := by decide +kernel
theorem dL_law_968 : decode cL_law 968 = .ok (.aload_n 0, 1) := by decide +kernel
theorem dL_law_969 : decode cL_law 969 = .ok (.iload 4, 2) := by decide +kernel
theorem dL_law_971 : decode cL_law 971 = .ok (.iconst 1, 1) := by decide +kernel
theorem dL_law_972 : decode cL_law 972 = .ok (.iadd, 1) := by decide +kernel
theorem dL_law_973 : decode cL_law 973 = .ok (.iaload, 1) := by decide +kernel
theorem dL_law_974 : decode cL_law 974 = .ok (.invokevirtual 151, 3) := by decide +kernel
theorem dL_law_977 : decode cL_law 977 = .ok (.istore 6, 2) := by decide +kernel
theorem dL_law_979 : decode cL_law 979 = .ok (.aload_n 2, 1) := by decide +kernel
theorem dL_law_980 : decode cL_law 980 = .ok (.invokevirtual 101, 3) := by decide +kernel
theorem dL_law_983 : decode cL_law 983 = .ok (.iload 5, 2) := by decide +kernel
theorem dL_law_985 : decode cL_law 985 = .ok (.if_icmp .eq 5, 3) := by decide +kernel
theorem dL_law_988 : decode cL_law 988 = .ok (.iconst 0, 1) := by decide +kernel
theorem dL_law_989 : decode cL_law 989 = .ok (.ireturn, 1) := by decide +kernel
theorem dL_law_990 : decode cL_law 990 = .ok (.iload 5, 2) := by decide +kernel
theorem dL_law_992 : decode cL_law 992 = .ok (.ifCond .ne 15, 3) := by decide +kernel
theorem dL_law_995 : decode cL_law 995 = .ok (.aload_n 3, 1) := by decide +kernel
theorem dL_law_996 : decode cL_law 996 = .ok (.iconst 0, 1) := by decide +kernel
theorem dL_law_997 : decode cL_law 997 = .ok (.laload, 1) := by decide +kernel
theorem dL_law_998 : decode cL_law 998 = .ok (.iload 6, 2) := by decide +kernel
theorem dL_law_1000 : decode cL_law 1000 = .ok (.i2l, 1) := by decide +kernel
theorem dL_law_1001 : decode cL_law 1001 = .ok (.lcmp, 1) := by decide +kernel
theorem dL_law_1002 : decode cL_law 1002 = .ok (.ifCond .eq 5, 3) := by decide +kernel
theorem dL_law_1005 : decode cL_law 1005 = .ok (.iconst 0, 1) := by decide +kernel
theorem dL_law_1006 : decode cL_law 1006 = .ok (.ireturn, 1) := by decide +kernel
theorem dL_law_1007 : decode cL_law 1007 = .ok (.goto 700, 3) := by decide +kernel
theorem dL_law_1010 : decode cL_law 1010 = .ok (.aload_n 1, 1) := by decide +kernel
theorem dL_law_1011 : decode cL_law 1011 = .ok (.aload_n 0, 1) := by decide +kernel
theorem dL_law_1012 : decode cL_law 1012 = .ok (.iload 4, 2) := by decide +kernel
theorem dL_law_1014 : decode cL_law 1014 = .ok (.iconst 1, 1) := by decide +kernel
theorem dL_law_1015 : decode cL_law 1015 = .ok (.iadd, 1) := by decide +kernel
theorem dL_law_1016 : decode cL_law 1016 = .ok (.iaload, 1) := by decide +kernel
theorem dL_law_1017 : decode cL_law 1017 = .ok (.aload_n 3, 1) := by decide +kernel
theorem dL_law_1018 : decode cL_law 1018 = .ok (.invokestatic 152, 3) := by decide +kernel
theorem dL_law_1021 : decode cL_law 1021 = .ok (.istore 5, 2) := by decide +kernel
theorem dL_law_1023 : decode cL_law 1023 = .ok (.aload_n 2, 1) := by decide +kernel
theorem dL_law_1024 : decode cL_law 1024 = .ok (.aload_n 0, 1) := by decide +kernel
theorem dL_law_1025 : decode cL_law 1025 = .ok (.iload 4, 2) := by decide +kernel
theorem dL_law_1027 : decode cL_law 1027 = .ok (.iconst 1, 1) := by decide +kernel
theorem dL_law_1028 : decode cL_law 1028 = .ok (.iadd, 1) := by decide +kernel
theorem dL_law_1029 : decode cL_law 1029 = .ok (.iaload, 1) := by decide +kernel
theorem dL_law_1030 : decode cL_law 1030 = .ok (.invokevirtual 154, 3) := by decide +kernel
theorem dL_law_1033 : decode cL_law 1033 = .ok (.istore 6, 2) := by decide +kernel
theorem dL_law_1035 : decode cL_law 1035 = .ok (.aload_n 2, 1) := by decide +kernel
theorem dL_law_1036 : decode cL_law 1036 = .ok (.invokevirtual 101, 3) := by decide +kernel
theorem dL_law_1039 : decode cL_law 1039 = .ok (.iload 5, 2) := by decide +kernel
theorem dL_law_1041 : decode cL_law 1041 = .ok (.if_icmp .eq 5, 3) := by decide +kernel
theorem dL_law_1044 : decode cL_law 1044 = .ok (.iconst 0, 1) := by decide +kernel
theorem dL_law_1045 : decode cL_law 1045 = .ok (.ireturn, 1) := by decide +kernel
theorem dL_law_1046 : decode cL_law 1046 = .ok (.iload 5, 2) := by decide +kernel
theorem dL_law_1048 : decode cL_law 1048 = .ok (.ifCond .ne 15, 3) := by decide +kernel
theorem dL_law_1051 : decode cL_law 1051 = .ok (.aload_n 3, 1) := by decide +kernel
theorem dL_law_1052 : decode cL_law 1052 = .ok (.iconst 0, 1) := by decide +kernel
theorem dL_law_1053 : decode cL_law 1053 = .ok (.laload, 1) := by decide +kernel
theorem dL_law_1054 : decode cL_law 1054 = .ok (.iload 6, 2) := by decide +kernel
theorem dL_law_1056 : decode cL_law 1056 = .ok (.i2l, 1) := by decide +kernel
theorem dL_law_1057 : decode cL_law 1057 = .ok (.lcmp, 1) := by decide +kernel
theorem dL_law_1058 : decode cL_law 1058 = .ok (.ifCond .eq 5, 3) := by decide +kernel
theorem dL_law_1061 : decode cL_law 1061 = .ok (.iconst 0, 1) := by decide +kernel
theorem dL_law_1062 : decode cL_law 1062 = .ok (.ireturn, 1) := by decide +kernel
theorem dL_law_1063 : decode cL_law 1063 = .ok (.goto 644, 3) := by decide +kernel
theorem dL_law_1066 : decode cL_law 1066 = .ok (.aload_n 1, 1) := by decide +kernel
theorem dL_law_1067 : decode cL_law 1067 = .ok (.aload_n 0, 1) := by decide +kernel
theorem dL_law_1068 : decode cL_law 1068 = .ok (.iload 4, 2) := by decide +kernel
theorem dL_law_1070 : decode cL_law 1070 = .ok (.iconst 1, 1) := by decide +kernel
theorem dL_law_1071 : decode cL_law 1071 = .ok (.iadd, 1) := by decide +kernel
theorem dL_law_1072 : decode cL_law 1072 = .ok (.iaload, 1) := by decide +kernel
theorem dL_law_1073 : decode cL_law 1073 = .ok (.aload_n 3, 1) := by decide +kernel
theorem dL_law_1074 : decode cL_law 1074 = .ok (.invokestatic 155, 3) := by decide +kernel
theorem dL_law_1077 : decode cL_law 1077 = .ok (.istore 5, 2) := by decide +kernel
theorem dL_law_1079 : decode cL_law 1079 = .ok (.aload_n 2, 1) := by decide +kernel
theorem dL_law_1080 : decode cL_law 1080 = .ok (.aload_n 0, 1) := by decide +kernel
theorem dL_law_1081 : decode cL_law 1081 = .ok (.iload 4, 2) := by decide +kernel
theorem dL_law_1083 : decode cL_law 1083 = .ok (.iconst 1, 1) := by decide +kernel
theorem dL_law_1084 : decode cL_law 1084 = .ok (.iadd, 1) := by decide +kernel
theorem dL_law_1085 : decode cL_law 1085 = .ok (.iaload, 1) := by decide +kernel
theorem dL_law_1086 : decode cL_law 1086 = .ok (.invokevirtual 157, 3) := by decide +kernel
theorem dL_law_1089 : decode cL_law 1089 = .ok (.istore 6, 2) := by decide +kernel
theorem dL_law_1091 : decode cL_law 1091 = .ok (.aload_n 2, 1) := by decide +kernel
theorem dL_law_1092 : decode cL_law 1092 = .ok (.invokevirtual 101, 3) := by decide +kernel
theorem dL_law_1095 : decode cL_law 1095 = .ok (.iload 5, 2) := by decide +kernel
theorem dL_law_1097 : decode cL_law 1097 = .ok (.if_icmp .eq 5, 3) := by decide +kernel
theorem dL_law_1100 : decode cL_law 1100 = .ok (.iconst 0, 1) := by decide +kernel
theorem dL_law_1101 : decode cL_law 1101 = .ok (.ireturn, 1) := by decide +kernel
theorem dL_law_1102 : decode cL_law 1102 = .ok (.iload 5, 2) := by decide +kernel
theorem dL_law_1104 : decode cL_law 1104 = .ok (.ifCond .ne 15, 3) := by decide +kernel
theorem dL_law_1107 : decode cL_law 1107 = .ok (.aload_n 3, 1) := by decide +kernel
theorem dL_law_1108 : decode cL_law 1108 = .ok (.iconst 0, 1) := by decide +kernel
theorem dL_law_1109 : decode cL_law 1109 = .ok (.laload, 1) := by decide +kernel
theorem dL_law_1110 : decode cL_law 1110 = .ok (.iload 6, 2) := by decide +kernel
theorem dL_law_1112 : decode cL_law 1112 = .ok (.i2l, 1) := by decide +kernel
theorem dL_law_1113 : decode cL_law 1113 = .ok (.lcmp, 1) := by decide +kernel
theorem dL_law_1114 : decode cL_law 1114 = .ok (.ifCond .eq 5, 3) := by decide +kernel
theorem dL_law_1117 : decode cL_law 1117 = .ok (.iconst 0, 1) := by decide +kernel
theorem dL_law_1118 : decode cL_law 1118 = .ok (.ireturn, 1) := by decide +kernel
theorem dL_law_1119 : decode cL_law 1119 = .ok (.goto 588, 3) := by decide +kernel
theorem dL_law_1122 : decode cL_law 1122 = .ok (.aload_n 1, 1) := by decide +kernel
theorem dL_law_1123 : decode cL_law 1123 = .ok (.aload_n 3, 1) := by decide +kernel
theorem dL_law_1124 : decode cL_law 1124 = .ok (.invokestatic 158, 3) := by decide +kernel
theorem dL_law_1127 : decode cL_law 1127 = .ok (.istore 5, 2) := by decide +kernel
theorem dL_law_1129 : decode cL_law 1129 = .ok (.aload_n 2, 1) := by decide +kernel
theorem dL_law_1130 : decode cL_law 1130 = .ok (.invokevirtual 160, 3) := by decide +kernel
theorem dL_law_1133 : decode cL_law 1133 = .ok (.istore 6, 2) := by decide +kernel
theorem dL_law_1135 : decode cL_law 1135 = .ok (.aload_n 2, 1) := by decide +kernel
theorem dL_law_1136 : decode cL_law 1136 = .ok (.invokevirtual 101, 3) := by decide +kernel
theorem dL_law_1139 : decode cL_law 1139 = .ok (.iload 5, 2) := by decide +kernel
theorem dL_law_1141 : decode cL_law 1141 = .ok (.if_icmp .eq 5, 3) := by decide +kernel
theorem dL_law_1144 : decode cL_law 1144 = .ok (.iconst 0, 1) := by decide +kernel
theorem dL_law_1145 : decode cL_law 1145 = .ok (.ireturn, 1) := by decide +kernel
theorem dL_law_1146 : decode cL_law 1146 = .ok (.iload 5, 2) := by decide +kernel
theorem dL_law_1148 : decode cL_law 1148 = .ok (.ifCond .ne 15, 3) := by decide +kernel
theorem dL_law_1151 : decode cL_law 1151 = .ok (.aload_n 3, 1) := by decide +kernel
theorem dL_law_1152 : decode cL_law 1152 = .ok (.iconst 0, 1) := by decide +kernel
theorem dL_law_1153 : decode cL_law 1153 = .ok (.laload, 1) := by decide +kernel
theorem dL_law_1154 : decode cL_law 1154 = .ok (.iload 6, 2) := by decide +kernel
theorem dL_law_1156 : decode cL_law 1156 = .ok (.i2l, 1) := by decide +kernel
theorem dL_law_1157 : decode cL_law 1157 = .ok (.lcmp, 1) := by decide +kernel
theorem dL_law_1158 : decode cL_law 1158 = .ok (.ifCond .eq 5, 3) := by decide +kernel
theorem dL_law_1161 : decode cL_law 1161 = .ok (.iconst 0, 1) := by decide +kernel
theorem dL_law_1162 : decode cL_law 1162 = .ok (.ireturn, 1) := by decide +kernel
theorem dL_law_1163 : decode cL_law 1163 = .ok (.goto 544, 3) := by decide +kernel
theorem dL_law_1166 : decode cL_law 1166 = .ok (.aload_n 1, 1) := by decide +kernel
theorem dL_law_1167 : decode cL_law 1167 = .ok (.aload_n 0, 1) := by decide +kernel
theorem dL_law_1168 : decode cL_law 1168 = .ok (.iload 4, 2) := by decide +kernel
theorem dL_law_1170 : decode cL_law 1170 = .ok (.iconst 1, 1) := by decide +kernel
theorem dL_law_1171 : decode cL_law 1171 = .ok (.iadd, 1) := by decide +kernel
theorem dL_law_1172 : decode cL_law 1172 = .ok (.iaload, 1) := by decide +kernel
theorem dL_law_1173 : decode cL_law 1173 = .ok (.aload_n 0, 1) := by decide +kernel
theorem dL_law_1174 : decode cL_law 1174 = .ok (.iload 4, 2) := by decide +kernel
theorem dL_law_1176 : decode cL_law 1176 = .ok (.iconst 2, 1) := by decide +kernel
theorem dL_law_1177 : decode cL_law 1177 = .ok (.iadd, 1) := by decide +kernel
theorem dL_law_1178 : decode cL_law 1178 = .ok (.iaload, 1) := by decide +kernel
theorem dL_law_1179 : decode cL_law 1179 = .ok (.aload_n 0, 1) := by decide +kernel
theorem dL_law_1180 : decode cL_law 1180 = .ok (.iload 4, 2) := by decide +kernel
theorem dL_law_1182 : decode cL_law 1182 = .ok (.iconst 3, 1) := by decide +kernel
theorem dL_law_1183 : decode cL_law 1183 = .ok (.iadd, 1) := by decide +kernel
theorem dL_law_1184 : decode cL_law 1184 = .ok (.iaload, 1) := by decide +kernel
theorem dL_law_1185 : decode cL_law 1185 = .ok (.aload_n 3, 1) := by decide +kernel
theorem dL_law_1186 : decode cL_law 1186 = .ok (.invokestatic 161, 3) := by decide +kernel
theorem dL_law_1189 : decode cL_law 1189 = .ok (.istore 5, 2) := by decide +kernel
theorem dL_law_1191 : decode cL_law 1191 = .ok (.aload_n 2, 1) := by decide +kernel
theorem dL_law_1192 : decode cL_law 1192 = .ok (.aload_n 0, 1) := by decide +kernel
theorem dL_law_1193 : decode cL_law 1193 = .ok (.iload 4, 2) := by decide +kernel
theorem dL_law_1195 : decode cL_law 1195 = .ok (.iconst 1, 1) := by decide +kernel
theorem dL_law_1196 : decode cL_law 1196 = .ok (.iadd, 1) := by decide +kernel
theorem dL_law_1197 : decode cL_law 1197 = .ok (.iaload, 1) := by decide +kernel
theorem dL_law_1198 : decode cL_law 1198 = .ok (.aload_n 0, 1) := by decide +kernel
theorem dL_law_1199 : decode cL_law 1199 = .ok (.iload 4, 2) := by decide +kernel
theorem dL_law_1201 : decode cL_law 1201 = .ok (.iconst 2, 1) := by decide +kernel
theorem dL_law_1202 : decode cL_law 1202 = .ok (.iadd, 1) := by decide +kernel
theorem dL_law_1203 : decode cL_law 1203 = .ok (.iaload, 1) := by decide +kernel
theorem dL_law_1204 : decode cL_law 1204 = .ok (.aload_n 0, 1) := by decide +kernel
theorem dL_law_1205 : decode cL_law 1205 = .ok (.iload 4, 2) := by decide +kernel
theorem dL_law_1207 : decode cL_law 1207 = .ok (.iconst 3, 1) := by decide +kernel
theorem dL_law_1208 : decode cL_law 1208 = .ok (.iadd, 1) := by decide +kernel
theorem dL_law_1209 : decode cL_law 1209 = .ok (.iaload, 1) := by decide +kernel
theorem dL_law_1210 : decode cL_law 1210 = .ok (.invokevirtual 163, 3) := by decide +kernel
theorem dL_law_1213 : decode cL_law 1213 = .ok (.istore 6, 2) := by decide +kernel
theorem dL_law_1215 : decode cL_law 1215 = .ok (.aload_n 2, 1) := by decide +kernel
theorem dL_law_1216 : decode cL_law 1216 = .ok (.invokevirtual 101, 3) := by decide +kernel
theorem dL_law_1219 : decode cL_law 1219 = .ok (.iload 5, 2) := by decide +kernel
theorem dL_law_1221 : decode cL_law 1221 = .ok (.if_icmp .eq 5, 3) := by decide +kernel
theorem dL_law_1224 : decode cL_law 1224 = .ok (.iconst 0, 1) := by decide +kernel
theorem dL_law_1225 : decode cL_law 1225 = .ok (.ireturn, 1) := by decide +kernel
theorem dL_law_1226 : decode cL_law 1226 = .ok (.iload 5, 2) := by decide +kernel
theorem dL_law_1228 : decode cL_law 1228 = .ok (.ifCond .ne 15, 3) := by decide +kernel
theorem dL_law_1231 : decode cL_law 1231 = .ok (.aload_n 3, 1) := by decide +kernel
theorem dL_law_1232 : decode cL_law 1232 = .ok (.iconst 0, 1) := by decide +kernel
theorem dL_law_1233 : decode cL_law 1233 = .ok (.laload, 1) := by decide +kernel
theorem dL_law_1234 : decode cL_law 1234 = .ok (.iload 6, 2) := by decide +kernel
theorem dL_law_1236 : decode cL_law 1236 = .ok (.i2l, 1) := by decide +kernel
theorem dL_law_1237 : decode cL_law 1237 = .ok (.lcmp, 1) := by decide +kernel
theorem dL_law_1238 : decode cL_law 1238 = .ok (.ifCond .eq 5, 3) := by decide +kernel
theorem dL_law_1241 : decode cL_law 1241 = .ok (.iconst 0, 1) := by decide +kernel
theorem dL_law_1242 : decode cL_law 1242 = .ok (.ireturn, 1) := by decide +kernel
theorem dL_law_1243 : decode cL_law 1243 = .ok (.goto 464, 3) := by decide +kernel
theorem dL_law_1246 : decode cL_law 1246 = .ok (.aload_n 1, 1) := by decide +kernel
theorem dL_law_1247 : decode cL_law 1247 = .ok (.aload_n 0, 1) := by decide +kernel
theorem dL_law_1248 : decode cL_law 1248 = .ok (.iload 4, 2) := by decide +kernel
theorem dL_law_1250 : decode cL_law 1250 = .ok (.iconst 1, 1) := by decide +kernel
theorem dL_law_1251 : decode cL_law 1251 = .ok (.iadd, 1) := by decide +kernel
theorem dL_law_1252 : decode cL_law 1252 = .ok (.iaload, 1) := by decide +kernel
theorem dL_law_1253 : decode cL_law 1253 = .ok (.aload_n 0, 1) := by decide +kernel
theorem dL_law_1254 : decode cL_law 1254 = .ok (.iload 4, 2) := by decide +kernel
theorem dL_law_1256 : decode cL_law 1256 = .ok (.iconst 2, 1) := by decide +kernel
theorem dL_law_1257 : decode cL_law 1257 = .ok (.iadd, 1) := by decide +kernel
theorem dL_law_1258 : decode cL_law 1258 = .ok (.iaload, 1) := by decide +kernel
theorem dL_law_1259 : decode cL_law 1259 = .ok (.aload_n 0, 1) := by decide +kernel
theorem dL_law_1260 : decode cL_law 1260 = .ok (.iload 4, 2) := by decide +kernel
theorem dL_law_1262 : decode cL_law 1262 = .ok (.iconst 3, 1) := by decide +kernel
theorem dL_law_1263 : decode cL_law 1263 = .ok (.iadd, 1) := by decide +kernel
theorem dL_law_1264 : decode cL_law 1264 = .ok (.iaload, 1) := by decide +kernel
theorem dL_law_1265 : decode cL_law 1265 = .ok (.aload_n 3, 1) := by decide +kernel
theorem dL_law_1266 : decode cL_law 1266 = .ok (.invokestatic 164, 3) := by decide +kernel
theorem dL_law_1269 : decode cL_law 1269 = .ok (.istore 5, 2) := by decide +kernel
theorem dL_law_1271 : decode cL_law 1271 = .ok (.aload_n 2, 1) := by decide +kernel
theorem dL_law_1272 : decode cL_law 1272 = .ok (.aload_n 0, 1) := by decide +kernel
theorem dL_law_1273 : decode cL_law 1273 = .ok (.iload 4, 2) := by decide +kernel
theorem dL_law_1275 : decode cL_law 1275 = .ok (.iconst 1, 1) := by decide +kernel
theorem dL_law_1276 : decode cL_law 1276 = .ok (.iadd, 1) := by decide +kernel
theorem dL_law_1277 : decode cL_law 1277 = .ok (.iaload, 1) := by decide +kernel
theorem dL_law_1278 : decode cL_law 1278 = .ok (.aload_n 0, 1) := by decide +kernel
theorem dL_law_1279 : decode cL_law 1279 = .ok (.iload 4, 2) := by decide +kernel
theorem dL_law_1281 : decode cL_law 1281 = .ok (.iconst 2, 1) := by decide +kernel
theorem dL_law_1282 : decode cL_law 1282 = .ok (.iadd, 1) := by decide +kernel
theorem dL_law_1283 : decode cL_law 1283 = .ok (.iaload, 1) := by decide +kernel
theorem dL_law_1284 : decode cL_law 1284 = .ok (.aload_n 0, 1) := by decide +kernel
theorem dL_law_1285 : decode cL_law 1285 = .ok (.iload 4, 2) := by decide +kernel
theorem dL_law_1287 : decode cL_law 1287 = .ok (.iconst 3, 1) := by decide +kernel
theorem dL_law_1288 : decode cL_law 1288 = .ok (.iadd, 1) := by decide +kernel
theorem dL_law_1289 : decode cL_law 1289 = .ok (.iaload, 1) := by decide +kernel
theorem dL_law_1290 : decode cL_law 1290 = .ok (.invokevirtual 166, 3) := by decide +kernel
theorem dL_law_1293 : decode cL_law 1293 = .ok (.istore 6, 2) := by decide +kernel
theorem dL_law_1295 : decode cL_law 1295 = .ok (.aload_n 2, 1) := by decide +kernel
theorem dL_law_1296 : decode cL_law 1296 = .ok (.invokevirtual 101, 3) := by decide +kernel
theorem dL_law_1299 : decode cL_law 1299 = .ok (.iload 5, 2) := by decide +kernel
theorem dL_law_1301 : decode cL_law 1301 = .ok (.if_icmp .eq 5, 3) := by decide +kernel
theorem dL_law_1304 : decode cL_law 1304 = .ok (.iconst 0, 1) := by decide +kernel
theorem dL_law_1305 : decode cL_law 1305 = .ok (.ireturn, 1) := by decide +kernel
theorem dL_law_1306 : decode cL_law 1306 = .ok (.iload 5, 2) := by decide +kernel
theorem dL_law_1308 : decode cL_law 1308 = .ok (.ifCond .ne 15, 3) := by decide +kernel
theorem dL_law_1311 : decode cL_law 1311 = .ok (.aload_n 3, 1) := by decide +kernel
theorem dL_law_1312 : decode cL_law 1312 = .ok (.iconst 0, 1) := by decide +kernel
theorem dL_law_1313 : decode cL_law 1313 = .ok (.laload, 1) := by decide +kernel
theorem dL_law_1314 : decode cL_law 1314 = .ok (.iload 6, 2) := by decide +kernel
theorem dL_law_1316 : decode cL_law 1316 = .ok (.i2l, 1) := by decide +kernel
theorem dL_law_1317 : decode cL_law 1317 = .ok (.lcmp, 1) := by decide +kernel
theorem dL_law_1318 : decode cL_law 1318 = .ok (.ifCond .eq 5, 3) := by decide +kernel
theorem dL_law_1321 : decode cL_law 1321 = .ok (.iconst 0, 1) := by decide +kernel
theorem dL_law_1322 : decode cL_law 1322 = .ok (.ireturn, 1) := by decide +kernel
theorem dL_law_1323 : decode cL_law 1323 = .ok (.goto 384, 3) := by decide +kernel
theorem dL_law_1326 : decode cL_law 1326 = .ok (.aload_n 1, 1) := by decide +kernel
theorem dL_law_1327 : decode cL_law 1327 = .ok (.aload_n 0, 1) := by decide +kernel
theorem dL_law_1328 : decode cL_law 1328 = .ok (.iload 4, 2) := by decide +kernel
theorem dL_law_1330 : decode cL_law 1330 = .ok (.iconst 1, 1) := by decide +kernel
theorem dL_law_1331 : decode cL_law 1331 = .ok (.iadd, 1) := by decide +kernel
theorem dL_law_1332 : decode cL_law 1332 = .ok (.iaload, 1) := by decide +kernel
theorem dL_law_1333 : decode cL_law 1333 = .ok (.aload_n 3, 1) := by decide +kernel
theorem dL_law_1334 : decode cL_law 1334 = .ok (.invokestatic 167, 3) := by decide +kernel
theorem dL_law_1337 : decode cL_law 1337 = .ok (.istore 5, 2) := by decide +kernel
theorem dL_law_1339 : decode cL_law 1339 = .ok (.aload_n 2, 1) := by decide +kernel
theorem dL_law_1340 : decode cL_law 1340 = .ok (.aload_n 0, 1) := by decide +kernel
theorem dL_law_1341 : decode cL_law 1341 = .ok (.iload 4, 2) := by decide +kernel
theorem dL_law_1343 : decode cL_law 1343 = .ok (.iconst 1, 1) := by decide +kernel
theorem dL_law_1344 : decode cL_law 1344 = .ok (.iadd, 1) := by decide +kernel
theorem dL_law_1345 : decode cL_law 1345 = .ok (.iaload, 1) := by decide +kernel
theorem dL_law_1346 : decode cL_law 1346 = .ok (.invokevirtual 169, 3) := by decide +kernel
theorem dL_law_1349 : decode cL_law 1349 = .ok (.istore 6, 2) := by decide +kernel
theorem dL_law_1351 : decode cL_law 1351 = .ok (.aload_n 2, 1) := by decide +kernel
theorem dL_law_1352 : decode cL_law 1352 = .ok (.invokevirtual 101, 3) := by decide +kernel
theorem dL_law_1355 : decode cL_law 1355 = .ok (.iload 5, 2) := by decide +kernel
theorem dL_law_1357 : decode cL_law 1357 = .ok (.if_icmp .eq 5, 3) := by decide +kernel
theorem dL_law_1360 : decode cL_law 1360 = .ok (.iconst 0, 1) := by decide +kernel
theorem dL_law_1361 : decode cL_law 1361 = .ok (.ireturn, 1) := by decide +kernel
theorem dL_law_1362 : decode cL_law 1362 = .ok (.iload 5, 2) := by decide +kernel
theorem dL_law_1364 : decode cL_law 1364 = .ok (.ifCond .ne 15, 3) := by decide +kernel
theorem dL_law_1367 : decode cL_law 1367 = .ok (.aload_n 3, 1) := by decide +kernel
theorem dL_law_1368 : decode cL_law 1368 = .ok (.iconst 0, 1) := by decide +kernel
theorem dL_law_1369 : decode cL_law 1369 = .ok (.laload, 1) := by decide +kernel
theorem dL_law_1370 : decode cL_law 1370 = .ok (.iload 6, 2) := by decide +kernel
theorem dL_law_1372 : decode cL_law 1372 = .ok (.i2l, 1) := by decide +kernel
theorem dL_law_1373 : decode cL_law 1373 = .ok (.lcmp, 1) := by decide +kernel
theorem dL_law_1374 : decode cL_law 1374 = .ok (.ifCond .eq 5, 3) := by decide +kernel
theorem dL_law_1377 : decode cL_law 1377 = .ok (.iconst 0, 1) := by decide +kernel
theorem dL_law_1378 : decode cL_law 1378 = .ok (.ireturn, 1) := by decide +kernel
theorem dL_law_1379 : decode cL_law 1379 = .ok (.goto 328, 3) := by decide +kernel
theorem dL_law_1382 : decode cL_law 1382 = .ok (.aload_n 1, 1) := by decide +kernel
theorem dL_law_1383 : decode cL_law 1383 = .ok (.invokevirtual 170, 3) := by decide +kernel
theorem dL_law_1386 : decode cL_law 1386 = .ok (.aload_n 2, 1) := by decide +kernel
theorem dL_law_1387 : decode cL_law 1387 = .ok (.invokevirtual 173, 3) := by decide +kernel
theorem dL_law_1390 : decode cL_law 1390 = .ok (.if_icmp .eq 317, 3) := by decide +kernel
theorem dL_law_1393 : decode cL_law 1393 = .ok (.iconst 0, 1) := by decide +kernel
theorem dL_law_1394 : decode cL_law 1394 = .ok (.ireturn, 1) := by decide +kernel
theorem dL_law_1395 : decode cL_law 1395 = .ok (.aload_n 1, 1) := by decide +kernel
theorem dL_law_1396 : decode cL_law 1396 = .ok (.aload_n 0, 1) := by decide +kernel
theorem dL_law_1397 : decode cL_law 1397 = .ok (.iload 4, 2) := by decide +kernel
theorem dL_law_1399 : decode cL_law 1399 = .ok (.iconst 1, 1) := by decide +kernel
theorem dL_law_1400 : decode cL_law 1400 = .ok (.iadd, 1) := by decide +kernel
theorem dL_law_1401 : decode cL_law 1401 = .ok (.iaload, 1) := by decide +kernel
theorem dL_law_1402 : decode cL_law 1402 = .ok (.aload_n 0, 1) := by decide +kernel
theorem dL_law_1403 : decode cL_law 1403 = .ok (.iload 4, 2) := by decide +kernel
theorem dL_law_1405 : decode cL_law 1405 = .ok (.iconst 2, 1) := by decide +kernel
theorem dL_law_1406 : decode cL_law 1406 = .ok (.iadd, 1) := by decide +kernel
theorem dL_law_1407 : decode cL_law 1407 = .ok (.iaload, 1) := by decide +kernel
theorem dL_law_1408 : decode cL_law 1408 = .ok (.i2l, 1) := by decide +kernel
theorem dL_law_1409 : decode cL_law 1409 = .ok (.bipush 32, 2) := by decide +kernel
theorem dL_law_1411 : decode cL_law 1411 = .ok (.lshl, 1) := by decide +kernel
theorem dL_law_1412 : decode cL_law 1412 = .ok (.aload_n 0, 1) := by decide +kernel
theorem dL_law_1413 : decode cL_law 1413 = .ok (.iload 4, 2) := by decide +kernel
theorem dL_law_1415 : decode cL_law 1415 = .ok (.iconst 3, 1) := by decide +kernel
theorem dL_law_1416 : decode cL_law 1416 = .ok (.iadd, 1) := by decide +kernel
theorem dL_law_1417 : decode cL_law 1417 = .ok (.iaload, 1) := by decide +kernel
theorem dL_law_1418 : decode cL_law 1418 = .ok (.i2l, 1) := by decide +kernel
theorem dL_law_1419 : decode cL_law 1419 = .ok (.ldc2_w 174, 3) := by decide +kernel
theorem dL_law_1422 : decode cL_law 1422 = .ok (.land, 1) := by decide +kernel
theorem dL_law_1423 : decode cL_law 1423 = .ok (.lor, 1) := by decide +kernel
theorem dL_law_1424 : decode cL_law 1424 = .ok (.aload_n 3, 1) := by decide +kernel
theorem dL_law_1425 : decode cL_law 1425 = .ok (.invokestatic 176, 3) := by decide +kernel
theorem dL_law_1428 : decode cL_law 1428 = .ok (.istore 5, 2) := by decide +kernel
theorem dL_law_1430 : decode cL_law 1430 = .ok (.aload_n 2, 1) := by decide +kernel
theorem dL_law_1431 : decode cL_law 1431 = .ok (.aload_n 0, 1) := by decide +kernel
theorem dL_law_1432 : decode cL_law 1432 = .ok (.iload 4, 2) := by decide +kernel
theorem dL_law_1434 : decode cL_law 1434 = .ok (.iconst 1, 1) := by decide +kernel
theorem dL_law_1435 : decode cL_law 1435 = .ok (.iadd, 1) := by decide +kernel
theorem dL_law_1436 : decode cL_law 1436 = .ok (.iaload, 1) := by decide +kernel
theorem dL_law_1437 : decode cL_law 1437 = .ok (.aload_n 0, 1) := by decide +kernel
theorem dL_law_1438 : decode cL_law 1438 = .ok (.iload 4, 2) := by decide +kernel
theorem dL_law_1440 : decode cL_law 1440 = .ok (.iconst 2, 1) := by decide +kernel
theorem dL_law_1441 : decode cL_law 1441 = .ok (.iadd, 1) := by decide +kernel
theorem dL_law_1442 : decode cL_law 1442 = .ok (.iaload, 1) := by decide +kernel
theorem dL_law_1443 : decode cL_law 1443 = .ok (.i2l, 1) := by decide +kernel
theorem dL_law_1444 : decode cL_law 1444 = .ok (.bipush 32, 2) := by decide +kernel
theorem dL_law_1446 : decode cL_law 1446 = .ok (.lshl, 1) := by decide +kernel
theorem dL_law_1447 : decode cL_law 1447 = .ok (.aload_n 0, 1) := by decide +kernel
theorem dL_law_1448 : decode cL_law 1448 = .ok (.iload 4, 2) := by decide +kernel
theorem dL_law_1450 : decode cL_law 1450 = .ok (.iconst 3, 1) := by decide +kernel
theorem dL_law_1451 : decode cL_law 1451 = .ok (.iadd, 1) := by decide +kernel
theorem dL_law_1452 : decode cL_law 1452 = .ok (.iaload, 1) := by decide +kernel
theorem dL_law_1453 : decode cL_law 1453 = .ok (.i2l, 1) := by decide +kernel
theorem dL_law_1454 : decode cL_law 1454 = .ok (.ldc2_w 174, 3) := by decide +kernel
theorem dL_law_1457 : decode cL_law 1457 = .ok (.land, 1) := by decide +kernel
theorem dL_law_1458 : decode cL_law 1458 = .ok (.lor, 1) := by decide +kernel
theorem dL_law_1459 : decode cL_law 1459 = .ok (.invokevirtual 179, 3) := by decide +kernel
theorem dL_law_1462 : decode cL_law 1462 = .ok (.istore 6, 2) := by decide +kernel
theorem dL_law_1464 : decode cL_law 1464 = .ok (.aload_n 2, 1) := by decide +kernel
theorem dL_law_1465 : decode cL_law 1465 = .ok (.invokevirtual 101, 3) := by decide +kernel
theorem dL_law_1468 : decode cL_law 1468 = .ok (.iload 5, 2) := by decide +kernel
theorem dL_law_1470 : decode cL_law 1470 = .ok (.if_icmp .eq 5, 3) := by decide +kernel
theorem dL_law_1473 : decode cL_law 1473 = .ok (.iconst 0, 1) := by decide +kernel
theorem dL_law_1474 : decode cL_law 1474 = .ok (.ireturn, 1) := by decide +kernel
theorem dL_law_1475 : decode cL_law 1475 = .ok (.iload 5, 2) := by decide +kernel
theorem dL_law_1477 : decode cL_law 1477 = .ok (.ifCond .ne 15, 3) := by decide +kernel
theorem dL_law_1480 : decode cL_law 1480 = .ok (.aload_n 3, 1) := by decide +kernel
theorem dL_law_1481 : decode cL_law 1481 = .ok (.iconst 0, 1) := by decide +kernel
theorem dL_law_1482 : decode cL_law 1482 = .ok (.laload, 1) := by decide +kernel
theorem dL_law_1483 : decode cL_law 1483 = .ok (.iload 6, 2) := by decide +kernel
theorem dL_law_1485 : decode cL_law 1485 = .ok (.i2l, 1) := by decide +kernel
theorem dL_law_1486 : decode cL_law 1486 = .ok (.lcmp, 1) := by decide +kernel
theorem dL_law_1487 : decode cL_law 1487 = .ok (.ifCond .eq 5, 3) := by decide +kernel
theorem dL_law_1490 : decode cL_law 1490 = .ok (.iconst 0, 1) := by decide +kernel
theorem dL_law_1491 : decode cL_law 1491 = .ok (.ireturn, 1) := by decide +kernel
theorem dL_law_1492 : decode cL_law 1492 = .ok (.goto 215, 3) := by decide +kernel
theorem dL_law_1495 : decode cL_law 1495 = .ok (.aload_n 1, 1) := by decide +kernel
theorem dL_law_1496 : decode cL_law 1496 = .ok (.aload_n 0, 1) := by decide +kernel
theorem dL_law_1497 : decode cL_law 1497 = .ok (.iload 4, 2) := by decide +kernel
theorem dL_law_1499 : decode cL_law 1499 = .ok (.iconst 1, 1) := by decide +kernel
theorem dL_law_1500 : decode cL_law 1500 = .ok (.iadd, 1) := by decide +kernel
theorem dL_law_1501 : decode cL_law 1501 = .ok (.iaload, 1) := by decide +kernel
theorem dL_law_1502 : decode cL_law 1502 = .ok (.i2l, 1) := by decide +kernel
theorem dL_law_1503 : decode cL_law 1503 = .ok (.bipush 32, 2) := by decide +kernel
theorem dL_law_1505 : decode cL_law 1505 = .ok (.lshl, 1) := by decide +kernel
theorem dL_law_1506 : decode cL_law 1506 = .ok (.aload_n 0, 1) := by decide +kernel
theorem dL_law_1507 : decode cL_law 1507 = .ok (.iload 4, 2) := by decide +kernel
theorem dL_law_1509 : decode cL_law 1509 = .ok (.iconst 2, 1) := by decide +kernel
theorem dL_law_1510 : decode cL_law 1510 = .ok (.iadd, 1) := by decide +kernel
theorem dL_law_1511 : decode cL_law 1511 = .ok (.iaload, 1) := by decide +kernel
theorem dL_law_1512 : decode cL_law 1512 = .ok (.i2l, 1) := by decide +kernel
theorem dL_law_1513 : decode cL_law 1513 = .ok (.ldc2_w 174, 3) := by decide +kernel
theorem dL_law_1516 : decode cL_law 1516 = .ok (.land, 1) := by decide +kernel
theorem dL_law_1517 : decode cL_law 1517 = .ok (.lor, 1) := by decide +kernel
theorem dL_law_1518 : decode cL_law 1518 = .ok (.aload_n 0, 1) := by decide +kernel
theorem dL_law_1519 : decode cL_law 1519 = .ok (.iload 4, 2) := by decide +kernel
theorem dL_law_1521 : decode cL_law 1521 = .ok (.iconst 3, 1) := by decide +kernel
theorem dL_law_1522 : decode cL_law 1522 = .ok (.iadd, 1) := by decide +kernel
theorem dL_law_1523 : decode cL_law 1523 = .ok (.iaload, 1) := by decide +kernel
theorem dL_law_1524 : decode cL_law 1524 = .ok (.aload_n 3, 1) := by decide +kernel
theorem dL_law_1525 : decode cL_law 1525 = .ok (.invokestatic 180, 3) := by decide +kernel
theorem dL_law_1528 : decode cL_law 1528 = .ok (.istore 5, 2) := by decide +kernel
theorem dL_law_1530 : decode cL_law 1530 = .ok (.aload_n 2, 1) := by decide +kernel
theorem dL_law_1531 : decode cL_law 1531 = .ok (.aload_n 0, 1) := by decide +kernel
theorem dL_law_1532 : decode cL_law 1532 = .ok (.iload 4, 2) := by decide +kernel
theorem dL_law_1534 : decode cL_law 1534 = .ok (.iconst 1, 1) := by decide +kernel
theorem dL_law_1535 : decode cL_law 1535 = .ok (.iadd, 1) := by decide +kernel
theorem dL_law_1536 : decode cL_law 1536 = .ok (.iaload, 1) := by decide +kernel
theorem dL_law_1537 : decode cL_law 1537 = .ok (.i2l, 1) := by decide +kernel
theorem dL_law_1538 : decode cL_law 1538 = .ok (.bipush 32, 2) := by decide +kernel
theorem dL_law_1540 : decode cL_law 1540 = .ok (.lshl, 1) := by decide +kernel
theorem dL_law_1541 : decode cL_law 1541 = .ok (.aload_n 0, 1) := by decide +kernel
theorem dL_law_1542 : decode cL_law 1542 = .ok (.iload 4, 2) := by decide +kernel
theorem dL_law_1544 : decode cL_law 1544 = .ok (.iconst 2, 1) := by decide +kernel
theorem dL_law_1545 : decode cL_law 1545 = .ok (.iadd, 1) := by decide +kernel
theorem dL_law_1546 : decode cL_law 1546 = .ok (.iaload, 1) := by decide +kernel
theorem dL_law_1547 : decode cL_law 1547 = .ok (.i2l, 1) := by decide +kernel
theorem dL_law_1548 : decode cL_law 1548 = .ok (.ldc2_w 174, 3) := by decide +kernel
theorem dL_law_1551 : decode cL_law 1551 = .ok (.land, 1) := by decide +kernel
theorem dL_law_1552 : decode cL_law 1552 = .ok (.lor, 1) := by decide +kernel
theorem dL_law_1553 : decode cL_law 1553 = .ok (.aload_n 0, 1) := by decide +kernel
theorem dL_law_1554 : decode cL_law 1554 = .ok (.iload 4, 2) := by decide +kernel
theorem dL_law_1556 : decode cL_law 1556 = .ok (.iconst 3, 1) := by decide +kernel
theorem dL_law_1557 : decode cL_law 1557 = .ok (.iadd, 1) := by decide +kernel
theorem dL_law_1558 : decode cL_law 1558 = .ok (.iaload, 1) := by decide +kernel
theorem dL_law_1559 : decode cL_law 1559 = .ok (.invokevirtual 183, 3) := by decide +kernel
theorem dL_law_1562 : decode cL_law 1562 = .ok (.istore 6, 2) := by decide +kernel
theorem dL_law_1564 : decode cL_law 1564 = .ok (.aload_n 2, 1) := by decide +kernel
theorem dL_law_1565 : decode cL_law 1565 = .ok (.invokevirtual 101, 3) := by decide +kernel
theorem dL_law_1568 : decode cL_law 1568 = .ok (.iload 5, 2) := by decide +kernel
theorem dL_law_1570 : decode cL_law 1570 = .ok (.if_icmp .eq 5, 3) := by decide +kernel
theorem dL_law_1573 : decode cL_law 1573 = .ok (.iconst 0, 1) := by decide +kernel
theorem dL_law_1574 : decode cL_law 1574 = .ok (.ireturn, 1) := by decide +kernel
theorem dL_law_1575 : decode cL_law 1575 = .ok (.iload 5, 2) := by decide +kernel
theorem dL_law_1577 : decode cL_law 1577 = .ok (.ifCond .ne 15, 3) := by decide +kernel
theorem dL_law_1580 : decode cL_law 1580 = .ok (.aload_n 3, 1) := by decide +kernel
theorem dL_law_1581 : decode cL_law 1581 = .ok (.iconst 0, 1) := by decide +kernel
theorem dL_law_1582 : decode cL_law 1582 = .ok (.laload, 1) := by decide +kernel
theorem dL_law_1583 : decode cL_law 1583 = .ok (.iload 6, 2) := by decide +kernel
theorem dL_law_1585 : decode cL_law 1585 = .ok (.i2l, 1) := by decide +kernel
theorem dL_law_1586 : decode cL_law 1586 = .ok (.lcmp, 1) := by decide +kernel
theorem dL_law_1587 : decode cL_law 1587 = .ok (.ifCond .eq 5, 3) := by decide +kernel
theorem dL_law_1590 : decode cL_law 1590 = .ok (.iconst 0, 1) := by decide +kernel
theorem dL_law_1591 : decode cL_law 1591 = .ok (.ireturn, 1) := by decide +kernel
theorem dL_law_1592 : decode cL_law 1592 = .ok (.goto 115, 3) := by decide +kernel
theorem dL_law_1595 : decode cL_law 1595 = .ok (.aload_n 1, 1) := by decide +kernel
theorem dL_law_1596 : decode cL_law 1596 = .ok (.aload_n 0, 1) := by decide +kernel
theorem dL_law_1597 : decode cL_law 1597 = .ok (.iload 4, 2) := by decide +kernel
theorem dL_law_1599 : decode cL_law 1599 = .ok (.iconst 1, 1) := by decide +kernel
theorem dL_law_1600 : decode cL_law 1600 = .ok (.iadd, 1) := by decide +kernel
theorem dL_law_1601 : decode cL_law 1601 = .ok (.iaload, 1) := by decide +kernel
theorem dL_law_1602 : decode cL_law 1602 = .ok (.aload_n 3, 1) := by decide +kernel
theorem dL_law_1603 : decode cL_law 1603 = .ok (.invokestatic 184, 3) := by decide +kernel
theorem dL_law_1606 : decode cL_law 1606 = .ok (.istore 5, 2) := by decide +kernel
theorem dL_law_1608 : decode cL_law 1608 = .ok (.aload_n 2, 1) := by decide +kernel
theorem dL_law_1609 : decode cL_law 1609 = .ok (.aload_n 0, 1) := by decide +kernel
theorem dL_law_1610 : decode cL_law 1610 = .ok (.iload 4, 2) := by decide +kernel
theorem dL_law_1612 : decode cL_law 1612 = .ok (.iconst 1, 1) := by decide +kernel
theorem dL_law_1613 : decode cL_law 1613 = .ok (.iadd, 1) := by decide +kernel
theorem dL_law_1614 : decode cL_law 1614 = .ok (.iaload, 1) := by decide +kernel
theorem dL_law_1615 : decode cL_law 1615 = .ok (.invokevirtual 186, 3) := by decide +kernel
theorem dL_law_1618 : decode cL_law 1618 = .ok (.istore 6, 2) := by decide +kernel
theorem dL_law_1620 : decode cL_law 1620 = .ok (.aload_n 2, 1) := by decide +kernel
theorem dL_law_1621 : decode cL_law 1621 = .ok (.invokevirtual 101, 3) := by decide +kernel
theorem dL_law_1624 : decode cL_law 1624 = .ok (.iload 5, 2) := by decide +kernel
theorem dL_law_1626 : decode cL_law 1626 = .ok (.if_icmp .eq 5, 3) := by decide +kernel
theorem dL_law_1629 : decode cL_law 1629 = .ok (.iconst 0, 1) := by decide +kernel
theorem dL_law_1630 : decode cL_law 1630 = .ok (.ireturn, 1) := by decide +kernel
theorem dL_law_1631 : decode cL_law 1631 = .ok (.iload 5, 2) := by decide +kernel
theorem dL_law_1633 : decode cL_law 1633 = .ok (.ifCond .ne 15, 3) := by decide +kernel
theorem dL_law_1636 : decode cL_law 1636 = .ok (.aload_n 3, 1) := by decide +kernel
theorem dL_law_1637 : decode cL_law 1637 = .ok (.iconst 0, 1) := by decide +kernel
theorem dL_law_1638 : decode cL_law 1638 = .ok (.laload, 1) := by decide +kernel
theorem dL_law_1639 : decode cL_law 1639 = .ok (.iload 6, 2) := by decide +kernel
theorem dL_law_1641 : decode cL_law 1641 = .ok (.i2l, 1) := by decide +kernel
theorem dL_law_1642 : decode cL_law 1642 = .ok (.lcmp, 1) := by decide +kernel
theorem dL_law_1643 : decode cL_law 1643 = .ok (.ifCond .eq 5, 3) := by decide +kernel
theorem dL_law_1646 : decode cL_law 1646 = .ok (.iconst 0, 1) := by decide +kernel
theorem dL_law_1647 : decode cL_law 1647 = .ok (.ireturn, 1) := by decide +kernel
theorem dL_law_1648 : decode cL_law 1648 = .ok (.goto 59, 3) := by decide +kernel
theorem dL_law_1651 : decode cL_law 1651 = .ok (.aload_n 1, 1) := by decide +kernel
theorem dL_law_1652 : decode cL_law 1652 = .ok (.aload_n 0, 1) := by decide +kernel
theorem dL_law_1653 : decode cL_law 1653 = .ok (.iload 4, 2) := by decide +kernel
theorem dL_law_1655 : decode cL_law 1655 = .ok (.iconst 1, 1) := by decide +kernel
theorem dL_law_1656 : decode cL_law 1656 = .ok (.iadd, 1) := by decide +kernel
theorem dL_law_1657 : decode cL_law 1657 = .ok (.iaload, 1) := by decide +kernel
theorem dL_law_1658 : decode cL_law 1658 = .ok (.aload_n 3, 1) := by decide +kernel
theorem dL_law_1659 : decode cL_law 1659 = .ok (.invokestatic 187, 3) := by decide +kernel
theorem dL_law_1662 : decode cL_law 1662 = .ok (.istore 5, 2) := by decide +kernel
theorem dL_law_1664 : decode cL_law 1664 = .ok (.aload_n 2, 1) := by decide +kernel
theorem dL_law_1665 : decode cL_law 1665 = .ok (.aload_n 0, 1) := by decide +kernel
theorem dL_law_1666 : decode cL_law 1666 = .ok (.iload 4, 2) := by decide +kernel
theorem dL_law_1668 : decode cL_law 1668 = .ok (.iconst 1, 1) := by decide +kernel
theorem dL_law_1669 : decode cL_law 1669 = .ok (.iadd, 1) := by decide +kernel
theorem dL_law_1670 : decode cL_law 1670 = .ok (.iaload, 1) := by decide +kernel
theorem dL_law_1671 : decode cL_law 1671 = .ok (.invokevirtual 189, 3) := by decide +kernel
theorem dL_law_1674 : decode cL_law 1674 = .ok (.istore 6, 2) := by decide +kernel
theorem dL_law_1676 : decode cL_law 1676 = .ok (.aload_n 2, 1) := by decide +kernel
theorem dL_law_1677 : decode cL_law 1677 = .ok (.invokevirtual 101, 3) := by decide +kernel
theorem dL_law_1680 : decode cL_law 1680 = .ok (.iload 5, 2) := by decide +kernel
theorem dL_law_1682 : decode cL_law 1682 = .ok (.if_icmp .eq 5, 3) := by decide +kernel
theorem dL_law_1685 : decode cL_law 1685 = .ok (.iconst 0, 1) := by decide +kernel
theorem dL_law_1686 : decode cL_law 1686 = .ok (.ireturn, 1) := by decide +kernel
theorem dL_law_1687 : decode cL_law 1687 = .ok (.iload 5, 2) := by decide +kernel
theorem dL_law_1689 : decode cL_law 1689 = .ok (.ifCond .ne 15, 3) := by decide +kernel
theorem dL_law_1692 : decode cL_law 1692 = .ok (.aload_n 3, 1) := by decide +kernel
theorem dL_law_1693 : decode cL_law 1693 = .ok (.iconst 0, 1) := by decide +kernel
theorem dL_law_1694 : decode cL_law 1694 = .ok (.laload, 1) := by decide +kernel
theorem dL_law_1695 : decode cL_law 1695 = .ok (.iload 6, 2) := by decide +kernel
theorem dL_law_1697 : decode cL_law 1697 = .ok (.i2l, 1) := by decide +kernel
theorem dL_law_1698 : decode cL_law 1698 = .ok (.lcmp, 1) := by decide +kernel
theorem dL_law_1699 : decode cL_law 1699 = .ok (.ifCond .eq 5, 3) := by decide +kernel
theorem dL_law_1702 : decode cL_law 1702 = .ok (.iconst 0, 1) := by decide +kernel
theorem dL_law_1703 : decode cL_law 1703 = .ok (.ireturn, 1) := by decide +kernel
theorem dL_law_1704 : decode cL_law 1704 = .ok (.goto 3, 3) := by decide +kernel
theorem dL_law_1707 : decode cL_law 1707 = .ok (.iinc 4 4, 3) := by decide +kernel
theorem dL_law_1710 : decode cL_law 1710 = .ok (.goto (-1687), 3) := by decide +kernel
theorem dL_law_1713 : decode cL_law 1713 = .ok (.iconst 1, 1) := by decide +kernel
theorem dL_law_1714 : decode cL_law 1714 = .ok (.ireturn, 1) := by decide +kernel
end
section

/-! A PURE JUDGEMENT OVER A MEMORY OF NUMBERED NODES. Node n lies at the address hz + n; a reference in a frame is .ref n (n < 1000000: the node n; else the address n - 1000000). -/
def aw : List Cond := lw_tbl.filter goodWord
theorem aw_t {w : Cond} (i : Nat) (h : tables_1[i]? = some w) (g : goodWord w = true) : w ∈ aw := List.mem_filter.mpr ⟨List.mem_append_right _ (List.mem_of_getElem? h), g⟩
theorem aw_s {w : Cond} (h : w ∈ k2_sels lw_privs) (g : goodWord w = true) : w ∈ aw := List.mem_filter.mpr ⟨List.mem_append_left _ h, g⟩
theorem aw_good {w : Cond} (h : w ∈ aw) : goodWord w = true := (List.mem_filter.mp h).2
theorem aw_sub {ws : List Cond} (h : ∀ w ∈ ws, w ∈ aw) {y : Cond} : GoodIn (y :: aw) ws := fun w hw => ⟨List.mem_cons_of_mem _ (h w hw), good_of_word (aw_good (h w hw))⟩
/-- a memory: how many nodes, their kinds and lengths, their references, whether the next node comes at the heap's end; their numbers -/
abbrev vS : Type := Nat × (Nat → Nat × Nat) × (Nat → Nat → Option Nat) × Bool
abbrev vV : Type := Nat → Nat → Int32
abbrev vM : Type := vS × vV
/-- how a method ends: returned, or thrown by a class' name -/
abbrev vO : Type := Option Value ⊕ String
/-- a method: its class, its code, its locals, what it returns, its room -/
abbrev vR : Type := String × ByteArray × Nat × Option FieldType × Room
abbrev vOwn (M : vR) : String := M.1
abbrev vCC (M : vR) : ByteArray := M.2.1
abbrev vNL (M : vR) : Nat := M.2.2.1
abbrev vRt (M : vR) : Option FieldType := M.2.2.2.1
abbrev vRm (M : vR) : Room := M.2.2.2.2
def vph (hz : Nat) : Value → Value
  | .ref n => .ref (if n < 1000000 then hz + n else n - 1000000)
  | v => v
def vIs : Nat → Nat → Bool
  | 0, k => decide (3 ≤ k)
  | 1, k => decide (1 ≤ k)
  | 2, k => decide (k < 13)
  | 3, k => decide (2 ≤ k)
  | 4, k => decide (k = 3)
  | 5, k => decide (k = 1)
  | 6, _ => false
  | 7, k => decide (k = 0) || decide (k = 2) || decide (k = 6) || decide (k = 10) || decide (k = 11)
  | _, _ => false
def vNs : Nat → Nat
  | 0 => 9 | 1 => 3 | 2 => 16 | 3 => 5 | 4 => 4 | 5 => 2 | 6 => 7 | 7 => 12 | _ => 0
def vRf (hz : Nat) (w : Nat → Nat → Option Nat) (n k : Nat) : Value := va_rf ((w n k).map (fun x => hz + x))
def vFs (hz : Nat) (μ : vM) (ci n : Nat) : List Value := (List.range (vNs ci)).map (fun k => if vIs ci k = true then .int (μ.2 n k) else vRf hz μ.1.2.2.1 n k)
def vE (yc : Nat → ClassId) (hz : Nat) (μ : vM) (n : Nat) : va_E :=
  if (μ.1.2.1 n).1 < 8 then .inr ((μ.1.2.1 n).1, vFs hz μ (μ.1.2.1 n).1 n)
  else if (μ.1.2.1 n).1 = 8 then .inl (yc 0, ((μ.1.2.1 n).2, .inl (μ.2 n)))
  else if (μ.1.2.1 n).1 = 9 then .inl (yc 1, ((μ.1.2.1 n).2, .inl (μ.2 n)))
  else if (μ.1.2.1 n).1 = 10 then .inl (yc 2, ((μ.1.2.1 n).2, .inr (.inr (.inr (.inr (fun k => (μ.1.2.2.1 n k).map (fun x => hz + x)))))))
  else if (μ.1.2.1 n).1 = 11 then .inl (yc 3, ((μ.1.2.1 n).2, .inr (.inr (.inr (.inr (fun k => (μ.1.2.2.1 n k).map (fun x => hz + x)))))))
  else .inl (yc 4, ((μ.1.2.1 n).2, .inr (.inl (fun k => (μ.2 n k).toInt64))))
def vW (yc : Nat → ClassId) (hz : Nat) (μ : vM) : va_W := (List.range μ.1.1).map (fun n => (hz + n, vE yc hz μ n))
def vT (yc : Nat → ClassId) : List (ClassId × FieldType) := [(yc 0, .int), (yc 1, .boolean), (yc 2, .object "ClubRolls$Club"), (yc 3, .object "ClubRolls$Member"), (yc 4, .long)]
def vU (v : vV) (n k : Nat) (x : Int32) : vV := fun a b => if a = n then (if b = k then x else v a b) else v a b
def vUA (v : vV) (n : Nat) (f : Nat → Int32) : vV := fun a b => if a = n then f b else v a b
def vH (D : va_G) (yc : Nat → ClassId) (hz : Nat) (μ : vM) (H : Heap) : Prop := va_P D vwCl (vW yc hz μ) H
/-- a node of a kind and length -/
def vK (σ : vS) (n ci ln : Nat) : Prop := (n < σ.1 ∧ n < 1000000) ∧ σ.2.1 n = (ci, ln)
def vStr : List (Nat × String) := []
/-- what a throw needs of the start: two statics, the texts -/
def vTh (hz : Nat) (U : State) : Prop := vx_Zq Bundle.tN "UNASSIGNED_STACK" Bundle.steD (fun q => hz ≤ q) U U.heap ∧ vx_Zq Bundle.tN "SUPPRESSED_SENTINEL" Bundle.listD (fun q => hz ≤ q) U U.heap ∧ ∀ q ∈ vStr, ∃ sa : Nat, vk_R "ClubRolls" q.1 q.2 sa U
def vX (M : vR) (p : Program) (l : Launch) (_ : Env) (s : State) (m : MethodId) (args : Array Value) (_ : List Frame) (meth : Method) (c : Code) (D : va_G) (yc : Nat → ClassId) (hz : Nat) : Prop :=
  p.tables.exec = Jvm.exec ∧ c.code = vCC M ∧ c.maxLocals = vNL M ∧ s.vm.findClass (vOwn M) = some m.cls ∧ (∀ w ∈ aw, w.before args s = true) ∧ va_K D vwCl (vT yc) s ∧ hz ≤ s.heap.size ∧ l.stackTraces = false ∧ meth.sig.returnType = vRt M ∧ meth.locks = false ∧ vTh hz s
def vL (lsA : Array Slot) (nL hz : Nat) (ls : List (Option Value)) : Prop := lsA.size = nL ∧ lv_wf lsA ∧ ∀ (i : Nat) (v : Value), ls[i]? = some (some v) → lsA[i]? = some (.val (vph hz v))
def vQr (D : va_G) (yc : Nat → ClassId) (hz : Nat) (Q : vO → vM → Prop) : Array Value → State → Outcome → State → Prop := fun _ st o t => (∃ (v : Option Value) (μ : vM), o = .returned (v.map (vph hz)) ∧ Q (.inl v) μ ∧ vH D yc hz μ t.heap) ∧ va_F (fun q => hz ≤ q) st t
def vQt (D : va_G) (yc : Nat → ClassId) (hz : Nat) (Q : vO → vM → Prop) : String → State → State → Prop := fun Ex st t => (∃ μ : vM, Q (.inr Ex) μ ∧ vH D yc hz μ t.heap) ∧ va_F (fun q => hz ≤ q) st t
/-- what the ends of a body owe -/
def vEnd (M : vR) (p : Program) (l : Launch) (e : Env) (s : State) (m : MethodId) (args : Array Value) (below : List Frame) (meth : Method) (c : Code) (D : va_G) (yc : Nat → ClassId) (hz : Nat) (Q : vO → vM → Prop) (Qs : State → Prop) : Prop :=
  (∀ (o : Option Value) (pc : Nat) (lsA : Array Slot) (μ : vM) (H : Heap) (locs : List Loc) (cells slots : Nat), (match o with | none => decode (vCC M) pc = .ok (.return_, 1) ∧ vRt M = none | some (.int v) => decode (vCC M) pc = .ok (.ireturn, 1) ∧ (vRt M = some .int ∨ vRt M = some .boolean ∧ narrow .boolean (.int v) = .int v) | some (.ref _) => decode (vCC M) pc = .ok (.areturn, 1) ∧ vRt M = some (.object "ClubRolls$Club") | _ => False) → Q (.inl o) μ → vH D yc hz μ H → va_S (fun q => hz ≤ q) s.heap H locs → cells ≤ (vRm M).cells → slots ≤ (vRm M).slots →
    W p l e (vRm M) s m args below meth c H locs cells slots Qs (F0 m pc lsA ((o.map (vph hz)).toList)))
  ∧ (∀ (Ex : String) (q : Addr) (ce : Cell) (pc : Nat) (lsA : Array Slot) (st : List Value) (μ : vM) (H : Heap) (locs : List Loc) (cells slots : Nat), Q (.inr Ex) μ → vH D yc hz μ H → va_S (fun q => hz ≤ q) s.heap H locs → cells ≤ (vRm M).cells → slots ≤ (vRm M).slots → H[q]? = some ce → ce.vm = .none → s.vm.findClass Ex = some ce.cls →
    vx_W p l e (vRm M) s m args below meth c H locs cells slots Qs (F0 m pc lsA st) q)
  ∧ ((Qs = vx_MQ below (vQr D yc hz Q) (vQt D yc hz Q) args s (vRm M).cells (vRm M).slots (fun q => hz ≤ q) ∧ ∀ x ∈ c.exceptionTable.toList, False) ∨ ∀ Ex μ, ¬ Q (.inr Ex) μ)
/-- from here the method ends as Q says -/
def vP (M : vR) (pc : Nat) (ls : List (Option Value)) (st : List Value) (b : Nat × Nat) (μ : vM) (Q : vO → vM → Prop) : Prop :=
  ∀ (p : Program) (l : Launch) (e : Env) (s : State) (m : MethodId) (args : Array Value) (below : List Frame) (meth : Method) (c : Code) (D : va_G) (yc : Nat → ClassId) (hz : Nat) (Qs : State → Prop), vX M p l e s m args below meth c D yc hz → vEnd M p l e s m args below meth c D yc hz Q Qs →
  ∀ (H : Heap) (locs : List Loc) (cells slots : Nat) (lsA : Array Slot), vL lsA (vNL M) hz ls → vH D yc hz μ H → va_S (fun q => hz ≤ q) s.heap H locs → cells + b.1 ≤ (vRm M).cells → slots + b.2 ≤ (vRm M).slots → (μ.1.2.2.2 = true → hz + μ.1.1 = s.heap.size + cells) →
  W p l e (vRm M) s m args below meth c H locs cells slots Qs (F0 m pc lsA (st.map (vph hz)))
-- locals
def vdrop (ls : List (Option Value)) : Nat → List (Option Value)
  | 0 => ls
  | j + 1 => match ls[j]? with
    | some (some v) => if v.category = 2 then ls.set j none else ls
    | _ => ls
def vset (ls : List (Option Value)) (i : Nat) (x : Value) : List (Option Value) := (vdrop ls i).set i (some x)
def vset2 (ls : List (Option Value)) (i : Nat) (x : Value) : List (Option Value) := ((vdrop ls i).set i (some x)).set (i + 1) none
def vA (hz : Nat) (ls : List (Option Value)) : List (Nat × Value) := (List.range ls.length).filterMap (fun i => (ls.getD i none).map (fun v => (i, vph hz v)))
theorem vph_cat (hz : Nat) (v : Value) : (vph hz v).category = v.category := by cases v <;> rfl
theorem vA_mem {hz : Nat} {ls : List (Option Value)} {q : Nat × Value} : q ∈ vA hz ls ↔ ∃ v, ls[q.1]? = some (some v) ∧ q.2 = vph hz v := by
  obtain ⟨i, x⟩ := q
  simp only [vA, List.mem_filterMap, List.mem_range]
  constructor
  · rintro ⟨j, hj, h⟩
    simp only [List.getD_eq_getElem?_getD, List.getElem?_eq_getElem hj, Option.getD_some] at h
    cases hv : ls[j] with
    | none => rw [hv] at h; cases h
    | some v =>
      rw [hv] at h
      cases h
      exact ⟨v, by rw [List.getElem?_eq_getElem hj, hv], rfl⟩
  · rintro ⟨v, h, rfl⟩
    obtain ⟨hj, hv⟩ := List.getElem?_eq_some_iff.mp h
    refine ⟨i, hj, ?_⟩
    simp only [List.getD_eq_getElem?_getD, h, Option.getD_some, Option.map_some]
theorem vL.has {lsA : Array Slot} {nL hz : Nat} {ls : List (Option Value)} (h : vL lsA nL hz ls) : lv_has lsA nL (vA hz ls) := ⟨h.1, h.2.1, fun q hq => by
  obtain ⟨v, h1, h2⟩ := vA_mem.mp hq
  rw [h2]
  exact h.2.2 _ _ h1⟩
theorem vdrop_get {ls : List (Option Value)} {i j : Nat} {u : Value} (h : (vdrop ls i)[j]? = some (some u)) : ls[j]? = some (some u) ∧ ¬ (j + 1 = i ∧ u.category = 2) := by
  cases i with
  | zero => exact ⟨h, fun q => by omega⟩
  | succ k =>
    simp only [vdrop] at h
    split at h
    · rename_i v hv
      split at h
      · rename_i hc
        rw [List.getElem?_set] at h
        split at h
        · split at h <;> cases h
        · rename_i hne
          exact ⟨h, fun q => hne (by omega)⟩
      · rename_i hc
        refine ⟨h, fun q => ?_⟩
        have : j = k := by omega
        subst this
        rw [hv] at h
        cases h
        exact hc q.2
    · rename_i hn
      refine ⟨h, fun q => ?_⟩
      have : j = k := by omega
      subst this
      exact hn u h
theorem vset_L {lsA : Array Slot} {nL hz i : Nat} {ls : List (Option Value)} {x : Value} (h : lv_has lsA nL ((i, vph hz x) :: (vA hz ls).filter (fun q => !(q.1 == i) && !(q.1 + 1 == i && q.2.category == 2)))) : vL lsA nL hz (vset ls i x) := by
  refine ⟨h.1, h.2.1, fun j u hj => ?_⟩
  simp only [vset] at hj
  rw [List.getElem?_set] at hj
  split at hj
  · rename_i e
    split at hj
    · cases hj; subst e; exact h.2.2 _ List.mem_cons_self
    · cases hj
  · rename_i e
    obtain ⟨g1, g2⟩ := vdrop_get hj
    refine h.2.2 (j, vph hz u) (List.mem_cons_of_mem _ (List.mem_filter.mpr ⟨vA_mem.mpr ⟨u, g1, rfl⟩, ?_⟩))
    simp only [vph_cat]
    have e1 : (j == i) = false := by simpa using fun q : j = i => e q.symm
    rw [e1]
    by_cases g : j + 1 = i
    · have : ¬ u.category = 2 := fun q => g2 ⟨g, q⟩
      simp [this]
    · simp [g]
theorem vset2_L {lsA : Array Slot} {nL hz i : Nat} {ls : List (Option Value)} {x : Value} (h : lv_has lsA nL ((i, vph hz x) :: (vA hz ls).filter (fun q => !(q.1 == i) && (!(q.1 == i + 1) && !(q.1 + 1 == i && q.2.category == 2))))) : vL lsA nL hz (vset2 ls i x) := by
  refine ⟨h.1, h.2.1, fun j u hj => ?_⟩
  simp only [vset2] at hj
  rw [List.getElem?_set] at hj
  split at hj
  · split at hj <;> cases hj
  rename_i e2
  rw [List.getElem?_set] at hj
  split at hj
  · rename_i e
    split at hj
    · cases hj; subst e; exact h.2.2 _ List.mem_cons_self
    · cases hj
  · rename_i e
    obtain ⟨g1, g2⟩ := vdrop_get hj
    refine h.2.2 (j, vph hz u) (List.mem_cons_of_mem _ (List.mem_filter.mpr ⟨vA_mem.mpr ⟨u, g1, rfl⟩, ?_⟩))
    simp only [vph_cat]
    have e1 : (j == i) = false := by simpa using fun q : j = i => e q.symm
    have e3 : (j == i + 1) = false := by simpa using fun q : j = i + 1 => e2 q.symm
    rw [e1, e3]
    by_cases g : j + 1 = i
    · have : ¬ u.category = 2 := fun q => g2 ⟨g, q⟩
      simp [this]
    · simp [g]
-- worlds
theorem vW_get {yc : Nat → ClassId} {hz : Nat} {μ : vM} {n : Nat} (h : n < μ.1.1) : (vW yc hz μ)[n]? = some (hz + n, vE yc hz μ n) := by simp [vW, h]
theorem vW_D {yc : Nat → ClassId} {hz : Nat} {μ : vM} : va_D (fun q => hz ≤ q) (vW yc hz μ) := by
  refine ⟨fun i j p q h1 h2 h3 => ?_, fun k q h => ?_⟩
  · simp only [vW, List.getElem?_map, Option.map_eq_some_iff] at h1 h2
    obtain ⟨a, ha, rfl⟩ := h1
    obtain ⟨b, hb, rfl⟩ := h2
    obtain ⟨ha1, ha2⟩ := List.getElem?_eq_some_iff.mp ha
    obtain ⟨hb1, hb2⟩ := List.getElem?_eq_some_iff.mp hb
    simp only [List.getElem_range] at ha2 hb2
    simp only at h3
    omega
  · simp only [vW, List.getElem?_map, Option.map_eq_some_iff] at h
    obtain ⟨a, ha, rfl⟩ := h
    exact Nat.le_add_right _ _
theorem vE_o {yc : Nat → ClassId} {hz : Nat} {μ : vM} {n ci ln : Nat} (h : vK μ.1 n ci ln) (hc : ci < 8) : vE yc hz μ n = .inr (ci, vFs hz μ ci n) := by
  simp only [vE, h.2, hc, if_true]
theorem vE_i {yc : Nat → ClassId} {hz : Nat} {μ : vM} {n ln : Nat} (h : vK μ.1 n 8 ln) : vE yc hz μ n = .inl (yc 0, (ln, .inl (μ.2 n))) := by simp [vE, h.2]
theorem vE_z {yc : Nat → ClassId} {hz : Nat} {μ : vM} {n ln : Nat} (h : vK μ.1 n 9 ln) : vE yc hz μ n = .inl (yc 1, (ln, .inl (μ.2 n))) := by simp [vE, h.2]
theorem vE_c {yc : Nat → ClassId} {hz : Nat} {μ : vM} {n ln : Nat} (h : vK μ.1 n 10 ln) : vE yc hz μ n = .inl (yc 2, (ln, .inr (.inr (.inr (.inr (fun k => (μ.1.2.2.1 n k).map (fun x => hz + x))))))) := by simp [vE, h.2]
theorem vE_m {yc : Nat → ClassId} {hz : Nat} {μ : vM} {n ln : Nat} (h : vK μ.1 n 11 ln) : vE yc hz μ n = .inl (yc 3, (ln, .inr (.inr (.inr (.inr (fun k => (μ.1.2.2.1 n k).map (fun x => hz + x))))))) := by simp [vE, h.2]
theorem vE_l {yc : Nat → ClassId} {hz : Nat} {μ : vM} {n ln : Nat} (h : vK μ.1 n 12 ln) : vE yc hz μ n = .inl (yc 4, (ln, .inr (.inl (fun k => (μ.2 n k).toInt64)))) := by simp [vE, h.2]
theorem vFs_i {hz : Nat} {μ : vM} {ci n k : Nat} (hk : k < vNs ci) (hi : vIs ci k = true) : (vFs hz μ ci n)[k]? = some (.int (μ.2 n k)) := by simp [vFs, hk, hi]
theorem vFs_r {hz : Nat} {μ : vM} {ci n k : Nat} (hk : k < vNs ci) (hi : vIs ci k = false) : (vFs hz μ ci n)[k]? = some (vRf hz μ.1.2.2.1 n k) := by simp [vFs, hk, hi]
/-- a node's row is changed, the others are not -/
theorem vW_set {yc : Nat → ClassId} {hz : Nat} {μ μ' : vM} {n : Nat} {x : va_E} (hN : μ'.1.1 = μ.1.1) (hx : n < μ.1.1 → vE yc hz μ' n = x) (ho : ∀ j, j ≠ n → vE yc hz μ' j = vE yc hz μ j) : (vW yc hz μ).set n (hz + n, x) = vW yc hz μ' := by
  refine List.ext_getElem? fun j => ?_
  rw [List.getElem?_set]
  split
  · rename_i e
    subst e
    split
    · rename_i h
      simp only [vW, List.length_map, List.length_range] at h
      rw [vW_get (by omega), hx h]
    · rename_i h
      simp only [vW, List.length_map, List.length_range] at h
      symm
      rw [List.getElem?_eq_none_iff]
      simp only [vW, List.length_map, List.length_range]
      omega
  · rename_i e
    by_cases h : j < μ.1.1
    · rw [vW_get h, vW_get (by omega), ho j (fun q => e q.symm)]
    · rw [List.getElem?_eq_none_iff.mpr (by simp only [vW, List.length_map, List.length_range]; omega), List.getElem?_eq_none_iff.mpr (by simp only [vW, List.length_map, List.length_range]; omega)]
theorem vU_ne {v : vV} {n k : Nat} {x : Int32} {j : Nat} (h : j ≠ n) : vU v n k x j = v j := by funext b; simp [vU, h]
theorem vU_at {v : vV} {n k : Nat} {x : Int32} : vU v n k x n = upd (v n) k x := by funext b; simp [vU, upd]
theorem vUA_ne {v : vV} {n : Nat} {f : Nat → Int32} {j : Nat} (h : j ≠ n) : vUA v n f j = v j := by funext b; simp [vUA, h]
theorem vUA_at {v : vV} {n : Nat} {f : Nat → Int32} : vUA v n f n = f := by funext b; simp [vUA]
theorem vE_v {yc : Nat → ClassId} {hz : Nat} {σ : vS} {v v' : vV} {j : Nat} (h : v' j = v j) : vE yc hz (σ, v') j = vE yc hz (σ, v) j := by simp [vE, vFs, h]
theorem vFs_set {hz : Nat} {σ : vS} {v : vV} {ci n k : Nat} {x : Int32} (hi : vIs ci k = true) : (vFs hz (σ, v) ci n).set k (.int x) = vFs hz (σ, vU v n k x) ci n := by
  refine List.ext_getElem? fun j => ?_
  rw [List.getElem?_set]
  split
  · rename_i e
    subst e
    split
    · rename_i h
      simp only [vFs, List.length_map, List.length_range] at h
      rw [vFs_i h hi]; simp [vU]
    · rename_i h
      simp only [vFs, List.length_map, List.length_range] at h
      symm
      rw [List.getElem?_eq_none_iff]
      simp only [vFs, List.length_map, List.length_range]
      omega
  · rename_i e
    by_cases hj : j < vNs ci
    · cases hb : vIs ci j with
      | true =>
        rw [vFs_i hj hb, vFs_i hj hb]
        have e2 : ¬ j = k := fun q => e q.symm
        simp [vU, e2]
      | false => rw [vFs_r hj hb, vFs_r hj hb]
    · rw [List.getElem?_eq_none_iff.mpr (by simp only [vFs, List.length_map, List.length_range]; omega), List.getElem?_eq_none_iff.mpr (by simp only [vFs, List.length_map, List.length_range]; omega)]
theorem vFs_len {hz : Nat} {μ : vM} {ci n : Nat} : (vFs hz μ ci n).length = vNs ci := by simp [vFs]
theorem vph_ref {hz n : Nat} (h : n < 1000000) : vph hz (.ref n) = .ref (hz + n) := by simp [vph, h]
/-- a class of the worlds: its place, its fields -/
def vCk (ci : Nat) (q : vw_C) : Prop := vwCl[ci]? = some q ∧ q.2.2 = vNs ci ∧ ci < 8 ∧ (∀ w ∈ u_ws q.1 q.2.1 q.2.2, w ∈ aw) ∧ (∀ k, k < q.2.2 → (q.2.1 k).1 = q.1) ∧ (∀ a, a < q.2.2 → ∀ b, b < q.2.2 → a ≠ b → (q.2.1 a).2.1 ≠ (q.2.1 b).2.1) ∧ ∃ ty : Nat → FieldType, (∀ k, k < q.2.2 → parseFieldDescriptor (q.2.1 k).2.2.1 = some (ty k)) ∧ ∀ k, k < q.2.2 → vIs ci k = true → ty k = .int
theorem P_iconst {M : vR} {pc : Nat} {ls : List (Option Value)} {st : List Value} {b : Nat × Nat} {μ : vM} {Q : vO → vM → Prop} {n : Int} {v : Int32} (hd : decode (vCC M) pc = .ok (.iconst n, 1)) (hv : Int32.ofInt n = v) (k : vP M (pc + 1) ls (.int v :: st) b μ Q) : vP M pc ls (st) b μ Q :=
  fun p l e s m args below meth c D yc hz Qs X E H locs cells slots lsA hL hH hS h1 h2 h3 => lv_iconst X.1 X.2.1 hd hv (k p l e s m args below meth c D yc hz Qs X E H locs cells slots lsA hL hH hS h1 h2 h3)
theorem P_bipush {M : vR} {pc : Nat} {ls : List (Option Value)} {st : List Value} {b : Nat × Nat} {μ : vM} {Q : vO → vM → Prop} {n : Int} {v : Int32} (hd : decode (vCC M) pc = .ok (.bipush n, 2)) (hv : (Int8.ofInt n).toInt32 = v) (k : vP M (pc + 2) ls (.int v :: st) b μ Q) : vP M pc ls (st) b μ Q :=
  fun p l e s m args below meth c D yc hz Qs X E H locs cells slots lsA hL hH hS h1 h2 h3 => lv_bipush X.1 X.2.1 hd hv (k p l e s m args below meth c D yc hz Qs X E H locs cells slots lsA hL hH hS h1 h2 h3)
theorem P_sipush {M : vR} {pc : Nat} {ls : List (Option Value)} {st : List Value} {b : Nat × Nat} {μ : vM} {Q : vO → vM → Prop} {n : Int} {v : Int32} (hd : decode (vCC M) pc = .ok (.sipush n, 3)) (hv : (Int16.ofInt n).toInt32 = v) (k : vP M (pc + 3) ls (.int v :: st) b μ Q) : vP M pc ls (st) b μ Q :=
  fun p l e s m args below meth c D yc hz Qs X E H locs cells slots lsA hL hH hS h1 h2 h3 => lv_sipush X.1 X.2.1 hd hv (k p l e s m args below meth c D yc hz Qs X E H locs cells slots lsA hL hH hS h1 h2 h3)
theorem P_lconst {M : vR} {pc : Nat} {ls : List (Option Value)} {st : List Value} {b : Nat × Nat} {μ : vM} {Q : vO → vM → Prop} {n : Fin 2} {v : Int64} (hd : decode (vCC M) pc = .ok (.lconst n, 1)) (hv : Int64.ofNat (n : Nat) = v) (k : vP M (pc + 1) ls (.long v :: st) b μ Q) : vP M pc ls (st) b μ Q :=
  fun p l e s m args below meth c D yc hz Qs X E H locs cells slots lsA hL hH hS h1 h2 h3 => lv_lconst X.1 X.2.1 hd hv (k p l e s m args below meth c D yc hz Qs X E H locs cells slots lsA hL hH hS h1 h2 h3)
theorem P_ldc {M : vR} {pc : Nat} {ls : List (Option Value)} {st : List Value} {b : Nat × Nat} {μ : vM} {Q : vO → vM → Prop} {i : Nat} {v : Int32} (hd : decode (vCC M) pc = .ok (.ldc i, 2)) (hw : Jvm.Cond.constant (vOwn M) i v ∈ aw) (k : vP M (pc + 2) ls (.int v :: st) b μ Q) : vP M pc ls (st) b μ Q :=
  fun p l e s m args below meth c D yc hz Qs X E H locs cells slots lsA hL hH hS h1 h2 h3 => lv_ldc X.1 X.2.1 X.2.2.2.1 (X.2.2.2.2.1 _ hw) hd (k p l e s m args below meth c D yc hz Qs X E H locs cells slots lsA hL hH hS h1 h2 h3)
theorem P_ldc_w {M : vR} {pc : Nat} {ls : List (Option Value)} {st : List Value} {b : Nat × Nat} {μ : vM} {Q : vO → vM → Prop} {i : Nat} {v : Int32} (hd : decode (vCC M) pc = .ok (.ldc_w i, 3)) (hw : Jvm.Cond.constant (vOwn M) i v ∈ aw) (k : vP M (pc + 3) ls (.int v :: st) b μ Q) : vP M pc ls (st) b μ Q :=
  fun p l e s m args below meth c D yc hz Qs X E H locs cells slots lsA hL hH hS h1 h2 h3 => lv_ldcw X.1 X.2.1 X.2.2.2.1 (X.2.2.2.2.1 _ hw) hd (k p l e s m args below meth c D yc hz Qs X E H locs cells slots lsA hL hH hS h1 h2 h3)
theorem P_ldc2_w {M : vR} {pc : Nat} {ls : List (Option Value)} {st : List Value} {b : Nat × Nat} {μ : vM} {Q : vO → vM → Prop} {i : Nat} {v : Int64} (hd : decode (vCC M) pc = .ok (.ldc2_w i, 3)) (hw : Jvm.Cond.constantLong (vOwn M) i v ∈ aw) (k : vP M (pc + 3) ls (.long v :: st) b μ Q) : vP M pc ls (st) b μ Q :=
  fun p l e s m args below meth c D yc hz Qs X E H locs cells slots lsA hL hH hS h1 h2 h3 => lv_ldc2 X.1 X.2.1 X.2.2.2.1 (X.2.2.2.2.1 _ hw) hd (k p l e s m args below meth c D yc hz Qs X E H locs cells slots lsA hL hH hS h1 h2 h3)
theorem P_iload_n {M : vR} {pc : Nat} {ls : List (Option Value)} {st : List Value} {b : Nat × Nat} {μ : vM} {Q : vO → vM → Prop} {n : Fin 4} {i : Nat} {x : Int32} (hd : decode (vCC M) pc = .ok (.iload_n n, 1)) (hi : (n : Nat) = i) (hl : ls[i]? = some (some (.int x))) (k : vP M (pc + 1) ls (.int x :: st) b μ Q) : vP M pc ls (st) b μ Q :=
  fun p l e s m args below meth c D yc hz Qs X E H locs cells slots lsA hL hH hS h1 h2 h3 => lv_iload_n X.1 X.2.1 hd hi (hL.2.2 _ _ hl) (k p l e s m args below meth c D yc hz Qs X E H locs cells slots lsA hL hH hS h1 h2 h3)
theorem P_iload {M : vR} {pc : Nat} {ls : List (Option Value)} {st : List Value} {b : Nat × Nat} {μ : vM} {Q : vO → vM → Prop} {i : Nat} {x : Int32} (hd : decode (vCC M) pc = .ok (.iload i, 2)) (hl : ls[i]? = some (some (.int x))) (k : vP M (pc + 2) ls (.int x :: st) b μ Q) : vP M pc ls (st) b μ Q :=
  fun p l e s m args below meth c D yc hz Qs X E H locs cells slots lsA hL hH hS h1 h2 h3 => lv_iload X.1 X.2.1 hd (hL.2.2 _ _ hl) (k p l e s m args below meth c D yc hz Qs X E H locs cells slots lsA hL hH hS h1 h2 h3)
theorem P_lload_n {M : vR} {pc : Nat} {ls : List (Option Value)} {st : List Value} {b : Nat × Nat} {μ : vM} {Q : vO → vM → Prop} {n : Fin 4} {i : Nat} {x : Int64} (hd : decode (vCC M) pc = .ok (.lload_n n, 1)) (hi : (n : Nat) = i) (hl : ls[i]? = some (some (.long x))) (k : vP M (pc + 1) ls (.long x :: st) b μ Q) : vP M pc ls (st) b μ Q :=
  fun p l e s m args below meth c D yc hz Qs X E H locs cells slots lsA hL hH hS h1 h2 h3 => lv_lload_n X.1 X.2.1 hd hi (hL.2.2 _ _ hl) (k p l e s m args below meth c D yc hz Qs X E H locs cells slots lsA hL hH hS h1 h2 h3)
theorem P_lload {M : vR} {pc : Nat} {ls : List (Option Value)} {st : List Value} {b : Nat × Nat} {μ : vM} {Q : vO → vM → Prop} {i : Nat} {x : Int64} (hd : decode (vCC M) pc = .ok (.lload i, 2)) (hl : ls[i]? = some (some (.long x))) (k : vP M (pc + 2) ls (.long x :: st) b μ Q) : vP M pc ls (st) b μ Q :=
  fun p l e s m args below meth c D yc hz Qs X E H locs cells slots lsA hL hH hS h1 h2 h3 => lv_lload X.1 X.2.1 hd (hL.2.2 _ _ hl) (k p l e s m args below meth c D yc hz Qs X E H locs cells slots lsA hL hH hS h1 h2 h3)
theorem P_aload_n {M : vR} {pc : Nat} {ls : List (Option Value)} {st : List Value} {b : Nat × Nat} {μ : vM} {Q : vO → vM → Prop} {n : Fin 4} {i : Nat} {x : Nat} (hd : decode (vCC M) pc = .ok (.aload_n n, 1)) (hi : (n : Nat) = i) (hl : ls[i]? = some (some (.ref x))) (k : vP M (pc + 1) ls (.ref x :: st) b μ Q) : vP M pc ls (st) b μ Q :=
  fun p l e s m args below meth c D yc hz Qs X E H locs cells slots lsA hL hH hS h1 h2 h3 => lv_aload_n X.1 X.2.1 hd hi (hL.2.2 _ _ hl) (k p l e s m args below meth c D yc hz Qs X E H locs cells slots lsA hL hH hS h1 h2 h3)
theorem P_aload {M : vR} {pc : Nat} {ls : List (Option Value)} {st : List Value} {b : Nat × Nat} {μ : vM} {Q : vO → vM → Prop} {i : Nat} {x : Nat} (hd : decode (vCC M) pc = .ok (.aload i, 2)) (hl : ls[i]? = some (some (.ref x))) (k : vP M (pc + 2) ls (.ref x :: st) b μ Q) : vP M pc ls (st) b μ Q :=
  fun p l e s m args below meth c D yc hz Qs X E H locs cells slots lsA hL hH hS h1 h2 h3 => lv_aload X.1 X.2.1 hd (hL.2.2 _ _ hl) (k p l e s m args below meth c D yc hz Qs X E H locs cells slots lsA hL hH hS h1 h2 h3)
theorem P_istore_n {M : vR} {pc : Nat} {ls : List (Option Value)} {st : List Value} {b : Nat × Nat} {μ : vM} {Q : vO → vM → Prop} {n : Fin 4} {i : Nat} {x : Int32} {ls2 : List (Option Value)} (hd : decode (vCC M) pc = .ok (.istore_n n, 1)) (hi : (n : Nat) = i) (hn : i < vNL M) (hs : vset ls i (.int x) = ls2) (k : vP M (pc + 1) ls2 (st) b μ Q) : vP M pc ls (.int x :: st) b μ Q :=
  fun p l e s m args below meth c D yc hz Qs X E H locs cells slots lsA hL hH hS h1 h2 h3 => lv_istore_n X.1 X.2.1 hd hi hL.has hn rfl (fun ls9 h9 => k p l e s m args below meth c D yc hz Qs X E H locs cells slots ls9 (hs ▸ vset_L h9) hH hS h1 h2 h3)
theorem P_istore {M : vR} {pc : Nat} {ls : List (Option Value)} {st : List Value} {b : Nat × Nat} {μ : vM} {Q : vO → vM → Prop} {i : Nat} {x : Int32} {ls2 : List (Option Value)} (hd : decode (vCC M) pc = .ok (.istore i, 2)) (hn : i < vNL M) (hs : vset ls i (.int x) = ls2) (k : vP M (pc + 2) ls2 (st) b μ Q) : vP M pc ls (.int x :: st) b μ Q :=
  fun p l e s m args below meth c D yc hz Qs X E H locs cells slots lsA hL hH hS h1 h2 h3 => lv_istore X.1 X.2.1 hd hL.has hn rfl (fun ls9 h9 => k p l e s m args below meth c D yc hz Qs X E H locs cells slots ls9 (hs ▸ vset_L h9) hH hS h1 h2 h3)
theorem P_astore_n {M : vR} {pc : Nat} {ls : List (Option Value)} {st : List Value} {b : Nat × Nat} {μ : vM} {Q : vO → vM → Prop} {n : Fin 4} {i : Nat} {x : Nat} {ls2 : List (Option Value)} (hd : decode (vCC M) pc = .ok (.astore_n n, 1)) (hi : (n : Nat) = i) (hn : i < vNL M) (hs : vset ls i (.ref x) = ls2) (k : vP M (pc + 1) ls2 (st) b μ Q) : vP M pc ls (.ref x :: st) b μ Q :=
  fun p l e s m args below meth c D yc hz Qs X E H locs cells slots lsA hL hH hS h1 h2 h3 => lv_astore_n X.1 X.2.1 hd hi hL.has hn rfl (fun ls9 h9 => k p l e s m args below meth c D yc hz Qs X E H locs cells slots ls9 (hs ▸ vset_L h9) hH hS h1 h2 h3)
theorem P_astore {M : vR} {pc : Nat} {ls : List (Option Value)} {st : List Value} {b : Nat × Nat} {μ : vM} {Q : vO → vM → Prop} {i : Nat} {x : Nat} {ls2 : List (Option Value)} (hd : decode (vCC M) pc = .ok (.astore i, 2)) (hn : i < vNL M) (hs : vset ls i (.ref x) = ls2) (k : vP M (pc + 2) ls2 (st) b μ Q) : vP M pc ls (.ref x :: st) b μ Q :=
  fun p l e s m args below meth c D yc hz Qs X E H locs cells slots lsA hL hH hS h1 h2 h3 => lv_astore X.1 X.2.1 hd hL.has hn rfl (fun ls9 h9 => k p l e s m args below meth c D yc hz Qs X E H locs cells slots ls9 (hs ▸ vset_L h9) hH hS h1 h2 h3)
theorem P_lstore_n {M : vR} {pc : Nat} {ls : List (Option Value)} {st : List Value} {b : Nat × Nat} {μ : vM} {Q : vO → vM → Prop} {n : Fin 4} {i : Nat} {x : Int64} {ls2 : List (Option Value)} (hd : decode (vCC M) pc = .ok (.lstore_n n, 1)) (hi : (n : Nat) = i) (hn : i + 1 < vNL M) (hs : vset2 ls i (.long x) = ls2) (k : vP M (pc + 1) ls2 (st) b μ Q) : vP M pc ls (.long x :: st) b μ Q :=
  fun p l e s m args below meth c D yc hz Qs X E H locs cells slots lsA hL hH hS h1 h2 h3 => lv_lstore_n X.1 X.2.1 hd hi hL.has hn rfl (fun ls9 h9 => k p l e s m args below meth c D yc hz Qs X E H locs cells slots ls9 (hs ▸ vset2_L h9) hH hS h1 h2 h3)
theorem P_lstore {M : vR} {pc : Nat} {ls : List (Option Value)} {st : List Value} {b : Nat × Nat} {μ : vM} {Q : vO → vM → Prop} {i : Nat} {x : Int64} {ls2 : List (Option Value)} (hd : decode (vCC M) pc = .ok (.lstore i, 2)) (hn : i + 1 < vNL M) (hs : vset2 ls i (.long x) = ls2) (k : vP M (pc + 2) ls2 (st) b μ Q) : vP M pc ls (.long x :: st) b μ Q :=
  fun p l e s m args below meth c D yc hz Qs X E H locs cells slots lsA hL hH hS h1 h2 h3 => lv_lstore X.1 X.2.1 hd hL.has hn rfl (fun ls9 h9 => k p l e s m args below meth c D yc hz Qs X E H locs cells slots ls9 (hs ▸ vset2_L h9) hH hS h1 h2 h3)
theorem P_iinc {M : vR} {pc : Nat} {ls : List (Option Value)} {st : List Value} {b : Nat × Nat} {μ : vM} {Q : vO → vM → Prop} {i : Nat} {n : Int} {x v : Int32} {ls2 : List (Option Value)} (hd : decode (vCC M) pc = .ok (.iinc i n, 3)) (hl : ls[i]? = some (some (.int x))) (hv : x + Int32.ofInt n = v) (hn : i < vNL M) (hs : vset ls i (.int v) = ls2) (k : vP M (pc + 3) ls2 st b μ Q) : vP M pc ls st b μ Q := by
  intro p l e s m args below meth c D yc hz Qs X E H locs cells slots lsA hL hH hS h1 h2 h3
  obtain ⟨j, hj⟩ := List.getElem?_of_mem (vA_mem (hz := hz) (q := (i, .int x)) |>.mpr ⟨_, hl, rfl⟩)
  exact lv_iinc X.1 X.2.1 hd hL.has hj hv hn rfl (fun ls9 h9 => k p l e s m args below meth c D yc hz Qs X E H locs cells slots ls9 (hs ▸ vset_L h9) hH hS h1 h2 h3)
theorem P_iadd {M : vR} {pc : Nat} {ls : List (Option Value)} {st : List Value} {b : Nat × Nat} {μ : vM} {Q : vO → vM → Prop} {x y : Int32} (hd : decode (vCC M) pc = .ok (.iadd, 1)) (k : vP M (pc + 1) ls (.int (x + y) :: st) b μ Q) : vP M pc ls (.int y :: .int x :: st) b μ Q :=
  fun p l e s m args below meth c D yc hz Qs X E H locs cells slots lsA hL hH hS h1 h2 h3 => lv_iadd X.1 X.2.1 hd (k p l e s m args below meth c D yc hz Qs X E H locs cells slots lsA hL hH hS h1 h2 h3)
theorem P_isub {M : vR} {pc : Nat} {ls : List (Option Value)} {st : List Value} {b : Nat × Nat} {μ : vM} {Q : vO → vM → Prop} {x y : Int32} (hd : decode (vCC M) pc = .ok (.isub, 1)) (k : vP M (pc + 1) ls (.int (x - y) :: st) b μ Q) : vP M pc ls (.int y :: .int x :: st) b μ Q :=
  fun p l e s m args below meth c D yc hz Qs X E H locs cells slots lsA hL hH hS h1 h2 h3 => lv_isub X.1 X.2.1 hd (k p l e s m args below meth c D yc hz Qs X E H locs cells slots lsA hL hH hS h1 h2 h3)
theorem P_imul {M : vR} {pc : Nat} {ls : List (Option Value)} {st : List Value} {b : Nat × Nat} {μ : vM} {Q : vO → vM → Prop} {x y : Int32} (hd : decode (vCC M) pc = .ok (.imul, 1)) (k : vP M (pc + 1) ls (.int (x * y) :: st) b μ Q) : vP M pc ls (.int y :: .int x :: st) b μ Q :=
  fun p l e s m args below meth c D yc hz Qs X E H locs cells slots lsA hL hH hS h1 h2 h3 => lv_imul X.1 X.2.1 hd (k p l e s m args below meth c D yc hz Qs X E H locs cells slots lsA hL hH hS h1 h2 h3)
theorem P_iand {M : vR} {pc : Nat} {ls : List (Option Value)} {st : List Value} {b : Nat × Nat} {μ : vM} {Q : vO → vM → Prop} {x y : Int32} (hd : decode (vCC M) pc = .ok (.iand, 1)) (k : vP M (pc + 1) ls (.int (x &&& y) :: st) b μ Q) : vP M pc ls (.int y :: .int x :: st) b μ Q :=
  fun p l e s m args below meth c D yc hz Qs X E H locs cells slots lsA hL hH hS h1 h2 h3 => lv_iand X.1 X.2.1 hd (k p l e s m args below meth c D yc hz Qs X E H locs cells slots lsA hL hH hS h1 h2 h3)
theorem P_ior {M : vR} {pc : Nat} {ls : List (Option Value)} {st : List Value} {b : Nat × Nat} {μ : vM} {Q : vO → vM → Prop} {x y : Int32} (hd : decode (vCC M) pc = .ok (.ior, 1)) (k : vP M (pc + 1) ls (.int (x ||| y) :: st) b μ Q) : vP M pc ls (.int y :: .int x :: st) b μ Q :=
  fun p l e s m args below meth c D yc hz Qs X E H locs cells slots lsA hL hH hS h1 h2 h3 => lv_ior X.1 X.2.1 hd (k p l e s m args below meth c D yc hz Qs X E H locs cells slots lsA hL hH hS h1 h2 h3)
theorem P_ixor {M : vR} {pc : Nat} {ls : List (Option Value)} {st : List Value} {b : Nat × Nat} {μ : vM} {Q : vO → vM → Prop} {x y : Int32} (hd : decode (vCC M) pc = .ok (.ixor, 1)) (k : vP M (pc + 1) ls (.int (x ^^^ y) :: st) b μ Q) : vP M pc ls (.int y :: .int x :: st) b μ Q :=
  fun p l e s m args below meth c D yc hz Qs X E H locs cells slots lsA hL hH hS h1 h2 h3 => lv_ixor X.1 X.2.1 hd (k p l e s m args below meth c D yc hz Qs X E H locs cells slots lsA hL hH hS h1 h2 h3)
theorem P_ishl {M : vR} {pc : Nat} {ls : List (Option Value)} {st : List Value} {b : Nat × Nat} {μ : vM} {Q : vO → vM → Prop} {x y : Int32} (hd : decode (vCC M) pc = .ok (.ishl, 1)) (k : vP M (pc + 1) ls (.int (x <<< (y &&& 31)) :: st) b μ Q) : vP M pc ls (.int y :: .int x :: st) b μ Q :=
  fun p l e s m args below meth c D yc hz Qs X E H locs cells slots lsA hL hH hS h1 h2 h3 => lv_ishl X.1 X.2.1 hd (k p l e s m args below meth c D yc hz Qs X E H locs cells slots lsA hL hH hS h1 h2 h3)
theorem P_ishr {M : vR} {pc : Nat} {ls : List (Option Value)} {st : List Value} {b : Nat × Nat} {μ : vM} {Q : vO → vM → Prop} {x y : Int32} (hd : decode (vCC M) pc = .ok (.ishr, 1)) (k : vP M (pc + 1) ls (.int (x >>> (y &&& 31)) :: st) b μ Q) : vP M pc ls (.int y :: .int x :: st) b μ Q :=
  fun p l e s m args below meth c D yc hz Qs X E H locs cells slots lsA hL hH hS h1 h2 h3 => lv_ishr X.1 X.2.1 hd (k p l e s m args below meth c D yc hz Qs X E H locs cells slots lsA hL hH hS h1 h2 h3)
theorem P_idiv {M : vR} {pc : Nat} {ls : List (Option Value)} {st : List Value} {b : Nat × Nat} {μ : vM} {Q : vO → vM → Prop} {x y : Int32} (hd : decode (vCC M) pc = .ok (.idiv, 1)) (hne : ¬ y = 0) (k : vP M (pc + 1) ls (.int (x / y) :: st) b μ Q) : vP M pc ls (.int y :: .int x :: st) b μ Q :=
  fun p l e s m args below meth c D yc hz Qs X E H locs cells slots lsA hL hH hS h1 h2 h3 => lv_idiv X.1 X.2.1 hd hne (k p l e s m args below meth c D yc hz Qs X E H locs cells slots lsA hL hH hS h1 h2 h3)
theorem P_irem {M : vR} {pc : Nat} {ls : List (Option Value)} {st : List Value} {b : Nat × Nat} {μ : vM} {Q : vO → vM → Prop} {x y : Int32} (hd : decode (vCC M) pc = .ok (.irem, 1)) (hne : ¬ y = 0) (k : vP M (pc + 1) ls (.int (x - x / y * y) :: st) b μ Q) : vP M pc ls (.int y :: .int x :: st) b μ Q :=
  fun p l e s m args below meth c D yc hz Qs X E H locs cells slots lsA hL hH hS h1 h2 h3 => lv_irem X.1 X.2.1 hd hne (k p l e s m args below meth c D yc hz Qs X E H locs cells slots lsA hL hH hS h1 h2 h3)
theorem P_ladd {M : vR} {pc : Nat} {ls : List (Option Value)} {st : List Value} {b : Nat × Nat} {μ : vM} {Q : vO → vM → Prop} {x y : Int64} (hd : decode (vCC M) pc = .ok (.ladd, 1)) (k : vP M (pc + 1) ls (.long (x + y) :: st) b μ Q) : vP M pc ls (.long y :: .long x :: st) b μ Q :=
  fun p l e s m args below meth c D yc hz Qs X E H locs cells slots lsA hL hH hS h1 h2 h3 => lv_ladd X.1 X.2.1 hd (k p l e s m args below meth c D yc hz Qs X E H locs cells slots lsA hL hH hS h1 h2 h3)
theorem P_lsub {M : vR} {pc : Nat} {ls : List (Option Value)} {st : List Value} {b : Nat × Nat} {μ : vM} {Q : vO → vM → Prop} {x y : Int64} (hd : decode (vCC M) pc = .ok (.lsub, 1)) (k : vP M (pc + 1) ls (.long (x - y) :: st) b μ Q) : vP M pc ls (.long y :: .long x :: st) b μ Q :=
  fun p l e s m args below meth c D yc hz Qs X E H locs cells slots lsA hL hH hS h1 h2 h3 => lv_lsub X.1 X.2.1 hd (k p l e s m args below meth c D yc hz Qs X E H locs cells slots lsA hL hH hS h1 h2 h3)
theorem P_lmul {M : vR} {pc : Nat} {ls : List (Option Value)} {st : List Value} {b : Nat × Nat} {μ : vM} {Q : vO → vM → Prop} {x y : Int64} (hd : decode (vCC M) pc = .ok (.lmul, 1)) (k : vP M (pc + 1) ls (.long (x * y) :: st) b μ Q) : vP M pc ls (.long y :: .long x :: st) b μ Q :=
  fun p l e s m args below meth c D yc hz Qs X E H locs cells slots lsA hL hH hS h1 h2 h3 => lv_lmul X.1 X.2.1 hd (k p l e s m args below meth c D yc hz Qs X E H locs cells slots lsA hL hH hS h1 h2 h3)
theorem P_land {M : vR} {pc : Nat} {ls : List (Option Value)} {st : List Value} {b : Nat × Nat} {μ : vM} {Q : vO → vM → Prop} {x y : Int64} (hd : decode (vCC M) pc = .ok (.land, 1)) (k : vP M (pc + 1) ls (.long (x &&& y) :: st) b μ Q) : vP M pc ls (.long y :: .long x :: st) b μ Q :=
  fun p l e s m args below meth c D yc hz Qs X E H locs cells slots lsA hL hH hS h1 h2 h3 => lv_land X.1 X.2.1 hd (k p l e s m args below meth c D yc hz Qs X E H locs cells slots lsA hL hH hS h1 h2 h3)
theorem P_lor {M : vR} {pc : Nat} {ls : List (Option Value)} {st : List Value} {b : Nat × Nat} {μ : vM} {Q : vO → vM → Prop} {x y : Int64} (hd : decode (vCC M) pc = .ok (.lor, 1)) (k : vP M (pc + 1) ls (.long (x ||| y) :: st) b μ Q) : vP M pc ls (.long y :: .long x :: st) b μ Q :=
  fun p l e s m args below meth c D yc hz Qs X E H locs cells slots lsA hL hH hS h1 h2 h3 => lv_lor X.1 X.2.1 hd (k p l e s m args below meth c D yc hz Qs X E H locs cells slots lsA hL hH hS h1 h2 h3)
theorem P_ldiv {M : vR} {pc : Nat} {ls : List (Option Value)} {st : List Value} {b : Nat × Nat} {μ : vM} {Q : vO → vM → Prop} {x y : Int64} (hd : decode (vCC M) pc = .ok (.ldiv, 1)) (hne : ¬ y = 0) (k : vP M (pc + 1) ls (.long (x / y) :: st) b μ Q) : vP M pc ls (.long y :: .long x :: st) b μ Q :=
  fun p l e s m args below meth c D yc hz Qs X E H locs cells slots lsA hL hH hS h1 h2 h3 => lv_ldiv X.1 X.2.1 hd hne (k p l e s m args below meth c D yc hz Qs X E H locs cells slots lsA hL hH hS h1 h2 h3)
theorem P_lrem {M : vR} {pc : Nat} {ls : List (Option Value)} {st : List Value} {b : Nat × Nat} {μ : vM} {Q : vO → vM → Prop} {x y : Int64} (hd : decode (vCC M) pc = .ok (.lrem, 1)) (hne : ¬ y = 0) (k : vP M (pc + 1) ls (.long (x - x / y * y) :: st) b μ Q) : vP M pc ls (.long y :: .long x :: st) b μ Q :=
  fun p l e s m args below meth c D yc hz Qs X E H locs cells slots lsA hL hH hS h1 h2 h3 => lv_lrem X.1 X.2.1 hd hne (k p l e s m args below meth c D yc hz Qs X E H locs cells slots lsA hL hH hS h1 h2 h3)
theorem P_iushr {M : vR} {pc : Nat} {ls : List (Option Value)} {st : List Value} {b : Nat × Nat} {μ : vM} {Q : vO → vM → Prop} {x y : Int32} (hd : decode (vCC M) pc = .ok (.iushr, 1)) (k : vP M (pc + 1) ls (.int ((x.toUInt32 >>> (y.toUInt32 &&& Int32.toUInt32 31)).toInt32) :: st) b μ Q) : vP M pc ls (.int y :: .int x :: st) b μ Q :=
  fun p l e s m args below meth c D yc hz Qs X E H locs cells slots lsA hL hH hS h1 h2 h3 => lv_iushr X.1 X.2.1 hd rfl (k p l e s m args below meth c D yc hz Qs X E H locs cells slots lsA hL hH hS h1 h2 h3)
theorem P_lushr {M : vR} {pc : Nat} {ls : List (Option Value)} {st : List Value} {b : Nat × Nat} {μ : vM} {Q : vO → vM → Prop} {x : Int64} {y : Int32} (hd : decode (vCC M) pc = .ok (.lushr, 1)) (k : vP M (pc + 1) ls (.long ((x.toUInt64 >>> (y.toInt64.toUInt64 &&& Int64.toUInt64 63)).toInt64) :: st) b μ Q) : vP M pc ls (.int y :: .long x :: st) b μ Q :=
  fun p l e s m args below meth c D yc hz Qs X E H locs cells slots lsA hL hH hS h1 h2 h3 => lv_lushr X.1 X.2.1 hd rfl (k p l e s m args below meth c D yc hz Qs X E H locs cells slots lsA hL hH hS h1 h2 h3)
theorem P_lshl {M : vR} {pc : Nat} {ls : List (Option Value)} {st : List Value} {b : Nat × Nat} {μ : vM} {Q : vO → vM → Prop} {x : Int64} {y : Int32} (hd : decode (vCC M) pc = .ok (.lshl, 1)) (k : vP M (pc + 1) ls (.long (x <<< (y.toInt64 &&& 63)) :: st) b μ Q) : vP M pc ls (.int y :: .long x :: st) b μ Q :=
  fun p l e s m args below meth c D yc hz Qs X E H locs cells slots lsA hL hH hS h1 h2 h3 => lv_lshl X.1 X.2.1 hd rfl (k p l e s m args below meth c D yc hz Qs X E H locs cells slots lsA hL hH hS h1 h2 h3)
theorem P_ineg {M : vR} {pc : Nat} {ls : List (Option Value)} {st : List Value} {b : Nat × Nat} {μ : vM} {Q : vO → vM → Prop} {x : Int32} (hd : decode (vCC M) pc = .ok (.ineg, 1)) (k : vP M (pc + 1) ls (.int (-x) :: st) b μ Q) : vP M pc ls (.int x :: st) b μ Q :=
  fun p l e s m args below meth c D yc hz Qs X E H locs cells slots lsA hL hH hS h1 h2 h3 => lv_ineg X.1 X.2.1 hd (k p l e s m args below meth c D yc hz Qs X E H locs cells slots lsA hL hH hS h1 h2 h3)
theorem P_i2l {M : vR} {pc : Nat} {ls : List (Option Value)} {st : List Value} {b : Nat × Nat} {μ : vM} {Q : vO → vM → Prop} {x : Int32} (hd : decode (vCC M) pc = .ok (.i2l, 1)) (k : vP M (pc + 1) ls (.long x.toInt64 :: st) b μ Q) : vP M pc ls (.int x :: st) b μ Q :=
  fun p l e s m args below meth c D yc hz Qs X E H locs cells slots lsA hL hH hS h1 h2 h3 => lv_i2l X.1 X.2.1 hd rfl (k p l e s m args below meth c D yc hz Qs X E H locs cells slots lsA hL hH hS h1 h2 h3)
theorem P_l2i {M : vR} {pc : Nat} {ls : List (Option Value)} {st : List Value} {b : Nat × Nat} {μ : vM} {Q : vO → vM → Prop} {x : Int64} (hd : decode (vCC M) pc = .ok (.l2i, 1)) (k : vP M (pc + 1) ls (.int x.toInt32 :: st) b μ Q) : vP M pc ls (.long x :: st) b μ Q :=
  fun p l e s m args below meth c D yc hz Qs X E H locs cells slots lsA hL hH hS h1 h2 h3 => lv_l2i X.1 X.2.1 hd rfl (k p l e s m args below meth c D yc hz Qs X E H locs cells slots lsA hL hH hS h1 h2 h3)
theorem P_lcmp {M : vR} {pc : Nat} {ls : List (Option Value)} {st : List Value} {b : Nat × Nat} {μ : vM} {Q : vO → vM → Prop} {x y : Int64} (hd : decode (vCC M) pc = .ok (.lcmp, 1)) (k : vP M (pc + 1) ls (.int (lg_cmp x y) :: st) b μ Q) : vP M pc ls (.long y :: .long x :: st) b μ Q :=
  fun p l e s m args below meth c D yc hz Qs X E H locs cells slots lsA hL hH hS h1 h2 h3 => W.lcmp X.1 X.2.1 hd (k p l e s m args below meth c D yc hz Qs X E H locs cells slots lsA hL hH hS h1 h2 h3)
theorem P_dup {M : vR} {pc : Nat} {ls : List (Option Value)} {st : List Value} {b : Nat × Nat} {μ : vM} {Q : vO → vM → Prop} {v : Value} (hd : decode (vCC M) pc = .ok (.dup, 1)) (hc : v.category = 1) (k : vP M (pc + 1) ls (v :: v :: st) b μ Q) : vP M pc ls (v :: st) b μ Q :=
  fun p l e s m args below meth c D yc hz Qs X E H locs cells slots lsA hL hH hS h1 h2 h3 => lv_dup X.1 X.2.1 hd (by rw [vph_cat]; exact hc) (k p l e s m args below meth c D yc hz Qs X E H locs cells slots lsA hL hH hS h1 h2 h3)
theorem P_pop {M : vR} {pc : Nat} {ls : List (Option Value)} {st : List Value} {b : Nat × Nat} {μ : vM} {Q : vO → vM → Prop} {v : Value} (hd : decode (vCC M) pc = .ok (.pop, 1)) (hc : v.category = 1) (k : vP M (pc + 1) ls (st) b μ Q) : vP M pc ls (v :: st) b μ Q :=
  fun p l e s m args below meth c D yc hz Qs X E H locs cells slots lsA hL hH hS h1 h2 h3 => lv_pop X.1 X.2.1 hd (by rw [vph_cat]; exact hc) (k p l e s m args below meth c D yc hz Qs X E H locs cells slots lsA hL hH hS h1 h2 h3)
theorem P_dup2 {M : vR} {pc : Nat} {ls : List (Option Value)} {st : List Value} {b : Nat × Nat} {μ : vM} {Q : vO → vM → Prop} {u v : Value} (hd : decode (vCC M) pc = .ok (.dup2, 1)) (hc : u.category = 1) (hc2 : v.category = 1) (k : vP M (pc + 1) ls (u :: v :: u :: v :: st) b μ Q) : vP M pc ls (u :: v :: st) b μ Q :=
  fun p l e s m args below meth c D yc hz Qs X E H locs cells slots lsA hL hH hS h1 h2 h3 => lv_dup2_11 X.1 X.2.1 hd (by rw [vph_cat]; exact hc) (by rw [vph_cat]; exact hc2) (k p l e s m args below meth c D yc hz Qs X E H locs cells slots lsA hL hH hS h1 h2 h3)
theorem P_goto {M : vR} {pc : Nat} {ls : List (Option Value)} {st : List Value} {b : Nat × Nat} {μ : vM} {Q : vO → vM → Prop} {off : Int} {tgt : Nat} (hd : decode (vCC M) pc = .ok (.goto off, 3)) (ht : (pc : Int) + off = (tgt : Int)) (k : vP M tgt ls (st) b μ Q) : vP M pc ls (st) b μ Q :=
  fun p l e s m args below meth c D yc hz Qs X E H locs cells slots lsA hL hH hS h1 h2 h3 => lv_goto X.1 X.2.1 hd ht (k p l e s m args below meth c D yc hz Qs X E H locs cells slots lsA hL hH hS h1 h2 h3)
theorem P_if_eq {M : vR} {pc : Nat} {ls : List (Option Value)} {st : List Value} {b : Nat × Nat} {μ : vM} {Q : vO → vM → Prop} {off : Int} {tgt : Nat} {x : Int32} (hd : decode (vCC M) pc = .ok (.ifCond .eq off, 3)) (ht : (pc : Int) + off = (tgt : Int)) (k : x = 0 → vP M tgt ls st b μ Q) (k9 : ¬ x = 0 → vP M (pc + 3) ls st b μ Q) : vP M pc ls (.int x :: st) b μ Q :=
  fun p l e s m args below meth c D yc hz Qs X E H locs cells slots lsA hL hH hS h1 h2 h3 => lv_if_eq X.1 X.2.1 hd ht (fun q => k q p l e s m args below meth c D yc hz Qs X E H locs cells slots lsA hL hH hS h1 h2 h3) (fun q => k9 q p l e s m args below meth c D yc hz Qs X E H locs cells slots lsA hL hH hS h1 h2 h3)
theorem P_icmp_eq {M : vR} {pc : Nat} {ls : List (Option Value)} {st : List Value} {b : Nat × Nat} {μ : vM} {Q : vO → vM → Prop} {off : Int} {tgt : Nat} {x y : Int32} (hd : decode (vCC M) pc = .ok (.if_icmp .eq off, 3)) (ht : (pc : Int) + off = (tgt : Int)) (k : x = y → vP M tgt ls st b μ Q) (k9 : ¬ x = y → vP M (pc + 3) ls st b μ Q) : vP M pc ls (.int y :: .int x :: st) b μ Q :=
  fun p l e s m args below meth c D yc hz Qs X E H locs cells slots lsA hL hH hS h1 h2 h3 => lv_icmp_eq X.1 X.2.1 hd ht (fun q => k q p l e s m args below meth c D yc hz Qs X E H locs cells slots lsA hL hH hS h1 h2 h3) (fun q => k9 q p l e s m args below meth c D yc hz Qs X E H locs cells slots lsA hL hH hS h1 h2 h3)
theorem P_if_ne {M : vR} {pc : Nat} {ls : List (Option Value)} {st : List Value} {b : Nat × Nat} {μ : vM} {Q : vO → vM → Prop} {off : Int} {tgt : Nat} {x : Int32} (hd : decode (vCC M) pc = .ok (.ifCond .ne off, 3)) (ht : (pc : Int) + off = (tgt : Int)) (k : ¬ x = 0 → vP M tgt ls st b μ Q) (k9 : x = 0 → vP M (pc + 3) ls st b μ Q) : vP M pc ls (.int x :: st) b μ Q :=
  fun p l e s m args below meth c D yc hz Qs X E H locs cells slots lsA hL hH hS h1 h2 h3 => lv_if_ne X.1 X.2.1 hd ht (fun q => k q p l e s m args below meth c D yc hz Qs X E H locs cells slots lsA hL hH hS h1 h2 h3) (fun q => k9 q p l e s m args below meth c D yc hz Qs X E H locs cells slots lsA hL hH hS h1 h2 h3)
theorem P_icmp_ne {M : vR} {pc : Nat} {ls : List (Option Value)} {st : List Value} {b : Nat × Nat} {μ : vM} {Q : vO → vM → Prop} {off : Int} {tgt : Nat} {x y : Int32} (hd : decode (vCC M) pc = .ok (.if_icmp .ne off, 3)) (ht : (pc : Int) + off = (tgt : Int)) (k : ¬ x = y → vP M tgt ls st b μ Q) (k9 : x = y → vP M (pc + 3) ls st b μ Q) : vP M pc ls (.int y :: .int x :: st) b μ Q :=
  fun p l e s m args below meth c D yc hz Qs X E H locs cells slots lsA hL hH hS h1 h2 h3 => lv_icmp_ne X.1 X.2.1 hd ht (fun q => k q p l e s m args below meth c D yc hz Qs X E H locs cells slots lsA hL hH hS h1 h2 h3) (fun q => k9 q p l e s m args below meth c D yc hz Qs X E H locs cells slots lsA hL hH hS h1 h2 h3)
theorem P_if_lt {M : vR} {pc : Nat} {ls : List (Option Value)} {st : List Value} {b : Nat × Nat} {μ : vM} {Q : vO → vM → Prop} {off : Int} {tgt : Nat} {x : Int32} (hd : decode (vCC M) pc = .ok (.ifCond .lt off, 3)) (ht : (pc : Int) + off = (tgt : Int)) (k : x < 0 → vP M tgt ls st b μ Q) (k9 : ¬ x < 0 → vP M (pc + 3) ls st b μ Q) : vP M pc ls (.int x :: st) b μ Q :=
  fun p l e s m args below meth c D yc hz Qs X E H locs cells slots lsA hL hH hS h1 h2 h3 => lv_if_lt X.1 X.2.1 hd ht (fun q => k q p l e s m args below meth c D yc hz Qs X E H locs cells slots lsA hL hH hS h1 h2 h3) (fun q => k9 q p l e s m args below meth c D yc hz Qs X E H locs cells slots lsA hL hH hS h1 h2 h3)
theorem P_icmp_lt {M : vR} {pc : Nat} {ls : List (Option Value)} {st : List Value} {b : Nat × Nat} {μ : vM} {Q : vO → vM → Prop} {off : Int} {tgt : Nat} {x y : Int32} (hd : decode (vCC M) pc = .ok (.if_icmp .lt off, 3)) (ht : (pc : Int) + off = (tgt : Int)) (k : x < y → vP M tgt ls st b μ Q) (k9 : ¬ x < y → vP M (pc + 3) ls st b μ Q) : vP M pc ls (.int y :: .int x :: st) b μ Q :=
  fun p l e s m args below meth c D yc hz Qs X E H locs cells slots lsA hL hH hS h1 h2 h3 => lv_icmp_lt X.1 X.2.1 hd ht (fun q => k q p l e s m args below meth c D yc hz Qs X E H locs cells slots lsA hL hH hS h1 h2 h3) (fun q => k9 q p l e s m args below meth c D yc hz Qs X E H locs cells slots lsA hL hH hS h1 h2 h3)
theorem P_if_ge {M : vR} {pc : Nat} {ls : List (Option Value)} {st : List Value} {b : Nat × Nat} {μ : vM} {Q : vO → vM → Prop} {off : Int} {tgt : Nat} {x : Int32} (hd : decode (vCC M) pc = .ok (.ifCond .ge off, 3)) (ht : (pc : Int) + off = (tgt : Int)) (k : 0 ≤ x → vP M tgt ls st b μ Q) (k9 : ¬ 0 ≤ x → vP M (pc + 3) ls st b μ Q) : vP M pc ls (.int x :: st) b μ Q :=
  fun p l e s m args below meth c D yc hz Qs X E H locs cells slots lsA hL hH hS h1 h2 h3 => lv_if_ge X.1 X.2.1 hd ht (fun q => k q p l e s m args below meth c D yc hz Qs X E H locs cells slots lsA hL hH hS h1 h2 h3) (fun q => k9 q p l e s m args below meth c D yc hz Qs X E H locs cells slots lsA hL hH hS h1 h2 h3)
theorem P_icmp_ge {M : vR} {pc : Nat} {ls : List (Option Value)} {st : List Value} {b : Nat × Nat} {μ : vM} {Q : vO → vM → Prop} {off : Int} {tgt : Nat} {x y : Int32} (hd : decode (vCC M) pc = .ok (.if_icmp .ge off, 3)) (ht : (pc : Int) + off = (tgt : Int)) (k : y ≤ x → vP M tgt ls st b μ Q) (k9 : ¬ y ≤ x → vP M (pc + 3) ls st b μ Q) : vP M pc ls (.int y :: .int x :: st) b μ Q :=
  fun p l e s m args below meth c D yc hz Qs X E H locs cells slots lsA hL hH hS h1 h2 h3 => lv_icmp_ge X.1 X.2.1 hd ht (fun q => k q p l e s m args below meth c D yc hz Qs X E H locs cells slots lsA hL hH hS h1 h2 h3) (fun q => k9 q p l e s m args below meth c D yc hz Qs X E H locs cells slots lsA hL hH hS h1 h2 h3)
theorem P_if_gt {M : vR} {pc : Nat} {ls : List (Option Value)} {st : List Value} {b : Nat × Nat} {μ : vM} {Q : vO → vM → Prop} {off : Int} {tgt : Nat} {x : Int32} (hd : decode (vCC M) pc = .ok (.ifCond .gt off, 3)) (ht : (pc : Int) + off = (tgt : Int)) (k : 0 < x → vP M tgt ls st b μ Q) (k9 : ¬ 0 < x → vP M (pc + 3) ls st b μ Q) : vP M pc ls (.int x :: st) b μ Q :=
  fun p l e s m args below meth c D yc hz Qs X E H locs cells slots lsA hL hH hS h1 h2 h3 => lv_if_gt X.1 X.2.1 hd ht (fun q => k q p l e s m args below meth c D yc hz Qs X E H locs cells slots lsA hL hH hS h1 h2 h3) (fun q => k9 q p l e s m args below meth c D yc hz Qs X E H locs cells slots lsA hL hH hS h1 h2 h3)
theorem P_icmp_gt {M : vR} {pc : Nat} {ls : List (Option Value)} {st : List Value} {b : Nat × Nat} {μ : vM} {Q : vO → vM → Prop} {off : Int} {tgt : Nat} {x y : Int32} (hd : decode (vCC M) pc = .ok (.if_icmp .gt off, 3)) (ht : (pc : Int) + off = (tgt : Int)) (k : y < x → vP M tgt ls st b μ Q) (k9 : ¬ y < x → vP M (pc + 3) ls st b μ Q) : vP M pc ls (.int y :: .int x :: st) b μ Q :=
  fun p l e s m args below meth c D yc hz Qs X E H locs cells slots lsA hL hH hS h1 h2 h3 => lv_icmp_gt X.1 X.2.1 hd ht (fun q => k q p l e s m args below meth c D yc hz Qs X E H locs cells slots lsA hL hH hS h1 h2 h3) (fun q => k9 q p l e s m args below meth c D yc hz Qs X E H locs cells slots lsA hL hH hS h1 h2 h3)
theorem P_if_le {M : vR} {pc : Nat} {ls : List (Option Value)} {st : List Value} {b : Nat × Nat} {μ : vM} {Q : vO → vM → Prop} {off : Int} {tgt : Nat} {x : Int32} (hd : decode (vCC M) pc = .ok (.ifCond .le off, 3)) (ht : (pc : Int) + off = (tgt : Int)) (k : x ≤ 0 → vP M tgt ls st b μ Q) (k9 : ¬ x ≤ 0 → vP M (pc + 3) ls st b μ Q) : vP M pc ls (.int x :: st) b μ Q :=
  fun p l e s m args below meth c D yc hz Qs X E H locs cells slots lsA hL hH hS h1 h2 h3 => lv_if_le X.1 X.2.1 hd ht (fun q => k q p l e s m args below meth c D yc hz Qs X E H locs cells slots lsA hL hH hS h1 h2 h3) (fun q => k9 q p l e s m args below meth c D yc hz Qs X E H locs cells slots lsA hL hH hS h1 h2 h3)
theorem P_icmp_le {M : vR} {pc : Nat} {ls : List (Option Value)} {st : List Value} {b : Nat × Nat} {μ : vM} {Q : vO → vM → Prop} {off : Int} {tgt : Nat} {x y : Int32} (hd : decode (vCC M) pc = .ok (.if_icmp .le off, 3)) (ht : (pc : Int) + off = (tgt : Int)) (k : x ≤ y → vP M tgt ls st b μ Q) (k9 : ¬ x ≤ y → vP M (pc + 3) ls st b μ Q) : vP M pc ls (.int y :: .int x :: st) b μ Q :=
  fun p l e s m args below meth c D yc hz Qs X E H locs cells slots lsA hL hH hS h1 h2 h3 => lv_icmp_le X.1 X.2.1 hd ht (fun q => k q p l e s m args below meth c D yc hz Qs X E H locs cells slots lsA hL hH hS h1 h2 h3) (fun q => k9 q p l e s m args below meth c D yc hz Qs X E H locs cells slots lsA hL hH hS h1 h2 h3)
theorem P_lsw {M : vR} {pc : Nat} {ls : List (Option Value)} {st : List Value} {b : Nat × Nat} {μ : vM} {Q : vO → vM → Prop} {dflt : Int} {ps : Array (Int × Int)} {len : Nat} {x : Int32} {off : Int} {tgt : Nat} (hd : decode (vCC M) pc = .ok (.lookupswitch dflt ps, len)) (hp : (ps.toList.zip (ps.toList.drop 1)).all (fun (a, next) => a.1 < next.1) = true) (ho : Op.lookupswitch.offset ps.toList dflt x.toInt = off) (ht : (pc : Int) + off = (tgt : Int)) (k : vP M tgt ls st b μ Q) : vP M pc ls (.int x :: st) b μ Q :=
  fun p l e s m args below meth c D yc hz Qs X E H locs cells slots lsA hL hH hS h1 h2 h3 => lv_lookup X.1 X.2.1 hd hp ho ht (k p l e s m args below meth c D yc hz Qs X E H locs cells slots lsA hL hH hS h1 h2 h3)
theorem P_tswOut {M : vR} {pc : Nat} {ls : List (Option Value)} {st : List Value} {b : Nat × Nat} {μ : vM} {Q : vO → vM → Prop} {dflt lo hi : Int} {offs : Array Int} {len : Nat} {x : Int32} {tgt : Nat} (hd : decode (vCC M) pc = .ok (.tableswitch dflt lo hi offs, len)) (h : x.toInt < lo ∨ hi < x.toInt) (ht : (pc : Int) + dflt = (tgt : Int)) (k : vP M tgt ls st b μ Q) : vP M pc ls (.int x :: st) b μ Q :=
  fun p l e s m args below meth c D yc hz Qs X E H locs cells slots lsA hL hH hS h1 h2 h3 => lv_tableOut X.1 X.2.1 hd h ht (k p l e s m args below meth c D yc hz Qs X E H locs cells slots lsA hL hH hS h1 h2 h3)
theorem P_tswIn {M : vR} {pc : Nat} {ls : List (Option Value)} {st : List Value} {b : Nat × Nat} {μ : vM} {Q : vO → vM → Prop} {dflt lo hi : Int} {offs : Array Int} {len : Nat} {x : Int32} {off : Int} {tgt : Nat} (hd : decode (vCC M) pc = .ok (.tableswitch dflt lo hi offs, len)) (g1 : ¬ x.toInt < lo) (g2 : ¬ hi < x.toInt) (ho : offs[(x.toInt - lo).toNat]? = some off) (ht : (pc : Int) + off = (tgt : Int)) (k : vP M tgt ls st b μ Q) : vP M pc ls (.int x :: st) b μ Q :=
  fun p l e s m args below meth c D yc hz Qs X E H locs cells slots lsA hL hH hS h1 h2 h3 => lv_tableIn X.1 X.2.1 hd g1 g2 ho ht (k p l e s m args below meth c D yc hz Qs X E H locs cells slots lsA hL hH hS h1 h2 h3)
-- the memory
theorem P_geti {M : vR} {pc : Nat} {ls : List (Option Value)} {st : List Value} {b : Nat × Nat} {σ : vS} {v : vV} {Q : vO → vM → Prop} {idx ci k ln n : Nat} {q : vw_C} (hd : decode (vCC M) pc = .ok (.getfield idx, 3)) (hq : vCk ci q) (hw : Cond.fieldLink (vOwn M) idx q.1 (q.2.1 k).2.1 (q.2.1 k).2.2.1 ∈ aw) (hi : vIs ci k = true) (hk : k < vNs ci) (hn : vK σ n ci ln) (K : vP M (pc + 3) ls (.int (v n k) :: st) b (σ, v) Q) : vP M pc ls (.ref n :: st) b (σ, v) Q := by
  intro p l e s m args below meth c D yc hz Qs X E H locs cells slots lsA hL hH hS h1 h2 h3
  obtain ⟨c1, c2, c3, c4, c5, c6, -⟩ := hq
  rw [List.map_cons, vph_ref hn.1.2]
  exact va_get (D := D) (ci := ci) X.1 X.2.1 X.2.2.2.2.1 c4 X.2.2.2.1 X.2.2.2.2.2.1 hH n ((vW_get hn.1.1).trans (by rw [vE_o hn c3])) c1 k (by rw [c2]; exact hk) (X.2.2.2.2.1 _ hw) (fun x hx => by rw [c5 k (by rw [c2]; exact hk)] at hx; exact hx) (vFs_i (μ := (σ, v)) hk hi) hd (K p l e s m args below meth c D yc hz Qs X E H locs cells slots lsA hL hH hS h1 h2 h3)
theorem P_getr {M : vR} {pc : Nat} {ls : List (Option Value)} {st : List Value} {b : Nat × Nat} {μ : vM} {Q : vO → vM → Prop} {idx ci k ln n t : Nat} {q : vw_C} (hd : decode (vCC M) pc = .ok (.getfield idx, 3)) (hq : vCk ci q) (hw : Cond.fieldLink (vOwn M) idx q.1 (q.2.1 k).2.1 (q.2.1 k).2.2.1 ∈ aw) (hi : vIs ci k = false) (hk : k < vNs ci) (hn : vK μ.1 n ci ln) (ht : μ.1.2.2.1 n k = some t) (ht2 : t < 1000000) (K : vP M (pc + 3) ls (.ref t :: st) b μ Q) : vP M pc ls (.ref n :: st) b μ Q := by
  intro p l e s m args below meth c D yc hz Qs X E H locs cells slots lsA hL hH hS h1 h2 h3
  obtain ⟨c1, c2, c3, c4, c5, c6, -⟩ := hq
  rw [List.map_cons, vph_ref hn.1.2]
  have K9 := K p l e s m args below meth c D yc hz Qs X E H locs cells slots lsA hL hH hS h1 h2 h3
  rw [List.map_cons, vph_ref ht2] at K9
  exact va_get (D := D) (ci := ci) X.1 X.2.1 X.2.2.2.2.1 c4 X.2.2.2.1 X.2.2.2.2.2.1 hH n ((vW_get hn.1.1).trans (by rw [vE_o hn c3])) c1 k (by rw [c2]; exact hk) (X.2.2.2.2.1 _ hw) (fun x hx => by rw [c5 k (by rw [c2]; exact hk)] at hx; exact hx) ((vFs_r hk hi).trans (by rw [vRf, ht]; rfl)) hd K9
theorem vW_put {yc : Nat → ClassId} {hz : Nat} {σ : vS} {v : vV} {n ci ln k : Nat} {x : Int32} (hn : vK σ n ci ln) (hc : ci < 8) (hi : vIs ci k = true) : (vW yc hz (σ, v)).set n (hz + n, .inr (ci, (vFs hz (σ, v) ci n).set k (.int x))) = vW yc hz (σ, vU v n k x) :=
  vW_set rfl (fun _ => by rw [vE_o (μ := (σ, vU v n k x)) hn hc, vFs_set hi]) (fun j hj => vE_v (vU_ne hj))
theorem vW_puti {yc : Nat → ClassId} {hz : Nat} {σ : vS} {v : vV} {n ln k : Nat} {x : Int32} (hn : vK σ n 8 ln) : (vW yc hz (σ, v)).set n (hz + n, .inl (yc 0, (ln, .inl (upd (v n) k x)))) = vW yc hz (σ, vU v n k x) :=
  vW_set rfl (fun _ => by rw [vE_i (μ := (σ, vU v n k x)) hn]; show Sum.inl (yc 0, ln, Sum.inl (vU v n k x n)) = _; rw [vU_at]) (fun j hj => vE_v (vU_ne hj))
theorem vW_putz {yc : Nat → ClassId} {hz : Nat} {σ : vS} {v : vV} {n ln k : Nat} {x : Int32} (hn : vK σ n 9 ln) : (vW yc hz (σ, v)).set n (hz + n, .inl (yc 1, (ln, .inl (upd (v n) k x)))) = vW yc hz (σ, vU v n k x) :=
  vW_set rfl (fun _ => by rw [vE_z (μ := (σ, vU v n k x)) hn]; show Sum.inl (yc 1, ln, Sum.inl (vU v n k x n)) = _; rw [vU_at]) (fun j hj => vE_v (vU_ne hj))
theorem vW_putA {yc : Nat → ClassId} {hz : Nat} {σ : vS} {v : vV} {n ln : Nat} {f : Nat → Int32} (hn : vK σ n 8 ln) : (vW yc hz (σ, v)).set n (hz + n, .inl (yc 0, (ln, .inl f))) = vW yc hz (σ, vUA v n f) :=
  vW_set rfl (fun _ => by rw [vE_i (μ := (σ, vUA v n f)) hn]; show Sum.inl (yc 0, ln, Sum.inl (vUA v n f n)) = _; rw [vUA_at]) (fun j hj => vE_v (vUA_ne hj))
theorem vIn {i : Int32} {j ln : Nat} (hi : i = nI j) (hj : j < ln) (hl : ln < 2147483648) : vp_in i ln ∧ i.toNatClampNeg = j := by
  subst hi
  exact ⟨nI_in hj hl, nI_clamp (Nat.lt_trans hj hl)⟩
theorem P_iald {M : vR} {pc : Nat} {ls : List (Option Value)} {st : List Value} {b : Nat × Nat} {σ : vS} {v : vV} {Q : vO → vM → Prop} {i : Int32} {ln n : Nat} (j : Nat) (hd : decode (vCC M) pc = .ok (.iaload, 1)) (hn : vK σ n 8 ln) (hi : i = nI j) (hj : j < ln) (hl : ln < 2147483648) (K : vP M (pc + 1) ls (.int (v n j) :: st) b (σ, v) Q) : vP M pc ls (.int i :: .ref n :: st) b (σ, v) Q := by
  intro p l e s m args below meth c D yc hz Qs X E H locs cells slots lsA hL hH hS h1 h2 h3
  rw [List.map_cons, List.map_cons, vph_ref hn.1.2]
  obtain ⟨g1, g2⟩ := vIn hi hj hl
  refine va_iald X.1 X.2.1 X.2.2.2.2.2.1 hH n 0 ((vW_get hn.1.1).trans (by rw [vE_i hn])) rfl g1 hd ?_
  rw [g2]
  exact K p l e s m args below meth c D yc hz Qs X E H locs cells slots lsA hL hH hS h1 h2 h3
theorem P_zald {M : vR} {pc : Nat} {ls : List (Option Value)} {st : List Value} {b : Nat × Nat} {σ : vS} {v : vV} {Q : vO → vM → Prop} {i : Int32} {ln n : Nat} (j : Nat) (hd : decode (vCC M) pc = .ok (.baload, 1)) (hn : vK σ n 9 ln) (hi : i = nI j) (hj : j < ln) (hl : ln < 2147483648) (K : vP M (pc + 1) ls (.int (v n j) :: st) b (σ, v) Q) : vP M pc ls (.int i :: .ref n :: st) b (σ, v) Q := by
  intro p l e s m args below meth c D yc hz Qs X E H locs cells slots lsA hL hH hS h1 h2 h3
  rw [List.map_cons, List.map_cons, vph_ref hn.1.2]
  obtain ⟨g1, g2⟩ := vIn hi hj hl
  refine va_zald X.1 X.2.1 X.2.2.2.2.2.1 hH n 1 ((vW_get hn.1.1).trans (by rw [vE_z hn])) rfl g1 hd ?_
  rw [g2]
  exact K p l e s m args below meth c D yc hz Qs X E H locs cells slots lsA hL hH hS h1 h2 h3
theorem P_lald {M : vR} {pc : Nat} {ls : List (Option Value)} {st : List Value} {b : Nat × Nat} {σ : vS} {v : vV} {Q : vO → vM → Prop} {i : Int32} {ln n : Nat} (j : Nat) (hd : decode (vCC M) pc = .ok (.laload, 1)) (hn : vK σ n 12 ln) (hi : i = nI j) (hj : j < ln) (hl : ln < 2147483648) (K : vP M (pc + 1) ls (.long (v n j).toInt64 :: st) b (σ, v) Q) : vP M pc ls (.int i :: .ref n :: st) b (σ, v) Q := by
  intro p l e s m args below meth c D yc hz Qs X E H locs cells slots lsA hL hH hS h1 h2 h3
  rw [List.map_cons, List.map_cons, vph_ref hn.1.2]
  obtain ⟨g1, g2⟩ := vIn hi hj hl
  refine va_lald X.1 X.2.1 X.2.2.2.2.2.1 hH n 4 ((vW_get hn.1.1).trans (by rw [vE_l hn])) rfl g1 hd ?_
  rw [g2]
  exact K p l e s m args below meth c D yc hz Qs X E H locs cells slots lsA hL hH hS h1 h2 h3
theorem P_alen {M : vR} {pc : Nat} {ls : List (Option Value)} {st : List Value} {b : Nat × Nat} {σ : vS} {v : vV} {Q : vO → vM → Prop} {ln n : Nat} (hd : decode (vCC M) pc = .ok (.arraylength, 1)) (hn : vK σ n 8 ln) (K : vP M (pc + 1) ls (.int (nI ln) :: st) b (σ, v) Q) : vP M pc ls (.ref n :: st) b (σ, v) Q := by
  intro p l e s m args below meth c D yc hz Qs X E H locs cells slots lsA hL hH hS h1 h2 h3
  rw [List.map_cons, vph_ref hn.1.2]
  exact va_alen (x := (ln, .inl (v n))) X.1 X.2.1 X.2.2.2.2.2.1 hH n 0 ((vW_get hn.1.1).trans (by rw [vE_i hn])) rfl rfl hd (K p l e s m args below meth c D yc hz Qs X E H locs cells slots lsA hL hH hS h1 h2 h3)
theorem P_aaldC {M : vR} {pc : Nat} {ls : List (Option Value)} {st : List Value} {b : Nat × Nat} {μ : vM} {Q : vO → vM → Prop} {i : Int32} {ln n t : Nat} (j : Nat) (hd : decode (vCC M) pc = .ok (.aaload, 1)) (hn : vK μ.1 n 10 ln) (hi : i = nI j) (hj : j < ln) (hl : ln < 2147483648) (ht : μ.1.2.2.1 n j = some t) (ht2 : t < 1000000) (K : vP M (pc + 1) ls (.ref t :: st) b μ Q) : vP M pc ls (.int i :: .ref n :: st) b μ Q := by
  intro p l e s m args below meth c D yc hz Qs X E H locs cells slots lsA hL hH hS h1 h2 h3
  rw [List.map_cons, List.map_cons, vph_ref hn.1.2]
  obtain ⟨g1, g2⟩ := vIn hi hj hl
  have K9 := K p l e s m args below meth c D yc hz Qs X E H locs cells slots lsA hL hH hS h1 h2 h3
  rw [List.map_cons, vph_ref ht2] at K9
  refine va_aldq X.1 X.2.1 X.2.2.2.2.2.1 hH n 2 ((vW_get hn.1.1).trans (by rw [vE_c hn])) rfl g1 hd ?_
  rw [g2, ht]
  exact K9
theorem P_aaldM {M : vR} {pc : Nat} {ls : List (Option Value)} {st : List Value} {b : Nat × Nat} {μ : vM} {Q : vO → vM → Prop} {i : Int32} {ln n t : Nat} (j : Nat) (hd : decode (vCC M) pc = .ok (.aaload, 1)) (hn : vK μ.1 n 11 ln) (hi : i = nI j) (hj : j < ln) (hl : ln < 2147483648) (ht : μ.1.2.2.1 n j = some t) (ht2 : t < 1000000) (K : vP M (pc + 1) ls (.ref t :: st) b μ Q) : vP M pc ls (.int i :: .ref n :: st) b μ Q := by
  intro p l e s m args below meth c D yc hz Qs X E H locs cells slots lsA hL hH hS h1 h2 h3
  rw [List.map_cons, List.map_cons, vph_ref hn.1.2]
  obtain ⟨g1, g2⟩ := vIn hi hj hl
  have K9 := K p l e s m args below meth c D yc hz Qs X E H locs cells slots lsA hL hH hS h1 h2 h3
  rw [List.map_cons, vph_ref ht2] at K9
  refine va_aldq X.1 X.2.1 X.2.2.2.2.2.1 hH n 3 ((vW_get hn.1.1).trans (by rw [vE_m hn])) rfl g1 hd ?_
  rw [g2, ht]
  exact K9
theorem va_S_size {A : Nat → Prop} {H0 H : Heap} {locs : List Loc} (h : va_S A H0 H locs) : H0.size ≤ H.size := h.1
theorem P_puti {M : vR} {pc : Nat} {ls : List (Option Value)} {st : List Value} {b : Nat × Nat} {σ : vS} {v : vV} {Q : vO → vM → Prop} {idx ci k ln n : Nat} {x : Int32} {q : vw_C} (hd : decode (vCC M) pc = .ok (.putfield idx, 3)) (hq : vCk ci q) (hw : Cond.fieldLink (vOwn M) idx q.1 (q.2.1 k).2.1 (q.2.1 k).2.2.1 ∈ aw) (hi : vIs ci k = true) (hk : k < vNs ci) (hf : (q.2.1 k).2.2.2 = false) (hn : vK σ n ci ln) (K : vP M (pc + 3) ls st b (σ, vU v n k x) Q) : vP M pc ls (.int x :: .ref n :: st) b (σ, v) Q := by
  intro p l e s m args below meth c D yc hz Qs X E H locs cells slots lsA hL hH hS h1 h2 h3
  obtain ⟨c1, c2, c3, c4, c5, c6, ty, c7, c8⟩ := hq
  rw [List.map_cons, List.map_cons, vph_ref hn.1.2]
  have hk2 : k < q.2.2 := by rw [c2]; exact hk
  exact va_put (v := .int x) (D := D) (ci := ci) X.1 X.2.1 X.2.2.2.2.1 c4 ty c7 c6 X.2.2.2.1 X.2.2.2.2.2.1 hH vW_D hS n ((vW_get hn.1.1).trans (by rw [vE_o hn c3])) c1 k hk2 (X.2.2.2.2.1 _ hw) (fun x hx => by rw [c5 k hk2] at hx; exact hx) hf (c7 k hk2) (by rw [c8 k hk2 hi]; rfl) (by rw [c8 k hk2 hi]; rfl) (by rw [vFs_len]; exact hk) hd (fun H1 locs1 hP1 _ hS1 => K p l e s m args below meth c D yc hz Qs X E H1 locs1 cells slots lsA hL (by rw [vW_put (yc := yc) (hz := hz) (v := v) (x := x) hn c3 hi] at hP1; exact hP1) hS1 h1 h2 h3)
theorem P_iast {M : vR} {pc : Nat} {ls : List (Option Value)} {st : List Value} {b : Nat × Nat} {σ : vS} {v : vV} {Q : vO → vM → Prop} {i x : Int32} {ln n : Nat} (j : Nat) (hd : decode (vCC M) pc = .ok (.iastore, 1)) (hn : vK σ n 8 ln) (hi : i = nI j) (hj : j < ln) (hl : ln < 2147483648) (K : vP M (pc + 1) ls st b (σ, vU v n j x) Q) : vP M pc ls (.int x :: .int i :: .ref n :: st) b (σ, v) Q := by
  intro p l e s m args below meth c D yc hz Qs X E H locs cells slots lsA hL hH hS h1 h2 h3
  rw [List.map_cons, List.map_cons, List.map_cons, vph_ref hn.1.2]
  obtain ⟨g1, g2⟩ := vIn hi hj hl
  exact va_iast X.1 X.2.1 X.2.2.2.2.2.1 hH vW_D hS n 0 ((vW_get hn.1.1).trans (by rw [vE_i hn])) rfl g1 hd (fun H1 locs1 hP1 _ hS1 => K p l e s m args below meth c D yc hz Qs X E H1 locs1 cells slots lsA hL (by rw [g2, vW_puti hn] at hP1; exact hP1) hS1 h1 h2 h3)
theorem P_zast {M : vR} {pc : Nat} {ls : List (Option Value)} {st : List Value} {b : Nat × Nat} {σ : vS} {v : vV} {Q : vO → vM → Prop} {i x : Int32} {ln n : Nat} (j : Nat) (hd : decode (vCC M) pc = .ok (.bastore, 1)) (hn : vK σ n 9 ln) (hi : i = nI j) (hj : j < ln) (hl : ln < 2147483648) (hx : vp_nar .boolean x = x) (K : vP M (pc + 1) ls st b (σ, vU v n j x) Q) : vP M pc ls (.int x :: .int i :: .ref n :: st) b (σ, v) Q := by
  intro p l e s m args below meth c D yc hz Qs X E H locs cells slots lsA hL hH hS h1 h2 h3
  rw [List.map_cons, List.map_cons, List.map_cons, vph_ref hn.1.2]
  obtain ⟨g1, g2⟩ := vIn hi hj hl
  exact va_zast X.1 X.2.1 X.2.2.2.2.2.1 hH vW_D hS n 1 ((vW_get hn.1.1).trans (by rw [vE_z hn])) rfl g1 hd (fun H1 locs1 hP1 _ hS1 => K p l e s m args below meth c D yc hz Qs X E H1 locs1 cells slots lsA hL (by rw [g2, hx, vW_putz hn] at hP1; exact hP1) hS1 h1 h2 h3)
-- ends
theorem P_iret {M : vR} {pc : Nat} {ls : List (Option Value)} {b : Nat × Nat} {μ : vM} {Q : vO → vM → Prop} {x : Int32} (hd : decode (vCC M) pc = .ok (.ireturn, 1)) (hr : vRt M = some .int) (hq : Q (.inl (some (.int x))) μ) : vP M pc ls [.int x] b μ Q :=
  fun p l e s m args below meth c D yc hz Qs X E H locs cells slots lsA hL hH hS h1 h2 h3 => E.1 (some (.int x)) pc lsA μ H locs cells slots ⟨hd, Or.inl hr⟩ hq hH hS (by omega) (by omega)
theorem P_zret {M : vR} {pc : Nat} {ls : List (Option Value)} {b : Nat × Nat} {μ : vM} {Q : vO → vM → Prop} {x : Int32} (hd : decode (vCC M) pc = .ok (.ireturn, 1)) (hr : vRt M = some .boolean) (hx : narrow .boolean (.int x) = .int x) (hq : Q (.inl (some (.int x))) μ) : vP M pc ls [.int x] b μ Q :=
  fun p l e s m args below meth c D yc hz Qs X E H locs cells slots lsA hL hH hS h1 h2 h3 => E.1 (some (.int x)) pc lsA μ H locs cells slots ⟨hd, Or.inr ⟨hr, hx⟩⟩ hq hH hS (by omega) (by omega)
theorem P_vret {M : vR} {pc : Nat} {ls : List (Option Value)} {b : Nat × Nat} {μ : vM} {Q : vO → vM → Prop} (hd : decode (vCC M) pc = .ok (.return_, 1)) (hr : vRt M = none) (hq : Q (.inl none) μ) : vP M pc ls [] b μ Q :=
  fun p l e s m args below meth c D yc hz Qs X E H locs cells slots lsA hL hH hS h1 h2 h3 => E.1 none pc lsA μ H locs cells slots ⟨hd, hr⟩ hq hH hS (by omega) (by omega)
theorem P_aret {M : vR} {pc : Nat} {ls : List (Option Value)} {b : Nat × Nat} {μ : vM} {Q : vO → vM → Prop} {n : Nat} (hd : decode (vCC M) pc = .ok (.areturn, 1)) (hr : vRt M = some (.object "ClubRolls$Club")) (hq : Q (.inl (some (.ref n))) μ) : vP M pc ls [.ref n] b μ Q :=
  fun p l e s m args below meth c D yc hz Qs X E H locs cells slots lsA hL hH hS h1 h2 h3 => E.1 (some (.ref n)) pc lsA μ H locs cells slots ⟨hd, hr⟩ hq hH hS (by omega) (by omega)
end
section

theorem aw_sub0 {y : Cond} (h : y ∈ aw) : GoodIn (y :: aw) (y :: aw) := fun w hw => ⟨hw, good_of_word ((List.mem_cons.mp hw).elim (fun g => by rw [g]; exact aw_good h) aw_good)⟩

def vN (Q : Option Value → vM → Prop) : vO → vM → Prop := fun o μ => match o with | .inl v => Q v μ | .inr _ => False
def vPc (D : va_G) (yc : Nat → ClassId) (hz : Nat) (As : List Value) (μ : vM) : Array Value → State → Prop := fun a U => a = (As.map (vph hz)).toArray ∧ vH D yc hz μ U.heap ∧ va_K D vwCl (vT yc) U ∧ hz ≤ U.heap.size ∧ vTh hz U ∧ (μ.1.2.2.2 = true → hz + μ.1.1 = U.heap.size)
/-- a method's contract: it returns, as Q says -/
def vC (z : vR) (y : MethodName) (As : List Value) (μ : vM) (Q : Option Value → vM → Prop) : Prop := ∀ (l : Launch) (D : va_G) (yc : Nat → ClassId) (hz : Nat), l.stackTraces = false →
  Met l y (Cond.code y (vCC z) (vNL z) (vRt z) :: aw) (vRm z) (vPc D yc hz As μ) (vQr D yc hz (vN Q)) (vRm z).cells (vRm z).slots (fun q => hz ≤ q)
/-- a method's contract: it returns or throws, as Q says -/
def vCX (z : vR) (y : MethodName) (As : List Value) (μ : vM) (Q : vO → vM → Prop) : Prop := ∀ (l : Launch) (D : va_G) (yc : Nat → ClassId) (hz : Nat), l.stackTraces = false →
  vx_Met l y (Cond.code y (vCC z) (vNL z) (vRt z) :: aw) (vRm z) (vPc D yc hz As μ) (vQr D yc hz Q) (vQt D yc hz Q) (vRm z).cells (vRm z).slots (fun q => hz ≤ q)
def vargs0 : List Value → List (Option Value)
  | [] => []
  | v :: t => if v.category = 2 then some v :: none :: vargs0 t else some v :: vargs0 t
def vargs (n : Nat) (As : List Value) : List (Option Value) := vargs0 As ++ List.replicate (n - (vargs0 As).length) none
theorem vargs0_mem (hz : Nat) : ∀ (As : List Value) (k i : Nat) (v : Value), (vargs0 As)[i]? = some (some v) → (k + i, vph hz v) ∈ lv_args k (As.map (vph hz)) := by
  intro As
  induction As with
  | nil => intro k i v h; simp [vargs0] at h
  | cons u t ih =>
    intro k i v h
    simp only [List.map_cons, lv_args, vph_cat]
    simp only [vargs0] at h
    by_cases hc : u.category = 2
    · simp only [hc, if_true] at h ⊢
      match i with
      | 0 => simp at h; subst h; exact List.mem_cons_self
      | 1 => simp at h
      | j + 2 =>
        simp only [List.getElem?_cons_succ] at h
        have := ih (k + 2) j v h
        rw [show k + (j + 2) = k + 2 + j by omega]
        exact List.mem_cons_of_mem _ this
    · simp only [hc, if_false] at h ⊢
      match i with
      | 0 => simp at h; subst h; exact List.mem_cons_self
      | j + 1 =>
        simp only [List.getElem?_cons_succ] at h
        have := ih (k + 1) j v h
        rw [show k + (j + 1) = k + 1 + j by omega]
        exact List.mem_cons_of_mem _ this
theorem lg_sl_len (hz : Nat) (As : List Value) : (lg_sl (As.map (vph hz))).length = (vargs0 As).length := by
  induction As with
  | nil => rfl
  | cons u t ih =>
    cases u <;> (simp only [List.map_cons, lg_sl, List.flatMap_cons, vargs0, vph, Value.category] at ih ⊢; simp at ih ⊢; omega)
theorem vargs_L {hz n : Nat} {As : List Value} (h : (vargs0 As).length ≤ n) : vL ((lg_sl (As.map (vph hz)) ++ List.replicate (n - (lg_sl (As.map (vph hz))).length) Slot.unset).toArray) n hz (vargs n As) := by
  have h9 := lv_entry (As.map (vph hz)) (n := n) (by rw [lg_sl_len]; exact h)
  refine ⟨h9.1, h9.2.1, fun i v hi => ?_⟩
  simp only [vargs] at hi
  by_cases hlt : i < (vargs0 As).length
  · rw [List.getElem?_append_left hlt] at hi
    have := vargs0_mem hz As 0 i v hi
    rw [Nat.zero_add] at this
    exact h9.2.2 _ this
  · rw [List.getElem?_append_right (by omega), List.getElem?_replicate] at hi
    split at hi <;> cases hi
theorem vPc_blind {D : va_G} {yc : Nat → ClassId} {hz : Nat} {As : List Value} {μ : vM} : FrameBlind (vPc D yc hz As μ) := by
  intro a U g mk q
  obtain ⟨q1, q2, q3, q4, q5, q6⟩ := q
  refine ⟨q1, q2, va_K.moved (u := U) (U := U.calling g mk a) (Vm.Alike.refl U.vm) q3, q4, ⟨vx_Zq.moved (u := U) (U := U.calling g mk a) (Vm.Alike.refl U.vm) q5.1, vx_Zq.moved (u := U) (U := U.calling g mk a) (Vm.Alike.refl U.vm) q5.2.1, fun x hx => ?_⟩, q6⟩
  obtain ⟨sa, h⟩ := q5.2.2 x hx
  exact ⟨sa, vk_R.same (u := U) (U := U.calling g mk a) rfl h⟩
/-- what a body's frame has at its entry -/
theorem vX_body {z : vR} {y : MethodName} {p : Program} {l : Launch} {e : Env} {s s₁ : State} {m : MethodId} {args : Array Value} {below : List Frame} {meth : Method} {c : Code} {D : va_G} {yc : Nat → ClassId} {hz : Nat} {As : List Value} {μ : vM} {y1 : Cond} (hcls : y.cls = vOwn z) (B : BodyLoose p l y (headSpec (y1 :: aw) (vRm z)) (vCC z) (vNL z) (vRt z) e s m args below meth c s₁) (hml : c.maxLocals = vNL z) (hl : l.stackTraces = false) (hv : vPc D yc hz As μ args s) : vX z p l e s m args below meth c D yc hz :=
  ⟨B.exec, B.bytes, hml, by rw [← hcls]; exact findClass_of_methodNamed B.named, fun w hw => atoms_spec (ws := y1 :: aw) B.pre w (List.mem_cons_of_mem _ hw), hv.2.2.1, hv.2.2.2.1, hl, B.returns, B.notSynchronized, hv.2.2.2.2.1⟩
theorem vEnd_ret {z : vR} {p : Program} {l : Launch} {e : Env} {s : State} {m : MethodId} {args : Array Value} {below : List Frame} {meth : Method} {c : Code} {D : va_G} {yc : Nat → ClassId} {hz : Nat} {Q : vO → vM → Prop} (X : vX z p l e s m args below meth c D yc hz) (o : Option Value) (pc : Nat) (lsA : Array Slot) (μ : vM) (H : Heap) (locs : List Loc) (cells slots : Nat) (ho : match o with | none => decode (vCC z) pc = .ok (.return_, 1) ∧ vRt z = none | some (.int v) => decode (vCC z) pc = .ok (.ireturn, 1) ∧ (vRt z = some .int ∨ vRt z = some .boolean ∧ narrow .boolean (.int v) = .int v) | some (.ref _) => decode (vCC z) pc = .ok (.areturn, 1) ∧ vRt z = some (.object "ClubRolls$Club") | _ => False) (hq : Q (.inl o) μ) (hH : vH D yc hz μ H) (hS : va_S (fun q => hz ≤ q) s.heap H locs) (h1 : cells ≤ (vRm z).cells) (h2 : slots ≤ (vRm z).slots) :
    W p l e (vRm z) s m args below meth c H locs cells slots (MQ below (vQr D yc hz Q) args s (vRm z).cells (vRm z).slots (fun q => hz ≤ q)) (F0 m pc lsA ((o.map (vph hz)).toList)) := by
  have hqr : ∀ t : State, t.heap = H → s.WarmedH t.vm → vQr D yc hz Q args s (.returned (o.map (vph hz))) t := fun t ht hW => ⟨⟨o, μ, rfl, hq, by rw [ht]; exact hH⟩, hS.F ht⟩
  refine W.widen h1 h2 ?_
  match o, ho, hqr with
  | none, ho, hqr => exact W.vret X.1 X.2.1 (X.2.2.2.2.2.2.2.2.1.trans ho.2) hqr hS.2.2 ho.1 (hlocks := X.2.2.2.2.2.2.2.2.2.1)
  | some (.int v), ho, hqr =>
    rcases ho.2 with hr | ⟨hr, hn⟩
    · exact W.iret (v := v) X.1 X.2.1 (X.2.2.2.2.2.2.2.2.1.trans hr) hqr hS.2.2 ho.1 (hlocks := X.2.2.2.2.2.2.2.2.2.1)
    · exact W.zret (v := v) X.1 X.2.1 (X.2.2.2.2.2.2.2.2.1.trans hr) hn hqr hS.2.2 ho.1 (hlocks := X.2.2.2.2.2.2.2.2.2.1)
  | some (.ref a), ho, hqr => exact W.aret (v := vph hz (.ref a)) X.1 X.2.1 (X.2.2.2.2.2.2.2.2.1.trans ho.2) (Or.inl ⟨_, rfl⟩) (Or.inr ⟨_, rfl⟩) hqr hS.2.2 ho.1 (hlocks := X.2.2.2.2.2.2.2.2.2.1)
/-- a body that doesn't throw gives its contract -/
theorem vC_of {z : vR} {y : MethodName} {As : List Value} {μ : vM} {Q : Option Value → vM → Prop} {ls : List (Option Value)} (hy : plainName y.cls = true) (hcls : y.cls = vOwn z) (hlen : (vargs0 As).length ≤ vNL z) (hls : vargs (vNL z) As = ls) (h : vP z 0 ls [] ((vRm z).cells, (vRm z).slots) μ (vN Q)) : vC z y As μ Q := by
  intro l D yc hz hl
  refine Met.ofW (cc := vCC z) (maxL := vNL z) (ret := vRt z) hy rfl ?_
  intro p e s m args below meth c s₁ B hml hv
  have X := vX_body hcls B hml hl hv
  obtain ⟨rfl, hH, hK, hz1, hT, hal⟩ := hv
  rw [lg_entry_eq]
  subst hls
  exact h p l e s m _ below meth c D yc hz _ X ⟨vEnd_ret X, fun Ex _ _ _ _ _ μ _ _ _ _ q => absurd q id, Or.inr (fun _ _ q => q)⟩ s.heap [] 0 0 _ (vargs_L hlen) hH va_S.rf (by simp) (by simp) (fun q => hal q)
/-- a method that is called: its words in the list -/
def vY (z : vR) (y : MethodName) (np : Nat) : Prop := Cond.code y (vCC z) (vNL z) (vRt z) ∈ aw ∧ Cond.initialized y.cls ∈ aw ∧ (y.cls ≠ "java/lang/invoke/MethodHandle" ∧ y.cls ≠ "java/lang/invoke/VarHandle" ∧ (parseMethodDescriptor y.desc).map (fun d => d.parameters.length) = some np)
def vYV (y : MethodName) : Prop := Cond.instanceMethod y ∈ aw ∧ Cond.selects y.cls y y ∈ aw
theorem vTh_moved {hz : Nat} {s U : State} {H : Heap} {locs : List Loc} (hS : va_S (fun q => hz ≤ q) s.heap H locs) (hU : U.heap = H) (hW : s.WarmedH U.vm) (h : vTh hz s) : vTh hz U := by
  subst hU
  have hk : ∀ a : Nat, a < s.heap.size → ¬ hz ≤ a → U.heap[a]? = s.heap[a]? := fun a h1 h2 => hS.2.1 a h1 h2
  refine ⟨(h.1.moved hW.alike).kept hk, (h.2.1.moved hW.alike).kept hk, fun q hq => ?_⟩
  obtain ⟨sa, h9⟩ := h.2.2 q hq
  exact ⟨sa, vk_R.warm hW h9⟩
theorem vH_size {D : va_G} {yc : Nat → ClassId} {hz : Nat} {μ : vM} {H : Heap} (h : vH D yc hz μ H) (h0 : hz ≤ H.size) : hz + μ.1.1 ≤ H.size := by
  rcases Nat.eq_zero_or_pos μ.1.1 with q | q
  · omega
  · have := (h (μ.1.1 - 1) _ (vW_get (by omega))).lt
    simp only at this
    omega
theorem vsize {p : Program} {l : Launch} {e : Env} {R : Room} {s : State} {m : MethodId} {args : Array Value} {below : List Frame} {meth : Method} {c : Code} {T : State} {locs : List Loc} {cells slots : Nat} {D : va_G} {yc : Nat → ClassId} {hz : Nat} {μ : vM} (X : Stand p l e R s m args below meth c T locs cells slots) (hH : vH D yc hz μ T.heap) (hS : va_S (fun q => hz ≤ q) s.heap T.heap locs) (h0 : hz ≤ s.heap.size) (h3 : hz + μ.1.1 = s.heap.size + cells) : T.heap.size = hz + μ.1.1 := by
  have e1 := vH_size hH (Nat.le_trans h0 hS.1)
  have e2 := X.heapSize
  omega
theorem vPc_at {D : va_G} {yc : Nat → ClassId} {hz : Nat} {μ : vM} {As : List Value} {s U : State} {H : Heap} {locs : List Loc} (hH : vH D yc hz μ H) (hK : va_K D vwCl (vT yc) s) (hS : va_S (fun q => hz ≤ q) s.heap H locs) (h0 : hz ≤ s.heap.size) (hT : vTh hz s) (hal : μ.1.2.2.2 = true → hz + μ.1.1 = H.size) (hU : U.heap = H) (hW : s.WarmedH U.vm) : vPc D yc hz As μ ((As.map (vph hz)).toArray) U :=
  ⟨rfl, by rw [hU]; exact hH, va_K.moved hW.alike hK, by rw [hU]; exact Nat.le_trans h0 hS.1, vTh_moved hS hU hW hT, by rw [hU]; exact hal⟩
theorem vmap_rev (hz : Nat) (As rest : List Value) : List.map (vph hz) (As.reverse ++ rest) = (As.map (vph hz)).reverse ++ rest.map (vph hz) := by simp
theorem vcat_sum (hz : Nat) (rest : List Value) : ((rest.map (vph hz)).map fun v => v.category).sum = (rest.map fun v => v.category).sum := by
  rw [List.map_map]; congr 1; apply List.map_congr_left; intro v _; exact vph_cat hz v
/-- behind a call that returns -/
theorem vrun_k {M z : vR} {pc : Nat} {ls : List (Option Value)} {st rest : List Value} {b : Nat × Nat} {μ : vM} {Q : vO → vM → Prop} {Qc : Option Value → vM → Prop} {a : Array Value} (hb : (vRm z).cells ≤ b.1 ∧ (vRm z).slots ≤ b.2) (hal : ∀ o μ', Qc o μ' → μ'.1.2.2.2 = true → μ.1.2.2.2 = true ∧ μ'.1.1 = μ.1.1 + (vRm z).cells)
    (k : ∀ (o : Option Value) (μ' : vM), Qc o μ' → vP M (pc + 3) ls (o.toList ++ rest) (b.1 - (vRm z).cells, b.2 - (vRm z).slots) μ' Q)
    {p : Program} {l : Launch} {e : Env} {s : State} {m : MethodId} {args : Array Value} {below : List Frame} {meth : Method} {c : Code} {D : va_G} {yc : Nat → ClassId} {hz : Nat} {Qs : State → Prop} (X : vX M p l e s m args below meth c D yc hz) (E : vEnd M p l e s m args below meth c D yc hz Q Qs) {H : Heap} {locs : List Loc} {cells slots : Nat} {lsA : Array Slot} (hL : vL lsA (vNL M) hz ls) (hS : va_S (fun q => hz ≤ q) s.heap H locs) (h1 : cells + b.1 ≤ (vRm M).cells) (h2 : slots + b.2 ≤ (vRm M).slots) (h3 : μ.1.2.2.2 = true → hz + μ.1.1 = s.heap.size + cells)
    (hr : va_Run p l e (vRm M) s m args below meth c H locs cells slots (vRm z).cells (vRm z).slots (F0 m pc lsA st) (rest.map (vph hz)) (vQr D yc hz (vN Qc) a) (fun q => hz ≤ q)) : W p l e (vRm M) s m args below meth c H locs cells slots Qs (F0 m pc lsA st) := by
  intro T hT S
  obtain ⟨v, st₀, t, T', L, h0, S', hL', e1, e2, ⟨⟨o, μ', hv, hp, hh⟩, hz9, hk9⟩, st9⟩ := hr T hT S
  cases hv
  rw [h0] at hz9 hk9
  obtain ⟨t2, a1, b1⟩ := k o μ' hp p l e s m args below meth c D yc hz Qs X E T'.heap (locs ++ L) (cells + (vRm z).cells) (slots + (vRm z).slots) lsA hL (by rw [e1]; exact hh)
    ⟨Nat.le_trans hS.1 (by rw [e1]; exact hz9), fun q g1 g2 => by rw [e1, hk9 q (Nat.lt_of_lt_of_le g1 hS.1) g2]; exact hS.2.1 q g1 g2, fun q hq => by
      rcases List.mem_append.mp hq with h | h
      · exact hS.2.2 q h
      · exact hL' q h⟩ (by have := hb.1; show cells + (vRm z).cells + (b.1 - (vRm z).cells) ≤ _; omega) (by have := hb.2; show slots + (vRm z).slots + (b.2 - (vRm z).slots) ≤ _; omega) (fun q => by obtain ⟨g1, g2⟩ := hal o μ' hp q; have := h3 g1; omega) T' rfl S'
  refine ⟨t2, st9 t2 ?_, b1⟩
  rw [show (Option.map (vph hz) o).toList ++ List.map (vph hz) rest = List.map (vph hz) (o.toList ++ rest) by cases o <;> rfl]
  exact a1
/-- a call of an instance method that returns -/
theorem P_callV {M z : vR} {y : MethodName} {idx pc ci ln n np : Nat} {ls : List (Option Value)} {st rest As : List Value} {b : Nat × Nat} {μ : vM} {Q : vO → vM → Prop} {Qc : Option Value → vM → Prop} {q : vw_C} (hd : decode (vCC M) pc = .ok (.invokevirtual idx, 3)) (hl : Cond.methodLink (vOwn M) idx y ∈ aw) (hy : vY z y np) (hv : vYV y) (hq : vCk ci q) (hyc : y.cls = q.1) (hR : (vRm z).frames + 1 ≤ (vRm M).frames ∧ 8 + (vNL z + 11) + (vRm z).locals ≤ (vRm M).locals) (hn : vK μ.1 n ci ln) (hst : st = As.reverse ++ .ref n :: rest) (hnp : As.length = np) (hcat : (rest.map fun v => v.category).sum ≤ 8) (hb : (vRm z).cells ≤ b.1 ∧ (vRm z).slots ≤ b.2)
    (hc : vC z y (.ref n :: As) μ Qc) (hal : ∀ o μ', Qc o μ' → μ'.1.2.2.2 = true → μ.1.2.2.2 = true ∧ μ'.1.1 = μ.1.1 + (vRm z).cells) (k : ∀ (o : Option Value) (μ' : vM), Qc o μ' → vP M (pc + 3) ls (o.toList ++ rest) (b.1 - (vRm z).cells, b.2 - (vRm z).slots) μ' Q) : vP M pc ls st b μ Q := by
  intro p l e s m args below meth c D yc hz Qs X E H locs cells slots lsA hL hH hS h1 h2 h3
  subst hst
  intro T hT S
  have hal9 : μ.1.2.2.2 = true → hz + μ.1.1 = H.size := fun g => by have := vsize S (by rw [hT]; exact hH) (by rw [hT]; exact hS) X.2.2.2.2.2.2.1 (h3 g); rw [hT] at this; omega
  have hG : GoodIn (Cond.code y (vCC z) (vNL z) (vRt z) :: aw) (Cond.code y (vCC z) (vNL z) (vRt z) :: aw) := aw_sub0 hy.1
  have hts : ∀ w ∈ Cond.code y (vCC z) (vNL z) (vRt z) :: aw, w.before args s = true := fun w h => (List.mem_cons.mp h).elim (fun g => by rw [g]; exact X.2.2.2.2.1 _ hy.1) (X.2.2.2.2.1 w)
  refine vrun_k (st := (As.reverse ++ .ref n :: rest).map (vph hz)) hb hal k X E hL hS h1 h2 h3 (va_runV (own := vOwn M) (cc := vCC M) (nL := vNL M) (Ts := aw) (C := y.cls) (b := hz + n) (As := As.map (vph hz)) (rest := rest.map (vph hz)) (n := np) ⟨X.1, X.2.1, X.2.2.1, X.2.2.2.1, X.2.2.2.2.1⟩ (hc l D yc hz X.2.2.2.2.2.2.2.1)
    ⟨callB_of (Ts := Cond.code y (vCC z) (vNL z) (vRt z) :: aw) np hts hG rfl rfl rfl (X.2.2.2.2.1 _ hy.2.1) (X.2.2.2.2.1 _ hl) hy.2.2 hR, X.2.2.2.2.1 _ hv.1, X.2.2.2.2.1 _ hv.2⟩
    ⟨vPc_blind, by rw [hyc]; exact va_recv X.2.2.2.2.2.1 hH hq.1 ((vW_get hn.1.1).trans (by rw [vE_o hn hq.2.2.1])), fun U hU hW => by
      have := vPc_at (As := .ref n :: As) hH X.2.2.2.2.2.1 hS X.2.2.2.2.2.2.1 X.2.2.2.2.2.2.2.2.2.2 hal9 hU hW
      rw [List.map_cons, vph_ref hn.1.2] at this
      exact this⟩ rfl (by rw [List.length_map]; exact hnp) (hL.1) (by rw [vmap_rev, List.map_cons, vph_ref hn.1.2]) (lv_room (by rw [vcat_sum]; exact hcat)) hd ⟨by have := hb.1; omega, by have := hb.2; omega⟩) T hT S
/-- a call of a static method that returns -/
theorem P_callS {M z : vR} {y : MethodName} {idx pc np : Nat} {ls : List (Option Value)} {st rest As : List Value} {b : Nat × Nat} {μ : vM} {Q : vO → vM → Prop} {Qc : Option Value → vM → Prop} (hd : decode (vCC M) pc = .ok (.invokestatic idx, 3)) (hl : Cond.methodLink (vOwn M) idx y ∈ aw) (hy : vY z y np) (hv : Cond.static y ∈ aw) (hR : (vRm z).frames + 1 ≤ (vRm M).frames ∧ 8 + (vNL z + 11) + (vRm z).locals ≤ (vRm M).locals) (hst : st = As.reverse ++ rest) (hnp : As.length = np) (hcat : (rest.map fun v => v.category).sum ≤ 8) (hb : (vRm z).cells ≤ b.1 ∧ (vRm z).slots ≤ b.2)
    (hc : vC z y As μ Qc) (hal : ∀ o μ', Qc o μ' → μ'.1.2.2.2 = true → μ.1.2.2.2 = true ∧ μ'.1.1 = μ.1.1 + (vRm z).cells) (k : ∀ (o : Option Value) (μ' : vM), Qc o μ' → vP M (pc + 3) ls (o.toList ++ rest) (b.1 - (vRm z).cells, b.2 - (vRm z).slots) μ' Q) : vP M pc ls st b μ Q := by
  intro p l e s m args below meth c D yc hz Qs X E H locs cells slots lsA hL hH hS h1 h2 h3
  subst hst
  intro T hT S
  have hal9 : μ.1.2.2.2 = true → hz + μ.1.1 = H.size := fun g => by have := vsize S (by rw [hT]; exact hH) (by rw [hT]; exact hS) X.2.2.2.2.2.2.1 (h3 g); rw [hT] at this; omega
  have hG : GoodIn (Cond.code y (vCC z) (vNL z) (vRt z) :: aw) (Cond.code y (vCC z) (vNL z) (vRt z) :: aw) := aw_sub0 hy.1
  have hts : ∀ w ∈ Cond.code y (vCC z) (vNL z) (vRt z) :: aw, w.before args s = true := fun w h => (List.mem_cons.mp h).elim (fun g => by rw [g]; exact X.2.2.2.2.1 _ hy.1) (X.2.2.2.2.1 w)
  refine vrun_k (st := (As.reverse ++ rest).map (vph hz)) hb hal k X E hL hS h1 h2 h3 (va_runS (own := vOwn M) (cc := vCC M) (nL := vNL M) (Ts := aw) (As := As.map (vph hz)) (rest := rest.map (vph hz)) (n := np) ⟨X.1, X.2.1, X.2.2.1, X.2.2.2.1, X.2.2.2.2.1⟩ (hc l D yc hz X.2.2.2.2.2.2.2.1)
    ⟨callB_of (Ts := Cond.code y (vCC z) (vNL z) (vRt z) :: aw) np hts hG rfl rfl rfl (X.2.2.2.2.1 _ hy.2.1) (X.2.2.2.2.1 _ hl) hy.2.2 hR, X.2.2.2.2.1 _ hv⟩
    ⟨vPc_blind, fun U hU hW => vPc_at (As := As) hH X.2.2.2.2.2.1 hS X.2.2.2.2.2.2.1 X.2.2.2.2.2.2.2.2.2.2 hal9 hU hW⟩ rfl (by rw [List.length_map]; exact hnp) (hL.1) (by rw [vmap_rev]) (lv_room (by rw [vcat_sum]; exact hcat)) hd ⟨by have := hb.1; omega, by have := hb.2; omega⟩) T hT S
end
