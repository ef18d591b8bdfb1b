section
-- ===== PART A: goes FIRST, ahead of the names: the tables' words, and 'selects' of the private methods out of them =====
/-- a private method of a class that the tables say can be made, by its rows of tables_1 -/
def lw_okq (q : MethodName × Nat) : Prop := (q.1.cls ≠ "java/lang/invoke/MethodHandle" ∧ q.1.cls ≠ "java/lang/invoke/VarHandle") ∧ Cond.instantiable q.1.cls q.2 ∈ tables_1 ∧ Cond.privateMethod q.1 ∈ tables_1 ∧ Cond.instanceMethod q.1 ∈ tables_1
theorem lw_p0 : lw_okq (⟨"java/lang/Throwable", "fillInStackTrace", "(I)Ljava/lang/Throwable;"⟩, 6) := ⟨⟨by decide +kernel, by decide +kernel⟩, List.mem_of_getElem? (i := 261) (by decide +kernel), List.mem_of_getElem? (i := 259) (by decide +kernel), List.mem_of_getElem? (i := 260) (by decide +kernel)⟩
theorem lw_p1 : lw_okq (⟨"CoreTransactions", "isCore", "(I)Z"⟩, 7) := ⟨⟨by decide +kernel, by decide +kernel⟩, List.mem_of_getElem? (i := 18) (by decide +kernel), List.mem_of_getElem? (i := 313) (by decide +kernel), List.mem_of_getElem? (i := 314) (by decide +kernel)⟩
theorem lw_p2 : lw_okq (⟨"CoreTransactions", "breakOffAll", "(IIZ)V"⟩, 7) := ⟨⟨by decide +kernel, by decide +kernel⟩, List.mem_of_getElem? (i := 18) (by decide +kernel), List.mem_of_getElem? (i := 354) (by decide +kernel), List.mem_of_getElem? (i := 355) (by decide +kernel)⟩
theorem lw_p3 : lw_okq (⟨"CoreTransactions", "breakOff", "(LCoreTransactions$Core;I)V"⟩, 7) := ⟨⟨by decide +kernel, by decide +kernel⟩, List.mem_of_getElem? (i := 18) (by decide +kernel), List.mem_of_getElem? (i := 362) (by decide +kernel), List.mem_of_getElem? (i := 363) (by decide +kernel)⟩
theorem lw_p4 : lw_okq (⟨"CoreTransactions", "step", "(LCoreTransactions$Core;)I"⟩, 7) := ⟨⟨by decide +kernel, by decide +kernel⟩, List.mem_of_getElem? (i := 18) (by decide +kernel), List.mem_of_getElem? (i := 383) (by decide +kernel), List.mem_of_getElem? (i := 384) (by decide +kernel)⟩
theorem lw_p5 : lw_okq (⟨"CoreTransactions", "fault", "(LCoreTransactions$Core;)V"⟩, 7) := ⟨⟨by decide +kernel, by decide +kernel⟩, List.mem_of_getElem? (i := 18) (by decide +kernel), List.mem_of_getElem? (i := 387) (by decide +kernel), List.mem_of_getElem? (i := 388) (by decide +kernel)⟩
theorem lw_p6 : lw_okq (⟨"CoreTransactions", "execute", "(LCoreTransactions$Core;I)Z"⟩, 7) := ⟨⟨by decide +kernel, by decide +kernel⟩, List.mem_of_getElem? (i := 18) (by decide +kernel), List.mem_of_getElem? (i := 391) (by decide +kernel), List.mem_of_getElem? (i := 392) (by decide +kernel)⟩
theorem lw_p7 : lw_okq (⟨"CoreTransactions", "mayAccess", "(LCoreTransactions$Core;IZ)Z"⟩, 7) := ⟨⟨by decide +kernel, by decide +kernel⟩, List.mem_of_getElem? (i := 18) (by decide +kernel), List.mem_of_getElem? (i := 395) (by decide +kernel), List.mem_of_getElem? (i := 396) (by decide +kernel)⟩
theorem lw_p8 : lw_okq (⟨"CoreTransactions", "meetsOlder", "(LCoreTransactions$Core;IZ)Z"⟩, 7) := ⟨⟨by decide +kernel, by decide +kernel⟩, List.mem_of_getElem? (i := 18) (by decide +kernel), List.mem_of_getElem? (i := 399) (by decide +kernel), List.mem_of_getElem? (i := 400) (by decide +kernel)⟩
theorem lw_p9 : lw_okq (⟨"CoreTransactions", "wordSeenBy", "(LCoreTransactions$Core;I)I"⟩, 7) := ⟨⟨by decide +kernel, by decide +kernel⟩, List.mem_of_getElem? (i := 18) (by decide +kernel), List.mem_of_getElem? (i := 411) (by decide +kernel), List.mem_of_getElem? (i := 412) (by decide +kernel)⟩
theorem lw_p10 : lw_okq (⟨"CoreTransactions", "write", "(LCoreTransactions$Core;II)V"⟩, 7) := ⟨⟨by decide +kernel, by decide +kernel⟩, List.mem_of_getElem? (i := 18) (by decide +kernel), List.mem_of_getElem? (i := 419) (by decide +kernel), List.mem_of_getElem? (i := 420) (by decide +kernel)⟩
theorem lw_p11 : lw_okq (⟨"CoreTransactions", "executeTransactional", "(LCoreTransactions$Core;I)Z"⟩, 7) := ⟨⟨by decide +kernel, by decide +kernel⟩, List.mem_of_getElem? (i := 18) (by decide +kernel), List.mem_of_getElem? (i := 427) (by decide +kernel), List.mem_of_getElem? (i := 428) (by decide +kernel)⟩
theorem lw_p12 : lw_okq (⟨"CoreTransactions", "begin", "(LCoreTransactions$Core;I)Z"⟩, 7) := ⟨⟨by decide +kernel, by decide +kernel⟩, List.mem_of_getElem? (i := 18) (by decide +kernel), List.mem_of_getElem? (i := 431) (by decide +kernel), List.mem_of_getElem? (i := 432) (by decide +kernel)⟩
theorem lw_p13 : lw_okq (⟨"CoreTransactions", "end", "(LCoreTransactions$Core;)V"⟩, 7) := ⟨⟨by decide +kernel, by decide +kernel⟩, List.mem_of_getElem? (i := 18) (by decide +kernel), List.mem_of_getElem? (i := 440) (by decide +kernel), List.mem_of_getElem? (i := 441) (by decide +kernel)⟩
theorem lw_p14 : lw_okq (⟨"CoreTransactions", "breaksOff", "(LCoreTransactions$Core;I)Z"⟩, 7) := ⟨⟨by decide +kernel, by decide +kernel⟩, List.mem_of_getElem? (i := 18) (by decide +kernel), List.mem_of_getElem? (i := 449) (by decide +kernel), List.mem_of_getElem? (i := 450) (by decide +kernel)⟩
theorem lw_p15 : lw_okq (⟨"CoreTransactionsModel", "leave", "(I)V"⟩, 29) := ⟨⟨by decide +kernel, by decide +kernel⟩, List.mem_of_getElem? (i := 515) (by decide +kernel), List.mem_of_getElem? (i := 638) (by decide +kernel), List.mem_of_getElem? (i := 639) (by decide +kernel)⟩
def lw_privs_1 : List (MethodName × Nat) := [(⟨"java/lang/Throwable", "fillInStackTrace", "(I)Ljava/lang/Throwable;"⟩, 6), (⟨"CoreTransactions", "isCore", "(I)Z"⟩, 7), (⟨"CoreTransactions", "breakOffAll", "(IIZ)V"⟩, 7), (⟨"CoreTransactions", "breakOff", "(LCoreTransactions$Core;I)V"⟩, 7), (⟨"CoreTransactions", "step", "(LCoreTransactions$Core;)I"⟩, 7), (⟨"CoreTransactions", "fault", "(LCoreTransactions$Core;)V"⟩, 7), (⟨"CoreTransactions", "execute", "(LCoreTransactions$Core;I)Z"⟩, 7), (⟨"CoreTransactions", "mayAccess", "(LCoreTransactions$Core;IZ)Z"⟩, 7), (⟨"CoreTransactions", "meetsOlder", "(LCoreTransactions$Core;IZ)Z"⟩, 7), (⟨"CoreTransactions", "wordSeenBy", "(LCoreTransactions$Core;I)I"⟩, 7), (⟨"CoreTransactions", "write", "(LCoreTransactions$Core;II)V"⟩, 7), (⟨"CoreTransactions", "executeTransactional", "(LCoreTransactions$Core;I)Z"⟩, 7), (⟨"CoreTransactions", "begin", "(LCoreTransactions$Core;I)Z"⟩, 7), (⟨"CoreTransactions", "end", "(LCoreTransactions$Core;)V"⟩, 7), (⟨"CoreTransactions", "breaksOff", "(LCoreTransactions$Core;I)Z"⟩, 7), (⟨"CoreTransactionsModel", "leave", "(I)V"⟩, 29)]
theorem lw_r1 : ∀ q ∈ lw_privs_1, lw_okq q := List.forall_mem_cons.mpr ⟨lw_p0, List.forall_mem_cons.mpr ⟨lw_p1, List.forall_mem_cons.mpr ⟨lw_p2, List.forall_mem_cons.mpr ⟨lw_p3, List.forall_mem_cons.mpr ⟨lw_p4, List.forall_mem_cons.mpr ⟨lw_p5, List.forall_mem_cons.mpr ⟨lw_p6, List.forall_mem_cons.mpr ⟨lw_p7, List.forall_mem_cons.mpr ⟨lw_p8, List.forall_mem_cons.mpr ⟨lw_p9, List.forall_mem_cons.mpr ⟨lw_p10, List.forall_mem_cons.mpr ⟨lw_p11, List.forall_mem_cons.mpr ⟨lw_p12, List.forall_mem_cons.mpr ⟨lw_p13, List.forall_mem_cons.mpr ⟨lw_p14, List.forall_mem_cons.mpr ⟨lw_p15, fun _ h => absurd h List.not_mem_nil⟩⟩⟩⟩⟩⟩⟩⟩⟩⟩⟩⟩⟩⟩⟩⟩
theorem lw_p16 : lw_okq (⟨"CoreTransactionsModel", "get", "(II)I"⟩, 29) := ⟨⟨by decide +kernel, by decide +kernel⟩, List.mem_of_getElem? (i := 515) (by decide +kernel), List.mem_of_getElem? (i := 646) (by decide +kernel), List.mem_of_getElem? (i := 647) (by decide +kernel)⟩
theorem lw_p17 : lw_okq (⟨"CoreTransactionsModel", "give", "(III)V"⟩, 29) := ⟨⟨by decide +kernel, by decide +kernel⟩, List.mem_of_getElem? (i := 515) (by decide +kernel), List.mem_of_getElem? (i := 650) (by decide +kernel), List.mem_of_getElem? (i := 651) (by decide +kernel)⟩
theorem lw_p18 : lw_okq (⟨"CoreTransactionsModel", "breakOthers", "(IIZ)V"⟩, 29) := ⟨⟨by decide +kernel, by decide +kernel⟩, List.mem_of_getElem? (i := 515) (by decide +kernel), List.mem_of_getElem? (i := 658) (by decide +kernel), List.mem_of_getElem? (i := 659) (by decide +kernel)⟩
theorem lw_p19 : lw_okq (⟨"CoreTransactionsModel", "meets", "(IIZ)Z"⟩, 29) := ⟨⟨by decide +kernel, by decide +kernel⟩, List.mem_of_getElem? (i := 515) (by decide +kernel), List.mem_of_getElem? (i := 662) (by decide +kernel), List.mem_of_getElem? (i := 663) (by decide +kernel)⟩
theorem lw_p20 : lw_okq (⟨"CoreTransactionsModel", "breakOff", "(II)V"⟩, 29) := ⟨⟨by decide +kernel, by decide +kernel⟩, List.mem_of_getElem? (i := 515) (by decide +kernel), List.mem_of_getElem? (i := 666) (by decide +kernel), List.mem_of_getElem? (i := 667) (by decide +kernel)⟩
theorem lw_p21 : lw_okq (⟨"CoreTransactionsModel", "step", "(I)I"⟩, 29) := ⟨⟨by decide +kernel, by decide +kernel⟩, List.mem_of_getElem? (i := 515) (by decide +kernel), List.mem_of_getElem? (i := 674) (by decide +kernel), List.mem_of_getElem? (i := 675) (by decide +kernel)⟩
theorem lw_p22 : lw_okq (⟨"CoreTransactionsModel", "faults", "(I)Z"⟩, 29) := ⟨⟨by decide +kernel, by decide +kernel⟩, List.mem_of_getElem? (i := 515) (by decide +kernel), List.mem_of_getElem? (i := 678) (by decide +kernel), List.mem_of_getElem? (i := 679) (by decide +kernel)⟩
theorem lw_p23 : lw_okq (⟨"CoreTransactionsModel", "does", "(II)Z"⟩, 29) := ⟨⟨by decide +kernel, by decide +kernel⟩, List.mem_of_getElem? (i := 515) (by decide +kernel), List.mem_of_getElem? (i := 682) (by decide +kernel), List.mem_of_getElem? (i := 683) (by decide +kernel)⟩
theorem lw_p24 : lw_okq (⟨"CoreTransactionsModel", "load", "(III)Z"⟩, 29) := ⟨⟨by decide +kernel, by decide +kernel⟩, List.mem_of_getElem? (i := 515) (by decide +kernel), List.mem_of_getElem? (i := 686) (by decide +kernel), List.mem_of_getElem? (i := 687) (by decide +kernel)⟩
theorem lw_p25 : lw_okq (⟨"CoreTransactionsModel", "comes", "(IIZ)Z"⟩, 29) := ⟨⟨by decide +kernel, by decide +kernel⟩, List.mem_of_getElem? (i := 515) (by decide +kernel), List.mem_of_getElem? (i := 690) (by decide +kernel), List.mem_of_getElem? (i := 691) (by decide +kernel)⟩
theorem lw_p26 : lw_okq (⟨"CoreTransactionsModel", "linesInSet", "(II)I"⟩, 29) := ⟨⟨by decide +kernel, by decide +kernel⟩, List.mem_of_getElem? (i := 515) (by decide +kernel), List.mem_of_getElem? (i := 694) (by decide +kernel), List.mem_of_getElem? (i := 695) (by decide +kernel)⟩
theorem lw_p27 : lw_okq (⟨"CoreTransactionsModel", "sees", "(II)I"⟩, 29) := ⟨⟨by decide +kernel, by decide +kernel⟩, List.mem_of_getElem? (i := 515) (by decide +kernel), List.mem_of_getElem? (i := 698) (by decide +kernel), List.mem_of_getElem? (i := 699) (by decide +kernel)⟩
theorem lw_p28 : lw_okq (⟨"CoreTransactionsModel", "store", "(III)Z"⟩, 29) := ⟨⟨by decide +kernel, by decide +kernel⟩, List.mem_of_getElem? (i := 515) (by decide +kernel), List.mem_of_getElem? (i := 702) (by decide +kernel), List.mem_of_getElem? (i := 703) (by decide +kernel)⟩
theorem lw_p29 : lw_okq (⟨"CoreTransactionsModel", "begin", "(III)Z"⟩, 29) := ⟨⟨by decide +kernel, by decide +kernel⟩, List.mem_of_getElem? (i := 515) (by decide +kernel), List.mem_of_getElem? (i := 706) (by decide +kernel), List.mem_of_getElem? (i := 707) (by decide +kernel)⟩
theorem lw_p30 : lw_okq (⟨"CoreTransactionsModel", "end", "(I)V"⟩, 29) := ⟨⟨by decide +kernel, by decide +kernel⟩, List.mem_of_getElem? (i := 515) (by decide +kernel), List.mem_of_getElem? (i := 710) (by decide +kernel), List.mem_of_getElem? (i := 711) (by decide +kernel)⟩
theorem lw_p31 : lw_okq (⟨"CoreTransactionsModel", "commit", "(I)V"⟩, 29) := ⟨⟨by decide +kernel, by decide +kernel⟩, List.mem_of_getElem? (i := 515) (by decide +kernel), List.mem_of_getElem? (i := 714) (by decide +kernel), List.mem_of_getElem? (i := 715) (by decide +kernel)⟩
def lw_privs_2 : List (MethodName × Nat) := [(⟨"CoreTransactionsModel", "get", "(II)I"⟩, 29), (⟨"CoreTransactionsModel", "give", "(III)V"⟩, 29), (⟨"CoreTransactionsModel", "breakOthers", "(IIZ)V"⟩, 29), (⟨"CoreTransactionsModel", "meets", "(IIZ)Z"⟩, 29), (⟨"CoreTransactionsModel", "breakOff", "(II)V"⟩, 29), (⟨"CoreTransactionsModel", "step", "(I)I"⟩, 29), (⟨"CoreTransactionsModel", "faults", "(I)Z"⟩, 29), (⟨"CoreTransactionsModel", "does", "(II)Z"⟩, 29), (⟨"CoreTransactionsModel", "load", "(III)Z"⟩, 29), (⟨"CoreTransactionsModel", "comes", "(IIZ)Z"⟩, 29), (⟨"CoreTransactionsModel", "linesInSet", "(II)I"⟩, 29), (⟨"CoreTransactionsModel", "sees", "(II)I"⟩, 29), (⟨"CoreTransactionsModel", "store", "(III)Z"⟩, 29), (⟨"CoreTransactionsModel", "begin", "(III)Z"⟩, 29), (⟨"CoreTransactionsModel", "end", "(I)V"⟩, 29), (⟨"CoreTransactionsModel", "commit", "(I)V"⟩, 29)]
theorem lw_r2 : ∀ q ∈ lw_privs_2, lw_okq q := List.forall_mem_cons.mpr ⟨lw_p16, List.forall_mem_cons.mpr ⟨lw_p17, List.forall_mem_cons.mpr ⟨lw_p18, List.forall_mem_cons.mpr ⟨lw_p19, List.forall_mem_cons.mpr ⟨lw_p20, List.forall_mem_cons.mpr ⟨lw_p21, List.forall_mem_cons.mpr ⟨lw_p22, List.forall_mem_cons.mpr ⟨lw_p23, List.forall_mem_cons.mpr ⟨lw_p24, List.forall_mem_cons.mpr ⟨lw_p25, List.forall_mem_cons.mpr ⟨lw_p26, List.forall_mem_cons.mpr ⟨lw_p27, List.forall_mem_cons.mpr ⟨lw_p28, List.forall_mem_cons.mpr ⟨lw_p29, List.forall_mem_cons.mpr ⟨lw_p30, List.forall_mem_cons.mpr ⟨lw_p31, fun _ h => absurd h List.not_mem_nil⟩⟩⟩⟩⟩⟩⟩⟩⟩⟩⟩⟩⟩⟩⟩⟩
theorem lw_p32 : lw_okq (⟨"CoreTransactionsModel", "abort", "(II)Z"⟩, 29) := ⟨⟨by decide +kernel, by decide +kernel⟩, List.mem_of_getElem? (i := 515) (by decide +kernel), List.mem_of_getElem? (i := 718) (by decide +kernel), List.mem_of_getElem? (i := 719) (by decide +kernel)⟩
def lw_privs_3 : List (MethodName × Nat) := [(⟨"CoreTransactionsModel", "abort", "(II)Z"⟩, 29)]
theorem lw_r3 : ∀ q ∈ lw_privs_3, lw_okq q := List.forall_mem_cons.mpr ⟨lw_p32, fun _ h => absurd h List.not_mem_nil⟩
def lw_privs : List (MethodName × Nat) := lw_privs_1 ++ (lw_privs_2 ++ (lw_privs_3))
def lw_tbl : List Cond := k2_sels lw_privs ++ tables_1
theorem lw_privs_ok : ∀ q ∈ lw_privs, lw_okq q := by
  show ∀ q ∈ lw_privs_1 ++ (lw_privs_2 ++ (lw_privs_3)), lw_okq q
  exact List.forall_mem_append.mpr ⟨lw_r1, List.forall_mem_append.mpr ⟨lw_r2, lw_r3⟩⟩
end
section
/-! ===== BEGIN words of one list among another's, by their places ===== -/
theorem goodIn_r {big : List Cond} (ws : List Cond) (ps : List Nat) (hp : ws = ps.filterMap (fun i => big[i]?)) (h : ws.all goodWord = true) : GoodIn big ws := by
  intro w hw
  have h1 := List.all_eq_true.mp h w hw
  rw [hp] at hw
  obtain ⟨i, -, hi⟩ := List.mem_filterMap.mp hw
  have hm : w ∈ big := by first | exact List.mem_of_getElem? hi | exact List.getElem?_mem hi
  exact ⟨hm, good_of_word h1⟩
theorem goodIn_app {big a b : List Cond} (ha : GoodIn big a) (hb : GoodIn big b) : GoodIn big (a ++ b) := fun w h => (List.mem_append.mp h).elim (ha w) (hb w)
theorem goodIn_ca {big a b : List Cond} {c : Cond} (ha : GoodIn big (c :: a)) (hb : GoodIn big b) : GoodIn big (c :: (a ++ b)) := fun w h => (List.mem_cons.mp h).elim (fun e => ha w (List.mem_cons.mpr (Or.inl e))) (fun h => (List.mem_append.mp h).elim (fun h => ha w (List.mem_cons.mpr (Or.inr h))) (hb w))
theorem goodIn_sub {big ws : List Cond} (hm : ∀ w ∈ ws, w ∈ big) (h : ws.all goodWord = true) : GoodIn big ws := fun w hw => ⟨hm w hw, good_of_word (List.all_eq_true.mp h w hw)⟩
/-! ===== END ===== -/

/-! ===== BEGIN exceptions that leave a method, and their catching by the caller (launches without stack traces) ===== -/
section VXA
/-! The laws vx_back, vx_callV, vx_callS, vx_callSW, vx_throw0, vx_throwS follow proofs of the library, with one case more: JvmDerived/Free/Laws.lean (Back.of_free), Shelf42/LK1.lean (callV, callS), Shelf/KitTraced.lean (throwNew0V, throwNewS). -/
/-- where a method has thrown q: the class by its name, the cell, what was written, the world -/
def vx_T (XC : String → State → State → Prop) (st : State) (q : Addr) (t : State) (mc ms : Nat) (free : Addr → Prop) : Prop :=
  ∃ (E : String) (ce : Cell) (L : List Loc), XC E st t ∧ t.heap[q]? = some ce ∧ ce.vm = .none ∧ st.vm.findClass E = some ce.cls ∧ st.WarmedH t.vm ∧ st.sameButNew ({ t with vm := st.vm } : State) L mc ms ∧ ∀ z ∈ L, free z.base
def vx_Q (Qc : Array Value → State → Outcome → State → Prop) (XC : String → State → State → Prop) (mc ms : Nat) (free : Addr → Prop) : Array Value → State → Outcome → State → Prop := fun a st o t =>
  (Qc a st o t ∧ ∃ L, FrameEnd st o t L mc ms ∧ ∀ q ∈ L, free q.base) ∨ ∃ q, o = .threw q ∧ vx_T XC st q t mc ms free
/-- a callee that returns or throws -/
def vx_Met (l : Launch) (y : MethodName) (ws : List Cond) (rm : Room) (Pc : Array Value → State → Prop) (Qc : Array Value → State → Outcome → State → Prop) (XC : String → State → State → Prop) (mc ms : Nat) (free : Addr → Prop) : Prop :=
  MetFree l y (headSpec ws rm) Pc (fun _ _ _ _ _ => True) (vx_Q Qc XC mc ms free)
def vx_Post (XC : String → State → State → Prop) (mc ms : Nat) (free : Addr → Prop) : Pt → Array Value → Addr → Pt → Prop := fun A a q B =>
  ∃ (g : JFrame) (mk : MethodId) (t : State) (L : List Loc) (E : String) (ce : Cell), B.U.heap = t.heap ∧ B.U.vm = t.vm ∧ XC E (A.U.calling g mk a) t ∧ t.heap[q]? = some ce ∧ ce.vm = .none ∧ A.U.vm.findClass E = some ce.cls ∧ B.locs = A.locs ++ L ∧ (∀ z ∈ L, free z.base) ∧ B.cells = A.cells + mc ∧ B.slots = A.slots + ms
def vx_Back (l : Launch) (R : Room) (p : Program) (e : Env) (below : List Frame) (s : State) (sargs : Array Value) (y : MethodName) (len W9 : Nat)
    (Pre : Pt → Array Value → Prop) (Post : Pt → Array Value → Option Value → Pt → Prop) (PostX : Pt → Array Value → Addr → Pt → Prop) : Prop :=
  ∀ (m : MethodId) (meth : Method) (c : Code) (A : Pt) (g : JFrame) (ig : Instr) (mk : MethodId) (a : Array Value),
    Stand p l e R s m sargs below meth c A.U A.locs A.cells A.slots → g.method = m → g.locals.size = c.maxLocals → decode c.code g.pc = .ok (ig, len) →
    2 * g.monitorRoom + (g.stack.map fun v => v.category).sum ≤ W9 → A.U.methodNamed? y = some mk → Pre A a →
    (∃ (v : Option Value) (B : Pt), Stand p l e R s m sargs below meth c B.U B.locs B.cells B.slots ∧ Post A a v B ∧
      Steps p.tables e below (doInvoke e (A.U.setTop g) [] mk a).1 (B.U.setTop { g with pc := g.pc + len, stack := v.toList ++ g.stack })) ∨
    (∃ (q : Addr) (B : Pt), Stand p l e R s m sargs below meth c B.U B.locs B.cells B.slots ∧ PostX A a q B ∧
      Steps p.tables e below (doInvoke e (A.U.setTop g) [] mk a).1 ((B.U.setTop g).pushFrame (.throwing q)))
section Payer
variable {l : Launch} {R : Room} {p : Program} {e : Env} {below : List Frame} {s : State} {sargs : Array Value} {y : MethodName} {len W9 : Nat}
theorem vx_back {ws : List Cond} {rm : Room} {Pc : Array Value → State → Prop} {Qc : Array Value → State → Outcome → State → Prop} {XC : String → State → State → Prop} {mc ms : Nat} {free : Addr → Prop} {bytes : ByteArray} {maxL : Nat} {ret : Option FieldType}
    (hM : vx_Met l y ws rm Pc Qc XC mc ms free) (hblind : FrameBlind Pc) (hrc : rm.cells = mc) (hrs : rm.slots = ms)
    (hframes : rm.frames + 1 ≤ R.frames) (hlocals : W9 + (maxL + 11) + rm.locals ≤ R.locals)
    (hws : ∀ w ∈ ws, ∀ a' U, s.WarmedH U.vm → w.before a' U = true) (hcode : Cond.code y bytes maxL ret ∈ ws) (hinit : ∀ a' U, s.WarmedH U.vm → (Cond.initialized y.cls).before a' U = true) :
    vx_Back l R p e below s sargs y len W9 (PreOf R mc ms Pc) (PostOf Qc mc ms free) (vx_Post XC mc ms free) := by
  intro m meth c A g ig mk a X hg hsize hdg hW hn hp
  have h1 : (headSpec ws rm).pre.before a A.U = true := atoms_intro fun w hw => hws w hw _ _ X.warmed
  have h2 : (Cond.code y bytes maxL ret).before a A.U = true := hws _ hcode _ _ X.warmed
  have h3 : (Cond.initialized y.cls).before a A.U = true := hinit _ _ X.warmed
  have h4 : A.cells + (headSpec ws rm).room.cells ≤ R.cells := by rw [show (headSpec ws rm).room.cells = mc from hrc]; exact hp.1
  have h5 : A.slots + (headSpec ws rm).room.slots ≤ R.slots := by rw [show (headSpec ws rm).room.slots = ms from hrs]; exact hp.2.1
  have hPc : Pc a (A.U.calling g mk a) := hblind _ _ _ _ hp.2.2
  obtain ⟨U, Ls, c0, s0⟩ := A
  dsimp only [Pt.U, Pt.locs, Pt.cells, Pt.slots] at h1 h2 h3 h4 h5 X hn hPc ⊢
  obtain ⟨methY, cY, hmY, hcY, -, hlY, -, -, -, -⟩ := Cond.code_spec hn h2
  obtain ⟨kY, hkY, -⟩ := className_of_methodNamed hn
  have hinitY : kY.init = .initialized := Cond.initialized_spec (findClass_of_methodNamed hn) hkY h3
  have h : At U g.method c below := by rw [hg]; exact X.here
  have hlocals9 : W9 + (maxL + 11) + (headSpec ws rm).room.locals ≤ R.locals := hlocals
  have happ : (headSpec ws rm).appliesLoose y e.platform (U.calling g mk a) = true :=
    Spec.appliesLoose_calling (g := g) h hdg hn hkY hinitY
      (X.room_calling (g := g) (R' := (headSpec ws rm).room) hsize hmY hcY hframes (by rw [hlY]; omega) h4 h5) h1
  obtain ⟨mid, hmid⟩ := h.above
  have hfr : (U.setTop g).frames = (.java g :: mid) ++ below := by rw [State.frames_setTop' g h.top, hmid]; rfl
  obtain ⟨o, s₂, hsteps, -, hend, hq⟩ := Steps.callFree hM p X.admits X.cas X.clock (acts := []) hfr happ hPc trivial
  have hq' : vx_Q Qc XC mc ms free a (U.calling g mk a) o s₂ := hq
  rw [State.frames_setTop' g h.top] at hend
  obtain ⟨g₀, hg0⟩ := Option.isSome_iff_exists.mp h.top
  obtain ⟨r, hr⟩ := State.topJava?_eq_some.mp hg0
  have hr' : (({ U with heap := s₂.heap, slotsUsed := s₂.slotsUsed } : State).setVm s₂.vm).frames = .java g₀ :: r := hr
  rcases hq' with ⟨hqc, L, hfe, hL⟩ | ⟨q, rfl, E, ce, L, hx, hce, hcv, hcl, hW₂, hsm, hL⟩
  · obtain ⟨⟨v, rfl⟩, hW₂, e2, q2, q3, q4, q5, q6⟩ := id hfe
    have e3 : s₂ = ({ (U.calling g mk a).setFrames s₂.frames with heap := s₂.heap, slotsUsed := s₂.slotsUsed } : State).setVm s₂.vm := by
      have : s₂ = ({ s₂ with vm := (U.calling g mk a).vm } : State).setVm s₂.vm := rfl
      rw [e2] at this
      exact this
    obtain ⟨c₂, i₂, len₂, hc₂, hd₂, hf₂⟩ := hend
    have hW' : U.WarmedH s₂.vm := hW₂
    have hcc : c₂ = c := by
      have h1 : s₂.code? g.method = U.code? g.method := by
        rw [State.code?_eq, State.code?_eq, hW'.alike.method?]
      exact Option.some.inj (hc₂.symm.trans (h1.trans h.code))
    subst hcc
    have hlen : len₂ = len := by rw [hdg] at hd₂; cases hd₂; rfl
    subst hlen
    have hs₂ : s₂ = (({ U with heap := s₂.heap, slotsUsed := s₂.slotsUsed } : State).setVm s₂.vm).setTop { g with pc := g.pc + len₂, stack := v.toList ++ g.stack } := by
      refine e3.trans ?_
      rw [hf₂, State.calling_eq h.top, State.setFrames_setFrames, State.setTop_of_frames _ hr', hr]
      rfl
    have hsame : U.sameButNew ({ U with heap := s₂.heap, slotsUsed := s₂.slotsUsed } : State) L mc ms := by
      refine ⟨?_, q2, q3, q4, q5, q6⟩
      obtain ⟨t, ht, -⟩ := State.frames_cons hr
      show ({ U with heap := s₂.heap, slotsUsed := s₂.slotsUsed } : State) = { U.setFrames U.frames with heap := s₂.heap, slotsUsed := s₂.slotsUsed }
      rw [State.setFrames_self ht]
    subst hg
    refine Or.inl ⟨v, ⟨(({ U with heap := s₂.heap, slotsUsed := s₂.slotsUsed } : State).setVm s₂.vm), Ls ++ L, c0 + mc, s0 + ms⟩,
      ⟨X.admits, X.cas, X.clock, X.frames, X.room, X.hears, X.method, X.code, (X.here.setHeapUsed s₂.heap s₂.slotsUsed).setVm hW'.alike, X.tail, State.WarmedH.trans X.warmed hW', X.limits, X.bytes, X.same.trans (hsame.setVm s.vm)⟩,
      ⟨g, mk, s₂, L, rfl, rfl, hqc, rfl, hL, rfl, rfl⟩, ?_⟩
    show Steps p.tables e below _ ((({ U with heap := s₂.heap, slotsUsed := s₂.slotsUsed } : State).setVm s₂.vm).setTop { g with pc := g.pc + len₂, stack := v.toList ++ g.stack })
    rw [← hs₂]
    exact hsteps
  · obtain ⟨e2, q2, q3, q4, q5, q6⟩ := id hsm
    have e3 : s₂ = ({ (U.calling g mk a).setFrames s₂.frames with heap := s₂.heap, slotsUsed := s₂.slotsUsed } : State).setVm s₂.vm := by
      have : s₂ = ({ s₂ with vm := (U.calling g mk a).vm } : State).setVm s₂.vm := rfl
      rw [e2] at this
      exact this
    have hf₂ : s₂.frames = .throwing q :: .java g :: U.frames.tail := hend
    have hW' : U.WarmedH s₂.vm := hW₂
    have hs₂ : s₂ = ((({ U with heap := s₂.heap, slotsUsed := s₂.slotsUsed } : State).setVm s₂.vm).setTop g).pushFrame (.throwing q) := by
      refine e3.trans ?_
      rw [hf₂, State.calling_eq h.top, State.setFrames_setFrames, State.pushFrame, State.frames_setTop _ hr', State.setTop_of_frames _ hr', State.setFrames_setFrames, hr]
      rfl
    have hsame : U.sameButNew ({ U with heap := s₂.heap, slotsUsed := s₂.slotsUsed } : State) L mc ms := by
      refine ⟨?_, q2, q3, q4, q5, q6⟩
      obtain ⟨t, ht, -⟩ := State.frames_cons hr
      show ({ U with heap := s₂.heap, slotsUsed := s₂.slotsUsed } : State) = { U.setFrames U.frames with heap := s₂.heap, slotsUsed := s₂.slotsUsed }
      rw [State.setFrames_self ht]
    subst hg
    refine Or.inr ⟨q, ⟨(({ U with heap := s₂.heap, slotsUsed := s₂.slotsUsed } : State).setVm s₂.vm), Ls ++ L, c0 + mc, s0 + ms⟩,
      ⟨X.admits, X.cas, X.clock, X.frames, X.room, X.hears, X.method, X.code, (X.here.setHeapUsed s₂.heap s₂.slotsUsed).setVm hW'.alike, X.tail, State.WarmedH.trans X.warmed hW', X.limits, X.bytes, X.same.trans (hsame.setVm s.vm)⟩,
      ⟨g, mk, s₂, L, E, ce, rfl, rfl, hx, hce, hcv, hcl, rfl, hL, rfl, rfl⟩, ?_⟩
    show Steps p.tables e below _ (((({ U with heap := s₂.heap, slotsUsed := s₂.slotsUsed } : State).setVm s₂.vm).setTop g).pushFrame (.throwing q))
    rw [← hs₂]
    exact hsteps
end Payer
section Calls
variable {p : Program} {l : Launch} {e : Env} {R : Room} {s : State} {m : MethodId} {args : Array Value} {below : List Frame} {meth : Method} {c : Code} {T : State} {locs : List Loc} {cells slots : Nat}
theorem vx_callV (X : Stand p l e R s m args below meth c T locs cells slots) (hexec : p.tables.exec = Jvm.exec) {own C : String} {index : Nat} {y : MethodName} {bytes : ByteArray} {maxL : Nat} {ret : Option FieldType}
    (hown : s.vm.findClass own = some m.cls) (hlink : (Cond.methodLink own index y).before args s = true) (hinst : (Cond.instanceMethod y).before args s = true) (hsel : (Cond.selects C y y).before args s = true)
    (hcode : (Cond.code y bytes maxL ret).before args s = true) (hy : y.cls ≠ "java/lang/invoke/MethodHandle" ∧ y.cls ≠ "java/lang/invoke/VarHandle")
    {W9 : Nat} {Pre : Pt → Array Value → Prop} {Post : Pt → Array Value → Option Value → Pt → Prop} {PostX : Pt → Array Value → Addr → Pt → Prop} (hK : vx_Back l R p e below s args y 3 W9 Pre Post PostX)
    {b : Addr} {cellB : Cell} (hcell : T.heap[b]? = some cellB) (hobj : cellB.vm.isStatics = false) (hcls : s.vm.findClass C = some cellB.cls)
    {g : JFrame} (hg : g.method = m) (hsize : g.locals.size = c.maxLocals) {argsL rest : List Value} (hlen : ∀ sig, parseMethodDescriptor y.desc = some sig → argsL.length = sig.parameters.length)
    (hstack : g.stack = argsL.reverse ++ .ref b :: rest) (hW : 2 * g.monitorRoom + (rest.map fun v => v.category).sum ≤ W9) (hdg : decode c.code g.pc = .ok (.invokevirtual index, 3))
    (hpre : ∀ vm₁, s.WarmedH vm₁ → Pre ⟨T.setVm vm₁, locs, cells, slots⟩ (Value.ref b :: argsL).toArray) :
    (∃ (v : Option Value) (vm₁ : Vm) (B : Pt), s.WarmedH vm₁ ∧ Stand p l e R s m args below meth c B.U B.locs B.cells B.slots ∧ Post ⟨T.setVm vm₁, locs, cells, slots⟩ (Value.ref b :: argsL).toArray v B ∧
      ∀ target, Steps p.tables e below (B.U.setTop { g with pc := g.pc + 3, stack := v.toList ++ rest }) target → Steps p.tables e below (T.setTop g) target) ∨
    (∃ (q : Addr) (vm₁ : Vm) (B : Pt), s.WarmedH vm₁ ∧ Stand p l e R s m args below meth c B.U B.locs B.cells B.slots ∧ PostX ⟨T.setVm vm₁, locs, cells, slots⟩ (Value.ref b :: argsL).toArray q B ∧
      Steps p.tables e below (T.setTop g) ((B.U.setTop { g with stack := rest }).pushFrame (.throwing q))) := by
  obtain ⟨mk, methM, hnamed, hmethM, hstM, habM⟩ := Cond.instanceMethod_spec hinst
  obtain ⟨methM', cM, hmethM', -, -, -, -, -, -, hsigM⟩ := Cond.code_spec hnamed hcode
  cases hmethM.symm.trans hmethM'
  obtain ⟨c2, r2, m2, q1, q2, q3, q4, kP, hkP, hkPi⟩ := Cond.selects_spec hsel
  cases hcls.symm.trans q1
  cases (State.methodFound?_of_named hnamed hy).symm.trans q2
  cases hnamed.symm.trans q3
  have hselP : selectMethod e.platform s.vm cellB.cls mk = .method mk := by rw [Launch.admits_selectMethod X.admits]; exact q4
  obtain ⟨vm₁, X₁, hstep₁⟩ := X.invokevirtual hexec hown hlink hnamed hmethM hstM hkP hkPi hy (a := b) (cell := cellB) hcell
    (fun z h => by rw [h] at hobj; cases hobj) hselP hmethM habM hkP hkPi (g := g) hg (argsL := argsL) (rest := rest) (hlen _ hsigM) hstack hdg
  rcases hK m meth c ⟨T.setVm vm₁, locs, cells, slots⟩ { g with stack := rest } (.invokevirtual index) mk (Value.ref b :: argsL).toArray X₁ hg hsize hdg hW (X₁.named hnamed) (hpre vm₁ X₁.warmed) with ⟨v, B, X', hpost, hsteps⟩ | ⟨q, B, X', hpost, hsteps⟩
  · exact Or.inl ⟨v, vm₁, B, X₁.warmed, X', hpost, fun target h => hstep₁ _ fun acts => by rw [doInvoke_state]; exact hsteps.trans h⟩
  · exact Or.inr ⟨q, vm₁, B, X₁.warmed, X', hpost, hstep₁ _ fun acts => by rw [doInvoke_state]; exact hsteps⟩
theorem vx_callS (X : Stand p l e R s m args below meth c T locs cells slots) (hexec : p.tables.exec = Jvm.exec) {own : String} {index : Nat} {y : MethodName} {bytes : ByteArray} {maxL : Nat} {ret : Option FieldType}
    (hown : s.vm.findClass own = some m.cls) (hlink : (Cond.methodLink own index y).before args s = true) (hstat : (Cond.static y).before args s = true) (hinit : (Cond.initialized y.cls).before args s = true)
    (hcode : (Cond.code y bytes maxL ret).before args s = true) (hy : y.cls ≠ "java/lang/invoke/MethodHandle" ∧ y.cls ≠ "java/lang/invoke/VarHandle")
    {W9 : Nat} {Pre : Pt → Array Value → Prop} {Post : Pt → Array Value → Option Value → Pt → Prop} {PostX : Pt → Array Value → Addr → Pt → Prop} (hK : vx_Back l R p e below s args y 3 W9 Pre Post PostX)
    {g : JFrame} (hg : g.method = m) (hsize : g.locals.size = c.maxLocals) {argsL rest : List Value} (hlen : ∀ sig, parseMethodDescriptor y.desc = some sig → argsL.length = sig.parameters.length)
    (hstack : g.stack = argsL.reverse ++ rest) (hW : 2 * g.monitorRoom + (rest.map fun v => v.category).sum ≤ W9) (hdg : decode c.code g.pc = .ok (.invokestatic index, 3))
    (hpre : ∀ vm₁, s.WarmedH vm₁ → Pre ⟨T.setVm vm₁, locs, cells, slots⟩ argsL.toArray) :
    (∃ (v : Option Value) (vm₁ : Vm) (B : Pt), s.WarmedH vm₁ ∧ Stand p l e R s m args below meth c B.U B.locs B.cells B.slots ∧ Post ⟨T.setVm vm₁, locs, cells, slots⟩ argsL.toArray v B ∧
      ∀ target, Steps p.tables e below (B.U.setTop { g with pc := g.pc + 3, stack := v.toList ++ rest }) target → Steps p.tables e below (T.setTop g) target) ∨
    (∃ (q : Addr) (vm₁ : Vm) (B : Pt), s.WarmedH vm₁ ∧ Stand p l e R s m args below meth c B.U B.locs B.cells B.slots ∧ PostX ⟨T.setVm vm₁, locs, cells, slots⟩ argsL.toArray q B ∧
      Steps p.tables e below (T.setTop g) ((B.U.setTop { g with stack := rest }).pushFrame (.throwing q))) := by
  obtain ⟨mk, hnamed⟩ := Cond.code_named hcode
  obtain ⟨methM, cM, hmethM, -, -, -, -, -, -, hsigM⟩ := Cond.code_spec hnamed hcode
  have hstatic : methM.isStatic = true := Cond.static_spec hnamed hmethM hstat
  obtain ⟨kP, hkP, -⟩ := className_of_methodNamed hnamed
  have hinitP : kP.init = .initialized := Cond.initialized_spec (findClass_of_methodNamed hnamed) hkP hinit
  obtain ⟨vm₁, X₁, hstep₁⟩ := X.invokestatic hexec hown hlink hnamed hmethM hstatic hkP hinitP hy (g := g) hg (argsL := argsL) (rest := rest) (hlen _ hsigM) hstack hdg
  rcases hK m meth c ⟨T.setVm vm₁, locs, cells, slots⟩ { g with stack := rest } (.invokestatic index) mk argsL.toArray X₁ hg hsize hdg hW (X₁.named hnamed) (hpre vm₁ X₁.warmed) with ⟨v, B, X', hpost, hsteps⟩ | ⟨q, B, X', hpost, hsteps⟩
  · exact Or.inl ⟨v, vm₁, B, X₁.warmed, X', hpost, fun target h => hstep₁ _ fun acts => by rw [doInvoke_state]; exact hsteps.trans h⟩
  · exact Or.inr ⟨q, vm₁, B, X₁.warmed, X', hpost, hstep₁ _ fun acts => by rw [doInvoke_state]; exact hsteps⟩
end Calls
theorem vx_cls {s : State} {T : State} {vm₁ : Vm} {E : String} {k : ClassId} (hW : s.WarmedH vm₁) (h : (T.setVm vm₁).vm.findClass E = some k) : s.vm.findClass E = some k := by
  have h1 : vm₁.findClass E = some k := h
  rw [hW.alike.findClass] at h1
  exact h1
/-- the method's frame g, with q thrown over it -/
def vx_W (p : Program) (l : Launch) (e : Env) (R : Room) (s : State) (m : MethodId) (args : Array Value) (below : List Frame) (meth : Method) (c : Code) (H : Heap) (locs : List Loc) (cells slots : Nat) (Q : State → Prop) (g : JFrame) (q : Addr) : Prop :=
  ∀ T : State, T.heap = H → Stand p l e R s m args below meth c T locs cells slots → ∃ t, Steps p.tables e below ((T.setTop g).pushFrame (.throwing q)) t ∧ Q t
def vx_Run (p : Program) (l : Launch) (e : Env) (R : Room) (s : State) (m : MethodId) (args : Array Value) (below : List Frame) (meth : Method) (c : Code) (H : Heap) (locs : List Loc) (cells slots mc ms : Nat) (g : JFrame) (rest : List Value) (Qa : State → Outcome → State → Prop) (XC : String → State → State → Prop) (free : Addr → Prop) : Prop :=
  ∀ T : State, T.heap = H → Stand p l e R s m args below meth c T locs cells slots →
    (∃ (v : Option Value) (st₀ t T' : State) (L : List Loc), st₀.heap = H ∧ Stand p l e R s m args below meth c T' (locs ++ L) (cells + mc) (slots + ms) ∧ (∀ q ∈ L, free q.base) ∧ T'.heap = t.heap ∧ T'.vm = t.vm ∧ Qa st₀ (.returned v) t ∧
      Goes p e below T g T' { g with pc := g.pc + 3, stack := v.toList ++ rest }) ∨
    (∃ (q : Addr) (st₀ t T' : State) (L : List Loc) (E : String) (ce : Cell), st₀.heap = H ∧ Stand p l e R s m args below meth c T' (locs ++ L) (cells + mc) (slots + ms) ∧ (∀ z ∈ L, free z.base) ∧ T'.heap = t.heap ∧ T'.vm = t.vm ∧ XC E st₀ t ∧ t.heap[q]? = some ce ∧ ce.vm = .none ∧ s.vm.findClass E = some ce.cls ∧
      Steps p.tables e below (T.setTop g) ((T'.setTop { g with stack := rest }).pushFrame (.throwing q)))
def vx_X {S : Type} (px : S → Prop) (B : String → S → State → Prop) (A : Nat → Prop) : String → State → State → Prop := fun E st t => ∃ u : S, px u ∧ B E u t ∧ va_F A st t
section Runs
variable {p : Program} {l : Launch} {e : Env} {R : Room} {s : State} {m : MethodId} {args : Array Value} {below : List Frame} {meth : Method} {c : Code} {H : Heap} {locs : List Loc} {cells slots : Nat}
variable {y : MethodName} {bytes cc : ByteArray} {maxL nL mc ms n index : Nat} {ret : Option FieldType} {ws : List Cond} {rm : Room} {Pc : Array Value → State → Prop} {Qc : Array Value → State → Outcome → State → Prop} {XC : String → State → State → Prop} {free : Addr → Prop} {Ts : List Cond} {own C : String} {b : Addr} {As rest : List Value} {g : JFrame}
theorem vx_callBack (cb : CallB R s args own index y bytes maxL ret ws rm mc ms n) (hM : vx_Met l y ws rm Pc Qc XC mc ms free) (hbl : FrameBlind Pc) : vx_Back l R p e below s args y 3 8 (PreOf R mc ms Pc) (PostOf Qc mc ms free) (vx_Post XC mc ms free) := by
  obtain ⟨hrc, hrs, hfr, hlo, hws, hcw, -, hini, -⟩ := cb
  exact vx_back (bytes := bytes) (maxL := maxL) (ret := ret) hM hbl hrc hrs hfr hlo hws hcw (fun a' U hW => word_at hW (Or.inl (by first | rfl | simp [Cond.onTables, Cond.keeps, Cond.steady])) hini)
theorem vx_runV (S : CallFix p m c cc nL s args Ts own) (hM : vx_Met l y ws rm Pc Qc XC mc ms free) (cw : CallW R s args own C index y bytes maxL ret ws rm mc ms n) (hp : PreV s H C b Pc As)
    (hg : g.method = m) (hn : As.length = n) (hsize : g.locals.size = nL) (hstack : g.stack = As.reverse ++ .ref b :: rest) (hW : 2 * g.monitorRoom + (rest.map fun v => v.category).sum ≤ 8) (hdg : decode cc g.pc = .ok (.invokevirtual index, 3)) (hf : cells + mc ≤ R.cells ∧ slots + ms ≤ R.slots) :
    vx_Run p l e R s m args below meth c H locs cells slots mc ms g rest (Qc (Value.ref b :: As).toArray) XC free := by
  have hK : vx_Back l R p e below s args y 3 8 (PreOf R mc ms Pc) (PostOf Qc mc ms free) (vx_Post XC mc ms free) := vx_callBack cw.1 hM hp.1
  obtain ⟨⟨-, -, -, -, -, -, hcode, -, hy, hlen, hl⟩, hin, hse⟩ := cw
  obtain ⟨hx, hb, hml, ho, -⟩ := S
  obtain ⟨-, ⟨cellB, hcB, hoB, hclB⟩, hPc⟩ := hp
  intro T hT X
  rcases vx_callV X hx (C := C) (bytes := bytes) (maxL := maxL) (ret := ret) ho hl hin hse hcode hy hK (by rw [hT]; exact hcB) hoB hclB hg (hsize.trans hml.symm) (argsL := As) (rest := rest) (fun sig h => hn.trans (hlen sig h)) hstack hW (by rw [hb]; exact hdg)
    (fun vm₁ hW₁ => ⟨hf.1, hf.2, hPc (T.setVm vm₁) hT hW₁⟩) with ⟨v, vm₁, ⟨U', l2, c2, s2⟩, hW₁, X', ⟨g', mk, t, L, e1, e2, hq, h1, hL, h2, h3⟩, st⟩ | ⟨q, vm₁, ⟨U', l2, c2, s2⟩, hW₁, X', ⟨g', mk, t, L, E, ce, e1, e2, hq, hce, hcv, hcl, h1, hL, h2, h3⟩, st⟩
  · dsimp only [Pt.U, Pt.locs, Pt.cells, Pt.slots] at X' e1 e2 h1 h2 h3 st
    subst h1; subst h2; subst h3
    exact Or.inl ⟨v, (T.setVm vm₁).calling g' mk (Value.ref b :: As).toArray, t, U', L, hT, X', hL, e1, e2, hq, st⟩
  · dsimp only [Pt.U, Pt.locs, Pt.cells, Pt.slots] at X' e1 e2 h1 h2 h3 st hcl
    subst h1; subst h2; subst h3
    exact Or.inr ⟨q, (T.setVm vm₁).calling g' mk (Value.ref b :: As).toArray, t, U', L, E, ce, hT, X', hL, e1, e2, hq, hce, hcv, vx_cls hW₁ hcl, st⟩
theorem vx_runS (S : CallFix p m c cc nL s args Ts own) (hM : vx_Met l y ws rm Pc Qc XC mc ms free) (cw : CallB R s args own index y bytes maxL ret ws rm mc ms n ∧ (Cond.static y).before args s = true) (hp : PreS s H Pc As)
    (hg : g.method = m) (hn : As.length = n) (hsize : g.locals.size = nL) (hstack : g.stack = As.reverse ++ rest) (hW : 2 * g.monitorRoom + (rest.map fun v => v.category).sum ≤ 8) (hdg : decode cc g.pc = .ok (.invokestatic index, 3)) (hf : cells + mc ≤ R.cells ∧ slots + ms ≤ R.slots) :
    vx_Run p l e R s m args below meth c H locs cells slots mc ms g rest (Qc As.toArray) XC free := by
  have hK : vx_Back l R p e below s args y 3 8 (PreOf R mc ms Pc) (PostOf Qc mc ms free) (vx_Post XC mc ms free) := vx_callBack cw.1 hM hp.1
  obtain ⟨⟨-, -, -, -, -, -, hcode, hini, hy, hlen, hl⟩, hstt⟩ := cw
  obtain ⟨hx, hb, hml, ho, -⟩ := S
  intro T hT X
  rcases vx_callS X hx (bytes := bytes) (maxL := maxL) (ret := ret) ho hl hstt hini hcode hy hK hg (hsize.trans hml.symm) (argsL := As) (rest := rest) (fun sig h => hn.trans (hlen sig h)) hstack hW (by rw [hb]; exact hdg)
    (fun vm₁ hW₁ => ⟨hf.1, hf.2, hp.2 (T.setVm vm₁) hT hW₁⟩) with ⟨v, vm₁, ⟨U', l2, c2, s2⟩, hW₁, X', ⟨g', mk, t, L, e1, e2, hq, h1, hL, h2, h3⟩, st⟩ | ⟨q, vm₁, ⟨U', l2, c2, s2⟩, hW₁, X', ⟨g', mk, t, L, E, ce, e1, e2, hq, hce, hcv, hcl, h1, hL, h2, h3⟩, st⟩
  · dsimp only [Pt.U, Pt.locs, Pt.cells, Pt.slots] at X' e1 e2 h1 h2 h3 st
    subst h1; subst h2; subst h3
    exact Or.inl ⟨v, (T.setVm vm₁).calling g' mk As.toArray, t, U', L, hT, X', hL, e1, e2, hq, st⟩
  · dsimp only [Pt.U, Pt.locs, Pt.cells, Pt.slots] at X' e1 e2 h1 h2 h3 st hcl
    subst h1; subst h2; subst h3
    exact Or.inr ⟨q, (T.setVm vm₁).calling g' mk As.toArray, t, U', L, E, ce, hT, X', hL, e1, e2, hq, hce, hcv, vx_cls hW₁ hcl, st⟩
end Runs
section Rows
variable {p : Program} {l : Launch} {e : Env} {R : Room} {s : State} {m : MethodId} {args : Array Value} {below : List Frame} {meth : Method} {c : Code} {H : Heap} {locs : List Loc} {cells slots : Nat} {Q : State → Prop}
variable {mc ms : Nat} {free : Addr → Prop} {A0 A1 : Nat → Prop} {H0 : Heap} {a : Array Value} {pc : Nat} {ls : Array Slot} {st0 rest : List Value}
theorem vx_keep {st₀ t T' : State} {L : List Loc} (h0 : st₀.heap = H) (e1 : T'.heap = t.heap) (hS : va_S A0 H0 H locs) (hA : ∀ q, q < H.size → A1 q → A0 q) (hf : ∀ q, free q → A0 q) (hL : ∀ q ∈ L, free q.base) (hF : va_F A1 st₀ t) :
    H.size ≤ T'.heap.size ∧ (∀ q : Nat, q < H.size → ¬ A1 q → T'.heap[q]? = H[q]?) ∧ va_S A0 H0 T'.heap (locs ++ L) := by
  obtain ⟨hz, hk⟩ := hF
  rw [h0] at hz hk
  exact ⟨by rw [e1]; exact hz, fun q h1 h2 => by rw [e1]; exact hk q h1 h2,
    ⟨Nat.le_trans hS.1 (by rw [e1]; exact hz), fun q h1 h2 => by rw [e1, hk q (Nat.lt_of_lt_of_le h1 hS.1) (fun z => h2 (hA q (Nat.lt_of_lt_of_le h1 hS.1) z))]; exact hS.2.1 q h1 h2, fun q hq => by
      rcases List.mem_append.mp hq with h | h
      · exact hS.2.2 q h
      · exact hf _ (hL q h)⟩⟩
theorem vx_calli {S SX : Type} {post : Int32 → S → Prop} {px : SX → Prop} {B : S → State → Prop} {BX : String → SX → State → Prop} {AX : Nat → Prop} (hr : vx_Run p l e R s m args below meth c H locs cells slots mc ms (F0 m pc ls st0) rest (va_Qi post B A1 a) (vx_X px BX AX) free) (hS : va_S A0 H0 H locs) (hA : ∀ q, q < H.size → A1 q → A0 q) (hf : ∀ q, free q → A0 q) (hAX : ∀ q, q < H.size → AX q → A0 q)
    (kx : ∀ (E : String) (ce : Cell) (q9 : Addr) (u : SX) (t : State) (H1 : Heap) (locs1 : List Loc), t.heap = H1 → s.vm.Alike t.vm → px u → BX E u t → H.size ≤ H1.size → (∀ q : Nat, q < H.size → ¬ AX q → H1[q]? = H[q]?) → va_S A0 H0 H1 locs1 → H1[q9]? = some ce → ce.vm = .none → s.vm.findClass E = some ce.cls → vx_W p l e R s m args below meth c H1 locs1 (cells + mc) (slots + ms) Q (F0 m pc ls rest) q9)
    (kk : ∀ (r : Int32) (u : S) (t : State) (H1 : Heap) (locs1 : List Loc), t.heap = H1 → s.vm.Alike t.vm → post r u → B u t → H.size ≤ H1.size → (∀ q : Nat, q < H.size → ¬ A1 q → H1[q]? = H[q]?) → va_S A0 H0 H1 locs1 → W p l e R s m args below meth c H1 locs1 (cells + mc) (slots + ms) Q (F0 m (pc + 3) ls (.int r :: rest))) : W p l e R s m args below meth c H locs cells slots Q (F0 m pc ls st0) := by
  intro T hT X
  rcases hr T hT X with ⟨v, st₀, t, T', L, h0, X', hL, e1, e2, ⟨⟨r, u, hv, hp, hb⟩, hF⟩, st⟩ | ⟨q, st₀, t, T', L, E, ce, h0, X', hL, e1, e2, ⟨u, hp, hb, hF⟩, hce, hcv, hcl, st⟩
  · cases hv
    obtain ⟨k1, k2, k3⟩ := vx_keep h0 e1 hS hA hf hL hF
    obtain ⟨t2, a1, b1⟩ := kk r u t T'.heap (locs ++ L) e1.symm (by rw [← e2]; exact X'.warmed.alike) hp hb k1 k2 k3 T' rfl X'
    exact ⟨t2, st t2 a1, b1⟩
  · obtain ⟨k1, k2, k3⟩ := vx_keep h0 e1 hS hAX hf hL hF
    obtain ⟨t2, a1, b1⟩ := kx E ce q u t T'.heap (locs ++ L) e1.symm (by rw [← e2]; exact X'.warmed.alike) hp hb k1 k2 k3 (by rw [e1]; exact hce) hcv hcl T' rfl X'
    exact ⟨t2, st.trans a1, b1⟩
theorem vx_calll {S SX : Type} {post : Int64 → S → Prop} {px : SX → Prop} {B : S → State → Prop} {BX : String → SX → State → Prop} {AX : Nat → Prop} (hr : vx_Run p l e R s m args below meth c H locs cells slots mc ms (F0 m pc ls st0) rest (va_Ql post B A1 a) (vx_X px BX AX) free) (hS : va_S A0 H0 H locs) (hA : ∀ q, q < H.size → A1 q → A0 q) (hf : ∀ q, free q → A0 q) (hAX : ∀ q, q < H.size → AX q → A0 q)
    (kx : ∀ (E : String) (ce : Cell) (q9 : Addr) (u : SX) (t : State) (H1 : Heap) (locs1 : List Loc), t.heap = H1 → s.vm.Alike t.vm → px u → BX E u t → H.size ≤ H1.size → (∀ q : Nat, q < H.size → ¬ AX q → H1[q]? = H[q]?) → va_S A0 H0 H1 locs1 → H1[q9]? = some ce → ce.vm = .none → s.vm.findClass E = some ce.cls → vx_W p l e R s m args below meth c H1 locs1 (cells + mc) (slots + ms) Q (F0 m pc ls rest) q9)
    (kk : ∀ (r : Int64) (u : S) (t : State) (H1 : Heap) (locs1 : List Loc), t.heap = H1 → s.vm.Alike t.vm → post r u → B u t → H.size ≤ H1.size → (∀ q : Nat, q < H.size → ¬ A1 q → H1[q]? = H[q]?) → va_S A0 H0 H1 locs1 → W p l e R s m args below meth c H1 locs1 (cells + mc) (slots + ms) Q (F0 m (pc + 3) ls (.long r :: rest))) : W p l e R s m args below meth c H locs cells slots Q (F0 m pc ls st0) := by
  intro T hT X
  rcases hr T hT X with ⟨v, st₀, t, T', L, h0, X', hL, e1, e2, ⟨⟨r, u, hv, hp, hb⟩, hF⟩, st⟩ | ⟨q, st₀, t, T', L, E, ce, h0, X', hL, e1, e2, ⟨u, hp, hb, hF⟩, hce, hcv, hcl, st⟩
  · cases hv
    obtain ⟨k1, k2, k3⟩ := vx_keep h0 e1 hS hA hf hL hF
    obtain ⟨t2, a1, b1⟩ := kk r u t T'.heap (locs ++ L) e1.symm (by rw [← e2]; exact X'.warmed.alike) hp hb k1 k2 k3 T' rfl X'
    exact ⟨t2, st t2 a1, b1⟩
  · obtain ⟨k1, k2, k3⟩ := vx_keep h0 e1 hS hAX hf hL hF
    obtain ⟨t2, a1, b1⟩ := kx E ce q u t T'.heap (locs ++ L) e1.symm (by rw [← e2]; exact X'.warmed.alike) hp hb k1 k2 k3 (by rw [e1]; exact hce) hcv hcl T' rfl X'
    exact ⟨t2, st.trans a1, b1⟩
theorem vx_callf {S SX : Type} {post : UInt32 → S → Prop} {px : SX → Prop} {B : S → State → Prop} {BX : String → SX → State → Prop} {AX : Nat → Prop} (hr : vx_Run p l e R s m args below meth c H locs cells slots mc ms (F0 m pc ls st0) rest (va_Qf post B A1 a) (vx_X px BX AX) free) (hS : va_S A0 H0 H locs) (hA : ∀ q, q < H.size → A1 q → A0 q) (hf : ∀ q, free q → A0 q) (hAX : ∀ q, q < H.size → AX q → A0 q)
    (kx : ∀ (E : String) (ce : Cell) (q9 : Addr) (u : SX) (t : State) (H1 : Heap) (locs1 : List Loc), t.heap = H1 → s.vm.Alike t.vm → px u → BX E u t → H.size ≤ H1.size → (∀ q : Nat, q < H.size → ¬ AX q → H1[q]? = H[q]?) → va_S A0 H0 H1 locs1 → H1[q9]? = some ce → ce.vm = .none → s.vm.findClass E = some ce.cls → vx_W p l e R s m args below meth c H1 locs1 (cells + mc) (slots + ms) Q (F0 m pc ls rest) q9)
    (kk : ∀ (r : UInt32) (u : S) (t : State) (H1 : Heap) (locs1 : List Loc), t.heap = H1 → s.vm.Alike t.vm → post r u → B u t → H.size ≤ H1.size → (∀ q : Nat, q < H.size → ¬ A1 q → H1[q]? = H[q]?) → va_S A0 H0 H1 locs1 → W p l e R s m args below meth c H1 locs1 (cells + mc) (slots + ms) Q (F0 m (pc + 3) ls (.float r :: rest))) : W p l e R s m args below meth c H locs cells slots Q (F0 m pc ls st0) := by
  intro T hT X
  rcases hr T hT X with ⟨v, st₀, t, T', L, h0, X', hL, e1, e2, ⟨⟨r, u, hv, hp, hb⟩, hF⟩, st⟩ | ⟨q, st₀, t, T', L, E, ce, h0, X', hL, e1, e2, ⟨u, hp, hb, hF⟩, hce, hcv, hcl, st⟩
  · cases hv
    obtain ⟨k1, k2, k3⟩ := vx_keep h0 e1 hS hA hf hL hF
    obtain ⟨t2, a1, b1⟩ := kk r u t T'.heap (locs ++ L) e1.symm (by rw [← e2]; exact X'.warmed.alike) hp hb k1 k2 k3 T' rfl X'
    exact ⟨t2, st t2 a1, b1⟩
  · obtain ⟨k1, k2, k3⟩ := vx_keep h0 e1 hS hAX hf hL hF
    obtain ⟨t2, a1, b1⟩ := kx E ce q u t T'.heap (locs ++ L) e1.symm (by rw [← e2]; exact X'.warmed.alike) hp hb k1 k2 k3 (by rw [e1]; exact hce) hcv hcl T' rfl X'
    exact ⟨t2, st.trans a1, b1⟩
theorem vx_calld {S SX : Type} {post : UInt64 → S → Prop} {px : SX → Prop} {B : S → State → Prop} {BX : String → SX → State → Prop} {AX : Nat → Prop} (hr : vx_Run p l e R s m args below meth c H locs cells slots mc ms (F0 m pc ls st0) rest (va_Qd post B A1 a) (vx_X px BX AX) free) (hS : va_S A0 H0 H locs) (hA : ∀ q, q < H.size → A1 q → A0 q) (hf : ∀ q, free q → A0 q) (hAX : ∀ q, q < H.size → AX q → A0 q)
    (kx : ∀ (E : String) (ce : Cell) (q9 : Addr) (u : SX) (t : State) (H1 : Heap) (locs1 : List Loc), t.heap = H1 → s.vm.Alike t.vm → px u → BX E u t → H.size ≤ H1.size → (∀ q : Nat, q < H.size → ¬ AX q → H1[q]? = H[q]?) → va_S A0 H0 H1 locs1 → H1[q9]? = some ce → ce.vm = .none → s.vm.findClass E = some ce.cls → vx_W p l e R s m args below meth c H1 locs1 (cells + mc) (slots + ms) Q (F0 m pc ls rest) q9)
    (kk : ∀ (r : UInt64) (u : S) (t : State) (H1 : Heap) (locs1 : List Loc), t.heap = H1 → s.vm.Alike t.vm → post r u → B u t → H.size ≤ H1.size → (∀ q : Nat, q < H.size → ¬ A1 q → H1[q]? = H[q]?) → va_S A0 H0 H1 locs1 → W p l e R s m args below meth c H1 locs1 (cells + mc) (slots + ms) Q (F0 m (pc + 3) ls (.double r :: rest))) : W p l e R s m args below meth c H locs cells slots Q (F0 m pc ls st0) := by
  intro T hT X
  rcases hr T hT X with ⟨v, st₀, t, T', L, h0, X', hL, e1, e2, ⟨⟨r, u, hv, hp, hb⟩, hF⟩, st⟩ | ⟨q, st₀, t, T', L, E, ce, h0, X', hL, e1, e2, ⟨u, hp, hb, hF⟩, hce, hcv, hcl, st⟩
  · cases hv
    obtain ⟨k1, k2, k3⟩ := vx_keep h0 e1 hS hA hf hL hF
    obtain ⟨t2, a1, b1⟩ := kk r u t T'.heap (locs ++ L) e1.symm (by rw [← e2]; exact X'.warmed.alike) hp hb k1 k2 k3 T' rfl X'
    exact ⟨t2, st t2 a1, b1⟩
  · obtain ⟨k1, k2, k3⟩ := vx_keep h0 e1 hS hAX hf hL hF
    obtain ⟨t2, a1, b1⟩ := kx E ce q u t T'.heap (locs ++ L) e1.symm (by rw [← e2]; exact X'.warmed.alike) hp hb k1 k2 k3 (by rw [e1]; exact hce) hcv hcl T' rfl X'
    exact ⟨t2, st.trans a1, b1⟩
theorem vx_callv {S SX : Type} {post : S → Prop} {px : SX → Prop} {B : S → State → Prop} {BX : String → SX → State → Prop} {AX : Nat → Prop} (hr : vx_Run p l e R s m args below meth c H locs cells slots mc ms (F0 m pc ls st0) rest (va_Qv post B A1 a) (vx_X px BX AX) free) (hS : va_S A0 H0 H locs) (hA : ∀ q, q < H.size → A1 q → A0 q) (hf : ∀ q, free q → A0 q) (hAX : ∀ q, q < H.size → AX q → A0 q)
    (kx : ∀ (E : String) (ce : Cell) (q9 : Addr) (u : SX) (t : State) (H1 : Heap) (locs1 : List Loc), t.heap = H1 → s.vm.Alike t.vm → px u → BX E u t → H.size ≤ H1.size → (∀ q : Nat, q < H.size → ¬ AX q → H1[q]? = H[q]?) → va_S A0 H0 H1 locs1 → H1[q9]? = some ce → ce.vm = .none → s.vm.findClass E = some ce.cls → vx_W p l e R s m args below meth c H1 locs1 (cells + mc) (slots + ms) Q (F0 m pc ls rest) q9)
    (kk : ∀ (u : S) (t : State) (H1 : Heap) (locs1 : List Loc), t.heap = H1 → s.vm.Alike t.vm → post u → B u t → H.size ≤ H1.size → (∀ q : Nat, q < H.size → ¬ A1 q → H1[q]? = H[q]?) → va_S A0 H0 H1 locs1 → W p l e R s m args below meth c H1 locs1 (cells + mc) (slots + ms) Q (F0 m (pc + 3) ls (rest))) : W p l e R s m args below meth c H locs cells slots Q (F0 m pc ls st0) := by
  intro T hT X
  rcases hr T hT X with ⟨v, st₀, t, T', L, h0, X', hL, e1, e2, ⟨⟨u, hv, hp, hb⟩, hF⟩, st⟩ | ⟨q, st₀, t, T', L, E, ce, h0, X', hL, e1, e2, ⟨u, hp, hb, hF⟩, hce, hcv, hcl, st⟩
  · cases hv
    obtain ⟨k1, k2, k3⟩ := vx_keep h0 e1 hS hA hf hL hF
    obtain ⟨t2, a1, b1⟩ := kk u t T'.heap (locs ++ L) e1.symm (by rw [← e2]; exact X'.warmed.alike) hp hb k1 k2 k3 T' rfl X'
    exact ⟨t2, st t2 a1, b1⟩
  · obtain ⟨k1, k2, k3⟩ := vx_keep h0 e1 hS hAX hf hL hF
    obtain ⟨t2, a1, b1⟩ := kx E ce q u t T'.heap (locs ++ L) e1.symm (by rw [← e2]; exact X'.warmed.alike) hp hb k1 k2 k3 (by rw [e1]; exact hce) hcv hcl T' rfl X'
    exact ⟨t2, st.trans a1, b1⟩
/-- caught by the row x of this method's table; the rows ahead don't take it -/
theorem vx_catch {own name : String} {E : String} {ce : Cell} {q : Addr} (hown : s.vm.findClass own = some m.cls) (pre : List ExceptionTableEntry) (x : ExceptionTableEntry) (suf : List ExceptionTableEntry) (hsplit : c.exceptionTable.toList = pre ++ x :: suf)
    (hpass : ∀ z ∈ pre, covers z pc = false ∨ (z.catchType ≠ 0 ∧ ∃ nm : String, (Cond.classLink own z.catchType nm).before args s = true ∧ va_Nc E nm s)) (hx : covers x pc = true) (h0 : x.catchType ≠ 0)
    (hlink : (Cond.classLink own x.catchType name).before args s = true) (hcast : (Cond.castable E name).before args s = true) (hcell : H[q]? = some ce) (hv : ce.vm = .none) (hcl : s.vm.findClass E = some ce.cls)
    (kk : W p l e R s m args below meth c H locs cells slots Q (F0 m x.handlerPc ls [.ref q])) : vx_W p l e R s m args below meth c H locs cells slots Q (F0 m pc ls rest) q := by
  intro T hT X
  have hpl : e.platform.magicAccessors = ({} : Platform).magicAccessors := by rw [X.admits.platform]
  obtain ⟨c3, c4, hc3, hc4, hasg⟩ := Cond.castable_spec hcast
  cases Option.some.inj (hc3.symm.trans hcl)
  obtain ⟨c5, hc5, hcl5⟩ := Cond.classLink_spec hown hlink e.platform hpl
  cases Option.some.inj (hc4.symm.trans hc5)
  obtain ⟨vm', X', st⟩ := X.thenCaughtThrough q (g := F0 m pc ls rest) rfl (Steps.refl _) (by rw [hT]; exact hcell) (by rw [hv]; rfl) (by obtain ⟨k9, h9, -⟩ := Vm.findClass_spec hcl; exact ⟨k9, h9⟩) pre x suf hsplit
    (fun z hz => by
      rcases hpass z hz with h | ⟨hz0, nm, hl1, hn1⟩
      · exact Or.inl h
      · obtain ⟨c6, hc6, hcl6⟩ := Cond.classLink_spec hown hl1 e.platform hpl
        obtain ⟨a8, b8, h1, h2, h3⟩ := hn1
        cases Option.some.inj (h1.symm.trans hcl)
        cases Option.some.inj (h2.symm.trans hc6)
        exact Or.inr ⟨hz0, _, hcl6, h3⟩) hx (Or.inr ⟨h0, c4, hcl5, hasg⟩)
  obtain ⟨t, a1, b1⟩ := kk (T.setVm vm') hT X'
  exact ⟨t, st.trans a1, b1⟩
end Rows
section Ends
variable {p : Program} {l : Launch} {e : Env} {R : Room} {s : State} {m : MethodId} {args : Array Value} {below : List Frame} {meth : Method} {c : Code} {H : Heap} {locs : List Loc} {cells slots : Nat} {Q : State → Prop}
variable {mc ms : Nat} {free : Addr → Prop} {A0 A1 : Nat → Prop} {H0 : Heap} {a : Array Value} {ls : Array Slot} {st0 rest : List Value}
variable {Qc : Array Value → State → Outcome → State → Prop} {XC : String → State → State → Prop}
/-- what a body that may throw owes at its end -/
def vx_MQ (below : List Frame) (Qc : Array Value → State → Outcome → State → Prop) (XC : String → State → State → Prop) (a : Array Value) (s : State) (mc ms : Nat) (free : Addr → Prop) : State → Prop := fun t =>
  ∃ o, t.status = .running ∧ Ended t below o ∧ vx_Q Qc XC mc ms free a s o t
theorem vx_ret {g : JFrame} {mc ms : Nat} (k : W p l e R s m args below meth c H locs cells slots (MQ below Qc args s mc ms free) g) : W p l e R s m args below meth c H locs cells slots (vx_MQ below Qc XC args s mc ms free) g := by
  intro T hT X
  obtain ⟨t, a1, o, b1, b2, b3, b4⟩ := k T hT X
  exact ⟨t, a1, o, b1, b2, Or.inl ⟨b3, b4⟩⟩
/-- not caught here: it goes on to the caller -/
theorem vx_widen {g : JFrame} {q : Addr} {k n : Nat} (h1 : cells ≤ k) (h2 : slots ≤ n) (kk : vx_W p l e R s m args below meth c H locs k n Q g q) : vx_W p l e R s m args below meth c H locs cells slots Q g q := fun T hT X => kk T hT (stand_widen X h1 h2)
theorem vx_out {pc : Nat} {E : String} {ce : Cell} {q : Addr} {mc ms : Nat} (hout : ∀ x ∈ c.exceptionTable.toList, covers x pc = false) (hlocks : meth.locks = false) (hcell : H[q]? = some ce) (hv : ce.vm = .none) (hcl : s.vm.findClass E = some ce.cls)
    (hx : ∀ t : State, t.heap = H → s.vm.Alike t.vm → XC E s t) (hf : ∀ z ∈ locs, free z.base) (hc : cells ≤ mc) (hs : slots ≤ ms) :
    vx_W p l e R s m args below meth c H locs cells slots (vx_MQ below Qc XC args s mc ms free) (F0 m pc ls rest) q := by
  intro T hT X
  obtain ⟨st1, hrun, hend, hW, hsm⟩ := X.leaveThrown q (g := F0 m pc ls rest) rfl rfl rfl hout hlocks
  have hcell9 : (T.setFrames (.throwing q :: below)).heap[q]? = some ce := by
    show T.heap[q]? = some ce
    rw [hT]; exact hcell
  exact ⟨_, st1, .threw q, hrun, hend, Or.inr ⟨q, rfl, E, ce, locs, hx _ hT hW.alike, hcell9, hv, hcl, hW, hsm.mono hc hs, hf⟩⟩
theorem vx_frame {U : State} {k n : Nat} (h : s.sameButNew ({ U with vm := s.vm } : State) locs k n) : s.heap.size ≤ U.heap.size ∧ ∀ q : Nat, q < s.heap.size → (∀ z ∈ locs, z.base ≠ q) → U.heap[q]? = s.heap[q]? := by
  obtain ⟨-, h2, -, -, -, h6⟩ := h
  refine ⟨h2, fun q hq hz => ?_⟩
  obtain ⟨c9, e1, e2, e3, e4⟩ := h6 q _ (Array.getElem?_eq_getElem hq)
  have hs : c9.slots = (s.heap[q]).slots := Array.ext_getElem? fun i => e4 i fun hm => hz _ hm rfl
  have h9 : c9 = s.heap[q] := by
    rw [hs] at e2
    exact e2
  have e5 : U.heap[q]? = some c9 := e1
  rw [e5, h9, Array.getElem?_eq_getElem hq]
/-- the words of a throw but the four that speak of the heap -/
def vx_no (w : Cond) : Bool := decide (w ≠ .isRef (.static Bundle.tN "UNASSIGNED_STACK" Bundle.steD)) && decide (w ≠ .isRef (.static Bundle.tN "SUPPRESSED_SENTINEL" Bundle.listD)) && decide (w ≠ .laysStatic Bundle.tN "UNASSIGNED_STACK" Bundle.steD) && decide (w ≠ .laysStatic Bundle.tN "SUPPRESSED_SENTINEL" Bundle.listD)
def vx_at0 (own : String) (ic : Nat) (X : String) (names : List String) : List Cond := (Bundle.ownAtoms0 own ic X names).filter vx_no
def vx_atS (own : String) (ic : Nat) (X : String) (names : List String) : List Cond := (Bundle.ownAtoms own ic X names).filter vx_no
/-- a word that the tables alone decide, or a good one -/
def vx_ot (w : Cond) : Bool := w.onTables || goodWord w
theorem vx_ot_at {args a' : Array Value} {s U : State} {w : Cond} (hW : s.WarmedH U.vm) (hvm : s.vm = U.vm) (hg : vx_ot w = true) (h : w.before args s = true) : w.before a' U = true := by
  simp only [vx_ot, Bool.or_eq_true] at hg
  rcases hg with hg | hg
  · exact va_tabs hg hvm h
  · exact word_at hW (good_of_word hg) h
/-- a list's words: the good ones out of the method's own list, the others by premises of their own -/
theorem vx_hat {args : Array Value} {s : State} {L B : List Cond} (h1 : ∀ w ∈ L.filter goodWord, w.before args s = true) (h2 : ∀ w ∈ L.filter (fun w => !goodWord w), w ∈ B) (h3 : ∀ w ∈ B, w.before args s = true) : ∀ w ∈ L, w.before args s = true := by
  intro w hw
  by_cases g : goodWord w = true
  · exact h1 w (List.mem_filter.mpr ⟨hw, g⟩)
  · refine h3 w (h2 w (List.mem_filter.mpr ⟨hw, ?_⟩))
    show (!goodWord w) = true
    cases hgw : goodWord w
    · rfl
    · exact absurd hgw g
theorem vx_c {args : Array Value} {s : State} {w : Cond} {B : List Cond} (h : w.before args s = true) (t : ∀ w ∈ B, w.before args s = true) : ∀ w' ∈ w :: B, w'.before args s = true := fun w' h' => (List.mem_cons.mp h').elim (fun e => by rw [e]; exact h) (t w')
theorem vx_n {args : Array Value} {s : State} : ∀ w ∈ ([] : List Cond), w.before args s = true := fun _ h => nomatch h
theorem vx_own {args : Array Value} {s : State} {L : List Cond} (h1 : ∀ w ∈ L.filter vx_no, w.before args s = true)
    (hU : (Cond.isRef (.static Bundle.tN "UNASSIGNED_STACK" Bundle.steD)).before args s = true) (hN : (Cond.isRef (.static Bundle.tN "SUPPRESSED_SENTINEL" Bundle.listD)).before args s = true)
    (lU : (Cond.laysStatic Bundle.tN "UNASSIGNED_STACK" Bundle.steD).before args s = true) (lN : (Cond.laysStatic Bundle.tN "SUPPRESSED_SENTINEL" Bundle.listD).before args s = true) : ∀ w ∈ L, w.before args s = true := by
  intro w hw
  by_cases e1 : w = .isRef (.static Bundle.tN "UNASSIGNED_STACK" Bundle.steD)
  · rw [e1]; exact hU
  · by_cases e2 : w = .isRef (.static Bundle.tN "SUPPRESSED_SENTINEL" Bundle.listD)
    · rw [e2]; exact hN
    · by_cases e3 : w = .laysStatic Bundle.tN "UNASSIGNED_STACK" Bundle.steD
      · rw [e3]; exact lU
      · by_cases e4 : w = .laysStatic Bundle.tN "SUPPRESSED_SENTINEL" Bundle.listD
        · rw [e4]; exact lN
        · exact h1 w (List.mem_filter.mpr ⟨hw, by unfold vx_no; rw [decide_eq_true e1, decide_eq_true e2, decide_eq_true e3, decide_eq_true e4]; rfl⟩)
/-- where a static field lies, its class's statics cell in H -/
def vx_L (C n d : String) (A : Nat → Prop) (U : State) (H : Heap) : Prop := ∃ (c : ClassId) (k : Class) (i : Nat) (f : Field) (a : Nat) (cell : Cell), U.vm.findClass C = some c ∧ U.fieldFound? C n d = some (c, k, i, f) ∧ f.isStatic = true ∧ k.statics = some a ∧ H[a]? = some cell ∧ cell.vm.isStatics = true ∧ cell.cls = c ∧ f.slot < cell.slots.size ∧ k.staticTypes[f.slot]? = some f.type ∧ ¬ A a
theorem vx_L.moved {C n d : String} {A : Nat → Prop} {u U : State} {H : Heap} (hvm : u.vm.Alike U.vm) (h : vx_L C n d A u H) : vx_L C n d A U H := by
  obtain ⟨c, k, i, f, a, cell, h1, h2, h3, h4, h5, h6, h7, h8, h9, h10⟩ := h
  obtain ⟨k', hi', he⟩ := State.fieldFound?_setVm hvm h2
  exact ⟨c, k', i, f, a, cell, by rw [hvm.findClass]; exact h1, hi', h3, by rw [he]; exact h4, h5, h6, h7, h8, by rw [he]; exact h9, h10⟩
theorem vx_L.kept {C n d : String} {A : Nat → Prop} {U : State} {H H1 : Heap} (h : vx_L C n d A U H) (hq : ∀ a : Nat, a < H.size → ¬ A a → H1[a]? = H[a]?) : vx_L C n d A U H1 := by
  obtain ⟨c, k, i, f, a, cell, h1, h2, h3, h4, h5, h6, h7, h8, h9, h10⟩ := h
  exact ⟨c, k, i, f, a, cell, h1, h2, h3, h4, by rw [hq a (Array.getElem?_eq_some_iff.mp h5).1 h10]; exact h5, h6, h7, h8, h9, h10⟩
theorem vx_L.narrow {C n d : String} {A B : Nat → Prop} {U : State} {H : Heap} (h : vx_L C n d A U H) (hAB : ∀ q, B q → A q) : vx_L C n d B U H := by
  obtain ⟨c, k, i, f, a, cell, h1, h2, h3, h4, h5, h6, h7, h8, h9, h10⟩ := h
  exact ⟨c, k, i, f, a, cell, h1, h2, h3, h4, h5, h6, h7, h8, h9, fun z => h10 (hAB _ z)⟩
theorem vx_L.word {C n d : String} {A : Nat → Prop} {s : State} {args : Array Value} (h : vx_L C n d A s s.heap) : (Cond.laysStatic C n d).before args s = true := by
  obtain ⟨c, k, i, f, a, cell, h1, h2, h3, h4, h5, h6, h7, h8, h9, -⟩ := h
  show (Cond.laysStatic C n d).holds args s none s [] = true
  exact Cond.laysStatic_of h1 h2 h3 h4 h5 h6 h7 h8 h9
/-- .. and what it holds: null or some reference -/
def vx_Zq (C n d : String) (A : Nat → Prop) (U : State) (H : Heap) : Prop := va_Zq C n d A U H ∧ vx_L C n d A U H
theorem vx_Zq.moved {C n d : String} {A : Nat → Prop} {u U : State} {H : Heap} (hvm : u.vm.Alike U.vm) (h : vx_Zq C n d A u H) : vx_Zq C n d A U H := ⟨va_Zq.moved hvm h.1, vx_L.moved hvm h.2⟩
theorem vx_Zq.kept {C n d : String} {A : Nat → Prop} {U : State} {H H1 : Heap} (h : vx_Zq C n d A U H) (hq : ∀ a : Nat, a < H.size → ¬ A a → H1[a]? = H[a]?) : vx_Zq C n d A U H1 := ⟨va_Zq.kept h.1 hq, vx_L.kept h.2 hq⟩
theorem vx_Zq.narrow {C n d : String} {A B : Nat → Prop} {U : State} {H : Heap} (h : vx_Zq C n d A U H) (hAB : ∀ q, B q → A q) : vx_Zq C n d B U H := ⟨va_Zq.narrow h.1 hAB, vx_L.narrow h.2 hAB⟩
theorem vx_Zqof {args : Array Value} {s : State} {C n d : String} {A : Nat → Prop} (hl : (Cond.laysStatic C n d).before args s = true) (hini : (Cond.initialized C).before args s = true) (h : (Cond.isRef (.static C n d)).before args s = true) (hA : ∀ a : Nat, a < s.heap.size → ¬ A a) : vx_Zq C n d A s s.heap := by
  refine ⟨va_Zqof hl hini h hA, ?_⟩
  obtain ⟨c, k, i, f, a, cell, h1, h2, h3, h4, h5, h6, h7, h8, h9⟩ := Cond.laysStatic_spec hl
  exact ⟨c, k, i, f, a, cell, h1, h2, h3, h4, h5, h6, h7, h8, h9, hA a (Array.getElem?_eq_some_iff.mp h5).1⟩
theorem vx_isRef {C n d : String} {v : Value} {A : Nat → Prop} {s : State} {args : Array Value} (h : va_Z C n d v A s s.heap) (hv : v.isRef = true) : (Cond.isRef (.static C n d)).before args s = true := by
  obtain ⟨cf, kf, fi, f, a, cell, h1, h2, h3, h4, h5, h6, h7, -⟩ := h
  have he : (Term.static C n d).eval args s none [] s = some v := by
    simp [Term.eval, State.fieldNamed?, h1, h2, h4, h5, h6, h7]
  simp only [Cond.before, Cond.holds, Cond.value, he]
  cases v <;> simp_all [Value.isRef]
theorem vx_isRefq {C n d : String} {A : Nat → Prop} {s : State} {args : Array Value} (h : va_Zq C n d A s s.heap) : (Cond.isRef (.static C n d)).before args s = true := by
  rcases h with h | ⟨t, h⟩
  · exact vx_isRef h rfl
  · exact vx_isRef h rfl
/-- the same frame, seen from here: as if the method were called anew in this heap -/
theorem vx_rebase {T : State} (X : Stand p l e R s m args below meth c T locs cells slots) {R' : Room} (hf : R'.frames ≤ R.frames) (hl : R'.locals ≤ R.locals) (hc : cells + R'.cells ≤ R.cells) (hs : slots + R'.slots ≤ R.slots) :
    Stand p l e R' ((T.setVm s.vm).setFrames (.invoking m args :: below)) m args below meth c T [] 0 0 := by
  have htop : (T.setVm s.vm).topJava?.isSome := X.here.top
  have hF : ((T.setVm s.vm).setFrames (.invoking m args :: below)).frames = .invoking m args :: below := State.frames_setFrames _ (State.cur_lt_of_top htop)
  obtain ⟨g₀, hg0⟩ := Option.isSome_iff_exists.mp htop
  obtain ⟨r, hr⟩ := State.topJava?_eq_some.mp hg0
  have hl9 : e.platform.stackLimits (T.setVm s.vm).me = e.platform.stackLimits s.me := X.limits
  have hb9 : (T.setVm s.vm).me.stackBytes = s.me.stackBytes := X.bytes
  refine ⟨X.admits, X.cas, X.clock, hF, ?_, X.hears, X.method, X.code, X.here, X.tail, X.warmed, ?_, ?_, ?_⟩
  · have h := X.room
    have hU : ((T.setVm s.vm).setFrames (.invoking m args :: below)).localsInUse = s.localsInUse := by
      rw [State.localsInUse_invoking hF (meth := meth) (c := c) X.method X.code, State.localsInUse_invoking X.frames X.method X.code]
    simp only [State.hasRoom, Bool.and_eq_true, decide_eq_true_eq] at h ⊢
    obtain ⟨⟨⟨⟨h1, h2, h3, h4, h5, h6⟩, h7⟩, h8⟩, h9⟩ := h
    rw [X.frames, List.length_cons] at h2 h3
    have q1 := X.heapSize
    have q2 := X.used
    simp only [hF, hU, List.length_cons, State.stackLimits_setFrames, State.stackBytes_setFrames, hl9, hb9]
    refine ⟨⟨⟨⟨by omega, by omega, by omega, by omega, by omega, h6⟩, ?_⟩, ?_⟩, X.book⟩
    · show T.heap.size + R'.cells ≤ e.platform.maxCells
      omega
    · show T.slotsUsed + R'.slots ≤ e.platform.maxSlots
      omega
  · rw [State.stackLimits_setFrames]; rfl
  · rw [State.stackBytes_setFrames]; rfl
  · refine ⟨?_, Nat.le_refl _, Nat.le_refl _, ?_, ?_, fun a c9 h9 => ⟨c9, h9, rfl, rfl, fun _ _ => rfl⟩⟩
    · obtain ⟨t, ht, -⟩ := State.frames_cons hr
      show T.setVm s.vm = { ((T.setVm s.vm).setFrames (.invoking m args :: below)).setFrames (T.setVm s.vm).frames with heap := T.heap, slotsUsed := T.slotsUsed }
      rw [State.setFrames_setFrames, State.setFrames_self ht]
      rfl
    · show T.slotsUsed = T.slotsUsed + ((T.heap.toList.drop T.heap.size).map (·.slots.size)).sum
      rw [List.drop_eq_nil_of_le (Nat.le_of_eq Array.length_toList)]
      rfl
    · show ((T.heap.toList.drop T.heap.size).map (·.slots.size)).sum ≤ 0
      rw [List.drop_eq_nil_of_le (Nat.le_of_eq Array.length_toList)]
      exact Nat.le_refl _
/-- 'throw new E()': new; dup; invokespecial; athrow -/
theorem vx_throw0 {cc : ByteArray} {pc : Nat} (hexec : p.tables.exec = Jvm.exec) (hb : c.code = cc) (hl : l.stackTraces = false) {own cls : String} {names : List String} {ik ic mc ms : Nat} {A : Nat → Prop}
    (hown : s.vm.findClass own = some m.cls) (hcls : Bundle.fit cls = true) (hnames : ∀ n ∈ names, Bundle.fit n = true)
    (hk : (Cond.classLink own ik cls).before args s = true) (hini : (Cond.initialized cls).before args s = true) (hat : ∀ w ∈ vx_at0 own ic cls names, w.before args s = true)
    (hgood : ∀ w ∈ Cond.classLink own ik cls :: Cond.initialized cls :: vx_at0 own ic cls names, vx_ot w = true)
    (hU : vx_Zq Bundle.tN "UNASSIGNED_STACK" Bundle.steD A s s.heap) (hN : vx_Zq Bundle.tN "SUPPRESSED_SENTINEL" Bundle.listD A s s.heap) (hS : va_S A s.heap H locs) (hsize : ls.size = c.maxLocals)
    (d0 : decode cc pc = .ok (.new ik, 3)) (d3 : decode cc (pc + 3) = .ok (.dup, 1)) (d4 : decode cc (pc + 4) = .ok (.invokespecial ic, 3)) (d7 : decode cc (pc + 7) = .ok (.athrow, 1))
    (hout : ∀ x ∈ c.exceptionTable.toList, covers x (pc + 7) = false)
    (hRframes : names.length + 3 < R.frames) (hRlocals : (rest.map fun v => v.category).sum + (13 * (names.length + 1) + 42) ≤ R.locals) (hRcells : cells + 1 ≤ R.cells) (hRslots : slots + 6 ≤ R.slots) (hlocks : meth.locks = false)
    (hx : ∀ t : State, s.vm.Alike t.vm → H.size ≤ t.heap.size → (∀ q : Nat, q < H.size → t.heap[q]? = H[q]?) → XC cls s t)
    (hf : ∀ z ∈ locs, free z.base) (hc : cells + 1 ≤ mc) (hs : slots + 6 ≤ ms) :
    W p l e R s m args below meth c H locs cells slots (vx_MQ below Qc XC args s mc ms free) (F0 m pc ls rest) := by
  intro T hT X
  have htr : e.platform.stackTraces = false := (show e.platform.stackTraces = l.stackTraces by rw [X.admits.platform]).trans hl
  have Y := vx_rebase X (R' := { frames := R.frames, locals := R.locals, cells := 1, slots := 6 }) (Nat.le_refl _) (Nat.le_refl _) hRcells hRslots
  obtain ⟨s', hA⟩ : ∃ z, z = (T.setVm s.vm).setFrames (.invoking m args :: below) := ⟨_, rfl⟩
  rw [← hA] at Y
  have hvm : s'.vm = s.vm := by rw [hA]; rfl
  have hhp : s'.heap = H := by rw [hA]; exact hT
  have hW0 : s.WarmedH s'.vm := by rw [hvm]; exact State.WarmedH.refl s
  have hat' : ∀ w ∈ vx_at0 own ic cls names, w.before args s' = true := fun w hw => vx_ot_at hW0 hvm.symm (hgood w (List.mem_cons_of_mem _ (List.mem_cons_of_mem _ hw))) (hat w hw)
  have hk' : (Cond.classLink own ik cls).before args s' = true := vx_ot_at hW0 hvm.symm (hgood _ List.mem_cons_self) hk
  have hini' : (Cond.initialized cls).before args s' = true := vx_ot_at hW0 hvm.symm (hgood _ (List.mem_cons_of_mem _ List.mem_cons_self)) hini
  have hU' : vx_Zq Bundle.tN "UNASSIGNED_STACK" Bundle.steD A s' s'.heap := by rw [hhp]; exact vx_Zq.moved hW0.alike (hU.kept hS.2.1)
  have hN' : vx_Zq Bundle.tN "SUPPRESSED_SENTINEL" Bundle.listD A s' s'.heap := by rw [hhp]; exact vx_Zq.moved hW0.alike (hN.kept hS.2.1)
  have h : ∀ w ∈ Bundle.ownAtoms0 own ic cls names, w.before args s' = true := vx_own hat' (vx_isRefq hU'.1) (vx_isRefq hN'.1) hU'.2.word hN'.2.word
  have hown' : s'.vm.findClass own = some m.cls := by rw [hvm]; exact hown
  have hins : (Cond.instantiable cls 6).before args s' = true := h _ (by simp [Bundle.ownAtoms0])
  obtain ⟨vm₁, cX, kX, hfX, hkX, -, -, X₁, st1⟩ := Y.newCold hexec (own := own) (C := cls) (index := ik) (n := 6) hown' hk' hins hini'
    (g := F0 m pc ls rest) rfl (by rw [hb]; exact d0) (Nat.le_refl _) (Nat.le_refl _)
  generalize hT1 : (T.setVm vm₁).pushCell { cls := cX, slots := kX.instanceTypes.map defaultValue, vm := .none } = T1 at X₁ st1
  have hcat : (Value.ref T.heap.size).category = 1 := rfl
  have hcellA : T1.heap[T.heap.size]? = some (freshCell cX kX) := by rw [← hT1]; exact State.heap_pushCell_size _ _
  have d3' : decode c.code (pc + 3) = .ok (.dup, 1) := by rw [hb]; exact d3
  obtain ⟨U, hsteps, hrun, hend, hW, hsame, ce, hce, hO⟩ := X₁.ctorThrow0 hexec htr (own := own) (cls := cls) (names := names) (ic := ic) hown' hcls hnames h (fun x hx => nomatch hx) hfX hkX hcellA (by rw [hhp, hT]; exact Nat.le_refl _)
    (g := { method := m, pc := pc + 4, locals := ls, stack := .ref T.heap.size :: .ref T.heap.size :: rest, locked := none }) rfl hsize rfl rfl (rest := rest) rfl
    (by rw [hb]; exact d4) (by rw [hb]; exact d7) hout hRframes (by simp only [List.map_cons, List.sum_cons, hcat]; omega) hlocks
  obtain ⟨f1, f2⟩ := vx_frame hsame
  rw [hhp] at f1 f2
  have hWs : s.WarmedH U.vm := State.WarmedH.trans hW0 hW
  have hcl : s.vm.findClass cls = some ce.cls := by
    have h9 := hO.cls
    rw [hvm] at h9
    exact h9
  have hall : s.sameButNew ({ U with vm := s.vm } : State) locs mc ms := by
    subst hA
    obtain ⟨e1, e2⟩ := hsame
    rw [State.setFrames_setFrames] at e1
    have h2 : (T.setVm s.vm).sameButNew ({ U with vm := s.vm } : State) [] (0 + 1) (0 + 6) := ⟨e1, e2⟩
    have h3 := X.same.trans h2
    rw [List.append_nil] at h3
    exact h3.mono hc hs
  refine ⟨U, ?_, .threw T.heap.size, hrun, hend, Or.inr ⟨T.heap.size, rfl, cls, ce, locs, hx U hWs.alike f1 (fun q hq => f2 q hq (fun z hz => nomatch hz)), hce, hO.vm, hcl, hWs, hall, hf⟩⟩
  refine st1 _ ?_
  show Steps p.tables e below (T1.setTop { method := m, pc := pc + 3, locals := ls, stack := .ref T.heap.size :: rest, locked := none }) _
  jvm_step X₁.here [X₁.here.top, hexec, d3', Value.category]
  exact hsteps
/-- 'throw new E("text")': new; dup; ldc; invokespecial; athrow -/
theorem vx_throwS {cc : ByteArray} {pc : Nat} (hexec : p.tables.exec = Jvm.exec) (hb : c.code = cc) (hl : l.stackTraces = false) {own cls text : String} {names : List String} {ik is ic mc ms sa : Nat} {A : Nat → Prop}
    (hown : s.vm.findClass own = some m.cls) (hcls : Bundle.fit cls = true) (hnames : ∀ n ∈ names, Bundle.fit n = true)
    (hk : (Cond.classLink own ik cls).before args s = true) (hini : (Cond.initialized cls).before args s = true) (hstr : vk_R own is text sa s) (hat : ∀ w ∈ vx_atS own ic cls names, w.before args s = true)
    (hgood : ∀ w ∈ Cond.classLink own ik cls :: Cond.initialized cls :: vx_atS own ic cls names, vx_ot w = true)
    (hU : vx_Zq Bundle.tN "UNASSIGNED_STACK" Bundle.steD A s s.heap) (hN : vx_Zq Bundle.tN "SUPPRESSED_SENTINEL" Bundle.listD A s s.heap) (hS : va_S A s.heap H locs) (hsize : ls.size = c.maxLocals)
    (d0 : decode cc pc = .ok (.new ik, 3)) (d3 : decode cc (pc + 3) = .ok (.dup, 1)) (d4 : decode cc (pc + 4) = .ok (.ldc is, 2)) (d6 : decode cc (pc + 6) = .ok (.invokespecial ic, 3)) (d9 : decode cc (pc + 9) = .ok (.athrow, 1))
    (hout : ∀ x ∈ c.exceptionTable.toList, covers x (pc + 9) = false)
    (hRframes : names.length + 3 < R.frames) (hRlocals : (rest.map fun v => v.category).sum + (13 * (names.length + 1) + 43) ≤ R.locals) (hRcells : cells + 1 ≤ R.cells) (hRslots : slots + 6 ≤ R.slots) (hlocks : meth.locks = false)
    (hx : ∀ t : State, s.vm.Alike t.vm → H.size ≤ t.heap.size → (∀ q : Nat, q < H.size → t.heap[q]? = H[q]?) → XC cls s t)
    (hf : ∀ z ∈ locs, free z.base) (hc : cells + 1 ≤ mc) (hs : slots + 6 ≤ ms) :
    W p l e R s m args below meth c H locs cells slots (vx_MQ below Qc XC args s mc ms free) (F0 m pc ls rest) := by
  intro T hT X
  have htr : e.platform.stackTraces = false := (show e.platform.stackTraces = l.stackTraces by rw [X.admits.platform]).trans hl
  have Y := vx_rebase X (R' := { frames := R.frames, locals := R.locals, cells := 1, slots := 6 }) (Nat.le_refl _) (Nat.le_refl _) hRcells hRslots
  obtain ⟨s', hA⟩ : ∃ z, z = (T.setVm s.vm).setFrames (.invoking m args :: below) := ⟨_, rfl⟩
  rw [← hA] at Y
  have hvm : s'.vm = s.vm := by rw [hA]; rfl
  have hhp : s'.heap = H := by rw [hA]; exact hT
  have hW0 : s.WarmedH s'.vm := by rw [hvm]; exact State.WarmedH.refl s
  have hat' : ∀ w ∈ vx_atS own ic cls names, w.before args s' = true := fun w hw => vx_ot_at hW0 hvm.symm (hgood w (List.mem_cons_of_mem _ (List.mem_cons_of_mem _ hw))) (hat w hw)
  have hk' : (Cond.classLink own ik cls).before args s' = true := vx_ot_at hW0 hvm.symm (hgood _ List.mem_cons_self) hk
  have hini' : (Cond.initialized cls).before args s' = true := vx_ot_at hW0 hvm.symm (hgood _ (List.mem_cons_of_mem _ List.mem_cons_self)) hini
  have hU' : vx_Zq Bundle.tN "UNASSIGNED_STACK" Bundle.steD A s' s'.heap := by rw [hhp]; exact vx_Zq.moved hW0.alike (hU.kept hS.2.1)
  have hN' : vx_Zq Bundle.tN "SUPPRESSED_SENTINEL" Bundle.listD A s' s'.heap := by rw [hhp]; exact vx_Zq.moved hW0.alike (hN.kept hS.2.1)
  have h : ∀ w ∈ Bundle.ownAtoms own ic cls names, w.before args s' = true := vx_own hat' (vx_isRefq hU'.1) (vx_isRefq hN'.1) hU'.2.word hN'.2.word
  have hown' : s'.vm.findClass own = some m.cls := by rw [hvm]; exact hown
  have hins : (Cond.instantiable cls 6).before args s' = true := h _ (by simp [Bundle.ownAtoms])
  obtain ⟨vm₁, cX, kX, hfX, hkX, -, -, X₁, st1⟩ := Y.newCold hexec (own := own) (C := cls) (index := ik) (n := 6) hown' hk' hins hini'
    (g := F0 m pc ls rest) rfl (by rw [hb]; exact d0) (Nat.le_refl _) (Nat.le_refl _)
  generalize hT1 : (T.setVm vm₁).pushCell { cls := cX, slots := kX.instanceTypes.map defaultValue, vm := .none } = T1 at X₁ st1
  have hcat : (Value.ref T.heap.size).category = 1 := rfl
  have hcellA : T1.heap[T.heap.size]? = some (freshCell cX kX) := by rw [← hT1]; exact State.heap_pushCell_size _ _
  have d3' : decode c.code (pc + 3) = .ok (.dup, 1) := by rw [hb]; exact d3
  have d4' : decode c.code (pc + 4) = .ok (.ldc is, 2) := by rw [hb]; exact d4
  have hstr' : vk_R own is text sa s' := vk_R.warm hW0 hstr
  obtain ⟨U, hsteps, hrun, hend, hW, hsame, ce, hce, hO⟩ := X₁.ctorThrowS hexec htr (own := own) (cls := cls) (names := names) (ic := ic) hown' hcls hnames h (fun x hx => nomatch hx) hfX hkX hcellA (by rw [hhp, hT]; exact Nat.le_refl _) (msg := .ref sa) rfl
    (g := { method := m, pc := pc + 6, locals := ls, stack := .ref sa :: .ref T.heap.size :: .ref T.heap.size :: rest, locked := none }) rfl hsize rfl rfl (rest := rest) rfl
    (by rw [hb]; exact d6) (by rw [hb]; exact d9) hout hRframes (by simp only [List.map_cons, List.sum_cons, hcat]; omega) hlocks
  obtain ⟨f1, f2⟩ := vx_frame hsame
  rw [hhp] at f1 f2
  have hWs : s.WarmedH U.vm := State.WarmedH.trans hW0 hW
  have hcl : s.vm.findClass cls = some ce.cls := by
    have h9 := hO.cls
    rw [hvm] at h9
    exact h9
  have hall : s.sameButNew ({ U with vm := s.vm } : State) locs mc ms := by
    subst hA
    obtain ⟨e1, e2⟩ := hsame
    rw [State.setFrames_setFrames] at e1
    have h2 : (T.setVm s.vm).sameButNew ({ U with vm := s.vm } : State) [] (0 + 1) (0 + 6) := ⟨e1, e2⟩
    have h3 := X.same.trans h2
    rw [List.append_nil] at h3
    exact h3.mono hc hs
  refine ⟨U, ?_, .threw T.heap.size, hrun, hend, Or.inr ⟨T.heap.size, rfl, cls, ce, locs, hx U hWs.alike f1 (fun q hq => f2 q hq (fun z hz => nomatch hz)), hce, hO.vm, hcl, hWs, hall, hf⟩⟩
  refine st1 _ ?_
  show Steps p.tables e below (T1.setTop { method := m, pc := pc + 3, locals := ls, stack := .ref T.heap.size :: rest, locked := none }) _
  jvm_step X₁.here [X₁.here.top, hexec, d3', Value.category]
  exact X₁.ldcString hexec (own := own) (text := text) (index := is) (a := sa) hown' hstr'.1 hstr'.2
    (g := { method := m, pc := pc + 4, locals := ls, stack := .ref T.heap.size :: .ref T.heap.size :: rest, locked := none }) rfl d4' _ hsteps
/-- 'throw new E("text")', the text by a wide index -/
theorem vx_throwSW {cc : ByteArray} {pc : Nat} (hexec : p.tables.exec = Jvm.exec) (hb : c.code = cc) (hl : l.stackTraces = false) {own cls text : String} {names : List String} {ik is ic mc ms sa : Nat} {A : Nat → Prop}
    (hown : s.vm.findClass own = some m.cls) (hcls : Bundle.fit cls = true) (hnames : ∀ n ∈ names, Bundle.fit n = true)
    (hk : (Cond.classLink own ik cls).before args s = true) (hini : (Cond.initialized cls).before args s = true) (hstr : vk_R own is text sa s) (hat : ∀ w ∈ vx_atS own ic cls names, w.before args s = true)
    (hgood : ∀ w ∈ Cond.classLink own ik cls :: Cond.initialized cls :: vx_atS own ic cls names, vx_ot w = true)
    (hU : vx_Zq Bundle.tN "UNASSIGNED_STACK" Bundle.steD A s s.heap) (hN : vx_Zq Bundle.tN "SUPPRESSED_SENTINEL" Bundle.listD A s s.heap) (hS : va_S A s.heap H locs) (hsize : ls.size = c.maxLocals)
    (d0 : decode cc pc = .ok (.new ik, 3)) (d3 : decode cc (pc + 3) = .ok (.dup, 1)) (d4 : decode cc (pc + 4) = .ok (.ldc_w is, 3)) (d7 : decode cc (pc + 7) = .ok (.invokespecial ic, 3)) (d10 : decode cc (pc + 10) = .ok (.athrow, 1))
    (hout : ∀ x ∈ c.exceptionTable.toList, covers x (pc + 10) = false)
    (hRframes : names.length + 3 < R.frames) (hRlocals : (rest.map fun v => v.category).sum + (13 * (names.length + 1) + 43) ≤ R.locals) (hRcells : cells + 1 ≤ R.cells) (hRslots : slots + 6 ≤ R.slots) (hlocks : meth.locks = false)
    (hx : ∀ t : State, s.vm.Alike t.vm → H.size ≤ t.heap.size → (∀ q : Nat, q < H.size → t.heap[q]? = H[q]?) → XC cls s t)
    (hf : ∀ z ∈ locs, free z.base) (hc : cells + 1 ≤ mc) (hs : slots + 6 ≤ ms) :
    W p l e R s m args below meth c H locs cells slots (vx_MQ below Qc XC args s mc ms free) (F0 m pc ls rest) := by
  intro T hT X
  have htr : e.platform.stackTraces = false := (show e.platform.stackTraces = l.stackTraces by rw [X.admits.platform]).trans hl
  have Y := vx_rebase X (R' := { frames := R.frames, locals := R.locals, cells := 1, slots := 6 }) (Nat.le_refl _) (Nat.le_refl _) hRcells hRslots
  obtain ⟨s', hA⟩ : ∃ z, z = (T.setVm s.vm).setFrames (.invoking m args :: below) := ⟨_, rfl⟩
  rw [← hA] at Y
  have hvm : s'.vm = s.vm := by rw [hA]; rfl
  have hhp : s'.heap = H := by rw [hA]; exact hT
  have hW0 : s.WarmedH s'.vm := by rw [hvm]; exact State.WarmedH.refl s
  have hat' : ∀ w ∈ vx_atS own ic cls names, w.before args s' = true := fun w hw => vx_ot_at hW0 hvm.symm (hgood w (List.mem_cons_of_mem _ (List.mem_cons_of_mem _ hw))) (hat w hw)
  have hk' : (Cond.classLink own ik cls).before args s' = true := vx_ot_at hW0 hvm.symm (hgood _ List.mem_cons_self) hk
  have hini' : (Cond.initialized cls).before args s' = true := vx_ot_at hW0 hvm.symm (hgood _ (List.mem_cons_of_mem _ List.mem_cons_self)) hini
  have hU' : vx_Zq Bundle.tN "UNASSIGNED_STACK" Bundle.steD A s' s'.heap := by rw [hhp]; exact vx_Zq.moved hW0.alike (hU.kept hS.2.1)
  have hN' : vx_Zq Bundle.tN "SUPPRESSED_SENTINEL" Bundle.listD A s' s'.heap := by rw [hhp]; exact vx_Zq.moved hW0.alike (hN.kept hS.2.1)
  have h : ∀ w ∈ Bundle.ownAtoms own ic cls names, w.before args s' = true := vx_own hat' (vx_isRefq hU'.1) (vx_isRefq hN'.1) hU'.2.word hN'.2.word
  have hown' : s'.vm.findClass own = some m.cls := by rw [hvm]; exact hown
  have hins : (Cond.instantiable cls 6).before args s' = true := h _ (by simp [Bundle.ownAtoms])
  obtain ⟨vm₁, cX, kX, hfX, hkX, -, -, X₁, st1⟩ := Y.newCold hexec (own := own) (C := cls) (index := ik) (n := 6) hown' hk' hins hini'
    (g := F0 m pc ls rest) rfl (by rw [hb]; exact d0) (Nat.le_refl _) (Nat.le_refl _)
  generalize hT1 : (T.setVm vm₁).pushCell { cls := cX, slots := kX.instanceTypes.map defaultValue, vm := .none } = T1 at X₁ st1
  have hcat : (Value.ref T.heap.size).category = 1 := rfl
  have hcellA : T1.heap[T.heap.size]? = some (freshCell cX kX) := by rw [← hT1]; exact State.heap_pushCell_size _ _
  have d3' : decode c.code (pc + 3) = .ok (.dup, 1) := by rw [hb]; exact d3
  have d4' : decode c.code (pc + 4) = .ok (.ldc_w is, 3) := by rw [hb]; exact d4
  have hstr' : vk_R own is text sa s' := vk_R.warm hW0 hstr
  obtain ⟨U, hsteps, hrun, hend, hW, hsame, ce, hce, hO⟩ := X₁.ctorThrowS hexec htr (own := own) (cls := cls) (names := names) (ic := ic) hown' hcls hnames h (fun x hx => nomatch hx) hfX hkX hcellA (by rw [hhp, hT]; exact Nat.le_refl _) (msg := .ref sa) rfl
    (g := { method := m, pc := pc + 7, locals := ls, stack := .ref sa :: .ref T.heap.size :: .ref T.heap.size :: rest, locked := none }) rfl hsize rfl rfl (rest := rest) rfl
    (by rw [hb]; exact d7) (by rw [hb]; exact d10) hout hRframes (by simp only [List.map_cons, List.sum_cons, hcat]; omega) hlocks
  obtain ⟨f1, f2⟩ := vx_frame hsame
  rw [hhp] at f1 f2
  have hWs : s.WarmedH U.vm := State.WarmedH.trans hW0 hW
  have hcl : s.vm.findClass cls = some ce.cls := by
    have h9 := hO.cls
    rw [hvm] at h9
    exact h9
  have hall : s.sameButNew ({ U with vm := s.vm } : State) locs mc ms := by
    subst hA
    obtain ⟨e1, e2⟩ := hsame
    rw [State.setFrames_setFrames] at e1
    have h2 : (T.setVm s.vm).sameButNew ({ U with vm := s.vm } : State) [] (0 + 1) (0 + 6) := ⟨e1, e2⟩
    have h3 := X.same.trans h2
    rw [List.append_nil] at h3
    exact h3.mono hc hs
  refine ⟨U, ?_, .threw T.heap.size, hrun, hend, Or.inr ⟨T.heap.size, rfl, cls, ce, locs, hx U hWs.alike f1 (fun q hq => f2 q hq (fun z hz => nomatch hz)), hce, hO.vm, hcl, hWs, hall, hf⟩⟩
  refine st1 _ ?_
  show Steps p.tables e below (T1.setTop { method := m, pc := pc + 3, locals := ls, stack := .ref T.heap.size :: rest, locked := none }) _
  jvm_step X₁.here [X₁.here.top, hexec, d3', Value.category]
  exact X₁.ldcStringW hexec (own := own) (text := text) (index := is) (a := sa) hown' hstr'.1 hstr'.2
    (g := { method := m, pc := pc + 4, locals := ls, stack := .ref T.heap.size :: .ref T.heap.size :: rest, locked := none }) rfl d4' _ hsteps
end Ends
section Bodies
variable {l : Launch}
theorem vx_ofW {y : MethodName} {ws ws' : List Cond} {rm : Room} {Pc : Array Value → State → Prop} {Qc : Array Value → State → Outcome → State → Prop} {XC : String → State → State → Prop} {mc ms : Nat} {free : Addr → Prop} {cc : ByteArray} {maxL : Nat} {ret : Option FieldType}
    (hy : plainName y.cls = true) (hw : ws = Cond.code y cc maxL ret :: ws')
    (body : ∀ p e s m args below meth c s₁, BodyLoose p l y (headSpec ws rm) cc maxL ret e s m args below meth c s₁ → c.maxLocals = maxL → (∀ x ∈ c.exceptionTable.toList, False) → Pc args s →
      W p l e (headSpec ws rm).room s m args below meth c s.heap [] 0 0 (vx_MQ below Qc XC args s mc ms free) (entryFrame m args maxL)) : vx_Met l y ws rm Pc Qc XC mc ms free := by
  refine MetFree.of_bodyS (code := cc) (maxLocals := maxL) (ret := ret) hy ?_ ?_
  · intro args s m h hn
    obtain ⟨meth, c, h1, h2, h3, h4, h5, h6, -, -⟩ := Cond.code_spec hn (atoms_spec (ws := ws) h _ (by rw [hw]; exact List.mem_cons_self))
    exact ⟨meth, c, h1, h2, h3, h4, h5, h6⟩
  · intro p e s m args below meth c s₁ B hml hP _
    have hh0 : s₁.heap = s.heap := by rw [B.state]; rfl
    have ht : ∀ x ∈ c.exceptionTable.toList, False := by
      obtain ⟨meth9, c9, h1, h2, -, -, -, -, h7, -⟩ := Cond.code_spec B.named (atoms_spec (ws := ws) B.pre _ (by rw [hw]; exact List.mem_cons_self))
      cases Option.some.inj (h1.symm.trans B.method)
      cases Option.some.inj (h2.symm.trans (Stand.of_body B).code)
      intro x hx
      rw [Array.isEmpty_iff.mp h7] at hx
      cases hx
    obtain ⟨t, a1, o, b1, b2, b3⟩ := body p e s m args below meth c s₁ B hml ht hP s₁ hh0 (Stand.of_body B)
    exact ⟨t, o, a1, b1, b2, b3⟩
/-- the table of a body with handlers -/
theorem vx_table {p : Program} {x y : MethodName} {S : Spec} {cc bytes : ByteArray} {maxL maxL' : Nat} {ret ret' : Option FieldType} {e : Env} {s s₁ : State} {m : MethodId} {args : Array Value} {below : List Frame} {meth : Method} {c : Code} {hh : List (Nat × Nat × Nat × Nat)}
    (B : BodyLoose p l y S cc maxL ret e s m args below meth c s₁) (h : (Cond.codeWith y bytes maxL' ret' hh).before args s = true) : c.exceptionTable.toList = tableOf hh := by
  obtain ⟨m9, meth9, c9, hn9, h1, h2, -, -, h6, -⟩ := Cond.codeWith_spec h
  cases Option.some.inj (hn9.symm.trans B.named)
  cases Option.some.inj (h1.symm.trans B.method)
  cases Option.some.inj (h2.symm.trans (Stand.of_body B).code)
  rw [← h6, table_eq]
end Bodies
end VXA
/-! ===== END ===== -/
/-! ===== BEGIN a static call of a method with an exception table ===== -/
section VXS
variable {p : Program} {l : Launch} {e : Env} {R : Room} {s : State} {m : MethodId} {args : Array Value} {below : List Frame} {meth : Method} {c : Code} {T : State} {H : Heap} {locs : List Loc} {cells slots : Nat}
abbrev vx_CSW (R : Room) (s : State) (args : Array Value) (own : String) (index : Nat) (y : MethodName) (bytes : ByteArray) (maxL : Nat) (ret : Option FieldType) (hh : List (Nat × Nat × Nat × Nat)) (ws : List Cond) (rm : Room) (mc ms n : Nat) : Prop :=
  (rm.cells = mc ∧ rm.slots = ms ∧ rm.frames + 1 ≤ R.frames ∧ 8 + (maxL + 11) + rm.locals ≤ R.locals ∧ (∀ w ∈ ws, ∀ (a' : Array Value) (U : State), s.WarmedH U.vm → w.before a' U = true) ∧ Cond.codeWith y bytes maxL ret hh ∈ ws) ∧
  (Cond.codeWith y bytes maxL ret hh).before args s = true ∧ (Cond.initialized y.cls).before args s = true ∧ (y.cls ≠ "java/lang/invoke/MethodHandle" ∧ y.cls ≠ "java/lang/invoke/VarHandle") ∧
  (∀ sig, parseMethodDescriptor y.desc = some sig → n = sig.parameters.length) ∧ (Cond.methodLink own index y).before args s = true ∧ (Cond.static y).before args s = true
theorem vx_cwSW {own : String} {index maxL mc ms : Nat} {y : MethodName} {bytes : ByteArray} {ret : Option FieldType} {hh : List (Nat × Nat × Nat × Nat)} {Ts ws ws' : List Cond} {rm : Room} (n : Nat) (ht : ∀ w ∈ Ts, w.before args s = true) (hT : GoodIn Ts (va_wsS own index y ws)) (hw : ws = Cond.codeWith y bytes maxL ret hh :: ws') (hrc : rm.cells = mc) (hrs : rm.slots = ms)
    (hd : y.cls ≠ "java/lang/invoke/MethodHandle" ∧ y.cls ≠ "java/lang/invoke/VarHandle" ∧ (parseMethodDescriptor y.desc).map (fun d => d.parameters.length) = some n) (hR : rm.frames + 1 ≤ R.frames ∧ 8 + (maxL + 11) + rm.locals ≤ R.locals) :
    vx_CSW R s args own index y bytes maxL ret hh ws rm mc ms n := by
  have ok : ∀ w ∈ va_wsS own index y ws, w.before args s = true := fun w h => ht w (hT w h).1
  have hG : GoodIn Ts ws := fun w h => hT w (by unfold va_wsS; exact List.mem_append_right _ h)
  have hc : Cond.codeWith y bytes maxL ret hh ∈ ws := by rw [hw]; exact List.mem_cons_self
  refine ⟨⟨hrc, hrs, hR.1, hR.2, pay_in ht hG, hc⟩, ht _ (hG _ hc).1, ok _ (by simp [va_wsS]), ⟨hd.1, hd.2.1⟩, fun sig h => ?_, ok _ (by simp [va_wsS]), ok _ (by simp [va_wsS])⟩
  have h2 := hd.2.2
  rw [h] at h2
  exact (Option.some.inj h2).symm
theorem vx_callSW (X : Stand p l e R s m args below meth c T locs cells slots) (hexec : p.tables.exec = Jvm.exec) {own : String} {index : Nat} {y : MethodName} {bytes : ByteArray} {maxL : Nat} {ret : Option FieldType} {hh : List (Nat × Nat × Nat × Nat)}
    (hown : s.vm.findClass own = some m.cls) (hlink : (Cond.methodLink own index y).before args s = true) (hstat : (Cond.static y).before args s = true) (hinit : (Cond.initialized y.cls).before args s = true)
    (hcode : (Cond.codeWith y bytes maxL ret hh).before args s = true) (hy : y.cls ≠ "java/lang/invoke/MethodHandle" ∧ y.cls ≠ "java/lang/invoke/VarHandle")
    {W9 : Nat} {Pre : Pt → Array Value → Prop} {Post : Pt → Array Value → Option Value → Pt → Prop} (hK : Back l R p e below s args y 3 W9 Pre Post)
    {g : JFrame} (hg : g.method = m) (hsize : g.locals.size = c.maxLocals) {argsL rest : List Value} (hlen : ∀ sig, parseMethodDescriptor y.desc = some sig → argsL.length = sig.parameters.length)
    (hstack : g.stack = argsL.reverse ++ rest) (hW : 2 * g.monitorRoom + (rest.map fun v => v.category).sum ≤ W9) (hdg : decode c.code g.pc = .ok (.invokestatic index, 3))
    (hpre : ∀ vm₁, s.WarmedH vm₁ → Pre ⟨T.setVm vm₁, locs, cells, slots⟩ argsL.toArray) :
    ∃ (v : Option Value) (vm₁ : Vm) (B : Pt), s.WarmedH vm₁ ∧ Stand p l e R s m args below meth c B.U B.locs B.cells B.slots ∧ Post ⟨T.setVm vm₁, locs, cells, slots⟩ argsL.toArray v B ∧
      ∀ target, Steps p.tables e below (B.U.setTop { g with pc := g.pc + 3, stack := v.toList ++ rest }) target → Steps p.tables e below (T.setTop g) target := by
  obtain ⟨mk, methM, cM, hnamed, hmethM, -, -, -, -, -, -, hsigM⟩ := Cond.codeWith_spec hcode
  have hstatic : methM.isStatic = true := Cond.static_spec hnamed hmethM hstat
  obtain ⟨kP, hkP, -⟩ := className_of_methodNamed hnamed
  have hinitP : kP.init = .initialized := Cond.initialized_spec (findClass_of_methodNamed hnamed) hkP hinit
  obtain ⟨vm₁, X₁, hstep₁⟩ := X.invokestatic hexec hown hlink hnamed hmethM hstatic hkP hinitP hy (g := g) hg (argsL := argsL) (rest := rest) (hlen _ hsigM) hstack hdg
  obtain ⟨v, B, X', hpost, hsteps⟩ := hK m meth c ⟨T.setVm vm₁, locs, cells, slots⟩ { g with stack := rest } (.invokestatic index) mk argsL.toArray X₁ hg hsize hdg hW (X₁.named hnamed) (hpre vm₁ X₁.warmed)
  exact ⟨v, vm₁, B, X₁.warmed, X', hpost, fun target h => hstep₁ _ fun acts => by rw [doInvoke_state]; exact hsteps.trans h⟩
theorem vx_runSW {y : MethodName} {bytes cc : ByteArray} {maxL nL mc ms n index : Nat} {ret : Option FieldType} {hh : List (Nat × Nat × Nat × Nat)} {ws : List Cond} {rm : Room} {Pc : Array Value → State → Prop} {Qc : Array Value → State → Outcome → State → Prop} {free : Addr → Prop} {Ts : List Cond} {own : String} {As rest : List Value} {g : JFrame}
    (S : CallFix p m c cc nL s args Ts own) (hM : Met l y ws rm Pc Qc mc ms free) (cw : vx_CSW R s args own index y bytes maxL ret hh ws rm mc ms n) (hp : PreS s H Pc As)
    (hg : g.method = m) (hn : As.length = n) (hsize : g.locals.size = nL) (hstack : g.stack = As.reverse ++ rest) (hW : 2 * g.monitorRoom + (rest.map fun v => v.category).sum ≤ 8) (hdg : decode cc g.pc = .ok (.invokestatic index, 3)) (hf : cells + mc ≤ R.cells ∧ slots + ms ≤ R.slots) :
    va_Run p l e R s m args below meth c H locs cells slots mc ms g rest (Qc As.toArray) (free) := by
  obtain ⟨⟨hrc, hrs, hfr, hlo, hws, hcw⟩, hcode, hini, hy, hlen, hl, hstt⟩ := cw
  have hK : Back l R p e below s args y 3 8 (PreOf R mc ms Pc) (PostOf Qc mc ms free) := va_backW (hh := hh) (bytes := bytes) (maxL := maxL) (ret := ret) hM hp.1 hrc hrs hfr hlo hws hcw (fun a' U hW => word_at hW (Or.inl (by first | rfl | simp [Cond.onTables, Cond.keeps, Cond.steady])) hini)
  obtain ⟨hx, hb, hml, ho, -⟩ := S
  intro T hT X
  obtain ⟨v, vm₁, ⟨U', l2, c2, s2⟩, hW₁, X', ⟨g', mk, t, L, e1, e2, hq, h1, hL, h2, h3⟩, st⟩ := vx_callSW X hx (hh := hh) (bytes := bytes) (maxL := maxL) (ret := ret) ho hl hstt hini hcode hy hK hg (hsize.trans hml.symm) (argsL := As) (rest := rest) (fun sig h => hn.trans (hlen sig h)) hstack hW (by rw [hb]; exact hdg)
    (fun vm₁ hW₁ => ⟨hf.1, hf.2, hp.2 (T.setVm vm₁) hT hW₁⟩)
  dsimp only [Pt.U, Pt.locs, Pt.cells, Pt.slots] at X' e1 e2 h1 h2 h3 st
  subst h1; subst h2; subst h3
  exact ⟨v, (T.setVm vm₁).calling g' mk As.toArray, t, U', L, hT, X', hL, e1, e2, hq, st⟩
/-- not caught here, past rows that name other classes: it goes on to the caller -/
theorem vx_outP {p : Program} {l : Launch} {e : Env} {R : Room} {s : State} {m : MethodId} {args : Array Value} {below : List Frame} {meth : Method} {c : Code} {H : Heap} {locs : List Loc} {cells slots : Nat} {free : Addr → Prop} {ls : Array Slot} {rest : List Value} {Qc : Array Value → State → Outcome → State → Prop} {XC : String → State → State → Prop}
    {pc : Nat} {own E : String} {ce : Cell} {q : Addr} {mc ms : Nat} (hown : s.vm.findClass own = some m.cls) (hlocks : meth.locks = false)
    (hpass : ∀ z ∈ c.exceptionTable.toList, covers z pc = false ∨ (z.catchType ≠ 0 ∧ ∃ nm : String, (Cond.classLink own z.catchType nm).before args s = true ∧ va_Nc E nm s)) (hcell : H[q]? = some ce) (hv : ce.vm = .none) (hcl : s.vm.findClass E = some ce.cls)
    (hx : ∀ t : State, t.heap = H → s.vm.Alike t.vm → XC E s t) (hf : ∀ z ∈ locs, free z.base) (hc : cells ≤ mc) (hs : slots ≤ ms) :
    vx_W p l e R s m args below meth c H locs cells slots (vx_MQ below Qc XC args s mc ms free) (F0 m pc ls rest) q := by
  intro T hT X
  have hpl : e.platform.magicAccessors = ({} : Platform).magicAccessors := by rw [X.admits.platform]
  obtain ⟨vm', hW', X', st⟩ := X.outThrough hlocks q (g := F0 m pc ls rest) rfl rfl rfl (cell := ce) (by rw [hT]; exact hcell) (by rw [hv]; rfl)
    (by obtain ⟨k9, h9, -⟩ := Vm.findClass_spec hcl; exact ⟨k9, h9⟩) (fun z hz => by
      rcases hpass z hz with h | ⟨hz0, nm, hl1, hn1⟩
      · exact Or.inl h
      · obtain ⟨c6, hc6, hcl6⟩ := Cond.classLink_spec hown hl1 e.platform hpl
        obtain ⟨a8, b8, h1, h2, h3⟩ := hn1
        cases Option.some.inj (h1.symm.trans hcl)
        cases Option.some.inj (h2.symm.trans hc6)
        exact Or.inr ⟨hz0, _, hcl6, h3⟩)
  obtain ⟨g₀, hfr⟩ := X'.frames_eq
  have hcell9 : ((T.setVm vm').setFrames (.throwing q :: below)).heap[q]? = some ce := by
    show T.heap[q]? = some ce
    rw [hT]; exact hcell
  have hend : Ended ((T.setVm vm').setFrames (.throwing q :: below)) below (.threw q) := State.frames_setFrames _ (State.cur_lt_of_frames hfr)
  refine ⟨(T.setVm vm').setFrames (.throwing q :: below), ?_, .threw q, X'.here.running, hend, Or.inr ⟨q, rfl, E, ce, locs, hx _ hT (X'.ends _).1.alike, hcell9, hv, hcl, (X'.ends _).1, (X'.ends _).2.mono hc hs, hf⟩⟩
  rw [X.pushThrowing_eq]
  exact st
/-- a thing of a world lies in the heap -/
theorem vx_lt {D : va_G} {cl : List vw_C} {ws : va_W} {H1 : Heap} (h : va_P D cl ws H1) {k : Nat} {q : Nat × va_E} (hk : ws[k]? = some q) : q.1 < H1.size := (h k q hk).lt
end VXS
/-! ===== END ===== -/
/-! ===== BEGIN methods with a table of their own: called by a name, returning or throwing ===== -/
section VXH
/-! vx_backW, vx_callVX, vx_callSX, vx_callVW, vx_runVW, vx_runVX, vx_runSX, vx_ofWH follow the same proofs as their sisters above (Free/Laws.lean, Shelf42/LK1.lean); vx_outP calls Shelf42/NT130.lean (outThrough). -/
section
variable {l : Launch} {R : Room} {p : Program} {e : Env} {below : List Frame} {s : State} {sargs : Array Value} {y : MethodName} {len W9 : Nat}
theorem vx_backW {ws : List Cond} {rm : Room} {Pc : Array Value → State → Prop} {Qc : Array Value → State → Outcome → State → Prop} {XC : String → State → State → Prop} {mc ms : Nat} {free : Addr → Prop} {bytes : ByteArray} {maxL : Nat} {ret : Option FieldType} {hh : List (Nat × Nat × Nat × Nat)}
    (hM : vx_Met l y ws rm Pc Qc XC mc ms free) (hblind : FrameBlind Pc) (hrc : rm.cells = mc) (hrs : rm.slots = ms)
    (hframes : rm.frames + 1 ≤ R.frames) (hlocals : W9 + (maxL + 11) + rm.locals ≤ R.locals)
    (hws : ∀ w ∈ ws, ∀ a' U, s.WarmedH U.vm → w.before a' U = true) (hcode : Cond.codeWith y bytes maxL ret hh ∈ ws) (hinit : ∀ a' U, s.WarmedH U.vm → (Cond.initialized y.cls).before a' U = true) :
    vx_Back l R p e below s sargs y len W9 (PreOf R mc ms Pc) (PostOf Qc mc ms free) (vx_Post XC mc ms free) := by
  intro m meth c A g ig mk a X hg hsize hdg hW hn hp
  have h1 : (headSpec ws rm).pre.before a A.U = true := atoms_intro fun w hw => hws w hw _ _ X.warmed
  have h2 : (Cond.codeWith y bytes maxL ret hh).before a A.U = true := hws _ hcode _ _ X.warmed
  have h3 : (Cond.initialized y.cls).before a A.U = true := hinit _ _ X.warmed
  have h4 : A.cells + (headSpec ws rm).room.cells ≤ R.cells := by rw [show (headSpec ws rm).room.cells = mc from hrc]; exact hp.1
  have h5 : A.slots + (headSpec ws rm).room.slots ≤ R.slots := by rw [show (headSpec ws rm).room.slots = ms from hrs]; exact hp.2.1
  have hPc : Pc a (A.U.calling g mk a) := hblind _ _ _ _ hp.2.2
  obtain ⟨U, Ls, c0, s0⟩ := A
  dsimp only [Pt.U, Pt.locs, Pt.cells, Pt.slots] at h1 h2 h3 h4 h5 X hn hPc ⊢
  obtain ⟨m9, methY, cY, hn9, hmY, hcY, -, hlY, -⟩ := Cond.codeWith_spec h2
  cases Option.some.inj (hn9.symm.trans hn)
  obtain ⟨kY, hkY, -⟩ := className_of_methodNamed hn
  have hinitY : kY.init = .initialized := Cond.initialized_spec (findClass_of_methodNamed hn) hkY h3
  have h : At U g.method c below := by rw [hg]; exact X.here
  have hlocals9 : W9 + (maxL + 11) + (headSpec ws rm).room.locals ≤ R.locals := hlocals
  have happ : (headSpec ws rm).appliesLoose y e.platform (U.calling g mk a) = true :=
    Spec.appliesLoose_calling (g := g) h hdg hn hkY hinitY
      (X.room_calling (g := g) (R' := (headSpec ws rm).room) hsize hmY hcY hframes (by rw [hlY]; omega) h4 h5) h1
  obtain ⟨mid, hmid⟩ := h.above
  have hfr : (U.setTop g).frames = (.java g :: mid) ++ below := by rw [State.frames_setTop' g h.top, hmid]; rfl
  obtain ⟨o, s₂, hsteps, -, hend, hq⟩ := Steps.callFree hM p X.admits X.cas X.clock (acts := []) hfr happ hPc trivial
  have hq' : vx_Q Qc XC mc ms free a (U.calling g mk a) o s₂ := hq
  rw [State.frames_setTop' g h.top] at hend
  obtain ⟨g₀, hg0⟩ := Option.isSome_iff_exists.mp h.top
  obtain ⟨r, hr⟩ := State.topJava?_eq_some.mp hg0
  have hr' : (({ U with heap := s₂.heap, slotsUsed := s₂.slotsUsed } : State).setVm s₂.vm).frames = .java g₀ :: r := hr
  rcases hq' with ⟨hqc, L, hfe, hL⟩ | ⟨q, rfl, E, ce, L, hx, hce, hcv, hcl, hW₂, hsm, hL⟩
  · obtain ⟨⟨v, rfl⟩, hW₂, e2, q2, q3, q4, q5, q6⟩ := id hfe
    have e3 : s₂ = ({ (U.calling g mk a).setFrames s₂.frames with heap := s₂.heap, slotsUsed := s₂.slotsUsed } : State).setVm s₂.vm := by
      have : s₂ = ({ s₂ with vm := (U.calling g mk a).vm } : State).setVm s₂.vm := rfl
      rw [e2] at this
      exact this
    obtain ⟨c₂, i₂, len₂, hc₂, hd₂, hf₂⟩ := hend
    have hW' : U.WarmedH s₂.vm := hW₂
    have hcc : c₂ = c := by
      have h1 : s₂.code? g.method = U.code? g.method := by
        rw [State.code?_eq, State.code?_eq, hW'.alike.method?]
      exact Option.some.inj (hc₂.symm.trans (h1.trans h.code))
    subst hcc
    have hlen : len₂ = len := by rw [hdg] at hd₂; cases hd₂; rfl
    subst hlen
    have hs₂ : s₂ = (({ U with heap := s₂.heap, slotsUsed := s₂.slotsUsed } : State).setVm s₂.vm).setTop { g with pc := g.pc + len₂, stack := v.toList ++ g.stack } := by
      refine e3.trans ?_
      rw [hf₂, State.calling_eq h.top, State.setFrames_setFrames, State.setTop_of_frames _ hr', hr]
      rfl
    have hsame : U.sameButNew ({ U with heap := s₂.heap, slotsUsed := s₂.slotsUsed } : State) L mc ms := by
      refine ⟨?_, q2, q3, q4, q5, q6⟩
      obtain ⟨t, ht, -⟩ := State.frames_cons hr
      show ({ U with heap := s₂.heap, slotsUsed := s₂.slotsUsed } : State) = { U.setFrames U.frames with heap := s₂.heap, slotsUsed := s₂.slotsUsed }
      rw [State.setFrames_self ht]
    subst hg
    refine Or.inl ⟨v, ⟨(({ U with heap := s₂.heap, slotsUsed := s₂.slotsUsed } : State).setVm s₂.vm), Ls ++ L, c0 + mc, s0 + ms⟩,
      ⟨X.admits, X.cas, X.clock, X.frames, X.room, X.hears, X.method, X.code, (X.here.setHeapUsed s₂.heap s₂.slotsUsed).setVm hW'.alike, X.tail, State.WarmedH.trans X.warmed hW', X.limits, X.bytes, X.same.trans (hsame.setVm s.vm)⟩,
      ⟨g, mk, s₂, L, rfl, rfl, hqc, rfl, hL, rfl, rfl⟩, ?_⟩
    show Steps p.tables e below _ ((({ U with heap := s₂.heap, slotsUsed := s₂.slotsUsed } : State).setVm s₂.vm).setTop { g with pc := g.pc + len₂, stack := v.toList ++ g.stack })
    rw [← hs₂]
    exact hsteps
  · obtain ⟨e2, q2, q3, q4, q5, q6⟩ := id hsm
    have e3 : s₂ = ({ (U.calling g mk a).setFrames s₂.frames with heap := s₂.heap, slotsUsed := s₂.slotsUsed } : State).setVm s₂.vm := by
      have : s₂ = ({ s₂ with vm := (U.calling g mk a).vm } : State).setVm s₂.vm := rfl
      rw [e2] at this
      exact this
    have hf₂ : s₂.frames = .throwing q :: .java g :: U.frames.tail := hend
    have hW' : U.WarmedH s₂.vm := hW₂
    have hs₂ : s₂ = ((({ U with heap := s₂.heap, slotsUsed := s₂.slotsUsed } : State).setVm s₂.vm).setTop g).pushFrame (.throwing q) := by
      refine e3.trans ?_
      rw [hf₂, State.calling_eq h.top, State.setFrames_setFrames, State.pushFrame, State.frames_setTop _ hr', State.setTop_of_frames _ hr', State.setFrames_setFrames, hr]
      rfl
    have hsame : U.sameButNew ({ U with heap := s₂.heap, slotsUsed := s₂.slotsUsed } : State) L mc ms := by
      refine ⟨?_, q2, q3, q4, q5, q6⟩
      obtain ⟨t, ht, -⟩ := State.frames_cons hr
      show ({ U with heap := s₂.heap, slotsUsed := s₂.slotsUsed } : State) = { U.setFrames U.frames with heap := s₂.heap, slotsUsed := s₂.slotsUsed }
      rw [State.setFrames_self ht]
    subst hg
    refine Or.inr ⟨q, ⟨(({ U with heap := s₂.heap, slotsUsed := s₂.slotsUsed } : State).setVm s₂.vm), Ls ++ L, c0 + mc, s0 + ms⟩,
      ⟨X.admits, X.cas, X.clock, X.frames, X.room, X.hears, X.method, X.code, (X.here.setHeapUsed s₂.heap s₂.slotsUsed).setVm hW'.alike, X.tail, State.WarmedH.trans X.warmed hW', X.limits, X.bytes, X.same.trans (hsame.setVm s.vm)⟩,
      ⟨g, mk, s₂, L, E, ce, rfl, rfl, hx, hce, hcv, hcl, rfl, hL, rfl, rfl⟩, ?_⟩
    show Steps p.tables e below _ (((({ U with heap := s₂.heap, slotsUsed := s₂.slotsUsed } : State).setVm s₂.vm).setTop g).pushFrame (.throwing q))
    rw [← hs₂]
    exact hsteps
end
variable {p : Program} {l : Launch} {e : Env} {R : Room} {s : State} {m : MethodId} {args : Array Value} {below : List Frame} {meth : Method} {c : Code} {T : State} {H : Heap} {locs : List Loc} {cells slots : Nat}
theorem vx_callVX (X : Stand p l e R s m args below meth c T locs cells slots) (hexec : p.tables.exec = Jvm.exec) {own C : String} {index : Nat} {y : MethodName} {bytes : ByteArray} {maxL : Nat} {ret : Option FieldType} {hh : List (Nat × Nat × Nat × Nat)}
    (hown : s.vm.findClass own = some m.cls) (hlink : (Cond.methodLink own index y).before args s = true) (hinst : (Cond.instanceMethod y).before args s = true) (hsel : (Cond.selects C y y).before args s = true)
    (hcode : (Cond.codeWith y bytes maxL ret hh).before args s = true) (hy : y.cls ≠ "java/lang/invoke/MethodHandle" ∧ y.cls ≠ "java/lang/invoke/VarHandle")
    {W9 : Nat} {Pre : Pt → Array Value → Prop} {Post : Pt → Array Value → Option Value → Pt → Prop} {PostX : Pt → Array Value → Addr → Pt → Prop} (hK : vx_Back l R p e below s args y 3 W9 Pre Post PostX)
    {b : Addr} {cellB : Cell} (hcell : T.heap[b]? = some cellB) (hobj : cellB.vm.isStatics = false) (hcls : s.vm.findClass C = some cellB.cls)
    {g : JFrame} (hg : g.method = m) (hsize : g.locals.size = c.maxLocals) {argsL rest : List Value} (hlen : ∀ sig, parseMethodDescriptor y.desc = some sig → argsL.length = sig.parameters.length)
    (hstack : g.stack = argsL.reverse ++ .ref b :: rest) (hW : 2 * g.monitorRoom + (rest.map fun v => v.category).sum ≤ W9) (hdg : decode c.code g.pc = .ok (.invokevirtual index, 3))
    (hpre : ∀ vm₁, s.WarmedH vm₁ → Pre ⟨T.setVm vm₁, locs, cells, slots⟩ (Value.ref b :: argsL).toArray) :
    (∃ (v : Option Value) (vm₁ : Vm) (B : Pt), s.WarmedH vm₁ ∧ Stand p l e R s m args below meth c B.U B.locs B.cells B.slots ∧ Post ⟨T.setVm vm₁, locs, cells, slots⟩ (Value.ref b :: argsL).toArray v B ∧
      ∀ target, Steps p.tables e below (B.U.setTop { g with pc := g.pc + 3, stack := v.toList ++ rest }) target → Steps p.tables e below (T.setTop g) target) ∨
    (∃ (q : Addr) (vm₁ : Vm) (B : Pt), s.WarmedH vm₁ ∧ Stand p l e R s m args below meth c B.U B.locs B.cells B.slots ∧ PostX ⟨T.setVm vm₁, locs, cells, slots⟩ (Value.ref b :: argsL).toArray q B ∧
      Steps p.tables e below (T.setTop g) ((B.U.setTop { g with stack := rest }).pushFrame (.throwing q))) := by
  obtain ⟨mk, methM, hnamed, hmethM, hstM, habM⟩ := Cond.instanceMethod_spec hinst
  obtain ⟨m8, methM', cM, hn8, hmethM', -, -, -, -, -, -, hsigM⟩ := Cond.codeWith_spec hcode
  cases Option.some.inj (hn8.symm.trans hnamed)
  cases hmethM.symm.trans hmethM'
  obtain ⟨c2, r2, m2, q1, q2, q3, q4, kP, hkP, hkPi⟩ := Cond.selects_spec hsel
  cases hcls.symm.trans q1
  cases (State.methodFound?_of_named hnamed hy).symm.trans q2
  cases hnamed.symm.trans q3
  have hselP : selectMethod e.platform s.vm cellB.cls mk = .method mk := by rw [Launch.admits_selectMethod X.admits]; exact q4
  obtain ⟨vm₁, X₁, hstep₁⟩ := X.invokevirtual hexec hown hlink hnamed hmethM hstM hkP hkPi hy (a := b) (cell := cellB) hcell
    (fun z h => by rw [h] at hobj; cases hobj) hselP hmethM habM hkP hkPi (g := g) hg (argsL := argsL) (rest := rest) (hlen _ hsigM) hstack hdg
  rcases hK m meth c ⟨T.setVm vm₁, locs, cells, slots⟩ { g with stack := rest } (.invokevirtual index) mk (Value.ref b :: argsL).toArray X₁ hg hsize hdg hW (X₁.named hnamed) (hpre vm₁ X₁.warmed) with ⟨v, B, X', hpost, hsteps⟩ | ⟨q, B, X', hpost, hsteps⟩
  · exact Or.inl ⟨v, vm₁, B, X₁.warmed, X', hpost, fun target h => hstep₁ _ fun acts => by rw [doInvoke_state]; exact hsteps.trans h⟩
  · exact Or.inr ⟨q, vm₁, B, X₁.warmed, X', hpost, hstep₁ _ fun acts => by rw [doInvoke_state]; exact hsteps⟩
theorem vx_callSX (X : Stand p l e R s m args below meth c T locs cells slots) (hexec : p.tables.exec = Jvm.exec) {own : String} {index : Nat} {y : MethodName} {bytes : ByteArray} {maxL : Nat} {ret : Option FieldType} {hh : List (Nat × Nat × Nat × Nat)}
    (hown : s.vm.findClass own = some m.cls) (hlink : (Cond.methodLink own index y).before args s = true) (hstat : (Cond.static y).before args s = true) (hinit : (Cond.initialized y.cls).before args s = true)
    (hcode : (Cond.codeWith y bytes maxL ret hh).before args s = true) (hy : y.cls ≠ "java/lang/invoke/MethodHandle" ∧ y.cls ≠ "java/lang/invoke/VarHandle")
    {W9 : Nat} {Pre : Pt → Array Value → Prop} {Post : Pt → Array Value → Option Value → Pt → Prop} {PostX : Pt → Array Value → Addr → Pt → Prop} (hK : vx_Back l R p e below s args y 3 W9 Pre Post PostX)
    {g : JFrame} (hg : g.method = m) (hsize : g.locals.size = c.maxLocals) {argsL rest : List Value} (hlen : ∀ sig, parseMethodDescriptor y.desc = some sig → argsL.length = sig.parameters.length)
    (hstack : g.stack = argsL.reverse ++ rest) (hW : 2 * g.monitorRoom + (rest.map fun v => v.category).sum ≤ W9) (hdg : decode c.code g.pc = .ok (.invokestatic index, 3))
    (hpre : ∀ vm₁, s.WarmedH vm₁ → Pre ⟨T.setVm vm₁, locs, cells, slots⟩ argsL.toArray) :
    (∃ (v : Option Value) (vm₁ : Vm) (B : Pt), s.WarmedH vm₁ ∧ Stand p l e R s m args below meth c B.U B.locs B.cells B.slots ∧ Post ⟨T.setVm vm₁, locs, cells, slots⟩ argsL.toArray v B ∧
      ∀ target, Steps p.tables e below (B.U.setTop { g with pc := g.pc + 3, stack := v.toList ++ rest }) target → Steps p.tables e below (T.setTop g) target) ∨
    (∃ (q : Addr) (vm₁ : Vm) (B : Pt), s.WarmedH vm₁ ∧ Stand p l e R s m args below meth c B.U B.locs B.cells B.slots ∧ PostX ⟨T.setVm vm₁, locs, cells, slots⟩ argsL.toArray q B ∧
      Steps p.tables e below (T.setTop g) ((B.U.setTop { g with stack := rest }).pushFrame (.throwing q))) := by
  obtain ⟨mk, methM, cM, hnamed, hmethM, -, -, -, -, -, -, hsigM⟩ := Cond.codeWith_spec hcode
  have hstatic : methM.isStatic = true := Cond.static_spec hnamed hmethM hstat
  obtain ⟨kP, hkP, -⟩ := className_of_methodNamed hnamed
  have hinitP : kP.init = .initialized := Cond.initialized_spec (findClass_of_methodNamed hnamed) hkP hinit
  obtain ⟨vm₁, X₁, hstep₁⟩ := X.invokestatic hexec hown hlink hnamed hmethM hstatic hkP hinitP hy (g := g) hg (argsL := argsL) (rest := rest) (hlen _ hsigM) hstack hdg
  rcases hK m meth c ⟨T.setVm vm₁, locs, cells, slots⟩ { g with stack := rest } (.invokestatic index) mk argsL.toArray X₁ hg hsize hdg hW (X₁.named hnamed) (hpre vm₁ X₁.warmed) with ⟨v, B, X', hpost, hsteps⟩ | ⟨q, B, X', hpost, hsteps⟩
  · exact Or.inl ⟨v, vm₁, B, X₁.warmed, X', hpost, fun target h => hstep₁ _ fun acts => by rw [doInvoke_state]; exact hsteps.trans h⟩
  · exact Or.inr ⟨q, vm₁, B, X₁.warmed, X', hpost, hstep₁ _ fun acts => by rw [doInvoke_state]; exact hsteps⟩
theorem vx_callVW (X : Stand p l e R s m args below meth c T locs cells slots) (hexec : p.tables.exec = Jvm.exec) {own C : String} {index : Nat} {y : MethodName} {bytes : ByteArray} {maxL : Nat} {ret : Option FieldType} {hh : List (Nat × Nat × Nat × Nat)}
    (hown : s.vm.findClass own = some m.cls) (hlink : (Cond.methodLink own index y).before args s = true) (hinst : (Cond.instanceMethod y).before args s = true) (hsel : (Cond.selects C y y).before args s = true)
    (hcode : (Cond.codeWith y bytes maxL ret hh).before args s = true) (hy : y.cls ≠ "java/lang/invoke/MethodHandle" ∧ y.cls ≠ "java/lang/invoke/VarHandle")
    {W9 : Nat} {Pre : Pt → Array Value → Prop} {Post : Pt → Array Value → Option Value → Pt → Prop} (hK : Back l R p e below s args y 3 W9 Pre Post)
    {b : Addr} {cellB : Cell} (hcell : T.heap[b]? = some cellB) (hobj : cellB.vm.isStatics = false) (hcls : s.vm.findClass C = some cellB.cls)
    {g : JFrame} (hg : g.method = m) (hsize : g.locals.size = c.maxLocals) {argsL rest : List Value} (hlen : ∀ sig, parseMethodDescriptor y.desc = some sig → argsL.length = sig.parameters.length)
    (hstack : g.stack = argsL.reverse ++ .ref b :: rest) (hW : 2 * g.monitorRoom + (rest.map fun v => v.category).sum ≤ W9) (hdg : decode c.code g.pc = .ok (.invokevirtual index, 3))
    (hpre : ∀ vm₁, s.WarmedH vm₁ → Pre ⟨T.setVm vm₁, locs, cells, slots⟩ (Value.ref b :: argsL).toArray) :
    ∃ (v : Option Value) (vm₁ : Vm) (B : Pt), s.WarmedH vm₁ ∧ Stand p l e R s m args below meth c B.U B.locs B.cells B.slots ∧ Post ⟨T.setVm vm₁, locs, cells, slots⟩ (Value.ref b :: argsL).toArray v B ∧
      ∀ target, Steps p.tables e below (B.U.setTop { g with pc := g.pc + 3, stack := v.toList ++ rest }) target → Steps p.tables e below (T.setTop g) target := by
  obtain ⟨mk, methM, hnamed, hmethM, hstM, habM⟩ := Cond.instanceMethod_spec hinst
  obtain ⟨m8, methM', cM, hn8, hmethM', -, -, -, -, -, -, hsigM⟩ := Cond.codeWith_spec hcode
  cases Option.some.inj (hn8.symm.trans hnamed)
  cases hmethM.symm.trans hmethM'
  obtain ⟨c2, r2, m2, q1, q2, q3, q4, kP, hkP, hkPi⟩ := Cond.selects_spec hsel
  cases hcls.symm.trans q1
  cases (State.methodFound?_of_named hnamed hy).symm.trans q2
  cases hnamed.symm.trans q3
  have hselP : selectMethod e.platform s.vm cellB.cls mk = .method mk := by rw [Launch.admits_selectMethod X.admits]; exact q4
  obtain ⟨vm₁, X₁, hstep₁⟩ := X.invokevirtual hexec hown hlink hnamed hmethM hstM hkP hkPi hy (a := b) (cell := cellB) hcell
    (fun z h => by rw [h] at hobj; cases hobj) hselP hmethM habM hkP hkPi (g := g) hg (argsL := argsL) (rest := rest) (hlen _ hsigM) hstack hdg
  obtain ⟨v, B, X', hpost, hsteps⟩ := hK m meth c ⟨T.setVm vm₁, locs, cells, slots⟩ { g with stack := rest } (.invokevirtual index) mk (Value.ref b :: argsL).toArray X₁ hg hsize hdg hW (X₁.named hnamed) (hpre vm₁ X₁.warmed)
  exact ⟨v, vm₁, B, X₁.warmed, X', hpost, fun target h => hstep₁ _ fun acts => by rw [doInvoke_state]; exact hsteps.trans h⟩
abbrev vx_CVW (R : Room) (s : State) (args : Array Value) (own C : String) (index : Nat) (y : MethodName) (bytes : ByteArray) (maxL : Nat) (ret : Option FieldType) (hh : List (Nat × Nat × Nat × Nat)) (ws : List Cond) (rm : Room) (mc ms n : Nat) : Prop :=
  (rm.cells = mc ∧ rm.slots = ms ∧ rm.frames + 1 ≤ R.frames ∧ 8 + (maxL + 11) + rm.locals ≤ R.locals ∧ (∀ w ∈ ws, ∀ (a' : Array Value) (U : State), s.WarmedH U.vm → w.before a' U = true) ∧ Cond.codeWith y bytes maxL ret hh ∈ ws) ∧
  (Cond.codeWith y bytes maxL ret hh).before args s = true ∧ (Cond.initialized y.cls).before args s = true ∧ (y.cls ≠ "java/lang/invoke/MethodHandle" ∧ y.cls ≠ "java/lang/invoke/VarHandle") ∧
  (∀ sig, parseMethodDescriptor y.desc = some sig → n = sig.parameters.length) ∧ (Cond.methodLink own index y).before args s = true ∧ (Cond.instanceMethod y).before args s = true ∧ (Cond.selects C y y).before args s = true
theorem vx_cwVW {own C : String} {index maxL mc ms : Nat} {y : MethodName} {bytes : ByteArray} {ret : Option FieldType} {hh : List (Nat × Nat × Nat × Nat)} {Ts ws ws' : List Cond} {rm : Room} (n : Nat) (ht : ∀ w ∈ Ts, w.before args s = true) (hT : GoodIn Ts (wsV own index C y ws)) (hw : ws = Cond.codeWith y bytes maxL ret hh :: ws') (hrc : rm.cells = mc) (hrs : rm.slots = ms)
    (hd : y.cls = C ∧ y.cls ≠ "java/lang/invoke/MethodHandle" ∧ y.cls ≠ "java/lang/invoke/VarHandle" ∧ (parseMethodDescriptor y.desc).map (fun d => d.parameters.length) = some n) (hR : rm.frames + 1 ≤ R.frames ∧ 8 + (maxL + 11) + rm.locals ≤ R.locals) :
    vx_CVW R s args own C index y bytes maxL ret hh ws rm mc ms n := by
  obtain ⟨hC, hd⟩ := hd
  subst hC
  have ok : ∀ w ∈ wsV own index y.cls y ws, w.before args s = true := fun w h => ht w (hT w h).1
  have hG : GoodIn Ts ws := fun w h => hT w (by unfold wsV; exact List.mem_append_right _ h)
  have hc : Cond.codeWith y bytes maxL ret hh ∈ ws := by rw [hw]; exact List.mem_cons_self
  refine ⟨⟨hrc, hrs, hR.1, hR.2, pay_in ht hG, hc⟩, ht _ (hG _ hc).1, ok _ (by simp [wsV]), ⟨hd.1, hd.2.1⟩, fun sig h => ?_, ok _ (by simp [wsV]), ok _ (by simp [wsV]), ok _ (by simp [wsV])⟩
  have h2 := hd.2.2
  rw [h] at h2
  exact (Option.some.inj h2).symm
theorem vx_runVW {y : MethodName} {bytes cc : ByteArray} {maxL nL mc ms n index : Nat} {ret : Option FieldType} {hh : List (Nat × Nat × Nat × Nat)} {ws : List Cond} {rm : Room} {Pc : Array Value → State → Prop} {Qc : Array Value → State → Outcome → State → Prop} {free : Addr → Prop} {Ts : List Cond} {own C : String} {b : Addr} {As rest : List Value} {g : JFrame}
    (S : CallFix p m c cc nL s args Ts own) (hM : Met l y ws rm Pc Qc mc ms free) (cw : vx_CVW R s args own C index y bytes maxL ret hh ws rm mc ms n) (hp : PreV s H C b Pc As)
    (hg : g.method = m) (hn : As.length = n) (hsize : g.locals.size = nL) (hstack : g.stack = As.reverse ++ .ref b :: rest) (hW : 2 * g.monitorRoom + (rest.map fun v => v.category).sum ≤ 8) (hdg : decode cc g.pc = .ok (.invokevirtual index, 3)) (hf : cells + mc ≤ R.cells ∧ slots + ms ≤ R.slots) :
    va_Run p l e R s m args below meth c H locs cells slots mc ms g rest (Qc (Value.ref b :: As).toArray) free := by
  obtain ⟨⟨hrc, hrs, hfr, hlo, hws, hcw⟩, hcode, hini, hy, hlen, hl, hin, hse⟩ := cw
  have hK : Back l R p e below s args y 3 8 (PreOf R mc ms Pc) (PostOf Qc mc ms free) := va_backW (hh := hh) (bytes := bytes) (maxL := maxL) (ret := ret) hM hp.1 hrc hrs hfr hlo hws hcw (fun a' U hW => word_at hW (Or.inl (by first | rfl | simp [Cond.onTables, Cond.keeps, Cond.steady])) hini)
  obtain ⟨hx, hb, hml, ho, -⟩ := S
  obtain ⟨-, ⟨cellB, hcB, hoB, hclB⟩, hPc⟩ := hp
  intro T hT X
  obtain ⟨v, vm₁, ⟨U', l2, c2, s2⟩, hW₁, X', ⟨g', mk, t, L, e1, e2, hq, h1, hL, h2, h3⟩, st⟩ := vx_callVW X hx (C := C) (hh := hh) (bytes := bytes) (maxL := maxL) (ret := ret) ho hl hin hse hcode hy hK (by rw [hT]; exact hcB) hoB hclB hg (hsize.trans hml.symm) (argsL := As) (rest := rest) (fun sig h => hn.trans (hlen sig h)) hstack hW (by rw [hb]; exact hdg)
    (fun vm₁ hW₁ => ⟨hf.1, hf.2, hPc (T.setVm vm₁) hT hW₁⟩)
  dsimp only [Pt.U, Pt.locs, Pt.cells, Pt.slots] at X' e1 e2 h1 h2 h3 st
  subst h1; subst h2; subst h3
  exact ⟨v, (T.setVm vm₁).calling g' mk (Value.ref b :: As).toArray, t, U', L, hT, X', hL, e1, e2, hq, st⟩
section
variable {y : MethodName} {bytes cc : ByteArray} {maxL nL mc ms n index : Nat} {ret : Option FieldType} {ws : List Cond} {rm : Room} {Pc : Array Value → State → Prop} {Qc : Array Value → State → Outcome → State → Prop} {XC : String → State → State → Prop} {free : Addr → Prop} {Ts : List Cond} {own C : String} {b : Addr} {As rest : List Value} {g : JFrame}
theorem vx_runVX {hh : List (Nat × Nat × Nat × Nat)} (S : CallFix p m c cc nL s args Ts own) (hM : vx_Met l y ws rm Pc Qc XC mc ms free) (cw : vx_CVW R s args own C index y bytes maxL ret hh ws rm mc ms n) (hp : PreV s H C b Pc As)
    (hg : g.method = m) (hn : As.length = n) (hsize : g.locals.size = nL) (hstack : g.stack = As.reverse ++ .ref b :: rest) (hW : 2 * g.monitorRoom + (rest.map fun v => v.category).sum ≤ 8) (hdg : decode cc g.pc = .ok (.invokevirtual index, 3)) (hf : cells + mc ≤ R.cells ∧ slots + ms ≤ R.slots) :
    vx_Run p l e R s m args below meth c H locs cells slots mc ms g rest (Qc (Value.ref b :: As).toArray) XC free := by
  obtain ⟨⟨hrc, hrs, hfr, hlo, hws, hcw⟩, hcode, hini, hy, hlen, hl, hin, hse⟩ := cw
  have hK : vx_Back l R p e below s args y 3 8 (PreOf R mc ms Pc) (PostOf Qc mc ms free) (vx_Post XC mc ms free) := vx_backW (hh := hh) (bytes := bytes) (maxL := maxL) (ret := ret) hM hp.1 hrc hrs hfr hlo hws hcw (fun a' U hW => word_at hW (Or.inl (by first | rfl | simp [Cond.onTables, Cond.keeps, Cond.steady])) hini)
  obtain ⟨hx, hb, hml, ho, -⟩ := S
  obtain ⟨-, ⟨cellB, hcB, hoB, hclB⟩, hPc⟩ := hp
  intro T hT X
  rcases vx_callVX X hx (C := C) (hh := hh) (bytes := bytes) (maxL := maxL) (ret := ret) ho hl hin hse hcode hy hK (by rw [hT]; exact hcB) hoB hclB hg (hsize.trans hml.symm) (argsL := As) (rest := rest) (fun sig h => hn.trans (hlen sig h)) hstack hW (by rw [hb]; exact hdg)
    (fun vm₁ hW₁ => ⟨hf.1, hf.2, hPc (T.setVm vm₁) hT hW₁⟩) with ⟨v, vm₁, ⟨U', l2, c2, s2⟩, hW₁, X', ⟨g', mk, t, L, e1, e2, hq, h1, hL, h2, h3⟩, st⟩ | ⟨q, vm₁, ⟨U', l2, c2, s2⟩, hW₁, X', ⟨g', mk, t, L, E, ce, e1, e2, hq, hce, hcv, hcl, h1, hL, h2, h3⟩, st⟩
  · dsimp only [Pt.U, Pt.locs, Pt.cells, Pt.slots] at X' e1 e2 h1 h2 h3 st
    subst h1; subst h2; subst h3
    exact Or.inl ⟨v, (T.setVm vm₁).calling g' mk (Value.ref b :: As).toArray, t, U', L, hT, X', hL, e1, e2, hq, st⟩
  · dsimp only [Pt.U, Pt.locs, Pt.cells, Pt.slots] at X' e1 e2 h1 h2 h3 st hcl
    subst h1; subst h2; subst h3
    exact Or.inr ⟨q, (T.setVm vm₁).calling g' mk (Value.ref b :: As).toArray, t, U', L, E, ce, hT, X', hL, e1, e2, hq, hce, hcv, vx_cls hW₁ hcl, st⟩
theorem vx_runSX {hh : List (Nat × Nat × Nat × Nat)} (S : CallFix p m c cc nL s args Ts own) (hM : vx_Met l y ws rm Pc Qc XC mc ms free) (cw : vx_CSW R s args own index y bytes maxL ret hh ws rm mc ms n) (hp : PreS s H Pc As)
    (hg : g.method = m) (hn : As.length = n) (hsize : g.locals.size = nL) (hstack : g.stack = As.reverse ++ rest) (hW : 2 * g.monitorRoom + (rest.map fun v => v.category).sum ≤ 8) (hdg : decode cc g.pc = .ok (.invokestatic index, 3)) (hf : cells + mc ≤ R.cells ∧ slots + ms ≤ R.slots) :
    vx_Run p l e R s m args below meth c H locs cells slots mc ms g rest (Qc As.toArray) XC free := by
  obtain ⟨⟨hrc, hrs, hfr, hlo, hws, hcw⟩, hcode, hini, hy, hlen, hl, hstt⟩ := cw
  have hK : vx_Back l R p e below s args y 3 8 (PreOf R mc ms Pc) (PostOf Qc mc ms free) (vx_Post XC mc ms free) := vx_backW (hh := hh) (bytes := bytes) (maxL := maxL) (ret := ret) hM hp.1 hrc hrs hfr hlo hws hcw (fun a' U hW => word_at hW (Or.inl (by first | rfl | simp [Cond.onTables, Cond.keeps, Cond.steady])) hini)
  obtain ⟨hx, hb, hml, ho, -⟩ := S
  intro T hT X
  rcases vx_callSX X hx (hh := hh) (bytes := bytes) (maxL := maxL) (ret := ret) ho hl hstt hini hcode hy hK hg (hsize.trans hml.symm) (argsL := As) (rest := rest) (fun sig h => hn.trans (hlen sig h)) hstack hW (by rw [hb]; exact hdg)
    (fun vm₁ hW₁ => ⟨hf.1, hf.2, hp.2 (T.setVm vm₁) hT hW₁⟩) with ⟨v, vm₁, ⟨U', l2, c2, s2⟩, hW₁, X', ⟨g', mk, t, L, e1, e2, hq, h1, hL, h2, h3⟩, st⟩ | ⟨q, vm₁, ⟨U', l2, c2, s2⟩, hW₁, X', ⟨g', mk, t, L, E, ce, e1, e2, hq, hce, hcv, hcl, h1, hL, h2, h3⟩, st⟩
  · dsimp only [Pt.U, Pt.locs, Pt.cells, Pt.slots] at X' e1 e2 h1 h2 h3 st
    subst h1; subst h2; subst h3
    exact Or.inl ⟨v, (T.setVm vm₁).calling g' mk As.toArray, t, U', L, hT, X', hL, e1, e2, hq, st⟩
  · dsimp only [Pt.U, Pt.locs, Pt.cells, Pt.slots] at X' e1 e2 h1 h2 h3 st hcl
    subst h1; subst h2; subst h3
    exact Or.inr ⟨q, (T.setVm vm₁).calling g' mk As.toArray, t, U', L, E, ce, hT, X', hL, e1, e2, hq, hce, hcv, vx_cls hW₁ hcl, st⟩
end
end VXH
theorem vx_ofWH {l : Launch} {y : MethodName} {ws ws' : List Cond} {rm : Room} {Pc : Array Value → State → Prop} {Qc : Array Value → State → Outcome → State → Prop} {XC : String → State → State → Prop} {mc ms : Nat} {free : Addr → Prop} {cc : ByteArray} {maxL : Nat} {ret : Option FieldType} {hh : List (Nat × Nat × Nat × Nat)}
    (hy : plainName y.cls = true) (hw : ws = Cond.codeWith y cc maxL ret hh :: ws')
    (body : ∀ p e s m args below meth c s₁, BodyLoose p l y (headSpec ws rm) cc maxL ret e s m args below meth c s₁ → c.maxLocals = maxL → Pc args s →
      W p l e (headSpec ws rm).room s m args below meth c s.heap [] 0 0 (vx_MQ below Qc XC args s mc ms free) (entryFrame m args maxL)) : vx_Met l y ws rm Pc Qc XC mc ms free := by
  refine MetFree.of_bodyS (code := cc) (maxLocals := maxL) (ret := ret) hy ?_ ?_
  · intro args s m h hn
    obtain ⟨m9, meth, c, hn9, h1, h2, h3, h4, -, h5, h6, -⟩ := Cond.codeWith_spec (atoms_spec (ws := ws) h _ (by rw [hw]; exact List.mem_cons_self))
    cases hn.symm.trans hn9
    exact ⟨meth, c, h1, h2, h3, h4, h5, h6⟩
  · intro p e s m args below meth c s₁ B hml hP _
    have hh0 : s₁.heap = s.heap := by rw [B.state]; rfl
    obtain ⟨t, a1, o, b1, b2, b3⟩ := body p e s m args below meth c s₁ B hml hP s₁ hh0 (Stand.of_body B)
    exact ⟨t, o, a1, b1, b2, b3⟩
/-! ===== END ===== -/
end
section
/-! ===== BEGIN printed: names, fields, word lists, decode rows ===== -/
def RX0 : String := "CoreTransactions$Core"
def TX0 : u_T := fun k => match k with
  | 0 => ("CoreTransactions$Core", "number", "I", true)
  | 1 => ("CoreTransactions$Core", "registers", "[I", true)
  | 2 => ("CoreTransactions$Core", "transaction", "LCoreTransactions$Transaction;", true)
  | 3 => ("CoreTransactions$Core", "place", "I", false)
  | 4 => ("CoreTransactions$Core", "ended", "Z", false)
  | 5 => ("CoreTransactions$Core", "retired", "I", false)
  | 6 => ("CoreTransactions$Core", "committed", "I", false)
  | _ => ("CoreTransactions$Core", "brokenOff", "I", false)
def tyX0 : Nat → FieldType := fun k => match k with
  | 0 => .int
  | 1 => .array .int
  | 2 => .object "CoreTransactions$Transaction"
  | 3 => .int
  | 4 => .boolean
  | 5 => .int
  | 6 => .int
  | _ => .int
abbrev wsX00 : List Cond := u_ws RX0 TX0 8
theorem nmX0 : ∀ a, a < 8 → ∀ b, b < 8 → a ≠ b → (TX0 a).2.1 ≠ (TX0 b).2.1 := by decide +kernel
theorem tyX0_ok : ∀ k, k < 8 → parseFieldDescriptor (TX0 k).2.2.1 = some (tyX0 k) := by decide +kernel
abbrev cX0_init : ByteArray := prog_2_method_1_code
def yX0_init : MethodName := ⟨RX0, "<init>", "(I)V"⟩
abbrev cX0_put : ByteArray := prog_2_method_2_code
def yX0_put : MethodName := ⟨RX0, "put", "(II)V"⟩
abbrev cX0_reset : ByteArray := prog_2_method_3_code
def yX0_reset : MethodName := ⟨RX0, "reset", "()V"⟩
def RX1 : String := "CoreTransactions$Program"
def TX1 : u_T := fun k => match k with
  | 0 => ("CoreTransactions$Program", "operations", "[I", true)
  | 1 => ("CoreTransactions$Program", "a", "[I", true)
  | 2 => ("CoreTransactions$Program", "b", "[I", true)
  | 3 => ("CoreTransactions$Program", "c", "[I", true)
  | _ => ("CoreTransactions$Program", "length", "I", false)
def tyX1 : Nat → FieldType := fun k => match k with
  | 0 => .array .int
  | 1 => .array .int
  | 2 => .array .int
  | 3 => .array .int
  | _ => .int
abbrev wsX10 : List Cond := u_ws RX1 TX1 5
theorem nmX1 : ∀ a, a < 5 → ∀ b, b < 5 → a ≠ b → (TX1 a).2.1 ≠ (TX1 b).2.1 := by decide +kernel
theorem tyX1_ok : ∀ k, k < 5 → parseFieldDescriptor (TX1 k).2.2.1 = some (tyX1 k) := by decide +kernel
abbrev cX1_init : ByteArray := prog_3_method_1_code
def yX1_init : MethodName := ⟨RX1, "<init>", "()V"⟩
abbrev cX1_append : ByteArray := prog_3_method_2_code
def yX1_append : MethodName := ⟨RX1, "append", "(IIII)I"⟩
def RX2 : String := "CoreTransactions$Records"
def TX2 : u_T := fun k => match k with
  | 0 => ("CoreTransactions$Records", "fields", "[I", true)
  | 1 => ("CoreTransactions$Records", "count", "I", false)
  | _ => ("CoreTransactions$Records", "oldest", "I", false)
def tyX2 : Nat → FieldType := fun k => match k with
  | 0 => .array .int
  | 1 => .int
  | _ => .int
abbrev wsX20 : List Cond := u_ws RX2 TX2 3
theorem nmX2 : ∀ a, a < 3 → ∀ b, b < 3 → a ≠ b → (TX2 a).2.1 ≠ (TX2 b).2.1 := by decide +kernel
theorem tyX2_ok : ∀ k, k < 3 → parseFieldDescriptor (TX2 k).2.2.1 = some (tyX2 k) := by decide +kernel
abbrev cX2_init : ByteArray := prog_4_method_1_code
def yX2_init : MethodName := ⟨RX2, "<init>", "()V"⟩
abbrev cX2_add : ByteArray := prog_4_method_2_code
def yX2_add : MethodName := ⟨RX2, "add", "(IIII)V"⟩
abbrev cX2_field : ByteArray := prog_4_method_3_code
def yX2_field : MethodName := ⟨RX2, "field", "(II)I"⟩
abbrev cX2_forget : ByteArray := prog_4_method_4_code
def yX2_forget : MethodName := ⟨RX2, "forget", "()V"⟩
def RX3 : String := "CoreTransactions$Transaction"
def TX3 : u_T := fun k => match k with
  | 0 => ("CoreTransactions$Transaction", "keptRegisters", "[I", true)
  | 1 => ("CoreTransactions$Transaction", "storedWords", "[I", true)
  | 2 => ("CoreTransactions$Transaction", "depth", "I", false)
  | 3 => ("CoreTransactions$Transaction", "age", "I", false)
  | 4 => ("CoreTransactions$Transaction", "beginPlace", "I", false)
  | 5 => ("CoreTransactions$Transaction", "keptPlace", "I", false)
  | 6 => ("CoreTransactions$Transaction", "linesRead", "I", false)
  | 7 => ("CoreTransactions$Transaction", "linesWritten", "I", false)
  | _ => ("CoreTransactions$Transaction", "stored", "J", false)
def tyX3 : Nat → FieldType := fun k => match k with
  | 0 => .array .int
  | 1 => .array .int
  | 2 => .int
  | 3 => .int
  | 4 => .int
  | 5 => .int
  | 6 => .int
  | 7 => .int
  | _ => .long
abbrev wsX30 : List Cond := u_ws RX3 TX3 9
theorem nmX3 : ∀ a, a < 9 → ∀ b, b < 9 → a ≠ b → (TX3 a).2.1 ≠ (TX3 b).2.1 := by decide +kernel
theorem tyX3_ok : ∀ k, k < 9 → parseFieldDescriptor (TX3 k).2.2.1 = some (tyX3 k) := by decide +kernel
abbrev cX3_init : ByteArray := prog_5_method_1_code
def yX3_init : MethodName := ⟨RX3, "<init>", "()V"⟩
abbrev cX3_open : ByteArray := prog_5_method_2_code
def yX3_open : MethodName := ⟨RX3, "open", "(III[I)V"⟩
abbrev cX3_close : ByteArray := prog_5_method_3_code
def yX3_close : MethodName := ⟨RX3, "close", "()V"⟩
abbrev cX3_mark : ByteArray := prog_5_method_4_code
def yX3_mark : MethodName := ⟨RX3, "mark", "(IZ)V"⟩
abbrev cX3_touches : ByteArray := prog_5_method_5_code
def yX3_touches : MethodName := ⟨RX3, "touches", "(IZ)Z"⟩
abbrev cX3_linesInSet : ByteArray := prog_5_method_6_code
def yX3_linesInSet : MethodName := ⟨RX3, "linesInSet", "(II)I"⟩
abbrev cX3_keep : ByteArray := prog_5_method_7_code
def yX3_keep : MethodName := ⟨RX3, "keep", "(II)V"⟩
abbrev cX3_hasStored : ByteArray := prog_5_method_8_code
def yX3_hasStored : MethodName := ⟨RX3, "hasStored", "(I)Z"⟩
abbrev cX3_writeTo : ByteArray := prog_5_method_9_code
def yX3_writeTo : MethodName := ⟨RX3, "writeTo", "([I)V"⟩
def RX4 : String := "CoreTransactions"
def TX4 : u_T := fun k => match k with
  | 0 => ("CoreTransactions", "sets", "I", true)
  | 1 => ("CoreTransactions", "ways", "I", true)
  | 2 => ("CoreTransactions", "cores", "[LCoreTransactions$Core;", true)
  | 3 => ("CoreTransactions", "memory", "[I", true)
  | 4 => ("CoreTransactions", "program", "LCoreTransactions$Program;", true)
  | 5 => ("CoreTransactions", "broken", "LCoreTransactions$Records;", true)
  | _ => ("CoreTransactions", "lastAge", "I", false)
def tyX4 : Nat → FieldType := fun k => match k with
  | 0 => .int
  | 1 => .int
  | 2 => .array (.object "CoreTransactions$Core")
  | 3 => .array .int
  | 4 => .object "CoreTransactions$Program"
  | 5 => .object "CoreTransactions$Records"
  | _ => .int
abbrev wsX40 : List Cond := u_ws RX4 TX4 7
theorem nmX4 : ∀ a, a < 7 → ∀ b, b < 7 → a ≠ b → (TX4 a).2.1 ≠ (TX4 b).2.1 := by decide +kernel
theorem tyX4_ok : ∀ k, k < 7 → parseFieldDescriptor (TX4 k).2.2.1 = some (tyX4 k) := by decide +kernel
abbrev cX4_init : ByteArray := prog_1_method_1_code
def yX4_init : MethodName := ⟨RX4, "<init>", "(III)V"⟩
abbrev cX4_instruction : ByteArray := prog_1_method_2_code
def yX4_instruction : MethodName := ⟨RX4, "instruction", "(IIII)I"⟩
abbrev cX4_start : ByteArray := prog_1_method_3_code
def yX4_start : MethodName := ⟨RX4, "start", "(II)I"⟩
abbrev cX4_set : ByteArray := prog_1_method_4_code
def yX4_set : MethodName := ⟨RX4, "set", "(III)I"⟩
abbrev cX4_poke : ByteArray := prog_1_method_5_code
def yX4_poke : MethodName := ⟨RX4, "poke", "(II)I"⟩
abbrev cX4_pick : ByteArray := prog_1_method_6_code
def yX4_pick : MethodName := ⟨RX4, "pick", "(II)I"⟩
abbrev cX4_run : ByteArray := prog_1_method_7_code
def yX4_run : MethodName := ⟨RX4, "run", "(II)I"⟩
abbrev cX4_register : ByteArray := prog_1_method_8_code
def yX4_register : MethodName := ⟨RX4, "register", "(II)I"⟩
abbrev cX4_word : ByteArray := prog_1_method_9_code
def yX4_word : MethodName := ⟨RX4, "word", "(I)I"⟩
abbrev cX4_seen : ByteArray := prog_1_method_10_code
def yX4_seen : MethodName := ⟨RX4, "seen", "(II)I"⟩
abbrev cX4_told : ByteArray := prog_1_method_11_code
def yX4_told : MethodName := ⟨RX4, "told", "(II)I"⟩
abbrev cX4_records : ByteArray := prog_1_method_12_code
def yX4_records : MethodName := ⟨RX4, "records", "()I"⟩
abbrev cX4_record : ByteArray := prog_1_method_13_code
def yX4_record : MethodName := ⟨RX4, "record", "(II)I"⟩
abbrev cX4_clear : ByteArray := prog_1_method_14_code
def yX4_clear : MethodName := ⟨RX4, "clear", "()V"⟩
abbrev cX4_nearest : ByteArray := prog_1_method_15_code
def yX4_nearest : MethodName := ⟨RX4, "nearest", "(III)I"⟩
abbrev cX4_isRegister : ByteArray := prog_1_method_16_code
def yX4_isRegister : MethodName := ⟨RX4, "isRegister", "(I)Z"⟩
abbrev cX4_isWord : ByteArray := prog_1_method_17_code
def yX4_isWord : MethodName := ⟨RX4, "isWord", "(I)Z"⟩
abbrev cX4_isManyPicks : ByteArray := prog_1_method_18_code
def yX4_isManyPicks : MethodName := ⟨RX4, "isManyPicks", "(I)Z"⟩
abbrev cX4_isCore : ByteArray := prog_1_method_19_code
def yX4_isCore : MethodName := ⟨RX4, "isCore", "(I)Z"⟩
abbrev cX4_namesRegisters : ByteArray := prog_1_method_20_code
def yX4_namesRegisters : MethodName := ⟨RX4, "namesRegisters", "(IIII)Z"⟩
abbrev cX4_step : ByteArray := prog_1_method_21_code
def yX4_step : MethodName := ⟨RX4, "step", "(LCoreTransactions$Core;)I"⟩
abbrev cX4_execute : ByteArray := prog_1_method_22_code
def yX4_execute : MethodName := ⟨RX4, "execute", "(LCoreTransactions$Core;I)Z"⟩
abbrev cX4_executeTransactional : ByteArray := prog_1_method_23_code
def yX4_executeTransactional : MethodName := ⟨RX4, "executeTransactional", "(LCoreTransactions$Core;I)Z"⟩
abbrev cX4_begin : ByteArray := prog_1_method_24_code
def yX4_begin : MethodName := ⟨RX4, "begin", "(LCoreTransactions$Core;I)Z"⟩
abbrev cX4_end : ByteArray := prog_1_method_25_code
def yX4_end : MethodName := ⟨RX4, "end", "(LCoreTransactions$Core;)V"⟩
abbrev cX4_write : ByteArray := prog_1_method_26_code
def yX4_write : MethodName := ⟨RX4, "write", "(LCoreTransactions$Core;II)V"⟩
abbrev cX4_mayAccess : ByteArray := prog_1_method_27_code
def yX4_mayAccess : MethodName := ⟨RX4, "mayAccess", "(LCoreTransactions$Core;IZ)Z"⟩
abbrev cX4_meetsOlder : ByteArray := prog_1_method_28_code
def yX4_meetsOlder : MethodName := ⟨RX4, "meetsOlder", "(LCoreTransactions$Core;IZ)Z"⟩
abbrev cX4_breakOffAll : ByteArray := prog_1_method_29_code
def yX4_breakOffAll : MethodName := ⟨RX4, "breakOffAll", "(IIZ)V"⟩
abbrev cX4_fault : ByteArray := prog_1_method_30_code
def yX4_fault : MethodName := ⟨RX4, "fault", "(LCoreTransactions$Core;)V"⟩
abbrev cX4_breaksOff : ByteArray := prog_1_method_31_code
def yX4_breaksOff : MethodName := ⟨RX4, "breaksOff", "(LCoreTransactions$Core;I)Z"⟩
abbrev cX4_breakOff : ByteArray := prog_1_method_32_code
def yX4_breakOff : MethodName := ⟨RX4, "breakOff", "(LCoreTransactions$Core;I)V"⟩
abbrev cX4_wordSeenBy : ByteArray := prog_1_method_33_code
def yX4_wordSeenBy : MethodName := ⟨RX4, "wordSeenBy", "(LCoreTransactions$Core;I)I"⟩
abbrev cX4_factOf : ByteArray := prog_1_method_34_code
def yX4_factOf : MethodName := ⟨RX4, "factOf", "(LCoreTransactions$Core;I)I"⟩
def RX5 : String := "CoreTransactionsModel"
def TX5 : u_T := fun k => match k with
  | 0 => ("CoreTransactionsModel", "thrown", "I", false)
  | 1 => ("CoreTransactionsModel", "cores", "I", true)
  | 2 => ("CoreTransactionsModel", "sets", "I", true)
  | 3 => ("CoreTransactionsModel", "ways", "I", true)
  | 4 => ("CoreTransactionsModel", "memory", "[I", true)
  | 5 => ("CoreTransactionsModel", "size", "I", false)
  | 6 => ("CoreTransactionsModel", "operations", "[I", true)
  | 7 => ("CoreTransactionsModel", "as", "[I", true)
  | 8 => ("CoreTransactionsModel", "bs", "[I", true)
  | 9 => ("CoreTransactionsModel", "cs", "[I", true)
  | 10 => ("CoreTransactionsModel", "places", "[I", true)
  | 11 => ("CoreTransactionsModel", "ended", "[Z", true)
  | 12 => ("CoreTransactionsModel", "retired", "[I", true)
  | 13 => ("CoreTransactionsModel", "registers", "[I", true)
  | 14 => ("CoreTransactionsModel", "depths", "[I", true)
  | 15 => ("CoreTransactionsModel", "ages", "[I", true)
  | 16 => ("CoreTransactionsModel", "begins", "[I", true)
  | 17 => ("CoreTransactionsModel", "returns", "[I", true)
  | 18 => ("CoreTransactionsModel", "keptRegisters", "[I", true)
  | 19 => ("CoreTransactionsModel", "reads", "[I", true)
  | 20 => ("CoreTransactionsModel", "writes", "[I", true)
  | 21 => ("CoreTransactionsModel", "stores", "[J", true)
  | 22 => ("CoreTransactionsModel", "stored", "[I", true)
  | 23 => ("CoreTransactionsModel", "committed", "[I", true)
  | 24 => ("CoreTransactionsModel", "broken", "[I", true)
  | 25 => ("CoreTransactionsModel", "age", "I", false)
  | 26 => ("CoreTransactionsModel", "recordCount", "I", false)
  | 27 => ("CoreTransactionsModel", "recordCells", "[I", true)
  | _ => ("CoreTransactionsModel", "next", "I", false)
def tyX5 : Nat → FieldType := fun k => match k with
  | 0 => .int
  | 1 => .int
  | 2 => .int
  | 3 => .int
  | 4 => .array .int
  | 5 => .int
  | 6 => .array .int
  | 7 => .array .int
  | 8 => .array .int
  | 9 => .array .int
  | 10 => .array .int
  | 11 => .array .boolean
  | 12 => .array .int
  | 13 => .array .int
  | 14 => .array .int
  | 15 => .array .int
  | 16 => .array .int
  | 17 => .array .int
  | 18 => .array .int
  | 19 => .array .int
  | 20 => .array .int
  | 21 => .array .long
  | 22 => .array .int
  | 23 => .array .int
  | 24 => .array .int
  | 25 => .int
  | 26 => .int
  | 27 => .array .int
  | _ => .int
abbrev wsX50 : List Cond := u_ws RX5 TX5 29
theorem nmX5 : ∀ a, a < 29 → ∀ b, b < 29 → a ≠ b → (TX5 a).2.1 ≠ (TX5 b).2.1 := by decide +kernel
theorem tyX5_ok : ∀ k, k < 29 → parseFieldDescriptor (TX5 k).2.2.1 = some (tyX5 k) := by decide +kernel
abbrev cX5_init : ByteArray := prog_7_method_1_code
def yX5_init : MethodName := ⟨RX5, "<init>", "(III)V"⟩
abbrev cX5_thrown : ByteArray := prog_7_method_2_code
def yX5_thrown : MethodName := ⟨RX5, "thrown", "()I"⟩
abbrev cX5_near : ByteArray := prog_7_method_3_code
def yX5_near : MethodName := ⟨RX5, "near", "(III)I"⟩
abbrev cX5_isIn : ByteArray := prog_7_method_4_code
def yX5_isIn : MethodName := ⟨RX5, "isIn", "(II)Z"⟩
abbrev cX5_namesA : ByteArray := prog_7_method_5_code
def yX5_namesA : MethodName := ⟨RX5, "namesA", "(I)Z"⟩
abbrev cX5_namesB : ByteArray := prog_7_method_6_code
def yX5_namesB : MethodName := ⟨RX5, "namesB", "(I)Z"⟩
abbrev cX5_namesC : ByteArray := prog_7_method_7_code
def yX5_namesC : MethodName := ⟨RX5, "namesC", "(I)Z"⟩
abbrev cX5_instruction : ByteArray := prog_7_method_8_code
def yX5_instruction : MethodName := ⟨RX5, "instruction", "(IIII)I"⟩
abbrev cX5_leave : ByteArray := prog_7_method_9_code
def yX5_leave : MethodName := ⟨RX5, "leave", "(I)V"⟩
abbrev cX5_start : ByteArray := prog_7_method_10_code
def yX5_start : MethodName := ⟨RX5, "start", "(II)I"⟩
abbrev cX5_get : ByteArray := prog_7_method_11_code
def yX5_get : MethodName := ⟨RX5, "get", "(II)I"⟩
abbrev cX5_give : ByteArray := prog_7_method_12_code
def yX5_give : MethodName := ⟨RX5, "give", "(III)V"⟩
abbrev cX5_set : ByteArray := prog_7_method_13_code
def yX5_set : MethodName := ⟨RX5, "set", "(III)I"⟩
abbrev cX5_breakOff : ByteArray := prog_7_method_14_code
def yX5_breakOff : MethodName := ⟨RX5, "breakOff", "(II)V"⟩
abbrev cX5_breakOthers : ByteArray := prog_7_method_15_code
def yX5_breakOthers : MethodName := ⟨RX5, "breakOthers", "(IIZ)V"⟩
abbrev cX5_meets : ByteArray := prog_7_method_16_code
def yX5_meets : MethodName := ⟨RX5, "meets", "(IIZ)Z"⟩
abbrev cX5_poke : ByteArray := prog_7_method_17_code
def yX5_poke : MethodName := ⟨RX5, "poke", "(II)I"⟩
abbrev cX5_linesInSet : ByteArray := prog_7_method_18_code
def yX5_linesInSet : MethodName := ⟨RX5, "linesInSet", "(II)I"⟩
abbrev cX5_comes : ByteArray := prog_7_method_19_code
def yX5_comes : MethodName := ⟨RX5, "comes", "(IIZ)Z"⟩
abbrev cX5_sees : ByteArray := prog_7_method_20_code
def yX5_sees : MethodName := ⟨RX5, "sees", "(II)I"⟩
abbrev cX5_commit : ByteArray := prog_7_method_21_code
def yX5_commit : MethodName := ⟨RX5, "commit", "(I)V"⟩
abbrev cX5_faults : ByteArray := prog_7_method_22_code
def yX5_faults : MethodName := ⟨RX5, "faults", "(I)Z"⟩
abbrev cX5_load : ByteArray := prog_7_method_23_code
def yX5_load : MethodName := ⟨RX5, "load", "(III)Z"⟩
abbrev cX5_store : ByteArray := prog_7_method_24_code
def yX5_store : MethodName := ⟨RX5, "store", "(III)Z"⟩
abbrev cX5_begin : ByteArray := prog_7_method_25_code
def yX5_begin : MethodName := ⟨RX5, "begin", "(III)Z"⟩
abbrev cX5_end : ByteArray := prog_7_method_26_code
def yX5_end : MethodName := ⟨RX5, "end", "(I)V"⟩
abbrev cX5_abort : ByteArray := prog_7_method_27_code
def yX5_abort : MethodName := ⟨RX5, "abort", "(II)Z"⟩
abbrev cX5_does : ByteArray := prog_7_method_28_code
def yX5_does : MethodName := ⟨RX5, "does", "(II)Z"⟩
abbrev cX5_step : ByteArray := prog_7_method_29_code
def yX5_step : MethodName := ⟨RX5, "step", "(I)I"⟩
abbrev cX5_pick : ByteArray := prog_7_method_30_code
def yX5_pick : MethodName := ⟨RX5, "pick", "(II)I"⟩
abbrev cX5_run : ByteArray := prog_7_method_31_code
def yX5_run : MethodName := ⟨RX5, "run", "(II)I"⟩
abbrev cX5_register : ByteArray := prog_7_method_32_code
def yX5_register : MethodName := ⟨RX5, "register", "(II)I"⟩
abbrev cX5_word : ByteArray := prog_7_method_33_code
def yX5_word : MethodName := ⟨RX5, "word", "(I)I"⟩
abbrev cX5_seen : ByteArray := prog_7_method_34_code
def yX5_seen : MethodName := ⟨RX5, "seen", "(II)I"⟩
abbrev cX5_bits : ByteArray := prog_7_method_35_code
def yX5_bits : MethodName := ⟨RX5, "bits", "(J)I"⟩
abbrev cX5_told : ByteArray := prog_7_method_36_code
def yX5_told : MethodName := ⟨RX5, "told", "(II)I"⟩
abbrev cX5_records : ByteArray := prog_7_method_37_code
def yX5_records : MethodName := ⟨RX5, "records", "()I"⟩
abbrev cX5_record : ByteArray := prog_7_method_38_code
def yX5_record : MethodName := ⟨RX5, "record", "(II)I"⟩
abbrev cX5_clear : ByteArray := prog_7_method_39_code
def yX5_clear : MethodName := ⟨RX5, "clear", "()V"⟩
def RJ6 : String := "java/lang/Integer"
def TJ6 : u_T := fun k => match k with
  | _ => ("", "", "", false)
def tyJ6 : Nat → FieldType := fun k => match k with
  | _ => .int
abbrev wsJ60 : List Cond := u_ws RJ6 TJ6 0
theorem nmJ6 : ∀ a, a < 0 → ∀ b, b < 0 → a ≠ b → (TJ6 a).2.1 ≠ (TJ6 b).2.1 := by decide +kernel
theorem tyJ6_ok : ∀ k, k < 0 → parseFieldDescriptor (TJ6 k).2.2.1 = some (tyJ6 k) := by decide +kernel
abbrev cJ6_bitCount_0f7a4 : ByteArray := prog_11_method_49_code
def yJ6_bitCount_0f7a4 : MethodName := ⟨RJ6, "bitCount", "(I)I"⟩
def RJ13 : String := "java/lang/Long"
def TJ13 : u_T := fun k => match k with
  | _ => ("", "", "", false)
def tyJ13 : Nat → FieldType := fun k => match k with
  | _ => .int
abbrev wsJ130 : List Cond := u_ws RJ13 TJ13 0
theorem nmJ13 : ∀ a, a < 0 → ∀ b, b < 0 → a ≠ b → (TJ13 a).2.1 ≠ (TJ13 b).2.1 := by decide +kernel
theorem tyJ13_ok : ∀ k, k < 0 → parseFieldDescriptor (TJ13 k).2.2.1 = some (tyJ13 k) := by decide +kernel
abbrev cJ13_bitCount_95d88 : ByteArray := prog_12_method_50_code
def yJ13_bitCount_95d88 : MethodName := ⟨RJ13, "bitCount", "(J)I"⟩
def RJ9 : String := "java/lang/Math"
def TJ9 : u_T := fun k => match k with
  | _ => ("", "", "", false)
def tyJ9 : Nat → FieldType := fun k => match k with
  | _ => .int
abbrev wsJ90 : List Cond := u_ws RJ9 TJ9 0
theorem nmJ9 : ∀ a, a < 0 → ∀ b, b < 0 → a ≠ b → (TJ9 a).2.1 ≠ (TJ9 b).2.1 := by decide +kernel
theorem tyJ9_ok : ∀ k, k < 0 → parseFieldDescriptor (TJ9 k).2.2.1 = some (tyJ9 k) := by decide +kernel
abbrev cJ9_max_7cf53 : ByteArray := prog_13_method_65_code
def yJ9_max_7cf53 : MethodName := ⟨RJ9, "max", "(II)I"⟩
abbrev cJ9_min_7cf53 : ByteArray := prog_13_method_69_code
def yJ9_min_7cf53 : MethodName := ⟨RJ9, "min", "(II)I"⟩
def RJ10 : String := "java/lang/System"
def TJ10 : u_T := fun k => match k with
  | _ => ("", "", "", false)
def tyJ10 : Nat → FieldType := fun k => match k with
  | _ => .int
abbrev wsJ100 : List Cond := u_ws RJ10 TJ10 0
theorem nmJ10 : ∀ a, a < 0 → ∀ b, b < 0 → a ≠ b → (TJ10 a).2.1 ≠ (TJ10 b).2.1 := by decide +kernel
theorem tyJ10_ok : ∀ k, k < 0 → parseFieldDescriptor (TJ10 k).2.2.1 = some (tyJ10 k) := by decide +kernel
def RL : String := "CoreTransactionsLaw"
abbrev cL_cell : ByteArray := method_2_code
def yL_cell : MethodName := ⟨RL, "cell", "([II)I"⟩
abbrev cL_instruction : ByteArray := method_3_code
def yL_instruction : MethodName := ⟨RL, "instruction", "(LCoreTransactions;IIII[J)I"⟩
abbrev cL_start : ByteArray := method_4_code
def yL_start : MethodName := ⟨RL, "start", "(LCoreTransactions;II[J)I"⟩
abbrev cL_set : ByteArray := method_5_code
def yL_set : MethodName := ⟨RL, "set", "(LCoreTransactions;III[J)I"⟩
abbrev cL_poke : ByteArray := method_6_code
def yL_poke : MethodName := ⟨RL, "poke", "(LCoreTransactions;II[J)I"⟩
abbrev cL_pick : ByteArray := method_7_code
def yL_pick : MethodName := ⟨RL, "pick", "(LCoreTransactions;II[J)I"⟩
abbrev cL_run : ByteArray := method_8_code
def yL_run : MethodName := ⟨RL, "run", "(LCoreTransactions;II[J)I"⟩
abbrev cL_register : ByteArray := method_9_code
def yL_register : MethodName := ⟨RL, "register", "(LCoreTransactions;II[J)I"⟩
abbrev cL_word : ByteArray := method_10_code
def yL_word : MethodName := ⟨RL, "word", "(LCoreTransactions;I[J)I"⟩
abbrev cL_seen : ByteArray := method_11_code
def yL_seen : MethodName := ⟨RL, "seen", "(LCoreTransactions;II[J)I"⟩
abbrev cL_told : ByteArray := method_12_code
def yL_told : MethodName := ⟨RL, "told", "(LCoreTransactions;II[J)I"⟩
abbrev cL_record : ByteArray := method_13_code
def yL_record : MethodName := ⟨RL, "record", "(LCoreTransactions;II[J)I"⟩
abbrev cL_law : ByteArray := code
def yL_law : MethodName := ⟨RL, "law", "([I)Z"⟩
def wsX3_init : List Cond := .code yX3_init cX3_init 1 none :: ([.methodLink RX3 3 objectInit, .instanceMethod objectInit, .code objectInit ⟨#[0xb1]⟩ 1 none, .arrayClass .int, .fieldLink RX3 9 "CoreTransactions$Transaction" "keptRegisters" "[I", .fieldLink RX3 15 "CoreTransactions$Transaction" "storedWords" "[I"] ++ wsX30)
def wsX0_init : List Cond := .code yX0_init cX0_init 2 none :: ([.methodLink RX0 3 objectInit, .instanceMethod objectInit, .code objectInit ⟨#[0xb1]⟩ 1 none, .arrayClass .int, .fieldLink RX0 9 "CoreTransactions$Core" "registers" "[I", .classLink RX0 15 RX3, .instantiable RX3 9, .initialized RX3, .fieldLink RX0 18 "CoreTransactions$Core" "transaction" "LCoreTransactions$Transaction;", .fieldLink RX0 22 "CoreTransactions$Core" "number" "I", .instanceMethod yX3_init, .code yX3_init cX3_init 1 none, .methodLink RX3 3 objectInit, .fieldLink RX3 9 "CoreTransactions$Transaction" "keptRegisters" "[I", .fieldLink RX3 15 "CoreTransactions$Transaction" "storedWords" "[I"] ++ wsX00 ++ wsX30)
def wsX0_put : List Cond := .code yX0_put cX0_put 3 none :: ([.fieldLink RX0 9 "CoreTransactions$Core" "registers" "[I"] ++ wsX00)
def wsX3_close : List Cond := .code yX3_close cX3_close 1 none :: ([.fieldLink RX3 34 "CoreTransactions$Transaction" "depth" "I", .fieldLink RX3 18 "CoreTransactions$Transaction" "age" "I", .fieldLink RX3 37 "CoreTransactions$Transaction" "linesRead" "I", .fieldLink RX3 40 "CoreTransactions$Transaction" "linesWritten" "I", .fieldLink RX3 43 "CoreTransactions$Transaction" "stored" "J"] ++ wsX30)
def wsX0_reset : List Cond := .code yX0_reset cX0_reset 2 none :: ([.fieldLink RX0 9 "CoreTransactions$Core" "registers" "[I", .fieldLink RX0 18 "CoreTransactions$Core" "transaction" "LCoreTransactions$Transaction;", .fieldLink RX0 29 "CoreTransactions$Core" "place" "I", .fieldLink RX0 32 "CoreTransactions$Core" "ended" "Z", .fieldLink RX0 36 "CoreTransactions$Core" "retired" "I", .fieldLink RX0 39 "CoreTransactions$Core" "committed" "I", .fieldLink RX0 42 "CoreTransactions$Core" "brokenOff" "I", .methodLink RX0 26 yX3_close, .instanceMethod yX3_close, .selects RX3 yX3_close yX3_close, .initialized RX3, .code yX3_close cX3_close 1 none, .fieldLink RX3 34 "CoreTransactions$Transaction" "depth" "I", .fieldLink RX3 18 "CoreTransactions$Transaction" "age" "I", .fieldLink RX3 37 "CoreTransactions$Transaction" "linesRead" "I", .fieldLink RX3 40 "CoreTransactions$Transaction" "linesWritten" "I", .fieldLink RX3 43 "CoreTransactions$Transaction" "stored" "J"] ++ wsX00 ++ wsX30)
def wsX1_init : List Cond := .code yX1_init cX1_init 1 none :: ([.methodLink RX1 3 objectInit, .instanceMethod objectInit, .code objectInit ⟨#[0xb1]⟩ 1 none, .arrayClass .int, .fieldLink RX1 9 "CoreTransactions$Program" "operations" "[I", .fieldLink RX1 15 "CoreTransactions$Program" "a" "[I", .fieldLink RX1 18 "CoreTransactions$Program" "b" "[I", .fieldLink RX1 21 "CoreTransactions$Program" "c" "[I"] ++ wsX10)
def wsX1_append : List Cond := .code yX1_append cX1_append 6 (some .int) :: ([.fieldLink RX1 24 "CoreTransactions$Program" "length" "I", .fieldLink RX1 9 "CoreTransactions$Program" "operations" "[I", .fieldLink RX1 15 "CoreTransactions$Program" "a" "[I", .fieldLink RX1 18 "CoreTransactions$Program" "b" "[I", .fieldLink RX1 21 "CoreTransactions$Program" "c" "[I"] ++ wsX10)
def wsX2_init : List Cond := .code yX2_init cX2_init 1 none :: ([.methodLink RX2 3 objectInit, .instanceMethod objectInit, .code objectInit ⟨#[0xb1]⟩ 1 none, .arrayClass .int, .fieldLink RX2 9 "CoreTransactions$Records" "fields" "[I"] ++ wsX20)
def wsX2_add : List Cond := .code yX2_add cX2_add 6 none :: ([.fieldLink RX2 15 "CoreTransactions$Records" "oldest" "I", .fieldLink RX2 19 "CoreTransactions$Records" "count" "I", .fieldLink RX2 9 "CoreTransactions$Records" "fields" "[I"] ++ wsX20)
def wsX2_field : List Cond := .code yX2_field cX2_field 3 (some .int) :: ([.fieldLink RX2 9 "CoreTransactions$Records" "fields" "[I", .fieldLink RX2 15 "CoreTransactions$Records" "oldest" "I"] ++ wsX20)
def wsX2_forget : List Cond := .code yX2_forget cX2_forget 1 none :: ([.fieldLink RX2 19 "CoreTransactions$Records" "count" "I", .fieldLink RX2 15 "CoreTransactions$Records" "oldest" "I"] ++ wsX20)
def wsX3_open : List Cond := .code yX3_open cX3_open 5 none :: ([.fieldLink RX3 18 "CoreTransactions$Transaction" "age" "I", .fieldLink RX3 22 "CoreTransactions$Transaction" "beginPlace" "I", .fieldLink RX3 25 "CoreTransactions$Transaction" "keptPlace" "I", .fieldLink RX3 9 "CoreTransactions$Transaction" "keptRegisters" "[I", .methodLink RX3 28 arraycopyName, .native arraycopyName, .static arraycopyName, .initialized "java/lang/System"] ++ wsX30)
def wsX3_mark : List Cond := .code yX3_mark cX3_mark 3 none :: ([.fieldLink RX3 40 "CoreTransactions$Transaction" "linesWritten" "I", .fieldLink RX3 37 "CoreTransactions$Transaction" "linesRead" "I"] ++ wsX30)
def wsX3_touches : List Cond := .code yX3_touches cX3_touches 4 (some .boolean) :: ([.fieldLink RX3 37 "CoreTransactions$Transaction" "linesRead" "I", .fieldLink RX3 40 "CoreTransactions$Transaction" "linesWritten" "I"] ++ wsX30)
def wsX3_linesInSet : List Cond := .code yX3_linesInSet cX3_linesInSet 5 (some .int) :: ([.fieldLink RX3 37 "CoreTransactions$Transaction" "linesRead" "I", .fieldLink RX3 40 "CoreTransactions$Transaction" "linesWritten" "I"] ++ wsX30)
def wsX3_keep : List Cond := .code yX3_keep cX3_keep 3 none :: ([.fieldLink RX3 43 "CoreTransactions$Transaction" "stored" "J", .fieldLink RX3 15 "CoreTransactions$Transaction" "storedWords" "[I"] ++ wsX30)
def wsX3_hasStored : List Cond := .code yX3_hasStored cX3_hasStored 2 (some .boolean) :: ([.fieldLink RX3 43 "CoreTransactions$Transaction" "stored" "J"] ++ wsX30)
def wsX3_writeTo : List Cond := .code yX3_writeTo cX3_writeTo 3 none :: ([.fieldLink RX3 15 "CoreTransactions$Transaction" "storedWords" "[I", .methodLink RX3 47 yX3_hasStored, .instanceMethod yX3_hasStored, .selects RX3 yX3_hasStored yX3_hasStored, .initialized RX3, .code yX3_hasStored cX3_hasStored 2 (some .boolean), .fieldLink RX3 43 "CoreTransactions$Transaction" "stored" "J"] ++ wsX30)
def wsX4_nearest : List Cond := .code yX4_nearest cX4_nearest 3 (some .int) :: ([.methodLink RX4 135 Lib.Math.min.name, .static Lib.Math.min.name, .initialized "java/lang/Math", .code Lib.Math.min.name Lib.Math.min.code 2 (some .int), .methodLink RX4 140 Lib.Math.max.name, .static Lib.Math.max.name, .code Lib.Math.max.name Lib.Math.max.code 2 (some .int)])
def wsX4_init_r1 : List Cond := [Cond.methodLink RX4 1 objectInit, Cond.instanceMethod objectInit, Cond.code objectInit ⟨#[0xb1]⟩ 1 none, Cond.arrayClass .int, Cond.fieldLink RX4 9 "CoreTransactions" "memory" "[I", Cond.classLink RX4 13 RX1, Cond.instantiable RX1 5, Cond.initialized RX1, Cond.fieldLink RX4 16 "CoreTransactions" "program" "LCoreTransactions$Program;", Cond.classLink RX4 20 RX2, Cond.instantiable RX2 3, Cond.initialized RX2, Cond.fieldLink RX4 23 "CoreTransactions" "broken" "LCoreTransactions$Records;", Cond.fieldLink RX4 31 "CoreTransactions" "sets" "I", Cond.fieldLink RX4 35 "CoreTransactions" "ways" "I", Cond.classLink RX4 38 RX0, Cond.fieldLink RX4 40 "CoreTransactions" "cores" "[LCoreTransactions$Core;", Cond.instantiable RX0 8, Cond.initialized RX0, Cond.instanceMethod yX1_init, Cond.code yX1_init cX1_init 1 none, Cond.methodLink RX1 3 objectInit, Cond.fieldLink RX1 9 "CoreTransactions$Program" "operations" "[I", Cond.fieldLink RX1 15 "CoreTransactions$Program" "a" "[I"]
def wsX4_init_r2 : List Cond := [Cond.fieldLink RX1 18 "CoreTransactions$Program" "b" "[I", Cond.fieldLink RX1 21 "CoreTransactions$Program" "c" "[I", Cond.instanceMethod yX2_init, Cond.code yX2_init cX2_init 1 none, Cond.methodLink RX2 3 objectInit, Cond.fieldLink RX2 9 "CoreTransactions$Records" "fields" "[I", Cond.methodLink RX4 27 yX4_nearest, Cond.static yX4_nearest, Cond.initialized RX4, Cond.code yX4_nearest cX4_nearest 3 (some .int), Cond.methodLink RX4 135 Lib.Math.min.name, Cond.static Lib.Math.min.name, Cond.initialized "java/lang/Math", Cond.code Lib.Math.min.name Lib.Math.min.code 2 (some .int), Cond.methodLink RX4 140 Lib.Math.max.name, Cond.static Lib.Math.max.name, Cond.code Lib.Math.max.name Lib.Math.max.code 2 (some .int), Cond.methodLink RX4 44 yX0_init, Cond.instanceMethod yX0_init, Cond.code yX0_init cX0_init 2 none, Cond.methodLink RX0 3 objectInit, Cond.fieldLink RX0 9 "CoreTransactions$Core" "registers" "[I", Cond.classLink RX0 15 RX3, Cond.instantiable RX3 9]
def wsX4_init_r3 : List Cond := [Cond.initialized RX3, Cond.fieldLink RX0 18 "CoreTransactions$Core" "transaction" "LCoreTransactions$Transaction;", Cond.fieldLink RX0 22 "CoreTransactions$Core" "number" "I", Cond.instanceMethod yX3_init, Cond.code yX3_init cX3_init 1 none, Cond.methodLink RX3 3 objectInit, Cond.fieldLink RX3 9 "CoreTransactions$Transaction" "keptRegisters" "[I", Cond.fieldLink RX3 15 "CoreTransactions$Transaction" "storedWords" "[I"]
def wsX4_init : List Cond := .code yX4_init cX4_init 6 none :: ((wsX4_init_r1 ++ (wsX4_init_r2 ++ wsX4_init_r3)) ++ wsX40 ++ wsX10 ++ wsX20 ++ wsX00 ++ wsX30)
def wsX4_isRegister : List Cond := .code yX4_isRegister cX4_isRegister 1 (some .boolean) :: ([])
def wsX4_namesRegisters : List Cond := .code yX4_namesRegisters cX4_namesRegisters 7 (some .boolean) :: ([.methodLink RX4 87 yX4_isRegister, .static yX4_isRegister, .initialized RX4, .code yX4_isRegister cX4_isRegister 1 (some .boolean)])
def wsX4_instruction : List Cond := .code yX4_instruction cX4_instruction 5 (some .int) :: ([.classLink RX4 51 "java/lang/IllegalArgumentException", .initialized "java/lang/IllegalArgumentException", .classLink RX4 57 "java/lang/UnsupportedOperationException", .initialized "java/lang/UnsupportedOperationException", .fieldLink RX4 16 "CoreTransactions" "program" "LCoreTransactions$Program;", .fieldLink RX4 54 "CoreTransactions$Program" "length" "I", .methodLink RX4 47 yX4_namesRegisters, .static yX4_namesRegisters, .initialized RX4, .code yX4_namesRegisters cX4_namesRegisters 7 (some .boolean), .methodLink RX4 87 yX4_isRegister, .static yX4_isRegister, .code yX4_isRegister cX4_isRegister 1 (some .boolean), .methodLink RX4 60 yX1_append, .instanceMethod yX1_append, .selects RX1 yX1_append yX1_append, .initialized RX1, .code yX1_append cX1_append 6 (some .int), .fieldLink RX1 24 "CoreTransactions$Program" "length" "I", .fieldLink RX1 9 "CoreTransactions$Program" "operations" "[I", .fieldLink RX1 15 "CoreTransactions$Program" "a" "[I", .fieldLink RX1 18 "CoreTransactions$Program" "b" "[I", .fieldLink RX1 21 "CoreTransactions$Program" "c" "[I"] ++ wsX40 ++ wsX10 ++ (vx_at0 RX4 53 "java/lang/IllegalArgumentException" ["java/lang/RuntimeException", "java/lang/Exception"]).filter goodWord ++ (vx_at0 RX4 59 "java/lang/UnsupportedOperationException" ["java/lang/RuntimeException", "java/lang/Exception"]).filter goodWord)
def wsX4_isCore : List Cond := .code yX4_isCore cX4_isCore 2 (some .boolean) :: ([.fieldLink RX4 40 "CoreTransactions" "cores" "[LCoreTransactions$Core;"] ++ wsX40)
def wsX4_start : List Cond := .code yX4_start cX4_start 5 (some .int) :: ([.classLink RX4 68 "java/lang/IndexOutOfBoundsException", .initialized "java/lang/IndexOutOfBoundsException", .classLink RX4 51 "java/lang/IllegalArgumentException", .initialized "java/lang/IllegalArgumentException", .fieldLink RX4 40 "CoreTransactions" "cores" "[LCoreTransactions$Core;", .fieldLink RX4 71 "CoreTransactions$Core" "place" "I", .fieldLink RX4 74 "CoreTransactions$Core" "transaction" "LCoreTransactions$Transaction;", .fieldLink RX4 83 "CoreTransactions$Core" "ended" "Z", .methodLink RX4 64 yX4_isCore, .instanceMethod yX4_isCore, .selects RX4 yX4_isCore yX4_isCore, .initialized RX4, .code yX4_isCore cX4_isCore 2 (some .boolean), .methodLink RX4 78 yX3_close, .instanceMethod yX3_close, .selects RX3 yX3_close yX3_close, .initialized RX3, .code yX3_close cX3_close 1 none, .fieldLink RX3 34 "CoreTransactions$Transaction" "depth" "I", .fieldLink RX3 18 "CoreTransactions$Transaction" "age" "I", .fieldLink RX3 37 "CoreTransactions$Transaction" "linesRead" "I", .fieldLink RX3 40 "CoreTransactions$Transaction" "linesWritten" "I", .fieldLink RX3 43 "CoreTransactions$Transaction" "stored" "J"] ++ wsX40 ++ wsX00 ++ wsX30 ++ (vx_at0 RX4 70 "java/lang/IndexOutOfBoundsException" ["java/lang/RuntimeException", "java/lang/Exception"]).filter goodWord ++ (vx_at0 RX4 53 "java/lang/IllegalArgumentException" ["java/lang/RuntimeException", "java/lang/Exception"]).filter goodWord)
def wsX4_set : List Cond := .code yX4_set cX4_set 5 (some .int) :: ([.classLink RX4 68 "java/lang/IndexOutOfBoundsException", .initialized "java/lang/IndexOutOfBoundsException", .fieldLink RX4 40 "CoreTransactions" "cores" "[LCoreTransactions$Core;", .fieldLink RX4 90 "CoreTransactions$Core" "registers" "[I", .methodLink RX4 64 yX4_isCore, .instanceMethod yX4_isCore, .selects RX4 yX4_isCore yX4_isCore, .initialized RX4, .code yX4_isCore cX4_isCore 2 (some .boolean), .methodLink RX4 87 yX4_isRegister, .static yX4_isRegister, .code yX4_isRegister cX4_isRegister 1 (some .boolean), .methodLink RX4 93 yX0_put, .instanceMethod yX0_put, .selects RX0 yX0_put yX0_put, .initialized RX0, .code yX0_put cX0_put 3 none, .fieldLink RX0 9 "CoreTransactions$Core" "registers" "[I"] ++ wsX40 ++ wsX00 ++ (vx_at0 RX4 70 "java/lang/IndexOutOfBoundsException" ["java/lang/RuntimeException", "java/lang/Exception"]).filter goodWord)
def wsX4_isWord : List Cond := .code yX4_isWord cX4_isWord 1 (some .boolean) :: ([])
def wsX4_breakOff_r1 : List Cond := [Cond.fieldLink RX4 74 "CoreTransactions$Core" "transaction" "LCoreTransactions$Transaction;", Cond.fieldLink RX4 23 "CoreTransactions" "broken" "LCoreTransactions$Records;", Cond.fieldLink RX4 210 "CoreTransactions$Core" "number" "I", Cond.fieldLink RX4 227 "CoreTransactions$Transaction" "beginPlace" "I", Cond.fieldLink RX4 224 "CoreTransactions$Transaction" "age" "I", Cond.fieldLink RX4 234 "CoreTransactions$Transaction" "keptRegisters" "[I", Cond.fieldLink RX4 90 "CoreTransactions$Core" "registers" "[I", Cond.methodLink RX4 237 arraycopyName, Cond.native arraycopyName, Cond.static arraycopyName, Cond.initialized "java/lang/System", Cond.fieldLink RX4 243 "CoreTransactions$Transaction" "keptPlace" "I", Cond.fieldLink RX4 71 "CoreTransactions$Core" "place" "I", Cond.fieldLink RX4 246 "CoreTransactions$Core" "brokenOff" "I", Cond.methodLink RX4 230 yX2_add, Cond.instanceMethod yX2_add, Cond.selects RX2 yX2_add yX2_add, Cond.initialized RX2, Cond.code yX2_add cX2_add 6 none, Cond.fieldLink RX2 15 "CoreTransactions$Records" "oldest" "I", Cond.fieldLink RX2 19 "CoreTransactions$Records" "count" "I", Cond.fieldLink RX2 9 "CoreTransactions$Records" "fields" "[I", Cond.methodLink RX4 93 yX0_put, Cond.instanceMethod yX0_put]
def wsX4_breakOff_r2 : List Cond := [Cond.selects RX0 yX0_put yX0_put, Cond.initialized RX0, Cond.code yX0_put cX0_put 3 none, Cond.fieldLink RX0 9 "CoreTransactions$Core" "registers" "[I", Cond.methodLink RX4 78 yX3_close, Cond.instanceMethod yX3_close, Cond.selects RX3 yX3_close yX3_close, Cond.initialized RX3, Cond.code yX3_close cX3_close 1 none, Cond.fieldLink RX3 34 "CoreTransactions$Transaction" "depth" "I", Cond.fieldLink RX3 18 "CoreTransactions$Transaction" "age" "I", Cond.fieldLink RX3 37 "CoreTransactions$Transaction" "linesRead" "I", Cond.fieldLink RX3 40 "CoreTransactions$Transaction" "linesWritten" "I", Cond.fieldLink RX3 43 "CoreTransactions$Transaction" "stored" "J"]
def wsX4_breakOff : List Cond := .code yX4_breakOff cX4_breakOff 4 none :: ((wsX4_breakOff_r1 ++ wsX4_breakOff_r2) ++ wsX00 ++ wsX40 ++ wsX30 ++ wsX20)
def wsX4_breakOffAll_r1 : List Cond := [Cond.fieldLink RX4 40 "CoreTransactions" "cores" "[LCoreTransactions$Core;", Cond.fieldLink RX4 74 "CoreTransactions$Core" "transaction" "LCoreTransactions$Transaction;", Cond.methodLink RX4 220 yX3_touches, Cond.instanceMethod yX3_touches, Cond.selects RX3 yX3_touches yX3_touches, Cond.initialized RX3, Cond.code yX3_touches cX3_touches 4 (some .boolean), Cond.fieldLink RX3 37 "CoreTransactions$Transaction" "linesRead" "I", Cond.fieldLink RX3 40 "CoreTransactions$Transaction" "linesWritten" "I", Cond.methodLink RX4 189 yX4_breakOff, Cond.instanceMethod yX4_breakOff, Cond.selects RX4 yX4_breakOff yX4_breakOff, Cond.initialized RX4, Cond.code yX4_breakOff cX4_breakOff 4 none, Cond.fieldLink RX4 23 "CoreTransactions" "broken" "LCoreTransactions$Records;", Cond.fieldLink RX4 210 "CoreTransactions$Core" "number" "I", Cond.fieldLink RX4 227 "CoreTransactions$Transaction" "beginPlace" "I", Cond.fieldLink RX4 224 "CoreTransactions$Transaction" "age" "I", Cond.fieldLink RX4 234 "CoreTransactions$Transaction" "keptRegisters" "[I", Cond.fieldLink RX4 90 "CoreTransactions$Core" "registers" "[I", Cond.methodLink RX4 237 arraycopyName, Cond.native arraycopyName, Cond.static arraycopyName, Cond.initialized "java/lang/System"]
def wsX4_breakOffAll_r2 : List Cond := [Cond.fieldLink RX4 243 "CoreTransactions$Transaction" "keptPlace" "I", Cond.fieldLink RX4 71 "CoreTransactions$Core" "place" "I", Cond.fieldLink RX4 246 "CoreTransactions$Core" "brokenOff" "I", Cond.methodLink RX4 230 yX2_add, Cond.instanceMethod yX2_add, Cond.selects RX2 yX2_add yX2_add, Cond.initialized RX2, Cond.code yX2_add cX2_add 6 none, Cond.fieldLink RX2 15 "CoreTransactions$Records" "oldest" "I", Cond.fieldLink RX2 19 "CoreTransactions$Records" "count" "I", Cond.fieldLink RX2 9 "CoreTransactions$Records" "fields" "[I", Cond.methodLink RX4 93 yX0_put, Cond.instanceMethod yX0_put, Cond.selects RX0 yX0_put yX0_put, Cond.initialized RX0, Cond.code yX0_put cX0_put 3 none, Cond.fieldLink RX0 9 "CoreTransactions$Core" "registers" "[I", Cond.methodLink RX4 78 yX3_close, Cond.instanceMethod yX3_close, Cond.selects RX3 yX3_close yX3_close, Cond.code yX3_close cX3_close 1 none, Cond.fieldLink RX3 34 "CoreTransactions$Transaction" "depth" "I", Cond.fieldLink RX3 18 "CoreTransactions$Transaction" "age" "I", Cond.fieldLink RX3 43 "CoreTransactions$Transaction" "stored" "J"]
def wsX4_breakOffAll : List Cond := .code yX4_breakOffAll cX4_breakOffAll 5 none :: ((wsX4_breakOffAll_r1 ++ wsX4_breakOffAll_r2) ++ wsX40 ++ wsX00 ++ wsX30 ++ wsX20)
def wsX4_poke_r1 : List Cond := [Cond.classLink RX4 68 "java/lang/IndexOutOfBoundsException", Cond.initialized "java/lang/IndexOutOfBoundsException", Cond.fieldLink RX4 9 "CoreTransactions" "memory" "[I", Cond.methodLink RX4 97 yX4_isWord, Cond.static yX4_isWord, Cond.initialized RX4, Cond.code yX4_isWord cX4_isWord 1 (some .boolean), Cond.methodLink RX4 100 yX4_breakOffAll, Cond.instanceMethod yX4_breakOffAll, Cond.selects RX4 yX4_breakOffAll yX4_breakOffAll, Cond.code yX4_breakOffAll cX4_breakOffAll 5 none, Cond.fieldLink RX4 40 "CoreTransactions" "cores" "[LCoreTransactions$Core;", Cond.fieldLink RX4 74 "CoreTransactions$Core" "transaction" "LCoreTransactions$Transaction;", Cond.methodLink RX4 220 yX3_touches, Cond.instanceMethod yX3_touches, Cond.selects RX3 yX3_touches yX3_touches, Cond.initialized RX3, Cond.code yX3_touches cX3_touches 4 (some .boolean), Cond.fieldLink RX3 37 "CoreTransactions$Transaction" "linesRead" "I", Cond.fieldLink RX3 40 "CoreTransactions$Transaction" "linesWritten" "I", Cond.methodLink RX4 189 yX4_breakOff, Cond.instanceMethod yX4_breakOff, Cond.selects RX4 yX4_breakOff yX4_breakOff, Cond.code yX4_breakOff cX4_breakOff 4 none]
def wsX4_poke_r2 : List Cond := [Cond.fieldLink RX4 23 "CoreTransactions" "broken" "LCoreTransactions$Records;", Cond.fieldLink RX4 210 "CoreTransactions$Core" "number" "I", Cond.fieldLink RX4 227 "CoreTransactions$Transaction" "beginPlace" "I", Cond.fieldLink RX4 224 "CoreTransactions$Transaction" "age" "I", Cond.fieldLink RX4 234 "CoreTransactions$Transaction" "keptRegisters" "[I", Cond.fieldLink RX4 90 "CoreTransactions$Core" "registers" "[I", Cond.methodLink RX4 237 arraycopyName, Cond.native arraycopyName, Cond.static arraycopyName, Cond.initialized "java/lang/System", Cond.fieldLink RX4 243 "CoreTransactions$Transaction" "keptPlace" "I", Cond.fieldLink RX4 71 "CoreTransactions$Core" "place" "I", Cond.fieldLink RX4 246 "CoreTransactions$Core" "brokenOff" "I", Cond.methodLink RX4 230 yX2_add, Cond.instanceMethod yX2_add, Cond.selects RX2 yX2_add yX2_add, Cond.initialized RX2, Cond.code yX2_add cX2_add 6 none, Cond.fieldLink RX2 15 "CoreTransactions$Records" "oldest" "I", Cond.fieldLink RX2 19 "CoreTransactions$Records" "count" "I", Cond.fieldLink RX2 9 "CoreTransactions$Records" "fields" "[I", Cond.methodLink RX4 93 yX0_put, Cond.instanceMethod yX0_put, Cond.selects RX0 yX0_put yX0_put]
def wsX4_poke_r3 : List Cond := [Cond.initialized RX0, Cond.code yX0_put cX0_put 3 none, Cond.fieldLink RX0 9 "CoreTransactions$Core" "registers" "[I", Cond.methodLink RX4 78 yX3_close, Cond.instanceMethod yX3_close, Cond.selects RX3 yX3_close yX3_close, Cond.code yX3_close cX3_close 1 none, Cond.fieldLink RX3 34 "CoreTransactions$Transaction" "depth" "I", Cond.fieldLink RX3 18 "CoreTransactions$Transaction" "age" "I", Cond.fieldLink RX3 43 "CoreTransactions$Transaction" "stored" "J"]
def wsX4_poke : List Cond := .code yX4_poke cX4_poke 4 (some .int) :: ((wsX4_poke_r1 ++ (wsX4_poke_r2 ++ wsX4_poke_r3)) ++ wsX40 ++ wsX00 ++ wsX30 ++ wsX20 ++ (vx_at0 RX4 70 "java/lang/IndexOutOfBoundsException" ["java/lang/RuntimeException", "java/lang/Exception"]).filter goodWord)
def wsX4_isManyPicks : List Cond := .code yX4_isManyPicks cX4_isManyPicks 1 (some .boolean) :: ([])
def wsX4_fault_r1 : List Cond := [Cond.fieldLink RX4 74 "CoreTransactions$Core" "transaction" "LCoreTransactions$Transaction;", Cond.fieldLink RX4 186 "CoreTransactions$Transaction" "depth" "I", Cond.fieldLink RX4 83 "CoreTransactions$Core" "ended" "Z", Cond.methodLink RX4 189 yX4_breakOff, Cond.instanceMethod yX4_breakOff, Cond.selects RX4 yX4_breakOff yX4_breakOff, Cond.initialized RX4, Cond.code yX4_breakOff cX4_breakOff 4 none, Cond.fieldLink RX4 23 "CoreTransactions" "broken" "LCoreTransactions$Records;", Cond.fieldLink RX4 210 "CoreTransactions$Core" "number" "I", Cond.fieldLink RX4 227 "CoreTransactions$Transaction" "beginPlace" "I", Cond.fieldLink RX4 224 "CoreTransactions$Transaction" "age" "I", Cond.fieldLink RX4 234 "CoreTransactions$Transaction" "keptRegisters" "[I", Cond.fieldLink RX4 90 "CoreTransactions$Core" "registers" "[I", Cond.methodLink RX4 237 arraycopyName, Cond.native arraycopyName, Cond.static arraycopyName, Cond.initialized "java/lang/System", Cond.fieldLink RX4 243 "CoreTransactions$Transaction" "keptPlace" "I", Cond.fieldLink RX4 71 "CoreTransactions$Core" "place" "I", Cond.fieldLink RX4 246 "CoreTransactions$Core" "brokenOff" "I", Cond.methodLink RX4 230 yX2_add, Cond.instanceMethod yX2_add, Cond.selects RX2 yX2_add yX2_add]
def wsX4_fault_r2 : List Cond := [Cond.initialized RX2, Cond.code yX2_add cX2_add 6 none, Cond.fieldLink RX2 15 "CoreTransactions$Records" "oldest" "I", Cond.fieldLink RX2 19 "CoreTransactions$Records" "count" "I", Cond.fieldLink RX2 9 "CoreTransactions$Records" "fields" "[I", Cond.methodLink RX4 93 yX0_put, Cond.instanceMethod yX0_put, Cond.selects RX0 yX0_put yX0_put, Cond.initialized RX0, Cond.code yX0_put cX0_put 3 none, Cond.fieldLink RX0 9 "CoreTransactions$Core" "registers" "[I", Cond.methodLink RX4 78 yX3_close, Cond.instanceMethod yX3_close, Cond.selects RX3 yX3_close yX3_close, Cond.initialized RX3, Cond.code yX3_close cX3_close 1 none, Cond.fieldLink RX3 34 "CoreTransactions$Transaction" "depth" "I", Cond.fieldLink RX3 18 "CoreTransactions$Transaction" "age" "I", Cond.fieldLink RX3 37 "CoreTransactions$Transaction" "linesRead" "I", Cond.fieldLink RX3 40 "CoreTransactions$Transaction" "linesWritten" "I", Cond.fieldLink RX3 43 "CoreTransactions$Transaction" "stored" "J"]
def wsX4_fault : List Cond := .code yX4_fault cX4_fault 2 none :: ((wsX4_fault_r1 ++ wsX4_fault_r2) ++ wsX00 ++ wsX30 ++ wsX40 ++ wsX20)
def wsX4_meetsOlder : List Cond := .code yX4_meetsOlder cX4_meetsOlder 6 (some .boolean) :: ([.fieldLink RX4 40 "CoreTransactions" "cores" "[LCoreTransactions$Core;", .fieldLink RX4 74 "CoreTransactions$Core" "transaction" "LCoreTransactions$Transaction;", .fieldLink RX4 210 "CoreTransactions$Core" "number" "I", .fieldLink RX4 224 "CoreTransactions$Transaction" "age" "I", .methodLink RX4 220 yX3_touches, .instanceMethod yX3_touches, .selects RX3 yX3_touches yX3_touches, .initialized RX3, .code yX3_touches cX3_touches 4 (some .boolean), .fieldLink RX3 37 "CoreTransactions$Transaction" "linesRead" "I", .fieldLink RX3 40 "CoreTransactions$Transaction" "linesWritten" "I"] ++ wsX40 ++ wsX00 ++ wsX30)
def wsX4_mayAccess_r1 : List Cond := [Cond.fieldLink RX4 210 "CoreTransactions$Core" "number" "I", Cond.fieldLink RX4 74 "CoreTransactions$Core" "transaction" "LCoreTransactions$Transaction;", Cond.fieldLink RX4 186 "CoreTransactions$Transaction" "depth" "I", Cond.fieldLink RX4 31 "CoreTransactions" "sets" "I", Cond.fieldLink RX4 35 "CoreTransactions" "ways" "I", Cond.methodLink RX4 97 yX4_isWord, Cond.static yX4_isWord, Cond.initialized RX4, Cond.code yX4_isWord cX4_isWord 1 (some .boolean), Cond.methodLink RX4 143 yX4_fault, Cond.instanceMethod yX4_fault, Cond.selects RX4 yX4_fault yX4_fault, Cond.code yX4_fault cX4_fault 2 none, Cond.fieldLink RX4 83 "CoreTransactions$Core" "ended" "Z", Cond.methodLink RX4 189 yX4_breakOff, Cond.instanceMethod yX4_breakOff, Cond.selects RX4 yX4_breakOff yX4_breakOff, Cond.code yX4_breakOff cX4_breakOff 4 none, Cond.fieldLink RX4 23 "CoreTransactions" "broken" "LCoreTransactions$Records;", Cond.fieldLink RX4 227 "CoreTransactions$Transaction" "beginPlace" "I", Cond.fieldLink RX4 224 "CoreTransactions$Transaction" "age" "I", Cond.fieldLink RX4 234 "CoreTransactions$Transaction" "keptRegisters" "[I", Cond.fieldLink RX4 90 "CoreTransactions$Core" "registers" "[I", Cond.methodLink RX4 237 arraycopyName]
def wsX4_mayAccess_r2 : List Cond := [Cond.native arraycopyName, Cond.static arraycopyName, Cond.initialized "java/lang/System", Cond.fieldLink RX4 243 "CoreTransactions$Transaction" "keptPlace" "I", Cond.fieldLink RX4 71 "CoreTransactions$Core" "place" "I", Cond.fieldLink RX4 246 "CoreTransactions$Core" "brokenOff" "I", Cond.methodLink RX4 230 yX2_add, Cond.instanceMethod yX2_add, Cond.selects RX2 yX2_add yX2_add, Cond.initialized RX2, Cond.code yX2_add cX2_add 6 none, Cond.fieldLink RX2 15 "CoreTransactions$Records" "oldest" "I", Cond.fieldLink RX2 19 "CoreTransactions$Records" "count" "I", Cond.fieldLink RX2 9 "CoreTransactions$Records" "fields" "[I", Cond.methodLink RX4 93 yX0_put, Cond.instanceMethod yX0_put, Cond.selects RX0 yX0_put yX0_put, Cond.initialized RX0, Cond.code yX0_put cX0_put 3 none, Cond.fieldLink RX0 9 "CoreTransactions$Core" "registers" "[I", Cond.methodLink RX4 78 yX3_close, Cond.instanceMethod yX3_close, Cond.selects RX3 yX3_close yX3_close, Cond.initialized RX3]
def wsX4_mayAccess_r3 : List Cond := [Cond.code yX3_close cX3_close 1 none, Cond.fieldLink RX3 34 "CoreTransactions$Transaction" "depth" "I", Cond.fieldLink RX3 18 "CoreTransactions$Transaction" "age" "I", Cond.fieldLink RX3 37 "CoreTransactions$Transaction" "linesRead" "I", Cond.fieldLink RX3 40 "CoreTransactions$Transaction" "linesWritten" "I", Cond.fieldLink RX3 43 "CoreTransactions$Transaction" "stored" "J", Cond.methodLink RX4 207 yX4_meetsOlder, Cond.instanceMethod yX4_meetsOlder, Cond.selects RX4 yX4_meetsOlder yX4_meetsOlder, Cond.code yX4_meetsOlder cX4_meetsOlder 6 (some .boolean), Cond.fieldLink RX4 40 "CoreTransactions" "cores" "[LCoreTransactions$Core;", Cond.methodLink RX4 220 yX3_touches, Cond.instanceMethod yX3_touches, Cond.selects RX3 yX3_touches yX3_touches, Cond.code yX3_touches cX3_touches 4 (some .boolean), Cond.methodLink RX4 100 yX4_breakOffAll, Cond.instanceMethod yX4_breakOffAll, Cond.selects RX4 yX4_breakOffAll yX4_breakOffAll, Cond.code yX4_breakOffAll cX4_breakOffAll 5 none, Cond.methodLink RX4 213 yX3_mark, Cond.instanceMethod yX3_mark, Cond.selects RX3 yX3_mark yX3_mark, Cond.code yX3_mark cX3_mark 3 none, Cond.methodLink RX4 217 yX3_linesInSet]
def wsX4_mayAccess_r4 : List Cond := [Cond.instanceMethod yX3_linesInSet, Cond.selects RX3 yX3_linesInSet yX3_linesInSet, Cond.code yX3_linesInSet cX3_linesInSet 5 (some .int)]
def wsX4_mayAccess : List Cond := .code yX4_mayAccess cX4_mayAccess 5 (some .boolean) :: ((wsX4_mayAccess_r1 ++ (wsX4_mayAccess_r2 ++ (wsX4_mayAccess_r3 ++ wsX4_mayAccess_r4))) ++ wsX00 ++ wsX30 ++ wsX40 ++ wsX20)
def wsX4_wordSeenBy : List Cond := .code yX4_wordSeenBy cX4_wordSeenBy 3 (some .int) :: ([.fieldLink RX4 74 "CoreTransactions$Core" "transaction" "LCoreTransactions$Transaction;", .fieldLink RX4 252 "CoreTransactions$Transaction" "storedWords" "[I", .fieldLink RX4 9 "CoreTransactions" "memory" "[I", .methodLink RX4 249 yX3_hasStored, .instanceMethod yX3_hasStored, .selects RX3 yX3_hasStored yX3_hasStored, .initialized RX3, .code yX3_hasStored cX3_hasStored 2 (some .boolean), .fieldLink RX3 43 "CoreTransactions$Transaction" "stored" "J"] ++ wsX00 ++ wsX30 ++ wsX40)
def wsX4_write : List Cond := .code yX4_write cX4_write 4 none :: ([.fieldLink RX4 74 "CoreTransactions$Core" "transaction" "LCoreTransactions$Transaction;", .fieldLink RX4 186 "CoreTransactions$Transaction" "depth" "I", .fieldLink RX4 9 "CoreTransactions" "memory" "[I", .methodLink RX4 204 yX3_keep, .instanceMethod yX3_keep, .selects RX3 yX3_keep yX3_keep, .initialized RX3, .code yX3_keep cX3_keep 3 none, .fieldLink RX3 43 "CoreTransactions$Transaction" "stored" "J", .fieldLink RX3 15 "CoreTransactions$Transaction" "storedWords" "[I"] ++ wsX00 ++ wsX30 ++ wsX40)
def wsX4_begin_r1 : List Cond := [Cond.fieldLink RX4 74 "CoreTransactions$Core" "transaction" "LCoreTransactions$Transaction;", Cond.fieldLink RX4 186 "CoreTransactions$Transaction" "depth" "I", Cond.fieldLink RX4 132 "CoreTransactions" "lastAge" "I", Cond.fieldLink RX4 16 "CoreTransactions" "program" "LCoreTransactions$Program;", Cond.fieldLink RX4 160 "CoreTransactions$Program" "c" "[I", Cond.fieldLink RX4 90 "CoreTransactions$Core" "registers" "[I", Cond.methodLink RX4 189 yX4_breakOff, Cond.instanceMethod yX4_breakOff, Cond.selects RX4 yX4_breakOff yX4_breakOff, Cond.initialized RX4, Cond.code yX4_breakOff cX4_breakOff 4 none, Cond.fieldLink RX4 23 "CoreTransactions" "broken" "LCoreTransactions$Records;", Cond.fieldLink RX4 210 "CoreTransactions$Core" "number" "I", Cond.fieldLink RX4 227 "CoreTransactions$Transaction" "beginPlace" "I", Cond.fieldLink RX4 224 "CoreTransactions$Transaction" "age" "I", Cond.fieldLink RX4 234 "CoreTransactions$Transaction" "keptRegisters" "[I", Cond.methodLink RX4 237 arraycopyName, Cond.native arraycopyName, Cond.static arraycopyName, Cond.initialized "java/lang/System", Cond.fieldLink RX4 243 "CoreTransactions$Transaction" "keptPlace" "I", Cond.fieldLink RX4 71 "CoreTransactions$Core" "place" "I", Cond.fieldLink RX4 246 "CoreTransactions$Core" "brokenOff" "I", Cond.methodLink RX4 230 yX2_add]
def wsX4_begin_r2 : List Cond := [Cond.instanceMethod yX2_add, Cond.selects RX2 yX2_add yX2_add, Cond.initialized RX2, Cond.code yX2_add cX2_add 6 none, Cond.fieldLink RX2 15 "CoreTransactions$Records" "oldest" "I", Cond.fieldLink RX2 19 "CoreTransactions$Records" "count" "I", Cond.fieldLink RX2 9 "CoreTransactions$Records" "fields" "[I", Cond.methodLink RX4 93 yX0_put, Cond.instanceMethod yX0_put, Cond.selects RX0 yX0_put yX0_put, Cond.initialized RX0, Cond.code yX0_put cX0_put 3 none, Cond.fieldLink RX0 9 "CoreTransactions$Core" "registers" "[I", Cond.methodLink RX4 78 yX3_close, Cond.instanceMethod yX3_close, Cond.selects RX3 yX3_close yX3_close, Cond.initialized RX3, Cond.code yX3_close cX3_close 1 none, Cond.fieldLink RX3 34 "CoreTransactions$Transaction" "depth" "I", Cond.fieldLink RX3 18 "CoreTransactions$Transaction" "age" "I", Cond.fieldLink RX3 37 "CoreTransactions$Transaction" "linesRead" "I", Cond.fieldLink RX3 40 "CoreTransactions$Transaction" "linesWritten" "I", Cond.fieldLink RX3 43 "CoreTransactions$Transaction" "stored" "J", Cond.methodLink RX4 193 yX3_open]
def wsX4_begin_r3 : List Cond := [Cond.instanceMethod yX3_open, Cond.selects RX3 yX3_open yX3_open, Cond.code yX3_open cX3_open 5 none, Cond.fieldLink RX3 22 "CoreTransactions$Transaction" "beginPlace" "I", Cond.fieldLink RX3 25 "CoreTransactions$Transaction" "keptPlace" "I", Cond.fieldLink RX3 9 "CoreTransactions$Transaction" "keptRegisters" "[I", Cond.methodLink RX3 28 arraycopyName]
def wsX4_begin : List Cond := .code yX4_begin cX4_begin 4 (some .boolean) :: ((wsX4_begin_r1 ++ (wsX4_begin_r2 ++ wsX4_begin_r3)) ++ wsX00 ++ wsX30 ++ wsX40 ++ wsX10 ++ wsX20)
def wsX4_end : List Cond := .code yX4_end cX4_end 3 none :: ([.fieldLink RX4 74 "CoreTransactions$Core" "transaction" "LCoreTransactions$Transaction;", .fieldLink RX4 186 "CoreTransactions$Transaction" "depth" "I", .fieldLink RX4 9 "CoreTransactions" "memory" "[I", .fieldLink RX4 201 "CoreTransactions$Core" "committed" "I", .methodLink RX4 197 yX3_writeTo, .instanceMethod yX3_writeTo, .selects RX3 yX3_writeTo yX3_writeTo, .initialized RX3, .code yX3_writeTo cX3_writeTo 3 none, .fieldLink RX3 15 "CoreTransactions$Transaction" "storedWords" "[I", .methodLink RX3 47 yX3_hasStored, .instanceMethod yX3_hasStored, .selects RX3 yX3_hasStored yX3_hasStored, .code yX3_hasStored cX3_hasStored 2 (some .boolean), .fieldLink RX3 43 "CoreTransactions$Transaction" "stored" "J", .methodLink RX4 78 yX3_close, .instanceMethod yX3_close, .selects RX3 yX3_close yX3_close, .code yX3_close cX3_close 1 none, .fieldLink RX3 34 "CoreTransactions$Transaction" "depth" "I", .fieldLink RX3 18 "CoreTransactions$Transaction" "age" "I", .fieldLink RX3 37 "CoreTransactions$Transaction" "linesRead" "I", .fieldLink RX3 40 "CoreTransactions$Transaction" "linesWritten" "I"] ++ wsX00 ++ wsX30 ++ wsX40)
def wsX4_breaksOff_r1 : List Cond := [Cond.fieldLink RX4 74 "CoreTransactions$Core" "transaction" "LCoreTransactions$Transaction;", Cond.fieldLink RX4 186 "CoreTransactions$Transaction" "depth" "I", Cond.methodLink RX4 189 yX4_breakOff, Cond.instanceMethod yX4_breakOff, Cond.selects RX4 yX4_breakOff yX4_breakOff, Cond.initialized RX4, Cond.code yX4_breakOff cX4_breakOff 4 none, Cond.fieldLink RX4 23 "CoreTransactions" "broken" "LCoreTransactions$Records;", Cond.fieldLink RX4 210 "CoreTransactions$Core" "number" "I", Cond.fieldLink RX4 227 "CoreTransactions$Transaction" "beginPlace" "I", Cond.fieldLink RX4 224 "CoreTransactions$Transaction" "age" "I", Cond.fieldLink RX4 234 "CoreTransactions$Transaction" "keptRegisters" "[I", Cond.fieldLink RX4 90 "CoreTransactions$Core" "registers" "[I", Cond.methodLink RX4 237 arraycopyName, Cond.native arraycopyName, Cond.static arraycopyName, Cond.initialized "java/lang/System", Cond.fieldLink RX4 243 "CoreTransactions$Transaction" "keptPlace" "I", Cond.fieldLink RX4 71 "CoreTransactions$Core" "place" "I", Cond.fieldLink RX4 246 "CoreTransactions$Core" "brokenOff" "I", Cond.methodLink RX4 230 yX2_add, Cond.instanceMethod yX2_add, Cond.selects RX2 yX2_add yX2_add, Cond.initialized RX2]
def wsX4_breaksOff_r2 : List Cond := [Cond.code yX2_add cX2_add 6 none, Cond.fieldLink RX2 15 "CoreTransactions$Records" "oldest" "I", Cond.fieldLink RX2 19 "CoreTransactions$Records" "count" "I", Cond.fieldLink RX2 9 "CoreTransactions$Records" "fields" "[I", Cond.methodLink RX4 93 yX0_put, Cond.instanceMethod yX0_put, Cond.selects RX0 yX0_put yX0_put, Cond.initialized RX0, Cond.code yX0_put cX0_put 3 none, Cond.fieldLink RX0 9 "CoreTransactions$Core" "registers" "[I", Cond.methodLink RX4 78 yX3_close, Cond.instanceMethod yX3_close, Cond.selects RX3 yX3_close yX3_close, Cond.initialized RX3, Cond.code yX3_close cX3_close 1 none, Cond.fieldLink RX3 34 "CoreTransactions$Transaction" "depth" "I", Cond.fieldLink RX3 18 "CoreTransactions$Transaction" "age" "I", Cond.fieldLink RX3 37 "CoreTransactions$Transaction" "linesRead" "I", Cond.fieldLink RX3 40 "CoreTransactions$Transaction" "linesWritten" "I", Cond.fieldLink RX3 43 "CoreTransactions$Transaction" "stored" "J"]
def wsX4_breaksOff : List Cond := .code yX4_breaksOff cX4_breaksOff 3 (some .boolean) :: ((wsX4_breaksOff_r1 ++ wsX4_breaksOff_r2) ++ wsX00 ++ wsX30 ++ wsX40 ++ wsX20)
def wsX4_executeTransactional_r1 : List Cond := [Cond.fieldLink RX4 16 "CoreTransactions" "program" "LCoreTransactions$Program;", Cond.fieldLink RX4 163 "CoreTransactions$Program" "operations" "[I", Cond.fieldLink RX4 90 "CoreTransactions$Core" "registers" "[I", Cond.fieldLink RX4 154 "CoreTransactions$Program" "a" "[I", Cond.fieldLink RX4 83 "CoreTransactions$Core" "ended" "Z", Cond.methodLink RX4 177 yX4_begin, Cond.instanceMethod yX4_begin, Cond.selects RX4 yX4_begin yX4_begin, Cond.initialized RX4, Cond.code yX4_begin cX4_begin 4 (some .boolean), Cond.fieldLink RX4 74 "CoreTransactions$Core" "transaction" "LCoreTransactions$Transaction;", Cond.fieldLink RX4 186 "CoreTransactions$Transaction" "depth" "I", Cond.fieldLink RX4 132 "CoreTransactions" "lastAge" "I", Cond.fieldLink RX4 160 "CoreTransactions$Program" "c" "[I", Cond.methodLink RX4 189 yX4_breakOff, Cond.instanceMethod yX4_breakOff, Cond.selects RX4 yX4_breakOff yX4_breakOff, Cond.code yX4_breakOff cX4_breakOff 4 none, Cond.fieldLink RX4 23 "CoreTransactions" "broken" "LCoreTransactions$Records;", Cond.fieldLink RX4 210 "CoreTransactions$Core" "number" "I", Cond.fieldLink RX4 227 "CoreTransactions$Transaction" "beginPlace" "I", Cond.fieldLink RX4 224 "CoreTransactions$Transaction" "age" "I", Cond.fieldLink RX4 234 "CoreTransactions$Transaction" "keptRegisters" "[I", Cond.methodLink RX4 237 arraycopyName]
def wsX4_executeTransactional_r2 : List Cond := [Cond.native arraycopyName, Cond.static arraycopyName, Cond.initialized "java/lang/System", Cond.fieldLink RX4 243 "CoreTransactions$Transaction" "keptPlace" "I", Cond.fieldLink RX4 71 "CoreTransactions$Core" "place" "I", Cond.fieldLink RX4 246 "CoreTransactions$Core" "brokenOff" "I", Cond.methodLink RX4 230 yX2_add, Cond.instanceMethod yX2_add, Cond.selects RX2 yX2_add yX2_add, Cond.initialized RX2, Cond.code yX2_add cX2_add 6 none, Cond.fieldLink RX2 15 "CoreTransactions$Records" "oldest" "I", Cond.fieldLink RX2 19 "CoreTransactions$Records" "count" "I", Cond.fieldLink RX2 9 "CoreTransactions$Records" "fields" "[I", Cond.methodLink RX4 93 yX0_put, Cond.instanceMethod yX0_put, Cond.selects RX0 yX0_put yX0_put, Cond.initialized RX0, Cond.code yX0_put cX0_put 3 none, Cond.fieldLink RX0 9 "CoreTransactions$Core" "registers" "[I", Cond.methodLink RX4 78 yX3_close, Cond.instanceMethod yX3_close, Cond.selects RX3 yX3_close yX3_close, Cond.initialized RX3]
def wsX4_executeTransactional_r3 : List Cond := [Cond.code yX3_close cX3_close 1 none, Cond.fieldLink RX3 34 "CoreTransactions$Transaction" "depth" "I", Cond.fieldLink RX3 18 "CoreTransactions$Transaction" "age" "I", Cond.fieldLink RX3 37 "CoreTransactions$Transaction" "linesRead" "I", Cond.fieldLink RX3 40 "CoreTransactions$Transaction" "linesWritten" "I", Cond.fieldLink RX3 43 "CoreTransactions$Transaction" "stored" "J", Cond.methodLink RX4 193 yX3_open, Cond.instanceMethod yX3_open, Cond.selects RX3 yX3_open yX3_open, Cond.code yX3_open cX3_open 5 none, Cond.fieldLink RX3 22 "CoreTransactions$Transaction" "beginPlace" "I", Cond.fieldLink RX3 25 "CoreTransactions$Transaction" "keptPlace" "I", Cond.fieldLink RX3 9 "CoreTransactions$Transaction" "keptRegisters" "[I", Cond.methodLink RX3 28 arraycopyName, Cond.methodLink RX4 180 yX4_end, Cond.instanceMethod yX4_end, Cond.selects RX4 yX4_end yX4_end, Cond.code yX4_end cX4_end 3 none, Cond.fieldLink RX4 9 "CoreTransactions" "memory" "[I", Cond.fieldLink RX4 201 "CoreTransactions$Core" "committed" "I", Cond.methodLink RX4 197 yX3_writeTo, Cond.instanceMethod yX3_writeTo, Cond.selects RX3 yX3_writeTo yX3_writeTo, Cond.code yX3_writeTo cX3_writeTo 3 none]
def wsX4_executeTransactional_r4 : List Cond := [Cond.fieldLink RX3 15 "CoreTransactions$Transaction" "storedWords" "[I", Cond.methodLink RX3 47 yX3_hasStored, Cond.instanceMethod yX3_hasStored, Cond.selects RX3 yX3_hasStored yX3_hasStored, Cond.code yX3_hasStored cX3_hasStored 2 (some .boolean), Cond.methodLink RX4 183 yX4_breaksOff, Cond.instanceMethod yX4_breaksOff, Cond.selects RX4 yX4_breaksOff yX4_breaksOff, Cond.code yX4_breaksOff cX4_breaksOff 3 (some .boolean)]
def wsX4_executeTransactional : List Cond := .code yX4_executeTransactional cX4_executeTransactional 3 (some .boolean) :: ((wsX4_executeTransactional_r1 ++ (wsX4_executeTransactional_r2 ++ (wsX4_executeTransactional_r3 ++ wsX4_executeTransactional_r4))) ++ wsX40 ++ wsX10 ++ wsX00 ++ wsX30 ++ wsX20)
def wsX4_execute_r1 : List Cond := [Cond.fieldLink RX4 90 "CoreTransactions$Core" "registers" "[I", Cond.fieldLink RX4 16 "CoreTransactions" "program" "LCoreTransactions$Program;", Cond.fieldLink RX4 154 "CoreTransactions$Program" "a" "[I", Cond.fieldLink RX4 157 "CoreTransactions$Program" "b" "[I", Cond.fieldLink RX4 160 "CoreTransactions$Program" "c" "[I", Cond.fieldLink RX4 163 "CoreTransactions$Program" "operations" "[I", Cond.fieldLink RX4 71 "CoreTransactions$Core" "place" "I", Cond.methodLink RX4 93 yX0_put, Cond.instanceMethod yX0_put, Cond.selects RX0 yX0_put yX0_put, Cond.initialized RX0, Cond.code yX0_put cX0_put 3 none, Cond.fieldLink RX0 9 "CoreTransactions$Core" "registers" "[I", Cond.methodLink RX4 166 yX4_mayAccess, Cond.instanceMethod yX4_mayAccess, Cond.selects RX4 yX4_mayAccess yX4_mayAccess, Cond.initialized RX4, Cond.code yX4_mayAccess cX4_mayAccess 5 (some .boolean), Cond.fieldLink RX4 210 "CoreTransactions$Core" "number" "I", Cond.fieldLink RX4 74 "CoreTransactions$Core" "transaction" "LCoreTransactions$Transaction;", Cond.fieldLink RX4 186 "CoreTransactions$Transaction" "depth" "I", Cond.fieldLink RX4 31 "CoreTransactions" "sets" "I", Cond.fieldLink RX4 35 "CoreTransactions" "ways" "I", Cond.methodLink RX4 97 yX4_isWord]
def wsX4_execute_r2 : List Cond := [Cond.static yX4_isWord, Cond.code yX4_isWord cX4_isWord 1 (some .boolean), Cond.methodLink RX4 143 yX4_fault, Cond.instanceMethod yX4_fault, Cond.selects RX4 yX4_fault yX4_fault, Cond.code yX4_fault cX4_fault 2 none, Cond.fieldLink RX4 83 "CoreTransactions$Core" "ended" "Z", Cond.methodLink RX4 189 yX4_breakOff, Cond.instanceMethod yX4_breakOff, Cond.selects RX4 yX4_breakOff yX4_breakOff, Cond.code yX4_breakOff cX4_breakOff 4 none, Cond.fieldLink RX4 23 "CoreTransactions" "broken" "LCoreTransactions$Records;", Cond.fieldLink RX4 227 "CoreTransactions$Transaction" "beginPlace" "I", Cond.fieldLink RX4 224 "CoreTransactions$Transaction" "age" "I", Cond.fieldLink RX4 234 "CoreTransactions$Transaction" "keptRegisters" "[I", Cond.methodLink RX4 237 arraycopyName, Cond.native arraycopyName, Cond.static arraycopyName, Cond.initialized "java/lang/System", Cond.fieldLink RX4 243 "CoreTransactions$Transaction" "keptPlace" "I", Cond.fieldLink RX4 246 "CoreTransactions$Core" "brokenOff" "I", Cond.methodLink RX4 230 yX2_add, Cond.instanceMethod yX2_add, Cond.selects RX2 yX2_add yX2_add]
def wsX4_execute_r3 : List Cond := [Cond.initialized RX2, Cond.code yX2_add cX2_add 6 none, Cond.fieldLink RX2 15 "CoreTransactions$Records" "oldest" "I", Cond.fieldLink RX2 19 "CoreTransactions$Records" "count" "I", Cond.fieldLink RX2 9 "CoreTransactions$Records" "fields" "[I", Cond.methodLink RX4 78 yX3_close, Cond.instanceMethod yX3_close, Cond.selects RX3 yX3_close yX3_close, Cond.initialized RX3, Cond.code yX3_close cX3_close 1 none, Cond.fieldLink RX3 34 "CoreTransactions$Transaction" "depth" "I", Cond.fieldLink RX3 18 "CoreTransactions$Transaction" "age" "I", Cond.fieldLink RX3 37 "CoreTransactions$Transaction" "linesRead" "I", Cond.fieldLink RX3 40 "CoreTransactions$Transaction" "linesWritten" "I", Cond.fieldLink RX3 43 "CoreTransactions$Transaction" "stored" "J", Cond.methodLink RX4 207 yX4_meetsOlder, Cond.instanceMethod yX4_meetsOlder, Cond.selects RX4 yX4_meetsOlder yX4_meetsOlder, Cond.code yX4_meetsOlder cX4_meetsOlder 6 (some .boolean), Cond.fieldLink RX4 40 "CoreTransactions" "cores" "[LCoreTransactions$Core;", Cond.methodLink RX4 220 yX3_touches, Cond.instanceMethod yX3_touches, Cond.selects RX3 yX3_touches yX3_touches, Cond.code yX3_touches cX3_touches 4 (some .boolean)]
def wsX4_execute_r4 : List Cond := [Cond.methodLink RX4 100 yX4_breakOffAll, Cond.instanceMethod yX4_breakOffAll, Cond.selects RX4 yX4_breakOffAll yX4_breakOffAll, Cond.code yX4_breakOffAll cX4_breakOffAll 5 none, Cond.methodLink RX4 213 yX3_mark, Cond.instanceMethod yX3_mark, Cond.selects RX3 yX3_mark yX3_mark, Cond.code yX3_mark cX3_mark 3 none, Cond.methodLink RX4 217 yX3_linesInSet, Cond.instanceMethod yX3_linesInSet, Cond.selects RX3 yX3_linesInSet yX3_linesInSet, Cond.code yX3_linesInSet cX3_linesInSet 5 (some .int), Cond.methodLink RX4 112 yX4_wordSeenBy, Cond.instanceMethod yX4_wordSeenBy, Cond.selects RX4 yX4_wordSeenBy yX4_wordSeenBy, Cond.code yX4_wordSeenBy cX4_wordSeenBy 3 (some .int), Cond.fieldLink RX4 252 "CoreTransactions$Transaction" "storedWords" "[I", Cond.fieldLink RX4 9 "CoreTransactions" "memory" "[I", Cond.methodLink RX4 249 yX3_hasStored, Cond.instanceMethod yX3_hasStored, Cond.selects RX3 yX3_hasStored yX3_hasStored, Cond.code yX3_hasStored cX3_hasStored 2 (some .boolean), Cond.methodLink RX4 170 yX4_write, Cond.instanceMethod yX4_write]
def wsX4_execute_r5 : List Cond := [Cond.selects RX4 yX4_write yX4_write, Cond.code yX4_write cX4_write 4 none, Cond.methodLink RX4 204 yX3_keep, Cond.instanceMethod yX3_keep, Cond.selects RX3 yX3_keep yX3_keep, Cond.code yX3_keep cX3_keep 3 none, Cond.fieldLink RX3 15 "CoreTransactions$Transaction" "storedWords" "[I", Cond.methodLink RX4 174 yX4_executeTransactional, Cond.instanceMethod yX4_executeTransactional, Cond.selects RX4 yX4_executeTransactional yX4_executeTransactional, Cond.code yX4_executeTransactional cX4_executeTransactional 3 (some .boolean), Cond.methodLink RX4 177 yX4_begin, Cond.instanceMethod yX4_begin, Cond.selects RX4 yX4_begin yX4_begin, Cond.code yX4_begin cX4_begin 4 (some .boolean), Cond.fieldLink RX4 132 "CoreTransactions" "lastAge" "I", Cond.methodLink RX4 193 yX3_open, Cond.instanceMethod yX3_open, Cond.selects RX3 yX3_open yX3_open, Cond.code yX3_open cX3_open 5 none, Cond.fieldLink RX3 22 "CoreTransactions$Transaction" "beginPlace" "I", Cond.fieldLink RX3 25 "CoreTransactions$Transaction" "keptPlace" "I", Cond.fieldLink RX3 9 "CoreTransactions$Transaction" "keptRegisters" "[I", Cond.methodLink RX3 28 arraycopyName]
def wsX4_execute_r6 : List Cond := [Cond.methodLink RX4 180 yX4_end, Cond.instanceMethod yX4_end, Cond.selects RX4 yX4_end yX4_end, Cond.code yX4_end cX4_end 3 none, Cond.fieldLink RX4 201 "CoreTransactions$Core" "committed" "I", Cond.methodLink RX4 197 yX3_writeTo, Cond.instanceMethod yX3_writeTo, Cond.selects RX3 yX3_writeTo yX3_writeTo, Cond.code yX3_writeTo cX3_writeTo 3 none, Cond.methodLink RX3 47 yX3_hasStored, Cond.methodLink RX4 183 yX4_breaksOff, Cond.instanceMethod yX4_breaksOff, Cond.selects RX4 yX4_breaksOff yX4_breaksOff, Cond.code yX4_breaksOff cX4_breaksOff 3 (some .boolean)]
def wsX4_execute : List Cond := .code yX4_execute cX4_execute 8 (some .boolean) :: ((wsX4_execute_r1 ++ (wsX4_execute_r2 ++ (wsX4_execute_r3 ++ (wsX4_execute_r4 ++ (wsX4_execute_r5 ++ wsX4_execute_r6))))) ++ wsX00 ++ wsX40 ++ wsX10 ++ wsX30 ++ wsX20)
def wsX4_step_r1 : List Cond := [Cond.fieldLink RX4 83 "CoreTransactions$Core" "ended" "Z", Cond.fieldLink RX4 71 "CoreTransactions$Core" "place" "I", Cond.fieldLink RX4 16 "CoreTransactions" "program" "LCoreTransactions$Program;", Cond.fieldLink RX4 54 "CoreTransactions$Program" "length" "I", Cond.fieldLink RX4 151 "CoreTransactions$Core" "retired" "I", Cond.methodLink RX4 143 yX4_fault, Cond.instanceMethod yX4_fault, Cond.selects RX4 yX4_fault yX4_fault, Cond.initialized RX4, Cond.code yX4_fault cX4_fault 2 none, Cond.fieldLink RX4 74 "CoreTransactions$Core" "transaction" "LCoreTransactions$Transaction;", Cond.fieldLink RX4 186 "CoreTransactions$Transaction" "depth" "I", Cond.methodLink RX4 189 yX4_breakOff, Cond.instanceMethod yX4_breakOff, Cond.selects RX4 yX4_breakOff yX4_breakOff, Cond.code yX4_breakOff cX4_breakOff 4 none, Cond.fieldLink RX4 23 "CoreTransactions" "broken" "LCoreTransactions$Records;", Cond.fieldLink RX4 210 "CoreTransactions$Core" "number" "I", Cond.fieldLink RX4 227 "CoreTransactions$Transaction" "beginPlace" "I", Cond.fieldLink RX4 224 "CoreTransactions$Transaction" "age" "I", Cond.fieldLink RX4 234 "CoreTransactions$Transaction" "keptRegisters" "[I", Cond.fieldLink RX4 90 "CoreTransactions$Core" "registers" "[I", Cond.methodLink RX4 237 arraycopyName, Cond.native arraycopyName]
def wsX4_step_r2 : List Cond := [Cond.static arraycopyName, Cond.initialized "java/lang/System", Cond.fieldLink RX4 243 "CoreTransactions$Transaction" "keptPlace" "I", Cond.fieldLink RX4 246 "CoreTransactions$Core" "brokenOff" "I", Cond.methodLink RX4 230 yX2_add, Cond.instanceMethod yX2_add, Cond.selects RX2 yX2_add yX2_add, Cond.initialized RX2, Cond.code yX2_add cX2_add 6 none, Cond.fieldLink RX2 15 "CoreTransactions$Records" "oldest" "I", Cond.fieldLink RX2 19 "CoreTransactions$Records" "count" "I", Cond.fieldLink RX2 9 "CoreTransactions$Records" "fields" "[I", Cond.methodLink RX4 93 yX0_put, Cond.instanceMethod yX0_put, Cond.selects RX0 yX0_put yX0_put, Cond.initialized RX0, Cond.code yX0_put cX0_put 3 none, Cond.fieldLink RX0 9 "CoreTransactions$Core" "registers" "[I", Cond.methodLink RX4 78 yX3_close, Cond.instanceMethod yX3_close, Cond.selects RX3 yX3_close yX3_close, Cond.initialized RX3, Cond.code yX3_close cX3_close 1 none, Cond.fieldLink RX3 34 "CoreTransactions$Transaction" "depth" "I"]
def wsX4_step_r3 : List Cond := [Cond.fieldLink RX3 18 "CoreTransactions$Transaction" "age" "I", Cond.fieldLink RX3 37 "CoreTransactions$Transaction" "linesRead" "I", Cond.fieldLink RX3 40 "CoreTransactions$Transaction" "linesWritten" "I", Cond.fieldLink RX3 43 "CoreTransactions$Transaction" "stored" "J", Cond.methodLink RX4 147 yX4_execute, Cond.instanceMethod yX4_execute, Cond.selects RX4 yX4_execute yX4_execute, Cond.code yX4_execute cX4_execute 8 (some .boolean), Cond.fieldLink RX4 154 "CoreTransactions$Program" "a" "[I", Cond.fieldLink RX4 157 "CoreTransactions$Program" "b" "[I", Cond.fieldLink RX4 160 "CoreTransactions$Program" "c" "[I", Cond.fieldLink RX4 163 "CoreTransactions$Program" "operations" "[I", Cond.methodLink RX4 166 yX4_mayAccess, Cond.instanceMethod yX4_mayAccess, Cond.selects RX4 yX4_mayAccess yX4_mayAccess, Cond.code yX4_mayAccess cX4_mayAccess 5 (some .boolean), Cond.fieldLink RX4 31 "CoreTransactions" "sets" "I", Cond.fieldLink RX4 35 "CoreTransactions" "ways" "I", Cond.methodLink RX4 97 yX4_isWord, Cond.static yX4_isWord, Cond.code yX4_isWord cX4_isWord 1 (some .boolean), Cond.methodLink RX4 207 yX4_meetsOlder, Cond.instanceMethod yX4_meetsOlder, Cond.selects RX4 yX4_meetsOlder yX4_meetsOlder]
def wsX4_step_r4 : List Cond := [Cond.code yX4_meetsOlder cX4_meetsOlder 6 (some .boolean), Cond.fieldLink RX4 40 "CoreTransactions" "cores" "[LCoreTransactions$Core;", Cond.methodLink RX4 220 yX3_touches, Cond.instanceMethod yX3_touches, Cond.selects RX3 yX3_touches yX3_touches, Cond.code yX3_touches cX3_touches 4 (some .boolean), Cond.methodLink RX4 100 yX4_breakOffAll, Cond.instanceMethod yX4_breakOffAll, Cond.selects RX4 yX4_breakOffAll yX4_breakOffAll, Cond.code yX4_breakOffAll cX4_breakOffAll 5 none, Cond.methodLink RX4 213 yX3_mark, Cond.instanceMethod yX3_mark, Cond.selects RX3 yX3_mark yX3_mark, Cond.code yX3_mark cX3_mark 3 none, Cond.methodLink RX4 217 yX3_linesInSet, Cond.instanceMethod yX3_linesInSet, Cond.selects RX3 yX3_linesInSet yX3_linesInSet, Cond.code yX3_linesInSet cX3_linesInSet 5 (some .int), Cond.methodLink RX4 112 yX4_wordSeenBy, Cond.instanceMethod yX4_wordSeenBy, Cond.selects RX4 yX4_wordSeenBy yX4_wordSeenBy, Cond.code yX4_wordSeenBy cX4_wordSeenBy 3 (some .int), Cond.fieldLink RX4 252 "CoreTransactions$Transaction" "storedWords" "[I", Cond.fieldLink RX4 9 "CoreTransactions" "memory" "[I"]
def wsX4_step_r5 : List Cond := [Cond.methodLink RX4 249 yX3_hasStored, Cond.instanceMethod yX3_hasStored, Cond.selects RX3 yX3_hasStored yX3_hasStored, Cond.code yX3_hasStored cX3_hasStored 2 (some .boolean), Cond.methodLink RX4 170 yX4_write, Cond.instanceMethod yX4_write, Cond.selects RX4 yX4_write yX4_write, Cond.code yX4_write cX4_write 4 none, Cond.methodLink RX4 204 yX3_keep, Cond.instanceMethod yX3_keep, Cond.selects RX3 yX3_keep yX3_keep, Cond.code yX3_keep cX3_keep 3 none, Cond.fieldLink RX3 15 "CoreTransactions$Transaction" "storedWords" "[I", Cond.methodLink RX4 174 yX4_executeTransactional, Cond.instanceMethod yX4_executeTransactional, Cond.selects RX4 yX4_executeTransactional yX4_executeTransactional, Cond.code yX4_executeTransactional cX4_executeTransactional 3 (some .boolean), Cond.methodLink RX4 177 yX4_begin, Cond.instanceMethod yX4_begin, Cond.selects RX4 yX4_begin yX4_begin, Cond.code yX4_begin cX4_begin 4 (some .boolean), Cond.fieldLink RX4 132 "CoreTransactions" "lastAge" "I", Cond.methodLink RX4 193 yX3_open, Cond.instanceMethod yX3_open]
def wsX4_step_r6 : List Cond := [Cond.selects RX3 yX3_open yX3_open, Cond.code yX3_open cX3_open 5 none, Cond.fieldLink RX3 22 "CoreTransactions$Transaction" "beginPlace" "I", Cond.fieldLink RX3 25 "CoreTransactions$Transaction" "keptPlace" "I", Cond.fieldLink RX3 9 "CoreTransactions$Transaction" "keptRegisters" "[I", Cond.methodLink RX3 28 arraycopyName, Cond.methodLink RX4 180 yX4_end, Cond.instanceMethod yX4_end, Cond.selects RX4 yX4_end yX4_end, Cond.code yX4_end cX4_end 3 none, Cond.fieldLink RX4 201 "CoreTransactions$Core" "committed" "I", Cond.methodLink RX4 197 yX3_writeTo, Cond.instanceMethod yX3_writeTo, Cond.selects RX3 yX3_writeTo yX3_writeTo, Cond.code yX3_writeTo cX3_writeTo 3 none, Cond.methodLink RX3 47 yX3_hasStored, Cond.methodLink RX4 183 yX4_breaksOff, Cond.instanceMethod yX4_breaksOff, Cond.selects RX4 yX4_breaksOff yX4_breaksOff, Cond.code yX4_breaksOff cX4_breaksOff 3 (some .boolean)]
def wsX4_step : List Cond := .code yX4_step cX4_step 3 (some .int) :: ((wsX4_step_r1 ++ (wsX4_step_r2 ++ (wsX4_step_r3 ++ (wsX4_step_r4 ++ (wsX4_step_r5 ++ wsX4_step_r6))))) ++ wsX00 ++ wsX40 ++ wsX10 ++ wsX30 ++ wsX20)
def wsX4_pick_r1 : List Cond := [Cond.classLink RX4 68 "java/lang/IndexOutOfBoundsException", Cond.initialized "java/lang/IndexOutOfBoundsException", Cond.classLink RX4 51 "java/lang/IllegalArgumentException", Cond.initialized "java/lang/IllegalArgumentException", Cond.fieldLink RX4 40 "CoreTransactions" "cores" "[LCoreTransactions$Core;", Cond.fieldLink RX4 83 "CoreTransactions$Core" "ended" "Z", Cond.methodLink RX4 64 yX4_isCore, Cond.instanceMethod yX4_isCore, Cond.selects RX4 yX4_isCore yX4_isCore, Cond.initialized RX4, Cond.code yX4_isCore cX4_isCore 2 (some .boolean), Cond.methodLink RX4 104 yX4_isManyPicks, Cond.static yX4_isManyPicks, Cond.code yX4_isManyPicks cX4_isManyPicks 1 (some .boolean), Cond.methodLink RX4 107 yX4_step, Cond.instanceMethod yX4_step, Cond.selects RX4 yX4_step yX4_step, Cond.code yX4_step cX4_step 3 (some .int), Cond.fieldLink RX4 71 "CoreTransactions$Core" "place" "I", Cond.fieldLink RX4 16 "CoreTransactions" "program" "LCoreTransactions$Program;", Cond.fieldLink RX4 54 "CoreTransactions$Program" "length" "I", Cond.fieldLink RX4 151 "CoreTransactions$Core" "retired" "I", Cond.methodLink RX4 143 yX4_fault, Cond.instanceMethod yX4_fault]
def wsX4_pick_r2 : List Cond := [Cond.selects RX4 yX4_fault yX4_fault, Cond.code yX4_fault cX4_fault 2 none, Cond.fieldLink RX4 74 "CoreTransactions$Core" "transaction" "LCoreTransactions$Transaction;", Cond.fieldLink RX4 186 "CoreTransactions$Transaction" "depth" "I", Cond.methodLink RX4 189 yX4_breakOff, Cond.instanceMethod yX4_breakOff, Cond.selects RX4 yX4_breakOff yX4_breakOff, Cond.code yX4_breakOff cX4_breakOff 4 none, Cond.fieldLink RX4 23 "CoreTransactions" "broken" "LCoreTransactions$Records;", Cond.fieldLink RX4 210 "CoreTransactions$Core" "number" "I", Cond.fieldLink RX4 227 "CoreTransactions$Transaction" "beginPlace" "I", Cond.fieldLink RX4 224 "CoreTransactions$Transaction" "age" "I", Cond.fieldLink RX4 234 "CoreTransactions$Transaction" "keptRegisters" "[I", Cond.fieldLink RX4 90 "CoreTransactions$Core" "registers" "[I", Cond.methodLink RX4 237 arraycopyName, Cond.native arraycopyName, Cond.static arraycopyName, Cond.initialized "java/lang/System", Cond.fieldLink RX4 243 "CoreTransactions$Transaction" "keptPlace" "I", Cond.fieldLink RX4 246 "CoreTransactions$Core" "brokenOff" "I", Cond.methodLink RX4 230 yX2_add, Cond.instanceMethod yX2_add, Cond.selects RX2 yX2_add yX2_add, Cond.initialized RX2]
def wsX4_pick_r3 : List Cond := [Cond.code yX2_add cX2_add 6 none, Cond.fieldLink RX2 15 "CoreTransactions$Records" "oldest" "I", Cond.fieldLink RX2 19 "CoreTransactions$Records" "count" "I", Cond.fieldLink RX2 9 "CoreTransactions$Records" "fields" "[I", Cond.methodLink RX4 93 yX0_put, Cond.instanceMethod yX0_put, Cond.selects RX0 yX0_put yX0_put, Cond.initialized RX0, Cond.code yX0_put cX0_put 3 none, Cond.fieldLink RX0 9 "CoreTransactions$Core" "registers" "[I", Cond.methodLink RX4 78 yX3_close, Cond.instanceMethod yX3_close, Cond.selects RX3 yX3_close yX3_close, Cond.initialized RX3, Cond.code yX3_close cX3_close 1 none, Cond.fieldLink RX3 34 "CoreTransactions$Transaction" "depth" "I", Cond.fieldLink RX3 18 "CoreTransactions$Transaction" "age" "I", Cond.fieldLink RX3 37 "CoreTransactions$Transaction" "linesRead" "I", Cond.fieldLink RX3 40 "CoreTransactions$Transaction" "linesWritten" "I", Cond.fieldLink RX3 43 "CoreTransactions$Transaction" "stored" "J", Cond.methodLink RX4 147 yX4_execute, Cond.instanceMethod yX4_execute, Cond.selects RX4 yX4_execute yX4_execute, Cond.code yX4_execute cX4_execute 8 (some .boolean)]
def wsX4_pick_r4 : List Cond := [Cond.fieldLink RX4 154 "CoreTransactions$Program" "a" "[I", Cond.fieldLink RX4 157 "CoreTransactions$Program" "b" "[I", Cond.fieldLink RX4 160 "CoreTransactions$Program" "c" "[I", Cond.fieldLink RX4 163 "CoreTransactions$Program" "operations" "[I", Cond.methodLink RX4 166 yX4_mayAccess, Cond.instanceMethod yX4_mayAccess, Cond.selects RX4 yX4_mayAccess yX4_mayAccess, Cond.code yX4_mayAccess cX4_mayAccess 5 (some .boolean), Cond.fieldLink RX4 31 "CoreTransactions" "sets" "I", Cond.fieldLink RX4 35 "CoreTransactions" "ways" "I", Cond.methodLink RX4 97 yX4_isWord, Cond.static yX4_isWord, Cond.code yX4_isWord cX4_isWord 1 (some .boolean), Cond.methodLink RX4 207 yX4_meetsOlder, Cond.instanceMethod yX4_meetsOlder, Cond.selects RX4 yX4_meetsOlder yX4_meetsOlder, Cond.code yX4_meetsOlder cX4_meetsOlder 6 (some .boolean), Cond.methodLink RX4 220 yX3_touches, Cond.instanceMethod yX3_touches, Cond.selects RX3 yX3_touches yX3_touches, Cond.code yX3_touches cX3_touches 4 (some .boolean), Cond.methodLink RX4 100 yX4_breakOffAll, Cond.instanceMethod yX4_breakOffAll, Cond.selects RX4 yX4_breakOffAll yX4_breakOffAll]
def wsX4_pick_r5 : List Cond := [Cond.code yX4_breakOffAll cX4_breakOffAll 5 none, Cond.methodLink RX4 213 yX3_mark, Cond.instanceMethod yX3_mark, Cond.selects RX3 yX3_mark yX3_mark, Cond.code yX3_mark cX3_mark 3 none, Cond.methodLink RX4 217 yX3_linesInSet, Cond.instanceMethod yX3_linesInSet, Cond.selects RX3 yX3_linesInSet yX3_linesInSet, Cond.code yX3_linesInSet cX3_linesInSet 5 (some .int), Cond.methodLink RX4 112 yX4_wordSeenBy, Cond.instanceMethod yX4_wordSeenBy, Cond.selects RX4 yX4_wordSeenBy yX4_wordSeenBy, Cond.code yX4_wordSeenBy cX4_wordSeenBy 3 (some .int), Cond.fieldLink RX4 252 "CoreTransactions$Transaction" "storedWords" "[I", Cond.fieldLink RX4 9 "CoreTransactions" "memory" "[I", Cond.methodLink RX4 249 yX3_hasStored, Cond.instanceMethod yX3_hasStored, Cond.selects RX3 yX3_hasStored yX3_hasStored, Cond.code yX3_hasStored cX3_hasStored 2 (some .boolean), Cond.methodLink RX4 170 yX4_write, Cond.instanceMethod yX4_write, Cond.selects RX4 yX4_write yX4_write, Cond.code yX4_write cX4_write 4 none, Cond.methodLink RX4 204 yX3_keep]
def wsX4_pick_r6 : List Cond := [Cond.instanceMethod yX3_keep, Cond.selects RX3 yX3_keep yX3_keep, Cond.code yX3_keep cX3_keep 3 none, Cond.fieldLink RX3 15 "CoreTransactions$Transaction" "storedWords" "[I", Cond.methodLink RX4 174 yX4_executeTransactional, Cond.instanceMethod yX4_executeTransactional, Cond.selects RX4 yX4_executeTransactional yX4_executeTransactional, Cond.code yX4_executeTransactional cX4_executeTransactional 3 (some .boolean), Cond.methodLink RX4 177 yX4_begin, Cond.instanceMethod yX4_begin, Cond.selects RX4 yX4_begin yX4_begin, Cond.code yX4_begin cX4_begin 4 (some .boolean), Cond.fieldLink RX4 132 "CoreTransactions" "lastAge" "I", Cond.methodLink RX4 193 yX3_open, Cond.instanceMethod yX3_open, Cond.selects RX3 yX3_open yX3_open, Cond.code yX3_open cX3_open 5 none, Cond.fieldLink RX3 22 "CoreTransactions$Transaction" "beginPlace" "I", Cond.fieldLink RX3 25 "CoreTransactions$Transaction" "keptPlace" "I", Cond.fieldLink RX3 9 "CoreTransactions$Transaction" "keptRegisters" "[I", Cond.methodLink RX3 28 arraycopyName, Cond.methodLink RX4 180 yX4_end, Cond.instanceMethod yX4_end, Cond.selects RX4 yX4_end yX4_end]
def wsX4_pick_r7 : List Cond := [Cond.code yX4_end cX4_end 3 none, Cond.fieldLink RX4 201 "CoreTransactions$Core" "committed" "I", Cond.methodLink RX4 197 yX3_writeTo, Cond.instanceMethod yX3_writeTo, Cond.selects RX3 yX3_writeTo yX3_writeTo, Cond.code yX3_writeTo cX3_writeTo 3 none, Cond.methodLink RX3 47 yX3_hasStored, Cond.methodLink RX4 183 yX4_breaksOff, Cond.instanceMethod yX4_breaksOff, Cond.selects RX4 yX4_breaksOff yX4_breaksOff, Cond.code yX4_breaksOff cX4_breaksOff 3 (some .boolean)]
def wsX4_pick : List Cond := .code yX4_pick cX4_pick 5 (some .int) :: ((wsX4_pick_r1 ++ (wsX4_pick_r2 ++ (wsX4_pick_r3 ++ (wsX4_pick_r4 ++ (wsX4_pick_r5 ++ (wsX4_pick_r6 ++ wsX4_pick_r7)))))) ++ wsX40 ++ wsX00 ++ wsX10 ++ wsX30 ++ wsX20 ++ (vx_at0 RX4 70 "java/lang/IndexOutOfBoundsException" ["java/lang/RuntimeException", "java/lang/Exception"]).filter goodWord ++ (vx_at0 RX4 53 "java/lang/IllegalArgumentException" ["java/lang/RuntimeException", "java/lang/Exception"]).filter goodWord)
def wsX4_run_r1 : List Cond := [Cond.classLink RX4 51 "java/lang/IllegalArgumentException", Cond.initialized "java/lang/IllegalArgumentException", Cond.constant RX4 111 (1103515245), Cond.fieldLink RX4 40 "CoreTransactions" "cores" "[LCoreTransactions$Core;", Cond.methodLink RX4 104 yX4_isManyPicks, Cond.static yX4_isManyPicks, Cond.initialized RX4, Cond.code yX4_isManyPicks cX4_isManyPicks 1 (some .boolean), Cond.methodLink RX4 107 yX4_step, Cond.instanceMethod yX4_step, Cond.selects RX4 yX4_step yX4_step, Cond.code yX4_step cX4_step 3 (some .int), Cond.fieldLink RX4 83 "CoreTransactions$Core" "ended" "Z", Cond.fieldLink RX4 71 "CoreTransactions$Core" "place" "I", Cond.fieldLink RX4 16 "CoreTransactions" "program" "LCoreTransactions$Program;", Cond.fieldLink RX4 54 "CoreTransactions$Program" "length" "I", Cond.fieldLink RX4 151 "CoreTransactions$Core" "retired" "I", Cond.methodLink RX4 143 yX4_fault, Cond.instanceMethod yX4_fault, Cond.selects RX4 yX4_fault yX4_fault, Cond.code yX4_fault cX4_fault 2 none, Cond.fieldLink RX4 74 "CoreTransactions$Core" "transaction" "LCoreTransactions$Transaction;", Cond.fieldLink RX4 186 "CoreTransactions$Transaction" "depth" "I", Cond.methodLink RX4 189 yX4_breakOff]
def wsX4_run_r2 : List Cond := [Cond.instanceMethod yX4_breakOff, Cond.selects RX4 yX4_breakOff yX4_breakOff, Cond.code yX4_breakOff cX4_breakOff 4 none, Cond.fieldLink RX4 23 "CoreTransactions" "broken" "LCoreTransactions$Records;", Cond.fieldLink RX4 210 "CoreTransactions$Core" "number" "I", Cond.fieldLink RX4 227 "CoreTransactions$Transaction" "beginPlace" "I", Cond.fieldLink RX4 224 "CoreTransactions$Transaction" "age" "I", Cond.fieldLink RX4 234 "CoreTransactions$Transaction" "keptRegisters" "[I", Cond.fieldLink RX4 90 "CoreTransactions$Core" "registers" "[I", Cond.methodLink RX4 237 arraycopyName, Cond.native arraycopyName, Cond.static arraycopyName, Cond.initialized "java/lang/System", Cond.fieldLink RX4 243 "CoreTransactions$Transaction" "keptPlace" "I", Cond.fieldLink RX4 246 "CoreTransactions$Core" "brokenOff" "I", Cond.methodLink RX4 230 yX2_add, Cond.instanceMethod yX2_add, Cond.selects RX2 yX2_add yX2_add, Cond.initialized RX2, Cond.code yX2_add cX2_add 6 none, Cond.fieldLink RX2 15 "CoreTransactions$Records" "oldest" "I", Cond.fieldLink RX2 19 "CoreTransactions$Records" "count" "I", Cond.fieldLink RX2 9 "CoreTransactions$Records" "fields" "[I", Cond.methodLink RX4 93 yX0_put]
def wsX4_run_r3 : List Cond := [Cond.instanceMethod yX0_put, Cond.selects RX0 yX0_put yX0_put, Cond.initialized RX0, Cond.code yX0_put cX0_put 3 none, Cond.fieldLink RX0 9 "CoreTransactions$Core" "registers" "[I", Cond.methodLink RX4 78 yX3_close, Cond.instanceMethod yX3_close, Cond.selects RX3 yX3_close yX3_close, Cond.initialized RX3, Cond.code yX3_close cX3_close 1 none, Cond.fieldLink RX3 34 "CoreTransactions$Transaction" "depth" "I", Cond.fieldLink RX3 18 "CoreTransactions$Transaction" "age" "I", Cond.fieldLink RX3 37 "CoreTransactions$Transaction" "linesRead" "I", Cond.fieldLink RX3 40 "CoreTransactions$Transaction" "linesWritten" "I", Cond.fieldLink RX3 43 "CoreTransactions$Transaction" "stored" "J", Cond.methodLink RX4 147 yX4_execute, Cond.instanceMethod yX4_execute, Cond.selects RX4 yX4_execute yX4_execute, Cond.code yX4_execute cX4_execute 8 (some .boolean), Cond.fieldLink RX4 154 "CoreTransactions$Program" "a" "[I", Cond.fieldLink RX4 157 "CoreTransactions$Program" "b" "[I", Cond.fieldLink RX4 160 "CoreTransactions$Program" "c" "[I", Cond.fieldLink RX4 163 "CoreTransactions$Program" "operations" "[I", Cond.methodLink RX4 166 yX4_mayAccess]
def wsX4_run_r4 : List Cond := [Cond.instanceMethod yX4_mayAccess, Cond.selects RX4 yX4_mayAccess yX4_mayAccess, Cond.code yX4_mayAccess cX4_mayAccess 5 (some .boolean), Cond.fieldLink RX4 31 "CoreTransactions" "sets" "I", Cond.fieldLink RX4 35 "CoreTransactions" "ways" "I", Cond.methodLink RX4 97 yX4_isWord, Cond.static yX4_isWord, Cond.code yX4_isWord cX4_isWord 1 (some .boolean), Cond.methodLink RX4 207 yX4_meetsOlder, Cond.instanceMethod yX4_meetsOlder, Cond.selects RX4 yX4_meetsOlder yX4_meetsOlder, Cond.code yX4_meetsOlder cX4_meetsOlder 6 (some .boolean), Cond.methodLink RX4 220 yX3_touches, Cond.instanceMethod yX3_touches, Cond.selects RX3 yX3_touches yX3_touches, Cond.code yX3_touches cX3_touches 4 (some .boolean), Cond.methodLink RX4 100 yX4_breakOffAll, Cond.instanceMethod yX4_breakOffAll, Cond.selects RX4 yX4_breakOffAll yX4_breakOffAll, Cond.code yX4_breakOffAll cX4_breakOffAll 5 none, Cond.methodLink RX4 213 yX3_mark, Cond.instanceMethod yX3_mark, Cond.selects RX3 yX3_mark yX3_mark, Cond.code yX3_mark cX3_mark 3 none]
def wsX4_run_r5 : List Cond := [Cond.methodLink RX4 217 yX3_linesInSet, Cond.instanceMethod yX3_linesInSet, Cond.selects RX3 yX3_linesInSet yX3_linesInSet, Cond.code yX3_linesInSet cX3_linesInSet 5 (some .int), Cond.methodLink RX4 112 yX4_wordSeenBy, Cond.instanceMethod yX4_wordSeenBy, Cond.selects RX4 yX4_wordSeenBy yX4_wordSeenBy, Cond.code yX4_wordSeenBy cX4_wordSeenBy 3 (some .int), Cond.fieldLink RX4 252 "CoreTransactions$Transaction" "storedWords" "[I", Cond.fieldLink RX4 9 "CoreTransactions" "memory" "[I", Cond.methodLink RX4 249 yX3_hasStored, Cond.instanceMethod yX3_hasStored, Cond.selects RX3 yX3_hasStored yX3_hasStored, Cond.code yX3_hasStored cX3_hasStored 2 (some .boolean), Cond.methodLink RX4 170 yX4_write, Cond.instanceMethod yX4_write, Cond.selects RX4 yX4_write yX4_write, Cond.code yX4_write cX4_write 4 none, Cond.methodLink RX4 204 yX3_keep, Cond.instanceMethod yX3_keep, Cond.selects RX3 yX3_keep yX3_keep, Cond.code yX3_keep cX3_keep 3 none, Cond.fieldLink RX3 15 "CoreTransactions$Transaction" "storedWords" "[I", Cond.methodLink RX4 174 yX4_executeTransactional]
def wsX4_run_r6 : List Cond := [Cond.instanceMethod yX4_executeTransactional, Cond.selects RX4 yX4_executeTransactional yX4_executeTransactional, Cond.code yX4_executeTransactional cX4_executeTransactional 3 (some .boolean), Cond.methodLink RX4 177 yX4_begin, Cond.instanceMethod yX4_begin, Cond.selects RX4 yX4_begin yX4_begin, Cond.code yX4_begin cX4_begin 4 (some .boolean), Cond.fieldLink RX4 132 "CoreTransactions" "lastAge" "I", Cond.methodLink RX4 193 yX3_open, Cond.instanceMethod yX3_open, Cond.selects RX3 yX3_open yX3_open, Cond.code yX3_open cX3_open 5 none, Cond.fieldLink RX3 22 "CoreTransactions$Transaction" "beginPlace" "I", Cond.fieldLink RX3 25 "CoreTransactions$Transaction" "keptPlace" "I", Cond.fieldLink RX3 9 "CoreTransactions$Transaction" "keptRegisters" "[I", Cond.methodLink RX3 28 arraycopyName, Cond.methodLink RX4 180 yX4_end, Cond.instanceMethod yX4_end, Cond.selects RX4 yX4_end yX4_end, Cond.code yX4_end cX4_end 3 none, Cond.fieldLink RX4 201 "CoreTransactions$Core" "committed" "I", Cond.methodLink RX4 197 yX3_writeTo, Cond.instanceMethod yX3_writeTo, Cond.selects RX3 yX3_writeTo yX3_writeTo]
def wsX4_run_r7 : List Cond := [Cond.code yX3_writeTo cX3_writeTo 3 none, Cond.methodLink RX3 47 yX3_hasStored, Cond.methodLink RX4 183 yX4_breaksOff, Cond.instanceMethod yX4_breaksOff, Cond.selects RX4 yX4_breaksOff yX4_breaksOff, Cond.code yX4_breaksOff cX4_breaksOff 3 (some .boolean)]
def wsX4_run : List Cond := .code yX4_run cX4_run 6 (some .int) :: ((wsX4_run_r1 ++ (wsX4_run_r2 ++ (wsX4_run_r3 ++ (wsX4_run_r4 ++ (wsX4_run_r5 ++ (wsX4_run_r6 ++ wsX4_run_r7)))))) ++ wsX40 ++ wsX00 ++ wsX10 ++ wsX30 ++ wsX20 ++ (vx_at0 RX4 53 "java/lang/IllegalArgumentException" ["java/lang/RuntimeException", "java/lang/Exception"]).filter goodWord)
def wsX4_register : List Cond := .code yX4_register cX4_register 3 (some .int) :: ([.classLink RX4 68 "java/lang/IndexOutOfBoundsException", .initialized "java/lang/IndexOutOfBoundsException", .fieldLink RX4 40 "CoreTransactions" "cores" "[LCoreTransactions$Core;", .fieldLink RX4 90 "CoreTransactions$Core" "registers" "[I", .methodLink RX4 64 yX4_isCore, .instanceMethod yX4_isCore, .selects RX4 yX4_isCore yX4_isCore, .initialized RX4, .code yX4_isCore cX4_isCore 2 (some .boolean), .methodLink RX4 87 yX4_isRegister, .static yX4_isRegister, .code yX4_isRegister cX4_isRegister 1 (some .boolean)] ++ wsX40 ++ wsX00 ++ (vx_at0 RX4 70 "java/lang/IndexOutOfBoundsException" ["java/lang/RuntimeException", "java/lang/Exception"]).filter goodWord)
def wsX4_word : List Cond := .code yX4_word cX4_word 2 (some .int) :: ([.classLink RX4 68 "java/lang/IndexOutOfBoundsException", .initialized "java/lang/IndexOutOfBoundsException", .fieldLink RX4 9 "CoreTransactions" "memory" "[I", .methodLink RX4 97 yX4_isWord, .static yX4_isWord, .initialized RX4, .code yX4_isWord cX4_isWord 1 (some .boolean)] ++ wsX40 ++ (vx_at0 RX4 70 "java/lang/IndexOutOfBoundsException" ["java/lang/RuntimeException", "java/lang/Exception"]).filter goodWord)
def wsX4_seen : List Cond := .code yX4_seen cX4_seen 3 (some .int) :: ([.classLink RX4 68 "java/lang/IndexOutOfBoundsException", .initialized "java/lang/IndexOutOfBoundsException", .fieldLink RX4 40 "CoreTransactions" "cores" "[LCoreTransactions$Core;", .methodLink RX4 64 yX4_isCore, .instanceMethod yX4_isCore, .selects RX4 yX4_isCore yX4_isCore, .initialized RX4, .code yX4_isCore cX4_isCore 2 (some .boolean), .methodLink RX4 97 yX4_isWord, .static yX4_isWord, .code yX4_isWord cX4_isWord 1 (some .boolean), .methodLink RX4 112 yX4_wordSeenBy, .instanceMethod yX4_wordSeenBy, .selects RX4 yX4_wordSeenBy yX4_wordSeenBy, .code yX4_wordSeenBy cX4_wordSeenBy 3 (some .int), .fieldLink RX4 74 "CoreTransactions$Core" "transaction" "LCoreTransactions$Transaction;", .fieldLink RX4 252 "CoreTransactions$Transaction" "storedWords" "[I", .fieldLink RX4 9 "CoreTransactions" "memory" "[I", .methodLink RX4 249 yX3_hasStored, .instanceMethod yX3_hasStored, .selects RX3 yX3_hasStored yX3_hasStored, .initialized RX3, .code yX3_hasStored cX3_hasStored 2 (some .boolean), .fieldLink RX3 43 "CoreTransactions$Transaction" "stored" "J"] ++ wsX40 ++ wsX00 ++ wsX30 ++ (vx_at0 RX4 70 "java/lang/IndexOutOfBoundsException" ["java/lang/RuntimeException", "java/lang/Exception"]).filter goodWord)
def wsJ6_bitCount_0f7a4 : List Cond := .code yJ6_bitCount_0f7a4 cJ6_bitCount_0f7a4 1 (some .int) :: ([.constant RJ6 265 (1431655765), .constant RJ6 266 (858993459), .constant RJ6 267 (252645135)])
def wsJ13_bitCount_95d88 : List Cond := .code yJ13_bitCount_95d88 cJ13_bitCount_95d88 2 (some .int) :: ([.constantLong RJ13 314 (6148914691236517205), .constantLong RJ13 316 (3689348814741910323), .constantLong RJ13 318 (1085102592571150095)])
def wsX4_factOf_r1 : List Cond := [Cond.fieldLink RX4 74 "CoreTransactions$Core" "transaction" "LCoreTransactions$Transaction;", Cond.fieldLink RX4 71 "CoreTransactions$Core" "place" "I", Cond.fieldLink RX4 83 "CoreTransactions$Core" "ended" "Z", Cond.fieldLink RX4 151 "CoreTransactions$Core" "retired" "I", Cond.fieldLink RX4 186 "CoreTransactions$Transaction" "depth" "I", Cond.fieldLink RX4 224 "CoreTransactions$Transaction" "age" "I", Cond.fieldLink RX4 255 "CoreTransactions$Transaction" "linesRead" "I", Cond.fieldLink RX4 264 "CoreTransactions$Transaction" "linesWritten" "I", Cond.fieldLink RX4 267 "CoreTransactions$Transaction" "stored" "J", Cond.fieldLink RX4 201 "CoreTransactions$Core" "committed" "I", Cond.fieldLink RX4 246 "CoreTransactions$Core" "brokenOff" "I", Cond.methodLink RX4 258 yJ6_bitCount_0f7a4, Cond.static yJ6_bitCount_0f7a4, Cond.initialized RJ6, Cond.code yJ6_bitCount_0f7a4 cJ6_bitCount_0f7a4 1 (some .int), Cond.constant RJ6 265 (1431655765), Cond.constant RJ6 266 (858993459), Cond.constant RJ6 267 (252645135), Cond.methodLink RX4 271 yJ13_bitCount_95d88, Cond.static yJ13_bitCount_95d88, Cond.initialized RJ13, Cond.code yJ13_bitCount_95d88 cJ13_bitCount_95d88 2 (some .int), Cond.constantLong RJ13 314 (6148914691236517205), Cond.constantLong RJ13 316 (3689348814741910323)]
def wsX4_factOf_r2 : List Cond := [Cond.constantLong RJ13 318 (1085102592571150095)]
def wsX4_factOf : List Cond := .code yX4_factOf cX4_factOf 3 (some .int) :: ((wsX4_factOf_r1 ++ wsX4_factOf_r2) ++ wsX00 ++ wsX30)
def wsX4_told_r1 : List Cond := [Cond.classLink RX4 68 "java/lang/IndexOutOfBoundsException", Cond.initialized "java/lang/IndexOutOfBoundsException", Cond.classLink RX4 51 "java/lang/IllegalArgumentException", Cond.initialized "java/lang/IllegalArgumentException", Cond.fieldLink RX4 40 "CoreTransactions" "cores" "[LCoreTransactions$Core;", Cond.methodLink RX4 64 yX4_isCore, Cond.instanceMethod yX4_isCore, Cond.selects RX4 yX4_isCore yX4_isCore, Cond.initialized RX4, Cond.code yX4_isCore cX4_isCore 2 (some .boolean), Cond.methodLink RX4 116 yX4_factOf, Cond.static yX4_factOf, Cond.code yX4_factOf cX4_factOf 3 (some .int), Cond.fieldLink RX4 74 "CoreTransactions$Core" "transaction" "LCoreTransactions$Transaction;", Cond.fieldLink RX4 71 "CoreTransactions$Core" "place" "I", Cond.fieldLink RX4 83 "CoreTransactions$Core" "ended" "Z", Cond.fieldLink RX4 151 "CoreTransactions$Core" "retired" "I", Cond.fieldLink RX4 186 "CoreTransactions$Transaction" "depth" "I", Cond.fieldLink RX4 224 "CoreTransactions$Transaction" "age" "I", Cond.fieldLink RX4 255 "CoreTransactions$Transaction" "linesRead" "I", Cond.fieldLink RX4 264 "CoreTransactions$Transaction" "linesWritten" "I", Cond.fieldLink RX4 267 "CoreTransactions$Transaction" "stored" "J", Cond.fieldLink RX4 201 "CoreTransactions$Core" "committed" "I", Cond.fieldLink RX4 246 "CoreTransactions$Core" "brokenOff" "I"]
def wsX4_told_r2 : List Cond := [Cond.methodLink RX4 258 yJ6_bitCount_0f7a4, Cond.static yJ6_bitCount_0f7a4, Cond.initialized RJ6, Cond.code yJ6_bitCount_0f7a4 cJ6_bitCount_0f7a4 1 (some .int), Cond.constant RJ6 265 (1431655765), Cond.constant RJ6 266 (858993459), Cond.constant RJ6 267 (252645135), Cond.methodLink RX4 271 yJ13_bitCount_95d88, Cond.static yJ13_bitCount_95d88, Cond.initialized RJ13, Cond.code yJ13_bitCount_95d88 cJ13_bitCount_95d88 2 (some .int), Cond.constantLong RJ13 314 (6148914691236517205), Cond.constantLong RJ13 316 (3689348814741910323), Cond.constantLong RJ13 318 (1085102592571150095)]
def wsX4_told : List Cond := .code yX4_told cX4_told 3 (some .int) :: ((wsX4_told_r1 ++ wsX4_told_r2) ++ wsX40 ++ wsX00 ++ wsX30 ++ (vx_at0 RX4 70 "java/lang/IndexOutOfBoundsException" ["java/lang/RuntimeException", "java/lang/Exception"]).filter goodWord ++ (vx_at0 RX4 53 "java/lang/IllegalArgumentException" ["java/lang/RuntimeException", "java/lang/Exception"]).filter goodWord)
def wsX4_records : List Cond := .code yX4_records cX4_records 1 (some .int) :: ([.fieldLink RX4 23 "CoreTransactions" "broken" "LCoreTransactions$Records;", .fieldLink RX4 119 "CoreTransactions$Records" "count" "I"] ++ wsX40 ++ wsX20)
def wsX4_record : List Cond := .code yX4_record cX4_record 3 (some .int) :: ([.classLink RX4 68 "java/lang/IndexOutOfBoundsException", .initialized "java/lang/IndexOutOfBoundsException", .classLink RX4 51 "java/lang/IllegalArgumentException", .initialized "java/lang/IllegalArgumentException", .fieldLink RX4 23 "CoreTransactions" "broken" "LCoreTransactions$Records;", .fieldLink RX4 119 "CoreTransactions$Records" "count" "I", .methodLink RX4 122 yX2_field, .instanceMethod yX2_field, .selects RX2 yX2_field yX2_field, .initialized RX2, .code yX2_field cX2_field 3 (some .int), .fieldLink RX2 9 "CoreTransactions$Records" "fields" "[I", .fieldLink RX2 15 "CoreTransactions$Records" "oldest" "I"] ++ wsX40 ++ wsX20 ++ (vx_at0 RX4 70 "java/lang/IndexOutOfBoundsException" ["java/lang/RuntimeException", "java/lang/Exception"]).filter goodWord ++ (vx_at0 RX4 53 "java/lang/IllegalArgumentException" ["java/lang/RuntimeException", "java/lang/Exception"]).filter goodWord)
def wsX4_clear_r1 : List Cond := [Cond.fieldLink RX4 40 "CoreTransactions" "cores" "[LCoreTransactions$Core;", Cond.fieldLink RX4 9 "CoreTransactions" "memory" "[I", Cond.fieldLink RX4 16 "CoreTransactions" "program" "LCoreTransactions$Program;", Cond.fieldLink RX4 54 "CoreTransactions$Program" "length" "I", Cond.fieldLink RX4 23 "CoreTransactions" "broken" "LCoreTransactions$Records;", Cond.fieldLink RX4 132 "CoreTransactions" "lastAge" "I", Cond.methodLink RX4 126 yX0_reset, Cond.instanceMethod yX0_reset, Cond.selects RX0 yX0_reset yX0_reset, Cond.initialized RX0, Cond.code yX0_reset cX0_reset 2 none, Cond.fieldLink RX0 9 "CoreTransactions$Core" "registers" "[I", Cond.fieldLink RX0 18 "CoreTransactions$Core" "transaction" "LCoreTransactions$Transaction;", Cond.fieldLink RX0 29 "CoreTransactions$Core" "place" "I", Cond.fieldLink RX0 32 "CoreTransactions$Core" "ended" "Z", Cond.fieldLink RX0 36 "CoreTransactions$Core" "retired" "I", Cond.fieldLink RX0 39 "CoreTransactions$Core" "committed" "I", Cond.fieldLink RX0 42 "CoreTransactions$Core" "brokenOff" "I", Cond.methodLink RX0 26 yX3_close, Cond.instanceMethod yX3_close, Cond.selects RX3 yX3_close yX3_close, Cond.initialized RX3, Cond.code yX3_close cX3_close 1 none, Cond.fieldLink RX3 34 "CoreTransactions$Transaction" "depth" "I"]
def wsX4_clear_r2 : List Cond := [Cond.fieldLink RX3 18 "CoreTransactions$Transaction" "age" "I", Cond.fieldLink RX3 37 "CoreTransactions$Transaction" "linesRead" "I", Cond.fieldLink RX3 40 "CoreTransactions$Transaction" "linesWritten" "I", Cond.fieldLink RX3 43 "CoreTransactions$Transaction" "stored" "J", Cond.methodLink RX4 129 yX2_forget, Cond.instanceMethod yX2_forget, Cond.selects RX2 yX2_forget yX2_forget, Cond.initialized RX2, Cond.code yX2_forget cX2_forget 1 none, Cond.fieldLink RX2 19 "CoreTransactions$Records" "count" "I", Cond.fieldLink RX2 15 "CoreTransactions$Records" "oldest" "I"]
def wsX4_clear : List Cond := .code yX4_clear cX4_clear 2 none :: ((wsX4_clear_r1 ++ wsX4_clear_r2) ++ wsX40 ++ wsX10 ++ wsX00 ++ wsX30 ++ wsX20)
def wsX5_near : List Cond := .code yX5_near cX5_near 3 (some .int) :: ([])
def wsX5_init_r1 : List Cond := [Cond.methodLink RX5 1 objectInit, Cond.instanceMethod objectInit, Cond.code objectInit ⟨#[0xb1]⟩ 1 none, Cond.arrayClass .int, Cond.fieldLink RX5 7 "CoreTransactionsModel" "memory" "[I", Cond.fieldLink RX5 13 "CoreTransactionsModel" "operations" "[I", Cond.fieldLink RX5 16 "CoreTransactionsModel" "as" "[I", Cond.fieldLink RX5 19 "CoreTransactionsModel" "bs" "[I", Cond.fieldLink RX5 22 "CoreTransactionsModel" "cs" "[I", Cond.fieldLink RX5 25 "CoreTransactionsModel" "places" "[I", Cond.arrayClass .boolean, Cond.fieldLink RX5 28 "CoreTransactionsModel" "ended" "[Z", Cond.fieldLink RX5 32 "CoreTransactionsModel" "retired" "[I", Cond.fieldLink RX5 35 "CoreTransactionsModel" "registers" "[I", Cond.fieldLink RX5 38 "CoreTransactionsModel" "depths" "[I", Cond.fieldLink RX5 41 "CoreTransactionsModel" "ages" "[I", Cond.fieldLink RX5 44 "CoreTransactionsModel" "begins" "[I", Cond.fieldLink RX5 47 "CoreTransactionsModel" "returns" "[I", Cond.fieldLink RX5 50 "CoreTransactionsModel" "keptRegisters" "[I", Cond.fieldLink RX5 53 "CoreTransactionsModel" "reads" "[I", Cond.fieldLink RX5 56 "CoreTransactionsModel" "writes" "[I", Cond.arrayClass .long, Cond.fieldLink RX5 59 "CoreTransactionsModel" "stores" "[J", Cond.fieldLink RX5 63 "CoreTransactionsModel" "stored" "[I"]
def wsX5_init_r2 : List Cond := [Cond.fieldLink RX5 66 "CoreTransactionsModel" "committed" "[I", Cond.fieldLink RX5 69 "CoreTransactionsModel" "broken" "[I", Cond.fieldLink RX5 72 "CoreTransactionsModel" "recordCells" "[I", Cond.fieldLink RX5 79 "CoreTransactionsModel" "cores" "I", Cond.fieldLink RX5 83 "CoreTransactionsModel" "sets" "I", Cond.fieldLink RX5 86 "CoreTransactionsModel" "ways" "I", Cond.methodLink RX5 75 yX5_near, Cond.static yX5_near, Cond.initialized RX5, Cond.code yX5_near cX5_near 3 (some .int)]
def wsX5_init : List Cond := .code yX5_init cX5_init 4 none :: ((wsX5_init_r1 ++ wsX5_init_r2) ++ wsX50)
def wsX5_thrown : List Cond := .code yX5_thrown cX5_thrown 1 (some .int) :: ([.fieldLink RX5 89 "CoreTransactionsModel" "thrown" "I"] ++ wsX50)
def wsX5_isIn : List Cond := .code yX5_isIn cX5_isIn 2 (some .boolean) :: ([])
def wsX5_namesA : List Cond := .code yX5_namesA cX5_namesA 1 (some .boolean) :: ([])
def wsX5_namesB : List Cond := .code yX5_namesB cX5_namesB 1 (some .boolean) :: ([])
def wsX5_namesC : List Cond := .code yX5_namesC cX5_namesC 1 (some .boolean) :: ([])
def wsX5_instruction : List Cond := .code yX5_instruction cX5_instruction 6 (some .int) :: ([.fieldLink RX5 106 "CoreTransactionsModel" "size" "I", .fieldLink RX5 89 "CoreTransactionsModel" "thrown" "I", .fieldLink RX5 13 "CoreTransactionsModel" "operations" "[I", .fieldLink RX5 16 "CoreTransactionsModel" "as" "[I", .fieldLink RX5 19 "CoreTransactionsModel" "bs" "[I", .fieldLink RX5 22 "CoreTransactionsModel" "cs" "[I", .methodLink RX5 92 yX5_isIn, .static yX5_isIn, .initialized RX5, .code yX5_isIn cX5_isIn 2 (some .boolean), .methodLink RX5 96 yX5_namesA, .static yX5_namesA, .code yX5_namesA cX5_namesA 1 (some .boolean), .methodLink RX5 100 yX5_namesB, .static yX5_namesB, .code yX5_namesB cX5_namesB 1 (some .boolean), .methodLink RX5 103 yX5_namesC, .static yX5_namesC, .code yX5_namesC cX5_namesC 1 (some .boolean)] ++ wsX50)
def wsX5_leave : List Cond := .code yX5_leave cX5_leave 2 none :: ([.fieldLink RX5 38 "CoreTransactionsModel" "depths" "[I", .fieldLink RX5 41 "CoreTransactionsModel" "ages" "[I", .fieldLink RX5 53 "CoreTransactionsModel" "reads" "[I", .fieldLink RX5 56 "CoreTransactionsModel" "writes" "[I", .fieldLink RX5 59 "CoreTransactionsModel" "stores" "[J"] ++ wsX50)
def wsX5_start : List Cond := .code yX5_start cX5_start 4 (some .int) :: ([.fieldLink RX5 79 "CoreTransactionsModel" "cores" "I", .fieldLink RX5 89 "CoreTransactionsModel" "thrown" "I", .fieldLink RX5 25 "CoreTransactionsModel" "places" "[I", .fieldLink RX5 28 "CoreTransactionsModel" "ended" "[Z", .methodLink RX5 92 yX5_isIn, .static yX5_isIn, .initialized RX5, .code yX5_isIn cX5_isIn 2 (some .boolean), .methodLink RX5 109 yX5_leave, .instanceMethod yX5_leave, .selects RX5 yX5_leave yX5_leave, .code yX5_leave cX5_leave 2 none, .fieldLink RX5 38 "CoreTransactionsModel" "depths" "[I", .fieldLink RX5 41 "CoreTransactionsModel" "ages" "[I", .fieldLink RX5 53 "CoreTransactionsModel" "reads" "[I", .fieldLink RX5 56 "CoreTransactionsModel" "writes" "[I", .fieldLink RX5 59 "CoreTransactionsModel" "stores" "[J"] ++ wsX50)
def wsX5_get : List Cond := .code yX5_get cX5_get 3 (some .int) :: ([.fieldLink RX5 35 "CoreTransactionsModel" "registers" "[I"] ++ wsX50)
def wsX5_give : List Cond := .code yX5_give cX5_give 4 none :: ([.fieldLink RX5 35 "CoreTransactionsModel" "registers" "[I"] ++ wsX50)
def wsX5_set : List Cond := .code yX5_set cX5_set 5 (some .int) :: ([.fieldLink RX5 79 "CoreTransactionsModel" "cores" "I", .fieldLink RX5 89 "CoreTransactionsModel" "thrown" "I", .methodLink RX5 92 yX5_isIn, .static yX5_isIn, .initialized RX5, .code yX5_isIn cX5_isIn 2 (some .boolean), .methodLink RX5 113 yX5_get, .instanceMethod yX5_get, .selects RX5 yX5_get yX5_get, .code yX5_get cX5_get 3 (some .int), .fieldLink RX5 35 "CoreTransactionsModel" "registers" "[I", .methodLink RX5 117 yX5_give, .instanceMethod yX5_give, .selects RX5 yX5_give yX5_give, .code yX5_give cX5_give 4 none] ++ wsX50)
def wsX5_breakOff : List Cond := .code yX5_breakOff cX5_breakOff 4 none :: ([.fieldLink RX5 121 "CoreTransactionsModel" "recordCount" "I", .fieldLink RX5 72 "CoreTransactionsModel" "recordCells" "[I", .fieldLink RX5 44 "CoreTransactionsModel" "begins" "[I", .fieldLink RX5 41 "CoreTransactionsModel" "ages" "[I", .fieldLink RX5 35 "CoreTransactionsModel" "registers" "[I", .fieldLink RX5 50 "CoreTransactionsModel" "keptRegisters" "[I", .fieldLink RX5 25 "CoreTransactionsModel" "places" "[I", .fieldLink RX5 47 "CoreTransactionsModel" "returns" "[I", .fieldLink RX5 69 "CoreTransactionsModel" "broken" "[I", .methodLink RX5 109 yX5_leave, .instanceMethod yX5_leave, .selects RX5 yX5_leave yX5_leave, .initialized RX5, .code yX5_leave cX5_leave 2 none, .fieldLink RX5 38 "CoreTransactionsModel" "depths" "[I", .fieldLink RX5 53 "CoreTransactionsModel" "reads" "[I", .fieldLink RX5 56 "CoreTransactionsModel" "writes" "[I", .fieldLink RX5 59 "CoreTransactionsModel" "stores" "[J"] ++ wsX50)
def wsX5_meets : List Cond := .code yX5_meets cX5_meets 5 (some .boolean) :: ([.fieldLink RX5 53 "CoreTransactionsModel" "reads" "[I", .fieldLink RX5 56 "CoreTransactionsModel" "writes" "[I", .fieldLink RX5 38 "CoreTransactionsModel" "depths" "[I"] ++ wsX50)
def wsX5_breakOthers_r1 : List Cond := [Cond.fieldLink RX5 79 "CoreTransactionsModel" "cores" "I", Cond.methodLink RX5 124 yX5_meets, Cond.instanceMethod yX5_meets, Cond.selects RX5 yX5_meets yX5_meets, Cond.initialized RX5, Cond.code yX5_meets cX5_meets 5 (some .boolean), Cond.fieldLink RX5 53 "CoreTransactionsModel" "reads" "[I", Cond.fieldLink RX5 56 "CoreTransactionsModel" "writes" "[I", Cond.fieldLink RX5 38 "CoreTransactionsModel" "depths" "[I", Cond.methodLink RX5 128 yX5_breakOff, Cond.instanceMethod yX5_breakOff, Cond.selects RX5 yX5_breakOff yX5_breakOff, Cond.code yX5_breakOff cX5_breakOff 4 none, Cond.fieldLink RX5 121 "CoreTransactionsModel" "recordCount" "I", Cond.fieldLink RX5 72 "CoreTransactionsModel" "recordCells" "[I", Cond.fieldLink RX5 44 "CoreTransactionsModel" "begins" "[I", Cond.fieldLink RX5 41 "CoreTransactionsModel" "ages" "[I", Cond.fieldLink RX5 35 "CoreTransactionsModel" "registers" "[I", Cond.fieldLink RX5 50 "CoreTransactionsModel" "keptRegisters" "[I", Cond.fieldLink RX5 25 "CoreTransactionsModel" "places" "[I", Cond.fieldLink RX5 47 "CoreTransactionsModel" "returns" "[I", Cond.fieldLink RX5 69 "CoreTransactionsModel" "broken" "[I", Cond.methodLink RX5 109 yX5_leave, Cond.instanceMethod yX5_leave]
def wsX5_breakOthers_r2 : List Cond := [Cond.selects RX5 yX5_leave yX5_leave, Cond.code yX5_leave cX5_leave 2 none, Cond.fieldLink RX5 59 "CoreTransactionsModel" "stores" "[J"]
def wsX5_breakOthers : List Cond := .code yX5_breakOthers cX5_breakOthers 5 none :: ((wsX5_breakOthers_r1 ++ wsX5_breakOthers_r2) ++ wsX50)
def wsX5_poke_r1 : List Cond := [Cond.fieldLink RX5 89 "CoreTransactionsModel" "thrown" "I", Cond.fieldLink RX5 7 "CoreTransactionsModel" "memory" "[I", Cond.methodLink RX5 92 yX5_isIn, Cond.static yX5_isIn, Cond.initialized RX5, Cond.code yX5_isIn cX5_isIn 2 (some .boolean), Cond.methodLink RX5 132 yX5_breakOthers, Cond.instanceMethod yX5_breakOthers, Cond.selects RX5 yX5_breakOthers yX5_breakOthers, Cond.code yX5_breakOthers cX5_breakOthers 5 none, Cond.fieldLink RX5 79 "CoreTransactionsModel" "cores" "I", Cond.methodLink RX5 124 yX5_meets, Cond.instanceMethod yX5_meets, Cond.selects RX5 yX5_meets yX5_meets, Cond.code yX5_meets cX5_meets 5 (some .boolean), Cond.fieldLink RX5 53 "CoreTransactionsModel" "reads" "[I", Cond.fieldLink RX5 56 "CoreTransactionsModel" "writes" "[I", Cond.fieldLink RX5 38 "CoreTransactionsModel" "depths" "[I", Cond.methodLink RX5 128 yX5_breakOff, Cond.instanceMethod yX5_breakOff, Cond.selects RX5 yX5_breakOff yX5_breakOff, Cond.code yX5_breakOff cX5_breakOff 4 none, Cond.fieldLink RX5 121 "CoreTransactionsModel" "recordCount" "I", Cond.fieldLink RX5 72 "CoreTransactionsModel" "recordCells" "[I"]
def wsX5_poke_r2 : List Cond := [Cond.fieldLink RX5 44 "CoreTransactionsModel" "begins" "[I", Cond.fieldLink RX5 41 "CoreTransactionsModel" "ages" "[I", Cond.fieldLink RX5 35 "CoreTransactionsModel" "registers" "[I", Cond.fieldLink RX5 50 "CoreTransactionsModel" "keptRegisters" "[I", Cond.fieldLink RX5 25 "CoreTransactionsModel" "places" "[I", Cond.fieldLink RX5 47 "CoreTransactionsModel" "returns" "[I", Cond.fieldLink RX5 69 "CoreTransactionsModel" "broken" "[I", Cond.methodLink RX5 109 yX5_leave, Cond.instanceMethod yX5_leave, Cond.selects RX5 yX5_leave yX5_leave, Cond.code yX5_leave cX5_leave 2 none, Cond.fieldLink RX5 59 "CoreTransactionsModel" "stores" "[J"]
def wsX5_poke : List Cond := .code yX5_poke cX5_poke 4 (some .int) :: ((wsX5_poke_r1 ++ wsX5_poke_r2) ++ wsX50)
def wsX5_linesInSet : List Cond := .code yX5_linesInSet cX5_linesInSet 5 (some .int) :: ([.fieldLink RX5 83 "CoreTransactionsModel" "sets" "I", .fieldLink RX5 53 "CoreTransactionsModel" "reads" "[I", .fieldLink RX5 56 "CoreTransactionsModel" "writes" "[I"] ++ wsX50)
def wsX5_comes_r1 : List Cond := [Cond.fieldLink RX5 79 "CoreTransactionsModel" "cores" "I", Cond.fieldLink RX5 41 "CoreTransactionsModel" "ages" "[I", Cond.fieldLink RX5 38 "CoreTransactionsModel" "depths" "[I", Cond.fieldLink RX5 56 "CoreTransactionsModel" "writes" "[I", Cond.fieldLink RX5 53 "CoreTransactionsModel" "reads" "[I", Cond.fieldLink RX5 86 "CoreTransactionsModel" "ways" "I", Cond.methodLink RX5 124 yX5_meets, Cond.instanceMethod yX5_meets, Cond.selects RX5 yX5_meets yX5_meets, Cond.initialized RX5, Cond.code yX5_meets cX5_meets 5 (some .boolean), Cond.methodLink RX5 128 yX5_breakOff, Cond.instanceMethod yX5_breakOff, Cond.selects RX5 yX5_breakOff yX5_breakOff, Cond.code yX5_breakOff cX5_breakOff 4 none, Cond.fieldLink RX5 121 "CoreTransactionsModel" "recordCount" "I", Cond.fieldLink RX5 72 "CoreTransactionsModel" "recordCells" "[I", Cond.fieldLink RX5 44 "CoreTransactionsModel" "begins" "[I", Cond.fieldLink RX5 35 "CoreTransactionsModel" "registers" "[I", Cond.fieldLink RX5 50 "CoreTransactionsModel" "keptRegisters" "[I", Cond.fieldLink RX5 25 "CoreTransactionsModel" "places" "[I", Cond.fieldLink RX5 47 "CoreTransactionsModel" "returns" "[I", Cond.fieldLink RX5 69 "CoreTransactionsModel" "broken" "[I", Cond.methodLink RX5 109 yX5_leave]
def wsX5_comes_r2 : List Cond := [Cond.instanceMethod yX5_leave, Cond.selects RX5 yX5_leave yX5_leave, Cond.code yX5_leave cX5_leave 2 none, Cond.fieldLink RX5 59 "CoreTransactionsModel" "stores" "[J", Cond.methodLink RX5 132 yX5_breakOthers, Cond.instanceMethod yX5_breakOthers, Cond.selects RX5 yX5_breakOthers yX5_breakOthers, Cond.code yX5_breakOthers cX5_breakOthers 5 none, Cond.methodLink RX5 136 yX5_linesInSet, Cond.instanceMethod yX5_linesInSet, Cond.selects RX5 yX5_linesInSet yX5_linesInSet, Cond.code yX5_linesInSet cX5_linesInSet 5 (some .int), Cond.fieldLink RX5 83 "CoreTransactionsModel" "sets" "I"]
def wsX5_comes : List Cond := .code yX5_comes cX5_comes 7 (some .boolean) :: ((wsX5_comes_r1 ++ wsX5_comes_r2) ++ wsX50)
def wsX5_sees : List Cond := .code yX5_sees cX5_sees 3 (some .int) :: ([.fieldLink RX5 59 "CoreTransactionsModel" "stores" "[J", .fieldLink RX5 63 "CoreTransactionsModel" "stored" "[I", .fieldLink RX5 7 "CoreTransactionsModel" "memory" "[I"] ++ wsX50)
def wsX5_commit : List Cond := .code yX5_commit cX5_commit 3 none :: ([.fieldLink RX5 7 "CoreTransactionsModel" "memory" "[I", .fieldLink RX5 66 "CoreTransactionsModel" "committed" "[I", .methodLink RX5 139 yX5_sees, .instanceMethod yX5_sees, .selects RX5 yX5_sees yX5_sees, .initialized RX5, .code yX5_sees cX5_sees 3 (some .int), .fieldLink RX5 59 "CoreTransactionsModel" "stores" "[J", .fieldLink RX5 63 "CoreTransactionsModel" "stored" "[I", .methodLink RX5 109 yX5_leave, .instanceMethod yX5_leave, .selects RX5 yX5_leave yX5_leave, .code yX5_leave cX5_leave 2 none, .fieldLink RX5 38 "CoreTransactionsModel" "depths" "[I", .fieldLink RX5 41 "CoreTransactionsModel" "ages" "[I", .fieldLink RX5 53 "CoreTransactionsModel" "reads" "[I", .fieldLink RX5 56 "CoreTransactionsModel" "writes" "[I"] ++ wsX50)
def wsX5_faults : List Cond := .code yX5_faults cX5_faults 2 (some .boolean) :: ([.fieldLink RX5 38 "CoreTransactionsModel" "depths" "[I", .fieldLink RX5 28 "CoreTransactionsModel" "ended" "[Z", .methodLink RX5 128 yX5_breakOff, .instanceMethod yX5_breakOff, .selects RX5 yX5_breakOff yX5_breakOff, .initialized RX5, .code yX5_breakOff cX5_breakOff 4 none, .fieldLink RX5 121 "CoreTransactionsModel" "recordCount" "I", .fieldLink RX5 72 "CoreTransactionsModel" "recordCells" "[I", .fieldLink RX5 44 "CoreTransactionsModel" "begins" "[I", .fieldLink RX5 41 "CoreTransactionsModel" "ages" "[I", .fieldLink RX5 35 "CoreTransactionsModel" "registers" "[I", .fieldLink RX5 50 "CoreTransactionsModel" "keptRegisters" "[I", .fieldLink RX5 25 "CoreTransactionsModel" "places" "[I", .fieldLink RX5 47 "CoreTransactionsModel" "returns" "[I", .fieldLink RX5 69 "CoreTransactionsModel" "broken" "[I", .methodLink RX5 109 yX5_leave, .instanceMethod yX5_leave, .selects RX5 yX5_leave yX5_leave, .code yX5_leave cX5_leave 2 none, .fieldLink RX5 53 "CoreTransactionsModel" "reads" "[I", .fieldLink RX5 56 "CoreTransactionsModel" "writes" "[I", .fieldLink RX5 59 "CoreTransactionsModel" "stores" "[J"] ++ wsX50)
def wsX5_load_r1 : List Cond := [Cond.methodLink RX5 92 yX5_isIn, Cond.static yX5_isIn, Cond.initialized RX5, Cond.code yX5_isIn cX5_isIn 2 (some .boolean), Cond.methodLink RX5 142 yX5_faults, Cond.instanceMethod yX5_faults, Cond.selects RX5 yX5_faults yX5_faults, Cond.code yX5_faults cX5_faults 2 (some .boolean), Cond.fieldLink RX5 38 "CoreTransactionsModel" "depths" "[I", Cond.fieldLink RX5 28 "CoreTransactionsModel" "ended" "[Z", Cond.methodLink RX5 128 yX5_breakOff, Cond.instanceMethod yX5_breakOff, Cond.selects RX5 yX5_breakOff yX5_breakOff, Cond.code yX5_breakOff cX5_breakOff 4 none, Cond.fieldLink RX5 121 "CoreTransactionsModel" "recordCount" "I", Cond.fieldLink RX5 72 "CoreTransactionsModel" "recordCells" "[I", Cond.fieldLink RX5 44 "CoreTransactionsModel" "begins" "[I", Cond.fieldLink RX5 41 "CoreTransactionsModel" "ages" "[I", Cond.fieldLink RX5 35 "CoreTransactionsModel" "registers" "[I", Cond.fieldLink RX5 50 "CoreTransactionsModel" "keptRegisters" "[I", Cond.fieldLink RX5 25 "CoreTransactionsModel" "places" "[I", Cond.fieldLink RX5 47 "CoreTransactionsModel" "returns" "[I", Cond.fieldLink RX5 69 "CoreTransactionsModel" "broken" "[I", Cond.methodLink RX5 109 yX5_leave]
def wsX5_load_r2 : List Cond := [Cond.instanceMethod yX5_leave, Cond.selects RX5 yX5_leave yX5_leave, Cond.code yX5_leave cX5_leave 2 none, Cond.fieldLink RX5 53 "CoreTransactionsModel" "reads" "[I", Cond.fieldLink RX5 56 "CoreTransactionsModel" "writes" "[I", Cond.fieldLink RX5 59 "CoreTransactionsModel" "stores" "[J", Cond.methodLink RX5 145 yX5_comes, Cond.instanceMethod yX5_comes, Cond.selects RX5 yX5_comes yX5_comes, Cond.code yX5_comes cX5_comes 7 (some .boolean), Cond.fieldLink RX5 79 "CoreTransactionsModel" "cores" "I", Cond.fieldLink RX5 86 "CoreTransactionsModel" "ways" "I", Cond.methodLink RX5 124 yX5_meets, Cond.instanceMethod yX5_meets, Cond.selects RX5 yX5_meets yX5_meets, Cond.code yX5_meets cX5_meets 5 (some .boolean), Cond.methodLink RX5 132 yX5_breakOthers, Cond.instanceMethod yX5_breakOthers, Cond.selects RX5 yX5_breakOthers yX5_breakOthers, Cond.code yX5_breakOthers cX5_breakOthers 5 none, Cond.methodLink RX5 136 yX5_linesInSet, Cond.instanceMethod yX5_linesInSet, Cond.selects RX5 yX5_linesInSet yX5_linesInSet, Cond.code yX5_linesInSet cX5_linesInSet 5 (some .int)]
def wsX5_load_r3 : List Cond := [Cond.fieldLink RX5 83 "CoreTransactionsModel" "sets" "I", Cond.methodLink RX5 139 yX5_sees, Cond.instanceMethod yX5_sees, Cond.selects RX5 yX5_sees yX5_sees, Cond.code yX5_sees cX5_sees 3 (some .int), Cond.fieldLink RX5 63 "CoreTransactionsModel" "stored" "[I", Cond.fieldLink RX5 7 "CoreTransactionsModel" "memory" "[I", Cond.methodLink RX5 117 yX5_give, Cond.instanceMethod yX5_give, Cond.selects RX5 yX5_give yX5_give, Cond.code yX5_give cX5_give 4 none]
def wsX5_load : List Cond := .code yX5_load cX5_load 4 (some .boolean) :: ((wsX5_load_r1 ++ (wsX5_load_r2 ++ wsX5_load_r3)) ++ wsX50)
def wsX5_store_r1 : List Cond := [Cond.fieldLink RX5 38 "CoreTransactionsModel" "depths" "[I", Cond.fieldLink RX5 7 "CoreTransactionsModel" "memory" "[I", Cond.fieldLink RX5 59 "CoreTransactionsModel" "stores" "[J", Cond.fieldLink RX5 63 "CoreTransactionsModel" "stored" "[I", Cond.methodLink RX5 92 yX5_isIn, Cond.static yX5_isIn, Cond.initialized RX5, Cond.code yX5_isIn cX5_isIn 2 (some .boolean), Cond.methodLink RX5 142 yX5_faults, Cond.instanceMethod yX5_faults, Cond.selects RX5 yX5_faults yX5_faults, Cond.code yX5_faults cX5_faults 2 (some .boolean), Cond.fieldLink RX5 28 "CoreTransactionsModel" "ended" "[Z", Cond.methodLink RX5 128 yX5_breakOff, Cond.instanceMethod yX5_breakOff, Cond.selects RX5 yX5_breakOff yX5_breakOff, Cond.code yX5_breakOff cX5_breakOff 4 none, Cond.fieldLink RX5 121 "CoreTransactionsModel" "recordCount" "I", Cond.fieldLink RX5 72 "CoreTransactionsModel" "recordCells" "[I", Cond.fieldLink RX5 44 "CoreTransactionsModel" "begins" "[I", Cond.fieldLink RX5 41 "CoreTransactionsModel" "ages" "[I", Cond.fieldLink RX5 35 "CoreTransactionsModel" "registers" "[I", Cond.fieldLink RX5 50 "CoreTransactionsModel" "keptRegisters" "[I", Cond.fieldLink RX5 25 "CoreTransactionsModel" "places" "[I"]
def wsX5_store_r2 : List Cond := [Cond.fieldLink RX5 47 "CoreTransactionsModel" "returns" "[I", Cond.fieldLink RX5 69 "CoreTransactionsModel" "broken" "[I", Cond.methodLink RX5 109 yX5_leave, Cond.instanceMethod yX5_leave, Cond.selects RX5 yX5_leave yX5_leave, Cond.code yX5_leave cX5_leave 2 none, Cond.fieldLink RX5 53 "CoreTransactionsModel" "reads" "[I", Cond.fieldLink RX5 56 "CoreTransactionsModel" "writes" "[I", Cond.methodLink RX5 145 yX5_comes, Cond.instanceMethod yX5_comes, Cond.selects RX5 yX5_comes yX5_comes, Cond.code yX5_comes cX5_comes 7 (some .boolean), Cond.fieldLink RX5 79 "CoreTransactionsModel" "cores" "I", Cond.fieldLink RX5 86 "CoreTransactionsModel" "ways" "I", Cond.methodLink RX5 124 yX5_meets, Cond.instanceMethod yX5_meets, Cond.selects RX5 yX5_meets yX5_meets, Cond.code yX5_meets cX5_meets 5 (some .boolean), Cond.methodLink RX5 132 yX5_breakOthers, Cond.instanceMethod yX5_breakOthers, Cond.selects RX5 yX5_breakOthers yX5_breakOthers, Cond.code yX5_breakOthers cX5_breakOthers 5 none, Cond.methodLink RX5 136 yX5_linesInSet, Cond.instanceMethod yX5_linesInSet]
def wsX5_store_r3 : List Cond := [Cond.selects RX5 yX5_linesInSet yX5_linesInSet, Cond.code yX5_linesInSet cX5_linesInSet 5 (some .int), Cond.fieldLink RX5 83 "CoreTransactionsModel" "sets" "I", Cond.methodLink RX5 113 yX5_get, Cond.instanceMethod yX5_get, Cond.selects RX5 yX5_get yX5_get, Cond.code yX5_get cX5_get 3 (some .int)]
def wsX5_store : List Cond := .code yX5_store cX5_store 4 (some .boolean) :: ((wsX5_store_r1 ++ (wsX5_store_r2 ++ wsX5_store_r3)) ++ wsX50)
def wsX5_begin : List Cond := .code yX5_begin cX5_begin 5 (some .boolean) :: ([.fieldLink RX5 38 "CoreTransactionsModel" "depths" "[I", .fieldLink RX5 148 "CoreTransactionsModel" "age" "I", .fieldLink RX5 41 "CoreTransactionsModel" "ages" "[I", .fieldLink RX5 44 "CoreTransactionsModel" "begins" "[I", .fieldLink RX5 47 "CoreTransactionsModel" "returns" "[I", .fieldLink RX5 50 "CoreTransactionsModel" "keptRegisters" "[I", .fieldLink RX5 35 "CoreTransactionsModel" "registers" "[I", .methodLink RX5 128 yX5_breakOff, .instanceMethod yX5_breakOff, .selects RX5 yX5_breakOff yX5_breakOff, .initialized RX5, .code yX5_breakOff cX5_breakOff 4 none, .fieldLink RX5 121 "CoreTransactionsModel" "recordCount" "I", .fieldLink RX5 72 "CoreTransactionsModel" "recordCells" "[I", .fieldLink RX5 25 "CoreTransactionsModel" "places" "[I", .fieldLink RX5 69 "CoreTransactionsModel" "broken" "[I", .methodLink RX5 109 yX5_leave, .instanceMethod yX5_leave, .selects RX5 yX5_leave yX5_leave, .code yX5_leave cX5_leave 2 none, .fieldLink RX5 53 "CoreTransactionsModel" "reads" "[I", .fieldLink RX5 56 "CoreTransactionsModel" "writes" "[I", .fieldLink RX5 59 "CoreTransactionsModel" "stores" "[J"] ++ wsX50)
def wsX5_end : List Cond := .code yX5_end cX5_end 2 none :: ([.fieldLink RX5 38 "CoreTransactionsModel" "depths" "[I", .methodLink RX5 151 yX5_commit, .instanceMethod yX5_commit, .selects RX5 yX5_commit yX5_commit, .initialized RX5, .code yX5_commit cX5_commit 3 none, .fieldLink RX5 7 "CoreTransactionsModel" "memory" "[I", .fieldLink RX5 66 "CoreTransactionsModel" "committed" "[I", .methodLink RX5 139 yX5_sees, .instanceMethod yX5_sees, .selects RX5 yX5_sees yX5_sees, .code yX5_sees cX5_sees 3 (some .int), .fieldLink RX5 59 "CoreTransactionsModel" "stores" "[J", .fieldLink RX5 63 "CoreTransactionsModel" "stored" "[I", .methodLink RX5 109 yX5_leave, .instanceMethod yX5_leave, .selects RX5 yX5_leave yX5_leave, .code yX5_leave cX5_leave 2 none, .fieldLink RX5 41 "CoreTransactionsModel" "ages" "[I", .fieldLink RX5 53 "CoreTransactionsModel" "reads" "[I", .fieldLink RX5 56 "CoreTransactionsModel" "writes" "[I"] ++ wsX50)
def wsX5_abort : List Cond := .code yX5_abort cX5_abort 3 (some .boolean) :: ([.fieldLink RX5 38 "CoreTransactionsModel" "depths" "[I", .methodLink RX5 128 yX5_breakOff, .instanceMethod yX5_breakOff, .selects RX5 yX5_breakOff yX5_breakOff, .initialized RX5, .code yX5_breakOff cX5_breakOff 4 none, .fieldLink RX5 121 "CoreTransactionsModel" "recordCount" "I", .fieldLink RX5 72 "CoreTransactionsModel" "recordCells" "[I", .fieldLink RX5 44 "CoreTransactionsModel" "begins" "[I", .fieldLink RX5 41 "CoreTransactionsModel" "ages" "[I", .fieldLink RX5 35 "CoreTransactionsModel" "registers" "[I", .fieldLink RX5 50 "CoreTransactionsModel" "keptRegisters" "[I", .fieldLink RX5 25 "CoreTransactionsModel" "places" "[I", .fieldLink RX5 47 "CoreTransactionsModel" "returns" "[I", .fieldLink RX5 69 "CoreTransactionsModel" "broken" "[I", .methodLink RX5 109 yX5_leave, .instanceMethod yX5_leave, .selects RX5 yX5_leave yX5_leave, .code yX5_leave cX5_leave 2 none, .fieldLink RX5 53 "CoreTransactionsModel" "reads" "[I", .fieldLink RX5 56 "CoreTransactionsModel" "writes" "[I", .fieldLink RX5 59 "CoreTransactionsModel" "stores" "[J"] ++ wsX50)
def wsX5_does_r1 : List Cond := [Cond.fieldLink RX5 16 "CoreTransactionsModel" "as" "[I", Cond.fieldLink RX5 19 "CoreTransactionsModel" "bs" "[I", Cond.fieldLink RX5 22 "CoreTransactionsModel" "cs" "[I", Cond.fieldLink RX5 13 "CoreTransactionsModel" "operations" "[I", Cond.fieldLink RX5 161 "CoreTransactionsModel" "next" "I", Cond.fieldLink RX5 28 "CoreTransactionsModel" "ended" "[Z", Cond.fieldLink RX5 38 "CoreTransactionsModel" "depths" "[I", Cond.methodLink RX5 117 yX5_give, Cond.instanceMethod yX5_give, Cond.selects RX5 yX5_give yX5_give, Cond.initialized RX5, Cond.code yX5_give cX5_give 4 none, Cond.fieldLink RX5 35 "CoreTransactionsModel" "registers" "[I", Cond.methodLink RX5 113 yX5_get, Cond.instanceMethod yX5_get, Cond.selects RX5 yX5_get yX5_get, Cond.code yX5_get cX5_get 3 (some .int), Cond.methodLink RX5 154 yX5_load, Cond.instanceMethod yX5_load, Cond.selects RX5 yX5_load yX5_load, Cond.code yX5_load cX5_load 4 (some .boolean), Cond.methodLink RX5 92 yX5_isIn, Cond.static yX5_isIn, Cond.code yX5_isIn cX5_isIn 2 (some .boolean)]
def wsX5_does_r2 : List Cond := [Cond.methodLink RX5 142 yX5_faults, Cond.instanceMethod yX5_faults, Cond.selects RX5 yX5_faults yX5_faults, Cond.code yX5_faults cX5_faults 2 (some .boolean), Cond.methodLink RX5 128 yX5_breakOff, Cond.instanceMethod yX5_breakOff, Cond.selects RX5 yX5_breakOff yX5_breakOff, Cond.code yX5_breakOff cX5_breakOff 4 none, Cond.fieldLink RX5 121 "CoreTransactionsModel" "recordCount" "I", Cond.fieldLink RX5 72 "CoreTransactionsModel" "recordCells" "[I", Cond.fieldLink RX5 44 "CoreTransactionsModel" "begins" "[I", Cond.fieldLink RX5 41 "CoreTransactionsModel" "ages" "[I", Cond.fieldLink RX5 50 "CoreTransactionsModel" "keptRegisters" "[I", Cond.fieldLink RX5 25 "CoreTransactionsModel" "places" "[I", Cond.fieldLink RX5 47 "CoreTransactionsModel" "returns" "[I", Cond.fieldLink RX5 69 "CoreTransactionsModel" "broken" "[I", Cond.methodLink RX5 109 yX5_leave, Cond.instanceMethod yX5_leave, Cond.selects RX5 yX5_leave yX5_leave, Cond.code yX5_leave cX5_leave 2 none, Cond.fieldLink RX5 53 "CoreTransactionsModel" "reads" "[I", Cond.fieldLink RX5 56 "CoreTransactionsModel" "writes" "[I", Cond.fieldLink RX5 59 "CoreTransactionsModel" "stores" "[J", Cond.methodLink RX5 145 yX5_comes]
def wsX5_does_r3 : List Cond := [Cond.instanceMethod yX5_comes, Cond.selects RX5 yX5_comes yX5_comes, Cond.code yX5_comes cX5_comes 7 (some .boolean), Cond.fieldLink RX5 79 "CoreTransactionsModel" "cores" "I", Cond.fieldLink RX5 86 "CoreTransactionsModel" "ways" "I", Cond.methodLink RX5 124 yX5_meets, Cond.instanceMethod yX5_meets, Cond.selects RX5 yX5_meets yX5_meets, Cond.code yX5_meets cX5_meets 5 (some .boolean), Cond.methodLink RX5 132 yX5_breakOthers, Cond.instanceMethod yX5_breakOthers, Cond.selects RX5 yX5_breakOthers yX5_breakOthers, Cond.code yX5_breakOthers cX5_breakOthers 5 none, Cond.methodLink RX5 136 yX5_linesInSet, Cond.instanceMethod yX5_linesInSet, Cond.selects RX5 yX5_linesInSet yX5_linesInSet, Cond.code yX5_linesInSet cX5_linesInSet 5 (some .int), Cond.fieldLink RX5 83 "CoreTransactionsModel" "sets" "I", Cond.methodLink RX5 139 yX5_sees, Cond.instanceMethod yX5_sees, Cond.selects RX5 yX5_sees yX5_sees, Cond.code yX5_sees cX5_sees 3 (some .int), Cond.fieldLink RX5 63 "CoreTransactionsModel" "stored" "[I", Cond.fieldLink RX5 7 "CoreTransactionsModel" "memory" "[I"]
def wsX5_does_r4 : List Cond := [Cond.methodLink RX5 158 yX5_store, Cond.instanceMethod yX5_store, Cond.selects RX5 yX5_store yX5_store, Cond.code yX5_store cX5_store 4 (some .boolean), Cond.methodLink RX5 164 yX5_begin, Cond.instanceMethod yX5_begin, Cond.selects RX5 yX5_begin yX5_begin, Cond.code yX5_begin cX5_begin 5 (some .boolean), Cond.fieldLink RX5 148 "CoreTransactionsModel" "age" "I", Cond.methodLink RX5 167 yX5_end, Cond.instanceMethod yX5_end, Cond.selects RX5 yX5_end yX5_end, Cond.code yX5_end cX5_end 2 none, Cond.methodLink RX5 151 yX5_commit, Cond.instanceMethod yX5_commit, Cond.selects RX5 yX5_commit yX5_commit, Cond.code yX5_commit cX5_commit 3 none, Cond.fieldLink RX5 66 "CoreTransactionsModel" "committed" "[I", Cond.methodLink RX5 170 yX5_abort, Cond.instanceMethod yX5_abort, Cond.selects RX5 yX5_abort yX5_abort, Cond.code yX5_abort cX5_abort 3 (some .boolean)]
def wsX5_does : List Cond := .code yX5_does cX5_does 6 (some .boolean) :: ((wsX5_does_r1 ++ (wsX5_does_r2 ++ (wsX5_does_r3 ++ wsX5_does_r4))) ++ wsX50)
def wsX5_step_r1 : List Cond := [Cond.fieldLink RX5 28 "CoreTransactionsModel" "ended" "[Z", Cond.fieldLink RX5 25 "CoreTransactionsModel" "places" "[I", Cond.fieldLink RX5 106 "CoreTransactionsModel" "size" "I", Cond.fieldLink RX5 161 "CoreTransactionsModel" "next" "I", Cond.fieldLink RX5 32 "CoreTransactionsModel" "retired" "[I", Cond.methodLink RX5 92 yX5_isIn, Cond.static yX5_isIn, Cond.initialized RX5, Cond.code yX5_isIn cX5_isIn 2 (some .boolean), Cond.methodLink RX5 142 yX5_faults, Cond.instanceMethod yX5_faults, Cond.selects RX5 yX5_faults yX5_faults, Cond.code yX5_faults cX5_faults 2 (some .boolean), Cond.fieldLink RX5 38 "CoreTransactionsModel" "depths" "[I", Cond.methodLink RX5 128 yX5_breakOff, Cond.instanceMethod yX5_breakOff, Cond.selects RX5 yX5_breakOff yX5_breakOff, Cond.code yX5_breakOff cX5_breakOff 4 none, Cond.fieldLink RX5 121 "CoreTransactionsModel" "recordCount" "I", Cond.fieldLink RX5 72 "CoreTransactionsModel" "recordCells" "[I", Cond.fieldLink RX5 44 "CoreTransactionsModel" "begins" "[I", Cond.fieldLink RX5 41 "CoreTransactionsModel" "ages" "[I", Cond.fieldLink RX5 35 "CoreTransactionsModel" "registers" "[I", Cond.fieldLink RX5 50 "CoreTransactionsModel" "keptRegisters" "[I"]
def wsX5_step_r2 : List Cond := [Cond.fieldLink RX5 47 "CoreTransactionsModel" "returns" "[I", Cond.fieldLink RX5 69 "CoreTransactionsModel" "broken" "[I", Cond.methodLink RX5 109 yX5_leave, Cond.instanceMethod yX5_leave, Cond.selects RX5 yX5_leave yX5_leave, Cond.code yX5_leave cX5_leave 2 none, Cond.fieldLink RX5 53 "CoreTransactionsModel" "reads" "[I", Cond.fieldLink RX5 56 "CoreTransactionsModel" "writes" "[I", Cond.fieldLink RX5 59 "CoreTransactionsModel" "stores" "[J", Cond.methodLink RX5 173 yX5_does, Cond.instanceMethod yX5_does, Cond.selects RX5 yX5_does yX5_does, Cond.code yX5_does cX5_does 6 (some .boolean), Cond.fieldLink RX5 16 "CoreTransactionsModel" "as" "[I", Cond.fieldLink RX5 19 "CoreTransactionsModel" "bs" "[I", Cond.fieldLink RX5 22 "CoreTransactionsModel" "cs" "[I", Cond.fieldLink RX5 13 "CoreTransactionsModel" "operations" "[I", Cond.methodLink RX5 117 yX5_give, Cond.instanceMethod yX5_give, Cond.selects RX5 yX5_give yX5_give, Cond.code yX5_give cX5_give 4 none, Cond.methodLink RX5 113 yX5_get, Cond.instanceMethod yX5_get, Cond.selects RX5 yX5_get yX5_get]
def wsX5_step_r3 : List Cond := [Cond.code yX5_get cX5_get 3 (some .int), Cond.methodLink RX5 154 yX5_load, Cond.instanceMethod yX5_load, Cond.selects RX5 yX5_load yX5_load, Cond.code yX5_load cX5_load 4 (some .boolean), Cond.methodLink RX5 145 yX5_comes, Cond.instanceMethod yX5_comes, Cond.selects RX5 yX5_comes yX5_comes, Cond.code yX5_comes cX5_comes 7 (some .boolean), Cond.fieldLink RX5 79 "CoreTransactionsModel" "cores" "I", Cond.fieldLink RX5 86 "CoreTransactionsModel" "ways" "I", Cond.methodLink RX5 124 yX5_meets, Cond.instanceMethod yX5_meets, Cond.selects RX5 yX5_meets yX5_meets, Cond.code yX5_meets cX5_meets 5 (some .boolean), Cond.methodLink RX5 132 yX5_breakOthers, Cond.instanceMethod yX5_breakOthers, Cond.selects RX5 yX5_breakOthers yX5_breakOthers, Cond.code yX5_breakOthers cX5_breakOthers 5 none, Cond.methodLink RX5 136 yX5_linesInSet, Cond.instanceMethod yX5_linesInSet, Cond.selects RX5 yX5_linesInSet yX5_linesInSet, Cond.code yX5_linesInSet cX5_linesInSet 5 (some .int), Cond.fieldLink RX5 83 "CoreTransactionsModel" "sets" "I"]
def wsX5_step_r4 : List Cond := [Cond.methodLink RX5 139 yX5_sees, Cond.instanceMethod yX5_sees, Cond.selects RX5 yX5_sees yX5_sees, Cond.code yX5_sees cX5_sees 3 (some .int), Cond.fieldLink RX5 63 "CoreTransactionsModel" "stored" "[I", Cond.fieldLink RX5 7 "CoreTransactionsModel" "memory" "[I", Cond.methodLink RX5 158 yX5_store, Cond.instanceMethod yX5_store, Cond.selects RX5 yX5_store yX5_store, Cond.code yX5_store cX5_store 4 (some .boolean), Cond.methodLink RX5 164 yX5_begin, Cond.instanceMethod yX5_begin, Cond.selects RX5 yX5_begin yX5_begin, Cond.code yX5_begin cX5_begin 5 (some .boolean), Cond.fieldLink RX5 148 "CoreTransactionsModel" "age" "I", Cond.methodLink RX5 167 yX5_end, Cond.instanceMethod yX5_end, Cond.selects RX5 yX5_end yX5_end, Cond.code yX5_end cX5_end 2 none, Cond.methodLink RX5 151 yX5_commit, Cond.instanceMethod yX5_commit, Cond.selects RX5 yX5_commit yX5_commit, Cond.code yX5_commit cX5_commit 3 none, Cond.fieldLink RX5 66 "CoreTransactionsModel" "committed" "[I"]
def wsX5_step_r5 : List Cond := [Cond.methodLink RX5 170 yX5_abort, Cond.instanceMethod yX5_abort, Cond.selects RX5 yX5_abort yX5_abort, Cond.code yX5_abort cX5_abort 3 (some .boolean)]
def wsX5_step : List Cond := .code yX5_step cX5_step 3 (some .int) :: ((wsX5_step_r1 ++ (wsX5_step_r2 ++ (wsX5_step_r3 ++ (wsX5_step_r4 ++ wsX5_step_r5)))) ++ wsX50)
def wsX5_pick_r1 : List Cond := [Cond.fieldLink RX5 79 "CoreTransactionsModel" "cores" "I", Cond.fieldLink RX5 89 "CoreTransactionsModel" "thrown" "I", Cond.fieldLink RX5 28 "CoreTransactionsModel" "ended" "[Z", Cond.methodLink RX5 92 yX5_isIn, Cond.static yX5_isIn, Cond.initialized RX5, Cond.code yX5_isIn cX5_isIn 2 (some .boolean), Cond.methodLink RX5 176 yX5_step, Cond.instanceMethod yX5_step, Cond.selects RX5 yX5_step yX5_step, Cond.code yX5_step cX5_step 3 (some .int), Cond.fieldLink RX5 25 "CoreTransactionsModel" "places" "[I", Cond.fieldLink RX5 106 "CoreTransactionsModel" "size" "I", Cond.fieldLink RX5 161 "CoreTransactionsModel" "next" "I", Cond.fieldLink RX5 32 "CoreTransactionsModel" "retired" "[I", Cond.methodLink RX5 142 yX5_faults, Cond.instanceMethod yX5_faults, Cond.selects RX5 yX5_faults yX5_faults, Cond.code yX5_faults cX5_faults 2 (some .boolean), Cond.fieldLink RX5 38 "CoreTransactionsModel" "depths" "[I", Cond.methodLink RX5 128 yX5_breakOff, Cond.instanceMethod yX5_breakOff, Cond.selects RX5 yX5_breakOff yX5_breakOff, Cond.code yX5_breakOff cX5_breakOff 4 none]
def wsX5_pick_r2 : List Cond := [Cond.fieldLink RX5 121 "CoreTransactionsModel" "recordCount" "I", Cond.fieldLink RX5 72 "CoreTransactionsModel" "recordCells" "[I", Cond.fieldLink RX5 44 "CoreTransactionsModel" "begins" "[I", Cond.fieldLink RX5 41 "CoreTransactionsModel" "ages" "[I", Cond.fieldLink RX5 35 "CoreTransactionsModel" "registers" "[I", Cond.fieldLink RX5 50 "CoreTransactionsModel" "keptRegisters" "[I", Cond.fieldLink RX5 47 "CoreTransactionsModel" "returns" "[I", Cond.fieldLink RX5 69 "CoreTransactionsModel" "broken" "[I", Cond.methodLink RX5 109 yX5_leave, Cond.instanceMethod yX5_leave, Cond.selects RX5 yX5_leave yX5_leave, Cond.code yX5_leave cX5_leave 2 none, Cond.fieldLink RX5 53 "CoreTransactionsModel" "reads" "[I", Cond.fieldLink RX5 56 "CoreTransactionsModel" "writes" "[I", Cond.fieldLink RX5 59 "CoreTransactionsModel" "stores" "[J", Cond.methodLink RX5 173 yX5_does, Cond.instanceMethod yX5_does, Cond.selects RX5 yX5_does yX5_does, Cond.code yX5_does cX5_does 6 (some .boolean), Cond.fieldLink RX5 16 "CoreTransactionsModel" "as" "[I", Cond.fieldLink RX5 19 "CoreTransactionsModel" "bs" "[I", Cond.fieldLink RX5 22 "CoreTransactionsModel" "cs" "[I", Cond.fieldLink RX5 13 "CoreTransactionsModel" "operations" "[I", Cond.methodLink RX5 117 yX5_give]
def wsX5_pick_r3 : List Cond := [Cond.instanceMethod yX5_give, Cond.selects RX5 yX5_give yX5_give, Cond.code yX5_give cX5_give 4 none, Cond.methodLink RX5 113 yX5_get, Cond.instanceMethod yX5_get, Cond.selects RX5 yX5_get yX5_get, Cond.code yX5_get cX5_get 3 (some .int), Cond.methodLink RX5 154 yX5_load, Cond.instanceMethod yX5_load, Cond.selects RX5 yX5_load yX5_load, Cond.code yX5_load cX5_load 4 (some .boolean), Cond.methodLink RX5 145 yX5_comes, Cond.instanceMethod yX5_comes, Cond.selects RX5 yX5_comes yX5_comes, Cond.code yX5_comes cX5_comes 7 (some .boolean), Cond.fieldLink RX5 86 "CoreTransactionsModel" "ways" "I", Cond.methodLink RX5 124 yX5_meets, Cond.instanceMethod yX5_meets, Cond.selects RX5 yX5_meets yX5_meets, Cond.code yX5_meets cX5_meets 5 (some .boolean), Cond.methodLink RX5 132 yX5_breakOthers, Cond.instanceMethod yX5_breakOthers, Cond.selects RX5 yX5_breakOthers yX5_breakOthers, Cond.code yX5_breakOthers cX5_breakOthers 5 none]
def wsX5_pick_r4 : List Cond := [Cond.methodLink RX5 136 yX5_linesInSet, Cond.instanceMethod yX5_linesInSet, Cond.selects RX5 yX5_linesInSet yX5_linesInSet, Cond.code yX5_linesInSet cX5_linesInSet 5 (some .int), Cond.fieldLink RX5 83 "CoreTransactionsModel" "sets" "I", Cond.methodLink RX5 139 yX5_sees, Cond.instanceMethod yX5_sees, Cond.selects RX5 yX5_sees yX5_sees, Cond.code yX5_sees cX5_sees 3 (some .int), Cond.fieldLink RX5 63 "CoreTransactionsModel" "stored" "[I", Cond.fieldLink RX5 7 "CoreTransactionsModel" "memory" "[I", Cond.methodLink RX5 158 yX5_store, Cond.instanceMethod yX5_store, Cond.selects RX5 yX5_store yX5_store, Cond.code yX5_store cX5_store 4 (some .boolean), Cond.methodLink RX5 164 yX5_begin, Cond.instanceMethod yX5_begin, Cond.selects RX5 yX5_begin yX5_begin, Cond.code yX5_begin cX5_begin 5 (some .boolean), Cond.fieldLink RX5 148 "CoreTransactionsModel" "age" "I", Cond.methodLink RX5 167 yX5_end, Cond.instanceMethod yX5_end, Cond.selects RX5 yX5_end yX5_end, Cond.code yX5_end cX5_end 2 none]
def wsX5_pick_r5 : List Cond := [Cond.methodLink RX5 151 yX5_commit, Cond.instanceMethod yX5_commit, Cond.selects RX5 yX5_commit yX5_commit, Cond.code yX5_commit cX5_commit 3 none, Cond.fieldLink RX5 66 "CoreTransactionsModel" "committed" "[I", Cond.methodLink RX5 170 yX5_abort, Cond.instanceMethod yX5_abort, Cond.selects RX5 yX5_abort yX5_abort, Cond.code yX5_abort cX5_abort 3 (some .boolean)]
def wsX5_pick : List Cond := .code yX5_pick cX5_pick 5 (some .int) :: ((wsX5_pick_r1 ++ (wsX5_pick_r2 ++ (wsX5_pick_r3 ++ (wsX5_pick_r4 ++ wsX5_pick_r5)))) ++ wsX50)
def wsX5_run_r1 : List Cond := [Cond.fieldLink RX5 89 "CoreTransactionsModel" "thrown" "I", Cond.constant RX5 180 (1103515245), Cond.fieldLink RX5 79 "CoreTransactionsModel" "cores" "I", Cond.methodLink RX5 176 yX5_step, Cond.instanceMethod yX5_step, Cond.selects RX5 yX5_step yX5_step, Cond.initialized RX5, Cond.code yX5_step cX5_step 3 (some .int), Cond.fieldLink RX5 28 "CoreTransactionsModel" "ended" "[Z", Cond.fieldLink RX5 25 "CoreTransactionsModel" "places" "[I", Cond.fieldLink RX5 106 "CoreTransactionsModel" "size" "I", Cond.fieldLink RX5 161 "CoreTransactionsModel" "next" "I", Cond.fieldLink RX5 32 "CoreTransactionsModel" "retired" "[I", Cond.methodLink RX5 92 yX5_isIn, Cond.static yX5_isIn, Cond.code yX5_isIn cX5_isIn 2 (some .boolean), Cond.methodLink RX5 142 yX5_faults, Cond.instanceMethod yX5_faults, Cond.selects RX5 yX5_faults yX5_faults, Cond.code yX5_faults cX5_faults 2 (some .boolean), Cond.fieldLink RX5 38 "CoreTransactionsModel" "depths" "[I", Cond.methodLink RX5 128 yX5_breakOff, Cond.instanceMethod yX5_breakOff, Cond.selects RX5 yX5_breakOff yX5_breakOff]
def wsX5_run_r2 : List Cond := [Cond.code yX5_breakOff cX5_breakOff 4 none, Cond.fieldLink RX5 121 "CoreTransactionsModel" "recordCount" "I", Cond.fieldLink RX5 72 "CoreTransactionsModel" "recordCells" "[I", Cond.fieldLink RX5 44 "CoreTransactionsModel" "begins" "[I", Cond.fieldLink RX5 41 "CoreTransactionsModel" "ages" "[I", Cond.fieldLink RX5 35 "CoreTransactionsModel" "registers" "[I", Cond.fieldLink RX5 50 "CoreTransactionsModel" "keptRegisters" "[I", Cond.fieldLink RX5 47 "CoreTransactionsModel" "returns" "[I", Cond.fieldLink RX5 69 "CoreTransactionsModel" "broken" "[I", Cond.methodLink RX5 109 yX5_leave, Cond.instanceMethod yX5_leave, Cond.selects RX5 yX5_leave yX5_leave, Cond.code yX5_leave cX5_leave 2 none, Cond.fieldLink RX5 53 "CoreTransactionsModel" "reads" "[I", Cond.fieldLink RX5 56 "CoreTransactionsModel" "writes" "[I", Cond.fieldLink RX5 59 "CoreTransactionsModel" "stores" "[J", Cond.methodLink RX5 173 yX5_does, Cond.instanceMethod yX5_does, Cond.selects RX5 yX5_does yX5_does, Cond.code yX5_does cX5_does 6 (some .boolean), Cond.fieldLink RX5 16 "CoreTransactionsModel" "as" "[I", Cond.fieldLink RX5 19 "CoreTransactionsModel" "bs" "[I", Cond.fieldLink RX5 22 "CoreTransactionsModel" "cs" "[I", Cond.fieldLink RX5 13 "CoreTransactionsModel" "operations" "[I"]
def wsX5_run_r3 : List Cond := [Cond.methodLink RX5 117 yX5_give, Cond.instanceMethod yX5_give, Cond.selects RX5 yX5_give yX5_give, Cond.code yX5_give cX5_give 4 none, Cond.methodLink RX5 113 yX5_get, Cond.instanceMethod yX5_get, Cond.selects RX5 yX5_get yX5_get, Cond.code yX5_get cX5_get 3 (some .int), Cond.methodLink RX5 154 yX5_load, Cond.instanceMethod yX5_load, Cond.selects RX5 yX5_load yX5_load, Cond.code yX5_load cX5_load 4 (some .boolean), Cond.methodLink RX5 145 yX5_comes, Cond.instanceMethod yX5_comes, Cond.selects RX5 yX5_comes yX5_comes, Cond.code yX5_comes cX5_comes 7 (some .boolean), Cond.fieldLink RX5 86 "CoreTransactionsModel" "ways" "I", Cond.methodLink RX5 124 yX5_meets, Cond.instanceMethod yX5_meets, Cond.selects RX5 yX5_meets yX5_meets, Cond.code yX5_meets cX5_meets 5 (some .boolean), Cond.methodLink RX5 132 yX5_breakOthers, Cond.instanceMethod yX5_breakOthers, Cond.selects RX5 yX5_breakOthers yX5_breakOthers]
def wsX5_run_r4 : List Cond := [Cond.code yX5_breakOthers cX5_breakOthers 5 none, Cond.methodLink RX5 136 yX5_linesInSet, Cond.instanceMethod yX5_linesInSet, Cond.selects RX5 yX5_linesInSet yX5_linesInSet, Cond.code yX5_linesInSet cX5_linesInSet 5 (some .int), Cond.fieldLink RX5 83 "CoreTransactionsModel" "sets" "I", Cond.methodLink RX5 139 yX5_sees, Cond.instanceMethod yX5_sees, Cond.selects RX5 yX5_sees yX5_sees, Cond.code yX5_sees cX5_sees 3 (some .int), Cond.fieldLink RX5 63 "CoreTransactionsModel" "stored" "[I", Cond.fieldLink RX5 7 "CoreTransactionsModel" "memory" "[I", Cond.methodLink RX5 158 yX5_store, Cond.instanceMethod yX5_store, Cond.selects RX5 yX5_store yX5_store, Cond.code yX5_store cX5_store 4 (some .boolean), Cond.methodLink RX5 164 yX5_begin, Cond.instanceMethod yX5_begin, Cond.selects RX5 yX5_begin yX5_begin, Cond.code yX5_begin cX5_begin 5 (some .boolean), Cond.fieldLink RX5 148 "CoreTransactionsModel" "age" "I", Cond.methodLink RX5 167 yX5_end, Cond.instanceMethod yX5_end, Cond.selects RX5 yX5_end yX5_end]
def wsX5_run_r5 : List Cond := [Cond.code yX5_end cX5_end 2 none, Cond.methodLink RX5 151 yX5_commit, Cond.instanceMethod yX5_commit, Cond.selects RX5 yX5_commit yX5_commit, Cond.code yX5_commit cX5_commit 3 none, Cond.fieldLink RX5 66 "CoreTransactionsModel" "committed" "[I", Cond.methodLink RX5 170 yX5_abort, Cond.instanceMethod yX5_abort, Cond.selects RX5 yX5_abort yX5_abort, Cond.code yX5_abort cX5_abort 3 (some .boolean)]
def wsX5_run : List Cond := .code yX5_run cX5_run 6 (some .int) :: ((wsX5_run_r1 ++ (wsX5_run_r2 ++ (wsX5_run_r3 ++ (wsX5_run_r4 ++ wsX5_run_r5)))) ++ wsX50)
def wsX5_register : List Cond := .code yX5_register cX5_register 3 (some .int) :: ([.fieldLink RX5 79 "CoreTransactionsModel" "cores" "I", .fieldLink RX5 89 "CoreTransactionsModel" "thrown" "I", .methodLink RX5 92 yX5_isIn, .static yX5_isIn, .initialized RX5, .code yX5_isIn cX5_isIn 2 (some .boolean), .methodLink RX5 113 yX5_get, .instanceMethod yX5_get, .selects RX5 yX5_get yX5_get, .code yX5_get cX5_get 3 (some .int), .fieldLink RX5 35 "CoreTransactionsModel" "registers" "[I"] ++ wsX50)
def wsX5_word : List Cond := .code yX5_word cX5_word 2 (some .int) :: ([.fieldLink RX5 89 "CoreTransactionsModel" "thrown" "I", .fieldLink RX5 7 "CoreTransactionsModel" "memory" "[I", .methodLink RX5 92 yX5_isIn, .static yX5_isIn, .initialized RX5, .code yX5_isIn cX5_isIn 2 (some .boolean)] ++ wsX50)
def wsX5_seen : List Cond := .code yX5_seen cX5_seen 3 (some .int) :: ([.fieldLink RX5 79 "CoreTransactionsModel" "cores" "I", .fieldLink RX5 89 "CoreTransactionsModel" "thrown" "I", .methodLink RX5 92 yX5_isIn, .static yX5_isIn, .initialized RX5, .code yX5_isIn cX5_isIn 2 (some .boolean), .methodLink RX5 139 yX5_sees, .instanceMethod yX5_sees, .selects RX5 yX5_sees yX5_sees, .code yX5_sees cX5_sees 3 (some .int), .fieldLink RX5 59 "CoreTransactionsModel" "stores" "[J", .fieldLink RX5 63 "CoreTransactionsModel" "stored" "[I", .fieldLink RX5 7 "CoreTransactionsModel" "memory" "[I"] ++ wsX50)
def wsX5_bits : List Cond := .code yX5_bits cX5_bits 4 (some .int) :: ([])
def wsX5_told : List Cond := .code yX5_told cX5_told 3 (some .int) :: ([.fieldLink RX5 79 "CoreTransactionsModel" "cores" "I", .fieldLink RX5 89 "CoreTransactionsModel" "thrown" "I", .fieldLink RX5 25 "CoreTransactionsModel" "places" "[I", .fieldLink RX5 28 "CoreTransactionsModel" "ended" "[Z", .fieldLink RX5 32 "CoreTransactionsModel" "retired" "[I", .fieldLink RX5 38 "CoreTransactionsModel" "depths" "[I", .fieldLink RX5 41 "CoreTransactionsModel" "ages" "[I", .fieldLink RX5 53 "CoreTransactionsModel" "reads" "[I", .fieldLink RX5 56 "CoreTransactionsModel" "writes" "[I", .fieldLink RX5 59 "CoreTransactionsModel" "stores" "[J", .fieldLink RX5 66 "CoreTransactionsModel" "committed" "[I", .fieldLink RX5 69 "CoreTransactionsModel" "broken" "[I", .methodLink RX5 92 yX5_isIn, .static yX5_isIn, .initialized RX5, .code yX5_isIn cX5_isIn 2 (some .boolean), .methodLink RX5 181 yX5_bits, .static yX5_bits, .code yX5_bits cX5_bits 4 (some .int)] ++ wsX50)
def wsX5_records : List Cond := .code yX5_records cX5_records 1 (some .int) :: ([.fieldLink RX5 89 "CoreTransactionsModel" "thrown" "I", .fieldLink RX5 121 "CoreTransactionsModel" "recordCount" "I"] ++ wsX50)
def wsX5_record : List Cond := .code yX5_record cX5_record 3 (some .int) :: ([.fieldLink RX5 121 "CoreTransactionsModel" "recordCount" "I", .fieldLink RX5 89 "CoreTransactionsModel" "thrown" "I", .fieldLink RX5 72 "CoreTransactionsModel" "recordCells" "[I", .methodLink RX5 92 yX5_isIn, .static yX5_isIn, .initialized RX5, .code yX5_isIn cX5_isIn 2 (some .boolean)] ++ wsX50)
def wsX5_clear : List Cond := .code yX5_clear cX5_clear 2 none :: ([.fieldLink RX5 89 "CoreTransactionsModel" "thrown" "I", .fieldLink RX5 106 "CoreTransactionsModel" "size" "I", .fieldLink RX5 148 "CoreTransactionsModel" "age" "I", .fieldLink RX5 121 "CoreTransactionsModel" "recordCount" "I", .fieldLink RX5 7 "CoreTransactionsModel" "memory" "[I", .fieldLink RX5 25 "CoreTransactionsModel" "places" "[I", .fieldLink RX5 28 "CoreTransactionsModel" "ended" "[Z", .fieldLink RX5 32 "CoreTransactionsModel" "retired" "[I", .fieldLink RX5 66 "CoreTransactionsModel" "committed" "[I", .fieldLink RX5 69 "CoreTransactionsModel" "broken" "[I", .fieldLink RX5 35 "CoreTransactionsModel" "registers" "[I", .methodLink RX5 109 yX5_leave, .instanceMethod yX5_leave, .selects RX5 yX5_leave yX5_leave, .initialized RX5, .code yX5_leave cX5_leave 2 none, .fieldLink RX5 38 "CoreTransactionsModel" "depths" "[I", .fieldLink RX5 41 "CoreTransactionsModel" "ages" "[I", .fieldLink RX5 53 "CoreTransactionsModel" "reads" "[I", .fieldLink RX5 56 "CoreTransactionsModel" "writes" "[I", .fieldLink RX5 59 "CoreTransactionsModel" "stores" "[J"] ++ wsX50)
def wsJ9_max_7cf53 : List Cond := .code yJ9_max_7cf53 cJ9_max_7cf53 2 (some .int) :: ([])
def wsJ9_min_7cf53 : List Cond := .code yJ9_min_7cf53 cJ9_min_7cf53 2 (some .int) :: ([])
def wsL_cell : List Cond := .code yL_cell cL_cell 2 (some .int) :: ([])
def wsL_instruction_r1 : List Cond := [Cond.classLink RL 13 "java/lang/IllegalArgumentException", Cond.classLink RL 15 "java/lang/UnsupportedOperationException", Cond.methodLink RL 7 yX4_instruction, Cond.instanceMethod yX4_instruction, Cond.selects RX4 yX4_instruction yX4_instruction, Cond.initialized RX4, Cond.code yX4_instruction cX4_instruction 5 (some .int), Cond.classLink RX4 51 "java/lang/IllegalArgumentException", Cond.initialized "java/lang/IllegalArgumentException", Cond.classLink RX4 57 "java/lang/UnsupportedOperationException", Cond.initialized "java/lang/UnsupportedOperationException", Cond.fieldLink RX4 16 "CoreTransactions" "program" "LCoreTransactions$Program;", Cond.fieldLink RX4 54 "CoreTransactions$Program" "length" "I", Cond.methodLink RX4 47 yX4_namesRegisters, Cond.static yX4_namesRegisters, Cond.code yX4_namesRegisters cX4_namesRegisters 7 (some .boolean), Cond.methodLink RX4 87 yX4_isRegister, Cond.static yX4_isRegister, Cond.code yX4_isRegister cX4_isRegister 1 (some .boolean), Cond.methodLink RX4 60 yX1_append, Cond.instanceMethod yX1_append, Cond.selects RX1 yX1_append yX1_append, Cond.initialized RX1, Cond.code yX1_append cX1_append 6 (some .int)]
def wsL_instruction_r2 : List Cond := [Cond.fieldLink RX1 24 "CoreTransactions$Program" "length" "I", Cond.fieldLink RX1 9 "CoreTransactions$Program" "operations" "[I", Cond.fieldLink RX1 15 "CoreTransactions$Program" "a" "[I", Cond.fieldLink RX1 18 "CoreTransactions$Program" "b" "[I", Cond.fieldLink RX1 21 "CoreTransactions$Program" "c" "[I"]
def wsL_instruction : List Cond := .codeWith yL_instruction cL_instruction 7 (some .int) [(0, 14, 17, 13), (0, 14, 21, 15)] :: ((wsL_instruction_r1 ++ wsL_instruction_r2) ++ wsX40 ++ wsX10 ++ (vx_at0 RX4 53 "java/lang/IllegalArgumentException" ["java/lang/RuntimeException", "java/lang/Exception"]).filter goodWord ++ (vx_at0 RX4 59 "java/lang/UnsupportedOperationException" ["java/lang/RuntimeException", "java/lang/Exception"]).filter goodWord)
def wsL_start_r1 : List Cond := [Cond.classLink RL 21 "java/lang/IndexOutOfBoundsException", Cond.classLink RL 13 "java/lang/IllegalArgumentException", Cond.methodLink RL 17 yX4_start, Cond.instanceMethod yX4_start, Cond.selects RX4 yX4_start yX4_start, Cond.initialized RX4, Cond.code yX4_start cX4_start 5 (some .int), Cond.classLink RX4 68 "java/lang/IndexOutOfBoundsException", Cond.initialized "java/lang/IndexOutOfBoundsException", Cond.classLink RX4 51 "java/lang/IllegalArgumentException", Cond.initialized "java/lang/IllegalArgumentException", Cond.fieldLink RX4 40 "CoreTransactions" "cores" "[LCoreTransactions$Core;", Cond.fieldLink RX4 71 "CoreTransactions$Core" "place" "I", Cond.fieldLink RX4 74 "CoreTransactions$Core" "transaction" "LCoreTransactions$Transaction;", Cond.fieldLink RX4 83 "CoreTransactions$Core" "ended" "Z", Cond.methodLink RX4 64 yX4_isCore, Cond.instanceMethod yX4_isCore, Cond.selects RX4 yX4_isCore yX4_isCore, Cond.code yX4_isCore cX4_isCore 2 (some .boolean), Cond.methodLink RX4 78 yX3_close, Cond.instanceMethod yX3_close, Cond.selects RX3 yX3_close yX3_close, Cond.initialized RX3, Cond.code yX3_close cX3_close 1 none]
def wsL_start_r2 : List Cond := [Cond.fieldLink RX3 34 "CoreTransactions$Transaction" "depth" "I", Cond.fieldLink RX3 18 "CoreTransactions$Transaction" "age" "I", Cond.fieldLink RX3 37 "CoreTransactions$Transaction" "linesRead" "I", Cond.fieldLink RX3 40 "CoreTransactions$Transaction" "linesWritten" "I", Cond.fieldLink RX3 43 "CoreTransactions$Transaction" "stored" "J"]
def wsL_start : List Cond := .codeWith yL_start cL_start 5 (some .int) [(0, 10, 13, 21), (0, 10, 17, 13)] :: ((wsL_start_r1 ++ wsL_start_r2) ++ wsX40 ++ wsX00 ++ wsX30 ++ (vx_at0 RX4 70 "java/lang/IndexOutOfBoundsException" ["java/lang/RuntimeException", "java/lang/Exception"]).filter goodWord ++ (vx_at0 RX4 53 "java/lang/IllegalArgumentException" ["java/lang/RuntimeException", "java/lang/Exception"]).filter goodWord)
def wsL_set : List Cond := .codeWith yL_set cL_set 6 (some .int) [(0, 12, 15, 21)] :: ([.classLink RL 21 "java/lang/IndexOutOfBoundsException", .methodLink RL 23 yX4_set, .instanceMethod yX4_set, .selects RX4 yX4_set yX4_set, .initialized RX4, .code yX4_set cX4_set 5 (some .int), .classLink RX4 68 "java/lang/IndexOutOfBoundsException", .initialized "java/lang/IndexOutOfBoundsException", .fieldLink RX4 40 "CoreTransactions" "cores" "[LCoreTransactions$Core;", .fieldLink RX4 90 "CoreTransactions$Core" "registers" "[I", .methodLink RX4 64 yX4_isCore, .instanceMethod yX4_isCore, .selects RX4 yX4_isCore yX4_isCore, .code yX4_isCore cX4_isCore 2 (some .boolean), .methodLink RX4 87 yX4_isRegister, .static yX4_isRegister, .code yX4_isRegister cX4_isRegister 1 (some .boolean), .methodLink RX4 93 yX0_put, .instanceMethod yX0_put, .selects RX0 yX0_put yX0_put, .initialized RX0, .code yX0_put cX0_put 3 none, .fieldLink RX0 9 "CoreTransactions$Core" "registers" "[I"] ++ wsX40 ++ wsX00 ++ (vx_at0 RX4 70 "java/lang/IndexOutOfBoundsException" ["java/lang/RuntimeException", "java/lang/Exception"]).filter goodWord)
def wsL_poke_r1 : List Cond := [Cond.classLink RL 21 "java/lang/IndexOutOfBoundsException", Cond.methodLink RL 27 yX4_poke, Cond.instanceMethod yX4_poke, Cond.selects RX4 yX4_poke yX4_poke, Cond.initialized RX4, Cond.code yX4_poke cX4_poke 4 (some .int), Cond.classLink RX4 68 "java/lang/IndexOutOfBoundsException", Cond.initialized "java/lang/IndexOutOfBoundsException", Cond.fieldLink RX4 9 "CoreTransactions" "memory" "[I", Cond.methodLink RX4 97 yX4_isWord, Cond.static yX4_isWord, Cond.code yX4_isWord cX4_isWord 1 (some .boolean), Cond.methodLink RX4 100 yX4_breakOffAll, Cond.instanceMethod yX4_breakOffAll, Cond.selects RX4 yX4_breakOffAll yX4_breakOffAll, Cond.code yX4_breakOffAll cX4_breakOffAll 5 none, Cond.fieldLink RX4 40 "CoreTransactions" "cores" "[LCoreTransactions$Core;", Cond.fieldLink RX4 74 "CoreTransactions$Core" "transaction" "LCoreTransactions$Transaction;", Cond.methodLink RX4 220 yX3_touches, Cond.instanceMethod yX3_touches, Cond.selects RX3 yX3_touches yX3_touches, Cond.initialized RX3, Cond.code yX3_touches cX3_touches 4 (some .boolean), Cond.fieldLink RX3 37 "CoreTransactions$Transaction" "linesRead" "I"]
def wsL_poke_r2 : List Cond := [Cond.fieldLink RX3 40 "CoreTransactions$Transaction" "linesWritten" "I", Cond.methodLink RX4 189 yX4_breakOff, Cond.instanceMethod yX4_breakOff, Cond.selects RX4 yX4_breakOff yX4_breakOff, Cond.code yX4_breakOff cX4_breakOff 4 none, Cond.fieldLink RX4 23 "CoreTransactions" "broken" "LCoreTransactions$Records;", Cond.fieldLink RX4 210 "CoreTransactions$Core" "number" "I", Cond.fieldLink RX4 227 "CoreTransactions$Transaction" "beginPlace" "I", Cond.fieldLink RX4 224 "CoreTransactions$Transaction" "age" "I", Cond.fieldLink RX4 234 "CoreTransactions$Transaction" "keptRegisters" "[I", Cond.fieldLink RX4 90 "CoreTransactions$Core" "registers" "[I", Cond.methodLink RX4 237 arraycopyName, Cond.native arraycopyName, Cond.static arraycopyName, Cond.initialized "java/lang/System", Cond.fieldLink RX4 243 "CoreTransactions$Transaction" "keptPlace" "I", Cond.fieldLink RX4 71 "CoreTransactions$Core" "place" "I", Cond.fieldLink RX4 246 "CoreTransactions$Core" "brokenOff" "I", Cond.methodLink RX4 230 yX2_add, Cond.instanceMethod yX2_add, Cond.selects RX2 yX2_add yX2_add, Cond.initialized RX2, Cond.code yX2_add cX2_add 6 none, Cond.fieldLink RX2 15 "CoreTransactions$Records" "oldest" "I"]
def wsL_poke_r3 : List Cond := [Cond.fieldLink RX2 19 "CoreTransactions$Records" "count" "I", Cond.fieldLink RX2 9 "CoreTransactions$Records" "fields" "[I", Cond.methodLink RX4 93 yX0_put, Cond.instanceMethod yX0_put, Cond.selects RX0 yX0_put yX0_put, Cond.initialized RX0, Cond.code yX0_put cX0_put 3 none, Cond.fieldLink RX0 9 "CoreTransactions$Core" "registers" "[I", Cond.methodLink RX4 78 yX3_close, Cond.instanceMethod yX3_close, Cond.selects RX3 yX3_close yX3_close, Cond.code yX3_close cX3_close 1 none, Cond.fieldLink RX3 34 "CoreTransactions$Transaction" "depth" "I", Cond.fieldLink RX3 18 "CoreTransactions$Transaction" "age" "I", Cond.fieldLink RX3 43 "CoreTransactions$Transaction" "stored" "J"]
def wsL_poke : List Cond := .codeWith yL_poke cL_poke 5 (some .int) [(0, 10, 13, 21)] :: ((wsL_poke_r1 ++ (wsL_poke_r2 ++ wsL_poke_r3)) ++ wsX40 ++ wsX00 ++ wsX30 ++ wsX20 ++ (vx_at0 RX4 70 "java/lang/IndexOutOfBoundsException" ["java/lang/RuntimeException", "java/lang/Exception"]).filter goodWord)
def wsL_pick_r1 : List Cond := [Cond.classLink RL 21 "java/lang/IndexOutOfBoundsException", Cond.classLink RL 13 "java/lang/IllegalArgumentException", Cond.methodLink RL 30 yX4_pick, Cond.instanceMethod yX4_pick, Cond.selects RX4 yX4_pick yX4_pick, Cond.initialized RX4, Cond.code yX4_pick cX4_pick 5 (some .int), Cond.classLink RX4 68 "java/lang/IndexOutOfBoundsException", Cond.initialized "java/lang/IndexOutOfBoundsException", Cond.classLink RX4 51 "java/lang/IllegalArgumentException", Cond.initialized "java/lang/IllegalArgumentException", Cond.fieldLink RX4 40 "CoreTransactions" "cores" "[LCoreTransactions$Core;", Cond.fieldLink RX4 83 "CoreTransactions$Core" "ended" "Z", Cond.methodLink RX4 64 yX4_isCore, Cond.instanceMethod yX4_isCore, Cond.selects RX4 yX4_isCore yX4_isCore, Cond.code yX4_isCore cX4_isCore 2 (some .boolean), Cond.methodLink RX4 104 yX4_isManyPicks, Cond.static yX4_isManyPicks, Cond.code yX4_isManyPicks cX4_isManyPicks 1 (some .boolean), Cond.methodLink RX4 107 yX4_step, Cond.instanceMethod yX4_step, Cond.selects RX4 yX4_step yX4_step, Cond.code yX4_step cX4_step 3 (some .int)]
def wsL_pick_r2 : List Cond := [Cond.fieldLink RX4 71 "CoreTransactions$Core" "place" "I", Cond.fieldLink RX4 16 "CoreTransactions" "program" "LCoreTransactions$Program;", Cond.fieldLink RX4 54 "CoreTransactions$Program" "length" "I", Cond.fieldLink RX4 151 "CoreTransactions$Core" "retired" "I", Cond.methodLink RX4 143 yX4_fault, Cond.instanceMethod yX4_fault, Cond.selects RX4 yX4_fault yX4_fault, Cond.code yX4_fault cX4_fault 2 none, Cond.fieldLink RX4 74 "CoreTransactions$Core" "transaction" "LCoreTransactions$Transaction;", Cond.fieldLink RX4 186 "CoreTransactions$Transaction" "depth" "I", Cond.methodLink RX4 189 yX4_breakOff, Cond.instanceMethod yX4_breakOff, Cond.selects RX4 yX4_breakOff yX4_breakOff, Cond.code yX4_breakOff cX4_breakOff 4 none, Cond.fieldLink RX4 23 "CoreTransactions" "broken" "LCoreTransactions$Records;", Cond.fieldLink RX4 210 "CoreTransactions$Core" "number" "I", Cond.fieldLink RX4 227 "CoreTransactions$Transaction" "beginPlace" "I", Cond.fieldLink RX4 224 "CoreTransactions$Transaction" "age" "I", Cond.fieldLink RX4 234 "CoreTransactions$Transaction" "keptRegisters" "[I", Cond.fieldLink RX4 90 "CoreTransactions$Core" "registers" "[I", Cond.methodLink RX4 237 arraycopyName, Cond.native arraycopyName, Cond.static arraycopyName, Cond.initialized "java/lang/System"]
def wsL_pick_r3 : List Cond := [Cond.fieldLink RX4 243 "CoreTransactions$Transaction" "keptPlace" "I", Cond.fieldLink RX4 246 "CoreTransactions$Core" "brokenOff" "I", Cond.methodLink RX4 230 yX2_add, Cond.instanceMethod yX2_add, Cond.selects RX2 yX2_add yX2_add, Cond.initialized RX2, Cond.code yX2_add cX2_add 6 none, Cond.fieldLink RX2 15 "CoreTransactions$Records" "oldest" "I", Cond.fieldLink RX2 19 "CoreTransactions$Records" "count" "I", Cond.fieldLink RX2 9 "CoreTransactions$Records" "fields" "[I", Cond.methodLink RX4 93 yX0_put, Cond.instanceMethod yX0_put, Cond.selects RX0 yX0_put yX0_put, Cond.initialized RX0, Cond.code yX0_put cX0_put 3 none, Cond.fieldLink RX0 9 "CoreTransactions$Core" "registers" "[I", Cond.methodLink RX4 78 yX3_close, Cond.instanceMethod yX3_close, Cond.selects RX3 yX3_close yX3_close, Cond.initialized RX3, Cond.code yX3_close cX3_close 1 none, Cond.fieldLink RX3 34 "CoreTransactions$Transaction" "depth" "I", Cond.fieldLink RX3 18 "CoreTransactions$Transaction" "age" "I", Cond.fieldLink RX3 37 "CoreTransactions$Transaction" "linesRead" "I"]
def wsL_pick_r4 : List Cond := [Cond.fieldLink RX3 40 "CoreTransactions$Transaction" "linesWritten" "I", Cond.fieldLink RX3 43 "CoreTransactions$Transaction" "stored" "J", Cond.methodLink RX4 147 yX4_execute, Cond.instanceMethod yX4_execute, Cond.selects RX4 yX4_execute yX4_execute, Cond.code yX4_execute cX4_execute 8 (some .boolean), Cond.fieldLink RX4 154 "CoreTransactions$Program" "a" "[I", Cond.fieldLink RX4 157 "CoreTransactions$Program" "b" "[I", Cond.fieldLink RX4 160 "CoreTransactions$Program" "c" "[I", Cond.fieldLink RX4 163 "CoreTransactions$Program" "operations" "[I", Cond.methodLink RX4 166 yX4_mayAccess, Cond.instanceMethod yX4_mayAccess, Cond.selects RX4 yX4_mayAccess yX4_mayAccess, Cond.code yX4_mayAccess cX4_mayAccess 5 (some .boolean), Cond.fieldLink RX4 31 "CoreTransactions" "sets" "I", Cond.fieldLink RX4 35 "CoreTransactions" "ways" "I", Cond.methodLink RX4 97 yX4_isWord, Cond.static yX4_isWord, Cond.code yX4_isWord cX4_isWord 1 (some .boolean), Cond.methodLink RX4 207 yX4_meetsOlder, Cond.instanceMethod yX4_meetsOlder, Cond.selects RX4 yX4_meetsOlder yX4_meetsOlder, Cond.code yX4_meetsOlder cX4_meetsOlder 6 (some .boolean), Cond.methodLink RX4 220 yX3_touches]
def wsL_pick_r5 : List Cond := [Cond.instanceMethod yX3_touches, Cond.selects RX3 yX3_touches yX3_touches, Cond.code yX3_touches cX3_touches 4 (some .boolean), Cond.methodLink RX4 100 yX4_breakOffAll, Cond.instanceMethod yX4_breakOffAll, Cond.selects RX4 yX4_breakOffAll yX4_breakOffAll, Cond.code yX4_breakOffAll cX4_breakOffAll 5 none, Cond.methodLink RX4 213 yX3_mark, Cond.instanceMethod yX3_mark, Cond.selects RX3 yX3_mark yX3_mark, Cond.code yX3_mark cX3_mark 3 none, Cond.methodLink RX4 217 yX3_linesInSet, Cond.instanceMethod yX3_linesInSet, Cond.selects RX3 yX3_linesInSet yX3_linesInSet, Cond.code yX3_linesInSet cX3_linesInSet 5 (some .int), Cond.methodLink RX4 112 yX4_wordSeenBy, Cond.instanceMethod yX4_wordSeenBy, Cond.selects RX4 yX4_wordSeenBy yX4_wordSeenBy, Cond.code yX4_wordSeenBy cX4_wordSeenBy 3 (some .int), Cond.fieldLink RX4 252 "CoreTransactions$Transaction" "storedWords" "[I", Cond.fieldLink RX4 9 "CoreTransactions" "memory" "[I", Cond.methodLink RX4 249 yX3_hasStored, Cond.instanceMethod yX3_hasStored, Cond.selects RX3 yX3_hasStored yX3_hasStored]
def wsL_pick_r6 : List Cond := [Cond.code yX3_hasStored cX3_hasStored 2 (some .boolean), Cond.methodLink RX4 170 yX4_write, Cond.instanceMethod yX4_write, Cond.selects RX4 yX4_write yX4_write, Cond.code yX4_write cX4_write 4 none, Cond.methodLink RX4 204 yX3_keep, Cond.instanceMethod yX3_keep, Cond.selects RX3 yX3_keep yX3_keep, Cond.code yX3_keep cX3_keep 3 none, Cond.fieldLink RX3 15 "CoreTransactions$Transaction" "storedWords" "[I", Cond.methodLink RX4 174 yX4_executeTransactional, Cond.instanceMethod yX4_executeTransactional, Cond.selects RX4 yX4_executeTransactional yX4_executeTransactional, Cond.code yX4_executeTransactional cX4_executeTransactional 3 (some .boolean), Cond.methodLink RX4 177 yX4_begin, Cond.instanceMethod yX4_begin, Cond.selects RX4 yX4_begin yX4_begin, Cond.code yX4_begin cX4_begin 4 (some .boolean), Cond.fieldLink RX4 132 "CoreTransactions" "lastAge" "I", Cond.methodLink RX4 193 yX3_open, Cond.instanceMethod yX3_open, Cond.selects RX3 yX3_open yX3_open, Cond.code yX3_open cX3_open 5 none, Cond.fieldLink RX3 22 "CoreTransactions$Transaction" "beginPlace" "I"]
def wsL_pick_r7 : List Cond := [Cond.fieldLink RX3 25 "CoreTransactions$Transaction" "keptPlace" "I", Cond.fieldLink RX3 9 "CoreTransactions$Transaction" "keptRegisters" "[I", Cond.methodLink RX3 28 arraycopyName, Cond.methodLink RX4 180 yX4_end, Cond.instanceMethod yX4_end, Cond.selects RX4 yX4_end yX4_end, Cond.code yX4_end cX4_end 3 none, Cond.fieldLink RX4 201 "CoreTransactions$Core" "committed" "I", Cond.methodLink RX4 197 yX3_writeTo, Cond.instanceMethod yX3_writeTo, Cond.selects RX3 yX3_writeTo yX3_writeTo, Cond.code yX3_writeTo cX3_writeTo 3 none, Cond.methodLink RX3 47 yX3_hasStored, Cond.methodLink RX4 183 yX4_breaksOff, Cond.instanceMethod yX4_breaksOff, Cond.selects RX4 yX4_breaksOff yX4_breaksOff, Cond.code yX4_breaksOff cX4_breaksOff 3 (some .boolean)]
def wsL_pick : List Cond := .codeWith yL_pick cL_pick 5 (some .int) [(0, 10, 13, 21), (0, 10, 17, 13)] :: ((wsL_pick_r1 ++ (wsL_pick_r2 ++ (wsL_pick_r3 ++ (wsL_pick_r4 ++ (wsL_pick_r5 ++ (wsL_pick_r6 ++ wsL_pick_r7)))))) ++ wsX40 ++ wsX00 ++ wsX10 ++ wsX30 ++ wsX20 ++ (vx_at0 RX4 70 "java/lang/IndexOutOfBoundsException" ["java/lang/RuntimeException", "java/lang/Exception"]).filter goodWord ++ (vx_at0 RX4 53 "java/lang/IllegalArgumentException" ["java/lang/RuntimeException", "java/lang/Exception"]).filter goodWord)
def wsL_run_r1 : List Cond := [Cond.classLink RL 13 "java/lang/IllegalArgumentException", Cond.methodLink RL 33 yX4_run, Cond.instanceMethod yX4_run, Cond.selects RX4 yX4_run yX4_run, Cond.initialized RX4, Cond.code yX4_run cX4_run 6 (some .int), Cond.classLink RX4 51 "java/lang/IllegalArgumentException", Cond.initialized "java/lang/IllegalArgumentException", Cond.constant RX4 111 (1103515245), Cond.fieldLink RX4 40 "CoreTransactions" "cores" "[LCoreTransactions$Core;", Cond.methodLink RX4 104 yX4_isManyPicks, Cond.static yX4_isManyPicks, Cond.code yX4_isManyPicks cX4_isManyPicks 1 (some .boolean), Cond.methodLink RX4 107 yX4_step, Cond.instanceMethod yX4_step, Cond.selects RX4 yX4_step yX4_step, Cond.code yX4_step cX4_step 3 (some .int), Cond.fieldLink RX4 83 "CoreTransactions$Core" "ended" "Z", Cond.fieldLink RX4 71 "CoreTransactions$Core" "place" "I", Cond.fieldLink RX4 16 "CoreTransactions" "program" "LCoreTransactions$Program;", Cond.fieldLink RX4 54 "CoreTransactions$Program" "length" "I", Cond.fieldLink RX4 151 "CoreTransactions$Core" "retired" "I", Cond.methodLink RX4 143 yX4_fault, Cond.instanceMethod yX4_fault]
def wsL_run_r2 : List Cond := [Cond.selects RX4 yX4_fault yX4_fault, Cond.code yX4_fault cX4_fault 2 none, Cond.fieldLink RX4 74 "CoreTransactions$Core" "transaction" "LCoreTransactions$Transaction;", Cond.fieldLink RX4 186 "CoreTransactions$Transaction" "depth" "I", Cond.methodLink RX4 189 yX4_breakOff, Cond.instanceMethod yX4_breakOff, Cond.selects RX4 yX4_breakOff yX4_breakOff, Cond.code yX4_breakOff cX4_breakOff 4 none, Cond.fieldLink RX4 23 "CoreTransactions" "broken" "LCoreTransactions$Records;", Cond.fieldLink RX4 210 "CoreTransactions$Core" "number" "I", Cond.fieldLink RX4 227 "CoreTransactions$Transaction" "beginPlace" "I", Cond.fieldLink RX4 224 "CoreTransactions$Transaction" "age" "I", Cond.fieldLink RX4 234 "CoreTransactions$Transaction" "keptRegisters" "[I", Cond.fieldLink RX4 90 "CoreTransactions$Core" "registers" "[I", Cond.methodLink RX4 237 arraycopyName, Cond.native arraycopyName, Cond.static arraycopyName, Cond.initialized "java/lang/System", Cond.fieldLink RX4 243 "CoreTransactions$Transaction" "keptPlace" "I", Cond.fieldLink RX4 246 "CoreTransactions$Core" "brokenOff" "I", Cond.methodLink RX4 230 yX2_add, Cond.instanceMethod yX2_add, Cond.selects RX2 yX2_add yX2_add, Cond.initialized RX2]
def wsL_run_r3 : List Cond := [Cond.code yX2_add cX2_add 6 none, Cond.fieldLink RX2 15 "CoreTransactions$Records" "oldest" "I", Cond.fieldLink RX2 19 "CoreTransactions$Records" "count" "I", Cond.fieldLink RX2 9 "CoreTransactions$Records" "fields" "[I", Cond.methodLink RX4 93 yX0_put, Cond.instanceMethod yX0_put, Cond.selects RX0 yX0_put yX0_put, Cond.initialized RX0, Cond.code yX0_put cX0_put 3 none, Cond.fieldLink RX0 9 "CoreTransactions$Core" "registers" "[I", Cond.methodLink RX4 78 yX3_close, Cond.instanceMethod yX3_close, Cond.selects RX3 yX3_close yX3_close, Cond.initialized RX3, Cond.code yX3_close cX3_close 1 none, Cond.fieldLink RX3 34 "CoreTransactions$Transaction" "depth" "I", Cond.fieldLink RX3 18 "CoreTransactions$Transaction" "age" "I", Cond.fieldLink RX3 37 "CoreTransactions$Transaction" "linesRead" "I", Cond.fieldLink RX3 40 "CoreTransactions$Transaction" "linesWritten" "I", Cond.fieldLink RX3 43 "CoreTransactions$Transaction" "stored" "J", Cond.methodLink RX4 147 yX4_execute, Cond.instanceMethod yX4_execute, Cond.selects RX4 yX4_execute yX4_execute, Cond.code yX4_execute cX4_execute 8 (some .boolean)]
def wsL_run_r4 : List Cond := [Cond.fieldLink RX4 154 "CoreTransactions$Program" "a" "[I", Cond.fieldLink RX4 157 "CoreTransactions$Program" "b" "[I", Cond.fieldLink RX4 160 "CoreTransactions$Program" "c" "[I", Cond.fieldLink RX4 163 "CoreTransactions$Program" "operations" "[I", Cond.methodLink RX4 166 yX4_mayAccess, Cond.instanceMethod yX4_mayAccess, Cond.selects RX4 yX4_mayAccess yX4_mayAccess, Cond.code yX4_mayAccess cX4_mayAccess 5 (some .boolean), Cond.fieldLink RX4 31 "CoreTransactions" "sets" "I", Cond.fieldLink RX4 35 "CoreTransactions" "ways" "I", Cond.methodLink RX4 97 yX4_isWord, Cond.static yX4_isWord, Cond.code yX4_isWord cX4_isWord 1 (some .boolean), Cond.methodLink RX4 207 yX4_meetsOlder, Cond.instanceMethod yX4_meetsOlder, Cond.selects RX4 yX4_meetsOlder yX4_meetsOlder, Cond.code yX4_meetsOlder cX4_meetsOlder 6 (some .boolean), Cond.methodLink RX4 220 yX3_touches, Cond.instanceMethod yX3_touches, Cond.selects RX3 yX3_touches yX3_touches, Cond.code yX3_touches cX3_touches 4 (some .boolean), Cond.methodLink RX4 100 yX4_breakOffAll, Cond.instanceMethod yX4_breakOffAll, Cond.selects RX4 yX4_breakOffAll yX4_breakOffAll]
def wsL_run_r5 : List Cond := [Cond.code yX4_breakOffAll cX4_breakOffAll 5 none, Cond.methodLink RX4 213 yX3_mark, Cond.instanceMethod yX3_mark, Cond.selects RX3 yX3_mark yX3_mark, Cond.code yX3_mark cX3_mark 3 none, Cond.methodLink RX4 217 yX3_linesInSet, Cond.instanceMethod yX3_linesInSet, Cond.selects RX3 yX3_linesInSet yX3_linesInSet, Cond.code yX3_linesInSet cX3_linesInSet 5 (some .int), Cond.methodLink RX4 112 yX4_wordSeenBy, Cond.instanceMethod yX4_wordSeenBy, Cond.selects RX4 yX4_wordSeenBy yX4_wordSeenBy, Cond.code yX4_wordSeenBy cX4_wordSeenBy 3 (some .int), Cond.fieldLink RX4 252 "CoreTransactions$Transaction" "storedWords" "[I", Cond.fieldLink RX4 9 "CoreTransactions" "memory" "[I", Cond.methodLink RX4 249 yX3_hasStored, Cond.instanceMethod yX3_hasStored, Cond.selects RX3 yX3_hasStored yX3_hasStored, Cond.code yX3_hasStored cX3_hasStored 2 (some .boolean), Cond.methodLink RX4 170 yX4_write, Cond.instanceMethod yX4_write, Cond.selects RX4 yX4_write yX4_write, Cond.code yX4_write cX4_write 4 none, Cond.methodLink RX4 204 yX3_keep]
def wsL_run_r6 : List Cond := [Cond.instanceMethod yX3_keep, Cond.selects RX3 yX3_keep yX3_keep, Cond.code yX3_keep cX3_keep 3 none, Cond.fieldLink RX3 15 "CoreTransactions$Transaction" "storedWords" "[I", Cond.methodLink RX4 174 yX4_executeTransactional, Cond.instanceMethod yX4_executeTransactional, Cond.selects RX4 yX4_executeTransactional yX4_executeTransactional, Cond.code yX4_executeTransactional cX4_executeTransactional 3 (some .boolean), Cond.methodLink RX4 177 yX4_begin, Cond.instanceMethod yX4_begin, Cond.selects RX4 yX4_begin yX4_begin, Cond.code yX4_begin cX4_begin 4 (some .boolean), Cond.fieldLink RX4 132 "CoreTransactions" "lastAge" "I", Cond.methodLink RX4 193 yX3_open, Cond.instanceMethod yX3_open, Cond.selects RX3 yX3_open yX3_open, Cond.code yX3_open cX3_open 5 none, Cond.fieldLink RX3 22 "CoreTransactions$Transaction" "beginPlace" "I", Cond.fieldLink RX3 25 "CoreTransactions$Transaction" "keptPlace" "I", Cond.fieldLink RX3 9 "CoreTransactions$Transaction" "keptRegisters" "[I", Cond.methodLink RX3 28 arraycopyName, Cond.methodLink RX4 180 yX4_end, Cond.instanceMethod yX4_end, Cond.selects RX4 yX4_end yX4_end]
def wsL_run_r7 : List Cond := [Cond.code yX4_end cX4_end 3 none, Cond.fieldLink RX4 201 "CoreTransactions$Core" "committed" "I", Cond.methodLink RX4 197 yX3_writeTo, Cond.instanceMethod yX3_writeTo, Cond.selects RX3 yX3_writeTo yX3_writeTo, Cond.code yX3_writeTo cX3_writeTo 3 none, Cond.methodLink RX3 47 yX3_hasStored, Cond.methodLink RX4 183 yX4_breaksOff, Cond.instanceMethod yX4_breaksOff, Cond.selects RX4 yX4_breaksOff yX4_breaksOff, Cond.code yX4_breaksOff cX4_breaksOff 3 (some .boolean)]
def wsL_run : List Cond := .codeWith yL_run cL_run 5 (some .int) [(0, 10, 13, 13)] :: ((wsL_run_r1 ++ (wsL_run_r2 ++ (wsL_run_r3 ++ (wsL_run_r4 ++ (wsL_run_r5 ++ (wsL_run_r6 ++ wsL_run_r7)))))) ++ wsX40 ++ wsX00 ++ wsX10 ++ wsX30 ++ wsX20 ++ (vx_at0 RX4 53 "java/lang/IllegalArgumentException" ["java/lang/RuntimeException", "java/lang/Exception"]).filter goodWord)
def wsL_register : List Cond := .codeWith yL_register cL_register 5 (some .int) [(0, 10, 13, 21)] :: ([.classLink RL 21 "java/lang/IndexOutOfBoundsException", .methodLink RL 36 yX4_register, .instanceMethod yX4_register, .selects RX4 yX4_register yX4_register, .initialized RX4, .code yX4_register cX4_register 3 (some .int), .classLink RX4 68 "java/lang/IndexOutOfBoundsException", .initialized "java/lang/IndexOutOfBoundsException", .fieldLink RX4 40 "CoreTransactions" "cores" "[LCoreTransactions$Core;", .fieldLink RX4 90 "CoreTransactions$Core" "registers" "[I", .methodLink RX4 64 yX4_isCore, .instanceMethod yX4_isCore, .selects RX4 yX4_isCore yX4_isCore, .code yX4_isCore cX4_isCore 2 (some .boolean), .methodLink RX4 87 yX4_isRegister, .static yX4_isRegister, .code yX4_isRegister cX4_isRegister 1 (some .boolean)] ++ wsX40 ++ wsX00 ++ (vx_at0 RX4 70 "java/lang/IndexOutOfBoundsException" ["java/lang/RuntimeException", "java/lang/Exception"]).filter goodWord)
def wsL_word : List Cond := .codeWith yL_word cL_word 4 (some .int) [(0, 9, 12, 21)] :: ([.classLink RL 21 "java/lang/IndexOutOfBoundsException", .methodLink RL 39 yX4_word, .instanceMethod yX4_word, .selects RX4 yX4_word yX4_word, .initialized RX4, .code yX4_word cX4_word 2 (some .int), .classLink RX4 68 "java/lang/IndexOutOfBoundsException", .initialized "java/lang/IndexOutOfBoundsException", .fieldLink RX4 9 "CoreTransactions" "memory" "[I", .methodLink RX4 97 yX4_isWord, .static yX4_isWord, .code yX4_isWord cX4_isWord 1 (some .boolean)] ++ wsX40 ++ (vx_at0 RX4 70 "java/lang/IndexOutOfBoundsException" ["java/lang/RuntimeException", "java/lang/Exception"]).filter goodWord)
def wsL_seen_r1 : List Cond := [Cond.classLink RL 21 "java/lang/IndexOutOfBoundsException", Cond.methodLink RL 43 yX4_seen, Cond.instanceMethod yX4_seen, Cond.selects RX4 yX4_seen yX4_seen, Cond.initialized RX4, Cond.code yX4_seen cX4_seen 3 (some .int), Cond.classLink RX4 68 "java/lang/IndexOutOfBoundsException", Cond.initialized "java/lang/IndexOutOfBoundsException", Cond.fieldLink RX4 40 "CoreTransactions" "cores" "[LCoreTransactions$Core;", Cond.methodLink RX4 64 yX4_isCore, Cond.instanceMethod yX4_isCore, Cond.selects RX4 yX4_isCore yX4_isCore, Cond.code yX4_isCore cX4_isCore 2 (some .boolean), Cond.methodLink RX4 97 yX4_isWord, Cond.static yX4_isWord, Cond.code yX4_isWord cX4_isWord 1 (some .boolean), Cond.methodLink RX4 112 yX4_wordSeenBy, Cond.instanceMethod yX4_wordSeenBy, Cond.selects RX4 yX4_wordSeenBy yX4_wordSeenBy, Cond.code yX4_wordSeenBy cX4_wordSeenBy 3 (some .int), Cond.fieldLink RX4 74 "CoreTransactions$Core" "transaction" "LCoreTransactions$Transaction;", Cond.fieldLink RX4 252 "CoreTransactions$Transaction" "storedWords" "[I", Cond.fieldLink RX4 9 "CoreTransactions" "memory" "[I", Cond.methodLink RX4 249 yX3_hasStored]
def wsL_seen_r2 : List Cond := [Cond.instanceMethod yX3_hasStored, Cond.selects RX3 yX3_hasStored yX3_hasStored, Cond.initialized RX3, Cond.code yX3_hasStored cX3_hasStored 2 (some .boolean), Cond.fieldLink RX3 43 "CoreTransactions$Transaction" "stored" "J"]
def wsL_seen : List Cond := .codeWith yL_seen cL_seen 5 (some .int) [(0, 10, 13, 21)] :: ((wsL_seen_r1 ++ wsL_seen_r2) ++ wsX40 ++ wsX00 ++ wsX30 ++ (vx_at0 RX4 70 "java/lang/IndexOutOfBoundsException" ["java/lang/RuntimeException", "java/lang/Exception"]).filter goodWord)
def wsL_told_r1 : List Cond := [Cond.classLink RL 21 "java/lang/IndexOutOfBoundsException", Cond.classLink RL 13 "java/lang/IllegalArgumentException", Cond.methodLink RL 46 yX4_told, Cond.instanceMethod yX4_told, Cond.selects RX4 yX4_told yX4_told, Cond.initialized RX4, Cond.code yX4_told cX4_told 3 (some .int), Cond.classLink RX4 68 "java/lang/IndexOutOfBoundsException", Cond.initialized "java/lang/IndexOutOfBoundsException", Cond.classLink RX4 51 "java/lang/IllegalArgumentException", Cond.initialized "java/lang/IllegalArgumentException", Cond.fieldLink RX4 40 "CoreTransactions" "cores" "[LCoreTransactions$Core;", Cond.methodLink RX4 64 yX4_isCore, Cond.instanceMethod yX4_isCore, Cond.selects RX4 yX4_isCore yX4_isCore, Cond.code yX4_isCore cX4_isCore 2 (some .boolean), Cond.methodLink RX4 116 yX4_factOf, Cond.static yX4_factOf, Cond.code yX4_factOf cX4_factOf 3 (some .int), Cond.fieldLink RX4 74 "CoreTransactions$Core" "transaction" "LCoreTransactions$Transaction;", Cond.fieldLink RX4 71 "CoreTransactions$Core" "place" "I", Cond.fieldLink RX4 83 "CoreTransactions$Core" "ended" "Z", Cond.fieldLink RX4 151 "CoreTransactions$Core" "retired" "I", Cond.fieldLink RX4 186 "CoreTransactions$Transaction" "depth" "I"]
def wsL_told_r2 : List Cond := [Cond.fieldLink RX4 224 "CoreTransactions$Transaction" "age" "I", Cond.fieldLink RX4 255 "CoreTransactions$Transaction" "linesRead" "I", Cond.fieldLink RX4 264 "CoreTransactions$Transaction" "linesWritten" "I", Cond.fieldLink RX4 267 "CoreTransactions$Transaction" "stored" "J", Cond.fieldLink RX4 201 "CoreTransactions$Core" "committed" "I", Cond.fieldLink RX4 246 "CoreTransactions$Core" "brokenOff" "I", Cond.methodLink RX4 258 yJ6_bitCount_0f7a4, Cond.static yJ6_bitCount_0f7a4, Cond.initialized RJ6, Cond.code yJ6_bitCount_0f7a4 cJ6_bitCount_0f7a4 1 (some .int), Cond.constant RJ6 265 (1431655765), Cond.constant RJ6 266 (858993459), Cond.constant RJ6 267 (252645135), Cond.methodLink RX4 271 yJ13_bitCount_95d88, Cond.static yJ13_bitCount_95d88, Cond.initialized RJ13, Cond.code yJ13_bitCount_95d88 cJ13_bitCount_95d88 2 (some .int), Cond.constantLong RJ13 314 (6148914691236517205), Cond.constantLong RJ13 316 (3689348814741910323), Cond.constantLong RJ13 318 (1085102592571150095)]
def wsL_told : List Cond := .codeWith yL_told cL_told 5 (some .int) [(0, 10, 13, 21), (0, 10, 17, 13)] :: ((wsL_told_r1 ++ wsL_told_r2) ++ wsX40 ++ wsX00 ++ wsX30 ++ (vx_at0 RX4 70 "java/lang/IndexOutOfBoundsException" ["java/lang/RuntimeException", "java/lang/Exception"]).filter goodWord ++ (vx_at0 RX4 53 "java/lang/IllegalArgumentException" ["java/lang/RuntimeException", "java/lang/Exception"]).filter goodWord)
def wsL_record : List Cond := .codeWith yL_record cL_record 5 (some .int) [(0, 10, 13, 21), (0, 10, 17, 13)] :: ([.classLink RL 21 "java/lang/IndexOutOfBoundsException", .classLink RL 13 "java/lang/IllegalArgumentException", .methodLink RL 49 yX4_record, .instanceMethod yX4_record, .selects RX4 yX4_record yX4_record, .initialized RX4, .code yX4_record cX4_record 3 (some .int), .classLink RX4 68 "java/lang/IndexOutOfBoundsException", .initialized "java/lang/IndexOutOfBoundsException", .classLink RX4 51 "java/lang/IllegalArgumentException", .initialized "java/lang/IllegalArgumentException", .fieldLink RX4 23 "CoreTransactions" "broken" "LCoreTransactions$Records;", .fieldLink RX4 119 "CoreTransactions$Records" "count" "I", .methodLink RX4 122 yX2_field, .instanceMethod yX2_field, .selects RX2 yX2_field yX2_field, .initialized RX2, .code yX2_field cX2_field 3 (some .int), .fieldLink RX2 9 "CoreTransactions$Records" "fields" "[I", .fieldLink RX2 15 "CoreTransactions$Records" "oldest" "I"] ++ wsX40 ++ wsX20 ++ (vx_at0 RX4 70 "java/lang/IndexOutOfBoundsException" ["java/lang/RuntimeException", "java/lang/Exception"]).filter goodWord ++ (vx_at0 RX4 53 "java/lang/IllegalArgumentException" ["java/lang/RuntimeException", "java/lang/Exception"]).filter goodWord)
def wsL_law0_r1 : List Cond := [Cond.classLink RL 8 RX4, Cond.instantiable RX4 7, Cond.initialized RX4, Cond.classLink RL 61 RX5, Cond.instantiable RX5 29, Cond.initialized RX5, Cond.arrayClass .long, Cond.methodLink RL 52 yL_cell, Cond.static yL_cell, Cond.initialized RL, Cond.code yL_cell cL_cell 2 (some .int), Cond.methodLink RL 58 yX4_init, Cond.instanceMethod yX4_init, Cond.code yX4_init cX4_init 6 none, Cond.methodLink RX4 1 objectInit, Cond.instanceMethod objectInit, Cond.code objectInit ⟨#[0xb1]⟩ 1 none, Cond.arrayClass .int, Cond.fieldLink RX4 9 "CoreTransactions" "memory" "[I", Cond.classLink RX4 13 RX1, Cond.instantiable RX1 5, Cond.initialized RX1, Cond.fieldLink RX4 16 "CoreTransactions" "program" "LCoreTransactions$Program;", Cond.classLink RX4 20 RX2]
def wsL_law0_r2 : List Cond := [Cond.instantiable RX2 3, Cond.initialized RX2, Cond.fieldLink RX4 23 "CoreTransactions" "broken" "LCoreTransactions$Records;", Cond.fieldLink RX4 31 "CoreTransactions" "sets" "I", Cond.fieldLink RX4 35 "CoreTransactions" "ways" "I", Cond.classLink RX4 38 RX0, Cond.fieldLink RX4 40 "CoreTransactions" "cores" "[LCoreTransactions$Core;", Cond.instantiable RX0 8, Cond.initialized RX0, Cond.instanceMethod yX1_init, Cond.code yX1_init cX1_init 1 none, Cond.methodLink RX1 3 objectInit, Cond.fieldLink RX1 9 "CoreTransactions$Program" "operations" "[I", Cond.fieldLink RX1 15 "CoreTransactions$Program" "a" "[I", Cond.fieldLink RX1 18 "CoreTransactions$Program" "b" "[I", Cond.fieldLink RX1 21 "CoreTransactions$Program" "c" "[I", Cond.instanceMethod yX2_init, Cond.code yX2_init cX2_init 1 none, Cond.methodLink RX2 3 objectInit, Cond.fieldLink RX2 9 "CoreTransactions$Records" "fields" "[I", Cond.methodLink RX4 27 yX4_nearest, Cond.static yX4_nearest, Cond.code yX4_nearest cX4_nearest 3 (some .int), Cond.methodLink RX4 135 Lib.Math.min.name]
def wsL_law0_r3 : List Cond := [Cond.static Lib.Math.min.name, Cond.initialized "java/lang/Math", Cond.code Lib.Math.min.name Lib.Math.min.code 2 (some .int), Cond.methodLink RX4 140 Lib.Math.max.name, Cond.static Lib.Math.max.name, Cond.code Lib.Math.max.name Lib.Math.max.code 2 (some .int), Cond.methodLink RX4 44 yX0_init, Cond.instanceMethod yX0_init, Cond.code yX0_init cX0_init 2 none, Cond.methodLink RX0 3 objectInit, Cond.fieldLink RX0 9 "CoreTransactions$Core" "registers" "[I", Cond.classLink RX0 15 RX3, Cond.instantiable RX3 9, Cond.initialized RX3, Cond.fieldLink RX0 18 "CoreTransactions$Core" "transaction" "LCoreTransactions$Transaction;", Cond.fieldLink RX0 22 "CoreTransactions$Core" "number" "I", Cond.instanceMethod yX3_init, Cond.code yX3_init cX3_init 1 none, Cond.methodLink RX3 3 objectInit, Cond.fieldLink RX3 9 "CoreTransactions$Transaction" "keptRegisters" "[I", Cond.fieldLink RX3 15 "CoreTransactions$Transaction" "storedWords" "[I", Cond.methodLink RL 63 yX5_init, Cond.instanceMethod yX5_init, Cond.code yX5_init cX5_init 4 none]
def wsL_law0_r4 : List Cond := [Cond.methodLink RX5 1 objectInit, Cond.fieldLink RX5 7 "CoreTransactionsModel" "memory" "[I", Cond.fieldLink RX5 13 "CoreTransactionsModel" "operations" "[I", Cond.fieldLink RX5 16 "CoreTransactionsModel" "as" "[I", Cond.fieldLink RX5 19 "CoreTransactionsModel" "bs" "[I", Cond.fieldLink RX5 22 "CoreTransactionsModel" "cs" "[I", Cond.fieldLink RX5 25 "CoreTransactionsModel" "places" "[I", Cond.arrayClass .boolean, Cond.fieldLink RX5 28 "CoreTransactionsModel" "ended" "[Z", Cond.fieldLink RX5 32 "CoreTransactionsModel" "retired" "[I", Cond.fieldLink RX5 35 "CoreTransactionsModel" "registers" "[I", Cond.fieldLink RX5 38 "CoreTransactionsModel" "depths" "[I", Cond.fieldLink RX5 41 "CoreTransactionsModel" "ages" "[I", Cond.fieldLink RX5 44 "CoreTransactionsModel" "begins" "[I", Cond.fieldLink RX5 47 "CoreTransactionsModel" "returns" "[I", Cond.fieldLink RX5 50 "CoreTransactionsModel" "keptRegisters" "[I", Cond.fieldLink RX5 53 "CoreTransactionsModel" "reads" "[I", Cond.fieldLink RX5 56 "CoreTransactionsModel" "writes" "[I", Cond.fieldLink RX5 59 "CoreTransactionsModel" "stores" "[J", Cond.fieldLink RX5 63 "CoreTransactionsModel" "stored" "[I", Cond.fieldLink RX5 66 "CoreTransactionsModel" "committed" "[I", Cond.fieldLink RX5 69 "CoreTransactionsModel" "broken" "[I", Cond.fieldLink RX5 72 "CoreTransactionsModel" "recordCells" "[I", Cond.fieldLink RX5 79 "CoreTransactionsModel" "cores" "I"]
def wsL_law0_r5 : List Cond := [Cond.fieldLink RX5 83 "CoreTransactionsModel" "sets" "I", Cond.fieldLink RX5 86 "CoreTransactionsModel" "ways" "I", Cond.methodLink RX5 75 yX5_near, Cond.static yX5_near, Cond.code yX5_near cX5_near 3 (some .int), Cond.methodLink RL 64 yL_instruction, Cond.static yL_instruction, Cond.codeWith yL_instruction cL_instruction 7 (some .int) [(0, 14, 17, 13), (0, 14, 21, 15)], Cond.classLink RL 13 "java/lang/IllegalArgumentException", Cond.classLink RL 15 "java/lang/UnsupportedOperationException", Cond.methodLink RL 7 yX4_instruction, Cond.instanceMethod yX4_instruction, Cond.selects RX4 yX4_instruction yX4_instruction, Cond.code yX4_instruction cX4_instruction 5 (some .int), Cond.classLink RX4 51 "java/lang/IllegalArgumentException", Cond.initialized "java/lang/IllegalArgumentException", Cond.classLink RX4 57 "java/lang/UnsupportedOperationException", Cond.initialized "java/lang/UnsupportedOperationException", Cond.fieldLink RX4 54 "CoreTransactions$Program" "length" "I", Cond.methodLink RX4 47 yX4_namesRegisters, Cond.static yX4_namesRegisters, Cond.code yX4_namesRegisters cX4_namesRegisters 7 (some .boolean), Cond.methodLink RX4 87 yX4_isRegister, Cond.static yX4_isRegister]
def wsL_law0_r6 : List Cond := [Cond.code yX4_isRegister cX4_isRegister 1 (some .boolean), Cond.methodLink RX4 60 yX1_append, Cond.instanceMethod yX1_append, Cond.selects RX1 yX1_append yX1_append, Cond.code yX1_append cX1_append 6 (some .int), Cond.fieldLink RX1 24 "CoreTransactions$Program" "length" "I", Cond.methodLink RL 67 yX5_instruction, Cond.instanceMethod yX5_instruction, Cond.selects RX5 yX5_instruction yX5_instruction, Cond.code yX5_instruction cX5_instruction 6 (some .int), Cond.fieldLink RX5 106 "CoreTransactionsModel" "size" "I", Cond.fieldLink RX5 89 "CoreTransactionsModel" "thrown" "I", Cond.methodLink RX5 92 yX5_isIn, Cond.static yX5_isIn, Cond.code yX5_isIn cX5_isIn 2 (some .boolean), Cond.methodLink RX5 96 yX5_namesA, Cond.static yX5_namesA, Cond.code yX5_namesA cX5_namesA 1 (some .boolean), Cond.methodLink RX5 100 yX5_namesB, Cond.static yX5_namesB, Cond.code yX5_namesB cX5_namesB 1 (some .boolean), Cond.methodLink RX5 103 yX5_namesC, Cond.static yX5_namesC, Cond.code yX5_namesC cX5_namesC 1 (some .boolean)]
def wsL_law0_r7 : List Cond := [Cond.methodLink RL 68 yX5_thrown, Cond.instanceMethod yX5_thrown, Cond.selects RX5 yX5_thrown yX5_thrown, Cond.code yX5_thrown cX5_thrown 1 (some .int), Cond.methodLink RL 72 yL_start, Cond.static yL_start, Cond.codeWith yL_start cL_start 5 (some .int) [(0, 10, 13, 21), (0, 10, 17, 13)], Cond.classLink RL 21 "java/lang/IndexOutOfBoundsException", Cond.methodLink RL 17 yX4_start, Cond.instanceMethod yX4_start, Cond.selects RX4 yX4_start yX4_start, Cond.code yX4_start cX4_start 5 (some .int), Cond.classLink RX4 68 "java/lang/IndexOutOfBoundsException", Cond.initialized "java/lang/IndexOutOfBoundsException", Cond.fieldLink RX4 71 "CoreTransactions$Core" "place" "I", Cond.fieldLink RX4 74 "CoreTransactions$Core" "transaction" "LCoreTransactions$Transaction;", Cond.fieldLink RX4 83 "CoreTransactions$Core" "ended" "Z", Cond.methodLink RX4 64 yX4_isCore, Cond.instanceMethod yX4_isCore, Cond.selects RX4 yX4_isCore yX4_isCore, Cond.code yX4_isCore cX4_isCore 2 (some .boolean), Cond.methodLink RX4 78 yX3_close, Cond.instanceMethod yX3_close, Cond.selects RX3 yX3_close yX3_close]
def wsL_law0_r8 : List Cond := [Cond.code yX3_close cX3_close 1 none, Cond.fieldLink RX3 34 "CoreTransactions$Transaction" "depth" "I", Cond.fieldLink RX3 18 "CoreTransactions$Transaction" "age" "I", Cond.fieldLink RX3 37 "CoreTransactions$Transaction" "linesRead" "I", Cond.fieldLink RX3 40 "CoreTransactions$Transaction" "linesWritten" "I", Cond.fieldLink RX3 43 "CoreTransactions$Transaction" "stored" "J", Cond.methodLink RL 75 yX5_start, Cond.instanceMethod yX5_start, Cond.selects RX5 yX5_start yX5_start, Cond.code yX5_start cX5_start 4 (some .int), Cond.methodLink RX5 109 yX5_leave, Cond.instanceMethod yX5_leave, Cond.selects RX5 yX5_leave yX5_leave, Cond.code yX5_leave cX5_leave 2 none, Cond.methodLink RL 76 yL_set, Cond.static yL_set, Cond.codeWith yL_set cL_set 6 (some .int) [(0, 12, 15, 21)], Cond.methodLink RL 23 yX4_set, Cond.instanceMethod yX4_set, Cond.selects RX4 yX4_set yX4_set, Cond.code yX4_set cX4_set 5 (some .int), Cond.fieldLink RX4 90 "CoreTransactions$Core" "registers" "[I", Cond.methodLink RX4 93 yX0_put, Cond.instanceMethod yX0_put]
def wsL_law0_r9 : List Cond := [Cond.selects RX0 yX0_put yX0_put, Cond.code yX0_put cX0_put 3 none, Cond.methodLink RL 79 yX5_set, Cond.instanceMethod yX5_set, Cond.selects RX5 yX5_set yX5_set, Cond.code yX5_set cX5_set 5 (some .int), Cond.methodLink RX5 113 yX5_get, Cond.instanceMethod yX5_get, Cond.selects RX5 yX5_get yX5_get, Cond.code yX5_get cX5_get 3 (some .int), Cond.methodLink RX5 117 yX5_give, Cond.instanceMethod yX5_give, Cond.selects RX5 yX5_give yX5_give, Cond.code yX5_give cX5_give 4 none, Cond.methodLink RL 80 yL_poke, Cond.static yL_poke, Cond.codeWith yL_poke cL_poke 5 (some .int) [(0, 10, 13, 21)], Cond.methodLink RL 27 yX4_poke, Cond.instanceMethod yX4_poke, Cond.selects RX4 yX4_poke yX4_poke, Cond.code yX4_poke cX4_poke 4 (some .int), Cond.methodLink RX4 97 yX4_isWord, Cond.static yX4_isWord, Cond.code yX4_isWord cX4_isWord 1 (some .boolean)]
def wsL_law0_r10 : List Cond := [Cond.methodLink RX4 100 yX4_breakOffAll, Cond.instanceMethod yX4_breakOffAll, Cond.selects RX4 yX4_breakOffAll yX4_breakOffAll, Cond.code yX4_breakOffAll cX4_breakOffAll 5 none, Cond.methodLink RX4 220 yX3_touches, Cond.instanceMethod yX3_touches, Cond.selects RX3 yX3_touches yX3_touches, Cond.code yX3_touches cX3_touches 4 (some .boolean), Cond.methodLink RX4 189 yX4_breakOff, Cond.instanceMethod yX4_breakOff, Cond.selects RX4 yX4_breakOff yX4_breakOff, Cond.code yX4_breakOff cX4_breakOff 4 none, Cond.fieldLink RX4 210 "CoreTransactions$Core" "number" "I", Cond.fieldLink RX4 227 "CoreTransactions$Transaction" "beginPlace" "I", Cond.fieldLink RX4 224 "CoreTransactions$Transaction" "age" "I", Cond.fieldLink RX4 234 "CoreTransactions$Transaction" "keptRegisters" "[I", Cond.methodLink RX4 237 arraycopyName, Cond.native arraycopyName, Cond.static arraycopyName, Cond.initialized "java/lang/System", Cond.fieldLink RX4 243 "CoreTransactions$Transaction" "keptPlace" "I", Cond.fieldLink RX4 246 "CoreTransactions$Core" "brokenOff" "I", Cond.methodLink RX4 230 yX2_add, Cond.instanceMethod yX2_add]
def wsL_law0_r11 : List Cond := [Cond.selects RX2 yX2_add yX2_add, Cond.code yX2_add cX2_add 6 none, Cond.fieldLink RX2 15 "CoreTransactions$Records" "oldest" "I", Cond.fieldLink RX2 19 "CoreTransactions$Records" "count" "I", Cond.methodLink RL 82 yX5_poke, Cond.instanceMethod yX5_poke, Cond.selects RX5 yX5_poke yX5_poke, Cond.code yX5_poke cX5_poke 4 (some .int), Cond.methodLink RX5 132 yX5_breakOthers, Cond.instanceMethod yX5_breakOthers, Cond.selects RX5 yX5_breakOthers yX5_breakOthers, Cond.code yX5_breakOthers cX5_breakOthers 5 none, Cond.methodLink RX5 124 yX5_meets, Cond.instanceMethod yX5_meets, Cond.selects RX5 yX5_meets yX5_meets, Cond.code yX5_meets cX5_meets 5 (some .boolean), Cond.methodLink RX5 128 yX5_breakOff, Cond.instanceMethod yX5_breakOff, Cond.selects RX5 yX5_breakOff yX5_breakOff, Cond.code yX5_breakOff cX5_breakOff 4 none, Cond.fieldLink RX5 121 "CoreTransactionsModel" "recordCount" "I", Cond.methodLink RL 83 yL_pick, Cond.static yL_pick, Cond.codeWith yL_pick cL_pick 5 (some .int) [(0, 10, 13, 21), (0, 10, 17, 13)]]
def wsL_law0_r12 : List Cond := [Cond.methodLink RL 30 yX4_pick, Cond.instanceMethod yX4_pick, Cond.selects RX4 yX4_pick yX4_pick, Cond.code yX4_pick cX4_pick 5 (some .int), Cond.methodLink RX4 104 yX4_isManyPicks, Cond.static yX4_isManyPicks, Cond.code yX4_isManyPicks cX4_isManyPicks 1 (some .boolean), Cond.methodLink RX4 107 yX4_step, Cond.instanceMethod yX4_step, Cond.selects RX4 yX4_step yX4_step, Cond.code yX4_step cX4_step 3 (some .int), Cond.fieldLink RX4 151 "CoreTransactions$Core" "retired" "I", Cond.methodLink RX4 143 yX4_fault, Cond.instanceMethod yX4_fault, Cond.selects RX4 yX4_fault yX4_fault, Cond.code yX4_fault cX4_fault 2 none, Cond.fieldLink RX4 186 "CoreTransactions$Transaction" "depth" "I", Cond.methodLink RX4 147 yX4_execute, Cond.instanceMethod yX4_execute, Cond.selects RX4 yX4_execute yX4_execute, Cond.code yX4_execute cX4_execute 8 (some .boolean), Cond.fieldLink RX4 154 "CoreTransactions$Program" "a" "[I", Cond.fieldLink RX4 157 "CoreTransactions$Program" "b" "[I", Cond.fieldLink RX4 160 "CoreTransactions$Program" "c" "[I"]
def wsL_law0_r13 : List Cond := [Cond.fieldLink RX4 163 "CoreTransactions$Program" "operations" "[I", Cond.methodLink RX4 166 yX4_mayAccess, Cond.instanceMethod yX4_mayAccess, Cond.selects RX4 yX4_mayAccess yX4_mayAccess, Cond.code yX4_mayAccess cX4_mayAccess 5 (some .boolean), Cond.methodLink RX4 207 yX4_meetsOlder, Cond.instanceMethod yX4_meetsOlder, Cond.selects RX4 yX4_meetsOlder yX4_meetsOlder, Cond.code yX4_meetsOlder cX4_meetsOlder 6 (some .boolean), Cond.methodLink RX4 213 yX3_mark, Cond.instanceMethod yX3_mark, Cond.selects RX3 yX3_mark yX3_mark, Cond.code yX3_mark cX3_mark 3 none, Cond.methodLink RX4 217 yX3_linesInSet, Cond.instanceMethod yX3_linesInSet, Cond.selects RX3 yX3_linesInSet yX3_linesInSet, Cond.code yX3_linesInSet cX3_linesInSet 5 (some .int), Cond.methodLink RX4 112 yX4_wordSeenBy, Cond.instanceMethod yX4_wordSeenBy, Cond.selects RX4 yX4_wordSeenBy yX4_wordSeenBy, Cond.code yX4_wordSeenBy cX4_wordSeenBy 3 (some .int), Cond.fieldLink RX4 252 "CoreTransactions$Transaction" "storedWords" "[I", Cond.methodLink RX4 249 yX3_hasStored, Cond.instanceMethod yX3_hasStored]
def wsL_law0_r14 : List Cond := [Cond.selects RX3 yX3_hasStored yX3_hasStored, Cond.code yX3_hasStored cX3_hasStored 2 (some .boolean), Cond.methodLink RX4 170 yX4_write, Cond.instanceMethod yX4_write, Cond.selects RX4 yX4_write yX4_write, Cond.code yX4_write cX4_write 4 none, Cond.methodLink RX4 204 yX3_keep, Cond.instanceMethod yX3_keep, Cond.selects RX3 yX3_keep yX3_keep, Cond.code yX3_keep cX3_keep 3 none, Cond.methodLink RX4 174 yX4_executeTransactional, Cond.instanceMethod yX4_executeTransactional, Cond.selects RX4 yX4_executeTransactional yX4_executeTransactional, Cond.code yX4_executeTransactional cX4_executeTransactional 3 (some .boolean), Cond.methodLink RX4 177 yX4_begin, Cond.instanceMethod yX4_begin, Cond.selects RX4 yX4_begin yX4_begin, Cond.code yX4_begin cX4_begin 4 (some .boolean), Cond.fieldLink RX4 132 "CoreTransactions" "lastAge" "I", Cond.methodLink RX4 193 yX3_open, Cond.instanceMethod yX3_open, Cond.selects RX3 yX3_open yX3_open, Cond.code yX3_open cX3_open 5 none, Cond.fieldLink RX3 22 "CoreTransactions$Transaction" "beginPlace" "I"]
def wsL_law0_r15 : List Cond := [Cond.fieldLink RX3 25 "CoreTransactions$Transaction" "keptPlace" "I", Cond.methodLink RX3 28 arraycopyName, Cond.methodLink RX4 180 yX4_end, Cond.instanceMethod yX4_end, Cond.selects RX4 yX4_end yX4_end, Cond.code yX4_end cX4_end 3 none, Cond.fieldLink RX4 201 "CoreTransactions$Core" "committed" "I", Cond.methodLink RX4 197 yX3_writeTo, Cond.instanceMethod yX3_writeTo, Cond.selects RX3 yX3_writeTo yX3_writeTo, Cond.code yX3_writeTo cX3_writeTo 3 none, Cond.methodLink RX3 47 yX3_hasStored, Cond.methodLink RX4 183 yX4_breaksOff, Cond.instanceMethod yX4_breaksOff, Cond.selects RX4 yX4_breaksOff yX4_breaksOff, Cond.code yX4_breaksOff cX4_breaksOff 3 (some .boolean), Cond.methodLink RL 85 yX5_pick, Cond.instanceMethod yX5_pick, Cond.selects RX5 yX5_pick yX5_pick, Cond.code yX5_pick cX5_pick 5 (some .int), Cond.methodLink RX5 176 yX5_step, Cond.instanceMethod yX5_step, Cond.selects RX5 yX5_step yX5_step, Cond.code yX5_step cX5_step 3 (some .int)]
def wsL_law0_r16 : List Cond := [Cond.fieldLink RX5 161 "CoreTransactionsModel" "next" "I", Cond.methodLink RX5 142 yX5_faults, Cond.instanceMethod yX5_faults, Cond.selects RX5 yX5_faults yX5_faults, Cond.code yX5_faults cX5_faults 2 (some .boolean), Cond.methodLink RX5 173 yX5_does, Cond.instanceMethod yX5_does, Cond.selects RX5 yX5_does yX5_does, Cond.code yX5_does cX5_does 6 (some .boolean), Cond.methodLink RX5 154 yX5_load, Cond.instanceMethod yX5_load, Cond.selects RX5 yX5_load yX5_load, Cond.code yX5_load cX5_load 4 (some .boolean), Cond.methodLink RX5 145 yX5_comes, Cond.instanceMethod yX5_comes, Cond.selects RX5 yX5_comes yX5_comes, Cond.code yX5_comes cX5_comes 7 (some .boolean), Cond.methodLink RX5 136 yX5_linesInSet, Cond.instanceMethod yX5_linesInSet, Cond.selects RX5 yX5_linesInSet yX5_linesInSet, Cond.code yX5_linesInSet cX5_linesInSet 5 (some .int), Cond.methodLink RX5 139 yX5_sees, Cond.instanceMethod yX5_sees, Cond.selects RX5 yX5_sees yX5_sees]
def wsL_law0_r17 : List Cond := [Cond.code yX5_sees cX5_sees 3 (some .int), Cond.methodLink RX5 158 yX5_store, Cond.instanceMethod yX5_store, Cond.selects RX5 yX5_store yX5_store, Cond.code yX5_store cX5_store 4 (some .boolean), Cond.methodLink RX5 164 yX5_begin, Cond.instanceMethod yX5_begin, Cond.selects RX5 yX5_begin yX5_begin, Cond.code yX5_begin cX5_begin 5 (some .boolean), Cond.fieldLink RX5 148 "CoreTransactionsModel" "age" "I", Cond.methodLink RX5 167 yX5_end, Cond.instanceMethod yX5_end, Cond.selects RX5 yX5_end yX5_end, Cond.code yX5_end cX5_end 2 none, Cond.methodLink RX5 151 yX5_commit, Cond.instanceMethod yX5_commit, Cond.selects RX5 yX5_commit yX5_commit, Cond.code yX5_commit cX5_commit 3 none, Cond.methodLink RX5 170 yX5_abort, Cond.instanceMethod yX5_abort, Cond.selects RX5 yX5_abort yX5_abort, Cond.code yX5_abort cX5_abort 3 (some .boolean), Cond.methodLink RL 86 yL_run, Cond.static yL_run]
def wsL_law0_r18 : List Cond := [Cond.codeWith yL_run cL_run 5 (some .int) [(0, 10, 13, 13)], Cond.methodLink RL 33 yX4_run, Cond.instanceMethod yX4_run, Cond.selects RX4 yX4_run yX4_run, Cond.code yX4_run cX4_run 6 (some .int), Cond.constant RX4 111 (1103515245), Cond.methodLink RL 88 yX5_run, Cond.instanceMethod yX5_run, Cond.selects RX5 yX5_run yX5_run, Cond.code yX5_run cX5_run 6 (some .int), Cond.constant RX5 180 (1103515245), Cond.methodLink RL 89 yL_register, Cond.static yL_register, Cond.codeWith yL_register cL_register 5 (some .int) [(0, 10, 13, 21)], Cond.methodLink RL 36 yX4_register, Cond.instanceMethod yX4_register, Cond.selects RX4 yX4_register yX4_register, Cond.code yX4_register cX4_register 3 (some .int), Cond.methodLink RL 91 yX5_register, Cond.instanceMethod yX5_register, Cond.selects RX5 yX5_register yX5_register, Cond.code yX5_register cX5_register 3 (some .int), Cond.methodLink RL 92 yL_word, Cond.static yL_word]
def wsL_law0_r19 : List Cond := [Cond.codeWith yL_word cL_word 4 (some .int) [(0, 9, 12, 21)], Cond.methodLink RL 39 yX4_word, Cond.instanceMethod yX4_word, Cond.selects RX4 yX4_word yX4_word, Cond.code yX4_word cX4_word 2 (some .int), Cond.methodLink RL 95 yX5_word, Cond.instanceMethod yX5_word, Cond.selects RX5 yX5_word yX5_word, Cond.code yX5_word cX5_word 2 (some .int), Cond.methodLink RL 96 yL_seen, Cond.static yL_seen, Cond.codeWith yL_seen cL_seen 5 (some .int) [(0, 10, 13, 21)], Cond.methodLink RL 43 yX4_seen, Cond.instanceMethod yX4_seen, Cond.selects RX4 yX4_seen yX4_seen, Cond.code yX4_seen cX4_seen 3 (some .int), Cond.methodLink RL 98 yX5_seen, Cond.instanceMethod yX5_seen, Cond.selects RX5 yX5_seen yX5_seen, Cond.code yX5_seen cX5_seen 3 (some .int), Cond.methodLink RL 99 yL_told, Cond.static yL_told, Cond.codeWith yL_told cL_told 5 (some .int) [(0, 10, 13, 21), (0, 10, 17, 13)], Cond.methodLink RL 46 yX4_told]
def wsL_law0_r20 : List Cond := [Cond.instanceMethod yX4_told, Cond.selects RX4 yX4_told yX4_told, Cond.code yX4_told cX4_told 3 (some .int), Cond.methodLink RX4 116 yX4_factOf, Cond.static yX4_factOf, Cond.code yX4_factOf cX4_factOf 3 (some .int), Cond.fieldLink RX4 255 "CoreTransactions$Transaction" "linesRead" "I", Cond.fieldLink RX4 264 "CoreTransactions$Transaction" "linesWritten" "I", Cond.fieldLink RX4 267 "CoreTransactions$Transaction" "stored" "J", Cond.methodLink RX4 258 yJ6_bitCount_0f7a4, Cond.static yJ6_bitCount_0f7a4, Cond.initialized RJ6, Cond.code yJ6_bitCount_0f7a4 cJ6_bitCount_0f7a4 1 (some .int), Cond.constant RJ6 265 (1431655765), Cond.constant RJ6 266 (858993459), Cond.constant RJ6 267 (252645135), Cond.methodLink RX4 271 yJ13_bitCount_95d88, Cond.static yJ13_bitCount_95d88, Cond.initialized RJ13, Cond.code yJ13_bitCount_95d88 cJ13_bitCount_95d88 2 (some .int), Cond.constantLong RJ13 314 (6148914691236517205), Cond.constantLong RJ13 316 (3689348814741910323), Cond.constantLong RJ13 318 (1085102592571150095), Cond.methodLink RL 101 yX5_told]
def wsL_law0_r21 : List Cond := [Cond.instanceMethod yX5_told, Cond.selects RX5 yX5_told yX5_told, Cond.code yX5_told cX5_told 3 (some .int), Cond.methodLink RX5 181 yX5_bits, Cond.static yX5_bits, Cond.code yX5_bits cX5_bits 4 (some .int), Cond.methodLink RL 102 yX4_records, Cond.instanceMethod yX4_records, Cond.selects RX4 yX4_records yX4_records, Cond.code yX4_records cX4_records 1 (some .int), Cond.fieldLink RX4 119 "CoreTransactions$Records" "count" "I", Cond.methodLink RL 105 yX5_records, Cond.instanceMethod yX5_records, Cond.selects RX5 yX5_records yX5_records, Cond.code yX5_records cX5_records 1 (some .int), Cond.methodLink RL 106 yL_record, Cond.static yL_record, Cond.codeWith yL_record cL_record 5 (some .int) [(0, 10, 13, 21), (0, 10, 17, 13)], Cond.methodLink RL 49 yX4_record, Cond.instanceMethod yX4_record, Cond.selects RX4 yX4_record yX4_record, Cond.code yX4_record cX4_record 3 (some .int), Cond.methodLink RX4 122 yX2_field, Cond.instanceMethod yX2_field]
def wsL_law0_r22 : List Cond := [Cond.selects RX2 yX2_field yX2_field, Cond.code yX2_field cX2_field 3 (some .int), Cond.methodLink RL 108 yX5_record, Cond.instanceMethod yX5_record, Cond.selects RX5 yX5_record yX5_record, Cond.code yX5_record cX5_record 3 (some .int), Cond.methodLink RL 109 yX4_clear, Cond.instanceMethod yX4_clear, Cond.selects RX4 yX4_clear yX4_clear, Cond.code yX4_clear cX4_clear 2 none, Cond.methodLink RX4 126 yX0_reset, Cond.instanceMethod yX0_reset, Cond.selects RX0 yX0_reset yX0_reset, Cond.code yX0_reset cX0_reset 2 none, Cond.fieldLink RX0 29 "CoreTransactions$Core" "place" "I", Cond.fieldLink RX0 32 "CoreTransactions$Core" "ended" "Z", Cond.fieldLink RX0 36 "CoreTransactions$Core" "retired" "I", Cond.fieldLink RX0 39 "CoreTransactions$Core" "committed" "I", Cond.fieldLink RX0 42 "CoreTransactions$Core" "brokenOff" "I", Cond.methodLink RX0 26 yX3_close, Cond.methodLink RX4 129 yX2_forget, Cond.instanceMethod yX2_forget, Cond.selects RX2 yX2_forget yX2_forget, Cond.code yX2_forget cX2_forget 1 none]
def wsL_law0_r23 : List Cond := [Cond.methodLink RL 112 yX5_clear, Cond.instanceMethod yX5_clear, Cond.selects RX5 yX5_clear yX5_clear, Cond.code yX5_clear cX5_clear 2 none]
def wsL_law0 : List Cond := (wsL_law0_r1 ++ (wsL_law0_r2 ++ (wsL_law0_r3 ++ (wsL_law0_r4 ++ (wsL_law0_r5 ++ (wsL_law0_r6 ++ (wsL_law0_r7 ++ (wsL_law0_r8 ++ (wsL_law0_r9 ++ (wsL_law0_r10 ++ (wsL_law0_r11 ++ (wsL_law0_r12 ++ (wsL_law0_r13 ++ (wsL_law0_r14 ++ (wsL_law0_r15 ++ (wsL_law0_r16 ++ (wsL_law0_r17 ++ (wsL_law0_r18 ++ (wsL_law0_r19 ++ (wsL_law0_r20 ++ (wsL_law0_r21 ++ (wsL_law0_r22 ++ wsL_law0_r23)))))))))))))))))))))) ++ wsX40 ++ wsX50 ++ wsX10 ++ wsX20 ++ wsX00 ++ wsX30 ++ ([] : List Cond)
def wsL_law : List Cond := wsL_law0 ++ (vx_at0 RX4 53 "java/lang/IllegalArgumentException" ["java/lang/RuntimeException", "java/lang/Exception"]).filter goodWord ++ (vx_at0 RX4 59 "java/lang/UnsupportedOperationException" ["java/lang/RuntimeException", "java/lang/Exception"]).filter goodWord ++ (vx_at0 RX4 70 "java/lang/IndexOutOfBoundsException" ["java/lang/RuntimeException", "java/lang/Exception"]).filter goodWord
abbrev vwCl : List vw_C := [(RX0, TX0, 8), (RX1, TX1, 5), (RX2, TX2, 3), (RX3, TX3, 9), (RX4, TX4, 7), (RX5, TX5, 29)]
end
section
theorem mem_r {big : List Cond} (ws : List Cond) (ps : List Nat) (hp : ws = ps.filterMap (fun i => big[i]?)) : ∀ w ∈ ws, w ∈ big := by
  intro w hw
  rw [hp] at hw
  obtain ⟨i, -, hi⟩ := List.mem_filterMap.mp hw
  exact List.mem_of_getElem? hi
set_option maxRecDepth 20000 in
theorem wsL_law0_r1_in : ∀ w ∈ wsL_law0_r1, w ∈ lw_tbl := mem_r _ [50, 51, 34, 547, 548, 40, 645, 237, 238, 33, 239, 52, 53, 54, 55, 56, 57, 85, 198, 58, 59, 35, 199, 86] (by decide +kernel)
set_option maxRecDepth 20000 in
theorem wsL_law0_r2_in : ∀ w ∈ wsL_law0_r2, w ∈ lw_tbl := mem_r _ [87, 36, 200, 195, 196, 112, 197, 114, 38, 61, 62, 63, 64, 66, 68, 70, 89, 90, 91, 92, 103, 104, 105, 106] (by decide +kernel)
set_option maxRecDepth 20000 in
theorem wsL_law0_r3_in : ∀ w ∈ wsL_law0_r3, w ∈ lw_tbl := mem_r _ [107, 37, 108, 109, 110, 111, 115, 116, 117, 118, 164, 119, 120, 39, 166, 162, 122, 123, 124, 125, 127, 549, 550, 551] (by decide +kernel)
set_option maxRecDepth 20000 in
theorem wsL_law0_r4_in : ∀ w ∈ wsL_law0_r4, w ∈ lw_tbl := mem_r _ [552, 560, 562, 563, 564, 565, 566, 644, 567, 568, 569, 570, 571, 572, 573, 574, 575, 576, 577, 578, 579, 580, 583, 557] (by decide +kernel)
set_option maxRecDepth 20000 in
theorem wsL_law0_r5_in : ∀ w ∈ wsL_law0_r5, w ∈ lw_tbl := mem_r _ [558, 559, 553, 554, 555, 240, 241, 242, 243, 244, 245, 246, 247, 248, 255, 44, 318, 45, 73, 249, 250, 251, 252, 253] (by decide +kernel)
set_option maxRecDepth 20000 in
theorem wsL_law0_r6_in : ∀ w ∈ wsL_law0_r6, w ∈ lw_tbl := mem_r _ [254, 333, 334, 335, 336, 72, 650, 651, 652, 653, 561, 556, 654, 655, 656, 657, 658, 659, 660, 661, 662, 663, 664, 665] (by decide +kernel)
set_option maxRecDepth 20000 in
theorem wsL_law0_r7_in : ∀ w ∈ wsL_law0_r7, w ∈ lw_tbl := mem_r _ [646, 647, 648, 649, 337, 338, 339, 340, 341, 342, 343, 344, 349, 46, 169, 167, 171, 345, 347, 1, 348, 364, 230, 231] (by decide +kernel)
set_option maxRecDepth 20000 in
theorem wsL_law0_r8_in : ∀ w ∈ wsL_law0_r8, w ∈ lw_tbl := mem_r _ [232, 129, 131, 137, 139, 141, 666, 667, 668, 669, 670, 672, 15, 673, 365, 366, 367, 368, 369, 370, 371, 165, 372, 373] (by decide +kernel)
set_option maxRecDepth 20000 in
theorem wsL_law0_r9_in : ∀ w ∈ wsL_law0_r9, w ∈ lw_tbl := mem_r _ [374, 375, 674, 675, 676, 677, 678, 680, 16, 681, 682, 684, 17, 685, 376, 377, 378, 379, 380, 381, 382, 383, 384, 385] (by decide +kernel)
set_option maxRecDepth 20000 in
theorem wsL_law0_r10_in : ∀ w ∈ wsL_law0_r10, w ∈ lw_tbl := mem_r _ [386, 388, 2, 389, 390, 391, 392, 393, 394, 396, 3, 397, 163, 134, 132, 126, 402, 404, 403, 47, 136, 177, 398, 399] (by decide +kernel)
set_option maxRecDepth 20000 in
theorem wsL_law0_r11_in : ∀ w ∈ wsL_law0_r11, w ∈ lw_tbl := mem_r _ [400, 401, 95, 93, 686, 687, 688, 689, 690, 692, 18, 693, 694, 696, 19, 697, 698, 700, 20, 701, 582, 405, 406, 407] (by decide +kernel)
set_option maxRecDepth 20000 in
theorem wsL_law0_r12_in : ∀ w ∈ wsL_law0_r12, w ∈ lw_tbl := mem_r _ [408, 409, 410, 411, 412, 413, 414, 415, 417, 4, 418, 173, 419, 421, 5, 422, 130, 423, 425, 6, 426, 67, 69, 71] (by decide +kernel)
set_option maxRecDepth 20000 in
theorem wsL_law0_r13_in : ∀ w ∈ wsL_law0_r13, w ∈ lw_tbl := mem_r _ [65, 427, 429, 7, 430, 431, 433, 8, 434, 435, 436, 437, 438, 439, 440, 441, 442, 443, 445, 9, 446, 128, 447, 448] (by decide +kernel)
set_option maxRecDepth 20000 in
theorem wsL_law0_r14_in : ∀ w ∈ wsL_law0_r14, w ∈ lw_tbl := mem_r _ [449, 450, 451, 453, 10, 454, 455, 456, 457, 458, 459, 461, 11, 462, 463, 465, 12, 466, 201, 467, 468, 469, 470, 133] (by decide +kernel)
set_option maxRecDepth 20000 in
theorem wsL_law0_r15_in : ∀ w ∈ wsL_law0_r15, w ∈ lw_tbl := mem_r _ [135, 471, 472, 474, 13, 475, 175, 476, 477, 478, 479, 480, 481, 483, 14, 484, 702, 703, 704, 705, 706, 708, 21, 709] (by decide +kernel)
set_option maxRecDepth 20000 in
theorem wsL_law0_r16_in : ∀ w ∈ wsL_law0_r16, w ∈ lw_tbl := mem_r _ [584, 710, 712, 22, 713, 714, 716, 23, 717, 718, 720, 24, 721, 722, 724, 25, 725, 726, 728, 26, 729, 730, 732, 27] (by decide +kernel)
set_option maxRecDepth 20000 in
theorem wsL_law0_r17_in : ∀ w ∈ wsL_law0_r17, w ∈ lw_tbl := mem_r _ [733, 734, 736, 28, 737, 738, 740, 29, 741, 581, 742, 744, 30, 745, 746, 748, 31, 749, 750, 752, 32, 753, 485, 486] (by decide +kernel)
set_option maxRecDepth 20000 in
theorem wsL_law0_r18_in : ∀ w ∈ wsL_law0_r18, w ∈ lw_tbl := mem_r _ [487, 488, 489, 490, 491, 492, 754, 755, 756, 757, 758, 493, 494, 495, 496, 497, 498, 499, 759, 760, 761, 762, 500, 501] (by decide +kernel)
set_option maxRecDepth 20000 in
theorem wsL_law0_r19_in : ∀ w ∈ wsL_law0_r19, w ∈ lw_tbl := mem_r _ [502, 503, 504, 505, 506, 763, 764, 765, 766, 507, 508, 509, 510, 511, 512, 513, 767, 768, 769, 770, 514, 515, 516, 517] (by decide +kernel)
set_option maxRecDepth 20000 in
theorem wsL_law0_r20_in : ∀ w ∈ wsL_law0_r20, w ∈ lw_tbl := mem_r _ [518, 519, 520, 521, 522, 523, 138, 140, 142, 524, 525, 48, 526, 527, 528, 529, 530, 531, 49, 532, 533, 534, 535, 771] (by decide +kernel)
set_option maxRecDepth 20000 in
theorem wsL_law0_r21_in : ∀ w ∈ wsL_law0_r21, w ∈ lw_tbl := mem_r _ [772, 773, 774, 775, 776, 777, 217, 218, 219, 220, 94, 778, 779, 780, 781, 536, 537, 538, 539, 540, 541, 542, 543, 544] (by decide +kernel)
set_option maxRecDepth 20000 in
theorem wsL_law0_r22_in : ∀ w ∈ wsL_law0_r22, w ∈ lw_tbl := mem_r _ [545, 546, 782, 783, 784, 785, 221, 222, 223, 224, 225, 226, 227, 228, 168, 170, 172, 174, 176, 229, 233, 234, 235, 236] (by decide +kernel)
set_option maxRecDepth 20000 in
theorem wsL_law0_r23_in : ∀ w ∈ wsL_law0_r23, w ∈ lw_tbl := mem_r _ [786, 787, 788, 789] (by decide +kernel)
set_option maxRecDepth 20000 in
theorem wsX40_in : ∀ w ∈ wsX40, w ∈ lw_tbl := mem_r _ [202, 204, 206, 208, 210, 212, 214] (by decide +kernel)
set_option maxRecDepth 20000 in
theorem wsX50_in : ∀ w ∈ wsX50, w ∈ lw_tbl := mem_r _ [585, 587, 589, 591, 593, 595, 597, 599, 601, 603, 605, 607, 609, 611, 613, 615, 617, 619, 621, 623, 625, 627, 629, 631, 633, 635, 637, 639, 641] (by decide +kernel)
set_option maxRecDepth 20000 in
theorem wsX10_in : ∀ w ∈ wsX10, w ∈ lw_tbl := mem_r _ [74, 76, 78, 80, 82] (by decide +kernel)
set_option maxRecDepth 20000 in
theorem wsX20_in : ∀ w ∈ wsX20, w ∈ lw_tbl := mem_r _ [96, 98, 100] (by decide +kernel)
set_option maxRecDepth 20000 in
theorem wsX00_in : ∀ w ∈ wsX00, w ∈ lw_tbl := mem_r _ [178, 180, 182, 184, 186, 188, 190, 192] (by decide +kernel)
set_option maxRecDepth 20000 in
theorem wsX30_in : ∀ w ∈ wsX30, w ∈ lw_tbl := mem_r _ [143, 145, 147, 149, 151, 153, 155, 157, 159] (by decide +kernel)
theorem wsL_law_in0 : ∀ w ∈ wsL_law0, w ∈ lw_tbl := fun w h => (List.mem_append.mp h).elim (fun h => (List.mem_append.mp h).elim (fun h => (List.mem_append.mp h).elim (fun h => (List.mem_append.mp h).elim (fun h => (List.mem_append.mp h).elim (fun h => (List.mem_append.mp h).elim (fun h => (List.mem_append.mp h).elim (fun h => (List.mem_append.mp h).elim (fun h => wsL_law0_r1_in w h) (fun h => (List.mem_append.mp h).elim (fun h => wsL_law0_r2_in w h) (fun h => (List.mem_append.mp h).elim (fun h => wsL_law0_r3_in w h) (fun h => (List.mem_append.mp h).elim (fun h => wsL_law0_r4_in w h) (fun h => (List.mem_append.mp h).elim (fun h => wsL_law0_r5_in w h) (fun h => (List.mem_append.mp h).elim (fun h => wsL_law0_r6_in w h) (fun h => (List.mem_append.mp h).elim (fun h => wsL_law0_r7_in w h) (fun h => (List.mem_append.mp h).elim (fun h => wsL_law0_r8_in w h) (fun h => (List.mem_append.mp h).elim (fun h => wsL_law0_r9_in w h) (fun h => (List.mem_append.mp h).elim (fun h => wsL_law0_r10_in w h) (fun h => (List.mem_append.mp h).elim (fun h => wsL_law0_r11_in w h) (fun h => (List.mem_append.mp h).elim (fun h => wsL_law0_r12_in w h) (fun h => (List.mem_append.mp h).elim (fun h => wsL_law0_r13_in w h) (fun h => (List.mem_append.mp h).elim (fun h => wsL_law0_r14_in w h) (fun h => (List.mem_append.mp h).elim (fun h => wsL_law0_r15_in w h) (fun h => (List.mem_append.mp h).elim (fun h => wsL_law0_r16_in w h) (fun h => (List.mem_append.mp h).elim (fun h => wsL_law0_r17_in w h) (fun h => (List.mem_append.mp h).elim (fun h => wsL_law0_r18_in w h) (fun h => (List.mem_append.mp h).elim (fun h => wsL_law0_r19_in w h) (fun h => (List.mem_append.mp h).elim (fun h => wsL_law0_r20_in w h) (fun h => (List.mem_append.mp h).elim (fun h => wsL_law0_r21_in w h) (fun h => (List.mem_append.mp h).elim (fun h => wsL_law0_r22_in w h) (fun h => wsL_law0_r23_in w h))))))))))))))))))))))) (fun h => wsX40_in w h)) (fun h => wsX50_in w h)) (fun h => wsX10_in w h)) (fun h => wsX20_in w h)) (fun h => wsX00_in w h)) (fun h => wsX30_in w h)) (fun h => absurd h List.not_mem_nil)
theorem wsL_law_x0 : ∀ w ∈ (vx_at0 RX4 53 "java/lang/IllegalArgumentException" ["java/lang/RuntimeException", "java/lang/Exception"]).filter goodWord, w ∈ lw_tbl := by decide +kernel
theorem wsL_law_x1 : ∀ w ∈ (vx_at0 RX4 59 "java/lang/UnsupportedOperationException" ["java/lang/RuntimeException", "java/lang/Exception"]).filter goodWord, w ∈ lw_tbl := by decide +kernel
theorem wsL_law_x2 : ∀ w ∈ (vx_at0 RX4 70 "java/lang/IndexOutOfBoundsException" ["java/lang/RuntimeException", "java/lang/Exception"]).filter goodWord, w ∈ lw_tbl := by decide +kernel
theorem wsL_law_in : ∀ w ∈ wsL_law, w ∈ lw_tbl := fun w h => (List.mem_append.mp h).elim (fun h => (List.mem_append.mp h).elim (fun h => (List.mem_append.mp h).elim (fun h => wsL_law_in0 w h) (fun h => wsL_law_x0 w h)) (fun h => wsL_law_x1 w h)) (fun h => wsL_law_x2 w h)
theorem inlX0 : ∀ w ∈ wsX00, w ∈ wsL_law := fun _ h => List.mem_append_left _ (List.mem_append_left _ (List.mem_append_left _ (List.mem_append_left _ (List.mem_append_left _ (List.mem_append_right _ h)))))
theorem inX0 : ∀ w ∈ wsX00, w ∈ lw_tbl := fun w h => wsL_law_in w (inlX0 w h)
theorem inlX1 : ∀ w ∈ wsX10, w ∈ wsL_law := fun _ h => List.mem_append_left _ (List.mem_append_left _ (List.mem_append_left _ (List.mem_append_left _ (List.mem_append_left _ (List.mem_append_left _ (List.mem_append_left _ (List.mem_append_right _ h)))))))
theorem inX1 : ∀ w ∈ wsX10, w ∈ lw_tbl := fun w h => wsL_law_in w (inlX1 w h)
theorem inlX2 : ∀ w ∈ wsX20, w ∈ wsL_law := fun _ h => List.mem_append_left _ (List.mem_append_left _ (List.mem_append_left _ (List.mem_append_left _ (List.mem_append_left _ (List.mem_append_left _ (List.mem_append_right _ h))))))
theorem inX2 : ∀ w ∈ wsX20, w ∈ lw_tbl := fun w h => wsL_law_in w (inlX2 w h)
theorem inlX3 : ∀ w ∈ wsX30, w ∈ wsL_law := fun _ h => List.mem_append_left _ (List.mem_append_left _ (List.mem_append_left _ (List.mem_append_left _ (List.mem_append_right _ h))))
theorem inX3 : ∀ w ∈ wsX30, w ∈ lw_tbl := fun w h => wsL_law_in w (inlX3 w h)
theorem inlX4 : ∀ w ∈ wsX40, w ∈ wsL_law := fun _ h => List.mem_append_left _ (List.mem_append_left _ (List.mem_append_left _ (List.mem_append_left _ (List.mem_append_left _ (List.mem_append_left _ (List.mem_append_left _ (List.mem_append_left _ (List.mem_append_left _ (List.mem_append_right _ h)))))))))
theorem inX4 : ∀ w ∈ wsX40, w ∈ lw_tbl := fun w h => wsL_law_in w (inlX4 w h)
theorem inlX5 : ∀ w ∈ wsX50, w ∈ wsL_law := fun _ h => List.mem_append_left _ (List.mem_append_left _ (List.mem_append_left _ (List.mem_append_left _ (List.mem_append_left _ (List.mem_append_left _ (List.mem_append_left _ (List.mem_append_left _ (List.mem_append_right _ h))))))))
theorem inX5 : ∀ w ∈ wsX50, w ∈ lw_tbl := fun w h => wsL_law_in w (inlX5 w h)
theorem inJ6 : ∀ w ∈ wsJ60, w ∈ lw_tbl := by decide +kernel
theorem inJ13 : ∀ w ∈ wsJ130, w ∈ lw_tbl := by decide +kernel
theorem inJ9 : ∀ w ∈ wsJ90, w ∈ lw_tbl := by decide +kernel
theorem inJ10 : ∀ w ∈ wsJ100, w ∈ lw_tbl := by decide +kernel
end
section
set_option maxRecDepth 20000 in
theorem ggX0_init_X3_init : GoodIn wsX0_init wsX3_init := goodIn_r _ [12, 13, 2, 3, 4, 14, 15, 24, 25, 26, 27, 28, 29, 30, 31, 32] (by decide +kernel) (by decide +kernel)
set_option maxRecDepth 20000 in
theorem gX0_init_X3_init_n17 : GoodIn wsX0_init (wsX3_init) := ggX0_init_X3_init
theorem dX0_init_0 : decode cX0_init 0 = .ok (.aload_n 0, 1) := by decide +kernel
theorem dX0_init_1 : decode cX0_init 1 = .ok (.invokespecial 3, 3) := by decide +kernel
theorem dX0_init_4 : decode cX0_init 4 = .ok (.aload_n 0, 1) := by decide +kernel
theorem dX0_init_5 : decode cX0_init 5 = .ok (.bipush 8, 2) := by decide +kernel
theorem dX0_init_7 : decode cX0_init 7 = .ok (.newarray .int, 2) := by decide +kernel
theorem dX0_init_9 : decode cX0_init 9 = .ok (.putfield 9, 3) := by decide +kernel
theorem dX0_init_12 : decode cX0_init 12 = .ok (.aload_n 0, 1) := by decide +kernel
theorem dX0_init_13 : decode cX0_init 13 = .ok (.new 15, 3) := by decide +kernel
theorem dX0_init_16 : decode cX0_init 16 = .ok (.dup, 1) := by decide +kernel
theorem dX0_init_17 : decode cX0_init 17 = .ok (.invokespecial 17, 3) := by decide +kernel
theorem dX0_init_20 : decode cX0_init 20 = .ok (.putfield 18, 3) := by decide +kernel
theorem dX0_init_23 : decode cX0_init 23 = .ok (.aload_n 0, 1) := by decide +kernel
theorem dX0_init_24 : decode cX0_init 24 = .ok (.iload_n 1, 1) := by decide +kernel
theorem dX0_init_25 : decode cX0_init 25 = .ok (.putfield 22, 3) := by decide +kernel
theorem dX0_init_28 : decode cX0_init 28 = .ok (.return_, 1) := by decide +kernel
theorem dX0_put_0 : decode cX0_put 0 = .ok (.iload_n 1, 1) := by decide +kernel
theorem dX0_put_1 : decode cX0_put 1 = .ok (.ifCond .eq 10, 3) := by decide +kernel
theorem dX0_put_4 : decode cX0_put 4 = .ok (.aload_n 0, 1) := by decide +kernel
theorem dX0_put_5 : decode cX0_put 5 = .ok (.getfield 9, 3) := by decide +kernel
theorem dX0_put_8 : decode cX0_put 8 = .ok (.iload_n 1, 1) := by decide +kernel
theorem dX0_put_9 : decode cX0_put 9 = .ok (.iload_n 2, 1) := by decide +kernel
theorem dX0_put_10 : decode cX0_put 10 = .ok (.iastore, 1) := by decide +kernel
theorem dX0_put_11 : decode cX0_put 11 = .ok (.return_, 1) := by decide +kernel
set_option maxRecDepth 20000 in
theorem ggX0_reset_X3_close : GoodIn wsX0_reset wsX3_close := goodIn_r _ [12, 13, 14, 15, 16, 17, 26, 27, 28, 29, 30, 31, 32, 33, 34] (by decide +kernel) (by decide +kernel)
set_option maxRecDepth 20000 in
theorem gX0_reset_X3_close : GoodIn wsX0_reset (wsV RX0 26 RX3 yX3_close wsX3_close) := goodIn_app (goodIn_of _ (by decide +kernel)) ggX0_reset_X3_close
theorem dX0_reset_0 : decode cX0_reset 0 = .ok (.iconst 0, 1) := by decide +kernel
theorem dX0_reset_1 : decode cX0_reset 1 = .ok (.istore_n 1, 1) := by decide +kernel
theorem dX0_reset_2 : decode cX0_reset 2 = .ok (.iload_n 1, 1) := by decide +kernel
theorem dX0_reset_3 : decode cX0_reset 3 = .ok (.bipush 8, 2) := by decide +kernel
theorem dX0_reset_5 : decode cX0_reset 5 = .ok (.if_icmp .ge 16, 3) := by decide +kernel
theorem dX0_reset_8 : decode cX0_reset 8 = .ok (.aload_n 0, 1) := by decide +kernel
theorem dX0_reset_9 : decode cX0_reset 9 = .ok (.getfield 9, 3) := by decide +kernel
theorem dX0_reset_12 : decode cX0_reset 12 = .ok (.iload_n 1, 1) := by decide +kernel
theorem dX0_reset_13 : decode cX0_reset 13 = .ok (.iconst 0, 1) := by decide +kernel
theorem dX0_reset_14 : decode cX0_reset 14 = .ok (.iastore, 1) := by decide +kernel
theorem dX0_reset_15 : decode cX0_reset 15 = .ok (.iinc 1 1, 3) := by decide +kernel
theorem dX0_reset_18 : decode cX0_reset 18 = .ok (.goto (-16), 3) := by decide +kernel
theorem dX0_reset_21 : decode cX0_reset 21 = .ok (.aload_n 0, 1) := by decide +kernel
theorem dX0_reset_22 : decode cX0_reset 22 = .ok (.getfield 18, 3) := by decide +kernel
theorem dX0_reset_25 : decode cX0_reset 25 = .ok (.invokevirtual 26, 3) := by decide +kernel
theorem dX0_reset_28 : decode cX0_reset 28 = .ok (.aload_n 0, 1) := by decide +kernel
theorem dX0_reset_29 : decode cX0_reset 29 = .ok (.iconst 0, 1) := by decide +kernel
theorem dX0_reset_30 : decode cX0_reset 30 = .ok (.putfield 29, 3) := by decide +kernel
theorem dX0_reset_33 : decode cX0_reset 33 = .ok (.aload_n 0, 1) := by decide +kernel
theorem dX0_reset_34 : decode cX0_reset 34 = .ok (.iconst 0, 1) := by decide +kernel
theorem dX0_reset_35 : decode cX0_reset 35 = .ok (.putfield 32, 3) := by decide +kernel
theorem dX0_reset_38 : decode cX0_reset 38 = .ok (.aload_n 0, 1) := by decide +kernel
theorem dX0_reset_39 : decode cX0_reset 39 = .ok (.iconst 0, 1) := by decide +kernel
theorem dX0_reset_40 : decode cX0_reset 40 = .ok (.putfield 36, 3) := by decide +kernel
theorem dX0_reset_43 : decode cX0_reset 43 = .ok (.aload_n 0, 1) := by decide +kernel
theorem dX0_reset_44 : decode cX0_reset 44 = .ok (.iconst 0, 1) := by decide +kernel
theorem dX0_reset_45 : decode cX0_reset 45 = .ok (.putfield 39, 3) := by decide +kernel
theorem dX0_reset_48 : decode cX0_reset 48 = .ok (.aload_n 0, 1) := by decide +kernel
theorem dX0_reset_49 : decode cX0_reset 49 = .ok (.iconst 0, 1) := by decide +kernel
theorem dX0_reset_50 : decode cX0_reset 50 = .ok (.putfield 42, 3) := by decide +kernel
theorem dX0_reset_53 : decode cX0_reset 53 = .ok (.return_, 1) := by decide +kernel
theorem dX1_init_0 : decode cX1_init 0 = .ok (.aload_n 0, 1) := by decide +kernel
theorem dX1_init_1 : decode cX1_init 1 = .ok (.invokespecial 3, 3) := by decide +kernel
theorem dX1_init_4 : decode cX1_init 4 = .ok (.aload_n 0, 1) := by decide +kernel
theorem dX1_init_5 : decode cX1_init 5 = .ok (.bipush 80, 2) := by decide +kernel
theorem dX1_init_7 : decode cX1_init 7 = .ok (.newarray .int, 2) := by decide +kernel
theorem dX1_init_9 : decode cX1_init 9 = .ok (.putfield 9, 3) := by decide +kernel
theorem dX1_init_12 : decode cX1_init 12 = .ok (.aload_n 0, 1) := by decide +kernel
theorem dX1_init_13 : decode cX1_init 13 = .ok (.bipush 80, 2) := by decide +kernel
theorem dX1_init_15 : decode cX1_init 15 = .ok (.newarray .int, 2) := by decide +kernel
theorem dX1_init_17 : decode cX1_init 17 = .ok (.putfield 15, 3) := by decide +kernel
theorem dX1_init_20 : decode cX1_init 20 = .ok (.aload_n 0, 1) := by decide +kernel
theorem dX1_init_21 : decode cX1_init 21 = .ok (.bipush 80, 2) := by decide +kernel
theorem dX1_init_23 : decode cX1_init 23 = .ok (.newarray .int, 2) := by decide +kernel
theorem dX1_init_25 : decode cX1_init 25 = .ok (.putfield 18, 3) := by decide +kernel
theorem dX1_init_28 : decode cX1_init 28 = .ok (.aload_n 0, 1) := by decide +kernel
theorem dX1_init_29 : decode cX1_init 29 = .ok (.bipush 80, 2) := by decide +kernel
theorem dX1_init_31 : decode cX1_init 31 = .ok (.newarray .int, 2) := by decide +kernel
theorem dX1_init_33 : decode cX1_init 33 = .ok (.putfield 21, 3) := by decide +kernel
theorem dX1_init_36 : decode cX1_init 36 = .ok (.return_, 1) := by decide +kernel
theorem dX1_append_0 : decode cX1_append 0 = .ok (.aload_n 0, 1) := by decide +kernel
theorem dX1_append_1 : decode cX1_append 1 = .ok (.getfield 24, 3) := by decide +kernel
theorem dX1_append_4 : decode cX1_append 4 = .ok (.istore 5, 2) := by decide +kernel
theorem dX1_append_6 : decode cX1_append 6 = .ok (.aload_n 0, 1) := by decide +kernel
theorem dX1_append_7 : decode cX1_append 7 = .ok (.getfield 9, 3) := by decide +kernel
theorem dX1_append_10 : decode cX1_append 10 = .ok (.iload 5, 2) := by decide +kernel
theorem dX1_append_12 : decode cX1_append 12 = .ok (.iload_n 1, 1) := by decide +kernel
theorem dX1_append_13 : decode cX1_append 13 = .ok (.iastore, 1) := by decide +kernel
theorem dX1_append_14 : decode cX1_append 14 = .ok (.aload_n 0, 1) := by decide +kernel
theorem dX1_append_15 : decode cX1_append 15 = .ok (.getfield 15, 3) := by decide +kernel
theorem dX1_append_18 : decode cX1_append 18 = .ok (.iload 5, 2) := by decide +kernel
theorem dX1_append_20 : decode cX1_append 20 = .ok (.iload_n 2, 1) := by decide +kernel
theorem dX1_append_21 : decode cX1_append 21 = .ok (.iastore, 1) := by decide +kernel
theorem dX1_append_22 : decode cX1_append 22 = .ok (.aload_n 0, 1) := by decide +kernel
theorem dX1_append_23 : decode cX1_append 23 = .ok (.getfield 18, 3) := by decide +kernel
theorem dX1_append_26 : decode cX1_append 26 = .ok (.iload 5, 2) := by decide +kernel
theorem dX1_append_28 : decode cX1_append 28 = .ok (.iload_n 3, 1) := by decide +kernel
theorem dX1_append_29 : decode cX1_append 29 = .ok (.iastore, 1) := by decide +kernel
theorem dX1_append_30 : decode cX1_append 30 = .ok (.aload_n 0, 1) := by decide +kernel
theorem dX1_append_31 : decode cX1_append 31 = .ok (.getfield 21, 3) := by decide +kernel
theorem dX1_append_34 : decode cX1_append 34 = .ok (.iload 5, 2) := by decide +kernel
theorem dX1_append_36 : decode cX1_append 36 = .ok (.iload 4, 2) := by decide +kernel
theorem dX1_append_38 : decode cX1_append 38 = .ok (.iastore, 1) := by decide +kernel
theorem dX1_append_39 : decode cX1_append 39 = .ok (.aload_n 0, 1) := by decide +kernel
theorem dX1_append_40 : decode cX1_append 40 = .ok (.dup, 1) := by decide +kernel
theorem dX1_append_41 : decode cX1_append 41 = .ok (.getfield 24, 3) := by decide +kernel
theorem dX1_append_44 : decode cX1_append 44 = .ok (.iconst 1, 1) := by decide +kernel
theorem dX1_append_45 : decode cX1_append 45 = .ok (.iadd, 1) := by decide +kernel
theorem dX1_append_46 : decode cX1_append 46 = .ok (.putfield 24, 3) := by decide +kernel
theorem dX1_append_49 : decode cX1_append 49 = .ok (.iload 5, 2) := by decide +kernel
theorem dX1_append_51 : decode cX1_append 51 = .ok (.ireturn, 1) := by decide +kernel
theorem dX2_init_0 : decode cX2_init 0 = .ok (.aload_n 0, 1) := by decide +kernel
theorem dX2_init_1 : decode cX2_init 1 = .ok (.invokespecial 3, 3) := by decide +kernel
theorem dX2_init_4 : decode cX2_init 4 = .ok (.aload_n 0, 1) := by decide +kernel
theorem dX2_init_5 : decode cX2_init 5 = .ok (.sipush 400, 3) := by decide +kernel
theorem dX2_init_8 : decode cX2_init 8 = .ok (.newarray .int, 2) := by decide +kernel
theorem dX2_init_10 : decode cX2_init 10 = .ok (.putfield 9, 3) := by decide +kernel
theorem dX2_init_13 : decode cX2_init 13 = .ok (.return_, 1) := by decide +kernel
theorem dX2_add_0 : decode cX2_add 0 = .ok (.aload_n 0, 1) := by decide +kernel
theorem dX2_add_1 : decode cX2_add 1 = .ok (.getfield 15, 3) := by decide +kernel
theorem dX2_add_4 : decode cX2_add 4 = .ok (.aload_n 0, 1) := by decide +kernel
theorem dX2_add_5 : decode cX2_add 5 = .ok (.getfield 19, 3) := by decide +kernel
theorem dX2_add_8 : decode cX2_add 8 = .ok (.iadd, 1) := by decide +kernel
theorem dX2_add_9 : decode cX2_add 9 = .ok (.bipush 100, 2) := by decide +kernel
theorem dX2_add_11 : decode cX2_add 11 = .ok (.irem, 1) := by decide +kernel
theorem dX2_add_12 : decode cX2_add 12 = .ok (.iconst 4, 1) := by decide +kernel
theorem dX2_add_13 : decode cX2_add 13 = .ok (.imul, 1) := by decide +kernel
theorem dX2_add_14 : decode cX2_add 14 = .ok (.istore 5, 2) := by decide +kernel
theorem dX2_add_16 : decode cX2_add 16 = .ok (.aload_n 0, 1) := by decide +kernel
theorem dX2_add_17 : decode cX2_add 17 = .ok (.getfield 9, 3) := by decide +kernel
theorem dX2_add_20 : decode cX2_add 20 = .ok (.iload 5, 2) := by decide +kernel
theorem dX2_add_22 : decode cX2_add 22 = .ok (.iload_n 1, 1) := by decide +kernel
theorem dX2_add_23 : decode cX2_add 23 = .ok (.iastore, 1) := by decide +kernel
theorem dX2_add_24 : decode cX2_add 24 = .ok (.aload_n 0, 1) := by decide +kernel
theorem dX2_add_25 : decode cX2_add 25 = .ok (.getfield 9, 3) := by decide +kernel
theorem dX2_add_28 : decode cX2_add 28 = .ok (.iload 5, 2) := by decide +kernel
theorem dX2_add_30 : decode cX2_add 30 = .ok (.iconst 1, 1) := by decide +kernel
theorem dX2_add_31 : decode cX2_add 31 = .ok (.iadd, 1) := by decide +kernel
theorem dX2_add_32 : decode cX2_add 32 = .ok (.iload_n 2, 1) := by decide +kernel
theorem dX2_add_33 : decode cX2_add 33 = .ok (.iastore, 1) := by decide +kernel
theorem dX2_add_34 : decode cX2_add 34 = .ok (.aload_n 0, 1) := by decide +kernel
theorem dX2_add_35 : decode cX2_add 35 = .ok (.getfield 9, 3) := by decide +kernel
theorem dX2_add_38 : decode cX2_add 38 = .ok (.iload 5, 2) := by decide +kernel
theorem dX2_add_40 : decode cX2_add 40 = .ok (.iconst 2, 1) := by decide +kernel
theorem dX2_add_41 : decode cX2_add 41 = .ok (.iadd, 1) := by decide +kernel
theorem dX2_add_42 : decode cX2_add 42 = .ok (.iload_n 3, 1) := by decide +kernel
theorem dX2_add_43 : decode cX2_add 43 = .ok (.iastore, 1) := by decide +kernel
theorem dX2_add_44 : decode cX2_add 44 = .ok (.aload_n 0, 1) := by decide +kernel
theorem dX2_add_45 : decode cX2_add 45 = .ok (.getfield 9, 3) := by decide +kernel
theorem dX2_add_48 : decode cX2_add 48 = .ok (.iload 5, 2) := by decide +kernel
theorem dX2_add_50 : decode cX2_add 50 = .ok (.iconst 3, 1) := by decide +kernel
theorem dX2_add_51 : decode cX2_add 51 = .ok (.iadd, 1) := by decide +kernel
theorem dX2_add_52 : decode cX2_add 52 = .ok (.iload 4, 2) := by decide +kernel
theorem dX2_add_54 : decode cX2_add 54 = .ok (.iastore, 1) := by decide +kernel
theorem dX2_add_55 : decode cX2_add 55 = .ok (.aload_n 0, 1) := by decide +kernel
theorem dX2_add_56 : decode cX2_add 56 = .ok (.getfield 19, 3) := by decide +kernel
theorem dX2_add_59 : decode cX2_add 59 = .ok (.bipush 100, 2) := by decide +kernel
theorem dX2_add_61 : decode cX2_add 61 = .ok (.if_icmp .ge 16, 3) := by decide +kernel
theorem dX2_add_64 : decode cX2_add 64 = .ok (.aload_n 0, 1) := by decide +kernel
theorem dX2_add_65 : decode cX2_add 65 = .ok (.dup, 1) := by decide +kernel
theorem dX2_add_66 : decode cX2_add 66 = .ok (.getfield 19, 3) := by decide +kernel
theorem dX2_add_69 : decode cX2_add 69 = .ok (.iconst 1, 1) := by decide +kernel
theorem dX2_add_70 : decode cX2_add 70 = .ok (.iadd, 1) := by decide +kernel
theorem dX2_add_71 : decode cX2_add 71 = .ok (.putfield 19, 3) := by decide +kernel
theorem dX2_add_74 : decode cX2_add 74 = .ok (.goto 16, 3) := by decide +kernel
theorem dX2_add_77 : decode cX2_add 77 = .ok (.aload_n 0, 1) := by decide +kernel
theorem dX2_add_78 : decode cX2_add 78 = .ok (.aload_n 0, 1) := by decide +kernel
theorem dX2_add_79 : decode cX2_add 79 = .ok (.getfield 15, 3) := by decide +kernel
theorem dX2_add_82 : decode cX2_add 82 = .ok (.iconst 1, 1) := by decide +kernel
theorem dX2_add_83 : decode cX2_add 83 = .ok (.iadd, 1) := by decide +kernel
theorem dX2_add_84 : decode cX2_add 84 = .ok (.bipush 100, 2) := by decide +kernel
theorem dX2_add_86 : decode cX2_add 86 = .ok (.irem, 1) := by decide +kernel
theorem dX2_add_87 : decode cX2_add 87 = .ok (.putfield 15, 3) := by decide +kernel
theorem dX2_add_90 : decode cX2_add 90 = .ok (.return_, 1) := by decide +kernel
theorem dX2_field_0 : decode cX2_field 0 = .ok (.aload_n 0, 1) := by decide +kernel
theorem dX2_field_1 : decode cX2_field 1 = .ok (.getfield 9, 3) := by decide +kernel
theorem dX2_field_4 : decode cX2_field 4 = .ok (.aload_n 0, 1) := by decide +kernel
theorem dX2_field_5 : decode cX2_field 5 = .ok (.getfield 15, 3) := by decide +kernel
theorem dX2_field_8 : decode cX2_field 8 = .ok (.iload_n 1, 1) := by decide +kernel
theorem dX2_field_9 : decode cX2_field 9 = .ok (.iadd, 1) := by decide +kernel
theorem dX2_field_10 : decode cX2_field 10 = .ok (.bipush 100, 2) := by decide +kernel
theorem dX2_field_12 : decode cX2_field 12 = .ok (.irem, 1) := by decide +kernel
theorem dX2_field_13 : decode cX2_field 13 = .ok (.iconst 4, 1) := by decide +kernel
theorem dX2_field_14 : decode cX2_field 14 = .ok (.imul, 1) := by decide +kernel
theorem dX2_field_15 : decode cX2_field 15 = .ok (.iload_n 2, 1) := by decide +kernel
theorem dX2_field_16 : decode cX2_field 16 = .ok (.iadd, 1) := by decide +kernel
theorem dX2_field_17 : decode cX2_field 17 = .ok (.iaload, 1) := by decide +kernel
theorem dX2_field_18 : decode cX2_field 18 = .ok (.ireturn, 1) := by decide +kernel
theorem dX2_forget_0 : decode cX2_forget 0 = .ok (.aload_n 0, 1) := by decide +kernel
theorem dX2_forget_1 : decode cX2_forget 1 = .ok (.iconst 0, 1) := by decide +kernel
theorem dX2_forget_2 : decode cX2_forget 2 = .ok (.putfield 19, 3) := by decide +kernel
theorem dX2_forget_5 : decode cX2_forget 5 = .ok (.aload_n 0, 1) := by decide +kernel
theorem dX2_forget_6 : decode cX2_forget 6 = .ok (.iconst 0, 1) := by decide +kernel
theorem dX2_forget_7 : decode cX2_forget 7 = .ok (.putfield 15, 3) := by decide +kernel
theorem dX2_forget_10 : decode cX2_forget 10 = .ok (.return_, 1) := by decide +kernel
theorem dX3_init_0 : decode cX3_init 0 = .ok (.aload_n 0, 1) := by decide +kernel
theorem dX3_init_1 : decode cX3_init 1 = .ok (.invokespecial 3, 3) := by decide +kernel
theorem dX3_init_4 : decode cX3_init 4 = .ok (.aload_n 0, 1) := by decide +kernel
theorem dX3_init_5 : decode cX3_init 5 = .ok (.bipush 8, 2) := by decide +kernel
theorem dX3_init_7 : decode cX3_init 7 = .ok (.newarray .int, 2) := by decide +kernel
theorem dX3_init_9 : decode cX3_init 9 = .ok (.putfield 9, 3) := by decide +kernel
theorem dX3_init_12 : decode cX3_init 12 = .ok (.aload_n 0, 1) := by decide +kernel
theorem dX3_init_13 : decode cX3_init 13 = .ok (.bipush 64, 2) := by decide +kernel
theorem dX3_init_15 : decode cX3_init 15 = .ok (.newarray .int, 2) := by decide +kernel
theorem dX3_init_17 : decode cX3_init 17 = .ok (.putfield 15, 3) := by decide +kernel
theorem dX3_init_20 : decode cX3_init 20 = .ok (.return_, 1) := by decide +kernel
theorem dX3_open_0 : decode cX3_open 0 = .ok (.aload_n 0, 1) := by decide +kernel
theorem dX3_open_1 : decode cX3_open 1 = .ok (.iload_n 1, 1) := by decide +kernel
theorem dX3_open_2 : decode cX3_open 2 = .ok (.putfield 18, 3) := by decide +kernel
theorem dX3_open_5 : decode cX3_open 5 = .ok (.aload_n 0, 1) := by decide +kernel
theorem dX3_open_6 : decode cX3_open 6 = .ok (.iload_n 2, 1) := by decide +kernel
theorem dX3_open_7 : decode cX3_open 7 = .ok (.putfield 22, 3) := by decide +kernel
theorem dX3_open_10 : decode cX3_open 10 = .ok (.aload_n 0, 1) := by decide +kernel
theorem dX3_open_11 : decode cX3_open 11 = .ok (.iload_n 3, 1) := by decide +kernel
theorem dX3_open_12 : decode cX3_open 12 = .ok (.putfield 25, 3) := by decide +kernel
theorem dX3_open_15 : decode cX3_open 15 = .ok (.aload 4, 2) := by decide +kernel
theorem dX3_open_17 : decode cX3_open 17 = .ok (.iconst 0, 1) := by decide +kernel
theorem dX3_open_18 : decode cX3_open 18 = .ok (.aload_n 0, 1) := by decide +kernel
theorem dX3_open_19 : decode cX3_open 19 = .ok (.getfield 9, 3) := by decide +kernel
theorem dX3_open_22 : decode cX3_open 22 = .ok (.iconst 0, 1) := by decide +kernel
theorem dX3_open_23 : decode cX3_open 23 = .ok (.bipush 8, 2) := by decide +kernel
theorem dX3_open_25 : decode cX3_open 25 = .ok (.invokestatic 28, 3) := by decide +kernel
theorem dX3_open_28 : decode cX3_open 28 = .ok (.return_, 1) := by decide +kernel
theorem dX3_close_0 : decode cX3_close 0 = .ok (.aload_n 0, 1) := by decide +kernel
theorem dX3_close_1 : decode cX3_close 1 = .ok (.iconst 0, 1) := by decide +kernel
theorem dX3_close_2 : decode cX3_close 2 = .ok (.putfield 34, 3) := by decide +kernel
theorem dX3_close_5 : decode cX3_close 5 = .ok (.aload_n 0, 1) := by decide +kernel
theorem dX3_close_6 : decode cX3_close 6 = .ok (.iconst 0, 1) := by decide +kernel
theorem dX3_close_7 : decode cX3_close 7 = .ok (.putfield 18, 3) := by decide +kernel
theorem dX3_close_10 : decode cX3_close 10 = .ok (.aload_n 0, 1) := by decide +kernel
theorem dX3_close_11 : decode cX3_close 11 = .ok (.iconst 0, 1) := by decide +kernel
theorem dX3_close_12 : decode cX3_close 12 = .ok (.putfield 37, 3) := by decide +kernel
theorem dX3_close_15 : decode cX3_close 15 = .ok (.aload_n 0, 1) := by decide +kernel
theorem dX3_close_16 : decode cX3_close 16 = .ok (.iconst 0, 1) := by decide +kernel
theorem dX3_close_17 : decode cX3_close 17 = .ok (.putfield 40, 3) := by decide +kernel
theorem dX3_close_20 : decode cX3_close 20 = .ok (.aload_n 0, 1) := by decide +kernel
theorem dX3_close_21 : decode cX3_close 21 = .ok (.lconst 0, 1) := by decide +kernel
theorem dX3_close_22 : decode cX3_close 22 = .ok (.putfield 43, 3) := by decide +kernel
theorem dX3_close_25 : decode cX3_close 25 = .ok (.return_, 1) := by decide +kernel
theorem dX3_mark_0 : decode cX3_mark 0 = .ok (.iload_n 2, 1) := by decide +kernel
theorem dX3_mark_1 : decode cX3_mark 1 = .ok (.ifCond .eq 18, 3) := by decide +kernel
theorem dX3_mark_4 : decode cX3_mark 4 = .ok (.aload_n 0, 1) := by decide +kernel
theorem dX3_mark_5 : decode cX3_mark 5 = .ok (.dup, 1) := by decide +kernel
theorem dX3_mark_6 : decode cX3_mark 6 = .ok (.getfield 40, 3) := by decide +kernel
theorem dX3_mark_9 : decode cX3_mark 9 = .ok (.iconst 1, 1) := by decide +kernel
theorem dX3_mark_10 : decode cX3_mark 10 = .ok (.iload_n 1, 1) := by decide +kernel
theorem dX3_mark_11 : decode cX3_mark 11 = .ok (.ishl, 1) := by decide +kernel
theorem dX3_mark_12 : decode cX3_mark 12 = .ok (.ior, 1) := by decide +kernel
theorem dX3_mark_13 : decode cX3_mark 13 = .ok (.putfield 40, 3) := by decide +kernel
theorem dX3_mark_16 : decode cX3_mark 16 = .ok (.goto 15, 3) := by decide +kernel
theorem dX3_mark_19 : decode cX3_mark 19 = .ok (.aload_n 0, 1) := by decide +kernel
theorem dX3_mark_20 : decode cX3_mark 20 = .ok (.dup, 1) := by decide +kernel
theorem dX3_mark_21 : decode cX3_mark 21 = .ok (.getfield 37, 3) := by decide +kernel
theorem dX3_mark_24 : decode cX3_mark 24 = .ok (.iconst 1, 1) := by decide +kernel
theorem dX3_mark_25 : decode cX3_mark 25 = .ok (.iload_n 1, 1) := by decide +kernel
theorem dX3_mark_26 : decode cX3_mark 26 = .ok (.ishl, 1) := by decide +kernel
theorem dX3_mark_27 : decode cX3_mark 27 = .ok (.ior, 1) := by decide +kernel
theorem dX3_mark_28 : decode cX3_mark 28 = .ok (.putfield 37, 3) := by decide +kernel
theorem dX3_mark_31 : decode cX3_mark 31 = .ok (.return_, 1) := by decide +kernel
theorem dX3_touches_0 : decode cX3_touches 0 = .ok (.iload_n 2, 1) := by decide +kernel
theorem dX3_touches_1 : decode cX3_touches 1 = .ok (.ifCond .eq 15, 3) := by decide +kernel
theorem dX3_touches_4 : decode cX3_touches 4 = .ok (.aload_n 0, 1) := by decide +kernel
theorem dX3_touches_5 : decode cX3_touches 5 = .ok (.getfield 37, 3) := by decide +kernel
theorem dX3_touches_8 : decode cX3_touches 8 = .ok (.aload_n 0, 1) := by decide +kernel
theorem dX3_touches_9 : decode cX3_touches 9 = .ok (.getfield 40, 3) := by decide +kernel
theorem dX3_touches_12 : decode cX3_touches 12 = .ok (.ior, 1) := by decide +kernel
theorem dX3_touches_13 : decode cX3_touches 13 = .ok (.goto 7, 3) := by decide +kernel
theorem dX3_touches_16 : decode cX3_touches 16 = .ok (.aload_n 0, 1) := by decide +kernel
theorem dX3_touches_17 : decode cX3_touches 17 = .ok (.getfield 40, 3) := by decide +kernel
theorem dX3_touches_20 : decode cX3_touches 20 = .ok (.istore_n 3, 1) := by decide +kernel
theorem dX3_touches_21 : decode cX3_touches 21 = .ok (.iload_n 3, 1) := by decide +kernel
theorem dX3_touches_22 : decode cX3_touches 22 = .ok (.iload_n 1, 1) := by decide +kernel
theorem dX3_touches_23 : decode cX3_touches 23 = .ok (.ishr, 1) := by decide +kernel
theorem dX3_touches_24 : decode cX3_touches 24 = .ok (.iconst 1, 1) := by decide +kernel
theorem dX3_touches_25 : decode cX3_touches 25 = .ok (.iand, 1) := by decide +kernel
theorem dX3_touches_26 : decode cX3_touches 26 = .ok (.iconst 1, 1) := by decide +kernel
theorem dX3_touches_27 : decode cX3_touches 27 = .ok (.if_icmp .ne 7, 3) := by decide +kernel
theorem dX3_touches_30 : decode cX3_touches 30 = .ok (.iconst 1, 1) := by decide +kernel
theorem dX3_touches_31 : decode cX3_touches 31 = .ok (.goto 4, 3) := by decide +kernel
theorem dX3_touches_34 : decode cX3_touches 34 = .ok (.iconst 0, 1) := by decide +kernel
theorem dX3_touches_35 : decode cX3_touches 35 = .ok (.ireturn, 1) := by decide +kernel
theorem dX3_linesInSet_0 : decode cX3_linesInSet 0 = .ok (.iconst 0, 1) := by decide +kernel
theorem dX3_linesInSet_1 : decode cX3_linesInSet 1 = .ok (.istore_n 3, 1) := by decide +kernel
theorem dX3_linesInSet_2 : decode cX3_linesInSet 2 = .ok (.iconst 0, 1) := by decide +kernel
theorem dX3_linesInSet_3 : decode cX3_linesInSet 3 = .ok (.istore 4, 2) := by decide +kernel
theorem dX3_linesInSet_5 : decode cX3_linesInSet 5 = .ok (.iload 4, 2) := by decide +kernel
theorem dX3_linesInSet_7 : decode cX3_linesInSet 7 = .ok (.bipush 16, 2) := by decide +kernel
theorem dX3_linesInSet_9 : decode cX3_linesInSet 9 = .ok (.if_icmp .ge 34, 3) := by decide +kernel
theorem dX3_linesInSet_12 : decode cX3_linesInSet 12 = .ok (.iload 4, 2) := by decide +kernel
theorem dX3_linesInSet_14 : decode cX3_linesInSet 14 = .ok (.iload_n 2, 1) := by decide +kernel
theorem dX3_linesInSet_15 : decode cX3_linesInSet 15 = .ok (.irem, 1) := by decide +kernel
theorem dX3_linesInSet_16 : decode cX3_linesInSet 16 = .ok (.iload_n 1, 1) := by decide +kernel
theorem dX3_linesInSet_17 : decode cX3_linesInSet 17 = .ok (.if_icmp .ne 20, 3) := by decide +kernel
theorem dX3_linesInSet_20 : decode cX3_linesInSet 20 = .ok (.iload_n 3, 1) := by decide +kernel
theorem dX3_linesInSet_21 : decode cX3_linesInSet 21 = .ok (.aload_n 0, 1) := by decide +kernel
theorem dX3_linesInSet_22 : decode cX3_linesInSet 22 = .ok (.getfield 37, 3) := by decide +kernel
theorem dX3_linesInSet_25 : decode cX3_linesInSet 25 = .ok (.aload_n 0, 1) := by decide +kernel
theorem dX3_linesInSet_26 : decode cX3_linesInSet 26 = .ok (.getfield 40, 3) := by decide +kernel
theorem dX3_linesInSet_29 : decode cX3_linesInSet 29 = .ok (.ior, 1) := by decide +kernel
theorem dX3_linesInSet_30 : decode cX3_linesInSet 30 = .ok (.iload 4, 2) := by decide +kernel
theorem dX3_linesInSet_32 : decode cX3_linesInSet 32 = .ok (.ishr, 1) := by decide +kernel
theorem dX3_linesInSet_33 : decode cX3_linesInSet 33 = .ok (.iconst 1, 1) := by decide +kernel
theorem dX3_linesInSet_34 : decode cX3_linesInSet 34 = .ok (.iand, 1) := by decide +kernel
theorem dX3_linesInSet_35 : decode cX3_linesInSet 35 = .ok (.iadd, 1) := by decide +kernel
theorem dX3_linesInSet_36 : decode cX3_linesInSet 36 = .ok (.istore_n 3, 1) := by decide +kernel
theorem dX3_linesInSet_37 : decode cX3_linesInSet 37 = .ok (.iinc 4 1, 3) := by decide +kernel
theorem dX3_linesInSet_40 : decode cX3_linesInSet 40 = .ok (.goto (-35), 3) := by decide +kernel
theorem dX3_linesInSet_43 : decode cX3_linesInSet 43 = .ok (.iload_n 3, 1) := by decide +kernel
theorem dX3_linesInSet_44 : decode cX3_linesInSet 44 = .ok (.ireturn, 1) := by decide +kernel
theorem dX3_keep_0 : decode cX3_keep 0 = .ok (.aload_n 0, 1) := by decide +kernel
theorem dX3_keep_1 : decode cX3_keep 1 = .ok (.dup, 1) := by decide +kernel
theorem dX3_keep_2 : decode cX3_keep 2 = .ok (.getfield 43, 3) := by decide +kernel
theorem dX3_keep_5 : decode cX3_keep 5 = .ok (.lconst 1, 1) := by decide +kernel
theorem dX3_keep_6 : decode cX3_keep 6 = .ok (.iload_n 1, 1) := by decide +kernel
theorem dX3_keep_7 : decode cX3_keep 7 = .ok (.lshl, 1) := by decide +kernel
theorem dX3_keep_8 : decode cX3_keep 8 = .ok (.lor, 1) := by decide +kernel
theorem dX3_keep_9 : decode cX3_keep 9 = .ok (.putfield 43, 3) := by decide +kernel
theorem dX3_keep_12 : decode cX3_keep 12 = .ok (.aload_n 0, 1) := by decide +kernel
theorem dX3_keep_13 : decode cX3_keep 13 = .ok (.getfield 15, 3) := by decide +kernel
theorem dX3_keep_16 : decode cX3_keep 16 = .ok (.iload_n 1, 1) := by decide +kernel
theorem dX3_keep_17 : decode cX3_keep 17 = .ok (.iload_n 2, 1) := by decide +kernel
theorem dX3_keep_18 : decode cX3_keep 18 = .ok (.iastore, 1) := by decide +kernel
theorem dX3_keep_19 : decode cX3_keep 19 = .ok (.return_, 1) := by decide +kernel
theorem dX3_hasStored_0 : decode cX3_hasStored 0 = .ok (.aload_n 0, 1) := by decide +kernel
theorem dX3_hasStored_1 : decode cX3_hasStored 1 = .ok (.getfield 43, 3) := by decide +kernel
theorem dX3_hasStored_4 : decode cX3_hasStored 4 = .ok (.iload_n 1, 1) := by decide +kernel
theorem dX3_hasStored_5 : decode cX3_hasStored 5 = .ok (.lshr, 1) := by decide +kernel
theorem dX3_hasStored_6 : decode cX3_hasStored 6 = .ok (.lconst 1, 1) := by decide +kernel
theorem dX3_hasStored_7 : decode cX3_hasStored 7 = .ok (.land, 1) := by decide +kernel
theorem dX3_hasStored_8 : decode cX3_hasStored 8 = .ok (.lconst 1, 1) := by decide +kernel
theorem dX3_hasStored_9 : decode cX3_hasStored 9 = .ok (.lcmp, 1) := by decide +kernel
theorem dX3_hasStored_10 : decode cX3_hasStored 10 = .ok (.ifCond .ne 7, 3) := by decide +kernel
theorem dX3_hasStored_13 : decode cX3_hasStored 13 = .ok (.iconst 1, 1) := by decide +kernel
theorem dX3_hasStored_14 : decode cX3_hasStored 14 = .ok (.goto 4, 3) := by decide +kernel
theorem dX3_hasStored_17 : decode cX3_hasStored 17 = .ok (.iconst 0, 1) := by decide +kernel
theorem dX3_hasStored_18 : decode cX3_hasStored 18 = .ok (.ireturn, 1) := by decide +kernel
set_option maxRecDepth 20000 in
theorem ggX3_writeTo_X3_hasStored : GoodIn wsX3_writeTo wsX3_hasStored := goodIn_r _ [6, 7, 8, 9, 10, 11, 12, 13, 14, 15, 16] (by decide +kernel) (by decide +kernel)
set_option maxRecDepth 20000 in
theorem gX3_writeTo_X3_hasStored : GoodIn wsX3_writeTo (wsV RX3 47 RX3 yX3_hasStored wsX3_hasStored) := goodIn_app (goodIn_of _ (by decide +kernel)) ggX3_writeTo_X3_hasStored
theorem dX3_writeTo_0 : decode cX3_writeTo 0 = .ok (.iconst 0, 1) := by decide +kernel
theorem dX3_writeTo_1 : decode cX3_writeTo 1 = .ok (.istore_n 2, 1) := by decide +kernel
theorem dX3_writeTo_2 : decode cX3_writeTo 2 = .ok (.iload_n 2, 1) := by decide +kernel
theorem dX3_writeTo_3 : decode cX3_writeTo 3 = .ok (.bipush 64, 2) := by decide +kernel
theorem dX3_writeTo_5 : decode cX3_writeTo 5 = .ok (.if_icmp .ge 26, 3) := by decide +kernel
theorem dX3_writeTo_8 : decode cX3_writeTo 8 = .ok (.aload_n 0, 1) := by decide +kernel
theorem dX3_writeTo_9 : decode cX3_writeTo 9 = .ok (.iload_n 2, 1) := by decide +kernel
theorem dX3_writeTo_10 : decode cX3_writeTo 10 = .ok (.invokevirtual 47, 3) := by decide +kernel
theorem dX3_writeTo_13 : decode cX3_writeTo 13 = .ok (.ifCond .eq 12, 3) := by decide +kernel
theorem dX3_writeTo_16 : decode cX3_writeTo 16 = .ok (.aload_n 1, 1) := by decide +kernel
theorem dX3_writeTo_17 : decode cX3_writeTo 17 = .ok (.iload_n 2, 1) := by decide +kernel
theorem dX3_writeTo_18 : decode cX3_writeTo 18 = .ok (.aload_n 0, 1) := by decide +kernel
theorem dX3_writeTo_19 : decode cX3_writeTo 19 = .ok (.getfield 15, 3) := by decide +kernel
theorem dX3_writeTo_22 : decode cX3_writeTo 22 = .ok (.iload_n 2, 1) := by decide +kernel
theorem dX3_writeTo_23 : decode cX3_writeTo 23 = .ok (.iaload, 1) := by decide +kernel
theorem dX3_writeTo_24 : decode cX3_writeTo 24 = .ok (.iastore, 1) := by decide +kernel
theorem dX3_writeTo_25 : decode cX3_writeTo 25 = .ok (.iinc 2 1, 3) := by decide +kernel
theorem dX3_writeTo_28 : decode cX3_writeTo 28 = .ok (.goto (-26), 3) := by decide +kernel
theorem dX3_writeTo_31 : decode cX3_writeTo 31 = .ok (.return_, 1) := by decide +kernel
set_option maxRecDepth 20000 in
theorem ggX4_init_X1_init : GoodIn wsX4_init wsX1_init := goodIn_r _ [21, 22, 2, 3, 4, 23, 24, 25, 26, 64, 65, 66, 67, 68] (by decide +kernel) (by decide +kernel)
set_option maxRecDepth 20000 in
theorem gX4_init_X1_init_n15 : GoodIn wsX4_init (wsX1_init) := ggX4_init_X1_init
set_option maxRecDepth 20000 in
theorem ggX4_init_X2_init : GoodIn wsX4_init wsX2_init := goodIn_r _ [28, 29, 2, 3, 4, 30, 69, 70, 71] (by decide +kernel) (by decide +kernel)
set_option maxRecDepth 20000 in
theorem gX4_init_X2_init_n22 : GoodIn wsX4_init (wsX2_init) := ggX4_init_X2_init
set_option maxRecDepth 20000 in
theorem ggX4_init_X4_nearest : GoodIn wsX4_init wsX4_nearest := goodIn_r _ [34, 35, 36, 37, 38, 39, 40, 41] (by decide +kernel) (by decide +kernel)
set_option maxRecDepth 20000 in
theorem gX4_init_X4_nearest : GoodIn wsX4_init (va_wsS RX4 27 yX4_nearest wsX4_nearest) := goodIn_app (goodIn_of _ (by decide +kernel)) ggX4_init_X4_nearest
set_option maxRecDepth 20000 in
theorem ggX4_init_X0_init : GoodIn wsX4_init wsX0_init := goodIn_r _ [44, 45, 2, 3, 4, 46, 47, 48, 49, 50, 51, 52, 53, 54, 55, 56, 72, 73, 74, 75, 76, 77, 78, 79, 80, 81, 82, 83, 84, 85, 86, 87, 88] (by decide +kernel) (by decide +kernel)
set_option maxRecDepth 20000 in
theorem gX4_init_X0_init : GoodIn wsX4_init (wsX0_init) := ggX4_init_X0_init
theorem dX4_init_0 : decode cX4_init 0 = .ok (.aload_n 0, 1) := by decide +kernel
theorem dX4_init_1 : decode cX4_init 1 = .ok (.invokespecial 1, 3) := by decide +kernel
theorem dX4_init_4 : decode cX4_init 4 = .ok (.aload_n 0, 1) := by decide +kernel
theorem dX4_init_5 : decode cX4_init 5 = .ok (.bipush 64, 2) := by decide +kernel
theorem dX4_init_7 : decode cX4_init 7 = .ok (.newarray .int, 2) := by decide +kernel
theorem dX4_init_9 : decode cX4_init 9 = .ok (.putfield 9, 3) := by decide +kernel
theorem dX4_init_12 : decode cX4_init 12 = .ok (.aload_n 0, 1) := by decide +kernel
theorem dX4_init_13 : decode cX4_init 13 = .ok (.new 13, 3) := by decide +kernel
theorem dX4_init_16 : decode cX4_init 16 = .ok (.dup, 1) := by decide +kernel
theorem dX4_init_17 : decode cX4_init 17 = .ok (.invokespecial 15, 3) := by decide +kernel
theorem dX4_init_20 : decode cX4_init 20 = .ok (.putfield 16, 3) := by decide +kernel
theorem dX4_init_23 : decode cX4_init 23 = .ok (.aload_n 0, 1) := by decide +kernel
theorem dX4_init_24 : decode cX4_init 24 = .ok (.new 20, 3) := by decide +kernel
theorem dX4_init_27 : decode cX4_init 27 = .ok (.dup, 1) := by decide +kernel
theorem dX4_init_28 : decode cX4_init 28 = .ok (.invokespecial 22, 3) := by decide +kernel
theorem dX4_init_31 : decode cX4_init 31 = .ok (.putfield 23, 3) := by decide +kernel
theorem dX4_init_34 : decode cX4_init 34 = .ok (.iload_n 1, 1) := by decide +kernel
theorem dX4_init_35 : decode cX4_init 35 = .ok (.iconst 1, 1) := by decide +kernel
theorem dX4_init_36 : decode cX4_init 36 = .ok (.iconst 4, 1) := by decide +kernel
theorem dX4_init_37 : decode cX4_init 37 = .ok (.invokestatic 27, 3) := by decide +kernel
theorem dX4_init_40 : decode cX4_init 40 = .ok (.istore 4, 2) := by decide +kernel
theorem dX4_init_42 : decode cX4_init 42 = .ok (.aload_n 0, 1) := by decide +kernel
theorem dX4_init_43 : decode cX4_init 43 = .ok (.iconst 1, 1) := by decide +kernel
theorem dX4_init_44 : decode cX4_init 44 = .ok (.iload_n 2, 1) := by decide +kernel
theorem dX4_init_45 : decode cX4_init 45 = .ok (.iconst 0, 1) := by decide +kernel
theorem dX4_init_46 : decode cX4_init 46 = .ok (.iconst 2, 1) := by decide +kernel
theorem dX4_init_47 : decode cX4_init 47 = .ok (.invokestatic 27, 3) := by decide +kernel
theorem dX4_init_50 : decode cX4_init 50 = .ok (.ishl, 1) := by decide +kernel
theorem dX4_init_51 : decode cX4_init 51 = .ok (.putfield 31, 3) := by decide +kernel
theorem dX4_init_54 : decode cX4_init 54 = .ok (.aload_n 0, 1) := by decide +kernel
theorem dX4_init_55 : decode cX4_init 55 = .ok (.iload_n 3, 1) := by decide +kernel
theorem dX4_init_56 : decode cX4_init 56 = .ok (.iconst 1, 1) := by decide +kernel
theorem dX4_init_57 : decode cX4_init 57 = .ok (.iconst 4, 1) := by decide +kernel
theorem dX4_init_58 : decode cX4_init 58 = .ok (.invokestatic 27, 3) := by decide +kernel
theorem dX4_init_61 : decode cX4_init 61 = .ok (.putfield 35, 3) := by decide +kernel
theorem dX4_init_64 : decode cX4_init 64 = .ok (.aload_n 0, 1) := by decide +kernel
theorem dX4_init_65 : decode cX4_init 65 = .ok (.iload 4, 2) := by decide +kernel
theorem dX4_init_67 : decode cX4_init 67 = .ok (.anewarray 38, 3) := by decide +kernel
theorem dX4_init_70 : decode cX4_init 70 = .ok (.putfield 40, 3) := by decide +kernel
theorem dX4_init_73 : decode cX4_init 73 = .ok (.iconst 0, 1) := by decide +kernel
theorem dX4_init_74 : decode cX4_init 74 = .ok (.istore 5, 2) := by decide +kernel
theorem dX4_init_76 : decode cX4_init 76 = .ok (.iload 5, 2) := by decide +kernel
theorem dX4_init_78 : decode cX4_init 78 = .ok (.iload 4, 2) := by decide +kernel
theorem dX4_init_80 : decode cX4_init 80 = .ok (.if_icmp .ge 25, 3) := by decide +kernel
theorem dX4_init_83 : decode cX4_init 83 = .ok (.aload_n 0, 1) := by decide +kernel
theorem dX4_init_84 : decode cX4_init 84 = .ok (.getfield 40, 3) := by decide +kernel
theorem dX4_init_87 : decode cX4_init 87 = .ok (.iload 5, 2) := by decide +kernel
theorem dX4_init_89 : decode cX4_init 89 = .ok (.new 38, 3) := by decide +kernel
theorem dX4_init_92 : decode cX4_init 92 = .ok (.dup, 1) := by decide +kernel
theorem dX4_init_93 : decode cX4_init 93 = .ok (.iload 5, 2) := by decide +kernel
theorem dX4_init_95 : decode cX4_init 95 = .ok (.invokespecial 44, 3) := by decide +kernel
theorem dX4_init_98 : decode cX4_init 98 = .ok (.aastore, 1) := by decide +kernel
theorem dX4_init_99 : decode cX4_init 99 = .ok (.iinc 5 1, 3) := by decide +kernel
theorem dX4_init_102 : decode cX4_init 102 = .ok (.goto (-26), 3) := by decide +kernel
theorem dX4_init_105 : decode cX4_init 105 = .ok (.return_, 1) := by decide +kernel
set_option maxRecDepth 20000 in
theorem ggX4_instruction_X4_namesRegisters : GoodIn wsX4_instruction wsX4_namesRegisters := goodIn_r _ [10, 11, 12, 9, 13] (by decide +kernel) (by decide +kernel)
set_option maxRecDepth 20000 in
theorem gX4_instruction_X4_namesRegisters : GoodIn wsX4_instruction (va_wsS RX4 47 yX4_namesRegisters wsX4_namesRegisters) := goodIn_app (goodIn_of _ (by decide +kernel)) ggX4_instruction_X4_namesRegisters
set_option maxRecDepth 20000 in
theorem ggX4_instruction_X1_append : GoodIn wsX4_instruction wsX1_append := goodIn_r _ [18, 19, 20, 21, 22, 23, 31, 32, 33, 34, 35] (by decide +kernel) (by decide +kernel)
set_option maxRecDepth 20000 in
theorem gX4_instruction_X1_append : GoodIn wsX4_instruction (wsV RX4 60 RX1 yX1_append wsX1_append) := goodIn_app (goodIn_of _ (by decide +kernel)) ggX4_instruction_X1_append
theorem dX4_instruction_0 : decode cX4_instruction 0 = .ok (.iload_n 1, 1) := by decide +kernel
theorem dX4_instruction_1 : decode cX4_instruction 1 = .ok (.ifCond .lt 20, 3) := by decide +kernel
theorem dX4_instruction_4 : decode cX4_instruction 4 = .ok (.iload_n 1, 1) := by decide +kernel
theorem dX4_instruction_5 : decode cX4_instruction 5 = .ok (.bipush 13, 2) := by decide +kernel
theorem dX4_instruction_7 : decode cX4_instruction 7 = .ok (.if_icmp .gt 14, 3) := by decide +kernel
theorem dX4_instruction_10 : decode cX4_instruction 10 = .ok (.iload_n 1, 1) := by decide +kernel
theorem dX4_instruction_11 : decode cX4_instruction 11 = .ok (.iload_n 2, 1) := by decide +kernel
theorem dX4_instruction_12 : decode cX4_instruction 12 = .ok (.iload_n 3, 1) := by decide +kernel
theorem dX4_instruction_13 : decode cX4_instruction 13 = .ok (.iload 4, 2) := by decide +kernel
theorem dX4_instruction_15 : decode cX4_instruction 15 = .ok (.invokestatic 47, 3) := by decide +kernel
theorem dX4_instruction_18 : decode cX4_instruction 18 = .ok (.ifCond .ne 11, 3) := by decide +kernel
theorem dX4_instruction_21 : decode cX4_instruction 21 = .ok (.new 51, 3) := by decide +kernel
theorem dX4_instruction_24 : decode cX4_instruction 24 = .ok (.dup, 1) := by decide +kernel
theorem dX4_instruction_25 : decode cX4_instruction 25 = .ok (.invokespecial 53, 3) := by decide +kernel
theorem dX4_instruction_28 : decode cX4_instruction 28 = .ok (.athrow, 1) := by decide +kernel
theorem dX4_instruction_29 : decode cX4_instruction 29 = .ok (.aload_n 0, 1) := by decide +kernel
theorem dX4_instruction_30 : decode cX4_instruction 30 = .ok (.getfield 16, 3) := by decide +kernel
theorem dX4_instruction_33 : decode cX4_instruction 33 = .ok (.getfield 54, 3) := by decide +kernel
theorem dX4_instruction_36 : decode cX4_instruction 36 = .ok (.bipush 80, 2) := by decide +kernel
theorem dX4_instruction_38 : decode cX4_instruction 38 = .ok (.if_icmp .lt 11, 3) := by decide +kernel
theorem dX4_instruction_41 : decode cX4_instruction 41 = .ok (.new 57, 3) := by decide +kernel
theorem dX4_instruction_44 : decode cX4_instruction 44 = .ok (.dup, 1) := by decide +kernel
theorem dX4_instruction_45 : decode cX4_instruction 45 = .ok (.invokespecial 59, 3) := by decide +kernel
theorem dX4_instruction_48 : decode cX4_instruction 48 = .ok (.athrow, 1) := by decide +kernel
theorem dX4_instruction_49 : decode cX4_instruction 49 = .ok (.aload_n 0, 1) := by decide +kernel
theorem dX4_instruction_50 : decode cX4_instruction 50 = .ok (.getfield 16, 3) := by decide +kernel
theorem dX4_instruction_53 : decode cX4_instruction 53 = .ok (.iload_n 1, 1) := by decide +kernel
theorem dX4_instruction_54 : decode cX4_instruction 54 = .ok (.iload_n 2, 1) := by decide +kernel
theorem dX4_instruction_55 : decode cX4_instruction 55 = .ok (.iload_n 3, 1) := by decide +kernel
theorem dX4_instruction_56 : decode cX4_instruction 56 = .ok (.iload 4, 2) := by decide +kernel
theorem dX4_instruction_58 : decode cX4_instruction 58 = .ok (.invokevirtual 60, 3) := by decide +kernel
theorem dX4_instruction_61 : decode cX4_instruction 61 = .ok (.ireturn, 1) := by decide +kernel
set_option maxRecDepth 20000 in
theorem ggX4_start_X4_isCore : GoodIn wsX4_start wsX4_isCore := goodIn_r _ [13, 5, 24, 25, 26, 27, 28, 29, 30] (by decide +kernel) (by decide +kernel)
set_option maxRecDepth 20000 in
theorem gX4_start_X4_isCore : GoodIn wsX4_start (wsV RX4 64 RX4 yX4_isCore wsX4_isCore) := goodIn_app (goodIn_of _ (by decide +kernel)) ggX4_start_X4_isCore
set_option maxRecDepth 20000 in
theorem ggX4_start_X3_close : GoodIn wsX4_start wsX3_close := goodIn_r _ [18, 19, 20, 21, 22, 23, 39, 40, 41, 42, 43, 44, 45, 46, 47] (by decide +kernel) (by decide +kernel)
set_option maxRecDepth 20000 in
theorem gX4_start_X3_close : GoodIn wsX4_start (wsV RX4 78 RX3 yX3_close wsX3_close) := goodIn_app (goodIn_of _ (by decide +kernel)) ggX4_start_X3_close
theorem dX4_start_0 : decode cX4_start 0 = .ok (.aload_n 0, 1) := by decide +kernel
theorem dX4_start_1 : decode cX4_start 1 = .ok (.iload_n 1, 1) := by decide +kernel
theorem dX4_start_2 : decode cX4_start 2 = .ok (.invokevirtual 64, 3) := by decide +kernel
theorem dX4_start_5 : decode cX4_start 5 = .ok (.ifCond .ne 11, 3) := by decide +kernel
theorem dX4_start_8 : decode cX4_start 8 = .ok (.new 68, 3) := by decide +kernel
theorem dX4_start_11 : decode cX4_start 11 = .ok (.dup, 1) := by decide +kernel
theorem dX4_start_12 : decode cX4_start 12 = .ok (.invokespecial 70, 3) := by decide +kernel
theorem dX4_start_15 : decode cX4_start 15 = .ok (.athrow, 1) := by decide +kernel
theorem dX4_start_16 : decode cX4_start 16 = .ok (.iload_n 2, 1) := by decide +kernel
theorem dX4_start_17 : decode cX4_start 17 = .ok (.ifCond .lt 9, 3) := by decide +kernel
theorem dX4_start_20 : decode cX4_start 20 = .ok (.iload_n 2, 1) := by decide +kernel
theorem dX4_start_21 : decode cX4_start 21 = .ok (.bipush 80, 2) := by decide +kernel
theorem dX4_start_23 : decode cX4_start 23 = .ok (.if_icmp .le 11, 3) := by decide +kernel
theorem dX4_start_26 : decode cX4_start 26 = .ok (.new 51, 3) := by decide +kernel
theorem dX4_start_29 : decode cX4_start 29 = .ok (.dup, 1) := by decide +kernel
theorem dX4_start_30 : decode cX4_start 30 = .ok (.invokespecial 53, 3) := by decide +kernel
theorem dX4_start_33 : decode cX4_start 33 = .ok (.athrow, 1) := by decide +kernel
theorem dX4_start_34 : decode cX4_start 34 = .ok (.aload_n 0, 1) := by decide +kernel
theorem dX4_start_35 : decode cX4_start 35 = .ok (.getfield 40, 3) := by decide +kernel
theorem dX4_start_38 : decode cX4_start 38 = .ok (.iload_n 1, 1) := by decide +kernel
theorem dX4_start_39 : decode cX4_start 39 = .ok (.aaload, 1) := by decide +kernel
end
section
theorem dX4_start_40 : decode cX4_start 40 = .ok (.astore_n 3, 1) := by decide +kernel
theorem dX4_start_41 : decode cX4_start 41 = .ok (.aload_n 3, 1) := by decide +kernel
theorem dX4_start_42 : decode cX4_start 42 = .ok (.getfield 71, 3) := by decide +kernel
theorem dX4_start_45 : decode cX4_start 45 = .ok (.istore 4, 2) := by decide +kernel
theorem dX4_start_47 : decode cX4_start 47 = .ok (.aload_n 3, 1) := by decide +kernel
theorem dX4_start_48 : decode cX4_start 48 = .ok (.getfield 74, 3) := by decide +kernel
theorem dX4_start_51 : decode cX4_start 51 = .ok (.invokevirtual 78, 3) := by decide +kernel
theorem dX4_start_54 : decode cX4_start 54 = .ok (.aload_n 3, 1) := by decide +kernel
theorem dX4_start_55 : decode cX4_start 55 = .ok (.iload_n 2, 1) := by decide +kernel
theorem dX4_start_56 : decode cX4_start 56 = .ok (.putfield 71, 3) := by decide +kernel
theorem dX4_start_59 : decode cX4_start 59 = .ok (.aload_n 3, 1) := by decide +kernel
theorem dX4_start_60 : decode cX4_start 60 = .ok (.iconst 0, 1) := by decide +kernel
theorem dX4_start_61 : decode cX4_start 61 = .ok (.putfield 83, 3) := by decide +kernel
theorem dX4_start_64 : decode cX4_start 64 = .ok (.iload 4, 2) := by decide +kernel
theorem dX4_start_66 : decode cX4_start 66 = .ok (.ireturn, 1) := by decide +kernel
set_option maxRecDepth 20000 in
theorem ggX4_set_X4_isCore : GoodIn wsX4_set wsX4_isCore := goodIn_r _ [9, 3, 19, 20, 21, 22, 23, 24, 25] (by decide +kernel) (by decide +kernel)
set_option maxRecDepth 20000 in
theorem gX4_set_X4_isCore : GoodIn wsX4_set (wsV RX4 64 RX4 yX4_isCore wsX4_isCore) := goodIn_app (goodIn_of _ (by decide +kernel)) ggX4_set_X4_isCore
set_option maxRecDepth 20000 in
theorem ggX4_set_X4_isRegister : GoodIn wsX4_set wsX4_isRegister := goodIn_r _ [12] (by decide +kernel) (by decide +kernel)
set_option maxRecDepth 20000 in
theorem gX4_set_X4_isRegister : GoodIn wsX4_set (va_wsS RX4 87 yX4_isRegister wsX4_isRegister) := goodIn_app (goodIn_of _ (by decide +kernel)) ggX4_set_X4_isRegister
set_option maxRecDepth 20000 in
theorem ggX4_set_X0_put : GoodIn wsX4_set wsX0_put := goodIn_r _ [17, 18, 26, 27, 28, 29, 30, 31, 32, 33] (by decide +kernel) (by decide +kernel)
set_option maxRecDepth 20000 in
theorem gX4_set_X0_put : GoodIn wsX4_set (wsV RX4 93 RX0 yX0_put wsX0_put) := goodIn_app (goodIn_of _ (by decide +kernel)) ggX4_set_X0_put
theorem dX4_set_0 : decode cX4_set 0 = .ok (.aload_n 0, 1) := by decide +kernel
theorem dX4_set_1 : decode cX4_set 1 = .ok (.iload_n 1, 1) := by decide +kernel
theorem dX4_set_2 : decode cX4_set 2 = .ok (.invokevirtual 64, 3) := by decide +kernel
theorem dX4_set_5 : decode cX4_set 5 = .ok (.ifCond .eq 10, 3) := by decide +kernel
theorem dX4_set_8 : decode cX4_set 8 = .ok (.iload_n 2, 1) := by decide +kernel
theorem dX4_set_9 : decode cX4_set 9 = .ok (.invokestatic 87, 3) := by decide +kernel
theorem dX4_set_12 : decode cX4_set 12 = .ok (.ifCond .ne 11, 3) := by decide +kernel
theorem dX4_set_15 : decode cX4_set 15 = .ok (.new 68, 3) := by decide +kernel
theorem dX4_set_18 : decode cX4_set 18 = .ok (.dup, 1) := by decide +kernel
theorem dX4_set_19 : decode cX4_set 19 = .ok (.invokespecial 70, 3) := by decide +kernel
theorem dX4_set_22 : decode cX4_set 22 = .ok (.athrow, 1) := by decide +kernel
theorem dX4_set_23 : decode cX4_set 23 = .ok (.aload_n 0, 1) := by decide +kernel
theorem dX4_set_24 : decode cX4_set 24 = .ok (.getfield 40, 3) := by decide +kernel
theorem dX4_set_27 : decode cX4_set 27 = .ok (.iload_n 1, 1) := by decide +kernel
theorem dX4_set_28 : decode cX4_set 28 = .ok (.aaload, 1) := by decide +kernel
theorem dX4_set_29 : decode cX4_set 29 = .ok (.getfield 90, 3) := by decide +kernel
theorem dX4_set_32 : decode cX4_set 32 = .ok (.iload_n 2, 1) := by decide +kernel
theorem dX4_set_33 : decode cX4_set 33 = .ok (.iaload, 1) := by decide +kernel
theorem dX4_set_34 : decode cX4_set 34 = .ok (.istore 4, 2) := by decide +kernel
theorem dX4_set_36 : decode cX4_set 36 = .ok (.aload_n 0, 1) := by decide +kernel
theorem dX4_set_37 : decode cX4_set 37 = .ok (.getfield 40, 3) := by decide +kernel
theorem dX4_set_40 : decode cX4_set 40 = .ok (.iload_n 1, 1) := by decide +kernel
theorem dX4_set_41 : decode cX4_set 41 = .ok (.aaload, 1) := by decide +kernel
theorem dX4_set_42 : decode cX4_set 42 = .ok (.iload_n 2, 1) := by decide +kernel
theorem dX4_set_43 : decode cX4_set 43 = .ok (.iload_n 3, 1) := by decide +kernel
theorem dX4_set_44 : decode cX4_set 44 = .ok (.invokevirtual 93, 3) := by decide +kernel
theorem dX4_set_47 : decode cX4_set 47 = .ok (.iload 4, 2) := by decide +kernel
theorem dX4_set_49 : decode cX4_set 49 = .ok (.ireturn, 1) := by decide +kernel
set_option maxRecDepth 20000 in
theorem ggX4_poke_X4_isWord : GoodIn wsX4_poke wsX4_isWord := goodIn_r _ [7] (by decide +kernel) (by decide +kernel)
set_option maxRecDepth 20000 in
theorem gX4_poke_X4_isWord : GoodIn wsX4_poke (va_wsS RX4 97 yX4_isWord wsX4_isWord) := goodIn_app (goodIn_of _ (by decide +kernel)) ggX4_poke_X4_isWord
set_option maxRecDepth 20000 in
theorem ggX4_poke_X4_breakOffAll : GoodIn wsX4_poke wsX4_breakOffAll := goodIn_r _ [11, 12, 13, 14, 15, 16, 17, 18, 19, 20, 21, 22, 23, 6, 24, 25, 26, 27, 28, 29, 30, 31, 32, 33, 34, 35, 36, 37, 38, 39, 40, 41, 42, 43, 44, 45, 46, 47, 48, 49, 50, 51, 52, 53, 54, 55, 56, 57, 58, 59, 60, 61, 62, 63, 64, 65, 66, 67, 68, 69, 70, 71, 72, 73, 74, 75, 76, 77, 78, 79, 80, 81, 82, 83, 84, 85] (by decide +kernel) (by decide +kernel)
set_option maxRecDepth 20000 in
theorem gX4_poke_X4_breakOffAll : GoodIn wsX4_poke (wsV RX4 100 RX4 yX4_breakOffAll wsX4_breakOffAll) := goodIn_app (goodIn_of _ (by decide +kernel)) ggX4_poke_X4_breakOffAll
theorem dX4_poke_0 : decode cX4_poke 0 = .ok (.iload_n 1, 1) := by decide +kernel
theorem dX4_poke_1 : decode cX4_poke 1 = .ok (.invokestatic 97, 3) := by decide +kernel
theorem dX4_poke_4 : decode cX4_poke 4 = .ok (.ifCond .ne 11, 3) := by decide +kernel
theorem dX4_poke_7 : decode cX4_poke 7 = .ok (.new 68, 3) := by decide +kernel
theorem dX4_poke_10 : decode cX4_poke 10 = .ok (.dup, 1) := by decide +kernel
theorem dX4_poke_11 : decode cX4_poke 11 = .ok (.invokespecial 70, 3) := by decide +kernel
theorem dX4_poke_14 : decode cX4_poke 14 = .ok (.athrow, 1) := by decide +kernel
theorem dX4_poke_15 : decode cX4_poke 15 = .ok (.aload_n 0, 1) := by decide +kernel
theorem dX4_poke_16 : decode cX4_poke 16 = .ok (.iconst (-1), 1) := by decide +kernel
theorem dX4_poke_17 : decode cX4_poke 17 = .ok (.iload_n 1, 1) := by decide +kernel
theorem dX4_poke_18 : decode cX4_poke 18 = .ok (.iconst 4, 1) := by decide +kernel
theorem dX4_poke_19 : decode cX4_poke 19 = .ok (.idiv, 1) := by decide +kernel
theorem dX4_poke_20 : decode cX4_poke 20 = .ok (.iconst 1, 1) := by decide +kernel
theorem dX4_poke_21 : decode cX4_poke 21 = .ok (.invokevirtual 100, 3) := by decide +kernel
theorem dX4_poke_24 : decode cX4_poke 24 = .ok (.aload_n 0, 1) := by decide +kernel
theorem dX4_poke_25 : decode cX4_poke 25 = .ok (.getfield 9, 3) := by decide +kernel
theorem dX4_poke_28 : decode cX4_poke 28 = .ok (.iload_n 1, 1) := by decide +kernel
theorem dX4_poke_29 : decode cX4_poke 29 = .ok (.iaload, 1) := by decide +kernel
theorem dX4_poke_30 : decode cX4_poke 30 = .ok (.istore_n 3, 1) := by decide +kernel
theorem dX4_poke_31 : decode cX4_poke 31 = .ok (.aload_n 0, 1) := by decide +kernel
theorem dX4_poke_32 : decode cX4_poke 32 = .ok (.getfield 9, 3) := by decide +kernel
theorem dX4_poke_35 : decode cX4_poke 35 = .ok (.iload_n 1, 1) := by decide +kernel
theorem dX4_poke_36 : decode cX4_poke 36 = .ok (.iload_n 2, 1) := by decide +kernel
theorem dX4_poke_37 : decode cX4_poke 37 = .ok (.iastore, 1) := by decide +kernel
theorem dX4_poke_38 : decode cX4_poke 38 = .ok (.iload_n 3, 1) := by decide +kernel
theorem dX4_poke_39 : decode cX4_poke 39 = .ok (.ireturn, 1) := by decide +kernel
set_option maxRecDepth 20000 in
theorem ggX4_pick_X4_isCore : GoodIn wsX4_pick wsX4_isCore := goodIn_r _ [11, 5, 156, 157, 158, 159, 160, 161, 162] (by decide +kernel) (by decide +kernel)
set_option maxRecDepth 20000 in
theorem gX4_pick_X4_isCore : GoodIn wsX4_pick (wsV RX4 64 RX4 yX4_isCore wsX4_isCore) := goodIn_app (goodIn_of _ (by decide +kernel)) ggX4_pick_X4_isCore
set_option maxRecDepth 20000 in
theorem ggX4_pick_X4_isManyPicks : GoodIn wsX4_pick wsX4_isManyPicks := goodIn_r _ [14] (by decide +kernel) (by decide +kernel)
set_option maxRecDepth 20000 in
theorem gX4_pick_X4_isManyPicks : GoodIn wsX4_pick (va_wsS RX4 104 yX4_isManyPicks wsX4_isManyPicks) := goodIn_app (goodIn_of _ (by decide +kernel)) ggX4_pick_X4_isManyPicks
set_option maxRecDepth 20000 in
theorem ggX4_pick_X4_step : GoodIn wsX4_pick wsX4_step := goodIn_r _ [18, 6, 19, 20, 21, 22, 23, 24, 25, 10, 26, 27, 28, 29, 30, 31, 32, 33, 34, 35, 36, 37, 38, 39, 40, 41, 42, 43, 44, 45, 46, 47, 48, 49, 50, 51, 52, 53, 54, 55, 56, 57, 58, 59, 60, 61, 62, 63, 64, 65, 66, 67, 68, 69, 70, 71, 72, 73, 74, 75, 76, 77, 78, 79, 80, 81, 82, 83, 84, 85, 86, 87, 88, 89, 5, 90, 91, 92, 93, 94, 95, 96, 97, 98, 99, 100, 101, 102, 103, 104, 105, 106, 107, 108, 109, 110, 111, 112, 113, 114, 115, 116, 117, 118, 119, 120, 121, 122, 123, 124, 125, 126, 127, 128, 129, 130, 131, 132, 133, 134, 135, 136, 137, 138, 139, 140, 141, 142, 143, 144, 145, 146, 147, 148, 149, 150, 151, 152, 153, 154, 155, 163, 164, 165, 166, 167, 168, 169, 170, 156, 157, 158, 159, 160, 161, 162, 171, 172, 173, 174, 175, 176, 177, 178, 179, 180, 181, 182, 183, 184, 185, 186, 187] (by decide +kernel) (by decide +kernel)
set_option maxRecDepth 20000 in
theorem gX4_pick_X4_step : GoodIn wsX4_pick (wsV RX4 107 RX4 yX4_step wsX4_step) := goodIn_app (goodIn_of _ (by decide +kernel)) ggX4_pick_X4_step
theorem dX4_pick_0 : decode cX4_pick 0 = .ok (.aload_n 0, 1) := by decide +kernel
theorem dX4_pick_1 : decode cX4_pick 1 = .ok (.iload_n 1, 1) := by decide +kernel
theorem dX4_pick_2 : decode cX4_pick 2 = .ok (.invokevirtual 64, 3) := by decide +kernel
theorem dX4_pick_5 : decode cX4_pick 5 = .ok (.ifCond .ne 11, 3) := by decide +kernel
theorem dX4_pick_8 : decode cX4_pick 8 = .ok (.new 68, 3) := by decide +kernel
theorem dX4_pick_11 : decode cX4_pick 11 = .ok (.dup, 1) := by decide +kernel
theorem dX4_pick_12 : decode cX4_pick 12 = .ok (.invokespecial 70, 3) := by decide +kernel
theorem dX4_pick_15 : decode cX4_pick 15 = .ok (.athrow, 1) := by decide +kernel
theorem dX4_pick_16 : decode cX4_pick 16 = .ok (.iload_n 2, 1) := by decide +kernel
theorem dX4_pick_17 : decode cX4_pick 17 = .ok (.invokestatic 104, 3) := by decide +kernel
theorem dX4_pick_20 : decode cX4_pick 20 = .ok (.ifCond .ne 11, 3) := by decide +kernel
theorem dX4_pick_23 : decode cX4_pick 23 = .ok (.new 51, 3) := by decide +kernel
theorem dX4_pick_26 : decode cX4_pick 26 = .ok (.dup, 1) := by decide +kernel
theorem dX4_pick_27 : decode cX4_pick 27 = .ok (.invokespecial 53, 3) := by decide +kernel
theorem dX4_pick_30 : decode cX4_pick 30 = .ok (.athrow, 1) := by decide +kernel
theorem dX4_pick_31 : decode cX4_pick 31 = .ok (.iconst 0, 1) := by decide +kernel
theorem dX4_pick_32 : decode cX4_pick 32 = .ok (.istore_n 3, 1) := by decide +kernel
theorem dX4_pick_33 : decode cX4_pick 33 = .ok (.iconst 0, 1) := by decide +kernel
theorem dX4_pick_34 : decode cX4_pick 34 = .ok (.istore 4, 2) := by decide +kernel
theorem dX4_pick_36 : decode cX4_pick 36 = .ok (.iload 4, 2) := by decide +kernel
theorem dX4_pick_38 : decode cX4_pick 38 = .ok (.iload_n 2, 1) := by decide +kernel
theorem dX4_pick_39 : decode cX4_pick 39 = .ok (.if_icmp .ge 34, 3) := by decide +kernel
theorem dX4_pick_42 : decode cX4_pick 42 = .ok (.aload_n 0, 1) := by decide +kernel
theorem dX4_pick_43 : decode cX4_pick 43 = .ok (.getfield 40, 3) := by decide +kernel
theorem dX4_pick_46 : decode cX4_pick 46 = .ok (.iload_n 1, 1) := by decide +kernel
theorem dX4_pick_47 : decode cX4_pick 47 = .ok (.aaload, 1) := by decide +kernel
theorem dX4_pick_48 : decode cX4_pick 48 = .ok (.getfield 83, 3) := by decide +kernel
theorem dX4_pick_51 : decode cX4_pick 51 = .ok (.ifCond .ne 22, 3) := by decide +kernel
theorem dX4_pick_54 : decode cX4_pick 54 = .ok (.iload_n 3, 1) := by decide +kernel
theorem dX4_pick_55 : decode cX4_pick 55 = .ok (.aload_n 0, 1) := by decide +kernel
theorem dX4_pick_56 : decode cX4_pick 56 = .ok (.aload_n 0, 1) := by decide +kernel
theorem dX4_pick_57 : decode cX4_pick 57 = .ok (.getfield 40, 3) := by decide +kernel
theorem dX4_pick_60 : decode cX4_pick 60 = .ok (.iload_n 1, 1) := by decide +kernel
theorem dX4_pick_61 : decode cX4_pick 61 = .ok (.aaload, 1) := by decide +kernel
theorem dX4_pick_62 : decode cX4_pick 62 = .ok (.invokevirtual 107, 3) := by decide +kernel
theorem dX4_pick_65 : decode cX4_pick 65 = .ok (.iadd, 1) := by decide +kernel
theorem dX4_pick_66 : decode cX4_pick 66 = .ok (.istore_n 3, 1) := by decide +kernel
theorem dX4_pick_67 : decode cX4_pick 67 = .ok (.iinc 4 1, 3) := by decide +kernel
theorem dX4_pick_70 : decode cX4_pick 70 = .ok (.goto (-34), 3) := by decide +kernel
theorem dX4_pick_73 : decode cX4_pick 73 = .ok (.iload_n 3, 1) := by decide +kernel
theorem dX4_pick_74 : decode cX4_pick 74 = .ok (.ireturn, 1) := by decide +kernel
set_option maxRecDepth 20000 in
theorem ggX4_run_X4_isManyPicks : GoodIn wsX4_run wsX4_isManyPicks := goodIn_r _ [8] (by decide +kernel) (by decide +kernel)
set_option maxRecDepth 20000 in
theorem gX4_run_X4_isManyPicks : GoodIn wsX4_run (va_wsS RX4 104 yX4_isManyPicks wsX4_isManyPicks) := goodIn_app (goodIn_of _ (by decide +kernel)) ggX4_run_X4_isManyPicks
set_option maxRecDepth 20000 in
theorem ggX4_run_X4_step : GoodIn wsX4_run wsX4_step := goodIn_r _ [12, 13, 14, 15, 16, 17, 18, 19, 20, 7, 21, 22, 23, 24, 25, 26, 27, 28, 29, 30, 31, 32, 33, 34, 35, 36, 37, 38, 39, 40, 41, 42, 43, 44, 45, 46, 47, 48, 49, 50, 51, 52, 53, 54, 55, 56, 57, 58, 59, 60, 61, 62, 63, 64, 65, 66, 67, 68, 69, 70, 71, 72, 73, 74, 75, 76, 77, 78, 79, 80, 81, 82, 83, 84, 4, 85, 86, 87, 88, 89, 90, 91, 92, 93, 94, 95, 96, 97, 98, 99, 100, 101, 102, 103, 104, 105, 106, 107, 108, 109, 110, 111, 112, 113, 114, 115, 116, 117, 118, 119, 120, 121, 122, 123, 124, 125, 126, 127, 128, 129, 130, 131, 132, 133, 134, 135, 136, 137, 138, 139, 140, 141, 142, 143, 144, 145, 146, 147, 148, 149, 150, 158, 159, 160, 161, 162, 163, 164, 165, 151, 152, 153, 154, 155, 156, 157, 166, 167, 168, 169, 170, 171, 172, 173, 174, 175, 176, 177, 178, 179, 180, 181, 182] (by decide +kernel) (by decide +kernel)
set_option maxRecDepth 20000 in
theorem gX4_run_X4_step : GoodIn wsX4_run (wsV RX4 107 RX4 yX4_step wsX4_step) := goodIn_app (goodIn_of _ (by decide +kernel)) ggX4_run_X4_step
theorem dX4_run_0 : decode cX4_run 0 = .ok (.iload_n 2, 1) := by decide +kernel
theorem dX4_run_1 : decode cX4_run 1 = .ok (.invokestatic 104, 3) := by decide +kernel
theorem dX4_run_4 : decode cX4_run 4 = .ok (.ifCond .ne 11, 3) := by decide +kernel
theorem dX4_run_7 : decode cX4_run 7 = .ok (.new 51, 3) := by decide +kernel
theorem dX4_run_10 : decode cX4_run 10 = .ok (.dup, 1) := by decide +kernel
theorem dX4_run_11 : decode cX4_run 11 = .ok (.invokespecial 53, 3) := by decide +kernel
theorem dX4_run_14 : decode cX4_run 14 = .ok (.athrow, 1) := by decide +kernel
theorem dX4_run_15 : decode cX4_run 15 = .ok (.iconst 0, 1) := by decide +kernel
theorem dX4_run_16 : decode cX4_run 16 = .ok (.istore_n 3, 1) := by decide +kernel
theorem dX4_run_17 : decode cX4_run 17 = .ok (.iload_n 1, 1) := by decide +kernel
theorem dX4_run_18 : decode cX4_run 18 = .ok (.istore 4, 2) := by decide +kernel
theorem dX4_run_20 : decode cX4_run 20 = .ok (.iconst 0, 1) := by decide +kernel
theorem dX4_run_21 : decode cX4_run 21 = .ok (.istore 5, 2) := by decide +kernel
theorem dX4_run_23 : decode cX4_run 23 = .ok (.iload 5, 2) := by decide +kernel
theorem dX4_run_25 : decode cX4_run 25 = .ok (.iload_n 2, 1) := by decide +kernel
theorem dX4_run_26 : decode cX4_run 26 = .ok (.if_icmp .ge 43, 3) := by decide +kernel
theorem dX4_run_29 : decode cX4_run 29 = .ok (.iload 4, 2) := by decide +kernel
theorem dX4_run_31 : decode cX4_run 31 = .ok (.ldc 111, 2) := by decide +kernel
theorem dX4_run_33 : decode cX4_run 33 = .ok (.imul, 1) := by decide +kernel
theorem dX4_run_34 : decode cX4_run 34 = .ok (.sipush 12345, 3) := by decide +kernel
theorem dX4_run_37 : decode cX4_run 37 = .ok (.iadd, 1) := by decide +kernel
theorem dX4_run_38 : decode cX4_run 38 = .ok (.istore 4, 2) := by decide +kernel
theorem dX4_run_40 : decode cX4_run 40 = .ok (.iload_n 3, 1) := by decide +kernel
theorem dX4_run_41 : decode cX4_run 41 = .ok (.aload_n 0, 1) := by decide +kernel
theorem dX4_run_42 : decode cX4_run 42 = .ok (.aload_n 0, 1) := by decide +kernel
theorem dX4_run_43 : decode cX4_run 43 = .ok (.getfield 40, 3) := by decide +kernel
theorem dX4_run_46 : decode cX4_run 46 = .ok (.iload 4, 2) := by decide +kernel
theorem dX4_run_48 : decode cX4_run 48 = .ok (.bipush 16, 2) := by decide +kernel
theorem dX4_run_50 : decode cX4_run 50 = .ok (.iushr, 1) := by decide +kernel
theorem dX4_run_51 : decode cX4_run 51 = .ok (.aload_n 0, 1) := by decide +kernel
theorem dX4_run_52 : decode cX4_run 52 = .ok (.getfield 40, 3) := by decide +kernel
theorem dX4_run_55 : decode cX4_run 55 = .ok (.arraylength, 1) := by decide +kernel
theorem dX4_run_56 : decode cX4_run 56 = .ok (.irem, 1) := by decide +kernel
theorem dX4_run_57 : decode cX4_run 57 = .ok (.aaload, 1) := by decide +kernel
theorem dX4_run_58 : decode cX4_run 58 = .ok (.invokevirtual 107, 3) := by decide +kernel
theorem dX4_run_61 : decode cX4_run 61 = .ok (.iadd, 1) := by decide +kernel
theorem dX4_run_62 : decode cX4_run 62 = .ok (.istore_n 3, 1) := by decide +kernel
theorem dX4_run_63 : decode cX4_run 63 = .ok (.iinc 5 1, 3) := by decide +kernel
theorem dX4_run_66 : decode cX4_run 66 = .ok (.goto (-43), 3) := by decide +kernel
theorem dX4_run_69 : decode cX4_run 69 = .ok (.iload_n 3, 1) := by decide +kernel
theorem dX4_run_70 : decode cX4_run 70 = .ok (.ireturn, 1) := by decide +kernel
set_option maxRecDepth 20000 in
theorem ggX4_register_X4_isCore : GoodIn wsX4_register wsX4_isCore := goodIn_r _ [9, 3, 13, 14, 15, 16, 17, 18, 19] (by decide +kernel) (by decide +kernel)
set_option maxRecDepth 20000 in
theorem gX4_register_X4_isCore : GoodIn wsX4_register (wsV RX4 64 RX4 yX4_isCore wsX4_isCore) := goodIn_app (goodIn_of _ (by decide +kernel)) ggX4_register_X4_isCore
set_option maxRecDepth 20000 in
theorem ggX4_register_X4_isRegister : GoodIn wsX4_register wsX4_isRegister := goodIn_r _ [12] (by decide +kernel) (by decide +kernel)
set_option maxRecDepth 20000 in
theorem gX4_register_X4_isRegister : GoodIn wsX4_register (va_wsS RX4 87 yX4_isRegister wsX4_isRegister) := goodIn_app (goodIn_of _ (by decide +kernel)) ggX4_register_X4_isRegister
theorem dX4_register_0 : decode cX4_register 0 = .ok (.aload_n 0, 1) := by decide +kernel
theorem dX4_register_1 : decode cX4_register 1 = .ok (.iload_n 1, 1) := by decide +kernel
theorem dX4_register_2 : decode cX4_register 2 = .ok (.invokevirtual 64, 3) := by decide +kernel
theorem dX4_register_5 : decode cX4_register 5 = .ok (.ifCond .eq 10, 3) := by decide +kernel
theorem dX4_register_8 : decode cX4_register 8 = .ok (.iload_n 2, 1) := by decide +kernel
theorem dX4_register_9 : decode cX4_register 9 = .ok (.invokestatic 87, 3) := by decide +kernel
theorem dX4_register_12 : decode cX4_register 12 = .ok (.ifCond .ne 11, 3) := by decide +kernel
theorem dX4_register_15 : decode cX4_register 15 = .ok (.new 68, 3) := by decide +kernel
theorem dX4_register_18 : decode cX4_register 18 = .ok (.dup, 1) := by decide +kernel
theorem dX4_register_19 : decode cX4_register 19 = .ok (.invokespecial 70, 3) := by decide +kernel
theorem dX4_register_22 : decode cX4_register 22 = .ok (.athrow, 1) := by decide +kernel
theorem dX4_register_23 : decode cX4_register 23 = .ok (.aload_n 0, 1) := by decide +kernel
theorem dX4_register_24 : decode cX4_register 24 = .ok (.getfield 40, 3) := by decide +kernel
theorem dX4_register_27 : decode cX4_register 27 = .ok (.iload_n 1, 1) := by decide +kernel
theorem dX4_register_28 : decode cX4_register 28 = .ok (.aaload, 1) := by decide +kernel
theorem dX4_register_29 : decode cX4_register 29 = .ok (.getfield 90, 3) := by decide +kernel
theorem dX4_register_32 : decode cX4_register 32 = .ok (.iload_n 2, 1) := by decide +kernel
theorem dX4_register_33 : decode cX4_register 33 = .ok (.iaload, 1) := by decide +kernel
theorem dX4_register_34 : decode cX4_register 34 = .ok (.ireturn, 1) := by decide +kernel
set_option maxRecDepth 20000 in
theorem ggX4_word_X4_isWord : GoodIn wsX4_word wsX4_isWord := goodIn_r _ [7] (by decide +kernel) (by decide +kernel)
set_option maxRecDepth 20000 in
theorem gX4_word_X4_isWord : GoodIn wsX4_word (va_wsS RX4 97 yX4_isWord wsX4_isWord) := goodIn_app (goodIn_of _ (by decide +kernel)) ggX4_word_X4_isWord
theorem dX4_word_0 : decode cX4_word 0 = .ok (.iload_n 1, 1) := by decide +kernel
theorem dX4_word_1 : decode cX4_word 1 = .ok (.invokestatic 97, 3) := by decide +kernel
theorem dX4_word_4 : decode cX4_word 4 = .ok (.ifCond .ne 11, 3) := by decide +kernel
theorem dX4_word_7 : decode cX4_word 7 = .ok (.new 68, 3) := by decide +kernel
theorem dX4_word_10 : decode cX4_word 10 = .ok (.dup, 1) := by decide +kernel
theorem dX4_word_11 : decode cX4_word 11 = .ok (.invokespecial 70, 3) := by decide +kernel
theorem dX4_word_14 : decode cX4_word 14 = .ok (.athrow, 1) := by decide +kernel
theorem dX4_word_15 : decode cX4_word 15 = .ok (.aload_n 0, 1) := by decide +kernel
theorem dX4_word_16 : decode cX4_word 16 = .ok (.getfield 9, 3) := by decide +kernel
theorem dX4_word_19 : decode cX4_word 19 = .ok (.iload_n 1, 1) := by decide +kernel
theorem dX4_word_20 : decode cX4_word 20 = .ok (.iaload, 1) := by decide +kernel
theorem dX4_word_21 : decode cX4_word 21 = .ok (.ireturn, 1) := by decide +kernel
set_option maxRecDepth 20000 in
theorem ggX4_seen_X4_isCore : GoodIn wsX4_seen wsX4_isCore := goodIn_r _ [8, 3, 25, 26, 27, 28, 29, 30, 31] (by decide +kernel) (by decide +kernel)
set_option maxRecDepth 20000 in
theorem gX4_seen_X4_isCore : GoodIn wsX4_seen (wsV RX4 64 RX4 yX4_isCore wsX4_isCore) := goodIn_app (goodIn_of _ (by decide +kernel)) ggX4_seen_X4_isCore
set_option maxRecDepth 20000 in
theorem ggX4_seen_X4_isWord : GoodIn wsX4_seen wsX4_isWord := goodIn_r _ [11] (by decide +kernel) (by decide +kernel)
set_option maxRecDepth 20000 in
theorem gX4_seen_X4_isWord : GoodIn wsX4_seen (va_wsS RX4 97 yX4_isWord wsX4_isWord) := goodIn_app (goodIn_of _ (by decide +kernel)) ggX4_seen_X4_isWord
set_option maxRecDepth 20000 in
theorem ggX4_seen_X4_wordSeenBy : GoodIn wsX4_seen wsX4_wordSeenBy := goodIn_r _ [15, 16, 17, 18, 19, 20, 21, 22, 23, 24, 32, 33, 34, 35, 36, 37, 38, 39, 40, 41, 42, 43, 44, 45, 46, 47, 48, 25, 26, 27, 28, 29, 30, 31] (by decide +kernel) (by decide +kernel)
set_option maxRecDepth 20000 in
theorem gX4_seen_X4_wordSeenBy : GoodIn wsX4_seen (wsV RX4 112 RX4 yX4_wordSeenBy wsX4_wordSeenBy) := goodIn_app (goodIn_of _ (by decide +kernel)) ggX4_seen_X4_wordSeenBy
theorem dX4_seen_0 : decode cX4_seen 0 = .ok (.aload_n 0, 1) := by decide +kernel
theorem dX4_seen_1 : decode cX4_seen 1 = .ok (.iload_n 1, 1) := by decide +kernel
theorem dX4_seen_2 : decode cX4_seen 2 = .ok (.invokevirtual 64, 3) := by decide +kernel
theorem dX4_seen_5 : decode cX4_seen 5 = .ok (.ifCond .eq 10, 3) := by decide +kernel
theorem dX4_seen_8 : decode cX4_seen 8 = .ok (.iload_n 2, 1) := by decide +kernel
theorem dX4_seen_9 : decode cX4_seen 9 = .ok (.invokestatic 97, 3) := by decide +kernel
theorem dX4_seen_12 : decode cX4_seen 12 = .ok (.ifCond .ne 11, 3) := by decide +kernel
theorem dX4_seen_15 : decode cX4_seen 15 = .ok (.new 68, 3) := by decide +kernel
theorem dX4_seen_18 : decode cX4_seen 18 = .ok (.dup, 1) := by decide +kernel
theorem dX4_seen_19 : decode cX4_seen 19 = .ok (.invokespecial 70, 3) := by decide +kernel
theorem dX4_seen_22 : decode cX4_seen 22 = .ok (.athrow, 1) := by decide +kernel
theorem dX4_seen_23 : decode cX4_seen 23 = .ok (.aload_n 0, 1) := by decide +kernel
theorem dX4_seen_24 : decode cX4_seen 24 = .ok (.aload_n 0, 1) := by decide +kernel
theorem dX4_seen_25 : decode cX4_seen 25 = .ok (.getfield 40, 3) := by decide +kernel
theorem dX4_seen_28 : decode cX4_seen 28 = .ok (.iload_n 1, 1) := by decide +kernel
theorem dX4_seen_29 : decode cX4_seen 29 = .ok (.aaload, 1) := by decide +kernel
theorem dX4_seen_30 : decode cX4_seen 30 = .ok (.iload_n 2, 1) := by decide +kernel
theorem dX4_seen_31 : decode cX4_seen 31 = .ok (.invokevirtual 112, 3) := by decide +kernel
theorem dX4_seen_34 : decode cX4_seen 34 = .ok (.ireturn, 1) := by decide +kernel
set_option maxRecDepth 20000 in
theorem ggX4_told_X4_isCore : GoodIn wsX4_told wsX4_isCore := goodIn_r _ [10, 5, 39, 40, 41, 42, 43, 44, 45] (by decide +kernel) (by decide +kernel)
set_option maxRecDepth 20000 in
theorem gX4_told_X4_isCore : GoodIn wsX4_told (wsV RX4 64 RX4 yX4_isCore wsX4_isCore) := goodIn_app (goodIn_of _ (by decide +kernel)) ggX4_told_X4_isCore
set_option maxRecDepth 20000 in
theorem ggX4_told_X4_factOf : GoodIn wsX4_told wsX4_factOf := goodIn_r _ [13, 14, 15, 16, 17, 18, 19, 20, 21, 22, 23, 24, 25, 26, 27, 28, 29, 30, 31, 32, 33, 34, 35, 36, 37, 38, 46, 47, 48, 49, 50, 51, 52, 53, 54, 55, 56, 57, 58, 59, 60, 61, 62] (by decide +kernel) (by decide +kernel)
set_option maxRecDepth 20000 in
theorem gX4_told_X4_factOf : GoodIn wsX4_told (va_wsS RX4 116 yX4_factOf wsX4_factOf) := goodIn_app (goodIn_of _ (by decide +kernel)) ggX4_told_X4_factOf
theorem dX4_told_0 : decode cX4_told 0 = .ok (.aload_n 0, 1) := by decide +kernel
theorem dX4_told_1 : decode cX4_told 1 = .ok (.iload_n 1, 1) := by decide +kernel
theorem dX4_told_2 : decode cX4_told 2 = .ok (.invokevirtual 64, 3) := by decide +kernel
theorem dX4_told_5 : decode cX4_told 5 = .ok (.ifCond .ne 11, 3) := by decide +kernel
theorem dX4_told_8 : decode cX4_told 8 = .ok (.new 68, 3) := by decide +kernel
theorem dX4_told_11 : decode cX4_told 11 = .ok (.dup, 1) := by decide +kernel
theorem dX4_told_12 : decode cX4_told 12 = .ok (.invokespecial 70, 3) := by decide +kernel
theorem dX4_told_15 : decode cX4_told 15 = .ok (.athrow, 1) := by decide +kernel
theorem dX4_told_16 : decode cX4_told 16 = .ok (.iload_n 2, 1) := by decide +kernel
theorem dX4_told_17 : decode cX4_told 17 = .ok (.ifCond .lt 9, 3) := by decide +kernel
theorem dX4_told_20 : decode cX4_told 20 = .ok (.iload_n 2, 1) := by decide +kernel
theorem dX4_told_21 : decode cX4_told 21 = .ok (.bipush 10, 2) := by decide +kernel
theorem dX4_told_23 : decode cX4_told 23 = .ok (.if_icmp .lt 11, 3) := by decide +kernel
theorem dX4_told_26 : decode cX4_told 26 = .ok (.new 51, 3) := by decide +kernel
theorem dX4_told_29 : decode cX4_told 29 = .ok (.dup, 1) := by decide +kernel
theorem dX4_told_30 : decode cX4_told 30 = .ok (.invokespecial 53, 3) := by decide +kernel
theorem dX4_told_33 : decode cX4_told 33 = .ok (.athrow, 1) := by decide +kernel
theorem dX4_told_34 : decode cX4_told 34 = .ok (.aload_n 0, 1) := by decide +kernel
theorem dX4_told_35 : decode cX4_told 35 = .ok (.getfield 40, 3) := by decide +kernel
theorem dX4_told_38 : decode cX4_told 38 = .ok (.iload_n 1, 1) := by decide +kernel
theorem dX4_told_39 : decode cX4_told 39 = .ok (.aaload, 1) := by decide +kernel
theorem dX4_told_40 : decode cX4_told 40 = .ok (.iload_n 2, 1) := by decide +kernel
theorem dX4_told_41 : decode cX4_told 41 = .ok (.invokestatic 116, 3) := by decide +kernel
theorem dX4_told_44 : decode cX4_told 44 = .ok (.ireturn, 1) := by decide +kernel
theorem dX4_records_0 : decode cX4_records 0 = .ok (.aload_n 0, 1) := by decide +kernel
theorem dX4_records_1 : decode cX4_records 1 = .ok (.getfield 23, 3) := by decide +kernel
theorem dX4_records_4 : decode cX4_records 4 = .ok (.getfield 119, 3) := by decide +kernel
theorem dX4_records_7 : decode cX4_records 7 = .ok (.ireturn, 1) := by decide +kernel
set_option maxRecDepth 20000 in
theorem ggX4_record_X2_field : GoodIn wsX4_record wsX2_field := goodIn_r _ [11, 12, 13, 21, 22, 23] (by decide +kernel) (by decide +kernel)
set_option maxRecDepth 20000 in
theorem gX4_record_X2_field : GoodIn wsX4_record (wsV RX4 122 RX2 yX2_field wsX2_field) := goodIn_app (goodIn_of _ (by decide +kernel)) ggX4_record_X2_field
theorem dX4_record_0 : decode cX4_record 0 = .ok (.iload_n 1, 1) := by decide +kernel
theorem dX4_record_1 : decode cX4_record 1 = .ok (.ifCond .lt 14, 3) := by decide +kernel
theorem dX4_record_4 : decode cX4_record 4 = .ok (.iload_n 1, 1) := by decide +kernel
theorem dX4_record_5 : decode cX4_record 5 = .ok (.aload_n 0, 1) := by decide +kernel
theorem dX4_record_6 : decode cX4_record 6 = .ok (.getfield 23, 3) := by decide +kernel
theorem dX4_record_9 : decode cX4_record 9 = .ok (.getfield 119, 3) := by decide +kernel
theorem dX4_record_12 : decode cX4_record 12 = .ok (.if_icmp .lt 11, 3) := by decide +kernel
theorem dX4_record_15 : decode cX4_record 15 = .ok (.new 68, 3) := by decide +kernel
theorem dX4_record_18 : decode cX4_record 18 = .ok (.dup, 1) := by decide +kernel
theorem dX4_record_19 : decode cX4_record 19 = .ok (.invokespecial 70, 3) := by decide +kernel
theorem dX4_record_22 : decode cX4_record 22 = .ok (.athrow, 1) := by decide +kernel
theorem dX4_record_23 : decode cX4_record 23 = .ok (.iload_n 2, 1) := by decide +kernel
theorem dX4_record_24 : decode cX4_record 24 = .ok (.ifCond .lt 8, 3) := by decide +kernel
theorem dX4_record_27 : decode cX4_record 27 = .ok (.iload_n 2, 1) := by decide +kernel
theorem dX4_record_28 : decode cX4_record 28 = .ok (.iconst 4, 1) := by decide +kernel
theorem dX4_record_29 : decode cX4_record 29 = .ok (.if_icmp .lt 11, 3) := by decide +kernel
theorem dX4_record_32 : decode cX4_record 32 = .ok (.new 51, 3) := by decide +kernel
theorem dX4_record_35 : decode cX4_record 35 = .ok (.dup, 1) := by decide +kernel
theorem dX4_record_36 : decode cX4_record 36 = .ok (.invokespecial 53, 3) := by decide +kernel
theorem dX4_record_39 : decode cX4_record 39 = .ok (.athrow, 1) := by decide +kernel
theorem dX4_record_40 : decode cX4_record 40 = .ok (.aload_n 0, 1) := by decide +kernel
theorem dX4_record_41 : decode cX4_record 41 = .ok (.getfield 23, 3) := by decide +kernel
theorem dX4_record_44 : decode cX4_record 44 = .ok (.iload_n 1, 1) := by decide +kernel
theorem dX4_record_45 : decode cX4_record 45 = .ok (.iload_n 2, 1) := by decide +kernel
theorem dX4_record_46 : decode cX4_record 46 = .ok (.invokevirtual 122, 3) := by decide +kernel
theorem dX4_record_49 : decode cX4_record 49 = .ok (.ireturn, 1) := by decide +kernel
set_option maxRecDepth 20000 in
theorem ggX4_clear_X0_reset : GoodIn wsX4_clear wsX0_reset := goodIn_r _ [11, 12, 13, 14, 15, 16, 17, 18, 19, 20, 21, 22, 23, 24, 25, 26, 27, 28, 48, 49, 50, 51, 52, 53, 54, 55, 56, 57, 58, 59, 60, 61, 62, 63, 64] (by decide +kernel) (by decide +kernel)
set_option maxRecDepth 20000 in
theorem gX4_clear_X0_reset : GoodIn wsX4_clear (wsV RX4 126 RX0 yX0_reset wsX0_reset) := goodIn_app (goodIn_of _ (by decide +kernel)) ggX4_clear_X0_reset
set_option maxRecDepth 20000 in
theorem ggX4_clear_X2_forget : GoodIn wsX4_clear wsX2_forget := goodIn_r _ [33, 34, 35, 65, 66, 67] (by decide +kernel) (by decide +kernel)
set_option maxRecDepth 20000 in
theorem gX4_clear_X2_forget : GoodIn wsX4_clear (wsV RX4 129 RX2 yX2_forget wsX2_forget) := goodIn_app (goodIn_of _ (by decide +kernel)) ggX4_clear_X2_forget
theorem dX4_clear_0 : decode cX4_clear 0 = .ok (.iconst 0, 1) := by decide +kernel
theorem dX4_clear_1 : decode cX4_clear 1 = .ok (.istore_n 1, 1) := by decide +kernel
theorem dX4_clear_2 : decode cX4_clear 2 = .ok (.iload_n 1, 1) := by decide +kernel
theorem dX4_clear_3 : decode cX4_clear 3 = .ok (.aload_n 0, 1) := by decide +kernel
theorem dX4_clear_4 : decode cX4_clear 4 = .ok (.getfield 40, 3) := by decide +kernel
theorem dX4_clear_7 : decode cX4_clear 7 = .ok (.arraylength, 1) := by decide +kernel
theorem dX4_clear_8 : decode cX4_clear 8 = .ok (.if_icmp .ge 18, 3) := by decide +kernel
theorem dX4_clear_11 : decode cX4_clear 11 = .ok (.aload_n 0, 1) := by decide +kernel
theorem dX4_clear_12 : decode cX4_clear 12 = .ok (.getfield 40, 3) := by decide +kernel
theorem dX4_clear_15 : decode cX4_clear 15 = .ok (.iload_n 1, 1) := by decide +kernel
theorem dX4_clear_16 : decode cX4_clear 16 = .ok (.aaload, 1) := by decide +kernel
theorem dX4_clear_17 : decode cX4_clear 17 = .ok (.invokevirtual 126, 3) := by decide +kernel
theorem dX4_clear_20 : decode cX4_clear 20 = .ok (.iinc 1 1, 3) := by decide +kernel
theorem dX4_clear_23 : decode cX4_clear 23 = .ok (.goto (-21), 3) := by decide +kernel
theorem dX4_clear_26 : decode cX4_clear 26 = .ok (.iconst 0, 1) := by decide +kernel
theorem dX4_clear_27 : decode cX4_clear 27 = .ok (.istore_n 1, 1) := by decide +kernel
theorem dX4_clear_28 : decode cX4_clear 28 = .ok (.iload_n 1, 1) := by decide +kernel
theorem dX4_clear_29 : decode cX4_clear 29 = .ok (.bipush 64, 2) := by decide +kernel
theorem dX4_clear_31 : decode cX4_clear 31 = .ok (.if_icmp .ge 16, 3) := by decide +kernel
theorem dX4_clear_34 : decode cX4_clear 34 = .ok (.aload_n 0, 1) := by decide +kernel
theorem dX4_clear_35 : decode cX4_clear 35 = .ok (.getfield 9, 3) := by decide +kernel
theorem dX4_clear_38 : decode cX4_clear 38 = .ok (.iload_n 1, 1) := by decide +kernel
theorem dX4_clear_39 : decode cX4_clear 39 = .ok (.iconst 0, 1) := by decide +kernel
theorem dX4_clear_40 : decode cX4_clear 40 = .ok (.iastore, 1) := by decide +kernel
theorem dX4_clear_41 : decode cX4_clear 41 = .ok (.iinc 1 1, 3) := by decide +kernel
theorem dX4_clear_44 : decode cX4_clear 44 = .ok (.goto (-16), 3) := by decide +kernel
theorem dX4_clear_47 : decode cX4_clear 47 = .ok (.aload_n 0, 1) := by decide +kernel
theorem dX4_clear_48 : decode cX4_clear 48 = .ok (.getfield 16, 3) := by decide +kernel
theorem dX4_clear_51 : decode cX4_clear 51 = .ok (.iconst 0, 1) := by decide +kernel
theorem dX4_clear_52 : decode cX4_clear 52 = .ok (.putfield 54, 3) := by decide +kernel
theorem dX4_clear_55 : decode cX4_clear 55 = .ok (.aload_n 0, 1) := by decide +kernel
theorem dX4_clear_56 : decode cX4_clear 56 = .ok (.getfield 23, 3) := by decide +kernel
theorem dX4_clear_59 : decode cX4_clear 59 = .ok (.invokevirtual 129, 3) := by decide +kernel
theorem dX4_clear_62 : decode cX4_clear 62 = .ok (.aload_n 0, 1) := by decide +kernel
theorem dX4_clear_63 : decode cX4_clear 63 = .ok (.iconst 0, 1) := by decide +kernel
theorem dX4_clear_64 : decode cX4_clear 64 = .ok (.putfield 132, 3) := by decide +kernel
theorem dX4_clear_67 : decode cX4_clear 67 = .ok (.return_, 1) := by decide +kernel
theorem dX4_nearest_0 : decode cX4_nearest 0 = .ok (.iload_n 1, 1) := by decide +kernel
theorem dX4_nearest_1 : decode cX4_nearest 1 = .ok (.iload_n 2, 1) := by decide +kernel
theorem dX4_nearest_2 : decode cX4_nearest 2 = .ok (.iload_n 0, 1) := by decide +kernel
theorem dX4_nearest_3 : decode cX4_nearest 3 = .ok (.invokestatic 135, 3) := by decide +kernel
theorem dX4_nearest_6 : decode cX4_nearest 6 = .ok (.invokestatic 140, 3) := by decide +kernel
theorem dX4_nearest_9 : decode cX4_nearest 9 = .ok (.ireturn, 1) := by decide +kernel
theorem dX4_isRegister_0 : decode cX4_isRegister 0 = .ok (.iload_n 0, 1) := by decide +kernel
theorem dX4_isRegister_1 : decode cX4_isRegister 1 = .ok (.ifCond .lt 13, 3) := by decide +kernel
theorem dX4_isRegister_4 : decode cX4_isRegister 4 = .ok (.iload_n 0, 1) := by decide +kernel
theorem dX4_isRegister_5 : decode cX4_isRegister 5 = .ok (.bipush 8, 2) := by decide +kernel
theorem dX4_isRegister_7 : decode cX4_isRegister 7 = .ok (.if_icmp .ge 7, 3) := by decide +kernel
theorem dX4_isRegister_10 : decode cX4_isRegister 10 = .ok (.iconst 1, 1) := by decide +kernel
theorem dX4_isRegister_11 : decode cX4_isRegister 11 = .ok (.goto 4, 3) := by decide +kernel
theorem dX4_isRegister_14 : decode cX4_isRegister 14 = .ok (.iconst 0, 1) := by decide +kernel
theorem dX4_isRegister_15 : decode cX4_isRegister 15 = .ok (.ireturn, 1) := by decide +kernel
theorem dX4_isWord_0 : decode cX4_isWord 0 = .ok (.iload_n 0, 1) := by decide +kernel
theorem dX4_isWord_1 : decode cX4_isWord 1 = .ok (.ifCond .lt 13, 3) := by decide +kernel
theorem dX4_isWord_4 : decode cX4_isWord 4 = .ok (.iload_n 0, 1) := by decide +kernel
theorem dX4_isWord_5 : decode cX4_isWord 5 = .ok (.bipush 64, 2) := by decide +kernel
theorem dX4_isWord_7 : decode cX4_isWord 7 = .ok (.if_icmp .ge 7, 3) := by decide +kernel
theorem dX4_isWord_10 : decode cX4_isWord 10 = .ok (.iconst 1, 1) := by decide +kernel
theorem dX4_isWord_11 : decode cX4_isWord 11 = .ok (.goto 4, 3) := by decide +kernel
theorem dX4_isWord_14 : decode cX4_isWord 14 = .ok (.iconst 0, 1) := by decide +kernel
theorem dX4_isWord_15 : decode cX4_isWord 15 = .ok (.ireturn, 1) := by decide +kernel
theorem dX4_isManyPicks_0 : decode cX4_isManyPicks 0 = .ok (.iload_n 0, 1) := by decide +kernel
theorem dX4_isManyPicks_1 : decode cX4_isManyPicks 1 = .ok (.ifCond .lt 14, 3) := by decide +kernel
theorem dX4_isManyPicks_4 : decode cX4_isManyPicks 4 = .ok (.iload_n 0, 1) := by decide +kernel
theorem dX4_isManyPicks_5 : decode cX4_isManyPicks 5 = .ok (.sipush 2000, 3) := by decide +kernel
theorem dX4_isManyPicks_8 : decode cX4_isManyPicks 8 = .ok (.if_icmp .gt 7, 3) := by decide +kernel
theorem dX4_isManyPicks_11 : decode cX4_isManyPicks 11 = .ok (.iconst 1, 1) := by decide +kernel
theorem dX4_isManyPicks_12 : decode cX4_isManyPicks 12 = .ok (.goto 4, 3) := by decide +kernel
theorem dX4_isManyPicks_15 : decode cX4_isManyPicks 15 = .ok (.iconst 0, 1) := by decide +kernel
theorem dX4_isManyPicks_16 : decode cX4_isManyPicks 16 = .ok (.ireturn, 1) := by decide +kernel
theorem dX4_isCore_0 : decode cX4_isCore 0 = .ok (.iload_n 1, 1) := by decide +kernel
theorem dX4_isCore_1 : decode cX4_isCore 1 = .ok (.ifCond .lt 16, 3) := by decide +kernel
theorem dX4_isCore_4 : decode cX4_isCore 4 = .ok (.iload_n 1, 1) := by decide +kernel
theorem dX4_isCore_5 : decode cX4_isCore 5 = .ok (.aload_n 0, 1) := by decide +kernel
theorem dX4_isCore_6 : decode cX4_isCore 6 = .ok (.getfield 40, 3) := by decide +kernel
theorem dX4_isCore_9 : decode cX4_isCore 9 = .ok (.arraylength, 1) := by decide +kernel
theorem dX4_isCore_10 : decode cX4_isCore 10 = .ok (.if_icmp .ge 7, 3) := by decide +kernel
theorem dX4_isCore_13 : decode cX4_isCore 13 = .ok (.iconst 1, 1) := by decide +kernel
theorem dX4_isCore_14 : decode cX4_isCore 14 = .ok (.goto 4, 3) := by decide +kernel
theorem dX4_isCore_17 : decode cX4_isCore 17 = .ok (.iconst 0, 1) := by decide +kernel
theorem dX4_isCore_18 : decode cX4_isCore 18 = .ok (.ireturn, 1) := by decide +kernel
set_option maxRecDepth 20000 in
theorem ggX4_namesRegisters_X4_isRegister : GoodIn wsX4_namesRegisters wsX4_isRegister := goodIn_r _ [4] (by decide +kernel) (by decide +kernel)
set_option maxRecDepth 20000 in
theorem gX4_namesRegisters_X4_isRegister : GoodIn wsX4_namesRegisters (va_wsS RX4 87 yX4_isRegister wsX4_isRegister) := goodIn_app (goodIn_of _ (by decide +kernel)) ggX4_namesRegisters_X4_isRegister
theorem dX4_namesRegisters_0 : decode cX4_namesRegisters 0 = .ok (.iload_n 0, 1) := by decide +kernel
theorem dX4_namesRegisters_1 : decode cX4_namesRegisters 1 = .ok (.bipush 8, 2) := by decide +kernel
theorem dX4_namesRegisters_3 : decode cX4_namesRegisters 3 = .ok (.if_icmp .le 9, 3) := by decide +kernel
theorem dX4_namesRegisters_6 : decode cX4_namesRegisters 6 = .ok (.iload_n 0, 1) := by decide +kernel
theorem dX4_namesRegisters_7 : decode cX4_namesRegisters 7 = .ok (.bipush 12, 2) := by decide +kernel
theorem dX4_namesRegisters_9 : decode cX4_namesRegisters 9 = .ok (.if_icmp .ne 7, 3) := by decide +kernel
theorem dX4_namesRegisters_12 : decode cX4_namesRegisters 12 = .ok (.iconst 1, 1) := by decide +kernel
theorem dX4_namesRegisters_13 : decode cX4_namesRegisters 13 = .ok (.goto 4, 3) := by decide +kernel
theorem dX4_namesRegisters_16 : decode cX4_namesRegisters 16 = .ok (.iconst 0, 1) := by decide +kernel
theorem dX4_namesRegisters_17 : decode cX4_namesRegisters 17 = .ok (.istore 4, 2) := by decide +kernel
theorem dX4_namesRegisters_19 : decode cX4_namesRegisters 19 = .ok (.iload_n 0, 1) := by decide +kernel
theorem dX4_namesRegisters_20 : decode cX4_namesRegisters 20 = .ok (.iconst 1, 1) := by decide +kernel
theorem dX4_namesRegisters_21 : decode cX4_namesRegisters 21 = .ok (.if_icmp .lt 13, 3) := by decide +kernel
theorem dX4_namesRegisters_24 : decode cX4_namesRegisters 24 = .ok (.iload_n 0, 1) := by decide +kernel
theorem dX4_namesRegisters_25 : decode cX4_namesRegisters 25 = .ok (.bipush 8, 2) := by decide +kernel
theorem dX4_namesRegisters_27 : decode cX4_namesRegisters 27 = .ok (.if_icmp .gt 7, 3) := by decide +kernel
theorem dX4_namesRegisters_30 : decode cX4_namesRegisters 30 = .ok (.iconst 1, 1) := by decide +kernel
theorem dX4_namesRegisters_31 : decode cX4_namesRegisters 31 = .ok (.goto 4, 3) := by decide +kernel
theorem dX4_namesRegisters_34 : decode cX4_namesRegisters 34 = .ok (.iconst 0, 1) := by decide +kernel
theorem dX4_namesRegisters_35 : decode cX4_namesRegisters 35 = .ok (.istore 5, 2) := by decide +kernel
theorem dX4_namesRegisters_37 : decode cX4_namesRegisters 37 = .ok (.iload_n 0, 1) := by decide +kernel
theorem dX4_namesRegisters_38 : decode cX4_namesRegisters 38 = .ok (.iconst 1, 1) := by decide +kernel
theorem dX4_namesRegisters_39 : decode cX4_namesRegisters 39 = .ok (.if_icmp .lt 12, 3) := by decide +kernel
theorem dX4_namesRegisters_42 : decode cX4_namesRegisters 42 = .ok (.iload_n 0, 1) := by decide +kernel
theorem dX4_namesRegisters_43 : decode cX4_namesRegisters 43 = .ok (.iconst 3, 1) := by decide +kernel
theorem dX4_namesRegisters_44 : decode cX4_namesRegisters 44 = .ok (.if_icmp .gt 7, 3) := by decide +kernel
theorem dX4_namesRegisters_47 : decode cX4_namesRegisters 47 = .ok (.iconst 1, 1) := by decide +kernel
theorem dX4_namesRegisters_48 : decode cX4_namesRegisters 48 = .ok (.goto 4, 3) := by decide +kernel
theorem dX4_namesRegisters_51 : decode cX4_namesRegisters 51 = .ok (.iconst 0, 1) := by decide +kernel
theorem dX4_namesRegisters_52 : decode cX4_namesRegisters 52 = .ok (.istore 6, 2) := by decide +kernel
theorem dX4_namesRegisters_54 : decode cX4_namesRegisters 54 = .ok (.iload 4, 2) := by decide +kernel
theorem dX4_namesRegisters_56 : decode cX4_namesRegisters 56 = .ok (.ifCond .eq 10, 3) := by decide +kernel
theorem dX4_namesRegisters_59 : decode cX4_namesRegisters 59 = .ok (.iload_n 1, 1) := by decide +kernel
theorem dX4_namesRegisters_60 : decode cX4_namesRegisters 60 = .ok (.invokestatic 87, 3) := by decide +kernel
theorem dX4_namesRegisters_63 : decode cX4_namesRegisters 63 = .ok (.ifCond .eq 31, 3) := by decide +kernel
theorem dX4_namesRegisters_66 : decode cX4_namesRegisters 66 = .ok (.iload 5, 2) := by decide +kernel
theorem dX4_namesRegisters_68 : decode cX4_namesRegisters 68 = .ok (.ifCond .eq 10, 3) := by decide +kernel
theorem dX4_namesRegisters_71 : decode cX4_namesRegisters 71 = .ok (.iload_n 2, 1) := by decide +kernel
theorem dX4_namesRegisters_72 : decode cX4_namesRegisters 72 = .ok (.invokestatic 87, 3) := by decide +kernel
theorem dX4_namesRegisters_75 : decode cX4_namesRegisters 75 = .ok (.ifCond .eq 19, 3) := by decide +kernel
theorem dX4_namesRegisters_78 : decode cX4_namesRegisters 78 = .ok (.iload 6, 2) := by decide +kernel
theorem dX4_namesRegisters_80 : decode cX4_namesRegisters 80 = .ok (.ifCond .eq 10, 3) := by decide +kernel
theorem dX4_namesRegisters_83 : decode cX4_namesRegisters 83 = .ok (.iload_n 3, 1) := by decide +kernel
theorem dX4_namesRegisters_84 : decode cX4_namesRegisters 84 = .ok (.invokestatic 87, 3) := by decide +kernel
theorem dX4_namesRegisters_87 : decode cX4_namesRegisters 87 = .ok (.ifCond .eq 7, 3) := by decide +kernel
theorem dX4_namesRegisters_90 : decode cX4_namesRegisters 90 = .ok (.iconst 1, 1) := by decide +kernel
theorem dX4_namesRegisters_91 : decode cX4_namesRegisters 91 = .ok (.goto 4, 3) := by decide +kernel
theorem dX4_namesRegisters_94 : decode cX4_namesRegisters 94 = .ok (.iconst 0, 1) := by decide +kernel
theorem dX4_namesRegisters_95 : decode cX4_namesRegisters 95 = .ok (.ireturn, 1) := by decide +kernel
set_option maxRecDepth 20000 in
theorem ggX4_step_X4_fault : GoodIn wsX4_step wsX4_fault := goodIn_r _ [10, 11, 12, 1, 13, 14, 15, 9, 16, 17, 18, 19, 20, 21, 22, 23, 24, 25, 26, 27, 2, 28, 29, 30, 31, 32, 33, 34, 35, 36, 37, 38, 39, 40, 41, 42, 43, 44, 45, 46, 47, 48, 49, 50, 51, 52, 141, 142, 143, 144, 145, 146, 147, 148, 161, 162, 163, 164, 165, 166, 167, 168, 169, 149, 150, 151, 152, 153, 154, 155, 170, 171, 172] (by decide +kernel) (by decide +kernel)
set_option maxRecDepth 20000 in
theorem gX4_step_X4_fault : GoodIn wsX4_step (wsV RX4 143 RX4 yX4_fault wsX4_fault) := goodIn_app (goodIn_of _ (by decide +kernel)) ggX4_step_X4_fault
set_option maxRecDepth 20000 in
theorem ggX4_step_X4_execute : GoodIn wsX4_step wsX4_execute := goodIn_r _ [56, 22, 3, 57, 58, 59, 60, 2, 37, 38, 39, 40, 41, 42, 61, 62, 63, 9, 64, 18, 11, 12, 65, 66, 67, 68, 69, 6, 7, 8, 10, 1, 13, 14, 15, 16, 17, 19, 20, 21, 23, 24, 25, 26, 27, 28, 29, 30, 31, 32, 33, 34, 35, 36, 43, 44, 45, 46, 47, 48, 49, 50, 51, 52, 70, 71, 72, 73, 74, 75, 76, 77, 78, 79, 80, 81, 82, 83, 84, 85, 86, 87, 88, 89, 90, 91, 92, 93, 94, 95, 96, 97, 98, 99, 100, 101, 102, 103, 104, 105, 106, 107, 108, 109, 110, 111, 112, 113, 114, 115, 116, 117, 118, 119, 120, 121, 122, 123, 124, 125, 126, 127, 128, 129, 130, 131, 132, 133, 134, 135, 136, 137, 138, 139, 140, 141, 142, 143, 144, 145, 146, 147, 148, 149, 150, 151, 152, 153, 154, 155, 156, 157, 158, 159, 160, 161, 162, 163, 164, 165, 166, 167, 168, 169, 170, 171, 172] (by decide +kernel) (by decide +kernel)
set_option maxRecDepth 20000 in
theorem gX4_step_X4_execute : GoodIn wsX4_step (wsV RX4 147 RX4 yX4_execute wsX4_execute) := goodIn_app (goodIn_of _ (by decide +kernel)) ggX4_step_X4_execute
theorem dX4_step_0 : decode cX4_step 0 = .ok (.aload_n 1, 1) := by decide +kernel
theorem dX4_step_1 : decode cX4_step 1 = .ok (.getfield 83, 3) := by decide +kernel
theorem dX4_step_4 : decode cX4_step 4 = .ok (.ifCond .eq 5, 3) := by decide +kernel
theorem dX4_step_7 : decode cX4_step 7 = .ok (.iconst 0, 1) := by decide +kernel
theorem dX4_step_8 : decode cX4_step 8 = .ok (.ireturn, 1) := by decide +kernel
theorem dX4_step_9 : decode cX4_step 9 = .ok (.iconst 0, 1) := by decide +kernel
theorem dX4_step_10 : decode cX4_step 10 = .ok (.istore_n 2, 1) := by decide +kernel
theorem dX4_step_11 : decode cX4_step 11 = .ok (.aload_n 1, 1) := by decide +kernel
theorem dX4_step_12 : decode cX4_step 12 = .ok (.getfield 71, 3) := by decide +kernel
theorem dX4_step_15 : decode cX4_step 15 = .ok (.ifCond .lt 17, 3) := by decide +kernel
theorem dX4_step_18 : decode cX4_step 18 = .ok (.aload_n 1, 1) := by decide +kernel
theorem dX4_step_19 : decode cX4_step 19 = .ok (.getfield 71, 3) := by decide +kernel
theorem dX4_step_22 : decode cX4_step 22 = .ok (.aload_n 0, 1) := by decide +kernel
theorem dX4_step_23 : decode cX4_step 23 = .ok (.getfield 16, 3) := by decide +kernel
theorem dX4_step_26 : decode cX4_step 26 = .ok (.getfield 54, 3) := by decide +kernel
theorem dX4_step_29 : decode cX4_step 29 = .ok (.if_icmp .lt 11, 3) := by decide +kernel
theorem dX4_step_32 : decode cX4_step 32 = .ok (.aload_n 0, 1) := by decide +kernel
theorem dX4_step_33 : decode cX4_step 33 = .ok (.aload_n 1, 1) := by decide +kernel
theorem dX4_step_34 : decode cX4_step 34 = .ok (.invokevirtual 143, 3) := by decide +kernel
end
section
theorem dX4_step_37 : decode cX4_step 37 = .ok (.goto 13, 3) := by decide +kernel
theorem dX4_step_40 : decode cX4_step 40 = .ok (.aload_n 0, 1) := by decide +kernel
theorem dX4_step_41 : decode cX4_step 41 = .ok (.aload_n 1, 1) := by decide +kernel
theorem dX4_step_42 : decode cX4_step 42 = .ok (.aload_n 1, 1) := by decide +kernel
theorem dX4_step_43 : decode cX4_step 43 = .ok (.getfield 71, 3) := by decide +kernel
theorem dX4_step_46 : decode cX4_step 46 = .ok (.invokevirtual 147, 3) := by decide +kernel
theorem dX4_step_49 : decode cX4_step 49 = .ok (.istore_n 2, 1) := by decide +kernel
theorem dX4_step_50 : decode cX4_step 50 = .ok (.iload_n 2, 1) := by decide +kernel
theorem dX4_step_51 : decode cX4_step 51 = .ok (.ifCond .ne 5, 3) := by decide +kernel
theorem dX4_step_54 : decode cX4_step 54 = .ok (.iconst 0, 1) := by decide +kernel
theorem dX4_step_55 : decode cX4_step 55 = .ok (.ireturn, 1) := by decide +kernel
theorem dX4_step_56 : decode cX4_step 56 = .ok (.aload_n 1, 1) := by decide +kernel
theorem dX4_step_57 : decode cX4_step 57 = .ok (.dup, 1) := by decide +kernel
theorem dX4_step_58 : decode cX4_step 58 = .ok (.getfield 151, 3) := by decide +kernel
theorem dX4_step_61 : decode cX4_step 61 = .ok (.iconst 1, 1) := by decide +kernel
theorem dX4_step_62 : decode cX4_step 62 = .ok (.iadd, 1) := by decide +kernel
theorem dX4_step_63 : decode cX4_step 63 = .ok (.putfield 151, 3) := by decide +kernel
theorem dX4_step_66 : decode cX4_step 66 = .ok (.iconst 1, 1) := by decide +kernel
theorem dX4_step_67 : decode cX4_step 67 = .ok (.ireturn, 1) := by decide +kernel
set_option maxRecDepth 20000 in
theorem ggX4_execute_X0_put : GoodIn wsX4_execute wsX0_put := goodIn_r _ [12, 13, 135, 136, 137, 138, 139, 140, 141, 142] (by decide +kernel) (by decide +kernel)
set_option maxRecDepth 20000 in
theorem gX4_execute_X0_put : GoodIn wsX4_execute (wsV RX4 93 RX0 yX0_put wsX0_put) := goodIn_app (goodIn_of _ (by decide +kernel)) ggX4_execute_X0_put
set_option maxRecDepth 20000 in
theorem ggX4_execute_X4_mayAccess : GoodIn wsX4_execute wsX4_mayAccess := goodIn_r _ [18, 19, 20, 21, 22, 23, 24, 25, 17, 26, 27, 28, 29, 30, 31, 32, 33, 34, 35, 36, 37, 38, 39, 1, 40, 41, 42, 43, 44, 7, 45, 46, 47, 48, 49, 50, 51, 52, 53, 8, 9, 10, 11, 12, 13, 54, 55, 56, 57, 58, 59, 60, 61, 62, 63, 64, 65, 66, 67, 68, 69, 70, 71, 72, 73, 74, 75, 76, 77, 78, 79, 80, 81, 82, 83, 84, 135, 136, 137, 138, 139, 140, 141, 142, 155, 156, 157, 158, 159, 160, 161, 162, 163, 143, 144, 145, 146, 147, 148, 149, 164, 165, 166] (by decide +kernel) (by decide +kernel)
set_option maxRecDepth 20000 in
theorem gX4_execute_X4_mayAccess : GoodIn wsX4_execute (wsV RX4 166 RX4 yX4_mayAccess wsX4_mayAccess) := goodIn_app (goodIn_of _ (by decide +kernel)) ggX4_execute_X4_mayAccess
set_option maxRecDepth 20000 in
theorem ggX4_execute_X4_wordSeenBy : GoodIn wsX4_execute wsX4_wordSeenBy := goodIn_r _ [88, 20, 89, 90, 91, 92, 93, 57, 94, 63, 135, 136, 137, 138, 139, 140, 141, 142, 155, 156, 157, 158, 159, 160, 161, 162, 163, 143, 144, 145, 146, 147, 148, 149] (by decide +kernel) (by decide +kernel)
set_option maxRecDepth 20000 in
theorem gX4_execute_X4_wordSeenBy : GoodIn wsX4_execute (wsV RX4 112 RX4 yX4_wordSeenBy wsX4_wordSeenBy) := goodIn_app (goodIn_of _ (by decide +kernel)) ggX4_execute_X4_wordSeenBy
set_option maxRecDepth 20000 in
theorem ggX4_execute_X4_write : GoodIn wsX4_execute wsX4_write := goodIn_r _ [98, 20, 21, 90, 99, 100, 101, 57, 102, 63, 103, 135, 136, 137, 138, 139, 140, 141, 142, 155, 156, 157, 158, 159, 160, 161, 162, 163, 143, 144, 145, 146, 147, 148, 149] (by decide +kernel) (by decide +kernel)
set_option maxRecDepth 20000 in
theorem gX4_execute_X4_write : GoodIn wsX4_execute (wsV RX4 170 RX4 yX4_write wsX4_write) := goodIn_app (goodIn_of _ (by decide +kernel)) ggX4_execute_X4_write
set_option maxRecDepth 20000 in
theorem ggX4_execute_X4_executeTransactional : GoodIn wsX4_execute wsX4_executeTransactional := goodIn_r _ [107, 2, 6, 1, 3, 31, 108, 109, 110, 17, 111, 20, 21, 112, 5, 32, 33, 34, 35, 36, 19, 37, 38, 39, 40, 41, 42, 43, 44, 7, 45, 46, 47, 48, 49, 50, 51, 52, 53, 8, 9, 10, 11, 12, 13, 54, 55, 56, 57, 58, 59, 60, 61, 62, 63, 113, 114, 115, 116, 117, 118, 119, 120, 121, 122, 123, 124, 90, 125, 126, 127, 128, 129, 103, 130, 92, 93, 94, 131, 132, 133, 134, 143, 144, 145, 146, 147, 148, 149, 150, 151, 152, 153, 154, 135, 136, 137, 138, 139, 140, 141, 142, 155, 156, 157, 158, 159, 160, 161, 162, 163, 164, 165, 166] (by decide +kernel) (by decide +kernel)
set_option maxRecDepth 20000 in
theorem gX4_execute_X4_executeTransactional : GoodIn wsX4_execute (wsV RX4 174 RX4 yX4_executeTransactional wsX4_executeTransactional) := goodIn_app (goodIn_of _ (by decide +kernel)) ggX4_execute_X4_executeTransactional
theorem dX4_execute_0 : decode cX4_execute 0 = .ok (.aload_n 1, 1) := by decide +kernel
theorem dX4_execute_1 : decode cX4_execute 1 = .ok (.getfield 90, 3) := by decide +kernel
theorem dX4_execute_4 : decode cX4_execute 4 = .ok (.astore_n 3, 1) := by decide +kernel
theorem dX4_execute_5 : decode cX4_execute 5 = .ok (.aload_n 0, 1) := by decide +kernel
theorem dX4_execute_6 : decode cX4_execute 6 = .ok (.getfield 16, 3) := by decide +kernel
theorem dX4_execute_9 : decode cX4_execute 9 = .ok (.getfield 154, 3) := by decide +kernel
theorem dX4_execute_12 : decode cX4_execute 12 = .ok (.iload_n 2, 1) := by decide +kernel
theorem dX4_execute_13 : decode cX4_execute 13 = .ok (.iaload, 1) := by decide +kernel
theorem dX4_execute_14 : decode cX4_execute 14 = .ok (.istore 4, 2) := by decide +kernel
theorem dX4_execute_16 : decode cX4_execute 16 = .ok (.aload_n 0, 1) := by decide +kernel
theorem dX4_execute_17 : decode cX4_execute 17 = .ok (.getfield 16, 3) := by decide +kernel
theorem dX4_execute_20 : decode cX4_execute 20 = .ok (.getfield 157, 3) := by decide +kernel
theorem dX4_execute_23 : decode cX4_execute 23 = .ok (.iload_n 2, 1) := by decide +kernel
theorem dX4_execute_24 : decode cX4_execute 24 = .ok (.iaload, 1) := by decide +kernel
theorem dX4_execute_25 : decode cX4_execute 25 = .ok (.istore 5, 2) := by decide +kernel
theorem dX4_execute_27 : decode cX4_execute 27 = .ok (.aload_n 0, 1) := by decide +kernel
theorem dX4_execute_28 : decode cX4_execute 28 = .ok (.getfield 16, 3) := by decide +kernel
theorem dX4_execute_31 : decode cX4_execute 31 = .ok (.getfield 160, 3) := by decide +kernel
theorem dX4_execute_34 : decode cX4_execute 34 = .ok (.iload_n 2, 1) := by decide +kernel
theorem dX4_execute_35 : decode cX4_execute 35 = .ok (.iaload, 1) := by decide +kernel
theorem dX4_execute_36 : decode cX4_execute 36 = .ok (.istore 6, 2) := by decide +kernel
theorem dX4_execute_38 : decode cX4_execute 38 = .ok (.iload_n 2, 1) := by decide +kernel
theorem dX4_execute_39 : decode cX4_execute 39 = .ok (.iconst 1, 1) := by decide +kernel
theorem dX4_execute_40 : decode cX4_execute 40 = .ok (.iadd, 1) := by decide +kernel
theorem dX4_execute_41 : decode cX4_execute 41 = .ok (.istore 7, 2) := by decide +kernel
theorem dX4_execute_43 : decode cX4_execute 43 = .ok (.aload_n 0, 1) := by decide +kernel
theorem dX4_execute_44 : decode cX4_execute 44 = .ok (.getfield 16, 3) := by decide +kernel
theorem dX4_execute_47 : decode cX4_execute 47 = .ok (.getfield 163, 3) := by decide +kernel
theorem dX4_execute_50 : decode cX4_execute 50 = .ok (.iload_n 2, 1) := by decide +kernel
theorem dX4_execute_51 : decode cX4_execute 51 = .ok (.iaload, 1) := by decide +kernel
theorem dX4_execute_52 : decode cX4_execute 52 = .ok (.tableswitch 266 0 9 #[56, 67, 85, 103, 121, 137, 176, 213, 236, 259], 56) := by decide +kernel
theorem dX4_execute_108 : decode cX4_execute 108 = .ok (.aload_n 1, 1) := by decide +kernel
theorem dX4_execute_109 : decode cX4_execute 109 = .ok (.iload 4, 2) := by decide +kernel
theorem dX4_execute_111 : decode cX4_execute 111 = .ok (.iload 6, 2) := by decide +kernel
theorem dX4_execute_113 : decode cX4_execute 113 = .ok (.invokevirtual 93, 3) := by decide +kernel
theorem dX4_execute_116 : decode cX4_execute 116 = .ok (.goto 213, 3) := by decide +kernel
theorem dX4_execute_119 : decode cX4_execute 119 = .ok (.aload_n 1, 1) := by decide +kernel
theorem dX4_execute_120 : decode cX4_execute 120 = .ok (.iload 4, 2) := by decide +kernel
theorem dX4_execute_122 : decode cX4_execute 122 = .ok (.aload_n 3, 1) := by decide +kernel
theorem dX4_execute_123 : decode cX4_execute 123 = .ok (.iload 5, 2) := by decide +kernel
theorem dX4_execute_125 : decode cX4_execute 125 = .ok (.iaload, 1) := by decide +kernel
theorem dX4_execute_126 : decode cX4_execute 126 = .ok (.aload_n 3, 1) := by decide +kernel
theorem dX4_execute_127 : decode cX4_execute 127 = .ok (.iload 6, 2) := by decide +kernel
theorem dX4_execute_129 : decode cX4_execute 129 = .ok (.iaload, 1) := by decide +kernel
theorem dX4_execute_130 : decode cX4_execute 130 = .ok (.iadd, 1) := by decide +kernel
theorem dX4_execute_131 : decode cX4_execute 131 = .ok (.invokevirtual 93, 3) := by decide +kernel
theorem dX4_execute_134 : decode cX4_execute 134 = .ok (.goto 195, 3) := by decide +kernel
theorem dX4_execute_137 : decode cX4_execute 137 = .ok (.aload_n 1, 1) := by decide +kernel
theorem dX4_execute_138 : decode cX4_execute 138 = .ok (.iload 4, 2) := by decide +kernel
theorem dX4_execute_140 : decode cX4_execute 140 = .ok (.aload_n 3, 1) := by decide +kernel
theorem dX4_execute_141 : decode cX4_execute 141 = .ok (.iload 5, 2) := by decide +kernel
theorem dX4_execute_143 : decode cX4_execute 143 = .ok (.iaload, 1) := by decide +kernel
theorem dX4_execute_144 : decode cX4_execute 144 = .ok (.aload_n 3, 1) := by decide +kernel
theorem dX4_execute_145 : decode cX4_execute 145 = .ok (.iload 6, 2) := by decide +kernel
theorem dX4_execute_147 : decode cX4_execute 147 = .ok (.iaload, 1) := by decide +kernel
theorem dX4_execute_148 : decode cX4_execute 148 = .ok (.isub, 1) := by decide +kernel
theorem dX4_execute_149 : decode cX4_execute 149 = .ok (.invokevirtual 93, 3) := by decide +kernel
theorem dX4_execute_152 : decode cX4_execute 152 = .ok (.goto 177, 3) := by decide +kernel
theorem dX4_execute_155 : decode cX4_execute 155 = .ok (.aload_n 1, 1) := by decide +kernel
theorem dX4_execute_156 : decode cX4_execute 156 = .ok (.iload 4, 2) := by decide +kernel
theorem dX4_execute_158 : decode cX4_execute 158 = .ok (.aload_n 3, 1) := by decide +kernel
theorem dX4_execute_159 : decode cX4_execute 159 = .ok (.iload 5, 2) := by decide +kernel
theorem dX4_execute_161 : decode cX4_execute 161 = .ok (.iaload, 1) := by decide +kernel
theorem dX4_execute_162 : decode cX4_execute 162 = .ok (.aload_n 3, 1) := by decide +kernel
theorem dX4_execute_163 : decode cX4_execute 163 = .ok (.iload 6, 2) := by decide +kernel
theorem dX4_execute_165 : decode cX4_execute 165 = .ok (.iaload, 1) := by decide +kernel
theorem dX4_execute_166 : decode cX4_execute 166 = .ok (.imul, 1) := by decide +kernel
theorem dX4_execute_167 : decode cX4_execute 167 = .ok (.invokevirtual 93, 3) := by decide +kernel
theorem dX4_execute_170 : decode cX4_execute 170 = .ok (.goto 159, 3) := by decide +kernel
theorem dX4_execute_173 : decode cX4_execute 173 = .ok (.aload_n 1, 1) := by decide +kernel
theorem dX4_execute_174 : decode cX4_execute 174 = .ok (.iload 4, 2) := by decide +kernel
theorem dX4_execute_176 : decode cX4_execute 176 = .ok (.aload_n 3, 1) := by decide +kernel
theorem dX4_execute_177 : decode cX4_execute 177 = .ok (.iload 5, 2) := by decide +kernel
theorem dX4_execute_179 : decode cX4_execute 179 = .ok (.iaload, 1) := by decide +kernel
theorem dX4_execute_180 : decode cX4_execute 180 = .ok (.iload 6, 2) := by decide +kernel
theorem dX4_execute_182 : decode cX4_execute 182 = .ok (.iadd, 1) := by decide +kernel
theorem dX4_execute_183 : decode cX4_execute 183 = .ok (.invokevirtual 93, 3) := by decide +kernel
theorem dX4_execute_186 : decode cX4_execute 186 = .ok (.goto 143, 3) := by decide +kernel
theorem dX4_execute_189 : decode cX4_execute 189 = .ok (.aload_n 0, 1) := by decide +kernel
theorem dX4_execute_190 : decode cX4_execute 190 = .ok (.aload_n 1, 1) := by decide +kernel
theorem dX4_execute_191 : decode cX4_execute 191 = .ok (.aload_n 3, 1) := by decide +kernel
theorem dX4_execute_192 : decode cX4_execute 192 = .ok (.iload 5, 2) := by decide +kernel
theorem dX4_execute_194 : decode cX4_execute 194 = .ok (.iaload, 1) := by decide +kernel
theorem dX4_execute_195 : decode cX4_execute 195 = .ok (.iload 6, 2) := by decide +kernel
theorem dX4_execute_197 : decode cX4_execute 197 = .ok (.iadd, 1) := by decide +kernel
theorem dX4_execute_198 : decode cX4_execute 198 = .ok (.iconst 0, 1) := by decide +kernel
theorem dX4_execute_199 : decode cX4_execute 199 = .ok (.invokevirtual 166, 3) := by decide +kernel
theorem dX4_execute_202 : decode cX4_execute 202 = .ok (.ifCond .ne 5, 3) := by decide +kernel
theorem dX4_execute_205 : decode cX4_execute 205 = .ok (.iconst 0, 1) := by decide +kernel
theorem dX4_execute_206 : decode cX4_execute 206 = .ok (.ireturn, 1) := by decide +kernel
theorem dX4_execute_207 : decode cX4_execute 207 = .ok (.aload_n 1, 1) := by decide +kernel
theorem dX4_execute_208 : decode cX4_execute 208 = .ok (.iload 4, 2) := by decide +kernel
theorem dX4_execute_210 : decode cX4_execute 210 = .ok (.aload_n 0, 1) := by decide +kernel
theorem dX4_execute_211 : decode cX4_execute 211 = .ok (.aload_n 1, 1) := by decide +kernel
theorem dX4_execute_212 : decode cX4_execute 212 = .ok (.aload_n 3, 1) := by decide +kernel
theorem dX4_execute_213 : decode cX4_execute 213 = .ok (.iload 5, 2) := by decide +kernel
theorem dX4_execute_215 : decode cX4_execute 215 = .ok (.iaload, 1) := by decide +kernel
theorem dX4_execute_216 : decode cX4_execute 216 = .ok (.iload 6, 2) := by decide +kernel
theorem dX4_execute_218 : decode cX4_execute 218 = .ok (.iadd, 1) := by decide +kernel
theorem dX4_execute_219 : decode cX4_execute 219 = .ok (.invokevirtual 112, 3) := by decide +kernel
theorem dX4_execute_222 : decode cX4_execute 222 = .ok (.invokevirtual 93, 3) := by decide +kernel
theorem dX4_execute_225 : decode cX4_execute 225 = .ok (.goto 104, 3) := by decide +kernel
theorem dX4_execute_228 : decode cX4_execute 228 = .ok (.aload_n 0, 1) := by decide +kernel
theorem dX4_execute_229 : decode cX4_execute 229 = .ok (.aload_n 1, 1) := by decide +kernel
theorem dX4_execute_230 : decode cX4_execute 230 = .ok (.aload_n 3, 1) := by decide +kernel
theorem dX4_execute_231 : decode cX4_execute 231 = .ok (.iload 5, 2) := by decide +kernel
theorem dX4_execute_233 : decode cX4_execute 233 = .ok (.iaload, 1) := by decide +kernel
theorem dX4_execute_234 : decode cX4_execute 234 = .ok (.iload 6, 2) := by decide +kernel
theorem dX4_execute_236 : decode cX4_execute 236 = .ok (.iadd, 1) := by decide +kernel
theorem dX4_execute_237 : decode cX4_execute 237 = .ok (.iconst 1, 1) := by decide +kernel
theorem dX4_execute_238 : decode cX4_execute 238 = .ok (.invokevirtual 166, 3) := by decide +kernel
theorem dX4_execute_241 : decode cX4_execute 241 = .ok (.ifCond .ne 5, 3) := by decide +kernel
theorem dX4_execute_244 : decode cX4_execute 244 = .ok (.iconst 0, 1) := by decide +kernel
theorem dX4_execute_245 : decode cX4_execute 245 = .ok (.ireturn, 1) := by decide +kernel
theorem dX4_execute_246 : decode cX4_execute 246 = .ok (.aload_n 0, 1) := by decide +kernel
theorem dX4_execute_247 : decode cX4_execute 247 = .ok (.aload_n 1, 1) := by decide +kernel
theorem dX4_execute_248 : decode cX4_execute 248 = .ok (.aload_n 3, 1) := by decide +kernel
theorem dX4_execute_249 : decode cX4_execute 249 = .ok (.iload 5, 2) := by decide +kernel
theorem dX4_execute_251 : decode cX4_execute 251 = .ok (.iaload, 1) := by decide +kernel
theorem dX4_execute_252 : decode cX4_execute 252 = .ok (.iload 6, 2) := by decide +kernel
theorem dX4_execute_254 : decode cX4_execute 254 = .ok (.iadd, 1) := by decide +kernel
theorem dX4_execute_255 : decode cX4_execute 255 = .ok (.aload_n 3, 1) := by decide +kernel
theorem dX4_execute_256 : decode cX4_execute 256 = .ok (.iload 4, 2) := by decide +kernel
theorem dX4_execute_258 : decode cX4_execute 258 = .ok (.iaload, 1) := by decide +kernel
theorem dX4_execute_259 : decode cX4_execute 259 = .ok (.invokevirtual 170, 3) := by decide +kernel
theorem dX4_execute_262 : decode cX4_execute 262 = .ok (.goto 67, 3) := by decide +kernel
theorem dX4_execute_265 : decode cX4_execute 265 = .ok (.aload_n 3, 1) := by decide +kernel
theorem dX4_execute_266 : decode cX4_execute 266 = .ok (.iload 4, 2) := by decide +kernel
theorem dX4_execute_268 : decode cX4_execute 268 = .ok (.iaload, 1) := by decide +kernel
theorem dX4_execute_269 : decode cX4_execute 269 = .ok (.aload_n 3, 1) := by decide +kernel
theorem dX4_execute_270 : decode cX4_execute 270 = .ok (.iload 5, 2) := by decide +kernel
theorem dX4_execute_272 : decode cX4_execute 272 = .ok (.iaload, 1) := by decide +kernel
theorem dX4_execute_273 : decode cX4_execute 273 = .ok (.if_icmp .ge 8, 3) := by decide +kernel
theorem dX4_execute_276 : decode cX4_execute 276 = .ok (.iload 6, 2) := by decide +kernel
theorem dX4_execute_278 : decode cX4_execute 278 = .ok (.goto 5, 3) := by decide +kernel
theorem dX4_execute_281 : decode cX4_execute 281 = .ok (.iload 7, 2) := by decide +kernel
theorem dX4_execute_283 : decode cX4_execute 283 = .ok (.istore 7, 2) := by decide +kernel
theorem dX4_execute_285 : decode cX4_execute 285 = .ok (.goto 44, 3) := by decide +kernel
theorem dX4_execute_288 : decode cX4_execute 288 = .ok (.aload_n 3, 1) := by decide +kernel
theorem dX4_execute_289 : decode cX4_execute 289 = .ok (.iload 4, 2) := by decide +kernel
theorem dX4_execute_291 : decode cX4_execute 291 = .ok (.iaload, 1) := by decide +kernel
theorem dX4_execute_292 : decode cX4_execute 292 = .ok (.aload_n 3, 1) := by decide +kernel
theorem dX4_execute_293 : decode cX4_execute 293 = .ok (.iload 5, 2) := by decide +kernel
theorem dX4_execute_295 : decode cX4_execute 295 = .ok (.iaload, 1) := by decide +kernel
theorem dX4_execute_296 : decode cX4_execute 296 = .ok (.if_icmp .eq 8, 3) := by decide +kernel
theorem dX4_execute_299 : decode cX4_execute 299 = .ok (.iload 6, 2) := by decide +kernel
theorem dX4_execute_301 : decode cX4_execute 301 = .ok (.goto 5, 3) := by decide +kernel
theorem dX4_execute_304 : decode cX4_execute 304 = .ok (.iload 7, 2) := by decide +kernel
theorem dX4_execute_306 : decode cX4_execute 306 = .ok (.istore 7, 2) := by decide +kernel
theorem dX4_execute_308 : decode cX4_execute 308 = .ok (.goto 21, 3) := by decide +kernel
theorem dX4_execute_311 : decode cX4_execute 311 = .ok (.iload 6, 2) := by decide +kernel
theorem dX4_execute_313 : decode cX4_execute 313 = .ok (.istore 7, 2) := by decide +kernel
theorem dX4_execute_315 : decode cX4_execute 315 = .ok (.goto 14, 3) := by decide +kernel
theorem dX4_execute_318 : decode cX4_execute 318 = .ok (.aload_n 0, 1) := by decide +kernel
theorem dX4_execute_319 : decode cX4_execute 319 = .ok (.aload_n 1, 1) := by decide +kernel
theorem dX4_execute_320 : decode cX4_execute 320 = .ok (.iload_n 2, 1) := by decide +kernel
theorem dX4_execute_321 : decode cX4_execute 321 = .ok (.invokevirtual 174, 3) := by decide +kernel
theorem dX4_execute_324 : decode cX4_execute 324 = .ok (.ifCond .ne 5, 3) := by decide +kernel
theorem dX4_execute_327 : decode cX4_execute 327 = .ok (.iconst 0, 1) := by decide +kernel
theorem dX4_execute_328 : decode cX4_execute 328 = .ok (.ireturn, 1) := by decide +kernel
theorem dX4_execute_329 : decode cX4_execute 329 = .ok (.aload_n 1, 1) := by decide +kernel
theorem dX4_execute_330 : decode cX4_execute 330 = .ok (.iload 7, 2) := by decide +kernel
theorem dX4_execute_332 : decode cX4_execute 332 = .ok (.putfield 71, 3) := by decide +kernel
theorem dX4_execute_335 : decode cX4_execute 335 = .ok (.iconst 1, 1) := by decide +kernel
theorem dX4_execute_336 : decode cX4_execute 336 = .ok (.ireturn, 1) := by decide +kernel
set_option maxRecDepth 20000 in
theorem ggX4_executeTransactional_X4_begin : GoodIn wsX4_executeTransactional wsX4_begin := goodIn_r _ [10, 11, 12, 13, 1, 14, 3, 15, 16, 17, 9, 18, 19, 20, 21, 22, 23, 24, 25, 26, 27, 28, 29, 30, 31, 32, 33, 34, 35, 36, 37, 38, 39, 40, 41, 42, 43, 44, 45, 46, 47, 48, 49, 50, 51, 52, 53, 54, 55, 56, 57, 58, 59, 60, 61, 62, 94, 95, 96, 97, 98, 99, 100, 101, 102, 103, 104, 105, 106, 107, 108, 109, 110, 82, 83, 84, 85, 86, 87, 88, 89, 90, 91, 92, 93, 111, 112, 113] (by decide +kernel) (by decide +kernel)
set_option maxRecDepth 20000 in
theorem gX4_executeTransactional_X4_begin : GoodIn wsX4_executeTransactional (wsV RX4 177 RX4 yX4_begin wsX4_begin) := goodIn_app (goodIn_of _ (by decide +kernel)) ggX4_executeTransactional_X4_begin
set_option maxRecDepth 20000 in
theorem ggX4_executeTransactional_X4_end : GoodIn wsX4_executeTransactional wsX4_end := goodIn_r _ [66, 11, 12, 67, 68, 69, 70, 71, 48, 72, 73, 74, 75, 76, 77, 54, 45, 46, 47, 49, 50, 51, 52, 53, 94, 95, 96, 97, 98, 99, 100, 101, 102, 103, 104, 105, 106, 107, 108, 109, 110, 82, 83, 84, 85, 86, 87, 88] (by decide +kernel) (by decide +kernel)
set_option maxRecDepth 20000 in
theorem gX4_executeTransactional_X4_end : GoodIn wsX4_executeTransactional (wsV RX4 180 RX4 yX4_end wsX4_end) := goodIn_app (goodIn_of _ (by decide +kernel)) ggX4_executeTransactional_X4_end
set_option maxRecDepth 20000 in
theorem ggX4_executeTransactional_X4_breaksOff : GoodIn wsX4_executeTransactional wsX4_breaksOff := goodIn_r _ [81, 11, 12, 15, 16, 17, 9, 18, 19, 20, 21, 22, 23, 3, 24, 25, 26, 27, 28, 29, 30, 31, 32, 33, 34, 35, 36, 37, 38, 39, 40, 41, 42, 43, 44, 45, 46, 47, 48, 49, 50, 51, 52, 53, 54, 94, 95, 96, 97, 98, 99, 100, 101, 102, 103, 104, 105, 106, 107, 108, 109, 110, 82, 83, 84, 85, 86, 87, 88, 111, 112, 113] (by decide +kernel) (by decide +kernel)
set_option maxRecDepth 20000 in
theorem gX4_executeTransactional_X4_breaksOff : GoodIn wsX4_executeTransactional (wsV RX4 183 RX4 yX4_breaksOff wsX4_breaksOff) := goodIn_app (goodIn_of _ (by decide +kernel)) ggX4_executeTransactional_X4_breaksOff
theorem dX4_executeTransactional_0 : decode cX4_executeTransactional 0 = .ok (.aload_n 0, 1) := by decide +kernel
theorem dX4_executeTransactional_1 : decode cX4_executeTransactional 1 = .ok (.getfield 16, 3) := by decide +kernel
theorem dX4_executeTransactional_4 : decode cX4_executeTransactional 4 = .ok (.getfield 163, 3) := by decide +kernel
theorem dX4_executeTransactional_7 : decode cX4_executeTransactional 7 = .ok (.iload_n 2, 1) := by decide +kernel
theorem dX4_executeTransactional_8 : decode cX4_executeTransactional 8 = .ok (.iaload, 1) := by decide +kernel
theorem dX4_executeTransactional_9 : decode cX4_executeTransactional 9 = .ok (.tableswitch 73 10 12 #[27, 34, 41], 27) := by decide +kernel
theorem dX4_executeTransactional_36 : decode cX4_executeTransactional 36 = .ok (.aload_n 0, 1) := by decide +kernel
theorem dX4_executeTransactional_37 : decode cX4_executeTransactional 37 = .ok (.aload_n 1, 1) := by decide +kernel
theorem dX4_executeTransactional_38 : decode cX4_executeTransactional 38 = .ok (.iload_n 2, 1) := by decide +kernel
theorem dX4_executeTransactional_39 : decode cX4_executeTransactional 39 = .ok (.invokevirtual 177, 3) := by decide +kernel
theorem dX4_executeTransactional_42 : decode cX4_executeTransactional 42 = .ok (.ireturn, 1) := by decide +kernel
theorem dX4_executeTransactional_43 : decode cX4_executeTransactional 43 = .ok (.aload_n 0, 1) := by decide +kernel
theorem dX4_executeTransactional_44 : decode cX4_executeTransactional 44 = .ok (.aload_n 1, 1) := by decide +kernel
theorem dX4_executeTransactional_45 : decode cX4_executeTransactional 45 = .ok (.invokevirtual 180, 3) := by decide +kernel
theorem dX4_executeTransactional_48 : decode cX4_executeTransactional 48 = .ok (.iconst 1, 1) := by decide +kernel
theorem dX4_executeTransactional_49 : decode cX4_executeTransactional 49 = .ok (.ireturn, 1) := by decide +kernel
theorem dX4_executeTransactional_50 : decode cX4_executeTransactional 50 = .ok (.aload_n 0, 1) := by decide +kernel
theorem dX4_executeTransactional_51 : decode cX4_executeTransactional 51 = .ok (.aload_n 1, 1) := by decide +kernel
theorem dX4_executeTransactional_52 : decode cX4_executeTransactional 52 = .ok (.sipush 256, 3) := by decide +kernel
theorem dX4_executeTransactional_55 : decode cX4_executeTransactional 55 = .ok (.aload_n 1, 1) := by decide +kernel
theorem dX4_executeTransactional_56 : decode cX4_executeTransactional 56 = .ok (.getfield 90, 3) := by decide +kernel
theorem dX4_executeTransactional_59 : decode cX4_executeTransactional 59 = .ok (.aload_n 0, 1) := by decide +kernel
theorem dX4_executeTransactional_60 : decode cX4_executeTransactional 60 = .ok (.getfield 16, 3) := by decide +kernel
theorem dX4_executeTransactional_63 : decode cX4_executeTransactional 63 = .ok (.getfield 154, 3) := by decide +kernel
theorem dX4_executeTransactional_66 : decode cX4_executeTransactional 66 = .ok (.iload_n 2, 1) := by decide +kernel
theorem dX4_executeTransactional_67 : decode cX4_executeTransactional 67 = .ok (.iaload, 1) := by decide +kernel
theorem dX4_executeTransactional_68 : decode cX4_executeTransactional 68 = .ok (.iaload, 1) := by decide +kernel
theorem dX4_executeTransactional_69 : decode cX4_executeTransactional 69 = .ok (.iadd, 1) := by decide +kernel
theorem dX4_executeTransactional_70 : decode cX4_executeTransactional 70 = .ok (.invokevirtual 183, 3) := by decide +kernel
theorem dX4_executeTransactional_73 : decode cX4_executeTransactional 73 = .ok (.ifCond .ne 7, 3) := by decide +kernel
theorem dX4_executeTransactional_76 : decode cX4_executeTransactional 76 = .ok (.iconst 1, 1) := by decide +kernel
theorem dX4_executeTransactional_77 : decode cX4_executeTransactional 77 = .ok (.goto 4, 3) := by decide +kernel
theorem dX4_executeTransactional_80 : decode cX4_executeTransactional 80 = .ok (.iconst 0, 1) := by decide +kernel
theorem dX4_executeTransactional_81 : decode cX4_executeTransactional 81 = .ok (.ireturn, 1) := by decide +kernel
theorem dX4_executeTransactional_82 : decode cX4_executeTransactional 82 = .ok (.aload_n 1, 1) := by decide +kernel
theorem dX4_executeTransactional_83 : decode cX4_executeTransactional 83 = .ok (.aload_n 0, 1) := by decide +kernel
theorem dX4_executeTransactional_84 : decode cX4_executeTransactional 84 = .ok (.aload_n 1, 1) := by decide +kernel
theorem dX4_executeTransactional_85 : decode cX4_executeTransactional 85 = .ok (.iconst 5, 1) := by decide +kernel
theorem dX4_executeTransactional_86 : decode cX4_executeTransactional 86 = .ok (.invokevirtual 183, 3) := by decide +kernel
theorem dX4_executeTransactional_89 : decode cX4_executeTransactional 89 = .ok (.ifCond .ne 7, 3) := by decide +kernel
theorem dX4_executeTransactional_92 : decode cX4_executeTransactional 92 = .ok (.iconst 1, 1) := by decide +kernel
theorem dX4_executeTransactional_93 : decode cX4_executeTransactional 93 = .ok (.goto 4, 3) := by decide +kernel
theorem dX4_executeTransactional_96 : decode cX4_executeTransactional 96 = .ok (.iconst 0, 1) := by decide +kernel
theorem dX4_executeTransactional_97 : decode cX4_executeTransactional 97 = .ok (.putfield 83, 3) := by decide +kernel
theorem dX4_executeTransactional_100 : decode cX4_executeTransactional 100 = .ok (.aload_n 1, 1) := by decide +kernel
theorem dX4_executeTransactional_101 : decode cX4_executeTransactional 101 = .ok (.getfield 83, 3) := by decide +kernel
theorem dX4_executeTransactional_104 : decode cX4_executeTransactional 104 = .ok (.ireturn, 1) := by decide +kernel
set_option maxRecDepth 20000 in
theorem ggX4_begin_X4_breakOff : GoodIn wsX4_begin wsX4_breakOff := goodIn_r _ [11, 1, 12, 13, 14, 15, 16, 6, 17, 18, 19, 20, 21, 22, 23, 24, 25, 26, 27, 28, 29, 30, 31, 32, 33, 34, 35, 36, 37, 38, 39, 40, 41, 42, 43, 44, 45, 46, 47, 56, 57, 58, 59, 60, 61, 62, 63, 73, 74, 75, 76, 77, 78, 79, 64, 65, 66, 67, 68, 69, 70, 71, 72, 85, 86, 87] (by decide +kernel) (by decide +kernel)
set_option maxRecDepth 20000 in
theorem gX4_begin_X4_breakOff : GoodIn wsX4_begin (wsV RX4 189 RX4 yX4_breakOff wsX4_breakOff) := goodIn_app (goodIn_of _ (by decide +kernel)) ggX4_begin_X4_breakOff
set_option maxRecDepth 20000 in
theorem ggX4_begin_X3_open : GoodIn wsX4_begin wsX3_open := goodIn_r _ [51, 44, 52, 53, 54, 55, 18, 19, 20, 64, 65, 66, 67, 68, 69, 70, 71, 72] (by decide +kernel) (by decide +kernel)
set_option maxRecDepth 20000 in
theorem gX4_begin_X3_open : GoodIn wsX4_begin (wsV RX4 193 RX3 yX3_open wsX3_open) := goodIn_app (goodIn_of _ (by decide +kernel)) ggX4_begin_X3_open
theorem dX4_begin_0 : decode cX4_begin 0 = .ok (.aload_n 1, 1) := by decide +kernel
theorem dX4_begin_1 : decode cX4_begin 1 = .ok (.getfield 74, 3) := by decide +kernel
theorem dX4_begin_4 : decode cX4_begin 4 = .ok (.astore_n 3, 1) := by decide +kernel
theorem dX4_begin_5 : decode cX4_begin 5 = .ok (.aload_n 3, 1) := by decide +kernel
theorem dX4_begin_6 : decode cX4_begin 6 = .ok (.getfield 186, 3) := by decide +kernel
theorem dX4_begin_9 : decode cX4_begin 9 = .ok (.bipush 8, 2) := by decide +kernel
theorem dX4_begin_11 : decode cX4_begin 11 = .ok (.if_icmp .lt 11, 3) := by decide +kernel
theorem dX4_begin_14 : decode cX4_begin 14 = .ok (.aload_n 0, 1) := by decide +kernel
theorem dX4_begin_15 : decode cX4_begin 15 = .ok (.aload_n 1, 1) := by decide +kernel
theorem dX4_begin_16 : decode cX4_begin 16 = .ok (.iconst 2, 1) := by decide +kernel
theorem dX4_begin_17 : decode cX4_begin 17 = .ok (.invokevirtual 189, 3) := by decide +kernel
theorem dX4_begin_20 : decode cX4_begin 20 = .ok (.iconst 0, 1) := by decide +kernel
theorem dX4_begin_21 : decode cX4_begin 21 = .ok (.ireturn, 1) := by decide +kernel
theorem dX4_begin_22 : decode cX4_begin 22 = .ok (.aload_n 3, 1) := by decide +kernel
theorem dX4_begin_23 : decode cX4_begin 23 = .ok (.getfield 186, 3) := by decide +kernel
theorem dX4_begin_26 : decode cX4_begin 26 = .ok (.ifCond .ne 35, 3) := by decide +kernel
theorem dX4_begin_29 : decode cX4_begin 29 = .ok (.aload_n 0, 1) := by decide +kernel
theorem dX4_begin_30 : decode cX4_begin 30 = .ok (.dup, 1) := by decide +kernel
theorem dX4_begin_31 : decode cX4_begin 31 = .ok (.getfield 132, 3) := by decide +kernel
theorem dX4_begin_34 : decode cX4_begin 34 = .ok (.iconst 1, 1) := by decide +kernel
theorem dX4_begin_35 : decode cX4_begin 35 = .ok (.iadd, 1) := by decide +kernel
theorem dX4_begin_36 : decode cX4_begin 36 = .ok (.putfield 132, 3) := by decide +kernel
theorem dX4_begin_39 : decode cX4_begin 39 = .ok (.aload_n 3, 1) := by decide +kernel
theorem dX4_begin_40 : decode cX4_begin 40 = .ok (.aload_n 0, 1) := by decide +kernel
theorem dX4_begin_41 : decode cX4_begin 41 = .ok (.getfield 132, 3) := by decide +kernel
theorem dX4_begin_44 : decode cX4_begin 44 = .ok (.iload_n 2, 1) := by decide +kernel
theorem dX4_begin_45 : decode cX4_begin 45 = .ok (.aload_n 0, 1) := by decide +kernel
theorem dX4_begin_46 : decode cX4_begin 46 = .ok (.getfield 16, 3) := by decide +kernel
theorem dX4_begin_49 : decode cX4_begin 49 = .ok (.getfield 160, 3) := by decide +kernel
theorem dX4_begin_52 : decode cX4_begin 52 = .ok (.iload_n 2, 1) := by decide +kernel
theorem dX4_begin_53 : decode cX4_begin 53 = .ok (.iaload, 1) := by decide +kernel
theorem dX4_begin_54 : decode cX4_begin 54 = .ok (.aload_n 1, 1) := by decide +kernel
theorem dX4_begin_55 : decode cX4_begin 55 = .ok (.getfield 90, 3) := by decide +kernel
theorem dX4_begin_58 : decode cX4_begin 58 = .ok (.invokevirtual 193, 3) := by decide +kernel
theorem dX4_begin_61 : decode cX4_begin 61 = .ok (.aload_n 3, 1) := by decide +kernel
theorem dX4_begin_62 : decode cX4_begin 62 = .ok (.dup, 1) := by decide +kernel
theorem dX4_begin_63 : decode cX4_begin 63 = .ok (.getfield 186, 3) := by decide +kernel
theorem dX4_begin_66 : decode cX4_begin 66 = .ok (.iconst 1, 1) := by decide +kernel
theorem dX4_begin_67 : decode cX4_begin 67 = .ok (.iadd, 1) := by decide +kernel
theorem dX4_begin_68 : decode cX4_begin 68 = .ok (.putfield 186, 3) := by decide +kernel
theorem dX4_begin_71 : decode cX4_begin 71 = .ok (.iconst 1, 1) := by decide +kernel
theorem dX4_begin_72 : decode cX4_begin 72 = .ok (.ireturn, 1) := by decide +kernel
set_option maxRecDepth 20000 in
theorem ggX4_end_X3_writeTo : GoodIn wsX4_end wsX3_writeTo := goodIn_r _ [9, 10, 11, 12, 13, 8, 14, 15, 32, 33, 34, 35, 36, 37, 38, 39, 40] (by decide +kernel) (by decide +kernel)
set_option maxRecDepth 20000 in
theorem gX4_end_X3_writeTo : GoodIn wsX4_end (wsV RX4 197 RX3 yX3_writeTo wsX3_writeTo) := goodIn_app (goodIn_of _ (by decide +kernel)) ggX4_end_X3_writeTo
set_option maxRecDepth 20000 in
theorem ggX4_end_X3_close : GoodIn wsX4_end wsX3_close := goodIn_r _ [19, 20, 21, 22, 23, 15, 32, 33, 34, 35, 36, 37, 38, 39, 40] (by decide +kernel) (by decide +kernel)
set_option maxRecDepth 20000 in
theorem gX4_end_X3_close : GoodIn wsX4_end (wsV RX4 78 RX3 yX3_close wsX3_close) := goodIn_app (goodIn_of _ (by decide +kernel)) ggX4_end_X3_close
theorem dX4_end_0 : decode cX4_end 0 = .ok (.aload_n 1, 1) := by decide +kernel
theorem dX4_end_1 : decode cX4_end 1 = .ok (.getfield 74, 3) := by decide +kernel
theorem dX4_end_4 : decode cX4_end 4 = .ok (.astore_n 2, 1) := by decide +kernel
theorem dX4_end_5 : decode cX4_end 5 = .ok (.aload_n 2, 1) := by decide +kernel
theorem dX4_end_6 : decode cX4_end 6 = .ok (.getfield 186, 3) := by decide +kernel
theorem dX4_end_9 : decode cX4_end 9 = .ok (.iconst 1, 1) := by decide +kernel
theorem dX4_end_10 : decode cX4_end 10 = .ok (.if_icmp .ne 28, 3) := by decide +kernel
theorem dX4_end_13 : decode cX4_end 13 = .ok (.aload_n 2, 1) := by decide +kernel
theorem dX4_end_14 : decode cX4_end 14 = .ok (.aload_n 0, 1) := by decide +kernel
theorem dX4_end_15 : decode cX4_end 15 = .ok (.getfield 9, 3) := by decide +kernel
theorem dX4_end_18 : decode cX4_end 18 = .ok (.invokevirtual 197, 3) := by decide +kernel
theorem dX4_end_21 : decode cX4_end 21 = .ok (.aload_n 2, 1) := by decide +kernel
theorem dX4_end_22 : decode cX4_end 22 = .ok (.invokevirtual 78, 3) := by decide +kernel
theorem dX4_end_25 : decode cX4_end 25 = .ok (.aload_n 1, 1) := by decide +kernel
theorem dX4_end_26 : decode cX4_end 26 = .ok (.dup, 1) := by decide +kernel
theorem dX4_end_27 : decode cX4_end 27 = .ok (.getfield 201, 3) := by decide +kernel
theorem dX4_end_30 : decode cX4_end 30 = .ok (.iconst 1, 1) := by decide +kernel
theorem dX4_end_31 : decode cX4_end 31 = .ok (.iadd, 1) := by decide +kernel
theorem dX4_end_32 : decode cX4_end 32 = .ok (.putfield 201, 3) := by decide +kernel
theorem dX4_end_35 : decode cX4_end 35 = .ok (.goto 21, 3) := by decide +kernel
theorem dX4_end_38 : decode cX4_end 38 = .ok (.aload_n 2, 1) := by decide +kernel
theorem dX4_end_39 : decode cX4_end 39 = .ok (.getfield 186, 3) := by decide +kernel
theorem dX4_end_42 : decode cX4_end 42 = .ok (.iconst 1, 1) := by decide +kernel
theorem dX4_end_43 : decode cX4_end 43 = .ok (.if_icmp .le 13, 3) := by decide +kernel
theorem dX4_end_46 : decode cX4_end 46 = .ok (.aload_n 2, 1) := by decide +kernel
theorem dX4_end_47 : decode cX4_end 47 = .ok (.dup, 1) := by decide +kernel
theorem dX4_end_48 : decode cX4_end 48 = .ok (.getfield 186, 3) := by decide +kernel
theorem dX4_end_51 : decode cX4_end 51 = .ok (.iconst 1, 1) := by decide +kernel
theorem dX4_end_52 : decode cX4_end 52 = .ok (.isub, 1) := by decide +kernel
theorem dX4_end_53 : decode cX4_end 53 = .ok (.putfield 186, 3) := by decide +kernel
theorem dX4_end_56 : decode cX4_end 56 = .ok (.return_, 1) := by decide +kernel
set_option maxRecDepth 20000 in
theorem ggX4_write_X3_keep : GoodIn wsX4_write wsX3_keep := goodIn_r _ [8, 9, 10, 19, 20, 21, 22, 23, 24, 25, 26, 27] (by decide +kernel) (by decide +kernel)
set_option maxRecDepth 20000 in
theorem gX4_write_X3_keep : GoodIn wsX4_write (wsV RX4 204 RX3 yX3_keep wsX3_keep) := goodIn_app (goodIn_of _ (by decide +kernel)) ggX4_write_X3_keep
theorem dX4_write_0 : decode cX4_write 0 = .ok (.aload_n 1, 1) := by decide +kernel
theorem dX4_write_1 : decode cX4_write 1 = .ok (.getfield 74, 3) := by decide +kernel
theorem dX4_write_4 : decode cX4_write 4 = .ok (.getfield 186, 3) := by decide +kernel
theorem dX4_write_7 : decode cX4_write 7 = .ok (.ifCond .le 15, 3) := by decide +kernel
theorem dX4_write_10 : decode cX4_write 10 = .ok (.aload_n 1, 1) := by decide +kernel
theorem dX4_write_11 : decode cX4_write 11 = .ok (.getfield 74, 3) := by decide +kernel
theorem dX4_write_14 : decode cX4_write 14 = .ok (.iload_n 2, 1) := by decide +kernel
theorem dX4_write_15 : decode cX4_write 15 = .ok (.iload_n 3, 1) := by decide +kernel
theorem dX4_write_16 : decode cX4_write 16 = .ok (.invokevirtual 204, 3) := by decide +kernel
theorem dX4_write_19 : decode cX4_write 19 = .ok (.goto 10, 3) := by decide +kernel
theorem dX4_write_22 : decode cX4_write 22 = .ok (.aload_n 0, 1) := by decide +kernel
theorem dX4_write_23 : decode cX4_write 23 = .ok (.getfield 9, 3) := by decide +kernel
theorem dX4_write_26 : decode cX4_write 26 = .ok (.iload_n 2, 1) := by decide +kernel
theorem dX4_write_27 : decode cX4_write 27 = .ok (.iload_n 3, 1) := by decide +kernel
theorem dX4_write_28 : decode cX4_write 28 = .ok (.iastore, 1) := by decide +kernel
theorem dX4_write_29 : decode cX4_write 29 = .ok (.return_, 1) := by decide +kernel
set_option maxRecDepth 20000 in
theorem ggX4_mayAccess_X4_isWord : GoodIn wsX4_mayAccess wsX4_isWord := goodIn_r _ [9] (by decide +kernel) (by decide +kernel)
set_option maxRecDepth 20000 in
theorem gX4_mayAccess_X4_isWord : GoodIn wsX4_mayAccess (va_wsS RX4 97 yX4_isWord wsX4_isWord) := goodIn_app (goodIn_of _ (by decide +kernel)) ggX4_mayAccess_X4_isWord
set_option maxRecDepth 20000 in
theorem ggX4_mayAccess_X4_fault : GoodIn wsX4_mayAccess wsX4_fault := goodIn_r _ [13, 2, 3, 14, 15, 16, 17, 8, 18, 19, 1, 20, 21, 22, 23, 24, 25, 26, 27, 28, 29, 30, 31, 32, 33, 34, 35, 36, 37, 38, 39, 40, 41, 42, 43, 44, 45, 46, 47, 48, 49, 50, 51, 52, 53, 54, 76, 77, 78, 79, 80, 81, 82, 83, 84, 85, 86, 87, 88, 89, 90, 91, 92, 93, 94, 95, 96, 97, 98, 99, 100, 101, 102] (by decide +kernel) (by decide +kernel)
set_option maxRecDepth 20000 in
theorem gX4_mayAccess_X4_fault : GoodIn wsX4_mayAccess (wsV RX4 143 RX4 yX4_fault wsX4_fault) := goodIn_app (goodIn_of _ (by decide +kernel)) ggX4_mayAccess_X4_fault
set_option maxRecDepth 20000 in
theorem ggX4_mayAccess_X4_meetsOlder : GoodIn wsX4_mayAccess wsX4_meetsOlder := goodIn_r _ [58, 59, 2, 1, 21, 60, 61, 62, 48, 63, 52, 53, 93, 94, 95, 96, 97, 98, 99, 76, 77, 78, 79, 80, 81, 82, 83, 84, 85, 86, 87, 88, 89, 90, 91, 92] (by decide +kernel) (by decide +kernel)
set_option maxRecDepth 20000 in
theorem gX4_mayAccess_X4_meetsOlder : GoodIn wsX4_mayAccess (wsV RX4 207 RX4 yX4_meetsOlder wsX4_meetsOlder) := goodIn_app (goodIn_of _ (by decide +kernel)) ggX4_mayAccess_X4_meetsOlder
set_option maxRecDepth 20000 in
theorem ggX4_mayAccess_X4_breakOff : GoodIn wsX4_mayAccess wsX4_breakOff := goodIn_r _ [18, 2, 19, 1, 20, 21, 22, 23, 24, 25, 26, 27, 28, 29, 30, 31, 32, 33, 34, 35, 36, 37, 38, 39, 40, 41, 42, 43, 44, 45, 46, 47, 48, 49, 50, 51, 52, 53, 54, 76, 77, 78, 79, 80, 81, 82, 83, 93, 94, 95, 96, 97, 98, 99, 84, 85, 86, 87, 88, 89, 90, 91, 92, 100, 101, 102] (by decide +kernel) (by decide +kernel)
set_option maxRecDepth 20000 in
theorem gX4_mayAccess_X4_breakOff : GoodIn wsX4_mayAccess (wsV RX4 189 RX4 yX4_breakOff wsX4_breakOff) := goodIn_app (goodIn_of _ (by decide +kernel)) ggX4_mayAccess_X4_breakOff
set_option maxRecDepth 20000 in
theorem ggX4_mayAccess_X4_breakOffAll : GoodIn wsX4_mayAccess wsX4_breakOffAll := goodIn_r _ [67, 59, 2, 60, 61, 62, 48, 63, 52, 53, 15, 16, 17, 8, 18, 19, 1, 20, 21, 22, 23, 24, 25, 26, 27, 28, 29, 30, 31, 32, 33, 34, 35, 36, 37, 38, 39, 40, 41, 42, 43, 44, 45, 46, 47, 49, 50, 51, 54, 93, 94, 95, 96, 97, 98, 99, 76, 77, 78, 79, 80, 81, 82, 83, 84, 85, 86, 87, 88, 89, 90, 91, 92, 100, 101, 102] (by decide +kernel) (by decide +kernel)
set_option maxRecDepth 20000 in
theorem gX4_mayAccess_X4_breakOffAll : GoodIn wsX4_mayAccess (wsV RX4 100 RX4 yX4_breakOffAll wsX4_breakOffAll) := goodIn_app (goodIn_of _ (by decide +kernel)) ggX4_mayAccess_X4_breakOffAll
set_option maxRecDepth 20000 in
theorem ggX4_mayAccess_X3_mark : GoodIn wsX4_mayAccess wsX3_mark := goodIn_r _ [71, 53, 52, 84, 85, 86, 87, 88, 89, 90, 91, 92] (by decide +kernel) (by decide +kernel)
set_option maxRecDepth 20000 in
theorem gX4_mayAccess_X3_mark : GoodIn wsX4_mayAccess (wsV RX4 213 RX3 yX3_mark wsX3_mark) := goodIn_app (goodIn_of _ (by decide +kernel)) ggX4_mayAccess_X3_mark
set_option maxRecDepth 20000 in
theorem ggX4_mayAccess_X3_linesInSet : GoodIn wsX4_mayAccess wsX3_linesInSet := goodIn_r _ [75, 52, 53, 84, 85, 86, 87, 88, 89, 90, 91, 92] (by decide +kernel) (by decide +kernel)
set_option maxRecDepth 20000 in
theorem gX4_mayAccess_X3_linesInSet : GoodIn wsX4_mayAccess (wsV RX4 217 RX3 yX3_linesInSet wsX3_linesInSet) := goodIn_app (goodIn_of _ (by decide +kernel)) ggX4_mayAccess_X3_linesInSet
theorem dX4_mayAccess_0 : decode cX4_mayAccess 0 = .ok (.iload_n 2, 1) := by decide +kernel
theorem dX4_mayAccess_1 : decode cX4_mayAccess 1 = .ok (.invokestatic 97, 3) := by decide +kernel
theorem dX4_mayAccess_4 : decode cX4_mayAccess 4 = .ok (.ifCond .ne 10, 3) := by decide +kernel
theorem dX4_mayAccess_7 : decode cX4_mayAccess 7 = .ok (.aload_n 0, 1) := by decide +kernel
theorem dX4_mayAccess_8 : decode cX4_mayAccess 8 = .ok (.aload_n 1, 1) := by decide +kernel
theorem dX4_mayAccess_9 : decode cX4_mayAccess 9 = .ok (.invokevirtual 143, 3) := by decide +kernel
theorem dX4_mayAccess_12 : decode cX4_mayAccess 12 = .ok (.iconst 0, 1) := by decide +kernel
theorem dX4_mayAccess_13 : decode cX4_mayAccess 13 = .ok (.ireturn, 1) := by decide +kernel
theorem dX4_mayAccess_14 : decode cX4_mayAccess 14 = .ok (.iload_n 2, 1) := by decide +kernel
theorem dX4_mayAccess_15 : decode cX4_mayAccess 15 = .ok (.iconst 4, 1) := by decide +kernel
theorem dX4_mayAccess_16 : decode cX4_mayAccess 16 = .ok (.idiv, 1) := by decide +kernel
theorem dX4_mayAccess_17 : decode cX4_mayAccess 17 = .ok (.istore 4, 2) := by decide +kernel
theorem dX4_mayAccess_19 : decode cX4_mayAccess 19 = .ok (.aload_n 0, 1) := by decide +kernel
theorem dX4_mayAccess_20 : decode cX4_mayAccess 20 = .ok (.aload_n 1, 1) := by decide +kernel
theorem dX4_mayAccess_21 : decode cX4_mayAccess 21 = .ok (.iload 4, 2) := by decide +kernel
theorem dX4_mayAccess_23 : decode cX4_mayAccess 23 = .ok (.iload_n 3, 1) := by decide +kernel
theorem dX4_mayAccess_24 : decode cX4_mayAccess 24 = .ok (.invokevirtual 207, 3) := by decide +kernel
theorem dX4_mayAccess_27 : decode cX4_mayAccess 27 = .ok (.ifCond .eq 11, 3) := by decide +kernel
theorem dX4_mayAccess_30 : decode cX4_mayAccess 30 = .ok (.aload_n 0, 1) := by decide +kernel
theorem dX4_mayAccess_31 : decode cX4_mayAccess 31 = .ok (.aload_n 1, 1) := by decide +kernel
theorem dX4_mayAccess_32 : decode cX4_mayAccess 32 = .ok (.iconst 4, 1) := by decide +kernel
theorem dX4_mayAccess_33 : decode cX4_mayAccess 33 = .ok (.invokevirtual 189, 3) := by decide +kernel
theorem dX4_mayAccess_36 : decode cX4_mayAccess 36 = .ok (.iconst 0, 1) := by decide +kernel
theorem dX4_mayAccess_37 : decode cX4_mayAccess 37 = .ok (.ireturn, 1) := by decide +kernel
theorem dX4_mayAccess_38 : decode cX4_mayAccess 38 = .ok (.aload_n 0, 1) := by decide +kernel
theorem dX4_mayAccess_39 : decode cX4_mayAccess 39 = .ok (.aload_n 1, 1) := by decide +kernel
theorem dX4_mayAccess_40 : decode cX4_mayAccess 40 = .ok (.getfield 210, 3) := by decide +kernel
theorem dX4_mayAccess_43 : decode cX4_mayAccess 43 = .ok (.iload 4, 2) := by decide +kernel
theorem dX4_mayAccess_45 : decode cX4_mayAccess 45 = .ok (.iload_n 3, 1) := by decide +kernel
theorem dX4_mayAccess_46 : decode cX4_mayAccess 46 = .ok (.invokevirtual 100, 3) := by decide +kernel
theorem dX4_mayAccess_49 : decode cX4_mayAccess 49 = .ok (.aload_n 1, 1) := by decide +kernel
theorem dX4_mayAccess_50 : decode cX4_mayAccess 50 = .ok (.getfield 74, 3) := by decide +kernel
theorem dX4_mayAccess_53 : decode cX4_mayAccess 53 = .ok (.getfield 186, 3) := by decide +kernel
theorem dX4_mayAccess_56 : decode cX4_mayAccess 56 = .ok (.ifCond .ne 5, 3) := by decide +kernel
theorem dX4_mayAccess_59 : decode cX4_mayAccess 59 = .ok (.iconst 1, 1) := by decide +kernel
theorem dX4_mayAccess_60 : decode cX4_mayAccess 60 = .ok (.ireturn, 1) := by decide +kernel
theorem dX4_mayAccess_61 : decode cX4_mayAccess 61 = .ok (.aload_n 1, 1) := by decide +kernel
theorem dX4_mayAccess_62 : decode cX4_mayAccess 62 = .ok (.getfield 74, 3) := by decide +kernel
theorem dX4_mayAccess_65 : decode cX4_mayAccess 65 = .ok (.iload 4, 2) := by decide +kernel
theorem dX4_mayAccess_67 : decode cX4_mayAccess 67 = .ok (.iload_n 3, 1) := by decide +kernel
theorem dX4_mayAccess_68 : decode cX4_mayAccess 68 = .ok (.invokevirtual 213, 3) := by decide +kernel
theorem dX4_mayAccess_71 : decode cX4_mayAccess 71 = .ok (.aload_n 1, 1) := by decide +kernel
theorem dX4_mayAccess_72 : decode cX4_mayAccess 72 = .ok (.getfield 74, 3) := by decide +kernel
theorem dX4_mayAccess_75 : decode cX4_mayAccess 75 = .ok (.iload 4, 2) := by decide +kernel
theorem dX4_mayAccess_77 : decode cX4_mayAccess 77 = .ok (.aload_n 0, 1) := by decide +kernel
theorem dX4_mayAccess_78 : decode cX4_mayAccess 78 = .ok (.getfield 31, 3) := by decide +kernel
theorem dX4_mayAccess_81 : decode cX4_mayAccess 81 = .ok (.irem, 1) := by decide +kernel
theorem dX4_mayAccess_82 : decode cX4_mayAccess 82 = .ok (.aload_n 0, 1) := by decide +kernel
theorem dX4_mayAccess_83 : decode cX4_mayAccess 83 = .ok (.getfield 31, 3) := by decide +kernel
theorem dX4_mayAccess_86 : decode cX4_mayAccess 86 = .ok (.invokevirtual 217, 3) := by decide +kernel
theorem dX4_mayAccess_89 : decode cX4_mayAccess 89 = .ok (.aload_n 0, 1) := by decide +kernel
theorem dX4_mayAccess_90 : decode cX4_mayAccess 90 = .ok (.getfield 35, 3) := by decide +kernel
theorem dX4_mayAccess_93 : decode cX4_mayAccess 93 = .ok (.if_icmp .le 11, 3) := by decide +kernel
theorem dX4_mayAccess_96 : decode cX4_mayAccess 96 = .ok (.aload_n 0, 1) := by decide +kernel
theorem dX4_mayAccess_97 : decode cX4_mayAccess 97 = .ok (.aload_n 1, 1) := by decide +kernel
theorem dX4_mayAccess_98 : decode cX4_mayAccess 98 = .ok (.iconst 3, 1) := by decide +kernel
theorem dX4_mayAccess_99 : decode cX4_mayAccess 99 = .ok (.invokevirtual 189, 3) := by decide +kernel
theorem dX4_mayAccess_102 : decode cX4_mayAccess 102 = .ok (.iconst 0, 1) := by decide +kernel
theorem dX4_mayAccess_103 : decode cX4_mayAccess 103 = .ok (.ireturn, 1) := by decide +kernel
theorem dX4_mayAccess_104 : decode cX4_mayAccess 104 = .ok (.iconst 1, 1) := by decide +kernel
theorem dX4_mayAccess_105 : decode cX4_mayAccess 105 = .ok (.ireturn, 1) := by decide +kernel
set_option maxRecDepth 20000 in
theorem ggX4_meetsOlder_X3_touches : GoodIn wsX4_meetsOlder wsX3_touches := goodIn_r _ [9, 10, 11, 27, 28, 29, 30, 31, 32, 33, 34, 35] (by decide +kernel) (by decide +kernel)
set_option maxRecDepth 20000 in
theorem gX4_meetsOlder_X3_touches : GoodIn wsX4_meetsOlder (wsV RX4 220 RX3 yX3_touches wsX3_touches) := goodIn_app (goodIn_of _ (by decide +kernel)) ggX4_meetsOlder_X3_touches
theorem dX4_meetsOlder_0 : decode cX4_meetsOlder 0 = .ok (.iconst 0, 1) := by decide +kernel
theorem dX4_meetsOlder_1 : decode cX4_meetsOlder 1 = .ok (.istore 4, 2) := by decide +kernel
theorem dX4_meetsOlder_3 : decode cX4_meetsOlder 3 = .ok (.iload 4, 2) := by decide +kernel
theorem dX4_meetsOlder_5 : decode cX4_meetsOlder 5 = .ok (.aload_n 0, 1) := by decide +kernel
theorem dX4_meetsOlder_6 : decode cX4_meetsOlder 6 = .ok (.getfield 40, 3) := by decide +kernel
theorem dX4_meetsOlder_9 : decode cX4_meetsOlder 9 = .ok (.arraylength, 1) := by decide +kernel
theorem dX4_meetsOlder_10 : decode cX4_meetsOlder 10 = .ok (.if_icmp .ge 57, 3) := by decide +kernel
theorem dX4_meetsOlder_13 : decode cX4_meetsOlder 13 = .ok (.aload_n 0, 1) := by decide +kernel
theorem dX4_meetsOlder_14 : decode cX4_meetsOlder 14 = .ok (.getfield 40, 3) := by decide +kernel
theorem dX4_meetsOlder_17 : decode cX4_meetsOlder 17 = .ok (.iload 4, 2) := by decide +kernel
theorem dX4_meetsOlder_19 : decode cX4_meetsOlder 19 = .ok (.aaload, 1) := by decide +kernel
theorem dX4_meetsOlder_20 : decode cX4_meetsOlder 20 = .ok (.getfield 74, 3) := by decide +kernel
theorem dX4_meetsOlder_23 : decode cX4_meetsOlder 23 = .ok (.astore 5, 2) := by decide +kernel
theorem dX4_meetsOlder_25 : decode cX4_meetsOlder 25 = .ok (.iload 4, 2) := by decide +kernel
theorem dX4_meetsOlder_27 : decode cX4_meetsOlder 27 = .ok (.aload_n 1, 1) := by decide +kernel
theorem dX4_meetsOlder_28 : decode cX4_meetsOlder 28 = .ok (.getfield 210, 3) := by decide +kernel
theorem dX4_meetsOlder_31 : decode cX4_meetsOlder 31 = .ok (.if_icmp .eq 30, 3) := by decide +kernel
theorem dX4_meetsOlder_34 : decode cX4_meetsOlder 34 = .ok (.aload 5, 2) := by decide +kernel
theorem dX4_meetsOlder_36 : decode cX4_meetsOlder 36 = .ok (.iload_n 2, 1) := by decide +kernel
theorem dX4_meetsOlder_37 : decode cX4_meetsOlder 37 = .ok (.iload_n 3, 1) := by decide +kernel
theorem dX4_meetsOlder_38 : decode cX4_meetsOlder 38 = .ok (.invokevirtual 220, 3) := by decide +kernel
theorem dX4_meetsOlder_41 : decode cX4_meetsOlder 41 = .ok (.ifCond .eq 20, 3) := by decide +kernel
theorem dX4_meetsOlder_44 : decode cX4_meetsOlder 44 = .ok (.aload 5, 2) := by decide +kernel
theorem dX4_meetsOlder_46 : decode cX4_meetsOlder 46 = .ok (.getfield 224, 3) := by decide +kernel
theorem dX4_meetsOlder_49 : decode cX4_meetsOlder 49 = .ok (.aload_n 1, 1) := by decide +kernel
theorem dX4_meetsOlder_50 : decode cX4_meetsOlder 50 = .ok (.getfield 74, 3) := by decide +kernel
theorem dX4_meetsOlder_53 : decode cX4_meetsOlder 53 = .ok (.getfield 224, 3) := by decide +kernel
theorem dX4_meetsOlder_56 : decode cX4_meetsOlder 56 = .ok (.if_icmp .ge 5, 3) := by decide +kernel
theorem dX4_meetsOlder_59 : decode cX4_meetsOlder 59 = .ok (.iconst 1, 1) := by decide +kernel
theorem dX4_meetsOlder_60 : decode cX4_meetsOlder 60 = .ok (.ireturn, 1) := by decide +kernel
theorem dX4_meetsOlder_61 : decode cX4_meetsOlder 61 = .ok (.iinc 4 1, 3) := by decide +kernel
theorem dX4_meetsOlder_64 : decode cX4_meetsOlder 64 = .ok (.goto (-61), 3) := by decide +kernel
theorem dX4_meetsOlder_67 : decode cX4_meetsOlder 67 = .ok (.iconst 0, 1) := by decide +kernel
theorem dX4_meetsOlder_68 : decode cX4_meetsOlder 68 = .ok (.ireturn, 1) := by decide +kernel
set_option maxRecDepth 20000 in
theorem ggX4_breakOffAll_X3_touches : GoodIn wsX4_breakOffAll wsX3_touches := goodIn_r _ [7, 8, 9, 64, 65, 66, 67, 68, 69, 70, 71, 72] (by decide +kernel) (by decide +kernel)
end
section
set_option maxRecDepth 20000 in
theorem gX4_breakOffAll_X3_touches : GoodIn wsX4_breakOffAll (wsV RX4 220 RX3 yX3_touches wsX3_touches) := goodIn_app (goodIn_of _ (by decide +kernel)) ggX4_breakOffAll_X3_touches
set_option maxRecDepth 20000 in
theorem ggX4_breakOffAll_X4_breakOff : GoodIn wsX4_breakOffAll wsX4_breakOff := goodIn_r _ [14, 2, 15, 16, 17, 18, 19, 20, 21, 22, 23, 24, 25, 26, 27, 28, 29, 30, 31, 32, 33, 34, 35, 36, 37, 38, 39, 40, 41, 42, 43, 44, 6, 45, 46, 47, 8, 9, 48, 56, 57, 58, 59, 60, 61, 62, 63, 49, 50, 51, 52, 53, 54, 55, 64, 65, 66, 67, 68, 69, 70, 71, 72, 73, 74, 75] (by decide +kernel) (by decide +kernel)
set_option maxRecDepth 20000 in
theorem gX4_breakOffAll_X4_breakOff : GoodIn wsX4_breakOffAll (wsV RX4 189 RX4 yX4_breakOff wsX4_breakOff) := goodIn_app (goodIn_of _ (by decide +kernel)) ggX4_breakOffAll_X4_breakOff
theorem dX4_breakOffAll_0 : decode cX4_breakOffAll 0 = .ok (.iconst 0, 1) := by decide +kernel
theorem dX4_breakOffAll_1 : decode cX4_breakOffAll 1 = .ok (.istore 4, 2) := by decide +kernel
theorem dX4_breakOffAll_3 : decode cX4_breakOffAll 3 = .ok (.iload 4, 2) := by decide +kernel
theorem dX4_breakOffAll_5 : decode cX4_breakOffAll 5 = .ok (.aload_n 0, 1) := by decide +kernel
theorem dX4_breakOffAll_6 : decode cX4_breakOffAll 6 = .ok (.getfield 40, 3) := by decide +kernel
theorem dX4_breakOffAll_9 : decode cX4_breakOffAll 9 = .ok (.arraylength, 1) := by decide +kernel
theorem dX4_breakOffAll_10 : decode cX4_breakOffAll 10 = .ok (.if_icmp .ge 45, 3) := by decide +kernel
theorem dX4_breakOffAll_13 : decode cX4_breakOffAll 13 = .ok (.iload 4, 2) := by decide +kernel
theorem dX4_breakOffAll_15 : decode cX4_breakOffAll 15 = .ok (.iload_n 1, 1) := by decide +kernel
theorem dX4_breakOffAll_16 : decode cX4_breakOffAll 16 = .ok (.if_icmp .eq 33, 3) := by decide +kernel
theorem dX4_breakOffAll_19 : decode cX4_breakOffAll 19 = .ok (.aload_n 0, 1) := by decide +kernel
theorem dX4_breakOffAll_20 : decode cX4_breakOffAll 20 = .ok (.getfield 40, 3) := by decide +kernel
theorem dX4_breakOffAll_23 : decode cX4_breakOffAll 23 = .ok (.iload 4, 2) := by decide +kernel
theorem dX4_breakOffAll_25 : decode cX4_breakOffAll 25 = .ok (.aaload, 1) := by decide +kernel
theorem dX4_breakOffAll_26 : decode cX4_breakOffAll 26 = .ok (.getfield 74, 3) := by decide +kernel
theorem dX4_breakOffAll_29 : decode cX4_breakOffAll 29 = .ok (.iload_n 2, 1) := by decide +kernel
theorem dX4_breakOffAll_30 : decode cX4_breakOffAll 30 = .ok (.iload_n 3, 1) := by decide +kernel
theorem dX4_breakOffAll_31 : decode cX4_breakOffAll 31 = .ok (.invokevirtual 220, 3) := by decide +kernel
theorem dX4_breakOffAll_34 : decode cX4_breakOffAll 34 = .ok (.ifCond .eq 15, 3) := by decide +kernel
theorem dX4_breakOffAll_37 : decode cX4_breakOffAll 37 = .ok (.aload_n 0, 1) := by decide +kernel
theorem dX4_breakOffAll_38 : decode cX4_breakOffAll 38 = .ok (.aload_n 0, 1) := by decide +kernel
theorem dX4_breakOffAll_39 : decode cX4_breakOffAll 39 = .ok (.getfield 40, 3) := by decide +kernel
theorem dX4_breakOffAll_42 : decode cX4_breakOffAll 42 = .ok (.iload 4, 2) := by decide +kernel
theorem dX4_breakOffAll_44 : decode cX4_breakOffAll 44 = .ok (.aaload, 1) := by decide +kernel
theorem dX4_breakOffAll_45 : decode cX4_breakOffAll 45 = .ok (.iconst 4, 1) := by decide +kernel
theorem dX4_breakOffAll_46 : decode cX4_breakOffAll 46 = .ok (.invokevirtual 189, 3) := by decide +kernel
theorem dX4_breakOffAll_49 : decode cX4_breakOffAll 49 = .ok (.iinc 4 1, 3) := by decide +kernel
theorem dX4_breakOffAll_52 : decode cX4_breakOffAll 52 = .ok (.goto (-49), 3) := by decide +kernel
theorem dX4_breakOffAll_55 : decode cX4_breakOffAll 55 = .ok (.return_, 1) := by decide +kernel
set_option maxRecDepth 20000 in
theorem ggX4_fault_X4_breakOff : GoodIn wsX4_fault wsX4_breakOff := goodIn_r _ [8, 1, 9, 10, 11, 12, 13, 14, 15, 16, 17, 18, 19, 20, 21, 22, 23, 24, 25, 26, 27, 28, 29, 30, 31, 32, 33, 34, 35, 36, 37, 38, 39, 40, 41, 42, 43, 44, 45, 46, 47, 48, 49, 50, 51, 52, 53, 63, 64, 65, 66, 67, 68, 69, 54, 55, 56, 57, 58, 59, 60, 61, 62, 70, 71, 72] (by decide +kernel) (by decide +kernel)
set_option maxRecDepth 20000 in
theorem gX4_fault_X4_breakOff : GoodIn wsX4_fault (wsV RX4 189 RX4 yX4_breakOff wsX4_breakOff) := goodIn_app (goodIn_of _ (by decide +kernel)) ggX4_fault_X4_breakOff
theorem dX4_fault_0 : decode cX4_fault 0 = .ok (.aload_n 1, 1) := by decide +kernel
theorem dX4_fault_1 : decode cX4_fault 1 = .ok (.getfield 74, 3) := by decide +kernel
theorem dX4_fault_4 : decode cX4_fault 4 = .ok (.getfield 186, 3) := by decide +kernel
theorem dX4_fault_7 : decode cX4_fault 7 = .ok (.ifCond .le 12, 3) := by decide +kernel
theorem dX4_fault_10 : decode cX4_fault 10 = .ok (.aload_n 0, 1) := by decide +kernel
theorem dX4_fault_11 : decode cX4_fault 11 = .ok (.aload_n 1, 1) := by decide +kernel
theorem dX4_fault_12 : decode cX4_fault 12 = .ok (.iconst 1, 1) := by decide +kernel
theorem dX4_fault_13 : decode cX4_fault 13 = .ok (.invokevirtual 189, 3) := by decide +kernel
theorem dX4_fault_16 : decode cX4_fault 16 = .ok (.goto 8, 3) := by decide +kernel
theorem dX4_fault_19 : decode cX4_fault 19 = .ok (.aload_n 1, 1) := by decide +kernel
theorem dX4_fault_20 : decode cX4_fault 20 = .ok (.iconst 1, 1) := by decide +kernel
theorem dX4_fault_21 : decode cX4_fault 21 = .ok (.putfield 83, 3) := by decide +kernel
theorem dX4_fault_24 : decode cX4_fault 24 = .ok (.return_, 1) := by decide +kernel
set_option maxRecDepth 20000 in
theorem ggX4_breaksOff_X4_breakOff : GoodIn wsX4_breaksOff wsX4_breakOff := goodIn_r _ [7, 1, 8, 9, 10, 11, 12, 13, 14, 15, 16, 17, 18, 19, 20, 21, 22, 23, 24, 25, 26, 27, 28, 29, 30, 31, 32, 33, 34, 35, 36, 37, 38, 39, 40, 41, 42, 43, 44, 45, 46, 47, 48, 49, 50, 51, 52, 62, 63, 64, 65, 66, 67, 68, 53, 54, 55, 56, 57, 58, 59, 60, 61, 69, 70, 71] (by decide +kernel) (by decide +kernel)
set_option maxRecDepth 20000 in
theorem gX4_breaksOff_X4_breakOff : GoodIn wsX4_breaksOff (wsV RX4 189 RX4 yX4_breakOff wsX4_breakOff) := goodIn_app (goodIn_of _ (by decide +kernel)) ggX4_breaksOff_X4_breakOff
theorem dX4_breaksOff_0 : decode cX4_breaksOff 0 = .ok (.aload_n 1, 1) := by decide +kernel
theorem dX4_breaksOff_1 : decode cX4_breaksOff 1 = .ok (.getfield 74, 3) := by decide +kernel
theorem dX4_breaksOff_4 : decode cX4_breaksOff 4 = .ok (.getfield 186, 3) := by decide +kernel
theorem dX4_breaksOff_7 : decode cX4_breaksOff 7 = .ok (.ifCond .ne 5, 3) := by decide +kernel
theorem dX4_breaksOff_10 : decode cX4_breaksOff 10 = .ok (.iconst 0, 1) := by decide +kernel
theorem dX4_breaksOff_11 : decode cX4_breaksOff 11 = .ok (.ireturn, 1) := by decide +kernel
theorem dX4_breaksOff_12 : decode cX4_breaksOff 12 = .ok (.aload_n 0, 1) := by decide +kernel
theorem dX4_breaksOff_13 : decode cX4_breaksOff 13 = .ok (.aload_n 1, 1) := by decide +kernel
theorem dX4_breaksOff_14 : decode cX4_breaksOff 14 = .ok (.iload_n 2, 1) := by decide +kernel
theorem dX4_breaksOff_15 : decode cX4_breaksOff 15 = .ok (.invokevirtual 189, 3) := by decide +kernel
theorem dX4_breaksOff_18 : decode cX4_breaksOff 18 = .ok (.iconst 1, 1) := by decide +kernel
theorem dX4_breaksOff_19 : decode cX4_breaksOff 19 = .ok (.ireturn, 1) := by decide +kernel
set_option maxRecDepth 20000 in
theorem ggX4_breakOff_X2_add : GoodIn wsX4_breakOff wsX2_add := goodIn_r _ [19, 20, 21, 22, 63, 64, 65] (by decide +kernel) (by decide +kernel)
set_option maxRecDepth 20000 in
theorem gX4_breakOff_X2_add : GoodIn wsX4_breakOff (wsV RX4 230 RX2 yX2_add wsX2_add) := goodIn_app (goodIn_of _ (by decide +kernel)) ggX4_breakOff_X2_add
set_option maxRecDepth 20000 in
theorem ggX4_breakOff_X0_put : GoodIn wsX4_breakOff wsX0_put := goodIn_r _ [27, 28, 39, 40, 41, 42, 43, 44, 45, 46] (by decide +kernel) (by decide +kernel)
set_option maxRecDepth 20000 in
theorem gX4_breakOff_X0_put : GoodIn wsX4_breakOff (wsV RX4 93 RX0 yX0_put wsX0_put) := goodIn_app (goodIn_of _ (by decide +kernel)) ggX4_breakOff_X0_put
set_option maxRecDepth 20000 in
theorem ggX4_breakOff_X3_close : GoodIn wsX4_breakOff wsX3_close := goodIn_r _ [33, 34, 35, 36, 37, 38, 54, 55, 56, 57, 58, 59, 60, 61, 62] (by decide +kernel) (by decide +kernel)
set_option maxRecDepth 20000 in
theorem gX4_breakOff_X3_close : GoodIn wsX4_breakOff (wsV RX4 78 RX3 yX3_close wsX3_close) := goodIn_app (goodIn_of _ (by decide +kernel)) ggX4_breakOff_X3_close
theorem dX4_breakOff_0 : decode cX4_breakOff 0 = .ok (.aload_n 1, 1) := by decide +kernel
theorem dX4_breakOff_1 : decode cX4_breakOff 1 = .ok (.getfield 74, 3) := by decide +kernel
theorem dX4_breakOff_4 : decode cX4_breakOff 4 = .ok (.astore_n 3, 1) := by decide +kernel
theorem dX4_breakOff_5 : decode cX4_breakOff 5 = .ok (.aload_n 0, 1) := by decide +kernel
theorem dX4_breakOff_6 : decode cX4_breakOff 6 = .ok (.getfield 23, 3) := by decide +kernel
theorem dX4_breakOff_9 : decode cX4_breakOff 9 = .ok (.aload_n 1, 1) := by decide +kernel
theorem dX4_breakOff_10 : decode cX4_breakOff 10 = .ok (.getfield 210, 3) := by decide +kernel
theorem dX4_breakOff_13 : decode cX4_breakOff 13 = .ok (.aload_n 3, 1) := by decide +kernel
theorem dX4_breakOff_14 : decode cX4_breakOff 14 = .ok (.getfield 227, 3) := by decide +kernel
theorem dX4_breakOff_17 : decode cX4_breakOff 17 = .ok (.iload_n 2, 1) := by decide +kernel
theorem dX4_breakOff_18 : decode cX4_breakOff 18 = .ok (.aload_n 3, 1) := by decide +kernel
theorem dX4_breakOff_19 : decode cX4_breakOff 19 = .ok (.getfield 224, 3) := by decide +kernel
theorem dX4_breakOff_22 : decode cX4_breakOff 22 = .ok (.invokevirtual 230, 3) := by decide +kernel
theorem dX4_breakOff_25 : decode cX4_breakOff 25 = .ok (.aload_n 3, 1) := by decide +kernel
theorem dX4_breakOff_26 : decode cX4_breakOff 26 = .ok (.getfield 234, 3) := by decide +kernel
theorem dX4_breakOff_29 : decode cX4_breakOff 29 = .ok (.iconst 0, 1) := by decide +kernel
theorem dX4_breakOff_30 : decode cX4_breakOff 30 = .ok (.aload_n 1, 1) := by decide +kernel
theorem dX4_breakOff_31 : decode cX4_breakOff 31 = .ok (.getfield 90, 3) := by decide +kernel
theorem dX4_breakOff_34 : decode cX4_breakOff 34 = .ok (.iconst 0, 1) := by decide +kernel
theorem dX4_breakOff_35 : decode cX4_breakOff 35 = .ok (.bipush 8, 2) := by decide +kernel
theorem dX4_breakOff_37 : decode cX4_breakOff 37 = .ok (.invokestatic 237, 3) := by decide +kernel
theorem dX4_breakOff_40 : decode cX4_breakOff 40 = .ok (.aload_n 1, 1) := by decide +kernel
theorem dX4_breakOff_41 : decode cX4_breakOff 41 = .ok (.iconst 1, 1) := by decide +kernel
theorem dX4_breakOff_42 : decode cX4_breakOff 42 = .ok (.iload_n 2, 1) := by decide +kernel
theorem dX4_breakOff_43 : decode cX4_breakOff 43 = .ok (.invokevirtual 93, 3) := by decide +kernel
theorem dX4_breakOff_46 : decode cX4_breakOff 46 = .ok (.aload_n 1, 1) := by decide +kernel
theorem dX4_breakOff_47 : decode cX4_breakOff 47 = .ok (.aload_n 3, 1) := by decide +kernel
theorem dX4_breakOff_48 : decode cX4_breakOff 48 = .ok (.getfield 243, 3) := by decide +kernel
theorem dX4_breakOff_51 : decode cX4_breakOff 51 = .ok (.putfield 71, 3) := by decide +kernel
theorem dX4_breakOff_54 : decode cX4_breakOff 54 = .ok (.aload_n 1, 1) := by decide +kernel
theorem dX4_breakOff_55 : decode cX4_breakOff 55 = .ok (.dup, 1) := by decide +kernel
theorem dX4_breakOff_56 : decode cX4_breakOff 56 = .ok (.getfield 246, 3) := by decide +kernel
theorem dX4_breakOff_59 : decode cX4_breakOff 59 = .ok (.iconst 1, 1) := by decide +kernel
theorem dX4_breakOff_60 : decode cX4_breakOff 60 = .ok (.iadd, 1) := by decide +kernel
theorem dX4_breakOff_61 : decode cX4_breakOff 61 = .ok (.putfield 246, 3) := by decide +kernel
theorem dX4_breakOff_64 : decode cX4_breakOff 64 = .ok (.aload_n 3, 1) := by decide +kernel
theorem dX4_breakOff_65 : decode cX4_breakOff 65 = .ok (.invokevirtual 78, 3) := by decide +kernel
theorem dX4_breakOff_68 : decode cX4_breakOff 68 = .ok (.return_, 1) := by decide +kernel
set_option maxRecDepth 20000 in
theorem ggX4_wordSeenBy_X3_hasStored : GoodIn wsX4_wordSeenBy wsX3_hasStored := goodIn_r _ [8, 9, 18, 19, 20, 21, 22, 23, 24, 25, 26] (by decide +kernel) (by decide +kernel)
set_option maxRecDepth 20000 in
theorem gX4_wordSeenBy_X3_hasStored : GoodIn wsX4_wordSeenBy (wsV RX4 249 RX3 yX3_hasStored wsX3_hasStored) := goodIn_app (goodIn_of _ (by decide +kernel)) ggX4_wordSeenBy_X3_hasStored
theorem dX4_wordSeenBy_0 : decode cX4_wordSeenBy 0 = .ok (.aload_n 1, 1) := by decide +kernel
theorem dX4_wordSeenBy_1 : decode cX4_wordSeenBy 1 = .ok (.getfield 74, 3) := by decide +kernel
theorem dX4_wordSeenBy_4 : decode cX4_wordSeenBy 4 = .ok (.iload_n 2, 1) := by decide +kernel
theorem dX4_wordSeenBy_5 : decode cX4_wordSeenBy 5 = .ok (.invokevirtual 249, 3) := by decide +kernel
theorem dX4_wordSeenBy_8 : decode cX4_wordSeenBy 8 = .ok (.ifCond .eq 15, 3) := by decide +kernel
theorem dX4_wordSeenBy_11 : decode cX4_wordSeenBy 11 = .ok (.aload_n 1, 1) := by decide +kernel
theorem dX4_wordSeenBy_12 : decode cX4_wordSeenBy 12 = .ok (.getfield 74, 3) := by decide +kernel
theorem dX4_wordSeenBy_15 : decode cX4_wordSeenBy 15 = .ok (.getfield 252, 3) := by decide +kernel
theorem dX4_wordSeenBy_18 : decode cX4_wordSeenBy 18 = .ok (.iload_n 2, 1) := by decide +kernel
theorem dX4_wordSeenBy_19 : decode cX4_wordSeenBy 19 = .ok (.iaload, 1) := by decide +kernel
theorem dX4_wordSeenBy_20 : decode cX4_wordSeenBy 20 = .ok (.goto 9, 3) := by decide +kernel
theorem dX4_wordSeenBy_23 : decode cX4_wordSeenBy 23 = .ok (.aload_n 0, 1) := by decide +kernel
theorem dX4_wordSeenBy_24 : decode cX4_wordSeenBy 24 = .ok (.getfield 9, 3) := by decide +kernel
theorem dX4_wordSeenBy_27 : decode cX4_wordSeenBy 27 = .ok (.iload_n 2, 1) := by decide +kernel
theorem dX4_wordSeenBy_28 : decode cX4_wordSeenBy 28 = .ok (.iaload, 1) := by decide +kernel
theorem dX4_wordSeenBy_29 : decode cX4_wordSeenBy 29 = .ok (.ireturn, 1) := by decide +kernel
set_option maxRecDepth 20000 in
theorem ggX4_factOf_J6_bitCount_0f7a4 : GoodIn wsX4_factOf wsJ6_bitCount_0f7a4 := goodIn_r _ [15, 16, 17, 18] (by decide +kernel) (by decide +kernel)
set_option maxRecDepth 20000 in
theorem gX4_factOf_J6_bitCount_0f7a4 : GoodIn wsX4_factOf (va_wsS RX4 258 yJ6_bitCount_0f7a4 wsJ6_bitCount_0f7a4) := goodIn_app (goodIn_of _ (by decide +kernel)) ggX4_factOf_J6_bitCount_0f7a4
set_option maxRecDepth 20000 in
theorem ggX4_factOf_J13_bitCount_95d88 : GoodIn wsX4_factOf wsJ13_bitCount_95d88 := goodIn_r _ [22, 23, 24, 25] (by decide +kernel) (by decide +kernel)
set_option maxRecDepth 20000 in
theorem gX4_factOf_J13_bitCount_95d88 : GoodIn wsX4_factOf (va_wsS RX4 271 yJ13_bitCount_95d88 wsJ13_bitCount_95d88) := goodIn_app (goodIn_of _ (by decide +kernel)) ggX4_factOf_J13_bitCount_95d88
theorem dX4_factOf_0 : decode cX4_factOf 0 = .ok (.aload_n 0, 1) := by decide +kernel
theorem dX4_factOf_1 : decode cX4_factOf 1 = .ok (.getfield 74, 3) := by decide +kernel
theorem dX4_factOf_4 : decode cX4_factOf 4 = .ok (.astore_n 2, 1) := by decide +kernel
theorem dX4_factOf_5 : decode cX4_factOf 5 = .ok (.iload_n 1, 1) := by decide +kernel
theorem dX4_factOf_6 : decode cX4_factOf 6 = .ok (.tableswitch 112 0 8 #[50, 55, 68, 73, 78, 83, 91, 99, 107], 50) := by decide +kernel
theorem dX4_factOf_56 : decode cX4_factOf 56 = .ok (.aload_n 0, 1) := by decide +kernel
theorem dX4_factOf_57 : decode cX4_factOf 57 = .ok (.getfield 71, 3) := by decide +kernel
theorem dX4_factOf_60 : decode cX4_factOf 60 = .ok (.ireturn, 1) := by decide +kernel
theorem dX4_factOf_61 : decode cX4_factOf 61 = .ok (.aload_n 0, 1) := by decide +kernel
theorem dX4_factOf_62 : decode cX4_factOf 62 = .ok (.getfield 83, 3) := by decide +kernel
theorem dX4_factOf_65 : decode cX4_factOf 65 = .ok (.ifCond .eq 7, 3) := by decide +kernel
theorem dX4_factOf_68 : decode cX4_factOf 68 = .ok (.iconst 1, 1) := by decide +kernel
theorem dX4_factOf_69 : decode cX4_factOf 69 = .ok (.goto 4, 3) := by decide +kernel
theorem dX4_factOf_72 : decode cX4_factOf 72 = .ok (.iconst 0, 1) := by decide +kernel
theorem dX4_factOf_73 : decode cX4_factOf 73 = .ok (.ireturn, 1) := by decide +kernel
theorem dX4_factOf_74 : decode cX4_factOf 74 = .ok (.aload_n 0, 1) := by decide +kernel
theorem dX4_factOf_75 : decode cX4_factOf 75 = .ok (.getfield 151, 3) := by decide +kernel
theorem dX4_factOf_78 : decode cX4_factOf 78 = .ok (.ireturn, 1) := by decide +kernel
theorem dX4_factOf_79 : decode cX4_factOf 79 = .ok (.aload_n 2, 1) := by decide +kernel
theorem dX4_factOf_80 : decode cX4_factOf 80 = .ok (.getfield 186, 3) := by decide +kernel
theorem dX4_factOf_83 : decode cX4_factOf 83 = .ok (.ireturn, 1) := by decide +kernel
theorem dX4_factOf_84 : decode cX4_factOf 84 = .ok (.aload_n 2, 1) := by decide +kernel
theorem dX4_factOf_85 : decode cX4_factOf 85 = .ok (.getfield 224, 3) := by decide +kernel
theorem dX4_factOf_88 : decode cX4_factOf 88 = .ok (.ireturn, 1) := by decide +kernel
theorem dX4_factOf_89 : decode cX4_factOf 89 = .ok (.aload_n 2, 1) := by decide +kernel
theorem dX4_factOf_90 : decode cX4_factOf 90 = .ok (.getfield 255, 3) := by decide +kernel
theorem dX4_factOf_93 : decode cX4_factOf 93 = .ok (.invokestatic 258, 3) := by decide +kernel
theorem dX4_factOf_96 : decode cX4_factOf 96 = .ok (.ireturn, 1) := by decide +kernel
theorem dX4_factOf_97 : decode cX4_factOf 97 = .ok (.aload_n 2, 1) := by decide +kernel
theorem dX4_factOf_98 : decode cX4_factOf 98 = .ok (.getfield 264, 3) := by decide +kernel
theorem dX4_factOf_101 : decode cX4_factOf 101 = .ok (.invokestatic 258, 3) := by decide +kernel
theorem dX4_factOf_104 : decode cX4_factOf 104 = .ok (.ireturn, 1) := by decide +kernel
theorem dX4_factOf_105 : decode cX4_factOf 105 = .ok (.aload_n 2, 1) := by decide +kernel
theorem dX4_factOf_106 : decode cX4_factOf 106 = .ok (.getfield 267, 3) := by decide +kernel
theorem dX4_factOf_109 : decode cX4_factOf 109 = .ok (.invokestatic 271, 3) := by decide +kernel
theorem dX4_factOf_112 : decode cX4_factOf 112 = .ok (.ireturn, 1) := by decide +kernel
theorem dX4_factOf_113 : decode cX4_factOf 113 = .ok (.aload_n 0, 1) := by decide +kernel
theorem dX4_factOf_114 : decode cX4_factOf 114 = .ok (.getfield 201, 3) := by decide +kernel
theorem dX4_factOf_117 : decode cX4_factOf 117 = .ok (.ireturn, 1) := by decide +kernel
theorem dX4_factOf_118 : decode cX4_factOf 118 = .ok (.aload_n 0, 1) := by decide +kernel
theorem dX4_factOf_119 : decode cX4_factOf 119 = .ok (.getfield 246, 3) := by decide +kernel
theorem dX4_factOf_122 : decode cX4_factOf 122 = .ok (.ireturn, 1) := by decide +kernel
set_option maxRecDepth 20000 in
theorem ggX5_init_X5_near : GoodIn wsX5_init wsX5_near := goodIn_r _ [34] (by decide +kernel) (by decide +kernel)
set_option maxRecDepth 20000 in
theorem gX5_init_X5_near : GoodIn wsX5_init (va_wsS RX5 75 yX5_near wsX5_near) := goodIn_app (goodIn_of _ (by decide +kernel)) ggX5_init_X5_near
theorem dX5_init_0 : decode cX5_init 0 = .ok (.aload_n 0, 1) := by decide +kernel
theorem dX5_init_1 : decode cX5_init 1 = .ok (.invokespecial 1, 3) := by decide +kernel
theorem dX5_init_4 : decode cX5_init 4 = .ok (.aload_n 0, 1) := by decide +kernel
theorem dX5_init_5 : decode cX5_init 5 = .ok (.bipush 64, 2) := by decide +kernel
theorem dX5_init_7 : decode cX5_init 7 = .ok (.newarray .int, 2) := by decide +kernel
theorem dX5_init_9 : decode cX5_init 9 = .ok (.putfield 7, 3) := by decide +kernel
theorem dX5_init_12 : decode cX5_init 12 = .ok (.aload_n 0, 1) := by decide +kernel
theorem dX5_init_13 : decode cX5_init 13 = .ok (.bipush 80, 2) := by decide +kernel
theorem dX5_init_15 : decode cX5_init 15 = .ok (.newarray .int, 2) := by decide +kernel
theorem dX5_init_17 : decode cX5_init 17 = .ok (.putfield 13, 3) := by decide +kernel
theorem dX5_init_20 : decode cX5_init 20 = .ok (.aload_n 0, 1) := by decide +kernel
theorem dX5_init_21 : decode cX5_init 21 = .ok (.bipush 80, 2) := by decide +kernel
theorem dX5_init_23 : decode cX5_init 23 = .ok (.newarray .int, 2) := by decide +kernel
theorem dX5_init_25 : decode cX5_init 25 = .ok (.putfield 16, 3) := by decide +kernel
theorem dX5_init_28 : decode cX5_init 28 = .ok (.aload_n 0, 1) := by decide +kernel
theorem dX5_init_29 : decode cX5_init 29 = .ok (.bipush 80, 2) := by decide +kernel
theorem dX5_init_31 : decode cX5_init 31 = .ok (.newarray .int, 2) := by decide +kernel
theorem dX5_init_33 : decode cX5_init 33 = .ok (.putfield 19, 3) := by decide +kernel
theorem dX5_init_36 : decode cX5_init 36 = .ok (.aload_n 0, 1) := by decide +kernel
theorem dX5_init_37 : decode cX5_init 37 = .ok (.bipush 80, 2) := by decide +kernel
theorem dX5_init_39 : decode cX5_init 39 = .ok (.newarray .int, 2) := by decide +kernel
theorem dX5_init_41 : decode cX5_init 41 = .ok (.putfield 22, 3) := by decide +kernel
theorem dX5_init_44 : decode cX5_init 44 = .ok (.aload_n 0, 1) := by decide +kernel
theorem dX5_init_45 : decode cX5_init 45 = .ok (.iconst 4, 1) := by decide +kernel
theorem dX5_init_46 : decode cX5_init 46 = .ok (.newarray .int, 2) := by decide +kernel
theorem dX5_init_48 : decode cX5_init 48 = .ok (.putfield 25, 3) := by decide +kernel
theorem dX5_init_51 : decode cX5_init 51 = .ok (.aload_n 0, 1) := by decide +kernel
theorem dX5_init_52 : decode cX5_init 52 = .ok (.iconst 4, 1) := by decide +kernel
theorem dX5_init_53 : decode cX5_init 53 = .ok (.newarray .boolean, 2) := by decide +kernel
theorem dX5_init_55 : decode cX5_init 55 = .ok (.putfield 28, 3) := by decide +kernel
theorem dX5_init_58 : decode cX5_init 58 = .ok (.aload_n 0, 1) := by decide +kernel
theorem dX5_init_59 : decode cX5_init 59 = .ok (.iconst 4, 1) := by decide +kernel
theorem dX5_init_60 : decode cX5_init 60 = .ok (.newarray .int, 2) := by decide +kernel
theorem dX5_init_62 : decode cX5_init 62 = .ok (.putfield 32, 3) := by decide +kernel
theorem dX5_init_65 : decode cX5_init 65 = .ok (.aload_n 0, 1) := by decide +kernel
theorem dX5_init_66 : decode cX5_init 66 = .ok (.bipush 32, 2) := by decide +kernel
theorem dX5_init_68 : decode cX5_init 68 = .ok (.newarray .int, 2) := by decide +kernel
theorem dX5_init_70 : decode cX5_init 70 = .ok (.putfield 35, 3) := by decide +kernel
theorem dX5_init_73 : decode cX5_init 73 = .ok (.aload_n 0, 1) := by decide +kernel
theorem dX5_init_74 : decode cX5_init 74 = .ok (.iconst 4, 1) := by decide +kernel
theorem dX5_init_75 : decode cX5_init 75 = .ok (.newarray .int, 2) := by decide +kernel
theorem dX5_init_77 : decode cX5_init 77 = .ok (.putfield 38, 3) := by decide +kernel
theorem dX5_init_80 : decode cX5_init 80 = .ok (.aload_n 0, 1) := by decide +kernel
theorem dX5_init_81 : decode cX5_init 81 = .ok (.iconst 4, 1) := by decide +kernel
theorem dX5_init_82 : decode cX5_init 82 = .ok (.newarray .int, 2) := by decide +kernel
theorem dX5_init_84 : decode cX5_init 84 = .ok (.putfield 41, 3) := by decide +kernel
theorem dX5_init_87 : decode cX5_init 87 = .ok (.aload_n 0, 1) := by decide +kernel
theorem dX5_init_88 : decode cX5_init 88 = .ok (.iconst 4, 1) := by decide +kernel
theorem dX5_init_89 : decode cX5_init 89 = .ok (.newarray .int, 2) := by decide +kernel
theorem dX5_init_91 : decode cX5_init 91 = .ok (.putfield 44, 3) := by decide +kernel
theorem dX5_init_94 : decode cX5_init 94 = .ok (.aload_n 0, 1) := by decide +kernel
theorem dX5_init_95 : decode cX5_init 95 = .ok (.iconst 4, 1) := by decide +kernel
theorem dX5_init_96 : decode cX5_init 96 = .ok (.newarray .int, 2) := by decide +kernel
theorem dX5_init_98 : decode cX5_init 98 = .ok (.putfield 47, 3) := by decide +kernel
theorem dX5_init_101 : decode cX5_init 101 = .ok (.aload_n 0, 1) := by decide +kernel
theorem dX5_init_102 : decode cX5_init 102 = .ok (.bipush 32, 2) := by decide +kernel
theorem dX5_init_104 : decode cX5_init 104 = .ok (.newarray .int, 2) := by decide +kernel
theorem dX5_init_106 : decode cX5_init 106 = .ok (.putfield 50, 3) := by decide +kernel
theorem dX5_init_109 : decode cX5_init 109 = .ok (.aload_n 0, 1) := by decide +kernel
theorem dX5_init_110 : decode cX5_init 110 = .ok (.iconst 4, 1) := by decide +kernel
theorem dX5_init_111 : decode cX5_init 111 = .ok (.newarray .int, 2) := by decide +kernel
theorem dX5_init_113 : decode cX5_init 113 = .ok (.putfield 53, 3) := by decide +kernel
theorem dX5_init_116 : decode cX5_init 116 = .ok (.aload_n 0, 1) := by decide +kernel
theorem dX5_init_117 : decode cX5_init 117 = .ok (.iconst 4, 1) := by decide +kernel
theorem dX5_init_118 : decode cX5_init 118 = .ok (.newarray .int, 2) := by decide +kernel
theorem dX5_init_120 : decode cX5_init 120 = .ok (.putfield 56, 3) := by decide +kernel
theorem dX5_init_123 : decode cX5_init 123 = .ok (.aload_n 0, 1) := by decide +kernel
theorem dX5_init_124 : decode cX5_init 124 = .ok (.iconst 4, 1) := by decide +kernel
theorem dX5_init_125 : decode cX5_init 125 = .ok (.newarray .long, 2) := by decide +kernel
theorem dX5_init_127 : decode cX5_init 127 = .ok (.putfield 59, 3) := by decide +kernel
theorem dX5_init_130 : decode cX5_init 130 = .ok (.aload_n 0, 1) := by decide +kernel
theorem dX5_init_131 : decode cX5_init 131 = .ok (.sipush 256, 3) := by decide +kernel
theorem dX5_init_134 : decode cX5_init 134 = .ok (.newarray .int, 2) := by decide +kernel
theorem dX5_init_136 : decode cX5_init 136 = .ok (.putfield 63, 3) := by decide +kernel
theorem dX5_init_139 : decode cX5_init 139 = .ok (.aload_n 0, 1) := by decide +kernel
theorem dX5_init_140 : decode cX5_init 140 = .ok (.iconst 4, 1) := by decide +kernel
theorem dX5_init_141 : decode cX5_init 141 = .ok (.newarray .int, 2) := by decide +kernel
theorem dX5_init_143 : decode cX5_init 143 = .ok (.putfield 66, 3) := by decide +kernel
theorem dX5_init_146 : decode cX5_init 146 = .ok (.aload_n 0, 1) := by decide +kernel
theorem dX5_init_147 : decode cX5_init 147 = .ok (.iconst 4, 1) := by decide +kernel
theorem dX5_init_148 : decode cX5_init 148 = .ok (.newarray .int, 2) := by decide +kernel
theorem dX5_init_150 : decode cX5_init 150 = .ok (.putfield 69, 3) := by decide +kernel
theorem dX5_init_153 : decode cX5_init 153 = .ok (.aload_n 0, 1) := by decide +kernel
theorem dX5_init_154 : decode cX5_init 154 = .ok (.sipush 400, 3) := by decide +kernel
theorem dX5_init_157 : decode cX5_init 157 = .ok (.newarray .int, 2) := by decide +kernel
theorem dX5_init_159 : decode cX5_init 159 = .ok (.putfield 72, 3) := by decide +kernel
theorem dX5_init_162 : decode cX5_init 162 = .ok (.aload_n 0, 1) := by decide +kernel
theorem dX5_init_163 : decode cX5_init 163 = .ok (.iload_n 1, 1) := by decide +kernel
theorem dX5_init_164 : decode cX5_init 164 = .ok (.iconst 1, 1) := by decide +kernel
theorem dX5_init_165 : decode cX5_init 165 = .ok (.iconst 4, 1) := by decide +kernel
theorem dX5_init_166 : decode cX5_init 166 = .ok (.invokestatic 75, 3) := by decide +kernel
theorem dX5_init_169 : decode cX5_init 169 = .ok (.putfield 79, 3) := by decide +kernel
theorem dX5_init_172 : decode cX5_init 172 = .ok (.aload_n 0, 1) := by decide +kernel
theorem dX5_init_173 : decode cX5_init 173 = .ok (.iconst 1, 1) := by decide +kernel
theorem dX5_init_174 : decode cX5_init 174 = .ok (.iload_n 2, 1) := by decide +kernel
theorem dX5_init_175 : decode cX5_init 175 = .ok (.iconst 0, 1) := by decide +kernel
theorem dX5_init_176 : decode cX5_init 176 = .ok (.iconst 2, 1) := by decide +kernel
theorem dX5_init_177 : decode cX5_init 177 = .ok (.invokestatic 75, 3) := by decide +kernel
theorem dX5_init_180 : decode cX5_init 180 = .ok (.ishl, 1) := by decide +kernel
theorem dX5_init_181 : decode cX5_init 181 = .ok (.putfield 83, 3) := by decide +kernel
theorem dX5_init_184 : decode cX5_init 184 = .ok (.aload_n 0, 1) := by decide +kernel
theorem dX5_init_185 : decode cX5_init 185 = .ok (.iload_n 3, 1) := by decide +kernel
theorem dX5_init_186 : decode cX5_init 186 = .ok (.iconst 1, 1) := by decide +kernel
theorem dX5_init_187 : decode cX5_init 187 = .ok (.iconst 4, 1) := by decide +kernel
theorem dX5_init_188 : decode cX5_init 188 = .ok (.invokestatic 75, 3) := by decide +kernel
theorem dX5_init_191 : decode cX5_init 191 = .ok (.putfield 86, 3) := by decide +kernel
theorem dX5_init_194 : decode cX5_init 194 = .ok (.return_, 1) := by decide +kernel
theorem dX5_thrown_0 : decode cX5_thrown 0 = .ok (.aload_n 0, 1) := by decide +kernel
theorem dX5_thrown_1 : decode cX5_thrown 1 = .ok (.getfield 89, 3) := by decide +kernel
theorem dX5_thrown_4 : decode cX5_thrown 4 = .ok (.ireturn, 1) := by decide +kernel
theorem dX5_near_0 : decode cX5_near 0 = .ok (.iload_n 0, 1) := by decide +kernel
theorem dX5_near_1 : decode cX5_near 1 = .ok (.iload_n 1, 1) := by decide +kernel
theorem dX5_near_2 : decode cX5_near 2 = .ok (.if_icmp .ge 7, 3) := by decide +kernel
theorem dX5_near_5 : decode cX5_near 5 = .ok (.iload_n 1, 1) := by decide +kernel
theorem dX5_near_6 : decode cX5_near 6 = .ok (.goto 13, 3) := by decide +kernel
theorem dX5_near_9 : decode cX5_near 9 = .ok (.iload_n 0, 1) := by decide +kernel
theorem dX5_near_10 : decode cX5_near 10 = .ok (.iload_n 2, 1) := by decide +kernel
theorem dX5_near_11 : decode cX5_near 11 = .ok (.if_icmp .le 7, 3) := by decide +kernel
theorem dX5_near_14 : decode cX5_near 14 = .ok (.iload_n 2, 1) := by decide +kernel
theorem dX5_near_15 : decode cX5_near 15 = .ok (.goto 4, 3) := by decide +kernel
theorem dX5_near_18 : decode cX5_near 18 = .ok (.iload_n 0, 1) := by decide +kernel
theorem dX5_near_19 : decode cX5_near 19 = .ok (.ireturn, 1) := by decide +kernel
theorem dX5_isIn_0 : decode cX5_isIn 0 = .ok (.iload_n 0, 1) := by decide +kernel
theorem dX5_isIn_1 : decode cX5_isIn 1 = .ok (.ifCond .lt 12, 3) := by decide +kernel
theorem dX5_isIn_4 : decode cX5_isIn 4 = .ok (.iload_n 0, 1) := by decide +kernel
theorem dX5_isIn_5 : decode cX5_isIn 5 = .ok (.iload_n 1, 1) := by decide +kernel
theorem dX5_isIn_6 : decode cX5_isIn 6 = .ok (.if_icmp .ge 7, 3) := by decide +kernel
theorem dX5_isIn_9 : decode cX5_isIn 9 = .ok (.iconst 1, 1) := by decide +kernel
theorem dX5_isIn_10 : decode cX5_isIn 10 = .ok (.goto 4, 3) := by decide +kernel
theorem dX5_isIn_13 : decode cX5_isIn 13 = .ok (.iconst 0, 1) := by decide +kernel
theorem dX5_isIn_14 : decode cX5_isIn 14 = .ok (.ireturn, 1) := by decide +kernel
theorem dX5_namesA_0 : decode cX5_namesA 0 = .ok (.iload_n 0, 1) := by decide +kernel
theorem dX5_namesA_1 : decode cX5_namesA 1 = .ok (.bipush 8, 2) := by decide +kernel
theorem dX5_namesA_3 : decode cX5_namesA 3 = .ok (.if_icmp .le 9, 3) := by decide +kernel
theorem dX5_namesA_6 : decode cX5_namesA 6 = .ok (.iload_n 0, 1) := by decide +kernel
theorem dX5_namesA_7 : decode cX5_namesA 7 = .ok (.bipush 12, 2) := by decide +kernel
theorem dX5_namesA_9 : decode cX5_namesA 9 = .ok (.if_icmp .ne 7, 3) := by decide +kernel
theorem dX5_namesA_12 : decode cX5_namesA 12 = .ok (.iconst 1, 1) := by decide +kernel
theorem dX5_namesA_13 : decode cX5_namesA 13 = .ok (.goto 4, 3) := by decide +kernel
theorem dX5_namesA_16 : decode cX5_namesA 16 = .ok (.iconst 0, 1) := by decide +kernel
theorem dX5_namesA_17 : decode cX5_namesA 17 = .ok (.ireturn, 1) := by decide +kernel
theorem dX5_namesB_0 : decode cX5_namesB 0 = .ok (.iload_n 0, 1) := by decide +kernel
theorem dX5_namesB_1 : decode cX5_namesB 1 = .ok (.iconst 1, 1) := by decide +kernel
theorem dX5_namesB_2 : decode cX5_namesB 2 = .ok (.if_icmp .lt 13, 3) := by decide +kernel
theorem dX5_namesB_5 : decode cX5_namesB 5 = .ok (.iload_n 0, 1) := by decide +kernel
theorem dX5_namesB_6 : decode cX5_namesB 6 = .ok (.bipush 8, 2) := by decide +kernel
theorem dX5_namesB_8 : decode cX5_namesB 8 = .ok (.if_icmp .gt 7, 3) := by decide +kernel
theorem dX5_namesB_11 : decode cX5_namesB 11 = .ok (.iconst 1, 1) := by decide +kernel
theorem dX5_namesB_12 : decode cX5_namesB 12 = .ok (.goto 4, 3) := by decide +kernel
theorem dX5_namesB_15 : decode cX5_namesB 15 = .ok (.iconst 0, 1) := by decide +kernel
theorem dX5_namesB_16 : decode cX5_namesB 16 = .ok (.ireturn, 1) := by decide +kernel
theorem dX5_namesC_0 : decode cX5_namesC 0 = .ok (.iload_n 0, 1) := by decide +kernel
theorem dX5_namesC_1 : decode cX5_namesC 1 = .ok (.iconst 1, 1) := by decide +kernel
theorem dX5_namesC_2 : decode cX5_namesC 2 = .ok (.if_icmp .lt 12, 3) := by decide +kernel
theorem dX5_namesC_5 : decode cX5_namesC 5 = .ok (.iload_n 0, 1) := by decide +kernel
theorem dX5_namesC_6 : decode cX5_namesC 6 = .ok (.iconst 3, 1) := by decide +kernel
theorem dX5_namesC_7 : decode cX5_namesC 7 = .ok (.if_icmp .gt 7, 3) := by decide +kernel
theorem dX5_namesC_10 : decode cX5_namesC 10 = .ok (.iconst 1, 1) := by decide +kernel
theorem dX5_namesC_11 : decode cX5_namesC 11 = .ok (.goto 4, 3) := by decide +kernel
theorem dX5_namesC_14 : decode cX5_namesC 14 = .ok (.iconst 0, 1) := by decide +kernel
theorem dX5_namesC_15 : decode cX5_namesC 15 = .ok (.ireturn, 1) := by decide +kernel
set_option maxRecDepth 20000 in
theorem ggX5_instruction_X5_isIn : GoodIn wsX5_instruction wsX5_isIn := goodIn_r _ [10] (by decide +kernel) (by decide +kernel)
set_option maxRecDepth 20000 in
theorem gX5_instruction_X5_isIn : GoodIn wsX5_instruction (va_wsS RX5 92 yX5_isIn wsX5_isIn) := goodIn_app (goodIn_of _ (by decide +kernel)) ggX5_instruction_X5_isIn
set_option maxRecDepth 20000 in
theorem ggX5_instruction_X5_namesA : GoodIn wsX5_instruction wsX5_namesA := goodIn_r _ [13] (by decide +kernel) (by decide +kernel)
set_option maxRecDepth 20000 in
theorem gX5_instruction_X5_namesA : GoodIn wsX5_instruction (va_wsS RX5 96 yX5_namesA wsX5_namesA) := goodIn_app (goodIn_of _ (by decide +kernel)) ggX5_instruction_X5_namesA
set_option maxRecDepth 20000 in
theorem ggX5_instruction_X5_namesB : GoodIn wsX5_instruction wsX5_namesB := goodIn_r _ [16] (by decide +kernel) (by decide +kernel)
set_option maxRecDepth 20000 in
theorem gX5_instruction_X5_namesB : GoodIn wsX5_instruction (va_wsS RX5 100 yX5_namesB wsX5_namesB) := goodIn_app (goodIn_of _ (by decide +kernel)) ggX5_instruction_X5_namesB
set_option maxRecDepth 20000 in
theorem ggX5_instruction_X5_namesC : GoodIn wsX5_instruction wsX5_namesC := goodIn_r _ [19] (by decide +kernel) (by decide +kernel)
set_option maxRecDepth 20000 in
theorem gX5_instruction_X5_namesC : GoodIn wsX5_instruction (va_wsS RX5 103 yX5_namesC wsX5_namesC) := goodIn_app (goodIn_of _ (by decide +kernel)) ggX5_instruction_X5_namesC
theorem dX5_instruction_0 : decode cX5_instruction 0 = .ok (.iload_n 1, 1) := by decide +kernel
theorem dX5_instruction_1 : decode cX5_instruction 1 = .ok (.bipush 14, 2) := by decide +kernel
theorem dX5_instruction_3 : decode cX5_instruction 3 = .ok (.invokestatic 92, 3) := by decide +kernel
theorem dX5_instruction_6 : decode cX5_instruction 6 = .ok (.istore 5, 2) := by decide +kernel
theorem dX5_instruction_8 : decode cX5_instruction 8 = .ok (.iload 5, 2) := by decide +kernel
theorem dX5_instruction_10 : decode cX5_instruction 10 = .ok (.ifCond .eq 56, 3) := by decide +kernel
theorem dX5_instruction_13 : decode cX5_instruction 13 = .ok (.iload_n 1, 1) := by decide +kernel
theorem dX5_instruction_14 : decode cX5_instruction 14 = .ok (.invokestatic 96, 3) := by decide +kernel
theorem dX5_instruction_17 : decode cX5_instruction 17 = .ok (.ifCond .eq 12, 3) := by decide +kernel
theorem dX5_instruction_20 : decode cX5_instruction 20 = .ok (.iload_n 2, 1) := by decide +kernel
theorem dX5_instruction_21 : decode cX5_instruction 21 = .ok (.bipush 8, 2) := by decide +kernel
theorem dX5_instruction_23 : decode cX5_instruction 23 = .ok (.invokestatic 92, 3) := by decide +kernel
theorem dX5_instruction_26 : decode cX5_instruction 26 = .ok (.ifCond .eq 40, 3) := by decide +kernel
theorem dX5_instruction_29 : decode cX5_instruction 29 = .ok (.iload_n 1, 1) := by decide +kernel
theorem dX5_instruction_30 : decode cX5_instruction 30 = .ok (.invokestatic 100, 3) := by decide +kernel
theorem dX5_instruction_33 : decode cX5_instruction 33 = .ok (.ifCond .eq 12, 3) := by decide +kernel
theorem dX5_instruction_36 : decode cX5_instruction 36 = .ok (.iload_n 3, 1) := by decide +kernel
theorem dX5_instruction_37 : decode cX5_instruction 37 = .ok (.bipush 8, 2) := by decide +kernel
theorem dX5_instruction_39 : decode cX5_instruction 39 = .ok (.invokestatic 92, 3) := by decide +kernel
theorem dX5_instruction_42 : decode cX5_instruction 42 = .ok (.ifCond .eq 24, 3) := by decide +kernel
theorem dX5_instruction_45 : decode cX5_instruction 45 = .ok (.iload_n 1, 1) := by decide +kernel
theorem dX5_instruction_46 : decode cX5_instruction 46 = .ok (.invokestatic 103, 3) := by decide +kernel
theorem dX5_instruction_49 : decode cX5_instruction 49 = .ok (.ifCond .eq 13, 3) := by decide +kernel
theorem dX5_instruction_52 : decode cX5_instruction 52 = .ok (.iload 4, 2) := by decide +kernel
theorem dX5_instruction_54 : decode cX5_instruction 54 = .ok (.bipush 8, 2) := by decide +kernel
theorem dX5_instruction_56 : decode cX5_instruction 56 = .ok (.invokestatic 92, 3) := by decide +kernel
theorem dX5_instruction_59 : decode cX5_instruction 59 = .ok (.ifCond .eq 7, 3) := by decide +kernel
theorem dX5_instruction_62 : decode cX5_instruction 62 = .ok (.iconst 1, 1) := by decide +kernel
theorem dX5_instruction_63 : decode cX5_instruction 63 = .ok (.goto 4, 3) := by decide +kernel
theorem dX5_instruction_66 : decode cX5_instruction 66 = .ok (.iconst 0, 1) := by decide +kernel
theorem dX5_instruction_67 : decode cX5_instruction 67 = .ok (.istore 5, 2) := by decide +kernel
theorem dX5_instruction_69 : decode cX5_instruction 69 = .ok (.aload_n 0, 1) := by decide +kernel
theorem dX5_instruction_70 : decode cX5_instruction 70 = .ok (.iload 5, 2) := by decide +kernel
theorem dX5_instruction_72 : decode cX5_instruction 72 = .ok (.ifCond .ne 7, 3) := by decide +kernel
theorem dX5_instruction_75 : decode cX5_instruction 75 = .ok (.iconst 1, 1) := by decide +kernel
theorem dX5_instruction_76 : decode cX5_instruction 76 = .ok (.goto 17, 3) := by decide +kernel
theorem dX5_instruction_79 : decode cX5_instruction 79 = .ok (.aload_n 0, 1) := by decide +kernel
theorem dX5_instruction_80 : decode cX5_instruction 80 = .ok (.getfield 106, 3) := by decide +kernel
theorem dX5_instruction_83 : decode cX5_instruction 83 = .ok (.bipush 80, 2) := by decide +kernel
theorem dX5_instruction_85 : decode cX5_instruction 85 = .ok (.if_icmp .ne 7, 3) := by decide +kernel
theorem dX5_instruction_88 : decode cX5_instruction 88 = .ok (.iconst 2, 1) := by decide +kernel
theorem dX5_instruction_89 : decode cX5_instruction 89 = .ok (.goto 4, 3) := by decide +kernel
theorem dX5_instruction_92 : decode cX5_instruction 92 = .ok (.iconst 0, 1) := by decide +kernel
theorem dX5_instruction_93 : decode cX5_instruction 93 = .ok (.putfield 89, 3) := by decide +kernel
theorem dX5_instruction_96 : decode cX5_instruction 96 = .ok (.aload_n 0, 1) := by decide +kernel
theorem dX5_instruction_97 : decode cX5_instruction 97 = .ok (.getfield 89, 3) := by decide +kernel
theorem dX5_instruction_100 : decode cX5_instruction 100 = .ok (.ifCond .le 5, 3) := by decide +kernel
theorem dX5_instruction_103 : decode cX5_instruction 103 = .ok (.iconst 0, 1) := by decide +kernel
theorem dX5_instruction_104 : decode cX5_instruction 104 = .ok (.ireturn, 1) := by decide +kernel
theorem dX5_instruction_105 : decode cX5_instruction 105 = .ok (.aload_n 0, 1) := by decide +kernel
theorem dX5_instruction_106 : decode cX5_instruction 106 = .ok (.getfield 13, 3) := by decide +kernel
theorem dX5_instruction_109 : decode cX5_instruction 109 = .ok (.aload_n 0, 1) := by decide +kernel
theorem dX5_instruction_110 : decode cX5_instruction 110 = .ok (.getfield 106, 3) := by decide +kernel
theorem dX5_instruction_113 : decode cX5_instruction 113 = .ok (.iload_n 1, 1) := by decide +kernel
theorem dX5_instruction_114 : decode cX5_instruction 114 = .ok (.iastore, 1) := by decide +kernel
theorem dX5_instruction_115 : decode cX5_instruction 115 = .ok (.aload_n 0, 1) := by decide +kernel
theorem dX5_instruction_116 : decode cX5_instruction 116 = .ok (.getfield 16, 3) := by decide +kernel
theorem dX5_instruction_119 : decode cX5_instruction 119 = .ok (.aload_n 0, 1) := by decide +kernel
theorem dX5_instruction_120 : decode cX5_instruction 120 = .ok (.getfield 106, 3) := by decide +kernel
theorem dX5_instruction_123 : decode cX5_instruction 123 = .ok (.iload_n 2, 1) := by decide +kernel
theorem dX5_instruction_124 : decode cX5_instruction 124 = .ok (.iastore, 1) := by decide +kernel
theorem dX5_instruction_125 : decode cX5_instruction 125 = .ok (.aload_n 0, 1) := by decide +kernel
theorem dX5_instruction_126 : decode cX5_instruction 126 = .ok (.getfield 19, 3) := by decide +kernel
theorem dX5_instruction_129 : decode cX5_instruction 129 = .ok (.aload_n 0, 1) := by decide +kernel
theorem dX5_instruction_130 : decode cX5_instruction 130 = .ok (.getfield 106, 3) := by decide +kernel
theorem dX5_instruction_133 : decode cX5_instruction 133 = .ok (.iload_n 3, 1) := by decide +kernel
theorem dX5_instruction_134 : decode cX5_instruction 134 = .ok (.iastore, 1) := by decide +kernel
theorem dX5_instruction_135 : decode cX5_instruction 135 = .ok (.aload_n 0, 1) := by decide +kernel
theorem dX5_instruction_136 : decode cX5_instruction 136 = .ok (.getfield 22, 3) := by decide +kernel
theorem dX5_instruction_139 : decode cX5_instruction 139 = .ok (.aload_n 0, 1) := by decide +kernel
theorem dX5_instruction_140 : decode cX5_instruction 140 = .ok (.getfield 106, 3) := by decide +kernel
theorem dX5_instruction_143 : decode cX5_instruction 143 = .ok (.iload 4, 2) := by decide +kernel
theorem dX5_instruction_145 : decode cX5_instruction 145 = .ok (.iastore, 1) := by decide +kernel
theorem dX5_instruction_146 : decode cX5_instruction 146 = .ok (.aload_n 0, 1) := by decide +kernel
theorem dX5_instruction_147 : decode cX5_instruction 147 = .ok (.dup, 1) := by decide +kernel
theorem dX5_instruction_148 : decode cX5_instruction 148 = .ok (.getfield 106, 3) := by decide +kernel
theorem dX5_instruction_151 : decode cX5_instruction 151 = .ok (.iconst 1, 1) := by decide +kernel
theorem dX5_instruction_152 : decode cX5_instruction 152 = .ok (.iadd, 1) := by decide +kernel
theorem dX5_instruction_153 : decode cX5_instruction 153 = .ok (.putfield 106, 3) := by decide +kernel
theorem dX5_instruction_156 : decode cX5_instruction 156 = .ok (.aload_n 0, 1) := by decide +kernel
theorem dX5_instruction_157 : decode cX5_instruction 157 = .ok (.getfield 106, 3) := by decide +kernel
theorem dX5_instruction_160 : decode cX5_instruction 160 = .ok (.iconst 1, 1) := by decide +kernel
theorem dX5_instruction_161 : decode cX5_instruction 161 = .ok (.isub, 1) := by decide +kernel
theorem dX5_instruction_162 : decode cX5_instruction 162 = .ok (.ireturn, 1) := by decide +kernel
theorem dX5_leave_0 : decode cX5_leave 0 = .ok (.aload_n 0, 1) := by decide +kernel
theorem dX5_leave_1 : decode cX5_leave 1 = .ok (.getfield 38, 3) := by decide +kernel
theorem dX5_leave_4 : decode cX5_leave 4 = .ok (.iload_n 1, 1) := by decide +kernel
theorem dX5_leave_5 : decode cX5_leave 5 = .ok (.iconst 0, 1) := by decide +kernel
theorem dX5_leave_6 : decode cX5_leave 6 = .ok (.iastore, 1) := by decide +kernel
theorem dX5_leave_7 : decode cX5_leave 7 = .ok (.aload_n 0, 1) := by decide +kernel
theorem dX5_leave_8 : decode cX5_leave 8 = .ok (.getfield 41, 3) := by decide +kernel
theorem dX5_leave_11 : decode cX5_leave 11 = .ok (.iload_n 1, 1) := by decide +kernel
theorem dX5_leave_12 : decode cX5_leave 12 = .ok (.iconst 0, 1) := by decide +kernel
theorem dX5_leave_13 : decode cX5_leave 13 = .ok (.iastore, 1) := by decide +kernel
theorem dX5_leave_14 : decode cX5_leave 14 = .ok (.aload_n 0, 1) := by decide +kernel
theorem dX5_leave_15 : decode cX5_leave 15 = .ok (.getfield 53, 3) := by decide +kernel
theorem dX5_leave_18 : decode cX5_leave 18 = .ok (.iload_n 1, 1) := by decide +kernel
theorem dX5_leave_19 : decode cX5_leave 19 = .ok (.iconst 0, 1) := by decide +kernel
theorem dX5_leave_20 : decode cX5_leave 20 = .ok (.iastore, 1) := by decide +kernel
theorem dX5_leave_21 : decode cX5_leave 21 = .ok (.aload_n 0, 1) := by decide +kernel
theorem dX5_leave_22 : decode cX5_leave 22 = .ok (.getfield 56, 3) := by decide +kernel
theorem dX5_leave_25 : decode cX5_leave 25 = .ok (.iload_n 1, 1) := by decide +kernel
theorem dX5_leave_26 : decode cX5_leave 26 = .ok (.iconst 0, 1) := by decide +kernel
theorem dX5_leave_27 : decode cX5_leave 27 = .ok (.iastore, 1) := by decide +kernel
theorem dX5_leave_28 : decode cX5_leave 28 = .ok (.aload_n 0, 1) := by decide +kernel
theorem dX5_leave_29 : decode cX5_leave 29 = .ok (.getfield 59, 3) := by decide +kernel
theorem dX5_leave_32 : decode cX5_leave 32 = .ok (.iload_n 1, 1) := by decide +kernel
theorem dX5_leave_33 : decode cX5_leave 33 = .ok (.lconst 0, 1) := by decide +kernel
theorem dX5_leave_34 : decode cX5_leave 34 = .ok (.lastore, 1) := by decide +kernel
theorem dX5_leave_35 : decode cX5_leave 35 = .ok (.return_, 1) := by decide +kernel
set_option maxRecDepth 20000 in
theorem ggX5_start_X5_isIn : GoodIn wsX5_start wsX5_isIn := goodIn_r _ [8] (by decide +kernel) (by decide +kernel)
set_option maxRecDepth 20000 in
theorem gX5_start_X5_isIn : GoodIn wsX5_start (va_wsS RX5 92 yX5_isIn wsX5_isIn) := goodIn_app (goodIn_of _ (by decide +kernel)) ggX5_start_X5_isIn
set_option maxRecDepth 20000 in
theorem ggX5_start_X5_leave : GoodIn wsX5_start wsX5_leave := goodIn_r _ [12, 13, 14, 15, 16, 17, 18, 19, 20, 21, 22, 23, 24, 25, 26, 27, 28, 29, 30, 31, 32, 33, 34, 35, 36, 37, 38, 39, 40, 41, 42, 43, 44, 45, 46] (by decide +kernel) (by decide +kernel)
set_option maxRecDepth 20000 in
theorem gX5_start_X5_leave : GoodIn wsX5_start (wsV RX5 109 RX5 yX5_leave wsX5_leave) := goodIn_app (goodIn_of _ (by decide +kernel)) ggX5_start_X5_leave
theorem dX5_start_0 : decode cX5_start 0 = .ok (.aload_n 0, 1) := by decide +kernel
theorem dX5_start_1 : decode cX5_start 1 = .ok (.iload_n 1, 1) := by decide +kernel
theorem dX5_start_2 : decode cX5_start 2 = .ok (.aload_n 0, 1) := by decide +kernel
theorem dX5_start_3 : decode cX5_start 3 = .ok (.getfield 79, 3) := by decide +kernel
theorem dX5_start_6 : decode cX5_start 6 = .ok (.invokestatic 92, 3) := by decide +kernel
theorem dX5_start_9 : decode cX5_start 9 = .ok (.ifCond .ne 7, 3) := by decide +kernel
theorem dX5_start_12 : decode cX5_start 12 = .ok (.iconst 1, 1) := by decide +kernel
theorem dX5_start_13 : decode cX5_start 13 = .ok (.goto 18, 3) := by decide +kernel
theorem dX5_start_16 : decode cX5_start 16 = .ok (.iload_n 2, 1) := by decide +kernel
theorem dX5_start_17 : decode cX5_start 17 = .ok (.ifCond .lt 9, 3) := by decide +kernel
theorem dX5_start_20 : decode cX5_start 20 = .ok (.iload_n 2, 1) := by decide +kernel
theorem dX5_start_21 : decode cX5_start 21 = .ok (.bipush 80, 2) := by decide +kernel
theorem dX5_start_23 : decode cX5_start 23 = .ok (.if_icmp .le 7, 3) := by decide +kernel
end
section
theorem dX5_start_26 : decode cX5_start 26 = .ok (.iconst 2, 1) := by decide +kernel
theorem dX5_start_27 : decode cX5_start 27 = .ok (.goto 4, 3) := by decide +kernel
theorem dX5_start_30 : decode cX5_start 30 = .ok (.iconst 0, 1) := by decide +kernel
theorem dX5_start_31 : decode cX5_start 31 = .ok (.putfield 89, 3) := by decide +kernel
theorem dX5_start_34 : decode cX5_start 34 = .ok (.aload_n 0, 1) := by decide +kernel
theorem dX5_start_35 : decode cX5_start 35 = .ok (.getfield 89, 3) := by decide +kernel
theorem dX5_start_38 : decode cX5_start 38 = .ok (.ifCond .le 5, 3) := by decide +kernel
theorem dX5_start_41 : decode cX5_start 41 = .ok (.iconst 0, 1) := by decide +kernel
theorem dX5_start_42 : decode cX5_start 42 = .ok (.ireturn, 1) := by decide +kernel
theorem dX5_start_43 : decode cX5_start 43 = .ok (.aload_n 0, 1) := by decide +kernel
theorem dX5_start_44 : decode cX5_start 44 = .ok (.getfield 25, 3) := by decide +kernel
theorem dX5_start_47 : decode cX5_start 47 = .ok (.iload_n 1, 1) := by decide +kernel
theorem dX5_start_48 : decode cX5_start 48 = .ok (.iaload, 1) := by decide +kernel
theorem dX5_start_49 : decode cX5_start 49 = .ok (.istore_n 3, 1) := by decide +kernel
theorem dX5_start_50 : decode cX5_start 50 = .ok (.aload_n 0, 1) := by decide +kernel
theorem dX5_start_51 : decode cX5_start 51 = .ok (.getfield 25, 3) := by decide +kernel
theorem dX5_start_54 : decode cX5_start 54 = .ok (.iload_n 1, 1) := by decide +kernel
theorem dX5_start_55 : decode cX5_start 55 = .ok (.iload_n 2, 1) := by decide +kernel
theorem dX5_start_56 : decode cX5_start 56 = .ok (.iastore, 1) := by decide +kernel
theorem dX5_start_57 : decode cX5_start 57 = .ok (.aload_n 0, 1) := by decide +kernel
theorem dX5_start_58 : decode cX5_start 58 = .ok (.getfield 28, 3) := by decide +kernel
theorem dX5_start_61 : decode cX5_start 61 = .ok (.iload_n 1, 1) := by decide +kernel
theorem dX5_start_62 : decode cX5_start 62 = .ok (.iconst 0, 1) := by decide +kernel
theorem dX5_start_63 : decode cX5_start 63 = .ok (.bastore, 1) := by decide +kernel
theorem dX5_start_64 : decode cX5_start 64 = .ok (.aload_n 0, 1) := by decide +kernel
theorem dX5_start_65 : decode cX5_start 65 = .ok (.iload_n 1, 1) := by decide +kernel
theorem dX5_start_66 : decode cX5_start 66 = .ok (.invokevirtual 109, 3) := by decide +kernel
theorem dX5_start_69 : decode cX5_start 69 = .ok (.iload_n 3, 1) := by decide +kernel
theorem dX5_start_70 : decode cX5_start 70 = .ok (.ireturn, 1) := by decide +kernel
theorem dX5_get_0 : decode cX5_get 0 = .ok (.iload_n 2, 1) := by decide +kernel
theorem dX5_get_1 : decode cX5_get 1 = .ok (.ifCond .ne 7, 3) := by decide +kernel
theorem dX5_get_4 : decode cX5_get 4 = .ok (.iconst 0, 1) := by decide +kernel
theorem dX5_get_5 : decode cX5_get 5 = .ok (.goto 14, 3) := by decide +kernel
theorem dX5_get_8 : decode cX5_get 8 = .ok (.aload_n 0, 1) := by decide +kernel
theorem dX5_get_9 : decode cX5_get 9 = .ok (.getfield 35, 3) := by decide +kernel
theorem dX5_get_12 : decode cX5_get 12 = .ok (.bipush 8, 2) := by decide +kernel
theorem dX5_get_14 : decode cX5_get 14 = .ok (.iload_n 1, 1) := by decide +kernel
theorem dX5_get_15 : decode cX5_get 15 = .ok (.imul, 1) := by decide +kernel
theorem dX5_get_16 : decode cX5_get 16 = .ok (.iload_n 2, 1) := by decide +kernel
theorem dX5_get_17 : decode cX5_get 17 = .ok (.iadd, 1) := by decide +kernel
theorem dX5_get_18 : decode cX5_get 18 = .ok (.iaload, 1) := by decide +kernel
theorem dX5_get_19 : decode cX5_get 19 = .ok (.ireturn, 1) := by decide +kernel
theorem dX5_give_0 : decode cX5_give 0 = .ok (.iload_n 2, 1) := by decide +kernel
theorem dX5_give_1 : decode cX5_give 1 = .ok (.ifCond .eq 15, 3) := by decide +kernel
theorem dX5_give_4 : decode cX5_give 4 = .ok (.aload_n 0, 1) := by decide +kernel
theorem dX5_give_5 : decode cX5_give 5 = .ok (.getfield 35, 3) := by decide +kernel
theorem dX5_give_8 : decode cX5_give 8 = .ok (.bipush 8, 2) := by decide +kernel
theorem dX5_give_10 : decode cX5_give 10 = .ok (.iload_n 1, 1) := by decide +kernel
theorem dX5_give_11 : decode cX5_give 11 = .ok (.imul, 1) := by decide +kernel
theorem dX5_give_12 : decode cX5_give 12 = .ok (.iload_n 2, 1) := by decide +kernel
theorem dX5_give_13 : decode cX5_give 13 = .ok (.iadd, 1) := by decide +kernel
theorem dX5_give_14 : decode cX5_give 14 = .ok (.iload_n 3, 1) := by decide +kernel
theorem dX5_give_15 : decode cX5_give 15 = .ok (.iastore, 1) := by decide +kernel
theorem dX5_give_16 : decode cX5_give 16 = .ok (.return_, 1) := by decide +kernel
set_option maxRecDepth 20000 in
theorem ggX5_set_X5_isIn : GoodIn wsX5_set wsX5_isIn := goodIn_r _ [6] (by decide +kernel) (by decide +kernel)
set_option maxRecDepth 20000 in
theorem gX5_set_X5_isIn : GoodIn wsX5_set (va_wsS RX5 92 yX5_isIn wsX5_isIn) := goodIn_app (goodIn_of _ (by decide +kernel)) ggX5_set_X5_isIn
set_option maxRecDepth 20000 in
theorem ggX5_set_X5_get : GoodIn wsX5_set wsX5_get := goodIn_r _ [10, 11, 16, 17, 18, 19, 20, 21, 22, 23, 24, 25, 26, 27, 28, 29, 30, 31, 32, 33, 34, 35, 36, 37, 38, 39, 40, 41, 42, 43, 44] (by decide +kernel) (by decide +kernel)
set_option maxRecDepth 20000 in
theorem gX5_set_X5_get : GoodIn wsX5_set (wsV RX5 113 RX5 yX5_get wsX5_get) := goodIn_app (goodIn_of _ (by decide +kernel)) ggX5_set_X5_get
set_option maxRecDepth 20000 in
theorem ggX5_set_X5_give : GoodIn wsX5_set wsX5_give := goodIn_r _ [15, 11, 16, 17, 18, 19, 20, 21, 22, 23, 24, 25, 26, 27, 28, 29, 30, 31, 32, 33, 34, 35, 36, 37, 38, 39, 40, 41, 42, 43, 44] (by decide +kernel) (by decide +kernel)
set_option maxRecDepth 20000 in
theorem gX5_set_X5_give : GoodIn wsX5_set (wsV RX5 117 RX5 yX5_give wsX5_give) := goodIn_app (goodIn_of _ (by decide +kernel)) ggX5_set_X5_give
theorem dX5_set_0 : decode cX5_set 0 = .ok (.aload_n 0, 1) := by decide +kernel
theorem dX5_set_1 : decode cX5_set 1 = .ok (.iload_n 1, 1) := by decide +kernel
theorem dX5_set_2 : decode cX5_set 2 = .ok (.aload_n 0, 1) := by decide +kernel
theorem dX5_set_3 : decode cX5_set 3 = .ok (.getfield 79, 3) := by decide +kernel
theorem dX5_set_6 : decode cX5_set 6 = .ok (.invokestatic 92, 3) := by decide +kernel
theorem dX5_set_9 : decode cX5_set 9 = .ok (.ifCond .eq 16, 3) := by decide +kernel
theorem dX5_set_12 : decode cX5_set 12 = .ok (.iload_n 2, 1) := by decide +kernel
theorem dX5_set_13 : decode cX5_set 13 = .ok (.bipush 8, 2) := by decide +kernel
theorem dX5_set_15 : decode cX5_set 15 = .ok (.invokestatic 92, 3) := by decide +kernel
theorem dX5_set_18 : decode cX5_set 18 = .ok (.ifCond .eq 7, 3) := by decide +kernel
theorem dX5_set_21 : decode cX5_set 21 = .ok (.iconst 0, 1) := by decide +kernel
theorem dX5_set_22 : decode cX5_set 22 = .ok (.goto 4, 3) := by decide +kernel
theorem dX5_set_25 : decode cX5_set 25 = .ok (.iconst 1, 1) := by decide +kernel
theorem dX5_set_26 : decode cX5_set 26 = .ok (.putfield 89, 3) := by decide +kernel
theorem dX5_set_29 : decode cX5_set 29 = .ok (.aload_n 0, 1) := by decide +kernel
theorem dX5_set_30 : decode cX5_set 30 = .ok (.getfield 89, 3) := by decide +kernel
theorem dX5_set_33 : decode cX5_set 33 = .ok (.ifCond .le 5, 3) := by decide +kernel
theorem dX5_set_36 : decode cX5_set 36 = .ok (.iconst 0, 1) := by decide +kernel
theorem dX5_set_37 : decode cX5_set 37 = .ok (.ireturn, 1) := by decide +kernel
theorem dX5_set_38 : decode cX5_set 38 = .ok (.aload_n 0, 1) := by decide +kernel
theorem dX5_set_39 : decode cX5_set 39 = .ok (.iload_n 1, 1) := by decide +kernel
theorem dX5_set_40 : decode cX5_set 40 = .ok (.iload_n 2, 1) := by decide +kernel
theorem dX5_set_41 : decode cX5_set 41 = .ok (.invokevirtual 113, 3) := by decide +kernel
theorem dX5_set_44 : decode cX5_set 44 = .ok (.istore 4, 2) := by decide +kernel
theorem dX5_set_46 : decode cX5_set 46 = .ok (.aload_n 0, 1) := by decide +kernel
theorem dX5_set_47 : decode cX5_set 47 = .ok (.iload_n 1, 1) := by decide +kernel
theorem dX5_set_48 : decode cX5_set 48 = .ok (.iload_n 2, 1) := by decide +kernel
theorem dX5_set_49 : decode cX5_set 49 = .ok (.iload_n 3, 1) := by decide +kernel
theorem dX5_set_50 : decode cX5_set 50 = .ok (.invokevirtual 117, 3) := by decide +kernel
theorem dX5_set_53 : decode cX5_set 53 = .ok (.iload 4, 2) := by decide +kernel
theorem dX5_set_55 : decode cX5_set 55 = .ok (.ireturn, 1) := by decide +kernel
set_option maxRecDepth 20000 in
theorem ggX5_breakOff_X5_leave : GoodIn wsX5_breakOff wsX5_leave := goodIn_r _ [14, 15, 4, 16, 17, 18, 19, 20, 21, 22, 23, 24, 25, 26, 27, 28, 29, 30, 31, 32, 33, 34, 35, 36, 37, 38, 39, 40, 41, 42, 43, 44, 45, 46, 47] (by decide +kernel) (by decide +kernel)
set_option maxRecDepth 20000 in
theorem gX5_breakOff_X5_leave : GoodIn wsX5_breakOff (wsV RX5 109 RX5 yX5_leave wsX5_leave) := goodIn_app (goodIn_of _ (by decide +kernel)) ggX5_breakOff_X5_leave
theorem dX5_breakOff_0 : decode cX5_breakOff 0 = .ok (.aload_n 0, 1) := by decide +kernel
theorem dX5_breakOff_1 : decode cX5_breakOff 1 = .ok (.getfield 121, 3) := by decide +kernel
theorem dX5_breakOff_4 : decode cX5_breakOff 4 = .ok (.bipush 100, 2) := by decide +kernel
theorem dX5_breakOff_6 : decode cX5_breakOff 6 = .ok (.if_icmp .ne 42, 3) := by decide +kernel
theorem dX5_breakOff_9 : decode cX5_breakOff 9 = .ok (.iconst 0, 1) := by decide +kernel
theorem dX5_breakOff_10 : decode cX5_breakOff 10 = .ok (.istore_n 3, 1) := by decide +kernel
theorem dX5_breakOff_11 : decode cX5_breakOff 11 = .ok (.iload_n 3, 1) := by decide +kernel
theorem dX5_breakOff_12 : decode cX5_breakOff 12 = .ok (.sipush 396, 3) := by decide +kernel
theorem dX5_breakOff_15 : decode cX5_breakOff 15 = .ok (.if_icmp .ge 23, 3) := by decide +kernel
theorem dX5_breakOff_18 : decode cX5_breakOff 18 = .ok (.aload_n 0, 1) := by decide +kernel
theorem dX5_breakOff_19 : decode cX5_breakOff 19 = .ok (.getfield 72, 3) := by decide +kernel
theorem dX5_breakOff_22 : decode cX5_breakOff 22 = .ok (.iload_n 3, 1) := by decide +kernel
theorem dX5_breakOff_23 : decode cX5_breakOff 23 = .ok (.aload_n 0, 1) := by decide +kernel
theorem dX5_breakOff_24 : decode cX5_breakOff 24 = .ok (.getfield 72, 3) := by decide +kernel
theorem dX5_breakOff_27 : decode cX5_breakOff 27 = .ok (.iload_n 3, 1) := by decide +kernel
theorem dX5_breakOff_28 : decode cX5_breakOff 28 = .ok (.iconst 4, 1) := by decide +kernel
theorem dX5_breakOff_29 : decode cX5_breakOff 29 = .ok (.iadd, 1) := by decide +kernel
theorem dX5_breakOff_30 : decode cX5_breakOff 30 = .ok (.iaload, 1) := by decide +kernel
theorem dX5_breakOff_31 : decode cX5_breakOff 31 = .ok (.iastore, 1) := by decide +kernel
theorem dX5_breakOff_32 : decode cX5_breakOff 32 = .ok (.iinc 3 1, 3) := by decide +kernel
theorem dX5_breakOff_35 : decode cX5_breakOff 35 = .ok (.goto (-24), 3) := by decide +kernel
theorem dX5_breakOff_38 : decode cX5_breakOff 38 = .ok (.aload_n 0, 1) := by decide +kernel
theorem dX5_breakOff_39 : decode cX5_breakOff 39 = .ok (.dup, 1) := by decide +kernel
theorem dX5_breakOff_40 : decode cX5_breakOff 40 = .ok (.getfield 121, 3) := by decide +kernel
theorem dX5_breakOff_43 : decode cX5_breakOff 43 = .ok (.iconst 1, 1) := by decide +kernel
theorem dX5_breakOff_44 : decode cX5_breakOff 44 = .ok (.isub, 1) := by decide +kernel
theorem dX5_breakOff_45 : decode cX5_breakOff 45 = .ok (.putfield 121, 3) := by decide +kernel
theorem dX5_breakOff_48 : decode cX5_breakOff 48 = .ok (.aload_n 0, 1) := by decide +kernel
theorem dX5_breakOff_49 : decode cX5_breakOff 49 = .ok (.getfield 72, 3) := by decide +kernel
theorem dX5_breakOff_52 : decode cX5_breakOff 52 = .ok (.iconst 4, 1) := by decide +kernel
theorem dX5_breakOff_53 : decode cX5_breakOff 53 = .ok (.aload_n 0, 1) := by decide +kernel
theorem dX5_breakOff_54 : decode cX5_breakOff 54 = .ok (.getfield 121, 3) := by decide +kernel
theorem dX5_breakOff_57 : decode cX5_breakOff 57 = .ok (.imul, 1) := by decide +kernel
theorem dX5_breakOff_58 : decode cX5_breakOff 58 = .ok (.iload_n 1, 1) := by decide +kernel
theorem dX5_breakOff_59 : decode cX5_breakOff 59 = .ok (.iastore, 1) := by decide +kernel
theorem dX5_breakOff_60 : decode cX5_breakOff 60 = .ok (.aload_n 0, 1) := by decide +kernel
theorem dX5_breakOff_61 : decode cX5_breakOff 61 = .ok (.getfield 72, 3) := by decide +kernel
theorem dX5_breakOff_64 : decode cX5_breakOff 64 = .ok (.iconst 4, 1) := by decide +kernel
theorem dX5_breakOff_65 : decode cX5_breakOff 65 = .ok (.aload_n 0, 1) := by decide +kernel
theorem dX5_breakOff_66 : decode cX5_breakOff 66 = .ok (.getfield 121, 3) := by decide +kernel
theorem dX5_breakOff_69 : decode cX5_breakOff 69 = .ok (.imul, 1) := by decide +kernel
theorem dX5_breakOff_70 : decode cX5_breakOff 70 = .ok (.iconst 1, 1) := by decide +kernel
theorem dX5_breakOff_71 : decode cX5_breakOff 71 = .ok (.iadd, 1) := by decide +kernel
theorem dX5_breakOff_72 : decode cX5_breakOff 72 = .ok (.aload_n 0, 1) := by decide +kernel
theorem dX5_breakOff_73 : decode cX5_breakOff 73 = .ok (.getfield 44, 3) := by decide +kernel
theorem dX5_breakOff_76 : decode cX5_breakOff 76 = .ok (.iload_n 1, 1) := by decide +kernel
theorem dX5_breakOff_77 : decode cX5_breakOff 77 = .ok (.iaload, 1) := by decide +kernel
theorem dX5_breakOff_78 : decode cX5_breakOff 78 = .ok (.iastore, 1) := by decide +kernel
theorem dX5_breakOff_79 : decode cX5_breakOff 79 = .ok (.aload_n 0, 1) := by decide +kernel
theorem dX5_breakOff_80 : decode cX5_breakOff 80 = .ok (.getfield 72, 3) := by decide +kernel
theorem dX5_breakOff_83 : decode cX5_breakOff 83 = .ok (.iconst 4, 1) := by decide +kernel
theorem dX5_breakOff_84 : decode cX5_breakOff 84 = .ok (.aload_n 0, 1) := by decide +kernel
theorem dX5_breakOff_85 : decode cX5_breakOff 85 = .ok (.getfield 121, 3) := by decide +kernel
theorem dX5_breakOff_88 : decode cX5_breakOff 88 = .ok (.imul, 1) := by decide +kernel
theorem dX5_breakOff_89 : decode cX5_breakOff 89 = .ok (.iconst 2, 1) := by decide +kernel
theorem dX5_breakOff_90 : decode cX5_breakOff 90 = .ok (.iadd, 1) := by decide +kernel
theorem dX5_breakOff_91 : decode cX5_breakOff 91 = .ok (.iload_n 2, 1) := by decide +kernel
theorem dX5_breakOff_92 : decode cX5_breakOff 92 = .ok (.iastore, 1) := by decide +kernel
theorem dX5_breakOff_93 : decode cX5_breakOff 93 = .ok (.aload_n 0, 1) := by decide +kernel
theorem dX5_breakOff_94 : decode cX5_breakOff 94 = .ok (.getfield 72, 3) := by decide +kernel
theorem dX5_breakOff_97 : decode cX5_breakOff 97 = .ok (.iconst 4, 1) := by decide +kernel
theorem dX5_breakOff_98 : decode cX5_breakOff 98 = .ok (.aload_n 0, 1) := by decide +kernel
theorem dX5_breakOff_99 : decode cX5_breakOff 99 = .ok (.getfield 121, 3) := by decide +kernel
theorem dX5_breakOff_102 : decode cX5_breakOff 102 = .ok (.imul, 1) := by decide +kernel
theorem dX5_breakOff_103 : decode cX5_breakOff 103 = .ok (.iconst 3, 1) := by decide +kernel
theorem dX5_breakOff_104 : decode cX5_breakOff 104 = .ok (.iadd, 1) := by decide +kernel
theorem dX5_breakOff_105 : decode cX5_breakOff 105 = .ok (.aload_n 0, 1) := by decide +kernel
theorem dX5_breakOff_106 : decode cX5_breakOff 106 = .ok (.getfield 41, 3) := by decide +kernel
theorem dX5_breakOff_109 : decode cX5_breakOff 109 = .ok (.iload_n 1, 1) := by decide +kernel
theorem dX5_breakOff_110 : decode cX5_breakOff 110 = .ok (.iaload, 1) := by decide +kernel
theorem dX5_breakOff_111 : decode cX5_breakOff 111 = .ok (.iastore, 1) := by decide +kernel
theorem dX5_breakOff_112 : decode cX5_breakOff 112 = .ok (.aload_n 0, 1) := by decide +kernel
theorem dX5_breakOff_113 : decode cX5_breakOff 113 = .ok (.dup, 1) := by decide +kernel
theorem dX5_breakOff_114 : decode cX5_breakOff 114 = .ok (.getfield 121, 3) := by decide +kernel
theorem dX5_breakOff_117 : decode cX5_breakOff 117 = .ok (.iconst 1, 1) := by decide +kernel
theorem dX5_breakOff_118 : decode cX5_breakOff 118 = .ok (.iadd, 1) := by decide +kernel
theorem dX5_breakOff_119 : decode cX5_breakOff 119 = .ok (.putfield 121, 3) := by decide +kernel
theorem dX5_breakOff_122 : decode cX5_breakOff 122 = .ok (.iconst 1, 1) := by decide +kernel
theorem dX5_breakOff_123 : decode cX5_breakOff 123 = .ok (.istore_n 3, 1) := by decide +kernel
theorem dX5_breakOff_124 : decode cX5_breakOff 124 = .ok (.iload_n 3, 1) := by decide +kernel
theorem dX5_breakOff_125 : decode cX5_breakOff 125 = .ok (.bipush 8, 2) := by decide +kernel
theorem dX5_breakOff_127 : decode cX5_breakOff 127 = .ok (.if_icmp .ge 31, 3) := by decide +kernel
theorem dX5_breakOff_130 : decode cX5_breakOff 130 = .ok (.aload_n 0, 1) := by decide +kernel
theorem dX5_breakOff_131 : decode cX5_breakOff 131 = .ok (.getfield 35, 3) := by decide +kernel
theorem dX5_breakOff_134 : decode cX5_breakOff 134 = .ok (.bipush 8, 2) := by decide +kernel
theorem dX5_breakOff_136 : decode cX5_breakOff 136 = .ok (.iload_n 1, 1) := by decide +kernel
theorem dX5_breakOff_137 : decode cX5_breakOff 137 = .ok (.imul, 1) := by decide +kernel
theorem dX5_breakOff_138 : decode cX5_breakOff 138 = .ok (.iload_n 3, 1) := by decide +kernel
theorem dX5_breakOff_139 : decode cX5_breakOff 139 = .ok (.iadd, 1) := by decide +kernel
theorem dX5_breakOff_140 : decode cX5_breakOff 140 = .ok (.aload_n 0, 1) := by decide +kernel
theorem dX5_breakOff_141 : decode cX5_breakOff 141 = .ok (.getfield 50, 3) := by decide +kernel
theorem dX5_breakOff_144 : decode cX5_breakOff 144 = .ok (.bipush 8, 2) := by decide +kernel
theorem dX5_breakOff_146 : decode cX5_breakOff 146 = .ok (.iload_n 1, 1) := by decide +kernel
theorem dX5_breakOff_147 : decode cX5_breakOff 147 = .ok (.imul, 1) := by decide +kernel
theorem dX5_breakOff_148 : decode cX5_breakOff 148 = .ok (.iload_n 3, 1) := by decide +kernel
theorem dX5_breakOff_149 : decode cX5_breakOff 149 = .ok (.iadd, 1) := by decide +kernel
theorem dX5_breakOff_150 : decode cX5_breakOff 150 = .ok (.iaload, 1) := by decide +kernel
theorem dX5_breakOff_151 : decode cX5_breakOff 151 = .ok (.iastore, 1) := by decide +kernel
theorem dX5_breakOff_152 : decode cX5_breakOff 152 = .ok (.iinc 3 1, 3) := by decide +kernel
theorem dX5_breakOff_155 : decode cX5_breakOff 155 = .ok (.goto (-31), 3) := by decide +kernel
theorem dX5_breakOff_158 : decode cX5_breakOff 158 = .ok (.aload_n 0, 1) := by decide +kernel
theorem dX5_breakOff_159 : decode cX5_breakOff 159 = .ok (.getfield 35, 3) := by decide +kernel
theorem dX5_breakOff_162 : decode cX5_breakOff 162 = .ok (.bipush 8, 2) := by decide +kernel
theorem dX5_breakOff_164 : decode cX5_breakOff 164 = .ok (.iload_n 1, 1) := by decide +kernel
theorem dX5_breakOff_165 : decode cX5_breakOff 165 = .ok (.imul, 1) := by decide +kernel
theorem dX5_breakOff_166 : decode cX5_breakOff 166 = .ok (.iconst 1, 1) := by decide +kernel
theorem dX5_breakOff_167 : decode cX5_breakOff 167 = .ok (.iadd, 1) := by decide +kernel
theorem dX5_breakOff_168 : decode cX5_breakOff 168 = .ok (.iload_n 2, 1) := by decide +kernel
theorem dX5_breakOff_169 : decode cX5_breakOff 169 = .ok (.iastore, 1) := by decide +kernel
theorem dX5_breakOff_170 : decode cX5_breakOff 170 = .ok (.aload_n 0, 1) := by decide +kernel
theorem dX5_breakOff_171 : decode cX5_breakOff 171 = .ok (.getfield 25, 3) := by decide +kernel
theorem dX5_breakOff_174 : decode cX5_breakOff 174 = .ok (.iload_n 1, 1) := by decide +kernel
theorem dX5_breakOff_175 : decode cX5_breakOff 175 = .ok (.aload_n 0, 1) := by decide +kernel
theorem dX5_breakOff_176 : decode cX5_breakOff 176 = .ok (.getfield 47, 3) := by decide +kernel
theorem dX5_breakOff_179 : decode cX5_breakOff 179 = .ok (.iload_n 1, 1) := by decide +kernel
theorem dX5_breakOff_180 : decode cX5_breakOff 180 = .ok (.iaload, 1) := by decide +kernel
theorem dX5_breakOff_181 : decode cX5_breakOff 181 = .ok (.iastore, 1) := by decide +kernel
theorem dX5_breakOff_182 : decode cX5_breakOff 182 = .ok (.aload_n 0, 1) := by decide +kernel
theorem dX5_breakOff_183 : decode cX5_breakOff 183 = .ok (.getfield 69, 3) := by decide +kernel
theorem dX5_breakOff_186 : decode cX5_breakOff 186 = .ok (.iload_n 1, 1) := by decide +kernel
theorem dX5_breakOff_187 : decode cX5_breakOff 187 = .ok (.dup2, 1) := by decide +kernel
theorem dX5_breakOff_188 : decode cX5_breakOff 188 = .ok (.iaload, 1) := by decide +kernel
theorem dX5_breakOff_189 : decode cX5_breakOff 189 = .ok (.iconst 1, 1) := by decide +kernel
theorem dX5_breakOff_190 : decode cX5_breakOff 190 = .ok (.iadd, 1) := by decide +kernel
theorem dX5_breakOff_191 : decode cX5_breakOff 191 = .ok (.iastore, 1) := by decide +kernel
theorem dX5_breakOff_192 : decode cX5_breakOff 192 = .ok (.aload_n 0, 1) := by decide +kernel
theorem dX5_breakOff_193 : decode cX5_breakOff 193 = .ok (.iload_n 1, 1) := by decide +kernel
theorem dX5_breakOff_194 : decode cX5_breakOff 194 = .ok (.invokevirtual 109, 3) := by decide +kernel
theorem dX5_breakOff_197 : decode cX5_breakOff 197 = .ok (.return_, 1) := by decide +kernel
set_option maxRecDepth 20000 in
theorem ggX5_breakOthers_X5_meets : GoodIn wsX5_breakOthers wsX5_meets := goodIn_r _ [6, 7, 8, 9, 28, 29, 30, 31, 32, 33, 34, 35, 36, 37, 38, 39, 40, 41, 42, 43, 44, 45, 46, 47, 48, 49, 50, 51, 52, 53, 54, 55, 56] (by decide +kernel) (by decide +kernel)
set_option maxRecDepth 20000 in
theorem gX5_breakOthers_X5_meets : GoodIn wsX5_breakOthers (wsV RX5 124 RX5 yX5_meets wsX5_meets) := goodIn_app (goodIn_of _ (by decide +kernel)) ggX5_breakOthers_X5_meets
set_option maxRecDepth 20000 in
theorem ggX5_breakOthers_X5_breakOff : GoodIn wsX5_breakOthers wsX5_breakOff := goodIn_r _ [13, 14, 15, 16, 17, 18, 19, 20, 21, 22, 23, 24, 25, 5, 26, 9, 7, 8, 27, 28, 29, 30, 31, 32, 33, 34, 35, 36, 37, 38, 39, 40, 41, 42, 43, 44, 45, 46, 47, 48, 49, 50, 51, 52, 53, 54, 55, 56] (by decide +kernel) (by decide +kernel)
set_option maxRecDepth 20000 in
theorem gX5_breakOthers_X5_breakOff : GoodIn wsX5_breakOthers (wsV RX5 128 RX5 yX5_breakOff wsX5_breakOff) := goodIn_app (goodIn_of _ (by decide +kernel)) ggX5_breakOthers_X5_breakOff
theorem dX5_breakOthers_0 : decode cX5_breakOthers 0 = .ok (.iconst 0, 1) := by decide +kernel
theorem dX5_breakOthers_1 : decode cX5_breakOthers 1 = .ok (.istore 4, 2) := by decide +kernel
theorem dX5_breakOthers_3 : decode cX5_breakOthers 3 = .ok (.iload 4, 2) := by decide +kernel
theorem dX5_breakOthers_5 : decode cX5_breakOthers 5 = .ok (.aload_n 0, 1) := by decide +kernel
theorem dX5_breakOthers_6 : decode cX5_breakOthers 6 = .ok (.getfield 79, 3) := by decide +kernel
theorem dX5_breakOthers_9 : decode cX5_breakOthers 9 = .ok (.if_icmp .ge 33, 3) := by decide +kernel
theorem dX5_breakOthers_12 : decode cX5_breakOthers 12 = .ok (.iload 4, 2) := by decide +kernel
theorem dX5_breakOthers_14 : decode cX5_breakOthers 14 = .ok (.iload_n 1, 1) := by decide +kernel
theorem dX5_breakOthers_15 : decode cX5_breakOthers 15 = .ok (.if_icmp .eq 21, 3) := by decide +kernel
theorem dX5_breakOthers_18 : decode cX5_breakOthers 18 = .ok (.aload_n 0, 1) := by decide +kernel
theorem dX5_breakOthers_19 : decode cX5_breakOthers 19 = .ok (.iload 4, 2) := by decide +kernel
theorem dX5_breakOthers_21 : decode cX5_breakOthers 21 = .ok (.iload_n 2, 1) := by decide +kernel
theorem dX5_breakOthers_22 : decode cX5_breakOthers 22 = .ok (.iload_n 3, 1) := by decide +kernel
theorem dX5_breakOthers_23 : decode cX5_breakOthers 23 = .ok (.invokevirtual 124, 3) := by decide +kernel
theorem dX5_breakOthers_26 : decode cX5_breakOthers 26 = .ok (.ifCond .eq 10, 3) := by decide +kernel
theorem dX5_breakOthers_29 : decode cX5_breakOthers 29 = .ok (.aload_n 0, 1) := by decide +kernel
theorem dX5_breakOthers_30 : decode cX5_breakOthers 30 = .ok (.iload 4, 2) := by decide +kernel
theorem dX5_breakOthers_32 : decode cX5_breakOthers 32 = .ok (.iconst 4, 1) := by decide +kernel
theorem dX5_breakOthers_33 : decode cX5_breakOthers 33 = .ok (.invokevirtual 128, 3) := by decide +kernel
theorem dX5_breakOthers_36 : decode cX5_breakOthers 36 = .ok (.iinc 4 1, 3) := by decide +kernel
theorem dX5_breakOthers_39 : decode cX5_breakOthers 39 = .ok (.goto (-36), 3) := by decide +kernel
theorem dX5_breakOthers_42 : decode cX5_breakOthers 42 = .ok (.return_, 1) := by decide +kernel
theorem dX5_meets_0 : decode cX5_meets 0 = .ok (.iload_n 3, 1) := by decide +kernel
theorem dX5_meets_1 : decode cX5_meets 1 = .ok (.ifCond .eq 19, 3) := by decide +kernel
theorem dX5_meets_4 : decode cX5_meets 4 = .ok (.aload_n 0, 1) := by decide +kernel
theorem dX5_meets_5 : decode cX5_meets 5 = .ok (.getfield 53, 3) := by decide +kernel
theorem dX5_meets_8 : decode cX5_meets 8 = .ok (.iload_n 1, 1) := by decide +kernel
theorem dX5_meets_9 : decode cX5_meets 9 = .ok (.iaload, 1) := by decide +kernel
theorem dX5_meets_10 : decode cX5_meets 10 = .ok (.aload_n 0, 1) := by decide +kernel
theorem dX5_meets_11 : decode cX5_meets 11 = .ok (.getfield 56, 3) := by decide +kernel
theorem dX5_meets_14 : decode cX5_meets 14 = .ok (.iload_n 1, 1) := by decide +kernel
theorem dX5_meets_15 : decode cX5_meets 15 = .ok (.iaload, 1) := by decide +kernel
theorem dX5_meets_16 : decode cX5_meets 16 = .ok (.ior, 1) := by decide +kernel
theorem dX5_meets_17 : decode cX5_meets 17 = .ok (.goto 9, 3) := by decide +kernel
theorem dX5_meets_20 : decode cX5_meets 20 = .ok (.aload_n 0, 1) := by decide +kernel
theorem dX5_meets_21 : decode cX5_meets 21 = .ok (.getfield 56, 3) := by decide +kernel
theorem dX5_meets_24 : decode cX5_meets 24 = .ok (.iload_n 1, 1) := by decide +kernel
theorem dX5_meets_25 : decode cX5_meets 25 = .ok (.iaload, 1) := by decide +kernel
theorem dX5_meets_26 : decode cX5_meets 26 = .ok (.istore 4, 2) := by decide +kernel
theorem dX5_meets_28 : decode cX5_meets 28 = .ok (.aload_n 0, 1) := by decide +kernel
theorem dX5_meets_29 : decode cX5_meets 29 = .ok (.getfield 38, 3) := by decide +kernel
theorem dX5_meets_32 : decode cX5_meets 32 = .ok (.iload_n 1, 1) := by decide +kernel
theorem dX5_meets_33 : decode cX5_meets 33 = .ok (.iaload, 1) := by decide +kernel
theorem dX5_meets_34 : decode cX5_meets 34 = .ok (.ifCond .le 17, 3) := by decide +kernel
theorem dX5_meets_37 : decode cX5_meets 37 = .ok (.iload 4, 2) := by decide +kernel
theorem dX5_meets_39 : decode cX5_meets 39 = .ok (.iload_n 2, 1) := by decide +kernel
theorem dX5_meets_40 : decode cX5_meets 40 = .ok (.ishr, 1) := by decide +kernel
theorem dX5_meets_41 : decode cX5_meets 41 = .ok (.iconst 1, 1) := by decide +kernel
theorem dX5_meets_42 : decode cX5_meets 42 = .ok (.iand, 1) := by decide +kernel
theorem dX5_meets_43 : decode cX5_meets 43 = .ok (.iconst 1, 1) := by decide +kernel
theorem dX5_meets_44 : decode cX5_meets 44 = .ok (.if_icmp .ne 7, 3) := by decide +kernel
theorem dX5_meets_47 : decode cX5_meets 47 = .ok (.iconst 1, 1) := by decide +kernel
theorem dX5_meets_48 : decode cX5_meets 48 = .ok (.goto 4, 3) := by decide +kernel
theorem dX5_meets_51 : decode cX5_meets 51 = .ok (.iconst 0, 1) := by decide +kernel
theorem dX5_meets_52 : decode cX5_meets 52 = .ok (.ireturn, 1) := by decide +kernel
set_option maxRecDepth 20000 in
theorem ggX5_poke_X5_isIn : GoodIn wsX5_poke wsX5_isIn := goodIn_r _ [6] (by decide +kernel) (by decide +kernel)
set_option maxRecDepth 20000 in
theorem gX5_poke_X5_isIn : GoodIn wsX5_poke (va_wsS RX5 92 yX5_isIn wsX5_isIn) := goodIn_app (goodIn_of _ (by decide +kernel)) ggX5_poke_X5_isIn
set_option maxRecDepth 20000 in
theorem ggX5_poke_X5_breakOthers : GoodIn wsX5_poke wsX5_breakOthers := goodIn_r _ [10, 11, 12, 13, 14, 5, 15, 16, 17, 18, 19, 20, 21, 22, 23, 24, 25, 26, 27, 28, 29, 30, 31, 32, 33, 34, 35, 36, 37, 38, 39, 40, 41, 42, 43, 44, 45, 46, 47, 48, 49, 50, 51, 52, 53, 54, 55, 56, 57, 58, 59, 60, 61, 62, 63, 64, 65] (by decide +kernel) (by decide +kernel)
set_option maxRecDepth 20000 in
theorem gX5_poke_X5_breakOthers : GoodIn wsX5_poke (wsV RX5 132 RX5 yX5_breakOthers wsX5_breakOthers) := goodIn_app (goodIn_of _ (by decide +kernel)) ggX5_poke_X5_breakOthers
theorem dX5_poke_0 : decode cX5_poke 0 = .ok (.aload_n 0, 1) := by decide +kernel
theorem dX5_poke_1 : decode cX5_poke 1 = .ok (.iload_n 1, 1) := by decide +kernel
theorem dX5_poke_2 : decode cX5_poke 2 = .ok (.bipush 64, 2) := by decide +kernel
theorem dX5_poke_4 : decode cX5_poke 4 = .ok (.invokestatic 92, 3) := by decide +kernel
theorem dX5_poke_7 : decode cX5_poke 7 = .ok (.ifCond .eq 7, 3) := by decide +kernel
theorem dX5_poke_10 : decode cX5_poke 10 = .ok (.iconst 0, 1) := by decide +kernel
theorem dX5_poke_11 : decode cX5_poke 11 = .ok (.goto 4, 3) := by decide +kernel
theorem dX5_poke_14 : decode cX5_poke 14 = .ok (.iconst 1, 1) := by decide +kernel
theorem dX5_poke_15 : decode cX5_poke 15 = .ok (.putfield 89, 3) := by decide +kernel
theorem dX5_poke_18 : decode cX5_poke 18 = .ok (.aload_n 0, 1) := by decide +kernel
theorem dX5_poke_19 : decode cX5_poke 19 = .ok (.getfield 89, 3) := by decide +kernel
theorem dX5_poke_22 : decode cX5_poke 22 = .ok (.ifCond .le 5, 3) := by decide +kernel
theorem dX5_poke_25 : decode cX5_poke 25 = .ok (.iconst 0, 1) := by decide +kernel
theorem dX5_poke_26 : decode cX5_poke 26 = .ok (.ireturn, 1) := by decide +kernel
theorem dX5_poke_27 : decode cX5_poke 27 = .ok (.aload_n 0, 1) := by decide +kernel
theorem dX5_poke_28 : decode cX5_poke 28 = .ok (.getfield 7, 3) := by decide +kernel
theorem dX5_poke_31 : decode cX5_poke 31 = .ok (.iload_n 1, 1) := by decide +kernel
theorem dX5_poke_32 : decode cX5_poke 32 = .ok (.iaload, 1) := by decide +kernel
theorem dX5_poke_33 : decode cX5_poke 33 = .ok (.istore_n 3, 1) := by decide +kernel
theorem dX5_poke_34 : decode cX5_poke 34 = .ok (.aload_n 0, 1) := by decide +kernel
theorem dX5_poke_35 : decode cX5_poke 35 = .ok (.iconst (-1), 1) := by decide +kernel
theorem dX5_poke_36 : decode cX5_poke 36 = .ok (.iload_n 1, 1) := by decide +kernel
theorem dX5_poke_37 : decode cX5_poke 37 = .ok (.iconst 4, 1) := by decide +kernel
theorem dX5_poke_38 : decode cX5_poke 38 = .ok (.idiv, 1) := by decide +kernel
theorem dX5_poke_39 : decode cX5_poke 39 = .ok (.iconst 1, 1) := by decide +kernel
theorem dX5_poke_40 : decode cX5_poke 40 = .ok (.invokevirtual 132, 3) := by decide +kernel
theorem dX5_poke_43 : decode cX5_poke 43 = .ok (.aload_n 0, 1) := by decide +kernel
theorem dX5_poke_44 : decode cX5_poke 44 = .ok (.getfield 7, 3) := by decide +kernel
theorem dX5_poke_47 : decode cX5_poke 47 = .ok (.iload_n 1, 1) := by decide +kernel
theorem dX5_poke_48 : decode cX5_poke 48 = .ok (.iload_n 2, 1) := by decide +kernel
theorem dX5_poke_49 : decode cX5_poke 49 = .ok (.iastore, 1) := by decide +kernel
theorem dX5_poke_50 : decode cX5_poke 50 = .ok (.iload_n 3, 1) := by decide +kernel
theorem dX5_poke_51 : decode cX5_poke 51 = .ok (.ireturn, 1) := by decide +kernel
theorem dX5_linesInSet_0 : decode cX5_linesInSet 0 = .ok (.iconst 0, 1) := by decide +kernel
theorem dX5_linesInSet_1 : decode cX5_linesInSet 1 = .ok (.istore_n 3, 1) := by decide +kernel
theorem dX5_linesInSet_2 : decode cX5_linesInSet 2 = .ok (.iload_n 2, 1) := by decide +kernel
theorem dX5_linesInSet_3 : decode cX5_linesInSet 3 = .ok (.aload_n 0, 1) := by decide +kernel
theorem dX5_linesInSet_4 : decode cX5_linesInSet 4 = .ok (.getfield 83, 3) := by decide +kernel
theorem dX5_linesInSet_7 : decode cX5_linesInSet 7 = .ok (.irem, 1) := by decide +kernel
theorem dX5_linesInSet_8 : decode cX5_linesInSet 8 = .ok (.istore 4, 2) := by decide +kernel
theorem dX5_linesInSet_10 : decode cX5_linesInSet 10 = .ok (.iload 4, 2) := by decide +kernel
theorem dX5_linesInSet_12 : decode cX5_linesInSet 12 = .ok (.bipush 16, 2) := by decide +kernel
theorem dX5_linesInSet_14 : decode cX5_linesInSet 14 = .ok (.if_icmp .ge 45, 3) := by decide +kernel
theorem dX5_linesInSet_17 : decode cX5_linesInSet 17 = .ok (.aload_n 0, 1) := by decide +kernel
theorem dX5_linesInSet_18 : decode cX5_linesInSet 18 = .ok (.getfield 53, 3) := by decide +kernel
theorem dX5_linesInSet_21 : decode cX5_linesInSet 21 = .ok (.iload_n 1, 1) := by decide +kernel
theorem dX5_linesInSet_22 : decode cX5_linesInSet 22 = .ok (.iaload, 1) := by decide +kernel
theorem dX5_linesInSet_23 : decode cX5_linesInSet 23 = .ok (.aload_n 0, 1) := by decide +kernel
theorem dX5_linesInSet_24 : decode cX5_linesInSet 24 = .ok (.getfield 56, 3) := by decide +kernel
theorem dX5_linesInSet_27 : decode cX5_linesInSet 27 = .ok (.iload_n 1, 1) := by decide +kernel
theorem dX5_linesInSet_28 : decode cX5_linesInSet 28 = .ok (.iaload, 1) := by decide +kernel
theorem dX5_linesInSet_29 : decode cX5_linesInSet 29 = .ok (.ior, 1) := by decide +kernel
theorem dX5_linesInSet_30 : decode cX5_linesInSet 30 = .ok (.iload 4, 2) := by decide +kernel
theorem dX5_linesInSet_32 : decode cX5_linesInSet 32 = .ok (.ishr, 1) := by decide +kernel
theorem dX5_linesInSet_33 : decode cX5_linesInSet 33 = .ok (.iconst 1, 1) := by decide +kernel
theorem dX5_linesInSet_34 : decode cX5_linesInSet 34 = .ok (.iand, 1) := by decide +kernel
theorem dX5_linesInSet_35 : decode cX5_linesInSet 35 = .ok (.iconst 1, 1) := by decide +kernel
theorem dX5_linesInSet_36 : decode cX5_linesInSet 36 = .ok (.if_icmp .ne 9, 3) := by decide +kernel
theorem dX5_linesInSet_39 : decode cX5_linesInSet 39 = .ok (.iload_n 3, 1) := by decide +kernel
theorem dX5_linesInSet_40 : decode cX5_linesInSet 40 = .ok (.iconst 1, 1) := by decide +kernel
theorem dX5_linesInSet_41 : decode cX5_linesInSet 41 = .ok (.iadd, 1) := by decide +kernel
theorem dX5_linesInSet_42 : decode cX5_linesInSet 42 = .ok (.goto 4, 3) := by decide +kernel
theorem dX5_linesInSet_45 : decode cX5_linesInSet 45 = .ok (.iload_n 3, 1) := by decide +kernel
theorem dX5_linesInSet_46 : decode cX5_linesInSet 46 = .ok (.istore_n 3, 1) := by decide +kernel
theorem dX5_linesInSet_47 : decode cX5_linesInSet 47 = .ok (.iload 4, 2) := by decide +kernel
theorem dX5_linesInSet_49 : decode cX5_linesInSet 49 = .ok (.aload_n 0, 1) := by decide +kernel
theorem dX5_linesInSet_50 : decode cX5_linesInSet 50 = .ok (.getfield 83, 3) := by decide +kernel
theorem dX5_linesInSet_53 : decode cX5_linesInSet 53 = .ok (.iadd, 1) := by decide +kernel
theorem dX5_linesInSet_54 : decode cX5_linesInSet 54 = .ok (.istore 4, 2) := by decide +kernel
theorem dX5_linesInSet_56 : decode cX5_linesInSet 56 = .ok (.goto (-46), 3) := by decide +kernel
theorem dX5_linesInSet_59 : decode cX5_linesInSet 59 = .ok (.iload_n 3, 1) := by decide +kernel
theorem dX5_linesInSet_60 : decode cX5_linesInSet 60 = .ok (.ireturn, 1) := by decide +kernel
set_option maxRecDepth 20000 in
theorem ggX5_comes_X5_meets : GoodIn wsX5_comes wsX5_meets := goodIn_r _ [11, 5, 4, 3, 38, 39, 40, 41, 42, 43, 44, 45, 46, 47, 48, 49, 50, 51, 52, 53, 54, 55, 56, 57, 58, 59, 60, 61, 62, 63, 64, 65, 66] (by decide +kernel) (by decide +kernel)
set_option maxRecDepth 20000 in
theorem gX5_comes_X5_meets : GoodIn wsX5_comes (wsV RX5 124 RX5 yX5_meets wsX5_meets) := goodIn_app (goodIn_of _ (by decide +kernel)) ggX5_comes_X5_meets
set_option maxRecDepth 20000 in
theorem ggX5_comes_X5_breakOff : GoodIn wsX5_comes wsX5_breakOff := goodIn_r _ [15, 16, 17, 18, 2, 19, 20, 21, 22, 23, 24, 25, 26, 10, 27, 3, 5, 4, 28, 38, 39, 40, 41, 42, 43, 44, 45, 46, 47, 48, 49, 50, 51, 52, 53, 54, 55, 56, 57, 58, 59, 60, 61, 62, 63, 64, 65, 66] (by decide +kernel) (by decide +kernel)
set_option maxRecDepth 20000 in
theorem gX5_comes_X5_breakOff : GoodIn wsX5_comes (wsV RX5 128 RX5 yX5_breakOff wsX5_breakOff) := goodIn_app (goodIn_of _ (by decide +kernel)) ggX5_comes_X5_breakOff
set_option maxRecDepth 20000 in
theorem ggX5_comes_X5_breakOthers : GoodIn wsX5_comes wsX5_breakOthers := goodIn_r _ [32, 1, 7, 8, 9, 10, 11, 5, 4, 3, 12, 13, 14, 15, 16, 17, 18, 2, 19, 20, 21, 22, 23, 24, 25, 26, 27, 28, 38, 39, 40, 41, 42, 43, 44, 45, 46, 47, 48, 49, 50, 51, 52, 53, 54, 55, 56, 57, 58, 59, 60, 61, 62, 63, 64, 65, 66] (by decide +kernel) (by decide +kernel)
set_option maxRecDepth 20000 in
theorem gX5_comes_X5_breakOthers : GoodIn wsX5_comes (wsV RX5 132 RX5 yX5_breakOthers wsX5_breakOthers) := goodIn_app (goodIn_of _ (by decide +kernel)) ggX5_comes_X5_breakOthers
set_option maxRecDepth 20000 in
theorem ggX5_comes_X5_linesInSet : GoodIn wsX5_comes wsX5_linesInSet := goodIn_r _ [36, 37, 5, 4, 38, 39, 40, 41, 42, 43, 44, 45, 46, 47, 48, 49, 50, 51, 52, 53, 54, 55, 56, 57, 58, 59, 60, 61, 62, 63, 64, 65, 66] (by decide +kernel) (by decide +kernel)
set_option maxRecDepth 20000 in
theorem gX5_comes_X5_linesInSet : GoodIn wsX5_comes (wsV RX5 136 RX5 yX5_linesInSet wsX5_linesInSet) := goodIn_app (goodIn_of _ (by decide +kernel)) ggX5_comes_X5_linesInSet
theorem dX5_comes_0 : decode cX5_comes 0 = .ok (.iload_n 2, 1) := by decide +kernel
theorem dX5_comes_1 : decode cX5_comes 1 = .ok (.iconst 4, 1) := by decide +kernel
theorem dX5_comes_2 : decode cX5_comes 2 = .ok (.idiv, 1) := by decide +kernel
theorem dX5_comes_3 : decode cX5_comes 3 = .ok (.istore 4, 2) := by decide +kernel
theorem dX5_comes_5 : decode cX5_comes 5 = .ok (.iconst 0, 1) := by decide +kernel
theorem dX5_comes_6 : decode cX5_comes 6 = .ok (.istore 5, 2) := by decide +kernel
theorem dX5_comes_8 : decode cX5_comes 8 = .ok (.iconst 0, 1) := by decide +kernel
theorem dX5_comes_9 : decode cX5_comes 9 = .ok (.istore 6, 2) := by decide +kernel
theorem dX5_comes_11 : decode cX5_comes 11 = .ok (.iload 6, 2) := by decide +kernel
theorem dX5_comes_13 : decode cX5_comes 13 = .ok (.aload_n 0, 1) := by decide +kernel
theorem dX5_comes_14 : decode cX5_comes 14 = .ok (.getfield 79, 3) := by decide +kernel
theorem dX5_comes_17 : decode cX5_comes 17 = .ok (.if_icmp .ge 55, 3) := by decide +kernel
theorem dX5_comes_20 : decode cX5_comes 20 = .ok (.iload 5, 2) := by decide +kernel
theorem dX5_comes_22 : decode cX5_comes 22 = .ok (.ifCond .ne 37, 3) := by decide +kernel
theorem dX5_comes_25 : decode cX5_comes 25 = .ok (.iload 6, 2) := by decide +kernel
theorem dX5_comes_27 : decode cX5_comes 27 = .ok (.iload_n 1, 1) := by decide +kernel
theorem dX5_comes_28 : decode cX5_comes 28 = .ok (.if_icmp .eq 35, 3) := by decide +kernel
theorem dX5_comes_31 : decode cX5_comes 31 = .ok (.aload_n 0, 1) := by decide +kernel
theorem dX5_comes_32 : decode cX5_comes 32 = .ok (.iload 6, 2) := by decide +kernel
theorem dX5_comes_34 : decode cX5_comes 34 = .ok (.iload 4, 2) := by decide +kernel
theorem dX5_comes_36 : decode cX5_comes 36 = .ok (.iload_n 3, 1) := by decide +kernel
theorem dX5_comes_37 : decode cX5_comes 37 = .ok (.invokevirtual 124, 3) := by decide +kernel
theorem dX5_comes_40 : decode cX5_comes 40 = .ok (.ifCond .eq 23, 3) := by decide +kernel
theorem dX5_comes_43 : decode cX5_comes 43 = .ok (.aload_n 0, 1) := by decide +kernel
theorem dX5_comes_44 : decode cX5_comes 44 = .ok (.getfield 41, 3) := by decide +kernel
theorem dX5_comes_47 : decode cX5_comes 47 = .ok (.iload 6, 2) := by decide +kernel
theorem dX5_comes_49 : decode cX5_comes 49 = .ok (.iaload, 1) := by decide +kernel
theorem dX5_comes_50 : decode cX5_comes 50 = .ok (.aload_n 0, 1) := by decide +kernel
theorem dX5_comes_51 : decode cX5_comes 51 = .ok (.getfield 41, 3) := by decide +kernel
theorem dX5_comes_54 : decode cX5_comes 54 = .ok (.iload_n 1, 1) := by decide +kernel
theorem dX5_comes_55 : decode cX5_comes 55 = .ok (.iaload, 1) := by decide +kernel
theorem dX5_comes_56 : decode cX5_comes 56 = .ok (.if_icmp .ge 7, 3) := by decide +kernel
theorem dX5_comes_59 : decode cX5_comes 59 = .ok (.iconst 1, 1) := by decide +kernel
theorem dX5_comes_60 : decode cX5_comes 60 = .ok (.goto 4, 3) := by decide +kernel
theorem dX5_comes_63 : decode cX5_comes 63 = .ok (.iconst 0, 1) := by decide +kernel
theorem dX5_comes_64 : decode cX5_comes 64 = .ok (.istore 5, 2) := by decide +kernel
theorem dX5_comes_66 : decode cX5_comes 66 = .ok (.iinc 6 1, 3) := by decide +kernel
theorem dX5_comes_69 : decode cX5_comes 69 = .ok (.goto (-58), 3) := by decide +kernel
theorem dX5_comes_72 : decode cX5_comes 72 = .ok (.aload_n 0, 1) := by decide +kernel
theorem dX5_comes_73 : decode cX5_comes 73 = .ok (.getfield 38, 3) := by decide +kernel
theorem dX5_comes_76 : decode cX5_comes 76 = .ok (.iload_n 1, 1) := by decide +kernel
theorem dX5_comes_77 : decode cX5_comes 77 = .ok (.iaload, 1) := by decide +kernel
theorem dX5_comes_78 : decode cX5_comes 78 = .ok (.ifCond .le 16, 3) := by decide +kernel
theorem dX5_comes_81 : decode cX5_comes 81 = .ok (.iload 5, 2) := by decide +kernel
theorem dX5_comes_83 : decode cX5_comes 83 = .ok (.ifCond .eq 11, 3) := by decide +kernel
theorem dX5_comes_86 : decode cX5_comes 86 = .ok (.aload_n 0, 1) := by decide +kernel
theorem dX5_comes_87 : decode cX5_comes 87 = .ok (.iload_n 1, 1) := by decide +kernel
theorem dX5_comes_88 : decode cX5_comes 88 = .ok (.iconst 4, 1) := by decide +kernel
theorem dX5_comes_89 : decode cX5_comes 89 = .ok (.invokevirtual 128, 3) := by decide +kernel
theorem dX5_comes_92 : decode cX5_comes 92 = .ok (.iconst 0, 1) := by decide +kernel
theorem dX5_comes_93 : decode cX5_comes 93 = .ok (.ireturn, 1) := by decide +kernel
theorem dX5_comes_94 : decode cX5_comes 94 = .ok (.aload_n 0, 1) := by decide +kernel
theorem dX5_comes_95 : decode cX5_comes 95 = .ok (.iload_n 1, 1) := by decide +kernel
theorem dX5_comes_96 : decode cX5_comes 96 = .ok (.iload 4, 2) := by decide +kernel
theorem dX5_comes_98 : decode cX5_comes 98 = .ok (.iload_n 3, 1) := by decide +kernel
theorem dX5_comes_99 : decode cX5_comes 99 = .ok (.invokevirtual 132, 3) := by decide +kernel
theorem dX5_comes_102 : decode cX5_comes 102 = .ok (.aload_n 0, 1) := by decide +kernel
theorem dX5_comes_103 : decode cX5_comes 103 = .ok (.getfield 38, 3) := by decide +kernel
theorem dX5_comes_106 : decode cX5_comes 106 = .ok (.iload_n 1, 1) := by decide +kernel
theorem dX5_comes_107 : decode cX5_comes 107 = .ok (.iaload, 1) := by decide +kernel
theorem dX5_comes_108 : decode cX5_comes 108 = .ok (.ifCond .ne 5, 3) := by decide +kernel
theorem dX5_comes_111 : decode cX5_comes 111 = .ok (.iconst 1, 1) := by decide +kernel
theorem dX5_comes_112 : decode cX5_comes 112 = .ok (.ireturn, 1) := by decide +kernel
theorem dX5_comes_113 : decode cX5_comes 113 = .ok (.iload_n 3, 1) := by decide +kernel
theorem dX5_comes_114 : decode cX5_comes 114 = .ok (.ifCond .eq 23, 3) := by decide +kernel
theorem dX5_comes_117 : decode cX5_comes 117 = .ok (.aload_n 0, 1) := by decide +kernel
theorem dX5_comes_118 : decode cX5_comes 118 = .ok (.getfield 56, 3) := by decide +kernel
theorem dX5_comes_121 : decode cX5_comes 121 = .ok (.iload_n 1, 1) := by decide +kernel
theorem dX5_comes_122 : decode cX5_comes 122 = .ok (.aload_n 0, 1) := by decide +kernel
theorem dX5_comes_123 : decode cX5_comes 123 = .ok (.getfield 56, 3) := by decide +kernel
theorem dX5_comes_126 : decode cX5_comes 126 = .ok (.iload_n 1, 1) := by decide +kernel
theorem dX5_comes_127 : decode cX5_comes 127 = .ok (.iaload, 1) := by decide +kernel
theorem dX5_comes_128 : decode cX5_comes 128 = .ok (.iconst 1, 1) := by decide +kernel
theorem dX5_comes_129 : decode cX5_comes 129 = .ok (.iload 4, 2) := by decide +kernel
theorem dX5_comes_131 : decode cX5_comes 131 = .ok (.ishl, 1) := by decide +kernel
theorem dX5_comes_132 : decode cX5_comes 132 = .ok (.ior, 1) := by decide +kernel
theorem dX5_comes_133 : decode cX5_comes 133 = .ok (.iastore, 1) := by decide +kernel
theorem dX5_comes_134 : decode cX5_comes 134 = .ok (.goto 20, 3) := by decide +kernel
theorem dX5_comes_137 : decode cX5_comes 137 = .ok (.aload_n 0, 1) := by decide +kernel
theorem dX5_comes_138 : decode cX5_comes 138 = .ok (.getfield 53, 3) := by decide +kernel
theorem dX5_comes_141 : decode cX5_comes 141 = .ok (.iload_n 1, 1) := by decide +kernel
theorem dX5_comes_142 : decode cX5_comes 142 = .ok (.aload_n 0, 1) := by decide +kernel
theorem dX5_comes_143 : decode cX5_comes 143 = .ok (.getfield 53, 3) := by decide +kernel
theorem dX5_comes_146 : decode cX5_comes 146 = .ok (.iload_n 1, 1) := by decide +kernel
theorem dX5_comes_147 : decode cX5_comes 147 = .ok (.iaload, 1) := by decide +kernel
theorem dX5_comes_148 : decode cX5_comes 148 = .ok (.iconst 1, 1) := by decide +kernel
theorem dX5_comes_149 : decode cX5_comes 149 = .ok (.iload 4, 2) := by decide +kernel
theorem dX5_comes_151 : decode cX5_comes 151 = .ok (.ishl, 1) := by decide +kernel
theorem dX5_comes_152 : decode cX5_comes 152 = .ok (.ior, 1) := by decide +kernel
theorem dX5_comes_153 : decode cX5_comes 153 = .ok (.iastore, 1) := by decide +kernel
theorem dX5_comes_154 : decode cX5_comes 154 = .ok (.aload_n 0, 1) := by decide +kernel
theorem dX5_comes_155 : decode cX5_comes 155 = .ok (.iload_n 1, 1) := by decide +kernel
theorem dX5_comes_156 : decode cX5_comes 156 = .ok (.iload 4, 2) := by decide +kernel
theorem dX5_comes_158 : decode cX5_comes 158 = .ok (.invokevirtual 136, 3) := by decide +kernel
theorem dX5_comes_161 : decode cX5_comes 161 = .ok (.aload_n 0, 1) := by decide +kernel
theorem dX5_comes_162 : decode cX5_comes 162 = .ok (.getfield 86, 3) := by decide +kernel
theorem dX5_comes_165 : decode cX5_comes 165 = .ok (.if_icmp .le 11, 3) := by decide +kernel
theorem dX5_comes_168 : decode cX5_comes 168 = .ok (.aload_n 0, 1) := by decide +kernel
theorem dX5_comes_169 : decode cX5_comes 169 = .ok (.iload_n 1, 1) := by decide +kernel
theorem dX5_comes_170 : decode cX5_comes 170 = .ok (.iconst 3, 1) := by decide +kernel
theorem dX5_comes_171 : decode cX5_comes 171 = .ok (.invokevirtual 128, 3) := by decide +kernel
theorem dX5_comes_174 : decode cX5_comes 174 = .ok (.iconst 0, 1) := by decide +kernel
theorem dX5_comes_175 : decode cX5_comes 175 = .ok (.ireturn, 1) := by decide +kernel
theorem dX5_comes_176 : decode cX5_comes 176 = .ok (.iconst 1, 1) := by decide +kernel
theorem dX5_comes_177 : decode cX5_comes 177 = .ok (.ireturn, 1) := by decide +kernel
theorem dX5_sees_0 : decode cX5_sees 0 = .ok (.aload_n 0, 1) := by decide +kernel
theorem dX5_sees_1 : decode cX5_sees 1 = .ok (.getfield 59, 3) := by decide +kernel
theorem dX5_sees_4 : decode cX5_sees 4 = .ok (.iload_n 1, 1) := by decide +kernel
theorem dX5_sees_5 : decode cX5_sees 5 = .ok (.laload, 1) := by decide +kernel
theorem dX5_sees_6 : decode cX5_sees 6 = .ok (.iload_n 2, 1) := by decide +kernel
theorem dX5_sees_7 : decode cX5_sees 7 = .ok (.lshr, 1) := by decide +kernel
end
section
theorem dX5_sees_8 : decode cX5_sees 8 = .ok (.lconst 1, 1) := by decide +kernel
theorem dX5_sees_9 : decode cX5_sees 9 = .ok (.land, 1) := by decide +kernel
theorem dX5_sees_10 : decode cX5_sees 10 = .ok (.lconst 1, 1) := by decide +kernel
theorem dX5_sees_11 : decode cX5_sees 11 = .ok (.lcmp, 1) := by decide +kernel
theorem dX5_sees_12 : decode cX5_sees 12 = .ok (.ifCond .ne 17, 3) := by decide +kernel
theorem dX5_sees_15 : decode cX5_sees 15 = .ok (.aload_n 0, 1) := by decide +kernel
theorem dX5_sees_16 : decode cX5_sees 16 = .ok (.getfield 63, 3) := by decide +kernel
theorem dX5_sees_19 : decode cX5_sees 19 = .ok (.bipush 64, 2) := by decide +kernel
theorem dX5_sees_21 : decode cX5_sees 21 = .ok (.iload_n 1, 1) := by decide +kernel
theorem dX5_sees_22 : decode cX5_sees 22 = .ok (.imul, 1) := by decide +kernel
theorem dX5_sees_23 : decode cX5_sees 23 = .ok (.iload_n 2, 1) := by decide +kernel
theorem dX5_sees_24 : decode cX5_sees 24 = .ok (.iadd, 1) := by decide +kernel
theorem dX5_sees_25 : decode cX5_sees 25 = .ok (.iaload, 1) := by decide +kernel
theorem dX5_sees_26 : decode cX5_sees 26 = .ok (.goto 9, 3) := by decide +kernel
theorem dX5_sees_29 : decode cX5_sees 29 = .ok (.aload_n 0, 1) := by decide +kernel
theorem dX5_sees_30 : decode cX5_sees 30 = .ok (.getfield 7, 3) := by decide +kernel
theorem dX5_sees_33 : decode cX5_sees 33 = .ok (.iload_n 2, 1) := by decide +kernel
theorem dX5_sees_34 : decode cX5_sees 34 = .ok (.iaload, 1) := by decide +kernel
theorem dX5_sees_35 : decode cX5_sees 35 = .ok (.ireturn, 1) := by decide +kernel
set_option maxRecDepth 20000 in
theorem ggX5_commit_X5_sees : GoodIn wsX5_commit wsX5_sees := goodIn_r _ [7, 8, 9, 1, 18, 19, 20, 21, 22, 23, 24, 25, 26, 27, 28, 29, 30, 31, 32, 33, 34, 35, 36, 37, 38, 39, 40, 41, 42, 43, 44, 45, 46] (by decide +kernel) (by decide +kernel)
set_option maxRecDepth 20000 in
theorem gX5_commit_X5_sees : GoodIn wsX5_commit (wsV RX5 139 RX5 yX5_sees wsX5_sees) := goodIn_app (goodIn_of _ (by decide +kernel)) ggX5_commit_X5_sees
set_option maxRecDepth 20000 in
theorem ggX5_commit_X5_leave : GoodIn wsX5_commit wsX5_leave := goodIn_r _ [13, 14, 15, 16, 17, 8, 18, 19, 20, 21, 22, 23, 24, 25, 26, 27, 28, 29, 30, 31, 32, 33, 34, 35, 36, 37, 38, 39, 40, 41, 42, 43, 44, 45, 46] (by decide +kernel) (by decide +kernel)
set_option maxRecDepth 20000 in
theorem gX5_commit_X5_leave : GoodIn wsX5_commit (wsV RX5 109 RX5 yX5_leave wsX5_leave) := goodIn_app (goodIn_of _ (by decide +kernel)) ggX5_commit_X5_leave
theorem dX5_commit_0 : decode cX5_commit 0 = .ok (.iconst 0, 1) := by decide +kernel
theorem dX5_commit_1 : decode cX5_commit 1 = .ok (.istore_n 2, 1) := by decide +kernel
theorem dX5_commit_2 : decode cX5_commit 2 = .ok (.iload_n 2, 1) := by decide +kernel
theorem dX5_commit_3 : decode cX5_commit 3 = .ok (.bipush 64, 2) := by decide +kernel
theorem dX5_commit_5 : decode cX5_commit 5 = .ok (.if_icmp .ge 21, 3) := by decide +kernel
theorem dX5_commit_8 : decode cX5_commit 8 = .ok (.aload_n 0, 1) := by decide +kernel
theorem dX5_commit_9 : decode cX5_commit 9 = .ok (.getfield 7, 3) := by decide +kernel
theorem dX5_commit_12 : decode cX5_commit 12 = .ok (.iload_n 2, 1) := by decide +kernel
theorem dX5_commit_13 : decode cX5_commit 13 = .ok (.aload_n 0, 1) := by decide +kernel
theorem dX5_commit_14 : decode cX5_commit 14 = .ok (.iload_n 1, 1) := by decide +kernel
theorem dX5_commit_15 : decode cX5_commit 15 = .ok (.iload_n 2, 1) := by decide +kernel
theorem dX5_commit_16 : decode cX5_commit 16 = .ok (.invokevirtual 139, 3) := by decide +kernel
theorem dX5_commit_19 : decode cX5_commit 19 = .ok (.iastore, 1) := by decide +kernel
theorem dX5_commit_20 : decode cX5_commit 20 = .ok (.iinc 2 1, 3) := by decide +kernel
theorem dX5_commit_23 : decode cX5_commit 23 = .ok (.goto (-21), 3) := by decide +kernel
theorem dX5_commit_26 : decode cX5_commit 26 = .ok (.aload_n 0, 1) := by decide +kernel
theorem dX5_commit_27 : decode cX5_commit 27 = .ok (.getfield 66, 3) := by decide +kernel
theorem dX5_commit_30 : decode cX5_commit 30 = .ok (.iload_n 1, 1) := by decide +kernel
theorem dX5_commit_31 : decode cX5_commit 31 = .ok (.dup2, 1) := by decide +kernel
theorem dX5_commit_32 : decode cX5_commit 32 = .ok (.iaload, 1) := by decide +kernel
theorem dX5_commit_33 : decode cX5_commit 33 = .ok (.iconst 1, 1) := by decide +kernel
theorem dX5_commit_34 : decode cX5_commit 34 = .ok (.iadd, 1) := by decide +kernel
theorem dX5_commit_35 : decode cX5_commit 35 = .ok (.iastore, 1) := by decide +kernel
theorem dX5_commit_36 : decode cX5_commit 36 = .ok (.aload_n 0, 1) := by decide +kernel
theorem dX5_commit_37 : decode cX5_commit 37 = .ok (.iload_n 1, 1) := by decide +kernel
theorem dX5_commit_38 : decode cX5_commit 38 = .ok (.invokevirtual 109, 3) := by decide +kernel
theorem dX5_commit_41 : decode cX5_commit 41 = .ok (.return_, 1) := by decide +kernel
set_option maxRecDepth 20000 in
theorem ggX5_faults_X5_breakOff : GoodIn wsX5_faults wsX5_breakOff := goodIn_r _ [7, 8, 9, 10, 11, 12, 13, 14, 15, 16, 17, 18, 19, 6, 20, 1, 21, 22, 23, 24, 25, 26, 27, 28, 29, 30, 31, 32, 33, 34, 35, 36, 37, 38, 39, 40, 41, 42, 43, 44, 45, 46, 47, 48, 49, 50, 51, 52] (by decide +kernel) (by decide +kernel)
set_option maxRecDepth 20000 in
theorem gX5_faults_X5_breakOff : GoodIn wsX5_faults (wsV RX5 128 RX5 yX5_breakOff wsX5_breakOff) := goodIn_app (goodIn_of _ (by decide +kernel)) ggX5_faults_X5_breakOff
theorem dX5_faults_0 : decode cX5_faults 0 = .ok (.aload_n 0, 1) := by decide +kernel
theorem dX5_faults_1 : decode cX5_faults 1 = .ok (.getfield 38, 3) := by decide +kernel
theorem dX5_faults_4 : decode cX5_faults 4 = .ok (.iload_n 1, 1) := by decide +kernel
theorem dX5_faults_5 : decode cX5_faults 5 = .ok (.iaload, 1) := by decide +kernel
theorem dX5_faults_6 : decode cX5_faults 6 = .ok (.ifCond .le 12, 3) := by decide +kernel
theorem dX5_faults_9 : decode cX5_faults 9 = .ok (.aload_n 0, 1) := by decide +kernel
theorem dX5_faults_10 : decode cX5_faults 10 = .ok (.iload_n 1, 1) := by decide +kernel
theorem dX5_faults_11 : decode cX5_faults 11 = .ok (.iconst 1, 1) := by decide +kernel
theorem dX5_faults_12 : decode cX5_faults 12 = .ok (.invokevirtual 128, 3) := by decide +kernel
theorem dX5_faults_15 : decode cX5_faults 15 = .ok (.goto 10, 3) := by decide +kernel
theorem dX5_faults_18 : decode cX5_faults 18 = .ok (.aload_n 0, 1) := by decide +kernel
theorem dX5_faults_19 : decode cX5_faults 19 = .ok (.getfield 28, 3) := by decide +kernel
theorem dX5_faults_22 : decode cX5_faults 22 = .ok (.iload_n 1, 1) := by decide +kernel
theorem dX5_faults_23 : decode cX5_faults 23 = .ok (.iconst 1, 1) := by decide +kernel
theorem dX5_faults_24 : decode cX5_faults 24 = .ok (.bastore, 1) := by decide +kernel
theorem dX5_faults_25 : decode cX5_faults 25 = .ok (.iconst 0, 1) := by decide +kernel
theorem dX5_faults_26 : decode cX5_faults 26 = .ok (.ireturn, 1) := by decide +kernel
set_option maxRecDepth 20000 in
theorem ggX5_load_X5_isIn : GoodIn wsX5_load wsX5_isIn := goodIn_r _ [4] (by decide +kernel) (by decide +kernel)
set_option maxRecDepth 20000 in
theorem gX5_load_X5_isIn : GoodIn wsX5_load (va_wsS RX5 92 yX5_isIn wsX5_isIn) := goodIn_app (goodIn_of _ (by decide +kernel)) ggX5_load_X5_isIn
set_option maxRecDepth 20000 in
theorem ggX5_load_X5_faults : GoodIn wsX5_load wsX5_faults := goodIn_r _ [8, 9, 10, 11, 12, 13, 3, 14, 15, 16, 17, 18, 19, 20, 21, 22, 23, 24, 25, 26, 27, 28, 29, 30, 60, 61, 62, 63, 64, 65, 66, 67, 68, 69, 70, 71, 72, 73, 74, 75, 76, 77, 78, 79, 80, 81, 82, 83, 84, 85, 86, 87, 88] (by decide +kernel) (by decide +kernel)
set_option maxRecDepth 20000 in
theorem gX5_load_X5_faults : GoodIn wsX5_load (wsV RX5 142 RX5 yX5_faults wsX5_faults) := goodIn_app (goodIn_of _ (by decide +kernel)) ggX5_load_X5_faults
set_option maxRecDepth 20000 in
theorem ggX5_load_X5_comes : GoodIn wsX5_load wsX5_comes := goodIn_r _ [34, 35, 18, 9, 29, 28, 36, 37, 38, 39, 3, 40, 11, 12, 13, 14, 15, 16, 17, 19, 20, 21, 22, 23, 24, 25, 26, 27, 30, 41, 42, 43, 44, 45, 46, 47, 48, 49, 60, 61, 62, 63, 64, 65, 66, 67, 68, 69, 70, 71, 72, 73, 74, 75, 76, 77, 78, 79, 80, 81, 82, 83, 84, 85, 86, 87, 88] (by decide +kernel) (by decide +kernel)
set_option maxRecDepth 20000 in
theorem gX5_load_X5_comes : GoodIn wsX5_load (wsV RX5 145 RX5 yX5_comes wsX5_comes) := goodIn_app (goodIn_of _ (by decide +kernel)) ggX5_load_X5_comes
set_option maxRecDepth 20000 in
theorem ggX5_load_X5_sees : GoodIn wsX5_load wsX5_sees := goodIn_r _ [53, 30, 54, 55, 60, 61, 62, 63, 64, 65, 66, 67, 68, 69, 70, 71, 72, 73, 74, 75, 76, 77, 78, 79, 80, 81, 82, 83, 84, 85, 86, 87, 88] (by decide +kernel) (by decide +kernel)
set_option maxRecDepth 20000 in
theorem gX5_load_X5_sees : GoodIn wsX5_load (wsV RX5 139 RX5 yX5_sees wsX5_sees) := goodIn_app (goodIn_of _ (by decide +kernel)) ggX5_load_X5_sees
set_option maxRecDepth 20000 in
theorem ggX5_load_X5_give : GoodIn wsX5_load wsX5_give := goodIn_r _ [59, 19, 60, 61, 62, 63, 64, 65, 66, 67, 68, 69, 70, 71, 72, 73, 74, 75, 76, 77, 78, 79, 80, 81, 82, 83, 84, 85, 86, 87, 88] (by decide +kernel) (by decide +kernel)
set_option maxRecDepth 20000 in
theorem gX5_load_X5_give : GoodIn wsX5_load (wsV RX5 117 RX5 yX5_give wsX5_give) := goodIn_app (goodIn_of _ (by decide +kernel)) ggX5_load_X5_give
theorem dX5_load_0 : decode cX5_load 0 = .ok (.iload_n 3, 1) := by decide +kernel
theorem dX5_load_1 : decode cX5_load 1 = .ok (.bipush 64, 2) := by decide +kernel
theorem dX5_load_3 : decode cX5_load 3 = .ok (.invokestatic 92, 3) := by decide +kernel
theorem dX5_load_6 : decode cX5_load 6 = .ok (.ifCond .ne 9, 3) := by decide +kernel
theorem dX5_load_9 : decode cX5_load 9 = .ok (.aload_n 0, 1) := by decide +kernel
theorem dX5_load_10 : decode cX5_load 10 = .ok (.iload_n 1, 1) := by decide +kernel
theorem dX5_load_11 : decode cX5_load 11 = .ok (.invokevirtual 142, 3) := by decide +kernel
theorem dX5_load_14 : decode cX5_load 14 = .ok (.ireturn, 1) := by decide +kernel
theorem dX5_load_15 : decode cX5_load 15 = .ok (.aload_n 0, 1) := by decide +kernel
theorem dX5_load_16 : decode cX5_load 16 = .ok (.iload_n 1, 1) := by decide +kernel
theorem dX5_load_17 : decode cX5_load 17 = .ok (.iload_n 3, 1) := by decide +kernel
theorem dX5_load_18 : decode cX5_load 18 = .ok (.iconst 0, 1) := by decide +kernel
theorem dX5_load_19 : decode cX5_load 19 = .ok (.invokevirtual 145, 3) := by decide +kernel
theorem dX5_load_22 : decode cX5_load 22 = .ok (.ifCond .ne 5, 3) := by decide +kernel
theorem dX5_load_25 : decode cX5_load 25 = .ok (.iconst 0, 1) := by decide +kernel
theorem dX5_load_26 : decode cX5_load 26 = .ok (.ireturn, 1) := by decide +kernel
theorem dX5_load_27 : decode cX5_load 27 = .ok (.aload_n 0, 1) := by decide +kernel
theorem dX5_load_28 : decode cX5_load 28 = .ok (.iload_n 1, 1) := by decide +kernel
theorem dX5_load_29 : decode cX5_load 29 = .ok (.iload_n 2, 1) := by decide +kernel
theorem dX5_load_30 : decode cX5_load 30 = .ok (.aload_n 0, 1) := by decide +kernel
theorem dX5_load_31 : decode cX5_load 31 = .ok (.iload_n 1, 1) := by decide +kernel
theorem dX5_load_32 : decode cX5_load 32 = .ok (.iload_n 3, 1) := by decide +kernel
theorem dX5_load_33 : decode cX5_load 33 = .ok (.invokevirtual 139, 3) := by decide +kernel
theorem dX5_load_36 : decode cX5_load 36 = .ok (.invokevirtual 117, 3) := by decide +kernel
theorem dX5_load_39 : decode cX5_load 39 = .ok (.iconst 1, 1) := by decide +kernel
theorem dX5_load_40 : decode cX5_load 40 = .ok (.ireturn, 1) := by decide +kernel
set_option maxRecDepth 20000 in
theorem ggX5_store_X5_isIn : GoodIn wsX5_store wsX5_isIn := goodIn_r _ [8] (by decide +kernel) (by decide +kernel)
set_option maxRecDepth 20000 in
theorem gX5_store_X5_isIn : GoodIn wsX5_store (va_wsS RX5 92 yX5_isIn wsX5_isIn) := goodIn_app (goodIn_of _ (by decide +kernel)) ggX5_store_X5_isIn
set_option maxRecDepth 20000 in
theorem ggX5_store_X5_faults : GoodIn wsX5_store wsX5_faults := goodIn_r _ [12, 1, 13, 14, 15, 16, 7, 17, 18, 19, 20, 21, 22, 23, 24, 25, 26, 27, 28, 29, 30, 31, 32, 3, 56, 57, 58, 59, 60, 61, 62, 63, 64, 65, 66, 67, 68, 69, 70, 71, 72, 73, 74, 75, 76, 77, 78, 79, 80, 81, 82, 83, 84] (by decide +kernel) (by decide +kernel)
set_option maxRecDepth 20000 in
theorem gX5_store_X5_faults : GoodIn wsX5_store (wsV RX5 142 RX5 yX5_faults wsX5_faults) := goodIn_app (goodIn_of _ (by decide +kernel)) ggX5_store_X5_faults
set_option maxRecDepth 20000 in
theorem ggX5_store_X5_comes : GoodIn wsX5_store wsX5_comes := goodIn_r _ [36, 37, 21, 1, 32, 31, 38, 39, 40, 41, 7, 42, 14, 15, 16, 17, 18, 19, 20, 22, 23, 24, 25, 26, 27, 28, 29, 30, 3, 43, 44, 45, 46, 47, 48, 49, 50, 51, 56, 57, 58, 59, 60, 61, 62, 63, 64, 65, 66, 67, 68, 69, 70, 71, 72, 73, 74, 75, 76, 77, 78, 79, 80, 81, 82, 83, 84] (by decide +kernel) (by decide +kernel)
set_option maxRecDepth 20000 in
theorem gX5_store_X5_comes : GoodIn wsX5_store (wsV RX5 145 RX5 yX5_comes wsX5_comes) := goodIn_app (goodIn_of _ (by decide +kernel)) ggX5_store_X5_comes
set_option maxRecDepth 20000 in
theorem ggX5_store_X5_get : GoodIn wsX5_store wsX5_get := goodIn_r _ [55, 22, 56, 57, 58, 59, 60, 61, 62, 63, 64, 65, 66, 67, 68, 69, 70, 71, 72, 73, 74, 75, 76, 77, 78, 79, 80, 81, 82, 83, 84] (by decide +kernel) (by decide +kernel)
set_option maxRecDepth 20000 in
theorem gX5_store_X5_get : GoodIn wsX5_store (wsV RX5 113 RX5 yX5_get wsX5_get) := goodIn_app (goodIn_of _ (by decide +kernel)) ggX5_store_X5_get
theorem dX5_store_0 : decode cX5_store 0 = .ok (.iload_n 3, 1) := by decide +kernel
theorem dX5_store_1 : decode cX5_store 1 = .ok (.bipush 64, 2) := by decide +kernel
theorem dX5_store_3 : decode cX5_store 3 = .ok (.invokestatic 92, 3) := by decide +kernel
theorem dX5_store_6 : decode cX5_store 6 = .ok (.ifCond .ne 9, 3) := by decide +kernel
theorem dX5_store_9 : decode cX5_store 9 = .ok (.aload_n 0, 1) := by decide +kernel
theorem dX5_store_10 : decode cX5_store 10 = .ok (.iload_n 1, 1) := by decide +kernel
theorem dX5_store_11 : decode cX5_store 11 = .ok (.invokevirtual 142, 3) := by decide +kernel
theorem dX5_store_14 : decode cX5_store 14 = .ok (.ireturn, 1) := by decide +kernel
theorem dX5_store_15 : decode cX5_store 15 = .ok (.aload_n 0, 1) := by decide +kernel
theorem dX5_store_16 : decode cX5_store 16 = .ok (.iload_n 1, 1) := by decide +kernel
theorem dX5_store_17 : decode cX5_store 17 = .ok (.iload_n 3, 1) := by decide +kernel
theorem dX5_store_18 : decode cX5_store 18 = .ok (.iconst 1, 1) := by decide +kernel
theorem dX5_store_19 : decode cX5_store 19 = .ok (.invokevirtual 145, 3) := by decide +kernel
theorem dX5_store_22 : decode cX5_store 22 = .ok (.ifCond .ne 5, 3) := by decide +kernel
theorem dX5_store_25 : decode cX5_store 25 = .ok (.iconst 0, 1) := by decide +kernel
theorem dX5_store_26 : decode cX5_store 26 = .ok (.ireturn, 1) := by decide +kernel
theorem dX5_store_27 : decode cX5_store 27 = .ok (.aload_n 0, 1) := by decide +kernel
theorem dX5_store_28 : decode cX5_store 28 = .ok (.getfield 38, 3) := by decide +kernel
theorem dX5_store_31 : decode cX5_store 31 = .ok (.iload_n 1, 1) := by decide +kernel
theorem dX5_store_32 : decode cX5_store 32 = .ok (.iaload, 1) := by decide +kernel
theorem dX5_store_33 : decode cX5_store 33 = .ok (.ifCond .ne 18, 3) := by decide +kernel
theorem dX5_store_36 : decode cX5_store 36 = .ok (.aload_n 0, 1) := by decide +kernel
theorem dX5_store_37 : decode cX5_store 37 = .ok (.getfield 7, 3) := by decide +kernel
theorem dX5_store_40 : decode cX5_store 40 = .ok (.iload_n 3, 1) := by decide +kernel
theorem dX5_store_41 : decode cX5_store 41 = .ok (.aload_n 0, 1) := by decide +kernel
theorem dX5_store_42 : decode cX5_store 42 = .ok (.iload_n 1, 1) := by decide +kernel
theorem dX5_store_43 : decode cX5_store 43 = .ok (.iload_n 2, 1) := by decide +kernel
theorem dX5_store_44 : decode cX5_store 44 = .ok (.invokevirtual 113, 3) := by decide +kernel
theorem dX5_store_47 : decode cX5_store 47 = .ok (.iastore, 1) := by decide +kernel
theorem dX5_store_48 : decode cX5_store 48 = .ok (.goto 36, 3) := by decide +kernel
theorem dX5_store_51 : decode cX5_store 51 = .ok (.aload_n 0, 1) := by decide +kernel
theorem dX5_store_52 : decode cX5_store 52 = .ok (.getfield 59, 3) := by decide +kernel
theorem dX5_store_55 : decode cX5_store 55 = .ok (.iload_n 1, 1) := by decide +kernel
theorem dX5_store_56 : decode cX5_store 56 = .ok (.aload_n 0, 1) := by decide +kernel
theorem dX5_store_57 : decode cX5_store 57 = .ok (.getfield 59, 3) := by decide +kernel
theorem dX5_store_60 : decode cX5_store 60 = .ok (.iload_n 1, 1) := by decide +kernel
theorem dX5_store_61 : decode cX5_store 61 = .ok (.laload, 1) := by decide +kernel
theorem dX5_store_62 : decode cX5_store 62 = .ok (.lconst 1, 1) := by decide +kernel
theorem dX5_store_63 : decode cX5_store 63 = .ok (.iload_n 3, 1) := by decide +kernel
theorem dX5_store_64 : decode cX5_store 64 = .ok (.lshl, 1) := by decide +kernel
theorem dX5_store_65 : decode cX5_store 65 = .ok (.lor, 1) := by decide +kernel
theorem dX5_store_66 : decode cX5_store 66 = .ok (.lastore, 1) := by decide +kernel
theorem dX5_store_67 : decode cX5_store 67 = .ok (.aload_n 0, 1) := by decide +kernel
theorem dX5_store_68 : decode cX5_store 68 = .ok (.getfield 63, 3) := by decide +kernel
theorem dX5_store_71 : decode cX5_store 71 = .ok (.bipush 64, 2) := by decide +kernel
theorem dX5_store_73 : decode cX5_store 73 = .ok (.iload_n 1, 1) := by decide +kernel
theorem dX5_store_74 : decode cX5_store 74 = .ok (.imul, 1) := by decide +kernel
theorem dX5_store_75 : decode cX5_store 75 = .ok (.iload_n 3, 1) := by decide +kernel
theorem dX5_store_76 : decode cX5_store 76 = .ok (.iadd, 1) := by decide +kernel
theorem dX5_store_77 : decode cX5_store 77 = .ok (.aload_n 0, 1) := by decide +kernel
theorem dX5_store_78 : decode cX5_store 78 = .ok (.iload_n 1, 1) := by decide +kernel
theorem dX5_store_79 : decode cX5_store 79 = .ok (.iload_n 2, 1) := by decide +kernel
theorem dX5_store_80 : decode cX5_store 80 = .ok (.invokevirtual 113, 3) := by decide +kernel
theorem dX5_store_83 : decode cX5_store 83 = .ok (.iastore, 1) := by decide +kernel
theorem dX5_store_84 : decode cX5_store 84 = .ok (.iconst 1, 1) := by decide +kernel
theorem dX5_store_85 : decode cX5_store 85 = .ok (.ireturn, 1) := by decide +kernel
set_option maxRecDepth 20000 in
theorem ggX5_begin_X5_breakOff : GoodIn wsX5_begin wsX5_breakOff := goodIn_r _ [12, 13, 14, 4, 3, 7, 6, 15, 5, 16, 17, 18, 19, 11, 20, 1, 21, 22, 23, 24, 25, 26, 27, 28, 29, 30, 31, 32, 33, 34, 35, 36, 37, 38, 39, 40, 41, 42, 43, 44, 45, 46, 47, 48, 49, 50, 51, 52] (by decide +kernel) (by decide +kernel)
set_option maxRecDepth 20000 in
theorem gX5_begin_X5_breakOff : GoodIn wsX5_begin (wsV RX5 128 RX5 yX5_breakOff wsX5_breakOff) := goodIn_app (goodIn_of _ (by decide +kernel)) ggX5_begin_X5_breakOff
theorem dX5_begin_0 : decode cX5_begin 0 = .ok (.aload_n 0, 1) := by decide +kernel
theorem dX5_begin_1 : decode cX5_begin 1 = .ok (.getfield 38, 3) := by decide +kernel
theorem dX5_begin_4 : decode cX5_begin 4 = .ok (.iload_n 1, 1) := by decide +kernel
theorem dX5_begin_5 : decode cX5_begin 5 = .ok (.iaload, 1) := by decide +kernel
theorem dX5_begin_6 : decode cX5_begin 6 = .ok (.bipush 8, 2) := by decide +kernel
theorem dX5_begin_8 : decode cX5_begin 8 = .ok (.if_icmp .ne 11, 3) := by decide +kernel
theorem dX5_begin_11 : decode cX5_begin 11 = .ok (.aload_n 0, 1) := by decide +kernel
theorem dX5_begin_12 : decode cX5_begin 12 = .ok (.iload_n 1, 1) := by decide +kernel
theorem dX5_begin_13 : decode cX5_begin 13 = .ok (.iconst 2, 1) := by decide +kernel
theorem dX5_begin_14 : decode cX5_begin 14 = .ok (.invokevirtual 128, 3) := by decide +kernel
theorem dX5_begin_17 : decode cX5_begin 17 = .ok (.iconst 0, 1) := by decide +kernel
theorem dX5_begin_18 : decode cX5_begin 18 = .ok (.ireturn, 1) := by decide +kernel
theorem dX5_begin_19 : decode cX5_begin 19 = .ok (.aload_n 0, 1) := by decide +kernel
theorem dX5_begin_20 : decode cX5_begin 20 = .ok (.getfield 38, 3) := by decide +kernel
theorem dX5_begin_23 : decode cX5_begin 23 = .ok (.iload_n 1, 1) := by decide +kernel
theorem dX5_begin_24 : decode cX5_begin 24 = .ok (.iaload, 1) := by decide +kernel
theorem dX5_begin_25 : decode cX5_begin 25 = .ok (.ifCond .ne 77, 3) := by decide +kernel
theorem dX5_begin_28 : decode cX5_begin 28 = .ok (.aload_n 0, 1) := by decide +kernel
theorem dX5_begin_29 : decode cX5_begin 29 = .ok (.dup, 1) := by decide +kernel
theorem dX5_begin_30 : decode cX5_begin 30 = .ok (.getfield 148, 3) := by decide +kernel
theorem dX5_begin_33 : decode cX5_begin 33 = .ok (.iconst 1, 1) := by decide +kernel
theorem dX5_begin_34 : decode cX5_begin 34 = .ok (.iadd, 1) := by decide +kernel
theorem dX5_begin_35 : decode cX5_begin 35 = .ok (.putfield 148, 3) := by decide +kernel
theorem dX5_begin_38 : decode cX5_begin 38 = .ok (.aload_n 0, 1) := by decide +kernel
theorem dX5_begin_39 : decode cX5_begin 39 = .ok (.getfield 41, 3) := by decide +kernel
theorem dX5_begin_42 : decode cX5_begin 42 = .ok (.iload_n 1, 1) := by decide +kernel
theorem dX5_begin_43 : decode cX5_begin 43 = .ok (.aload_n 0, 1) := by decide +kernel
theorem dX5_begin_44 : decode cX5_begin 44 = .ok (.getfield 148, 3) := by decide +kernel
theorem dX5_begin_47 : decode cX5_begin 47 = .ok (.iastore, 1) := by decide +kernel
theorem dX5_begin_48 : decode cX5_begin 48 = .ok (.aload_n 0, 1) := by decide +kernel
theorem dX5_begin_49 : decode cX5_begin 49 = .ok (.getfield 44, 3) := by decide +kernel
theorem dX5_begin_52 : decode cX5_begin 52 = .ok (.iload_n 1, 1) := by decide +kernel
theorem dX5_begin_53 : decode cX5_begin 53 = .ok (.iload_n 2, 1) := by decide +kernel
theorem dX5_begin_54 : decode cX5_begin 54 = .ok (.iastore, 1) := by decide +kernel
theorem dX5_begin_55 : decode cX5_begin 55 = .ok (.aload_n 0, 1) := by decide +kernel
theorem dX5_begin_56 : decode cX5_begin 56 = .ok (.getfield 47, 3) := by decide +kernel
theorem dX5_begin_59 : decode cX5_begin 59 = .ok (.iload_n 1, 1) := by decide +kernel
theorem dX5_begin_60 : decode cX5_begin 60 = .ok (.iload_n 3, 1) := by decide +kernel
theorem dX5_begin_61 : decode cX5_begin 61 = .ok (.iastore, 1) := by decide +kernel
theorem dX5_begin_62 : decode cX5_begin 62 = .ok (.iconst 0, 1) := by decide +kernel
theorem dX5_begin_63 : decode cX5_begin 63 = .ok (.istore 4, 2) := by decide +kernel
theorem dX5_begin_65 : decode cX5_begin 65 = .ok (.iload 4, 2) := by decide +kernel
theorem dX5_begin_67 : decode cX5_begin 67 = .ok (.bipush 8, 2) := by decide +kernel
theorem dX5_begin_69 : decode cX5_begin 69 = .ok (.if_icmp .ge 33, 3) := by decide +kernel
theorem dX5_begin_72 : decode cX5_begin 72 = .ok (.aload_n 0, 1) := by decide +kernel
theorem dX5_begin_73 : decode cX5_begin 73 = .ok (.getfield 50, 3) := by decide +kernel
theorem dX5_begin_76 : decode cX5_begin 76 = .ok (.bipush 8, 2) := by decide +kernel
theorem dX5_begin_78 : decode cX5_begin 78 = .ok (.iload_n 1, 1) := by decide +kernel
theorem dX5_begin_79 : decode cX5_begin 79 = .ok (.imul, 1) := by decide +kernel
theorem dX5_begin_80 : decode cX5_begin 80 = .ok (.iload 4, 2) := by decide +kernel
theorem dX5_begin_82 : decode cX5_begin 82 = .ok (.iadd, 1) := by decide +kernel
theorem dX5_begin_83 : decode cX5_begin 83 = .ok (.aload_n 0, 1) := by decide +kernel
theorem dX5_begin_84 : decode cX5_begin 84 = .ok (.getfield 35, 3) := by decide +kernel
theorem dX5_begin_87 : decode cX5_begin 87 = .ok (.bipush 8, 2) := by decide +kernel
theorem dX5_begin_89 : decode cX5_begin 89 = .ok (.iload_n 1, 1) := by decide +kernel
theorem dX5_begin_90 : decode cX5_begin 90 = .ok (.imul, 1) := by decide +kernel
theorem dX5_begin_91 : decode cX5_begin 91 = .ok (.iload 4, 2) := by decide +kernel
theorem dX5_begin_93 : decode cX5_begin 93 = .ok (.iadd, 1) := by decide +kernel
theorem dX5_begin_94 : decode cX5_begin 94 = .ok (.iaload, 1) := by decide +kernel
theorem dX5_begin_95 : decode cX5_begin 95 = .ok (.iastore, 1) := by decide +kernel
theorem dX5_begin_96 : decode cX5_begin 96 = .ok (.iinc 4 1, 3) := by decide +kernel
theorem dX5_begin_99 : decode cX5_begin 99 = .ok (.goto (-34), 3) := by decide +kernel
theorem dX5_begin_102 : decode cX5_begin 102 = .ok (.aload_n 0, 1) := by decide +kernel
theorem dX5_begin_103 : decode cX5_begin 103 = .ok (.getfield 38, 3) := by decide +kernel
theorem dX5_begin_106 : decode cX5_begin 106 = .ok (.iload_n 1, 1) := by decide +kernel
theorem dX5_begin_107 : decode cX5_begin 107 = .ok (.dup2, 1) := by decide +kernel
theorem dX5_begin_108 : decode cX5_begin 108 = .ok (.iaload, 1) := by decide +kernel
theorem dX5_begin_109 : decode cX5_begin 109 = .ok (.iconst 1, 1) := by decide +kernel
theorem dX5_begin_110 : decode cX5_begin 110 = .ok (.iadd, 1) := by decide +kernel
theorem dX5_begin_111 : decode cX5_begin 111 = .ok (.iastore, 1) := by decide +kernel
theorem dX5_begin_112 : decode cX5_begin 112 = .ok (.iconst 1, 1) := by decide +kernel
theorem dX5_begin_113 : decode cX5_begin 113 = .ok (.ireturn, 1) := by decide +kernel
set_option maxRecDepth 20000 in
theorem ggX5_end_X5_commit : GoodIn wsX5_end wsX5_commit := goodIn_r _ [6, 7, 8, 9, 10, 11, 5, 12, 13, 14, 15, 16, 17, 18, 1, 19, 20, 21, 22, 23, 24, 25, 26, 27, 28, 29, 30, 31, 32, 33, 34, 35, 36, 37, 38, 39, 40, 41, 42, 43, 44, 45, 46, 47, 48, 49, 50] (by decide +kernel) (by decide +kernel)
set_option maxRecDepth 20000 in
theorem gX5_end_X5_commit : GoodIn wsX5_end (wsV RX5 151 RX5 yX5_commit wsX5_commit) := goodIn_app (goodIn_of _ (by decide +kernel)) ggX5_end_X5_commit
theorem dX5_end_0 : decode cX5_end 0 = .ok (.aload_n 0, 1) := by decide +kernel
theorem dX5_end_1 : decode cX5_end 1 = .ok (.getfield 38, 3) := by decide +kernel
theorem dX5_end_4 : decode cX5_end 4 = .ok (.iload_n 1, 1) := by decide +kernel
theorem dX5_end_5 : decode cX5_end 5 = .ok (.iaload, 1) := by decide +kernel
theorem dX5_end_6 : decode cX5_end 6 = .ok (.iconst 1, 1) := by decide +kernel
theorem dX5_end_7 : decode cX5_end 7 = .ok (.if_icmp .ne 11, 3) := by decide +kernel
theorem dX5_end_10 : decode cX5_end 10 = .ok (.aload_n 0, 1) := by decide +kernel
theorem dX5_end_11 : decode cX5_end 11 = .ok (.iload_n 1, 1) := by decide +kernel
theorem dX5_end_12 : decode cX5_end 12 = .ok (.invokevirtual 151, 3) := by decide +kernel
theorem dX5_end_15 : decode cX5_end 15 = .ok (.goto 23, 3) := by decide +kernel
theorem dX5_end_18 : decode cX5_end 18 = .ok (.aload_n 0, 1) := by decide +kernel
theorem dX5_end_19 : decode cX5_end 19 = .ok (.getfield 38, 3) := by decide +kernel
theorem dX5_end_22 : decode cX5_end 22 = .ok (.iload_n 1, 1) := by decide +kernel
theorem dX5_end_23 : decode cX5_end 23 = .ok (.iaload, 1) := by decide +kernel
theorem dX5_end_24 : decode cX5_end 24 = .ok (.iconst 1, 1) := by decide +kernel
theorem dX5_end_25 : decode cX5_end 25 = .ok (.if_icmp .le 13, 3) := by decide +kernel
theorem dX5_end_28 : decode cX5_end 28 = .ok (.aload_n 0, 1) := by decide +kernel
theorem dX5_end_29 : decode cX5_end 29 = .ok (.getfield 38, 3) := by decide +kernel
theorem dX5_end_32 : decode cX5_end 32 = .ok (.iload_n 1, 1) := by decide +kernel
theorem dX5_end_33 : decode cX5_end 33 = .ok (.dup2, 1) := by decide +kernel
theorem dX5_end_34 : decode cX5_end 34 = .ok (.iaload, 1) := by decide +kernel
theorem dX5_end_35 : decode cX5_end 35 = .ok (.iconst 1, 1) := by decide +kernel
theorem dX5_end_36 : decode cX5_end 36 = .ok (.isub, 1) := by decide +kernel
theorem dX5_end_37 : decode cX5_end 37 = .ok (.iastore, 1) := by decide +kernel
theorem dX5_end_38 : decode cX5_end 38 = .ok (.return_, 1) := by decide +kernel
set_option maxRecDepth 20000 in
theorem ggX5_abort_X5_breakOff : GoodIn wsX5_abort wsX5_breakOff := goodIn_r _ [6, 7, 8, 9, 10, 11, 12, 13, 14, 15, 16, 17, 18, 5, 19, 1, 20, 21, 22, 23, 24, 25, 26, 27, 28, 29, 30, 31, 32, 33, 34, 35, 36, 37, 38, 39, 40, 41, 42, 43, 44, 45, 46, 47, 48, 49, 50, 51] (by decide +kernel) (by decide +kernel)
set_option maxRecDepth 20000 in
theorem gX5_abort_X5_breakOff : GoodIn wsX5_abort (wsV RX5 128 RX5 yX5_breakOff wsX5_breakOff) := goodIn_app (goodIn_of _ (by decide +kernel)) ggX5_abort_X5_breakOff
theorem dX5_abort_0 : decode cX5_abort 0 = .ok (.aload_n 0, 1) := by decide +kernel
theorem dX5_abort_1 : decode cX5_abort 1 = .ok (.getfield 38, 3) := by decide +kernel
theorem dX5_abort_4 : decode cX5_abort 4 = .ok (.iload_n 1, 1) := by decide +kernel
theorem dX5_abort_5 : decode cX5_abort 5 = .ok (.iaload, 1) := by decide +kernel
theorem dX5_abort_6 : decode cX5_abort 6 = .ok (.ifCond .ne 5, 3) := by decide +kernel
theorem dX5_abort_9 : decode cX5_abort 9 = .ok (.iconst 1, 1) := by decide +kernel
theorem dX5_abort_10 : decode cX5_abort 10 = .ok (.ireturn, 1) := by decide +kernel
theorem dX5_abort_11 : decode cX5_abort 11 = .ok (.aload_n 0, 1) := by decide +kernel
theorem dX5_abort_12 : decode cX5_abort 12 = .ok (.iload_n 1, 1) := by decide +kernel
theorem dX5_abort_13 : decode cX5_abort 13 = .ok (.iload_n 2, 1) := by decide +kernel
theorem dX5_abort_14 : decode cX5_abort 14 = .ok (.invokevirtual 128, 3) := by decide +kernel
theorem dX5_abort_17 : decode cX5_abort 17 = .ok (.iconst 0, 1) := by decide +kernel
theorem dX5_abort_18 : decode cX5_abort 18 = .ok (.ireturn, 1) := by decide +kernel
set_option maxRecDepth 20000 in
theorem ggX5_does_X5_give : GoodIn wsX5_does wsX5_give := goodIn_r _ [12, 13, 95, 96, 97, 98, 99, 100, 101, 102, 103, 104, 105, 106, 107, 108, 109, 110, 111, 112, 113, 114, 115, 116, 117, 118, 119, 120, 121, 122, 123] (by decide +kernel) (by decide +kernel)
set_option maxRecDepth 20000 in
theorem gX5_does_X5_give : GoodIn wsX5_does (wsV RX5 117 RX5 yX5_give wsX5_give) := goodIn_app (goodIn_of _ (by decide +kernel)) ggX5_does_X5_give
set_option maxRecDepth 20000 in
theorem ggX5_does_X5_get : GoodIn wsX5_does wsX5_get := goodIn_r _ [17, 13, 95, 96, 97, 98, 99, 100, 101, 102, 103, 104, 105, 106, 107, 108, 109, 110, 111, 112, 113, 114, 115, 116, 117, 118, 119, 120, 121, 122, 123] (by decide +kernel) (by decide +kernel)
set_option maxRecDepth 20000 in
theorem gX5_does_X5_get : GoodIn wsX5_does (wsV RX5 113 RX5 yX5_get wsX5_get) := goodIn_app (goodIn_of _ (by decide +kernel)) ggX5_does_X5_get
set_option maxRecDepth 20000 in
theorem ggX5_does_X5_load : GoodIn wsX5_does wsX5_load := goodIn_r _ [21, 22, 23, 11, 24, 25, 26, 27, 28, 7, 6, 29, 30, 31, 32, 33, 34, 35, 36, 13, 37, 38, 39, 40, 41, 42, 43, 44, 45, 46, 47, 48, 49, 50, 51, 52, 53, 54, 55, 56, 57, 58, 59, 60, 61, 62, 63, 64, 65, 66, 67, 68, 69, 70, 71, 72, 8, 9, 10, 12, 95, 96, 97, 98, 99, 100, 101, 102, 103, 104, 105, 106, 107, 108, 109, 110, 111, 112, 113, 114, 115, 116, 117, 118, 119, 120, 121, 122, 123] (by decide +kernel) (by decide +kernel)
set_option maxRecDepth 20000 in
theorem gX5_does_X5_load : GoodIn wsX5_does (wsV RX5 154 RX5 yX5_load wsX5_load) := goodIn_app (goodIn_of _ (by decide +kernel)) ggX5_does_X5_load
set_option maxRecDepth 20000 in
theorem ggX5_does_X5_store : GoodIn wsX5_does wsX5_store := goodIn_r _ [76, 7, 72, 47, 71, 22, 23, 11, 24, 25, 26, 27, 28, 6, 29, 30, 31, 32, 33, 34, 35, 36, 13, 37, 38, 39, 40, 41, 42, 43, 44, 45, 46, 48, 49, 50, 51, 52, 53, 54, 55, 56, 57, 58, 59, 60, 61, 62, 63, 64, 65, 66, 14, 15, 16, 17, 95, 96, 97, 98, 99, 100, 101, 102, 103, 104, 105, 106, 107, 108, 109, 110, 111, 112, 113, 114, 115, 116, 117, 118, 119, 120, 121, 122, 123] (by decide +kernel) (by decide +kernel)
set_option maxRecDepth 20000 in
theorem gX5_does_X5_store : GoodIn wsX5_does (wsV RX5 158 RX5 yX5_store wsX5_store) := goodIn_app (goodIn_of _ (by decide +kernel)) ggX5_does_X5_store
set_option maxRecDepth 20000 in
theorem ggX5_does_X5_begin : GoodIn wsX5_does wsX5_begin := goodIn_r _ [80, 7, 81, 36, 35, 39, 37, 13, 29, 30, 31, 11, 32, 33, 34, 38, 40, 41, 42, 43, 44, 45, 46, 47, 95, 96, 97, 98, 99, 100, 101, 102, 103, 104, 105, 106, 107, 108, 109, 110, 111, 112, 113, 114, 115, 116, 117, 118, 119, 120, 121, 122, 123] (by decide +kernel) (by decide +kernel)
set_option maxRecDepth 20000 in
theorem gX5_does_X5_begin : GoodIn wsX5_does (wsV RX5 164 RX5 yX5_begin wsX5_begin) := goodIn_app (goodIn_of _ (by decide +kernel)) ggX5_does_X5_begin
set_option maxRecDepth 20000 in
theorem ggX5_does_X5_end : GoodIn wsX5_does wsX5_end := goodIn_r _ [85, 7, 86, 87, 88, 11, 89, 72, 90, 67, 68, 69, 70, 47, 71, 41, 42, 43, 44, 36, 45, 46, 95, 96, 97, 98, 99, 100, 101, 102, 103, 104, 105, 106, 107, 108, 109, 110, 111, 112, 113, 114, 115, 116, 117, 118, 119, 120, 121, 122, 123] (by decide +kernel) (by decide +kernel)
set_option maxRecDepth 20000 in
theorem gX5_does_X5_end : GoodIn wsX5_does (wsV RX5 167 RX5 yX5_end wsX5_end) := goodIn_app (goodIn_of _ (by decide +kernel)) ggX5_does_X5_end
set_option maxRecDepth 20000 in
theorem ggX5_does_X5_abort : GoodIn wsX5_does wsX5_abort := goodIn_r _ [94, 7, 29, 30, 31, 11, 32, 33, 34, 35, 36, 13, 37, 38, 39, 40, 41, 42, 43, 44, 45, 46, 47, 95, 96, 97, 98, 99, 100, 101, 102, 103, 104, 105, 106, 107, 108, 109, 110, 111, 112, 113, 114, 115, 116, 117, 118, 119, 120, 121, 122, 123] (by decide +kernel) (by decide +kernel)
set_option maxRecDepth 20000 in
theorem gX5_does_X5_abort : GoodIn wsX5_does (wsV RX5 170 RX5 yX5_abort wsX5_abort) := goodIn_app (goodIn_of _ (by decide +kernel)) ggX5_does_X5_abort
theorem dX5_does_0 : decode cX5_does 0 = .ok (.aload_n 0, 1) := by decide +kernel
theorem dX5_does_1 : decode cX5_does 1 = .ok (.getfield 16, 3) := by decide +kernel
theorem dX5_does_4 : decode cX5_does 4 = .ok (.iload_n 2, 1) := by decide +kernel
theorem dX5_does_5 : decode cX5_does 5 = .ok (.iaload, 1) := by decide +kernel
theorem dX5_does_6 : decode cX5_does 6 = .ok (.istore_n 3, 1) := by decide +kernel
theorem dX5_does_7 : decode cX5_does 7 = .ok (.aload_n 0, 1) := by decide +kernel
theorem dX5_does_8 : decode cX5_does 8 = .ok (.getfield 19, 3) := by decide +kernel
theorem dX5_does_11 : decode cX5_does 11 = .ok (.iload_n 2, 1) := by decide +kernel
theorem dX5_does_12 : decode cX5_does 12 = .ok (.iaload, 1) := by decide +kernel
theorem dX5_does_13 : decode cX5_does 13 = .ok (.istore 4, 2) := by decide +kernel
theorem dX5_does_15 : decode cX5_does 15 = .ok (.aload_n 0, 1) := by decide +kernel
theorem dX5_does_16 : decode cX5_does 16 = .ok (.getfield 22, 3) := by decide +kernel
theorem dX5_does_19 : decode cX5_does 19 = .ok (.iload_n 2, 1) := by decide +kernel
theorem dX5_does_20 : decode cX5_does 20 = .ok (.iaload, 1) := by decide +kernel
theorem dX5_does_21 : decode cX5_does 21 = .ok (.istore 5, 2) := by decide +kernel
theorem dX5_does_23 : decode cX5_does 23 = .ok (.aload_n 0, 1) := by decide +kernel
theorem dX5_does_24 : decode cX5_does 24 = .ok (.getfield 13, 3) := by decide +kernel
theorem dX5_does_27 : decode cX5_does 27 = .ok (.iload_n 2, 1) := by decide +kernel
theorem dX5_does_28 : decode cX5_does 28 = .ok (.iaload, 1) := by decide +kernel
theorem dX5_does_29 : decode cX5_does 29 = .ok (.tableswitch 331 0 13 #[71, 81, 104, 127, 150, 168, 185, 202, 233, 264, 272, 281, 288, 304], 71) := by decide +kernel
theorem dX5_does_100 : decode cX5_does 100 = .ok (.aload_n 0, 1) := by decide +kernel
theorem dX5_does_101 : decode cX5_does 101 = .ok (.iload_n 1, 1) := by decide +kernel
theorem dX5_does_102 : decode cX5_does 102 = .ok (.iload_n 3, 1) := by decide +kernel
theorem dX5_does_103 : decode cX5_does 103 = .ok (.iload 5, 2) := by decide +kernel
theorem dX5_does_105 : decode cX5_does 105 = .ok (.invokevirtual 117, 3) := by decide +kernel
theorem dX5_does_108 : decode cX5_does 108 = .ok (.iconst 1, 1) := by decide +kernel
theorem dX5_does_109 : decode cX5_does 109 = .ok (.ireturn, 1) := by decide +kernel
theorem dX5_does_110 : decode cX5_does 110 = .ok (.aload_n 0, 1) := by decide +kernel
theorem dX5_does_111 : decode cX5_does 111 = .ok (.iload_n 1, 1) := by decide +kernel
theorem dX5_does_112 : decode cX5_does 112 = .ok (.iload_n 3, 1) := by decide +kernel
theorem dX5_does_113 : decode cX5_does 113 = .ok (.aload_n 0, 1) := by decide +kernel
theorem dX5_does_114 : decode cX5_does 114 = .ok (.iload_n 1, 1) := by decide +kernel
theorem dX5_does_115 : decode cX5_does 115 = .ok (.iload 4, 2) := by decide +kernel
theorem dX5_does_117 : decode cX5_does 117 = .ok (.invokevirtual 113, 3) := by decide +kernel
theorem dX5_does_120 : decode cX5_does 120 = .ok (.aload_n 0, 1) := by decide +kernel
theorem dX5_does_121 : decode cX5_does 121 = .ok (.iload_n 1, 1) := by decide +kernel
theorem dX5_does_122 : decode cX5_does 122 = .ok (.iload 5, 2) := by decide +kernel
theorem dX5_does_124 : decode cX5_does 124 = .ok (.invokevirtual 113, 3) := by decide +kernel
theorem dX5_does_127 : decode cX5_does 127 = .ok (.iadd, 1) := by decide +kernel
theorem dX5_does_128 : decode cX5_does 128 = .ok (.invokevirtual 117, 3) := by decide +kernel
theorem dX5_does_131 : decode cX5_does 131 = .ok (.iconst 1, 1) := by decide +kernel
theorem dX5_does_132 : decode cX5_does 132 = .ok (.ireturn, 1) := by decide +kernel
theorem dX5_does_133 : decode cX5_does 133 = .ok (.aload_n 0, 1) := by decide +kernel
theorem dX5_does_134 : decode cX5_does 134 = .ok (.iload_n 1, 1) := by decide +kernel
theorem dX5_does_135 : decode cX5_does 135 = .ok (.iload_n 3, 1) := by decide +kernel
theorem dX5_does_136 : decode cX5_does 136 = .ok (.aload_n 0, 1) := by decide +kernel
theorem dX5_does_137 : decode cX5_does 137 = .ok (.iload_n 1, 1) := by decide +kernel
theorem dX5_does_138 : decode cX5_does 138 = .ok (.iload 4, 2) := by decide +kernel
theorem dX5_does_140 : decode cX5_does 140 = .ok (.invokevirtual 113, 3) := by decide +kernel
theorem dX5_does_143 : decode cX5_does 143 = .ok (.aload_n 0, 1) := by decide +kernel
theorem dX5_does_144 : decode cX5_does 144 = .ok (.iload_n 1, 1) := by decide +kernel
theorem dX5_does_145 : decode cX5_does 145 = .ok (.iload 5, 2) := by decide +kernel
theorem dX5_does_147 : decode cX5_does 147 = .ok (.invokevirtual 113, 3) := by decide +kernel
theorem dX5_does_150 : decode cX5_does 150 = .ok (.isub, 1) := by decide +kernel
theorem dX5_does_151 : decode cX5_does 151 = .ok (.invokevirtual 117, 3) := by decide +kernel
theorem dX5_does_154 : decode cX5_does 154 = .ok (.iconst 1, 1) := by decide +kernel
theorem dX5_does_155 : decode cX5_does 155 = .ok (.ireturn, 1) := by decide +kernel
theorem dX5_does_156 : decode cX5_does 156 = .ok (.aload_n 0, 1) := by decide +kernel
theorem dX5_does_157 : decode cX5_does 157 = .ok (.iload_n 1, 1) := by decide +kernel
theorem dX5_does_158 : decode cX5_does 158 = .ok (.iload_n 3, 1) := by decide +kernel
theorem dX5_does_159 : decode cX5_does 159 = .ok (.aload_n 0, 1) := by decide +kernel
theorem dX5_does_160 : decode cX5_does 160 = .ok (.iload_n 1, 1) := by decide +kernel
theorem dX5_does_161 : decode cX5_does 161 = .ok (.iload 4, 2) := by decide +kernel
theorem dX5_does_163 : decode cX5_does 163 = .ok (.invokevirtual 113, 3) := by decide +kernel
theorem dX5_does_166 : decode cX5_does 166 = .ok (.aload_n 0, 1) := by decide +kernel
theorem dX5_does_167 : decode cX5_does 167 = .ok (.iload_n 1, 1) := by decide +kernel
theorem dX5_does_168 : decode cX5_does 168 = .ok (.iload 5, 2) := by decide +kernel
theorem dX5_does_170 : decode cX5_does 170 = .ok (.invokevirtual 113, 3) := by decide +kernel
theorem dX5_does_173 : decode cX5_does 173 = .ok (.imul, 1) := by decide +kernel
theorem dX5_does_174 : decode cX5_does 174 = .ok (.invokevirtual 117, 3) := by decide +kernel
theorem dX5_does_177 : decode cX5_does 177 = .ok (.iconst 1, 1) := by decide +kernel
theorem dX5_does_178 : decode cX5_does 178 = .ok (.ireturn, 1) := by decide +kernel
theorem dX5_does_179 : decode cX5_does 179 = .ok (.aload_n 0, 1) := by decide +kernel
theorem dX5_does_180 : decode cX5_does 180 = .ok (.iload_n 1, 1) := by decide +kernel
theorem dX5_does_181 : decode cX5_does 181 = .ok (.iload_n 3, 1) := by decide +kernel
theorem dX5_does_182 : decode cX5_does 182 = .ok (.aload_n 0, 1) := by decide +kernel
theorem dX5_does_183 : decode cX5_does 183 = .ok (.iload_n 1, 1) := by decide +kernel
theorem dX5_does_184 : decode cX5_does 184 = .ok (.iload 4, 2) := by decide +kernel
theorem dX5_does_186 : decode cX5_does 186 = .ok (.invokevirtual 113, 3) := by decide +kernel
theorem dX5_does_189 : decode cX5_does 189 = .ok (.iload 5, 2) := by decide +kernel
theorem dX5_does_191 : decode cX5_does 191 = .ok (.iadd, 1) := by decide +kernel
theorem dX5_does_192 : decode cX5_does 192 = .ok (.invokevirtual 117, 3) := by decide +kernel
theorem dX5_does_195 : decode cX5_does 195 = .ok (.iconst 1, 1) := by decide +kernel
theorem dX5_does_196 : decode cX5_does 196 = .ok (.ireturn, 1) := by decide +kernel
theorem dX5_does_197 : decode cX5_does 197 = .ok (.aload_n 0, 1) := by decide +kernel
theorem dX5_does_198 : decode cX5_does 198 = .ok (.iload_n 1, 1) := by decide +kernel
theorem dX5_does_199 : decode cX5_does 199 = .ok (.iload_n 3, 1) := by decide +kernel
theorem dX5_does_200 : decode cX5_does 200 = .ok (.aload_n 0, 1) := by decide +kernel
theorem dX5_does_201 : decode cX5_does 201 = .ok (.iload_n 1, 1) := by decide +kernel
theorem dX5_does_202 : decode cX5_does 202 = .ok (.iload 4, 2) := by decide +kernel
theorem dX5_does_204 : decode cX5_does 204 = .ok (.invokevirtual 113, 3) := by decide +kernel
theorem dX5_does_207 : decode cX5_does 207 = .ok (.iload 5, 2) := by decide +kernel
theorem dX5_does_209 : decode cX5_does 209 = .ok (.iadd, 1) := by decide +kernel
theorem dX5_does_210 : decode cX5_does 210 = .ok (.invokevirtual 154, 3) := by decide +kernel
theorem dX5_does_213 : decode cX5_does 213 = .ok (.ireturn, 1) := by decide +kernel
theorem dX5_does_214 : decode cX5_does 214 = .ok (.aload_n 0, 1) := by decide +kernel
theorem dX5_does_215 : decode cX5_does 215 = .ok (.iload_n 1, 1) := by decide +kernel
theorem dX5_does_216 : decode cX5_does 216 = .ok (.iload_n 3, 1) := by decide +kernel
theorem dX5_does_217 : decode cX5_does 217 = .ok (.aload_n 0, 1) := by decide +kernel
theorem dX5_does_218 : decode cX5_does 218 = .ok (.iload_n 1, 1) := by decide +kernel
theorem dX5_does_219 : decode cX5_does 219 = .ok (.iload 4, 2) := by decide +kernel
theorem dX5_does_221 : decode cX5_does 221 = .ok (.invokevirtual 113, 3) := by decide +kernel
theorem dX5_does_224 : decode cX5_does 224 = .ok (.iload 5, 2) := by decide +kernel
theorem dX5_does_226 : decode cX5_does 226 = .ok (.iadd, 1) := by decide +kernel
theorem dX5_does_227 : decode cX5_does 227 = .ok (.invokevirtual 158, 3) := by decide +kernel
theorem dX5_does_230 : decode cX5_does 230 = .ok (.ireturn, 1) := by decide +kernel
theorem dX5_does_231 : decode cX5_does 231 = .ok (.aload_n 0, 1) := by decide +kernel
theorem dX5_does_232 : decode cX5_does 232 = .ok (.aload_n 0, 1) := by decide +kernel
theorem dX5_does_233 : decode cX5_does 233 = .ok (.iload_n 1, 1) := by decide +kernel
theorem dX5_does_234 : decode cX5_does 234 = .ok (.iload_n 3, 1) := by decide +kernel
theorem dX5_does_235 : decode cX5_does 235 = .ok (.invokevirtual 113, 3) := by decide +kernel
theorem dX5_does_238 : decode cX5_does 238 = .ok (.aload_n 0, 1) := by decide +kernel
theorem dX5_does_239 : decode cX5_does 239 = .ok (.iload_n 1, 1) := by decide +kernel
theorem dX5_does_240 : decode cX5_does 240 = .ok (.iload 4, 2) := by decide +kernel
theorem dX5_does_242 : decode cX5_does 242 = .ok (.invokevirtual 113, 3) := by decide +kernel
theorem dX5_does_245 : decode cX5_does 245 = .ok (.if_icmp .ge 8, 3) := by decide +kernel
theorem dX5_does_248 : decode cX5_does 248 = .ok (.iload 5, 2) := by decide +kernel
theorem dX5_does_250 : decode cX5_does 250 = .ok (.goto 7, 3) := by decide +kernel
theorem dX5_does_253 : decode cX5_does 253 = .ok (.aload_n 0, 1) := by decide +kernel
theorem dX5_does_254 : decode cX5_does 254 = .ok (.getfield 161, 3) := by decide +kernel
theorem dX5_does_257 : decode cX5_does 257 = .ok (.putfield 161, 3) := by decide +kernel
theorem dX5_does_260 : decode cX5_does 260 = .ok (.iconst 1, 1) := by decide +kernel
theorem dX5_does_261 : decode cX5_does 261 = .ok (.ireturn, 1) := by decide +kernel
theorem dX5_does_262 : decode cX5_does 262 = .ok (.aload_n 0, 1) := by decide +kernel
theorem dX5_does_263 : decode cX5_does 263 = .ok (.aload_n 0, 1) := by decide +kernel
theorem dX5_does_264 : decode cX5_does 264 = .ok (.iload_n 1, 1) := by decide +kernel
theorem dX5_does_265 : decode cX5_does 265 = .ok (.iload_n 3, 1) := by decide +kernel
theorem dX5_does_266 : decode cX5_does 266 = .ok (.invokevirtual 113, 3) := by decide +kernel
theorem dX5_does_269 : decode cX5_does 269 = .ok (.aload_n 0, 1) := by decide +kernel
theorem dX5_does_270 : decode cX5_does 270 = .ok (.iload_n 1, 1) := by decide +kernel
theorem dX5_does_271 : decode cX5_does 271 = .ok (.iload 4, 2) := by decide +kernel
theorem dX5_does_273 : decode cX5_does 273 = .ok (.invokevirtual 113, 3) := by decide +kernel
theorem dX5_does_276 : decode cX5_does 276 = .ok (.if_icmp .eq 8, 3) := by decide +kernel
theorem dX5_does_279 : decode cX5_does 279 = .ok (.iload 5, 2) := by decide +kernel
theorem dX5_does_281 : decode cX5_does 281 = .ok (.goto 7, 3) := by decide +kernel
theorem dX5_does_284 : decode cX5_does 284 = .ok (.aload_n 0, 1) := by decide +kernel
theorem dX5_does_285 : decode cX5_does 285 = .ok (.getfield 161, 3) := by decide +kernel
theorem dX5_does_288 : decode cX5_does 288 = .ok (.putfield 161, 3) := by decide +kernel
theorem dX5_does_291 : decode cX5_does 291 = .ok (.iconst 1, 1) := by decide +kernel
theorem dX5_does_292 : decode cX5_does 292 = .ok (.ireturn, 1) := by decide +kernel
theorem dX5_does_293 : decode cX5_does 293 = .ok (.aload_n 0, 1) := by decide +kernel
theorem dX5_does_294 : decode cX5_does 294 = .ok (.iload 5, 2) := by decide +kernel
theorem dX5_does_296 : decode cX5_does 296 = .ok (.putfield 161, 3) := by decide +kernel
theorem dX5_does_299 : decode cX5_does 299 = .ok (.iconst 1, 1) := by decide +kernel
theorem dX5_does_300 : decode cX5_does 300 = .ok (.ireturn, 1) := by decide +kernel
theorem dX5_does_301 : decode cX5_does 301 = .ok (.aload_n 0, 1) := by decide +kernel
theorem dX5_does_302 : decode cX5_does 302 = .ok (.iload_n 1, 1) := by decide +kernel
theorem dX5_does_303 : decode cX5_does 303 = .ok (.iload_n 2, 1) := by decide +kernel
theorem dX5_does_304 : decode cX5_does 304 = .ok (.iload 5, 2) := by decide +kernel
theorem dX5_does_306 : decode cX5_does 306 = .ok (.invokevirtual 164, 3) := by decide +kernel
theorem dX5_does_309 : decode cX5_does 309 = .ok (.ireturn, 1) := by decide +kernel
theorem dX5_does_310 : decode cX5_does 310 = .ok (.aload_n 0, 1) := by decide +kernel
theorem dX5_does_311 : decode cX5_does 311 = .ok (.iload_n 1, 1) := by decide +kernel
theorem dX5_does_312 : decode cX5_does 312 = .ok (.invokevirtual 167, 3) := by decide +kernel
theorem dX5_does_315 : decode cX5_does 315 = .ok (.iconst 1, 1) := by decide +kernel
theorem dX5_does_316 : decode cX5_does 316 = .ok (.ireturn, 1) := by decide +kernel
theorem dX5_does_317 : decode cX5_does 317 = .ok (.aload_n 0, 1) := by decide +kernel
end
section
theorem dX5_does_318 : decode cX5_does 318 = .ok (.iload_n 1, 1) := by decide +kernel
theorem dX5_does_319 : decode cX5_does 319 = .ok (.sipush 256, 3) := by decide +kernel
theorem dX5_does_322 : decode cX5_does 322 = .ok (.aload_n 0, 1) := by decide +kernel
theorem dX5_does_323 : decode cX5_does 323 = .ok (.iload_n 1, 1) := by decide +kernel
theorem dX5_does_324 : decode cX5_does 324 = .ok (.iload_n 3, 1) := by decide +kernel
theorem dX5_does_325 : decode cX5_does 325 = .ok (.invokevirtual 113, 3) := by decide +kernel
theorem dX5_does_328 : decode cX5_does 328 = .ok (.iadd, 1) := by decide +kernel
theorem dX5_does_329 : decode cX5_does 329 = .ok (.invokevirtual 170, 3) := by decide +kernel
theorem dX5_does_332 : decode cX5_does 332 = .ok (.ireturn, 1) := by decide +kernel
theorem dX5_does_333 : decode cX5_does 333 = .ok (.aload_n 0, 1) := by decide +kernel
theorem dX5_does_334 : decode cX5_does 334 = .ok (.getfield 28, 3) := by decide +kernel
theorem dX5_does_337 : decode cX5_does 337 = .ok (.iload_n 1, 1) := by decide +kernel
theorem dX5_does_338 : decode cX5_does 338 = .ok (.aload_n 0, 1) := by decide +kernel
theorem dX5_does_339 : decode cX5_does 339 = .ok (.getfield 38, 3) := by decide +kernel
theorem dX5_does_342 : decode cX5_does 342 = .ok (.iload_n 1, 1) := by decide +kernel
theorem dX5_does_343 : decode cX5_does 343 = .ok (.iaload, 1) := by decide +kernel
theorem dX5_does_344 : decode cX5_does 344 = .ok (.ifCond .ne 7, 3) := by decide +kernel
theorem dX5_does_347 : decode cX5_does 347 = .ok (.iconst 1, 1) := by decide +kernel
theorem dX5_does_348 : decode cX5_does 348 = .ok (.goto 4, 3) := by decide +kernel
theorem dX5_does_351 : decode cX5_does 351 = .ok (.iconst 0, 1) := by decide +kernel
theorem dX5_does_352 : decode cX5_does 352 = .ok (.bastore, 1) := by decide +kernel
theorem dX5_does_353 : decode cX5_does 353 = .ok (.aload_n 0, 1) := by decide +kernel
theorem dX5_does_354 : decode cX5_does 354 = .ok (.iload_n 1, 1) := by decide +kernel
theorem dX5_does_355 : decode cX5_does 355 = .ok (.iconst 5, 1) := by decide +kernel
theorem dX5_does_356 : decode cX5_does 356 = .ok (.invokevirtual 170, 3) := by decide +kernel
theorem dX5_does_359 : decode cX5_does 359 = .ok (.ireturn, 1) := by decide +kernel
theorem dX5_does_360 : decode cX5_does 360 = .ok (.iconst 1, 1) := by decide +kernel
theorem dX5_does_361 : decode cX5_does 361 = .ok (.ireturn, 1) := by decide +kernel
set_option maxRecDepth 20000 in
theorem ggX5_step_X5_isIn : GoodIn wsX5_step wsX5_isIn := goodIn_r _ [9] (by decide +kernel) (by decide +kernel)
set_option maxRecDepth 20000 in
theorem gX5_step_X5_isIn : GoodIn wsX5_step (va_wsS RX5 92 yX5_isIn wsX5_isIn) := goodIn_app (goodIn_of _ (by decide +kernel)) ggX5_step_X5_isIn
set_option maxRecDepth 20000 in
theorem ggX5_step_X5_faults : GoodIn wsX5_step wsX5_faults := goodIn_r _ [13, 14, 1, 15, 16, 17, 8, 18, 19, 20, 21, 22, 23, 24, 2, 25, 26, 27, 28, 29, 30, 31, 32, 33, 101, 102, 103, 104, 105, 106, 107, 108, 109, 110, 111, 112, 113, 114, 115, 116, 117, 118, 119, 120, 121, 122, 123, 124, 125, 126, 127, 128, 129] (by decide +kernel) (by decide +kernel)
set_option maxRecDepth 20000 in
theorem gX5_step_X5_faults : GoodIn wsX5_step (wsV RX5 142 RX5 yX5_faults wsX5_faults) := goodIn_app (goodIn_of _ (by decide +kernel)) ggX5_step_X5_faults
set_option maxRecDepth 20000 in
theorem ggX5_step_X5_does : GoodIn wsX5_step wsX5_does := goodIn_r _ [37, 38, 39, 40, 41, 4, 1, 14, 42, 43, 44, 8, 45, 23, 46, 47, 48, 49, 50, 51, 52, 53, 6, 7, 9, 10, 11, 12, 13, 15, 16, 17, 18, 19, 20, 21, 22, 24, 2, 25, 26, 27, 28, 29, 30, 31, 32, 33, 54, 55, 56, 57, 58, 59, 60, 61, 62, 63, 64, 65, 66, 67, 68, 69, 70, 71, 72, 73, 74, 75, 76, 77, 78, 79, 80, 81, 82, 83, 84, 85, 86, 87, 88, 89, 90, 91, 92, 93, 94, 95, 96, 97, 98, 99, 100, 101, 102, 103, 104, 105, 106, 107, 108, 109, 110, 111, 112, 113, 114, 115, 116, 117, 118, 119, 120, 121, 122, 123, 124, 125, 126, 127, 128, 129] (by decide +kernel) (by decide +kernel)
set_option maxRecDepth 20000 in
theorem gX5_step_X5_does : GoodIn wsX5_step (wsV RX5 173 RX5 yX5_does wsX5_does) := goodIn_app (goodIn_of _ (by decide +kernel)) ggX5_step_X5_does
theorem dX5_step_0 : decode cX5_step 0 = .ok (.aload_n 0, 1) := by decide +kernel
theorem dX5_step_1 : decode cX5_step 1 = .ok (.getfield 28, 3) := by decide +kernel
theorem dX5_step_4 : decode cX5_step 4 = .ok (.iload_n 1, 1) := by decide +kernel
theorem dX5_step_5 : decode cX5_step 5 = .ok (.baload, 1) := by decide +kernel
theorem dX5_step_6 : decode cX5_step 6 = .ok (.ifCond .eq 5, 3) := by decide +kernel
theorem dX5_step_9 : decode cX5_step 9 = .ok (.iconst 0, 1) := by decide +kernel
theorem dX5_step_10 : decode cX5_step 10 = .ok (.ireturn, 1) := by decide +kernel
theorem dX5_step_11 : decode cX5_step 11 = .ok (.aload_n 0, 1) := by decide +kernel
theorem dX5_step_12 : decode cX5_step 12 = .ok (.getfield 25, 3) := by decide +kernel
theorem dX5_step_15 : decode cX5_step 15 = .ok (.iload_n 1, 1) := by decide +kernel
theorem dX5_step_16 : decode cX5_step 16 = .ok (.iaload, 1) := by decide +kernel
theorem dX5_step_17 : decode cX5_step 17 = .ok (.istore_n 2, 1) := by decide +kernel
theorem dX5_step_18 : decode cX5_step 18 = .ok (.iload_n 2, 1) := by decide +kernel
theorem dX5_step_19 : decode cX5_step 19 = .ok (.aload_n 0, 1) := by decide +kernel
theorem dX5_step_20 : decode cX5_step 20 = .ok (.getfield 106, 3) := by decide +kernel
theorem dX5_step_23 : decode cX5_step 23 = .ok (.invokestatic 92, 3) := by decide +kernel
theorem dX5_step_26 : decode cX5_step 26 = .ok (.ifCond .ne 11, 3) := by decide +kernel
theorem dX5_step_29 : decode cX5_step 29 = .ok (.aload_n 0, 1) := by decide +kernel
theorem dX5_step_30 : decode cX5_step 30 = .ok (.iload_n 1, 1) := by decide +kernel
theorem dX5_step_31 : decode cX5_step 31 = .ok (.invokevirtual 142, 3) := by decide +kernel
theorem dX5_step_34 : decode cX5_step 34 = .ok (.pop, 1) := by decide +kernel
theorem dX5_step_35 : decode cX5_step 35 = .ok (.iconst 0, 1) := by decide +kernel
theorem dX5_step_36 : decode cX5_step 36 = .ok (.ireturn, 1) := by decide +kernel
theorem dX5_step_37 : decode cX5_step 37 = .ok (.aload_n 0, 1) := by decide +kernel
theorem dX5_step_38 : decode cX5_step 38 = .ok (.iload_n 2, 1) := by decide +kernel
theorem dX5_step_39 : decode cX5_step 39 = .ok (.iconst 1, 1) := by decide +kernel
theorem dX5_step_40 : decode cX5_step 40 = .ok (.iadd, 1) := by decide +kernel
theorem dX5_step_41 : decode cX5_step 41 = .ok (.putfield 161, 3) := by decide +kernel
theorem dX5_step_44 : decode cX5_step 44 = .ok (.aload_n 0, 1) := by decide +kernel
theorem dX5_step_45 : decode cX5_step 45 = .ok (.iload_n 1, 1) := by decide +kernel
theorem dX5_step_46 : decode cX5_step 46 = .ok (.iload_n 2, 1) := by decide +kernel
theorem dX5_step_47 : decode cX5_step 47 = .ok (.invokevirtual 173, 3) := by decide +kernel
theorem dX5_step_50 : decode cX5_step 50 = .ok (.ifCond .ne 5, 3) := by decide +kernel
theorem dX5_step_53 : decode cX5_step 53 = .ok (.iconst 0, 1) := by decide +kernel
theorem dX5_step_54 : decode cX5_step 54 = .ok (.ireturn, 1) := by decide +kernel
theorem dX5_step_55 : decode cX5_step 55 = .ok (.aload_n 0, 1) := by decide +kernel
theorem dX5_step_56 : decode cX5_step 56 = .ok (.getfield 25, 3) := by decide +kernel
theorem dX5_step_59 : decode cX5_step 59 = .ok (.iload_n 1, 1) := by decide +kernel
theorem dX5_step_60 : decode cX5_step 60 = .ok (.aload_n 0, 1) := by decide +kernel
theorem dX5_step_61 : decode cX5_step 61 = .ok (.getfield 161, 3) := by decide +kernel
theorem dX5_step_64 : decode cX5_step 64 = .ok (.iastore, 1) := by decide +kernel
theorem dX5_step_65 : decode cX5_step 65 = .ok (.aload_n 0, 1) := by decide +kernel
theorem dX5_step_66 : decode cX5_step 66 = .ok (.getfield 32, 3) := by decide +kernel
theorem dX5_step_69 : decode cX5_step 69 = .ok (.iload_n 1, 1) := by decide +kernel
theorem dX5_step_70 : decode cX5_step 70 = .ok (.dup2, 1) := by decide +kernel
theorem dX5_step_71 : decode cX5_step 71 = .ok (.iaload, 1) := by decide +kernel
theorem dX5_step_72 : decode cX5_step 72 = .ok (.iconst 1, 1) := by decide +kernel
theorem dX5_step_73 : decode cX5_step 73 = .ok (.iadd, 1) := by decide +kernel
theorem dX5_step_74 : decode cX5_step 74 = .ok (.iastore, 1) := by decide +kernel
theorem dX5_step_75 : decode cX5_step 75 = .ok (.iconst 1, 1) := by decide +kernel
theorem dX5_step_76 : decode cX5_step 76 = .ok (.ireturn, 1) := by decide +kernel
set_option maxRecDepth 20000 in
theorem ggX5_pick_X5_isIn : GoodIn wsX5_pick wsX5_isIn := goodIn_r _ [7] (by decide +kernel) (by decide +kernel)
set_option maxRecDepth 20000 in
theorem gX5_pick_X5_isIn : GoodIn wsX5_pick (va_wsS RX5 92 yX5_isIn wsX5_isIn) := goodIn_app (goodIn_of _ (by decide +kernel)) ggX5_pick_X5_isIn
set_option maxRecDepth 20000 in
theorem ggX5_pick_X5_step : GoodIn wsX5_pick wsX5_step := goodIn_r _ [11, 3, 12, 13, 14, 15, 4, 5, 6, 7, 16, 17, 18, 19, 20, 21, 22, 23, 24, 25, 26, 27, 28, 29, 30, 31, 32, 33, 34, 35, 36, 37, 38, 39, 40, 41, 42, 43, 44, 45, 46, 47, 48, 49, 50, 51, 52, 53, 54, 55, 56, 57, 58, 59, 60, 61, 62, 63, 1, 64, 65, 66, 67, 68, 69, 70, 71, 72, 73, 74, 75, 76, 77, 78, 79, 80, 81, 82, 83, 84, 85, 86, 87, 88, 89, 90, 91, 92, 93, 94, 95, 96, 97, 98, 99, 100, 101, 102, 103, 104, 105, 106, 107, 108, 109, 110, 111, 112, 113, 114, 115, 116, 117, 118, 119, 120, 121, 122, 123, 124, 125, 126, 127, 128, 129, 130, 131, 132, 133, 134] (by decide +kernel) (by decide +kernel)
set_option maxRecDepth 20000 in
theorem gX5_pick_X5_step : GoodIn wsX5_pick (wsV RX5 176 RX5 yX5_step wsX5_step) := goodIn_app (goodIn_of _ (by decide +kernel)) ggX5_pick_X5_step
theorem dX5_pick_0 : decode cX5_pick 0 = .ok (.aload_n 0, 1) := by decide +kernel
theorem dX5_pick_1 : decode cX5_pick 1 = .ok (.iload_n 1, 1) := by decide +kernel
theorem dX5_pick_2 : decode cX5_pick 2 = .ok (.aload_n 0, 1) := by decide +kernel
theorem dX5_pick_3 : decode cX5_pick 3 = .ok (.getfield 79, 3) := by decide +kernel
theorem dX5_pick_6 : decode cX5_pick 6 = .ok (.invokestatic 92, 3) := by decide +kernel
theorem dX5_pick_9 : decode cX5_pick 9 = .ok (.ifCond .ne 7, 3) := by decide +kernel
theorem dX5_pick_12 : decode cX5_pick 12 = .ok (.iconst 1, 1) := by decide +kernel
theorem dX5_pick_13 : decode cX5_pick 13 = .ok (.goto 19, 3) := by decide +kernel
theorem dX5_pick_16 : decode cX5_pick 16 = .ok (.iload_n 2, 1) := by decide +kernel
theorem dX5_pick_17 : decode cX5_pick 17 = .ok (.ifCond .lt 10, 3) := by decide +kernel
theorem dX5_pick_20 : decode cX5_pick 20 = .ok (.iload_n 2, 1) := by decide +kernel
theorem dX5_pick_21 : decode cX5_pick 21 = .ok (.sipush 2000, 3) := by decide +kernel
theorem dX5_pick_24 : decode cX5_pick 24 = .ok (.if_icmp .le 7, 3) := by decide +kernel
theorem dX5_pick_27 : decode cX5_pick 27 = .ok (.iconst 2, 1) := by decide +kernel
theorem dX5_pick_28 : decode cX5_pick 28 = .ok (.goto 4, 3) := by decide +kernel
theorem dX5_pick_31 : decode cX5_pick 31 = .ok (.iconst 0, 1) := by decide +kernel
theorem dX5_pick_32 : decode cX5_pick 32 = .ok (.putfield 89, 3) := by decide +kernel
theorem dX5_pick_35 : decode cX5_pick 35 = .ok (.iconst 0, 1) := by decide +kernel
theorem dX5_pick_36 : decode cX5_pick 36 = .ok (.istore_n 3, 1) := by decide +kernel
theorem dX5_pick_37 : decode cX5_pick 37 = .ok (.iconst 0, 1) := by decide +kernel
theorem dX5_pick_38 : decode cX5_pick 38 = .ok (.istore 4, 2) := by decide +kernel
theorem dX5_pick_40 : decode cX5_pick 40 = .ok (.iload 4, 2) := by decide +kernel
theorem dX5_pick_42 : decode cX5_pick 42 = .ok (.iload_n 2, 1) := by decide +kernel
theorem dX5_pick_43 : decode cX5_pick 43 = .ok (.if_icmp .ge 33, 3) := by decide +kernel
theorem dX5_pick_46 : decode cX5_pick 46 = .ok (.aload_n 0, 1) := by decide +kernel
theorem dX5_pick_47 : decode cX5_pick 47 = .ok (.getfield 89, 3) := by decide +kernel
theorem dX5_pick_50 : decode cX5_pick 50 = .ok (.ifCond .ne 26, 3) := by decide +kernel
theorem dX5_pick_53 : decode cX5_pick 53 = .ok (.aload_n 0, 1) := by decide +kernel
theorem dX5_pick_54 : decode cX5_pick 54 = .ok (.getfield 28, 3) := by decide +kernel
theorem dX5_pick_57 : decode cX5_pick 57 = .ok (.iload_n 1, 1) := by decide +kernel
theorem dX5_pick_58 : decode cX5_pick 58 = .ok (.baload, 1) := by decide +kernel
theorem dX5_pick_59 : decode cX5_pick 59 = .ok (.ifCond .ne 17, 3) := by decide +kernel
theorem dX5_pick_62 : decode cX5_pick 62 = .ok (.iload_n 3, 1) := by decide +kernel
theorem dX5_pick_63 : decode cX5_pick 63 = .ok (.aload_n 0, 1) := by decide +kernel
theorem dX5_pick_64 : decode cX5_pick 64 = .ok (.iload_n 1, 1) := by decide +kernel
theorem dX5_pick_65 : decode cX5_pick 65 = .ok (.invokevirtual 176, 3) := by decide +kernel
theorem dX5_pick_68 : decode cX5_pick 68 = .ok (.iadd, 1) := by decide +kernel
theorem dX5_pick_69 : decode cX5_pick 69 = .ok (.istore_n 3, 1) := by decide +kernel
theorem dX5_pick_70 : decode cX5_pick 70 = .ok (.iinc 4 1, 3) := by decide +kernel
theorem dX5_pick_73 : decode cX5_pick 73 = .ok (.goto (-33), 3) := by decide +kernel
theorem dX5_pick_76 : decode cX5_pick 76 = .ok (.iload_n 3, 1) := by decide +kernel
theorem dX5_pick_77 : decode cX5_pick 77 = .ok (.ireturn, 1) := by decide +kernel
set_option maxRecDepth 20000 in
theorem ggX5_run_X5_step : GoodIn wsX5_run wsX5_step := goodIn_r _ [8, 9, 10, 11, 12, 13, 14, 15, 7, 16, 17, 18, 19, 20, 21, 22, 23, 24, 25, 26, 27, 28, 29, 30, 31, 32, 33, 34, 35, 36, 37, 38, 39, 40, 41, 42, 43, 44, 45, 46, 47, 48, 49, 50, 51, 52, 53, 54, 55, 56, 57, 58, 59, 60, 61, 62, 63, 64, 3, 65, 66, 67, 68, 69, 70, 71, 72, 73, 74, 75, 76, 77, 78, 79, 80, 81, 82, 83, 84, 85, 86, 87, 88, 89, 90, 91, 92, 93, 94, 95, 96, 97, 98, 99, 100, 101, 102, 103, 104, 105, 106, 107, 108, 109, 110, 111, 112, 113, 114, 115, 116, 117, 118, 119, 120, 121, 122, 123, 124, 125, 126, 127, 128, 129, 130, 131, 132, 133, 134, 135] (by decide +kernel) (by decide +kernel)
set_option maxRecDepth 20000 in
theorem gX5_run_X5_step : GoodIn wsX5_run (wsV RX5 176 RX5 yX5_step wsX5_step) := goodIn_app (goodIn_of _ (by decide +kernel)) ggX5_run_X5_step
theorem dX5_run_0 : decode cX5_run 0 = .ok (.aload_n 0, 1) := by decide +kernel
theorem dX5_run_1 : decode cX5_run 1 = .ok (.iload_n 2, 1) := by decide +kernel
theorem dX5_run_2 : decode cX5_run 2 = .ok (.ifCond .lt 10, 3) := by decide +kernel
theorem dX5_run_5 : decode cX5_run 5 = .ok (.iload_n 2, 1) := by decide +kernel
theorem dX5_run_6 : decode cX5_run 6 = .ok (.sipush 2000, 3) := by decide +kernel
theorem dX5_run_9 : decode cX5_run 9 = .ok (.if_icmp .le 7, 3) := by decide +kernel
theorem dX5_run_12 : decode cX5_run 12 = .ok (.iconst 1, 1) := by decide +kernel
theorem dX5_run_13 : decode cX5_run 13 = .ok (.goto 4, 3) := by decide +kernel
theorem dX5_run_16 : decode cX5_run 16 = .ok (.iconst 0, 1) := by decide +kernel
theorem dX5_run_17 : decode cX5_run 17 = .ok (.putfield 89, 3) := by decide +kernel
theorem dX5_run_20 : decode cX5_run 20 = .ok (.iload_n 1, 1) := by decide +kernel
theorem dX5_run_21 : decode cX5_run 21 = .ok (.istore_n 3, 1) := by decide +kernel
theorem dX5_run_22 : decode cX5_run 22 = .ok (.iconst 0, 1) := by decide +kernel
theorem dX5_run_23 : decode cX5_run 23 = .ok (.istore 4, 2) := by decide +kernel
theorem dX5_run_25 : decode cX5_run 25 = .ok (.iconst 0, 1) := by decide +kernel
theorem dX5_run_26 : decode cX5_run 26 = .ok (.istore 5, 2) := by decide +kernel
theorem dX5_run_28 : decode cX5_run 28 = .ok (.iload 5, 2) := by decide +kernel
theorem dX5_run_30 : decode cX5_run 30 = .ok (.iload_n 2, 1) := by decide +kernel
theorem dX5_run_31 : decode cX5_run 31 = .ok (.if_icmp .ge 43, 3) := by decide +kernel
theorem dX5_run_34 : decode cX5_run 34 = .ok (.aload_n 0, 1) := by decide +kernel
theorem dX5_run_35 : decode cX5_run 35 = .ok (.getfield 89, 3) := by decide +kernel
theorem dX5_run_38 : decode cX5_run 38 = .ok (.ifCond .ne 36, 3) := by decide +kernel
theorem dX5_run_41 : decode cX5_run 41 = .ok (.iload_n 3, 1) := by decide +kernel
theorem dX5_run_42 : decode cX5_run 42 = .ok (.ldc 180, 2) := by decide +kernel
theorem dX5_run_44 : decode cX5_run 44 = .ok (.imul, 1) := by decide +kernel
theorem dX5_run_45 : decode cX5_run 45 = .ok (.sipush 12345, 3) := by decide +kernel
theorem dX5_run_48 : decode cX5_run 48 = .ok (.iadd, 1) := by decide +kernel
theorem dX5_run_49 : decode cX5_run 49 = .ok (.istore_n 3, 1) := by decide +kernel
theorem dX5_run_50 : decode cX5_run 50 = .ok (.iload 4, 2) := by decide +kernel
theorem dX5_run_52 : decode cX5_run 52 = .ok (.aload_n 0, 1) := by decide +kernel
theorem dX5_run_53 : decode cX5_run 53 = .ok (.iload_n 3, 1) := by decide +kernel
theorem dX5_run_54 : decode cX5_run 54 = .ok (.bipush 16, 2) := by decide +kernel
theorem dX5_run_56 : decode cX5_run 56 = .ok (.iushr, 1) := by decide +kernel
theorem dX5_run_57 : decode cX5_run 57 = .ok (.aload_n 0, 1) := by decide +kernel
theorem dX5_run_58 : decode cX5_run 58 = .ok (.getfield 79, 3) := by decide +kernel
theorem dX5_run_61 : decode cX5_run 61 = .ok (.irem, 1) := by decide +kernel
theorem dX5_run_62 : decode cX5_run 62 = .ok (.invokevirtual 176, 3) := by decide +kernel
theorem dX5_run_65 : decode cX5_run 65 = .ok (.iadd, 1) := by decide +kernel
theorem dX5_run_66 : decode cX5_run 66 = .ok (.istore 4, 2) := by decide +kernel
theorem dX5_run_68 : decode cX5_run 68 = .ok (.iinc 5 1, 3) := by decide +kernel
theorem dX5_run_71 : decode cX5_run 71 = .ok (.goto (-43), 3) := by decide +kernel
theorem dX5_run_74 : decode cX5_run 74 = .ok (.iload 4, 2) := by decide +kernel
theorem dX5_run_76 : decode cX5_run 76 = .ok (.ireturn, 1) := by decide +kernel
set_option maxRecDepth 20000 in
theorem ggX5_register_X5_isIn : GoodIn wsX5_register wsX5_isIn := goodIn_r _ [6] (by decide +kernel) (by decide +kernel)
set_option maxRecDepth 20000 in
theorem gX5_register_X5_isIn : GoodIn wsX5_register (va_wsS RX5 92 yX5_isIn wsX5_isIn) := goodIn_app (goodIn_of _ (by decide +kernel)) ggX5_register_X5_isIn
set_option maxRecDepth 20000 in
theorem ggX5_register_X5_get : GoodIn wsX5_register wsX5_get := goodIn_r _ [10, 11, 12, 13, 14, 15, 16, 17, 18, 19, 20, 21, 22, 23, 24, 25, 26, 27, 28, 29, 30, 31, 32, 33, 34, 35, 36, 37, 38, 39, 40] (by decide +kernel) (by decide +kernel)
set_option maxRecDepth 20000 in
theorem gX5_register_X5_get : GoodIn wsX5_register (wsV RX5 113 RX5 yX5_get wsX5_get) := goodIn_app (goodIn_of _ (by decide +kernel)) ggX5_register_X5_get
theorem dX5_register_0 : decode cX5_register 0 = .ok (.aload_n 0, 1) := by decide +kernel
theorem dX5_register_1 : decode cX5_register 1 = .ok (.iload_n 1, 1) := by decide +kernel
theorem dX5_register_2 : decode cX5_register 2 = .ok (.aload_n 0, 1) := by decide +kernel
theorem dX5_register_3 : decode cX5_register 3 = .ok (.getfield 79, 3) := by decide +kernel
theorem dX5_register_6 : decode cX5_register 6 = .ok (.invokestatic 92, 3) := by decide +kernel
theorem dX5_register_9 : decode cX5_register 9 = .ok (.ifCond .eq 16, 3) := by decide +kernel
theorem dX5_register_12 : decode cX5_register 12 = .ok (.iload_n 2, 1) := by decide +kernel
theorem dX5_register_13 : decode cX5_register 13 = .ok (.bipush 8, 2) := by decide +kernel
theorem dX5_register_15 : decode cX5_register 15 = .ok (.invokestatic 92, 3) := by decide +kernel
theorem dX5_register_18 : decode cX5_register 18 = .ok (.ifCond .eq 7, 3) := by decide +kernel
theorem dX5_register_21 : decode cX5_register 21 = .ok (.iconst 0, 1) := by decide +kernel
theorem dX5_register_22 : decode cX5_register 22 = .ok (.goto 4, 3) := by decide +kernel
theorem dX5_register_25 : decode cX5_register 25 = .ok (.iconst 1, 1) := by decide +kernel
theorem dX5_register_26 : decode cX5_register 26 = .ok (.putfield 89, 3) := by decide +kernel
theorem dX5_register_29 : decode cX5_register 29 = .ok (.aload_n 0, 1) := by decide +kernel
theorem dX5_register_30 : decode cX5_register 30 = .ok (.getfield 89, 3) := by decide +kernel
theorem dX5_register_33 : decode cX5_register 33 = .ok (.ifCond .le 7, 3) := by decide +kernel
theorem dX5_register_36 : decode cX5_register 36 = .ok (.iconst 0, 1) := by decide +kernel
theorem dX5_register_37 : decode cX5_register 37 = .ok (.goto 9, 3) := by decide +kernel
theorem dX5_register_40 : decode cX5_register 40 = .ok (.aload_n 0, 1) := by decide +kernel
theorem dX5_register_41 : decode cX5_register 41 = .ok (.iload_n 1, 1) := by decide +kernel
theorem dX5_register_42 : decode cX5_register 42 = .ok (.iload_n 2, 1) := by decide +kernel
theorem dX5_register_43 : decode cX5_register 43 = .ok (.invokevirtual 113, 3) := by decide +kernel
theorem dX5_register_46 : decode cX5_register 46 = .ok (.ireturn, 1) := by decide +kernel
set_option maxRecDepth 20000 in
theorem ggX5_word_X5_isIn : GoodIn wsX5_word wsX5_isIn := goodIn_r _ [6] (by decide +kernel) (by decide +kernel)
set_option maxRecDepth 20000 in
theorem gX5_word_X5_isIn : GoodIn wsX5_word (va_wsS RX5 92 yX5_isIn wsX5_isIn) := goodIn_app (goodIn_of _ (by decide +kernel)) ggX5_word_X5_isIn
theorem dX5_word_0 : decode cX5_word 0 = .ok (.aload_n 0, 1) := by decide +kernel
theorem dX5_word_1 : decode cX5_word 1 = .ok (.iload_n 1, 1) := by decide +kernel
theorem dX5_word_2 : decode cX5_word 2 = .ok (.bipush 64, 2) := by decide +kernel
theorem dX5_word_4 : decode cX5_word 4 = .ok (.invokestatic 92, 3) := by decide +kernel
theorem dX5_word_7 : decode cX5_word 7 = .ok (.ifCond .eq 7, 3) := by decide +kernel
theorem dX5_word_10 : decode cX5_word 10 = .ok (.iconst 0, 1) := by decide +kernel
theorem dX5_word_11 : decode cX5_word 11 = .ok (.goto 4, 3) := by decide +kernel
theorem dX5_word_14 : decode cX5_word 14 = .ok (.iconst 1, 1) := by decide +kernel
theorem dX5_word_15 : decode cX5_word 15 = .ok (.putfield 89, 3) := by decide +kernel
theorem dX5_word_18 : decode cX5_word 18 = .ok (.aload_n 0, 1) := by decide +kernel
theorem dX5_word_19 : decode cX5_word 19 = .ok (.getfield 89, 3) := by decide +kernel
theorem dX5_word_22 : decode cX5_word 22 = .ok (.ifCond .le 7, 3) := by decide +kernel
theorem dX5_word_25 : decode cX5_word 25 = .ok (.iconst 0, 1) := by decide +kernel
theorem dX5_word_26 : decode cX5_word 26 = .ok (.goto 9, 3) := by decide +kernel
theorem dX5_word_29 : decode cX5_word 29 = .ok (.aload_n 0, 1) := by decide +kernel
theorem dX5_word_30 : decode cX5_word 30 = .ok (.getfield 7, 3) := by decide +kernel
theorem dX5_word_33 : decode cX5_word 33 = .ok (.iload_n 1, 1) := by decide +kernel
theorem dX5_word_34 : decode cX5_word 34 = .ok (.iaload, 1) := by decide +kernel
theorem dX5_word_35 : decode cX5_word 35 = .ok (.ireturn, 1) := by decide +kernel
set_option maxRecDepth 20000 in
theorem ggX5_seen_X5_isIn : GoodIn wsX5_seen wsX5_isIn := goodIn_r _ [6] (by decide +kernel) (by decide +kernel)
set_option maxRecDepth 20000 in
theorem gX5_seen_X5_isIn : GoodIn wsX5_seen (va_wsS RX5 92 yX5_isIn wsX5_isIn) := goodIn_app (goodIn_of _ (by decide +kernel)) ggX5_seen_X5_isIn
set_option maxRecDepth 20000 in
theorem ggX5_seen_X5_sees : GoodIn wsX5_seen wsX5_sees := goodIn_r _ [10, 11, 12, 13, 14, 15, 16, 17, 18, 19, 20, 21, 22, 23, 24, 25, 26, 27, 28, 29, 30, 31, 32, 33, 34, 35, 36, 37, 38, 39, 40, 41, 42] (by decide +kernel) (by decide +kernel)
set_option maxRecDepth 20000 in
theorem gX5_seen_X5_sees : GoodIn wsX5_seen (wsV RX5 139 RX5 yX5_sees wsX5_sees) := goodIn_app (goodIn_of _ (by decide +kernel)) ggX5_seen_X5_sees
theorem dX5_seen_0 : decode cX5_seen 0 = .ok (.aload_n 0, 1) := by decide +kernel
theorem dX5_seen_1 : decode cX5_seen 1 = .ok (.iload_n 1, 1) := by decide +kernel
theorem dX5_seen_2 : decode cX5_seen 2 = .ok (.aload_n 0, 1) := by decide +kernel
theorem dX5_seen_3 : decode cX5_seen 3 = .ok (.getfield 79, 3) := by decide +kernel
theorem dX5_seen_6 : decode cX5_seen 6 = .ok (.invokestatic 92, 3) := by decide +kernel
theorem dX5_seen_9 : decode cX5_seen 9 = .ok (.ifCond .eq 16, 3) := by decide +kernel
theorem dX5_seen_12 : decode cX5_seen 12 = .ok (.iload_n 2, 1) := by decide +kernel
theorem dX5_seen_13 : decode cX5_seen 13 = .ok (.bipush 64, 2) := by decide +kernel
theorem dX5_seen_15 : decode cX5_seen 15 = .ok (.invokestatic 92, 3) := by decide +kernel
theorem dX5_seen_18 : decode cX5_seen 18 = .ok (.ifCond .eq 7, 3) := by decide +kernel
theorem dX5_seen_21 : decode cX5_seen 21 = .ok (.iconst 0, 1) := by decide +kernel
theorem dX5_seen_22 : decode cX5_seen 22 = .ok (.goto 4, 3) := by decide +kernel
theorem dX5_seen_25 : decode cX5_seen 25 = .ok (.iconst 1, 1) := by decide +kernel
theorem dX5_seen_26 : decode cX5_seen 26 = .ok (.putfield 89, 3) := by decide +kernel
theorem dX5_seen_29 : decode cX5_seen 29 = .ok (.aload_n 0, 1) := by decide +kernel
theorem dX5_seen_30 : decode cX5_seen 30 = .ok (.getfield 89, 3) := by decide +kernel
theorem dX5_seen_33 : decode cX5_seen 33 = .ok (.ifCond .le 7, 3) := by decide +kernel
theorem dX5_seen_36 : decode cX5_seen 36 = .ok (.iconst 0, 1) := by decide +kernel
theorem dX5_seen_37 : decode cX5_seen 37 = .ok (.goto 9, 3) := by decide +kernel
theorem dX5_seen_40 : decode cX5_seen 40 = .ok (.aload_n 0, 1) := by decide +kernel
theorem dX5_seen_41 : decode cX5_seen 41 = .ok (.iload_n 1, 1) := by decide +kernel
theorem dX5_seen_42 : decode cX5_seen 42 = .ok (.iload_n 2, 1) := by decide +kernel
theorem dX5_seen_43 : decode cX5_seen 43 = .ok (.invokevirtual 139, 3) := by decide +kernel
theorem dX5_seen_46 : decode cX5_seen 46 = .ok (.ireturn, 1) := by decide +kernel
theorem dX5_bits_0 : decode cX5_bits 0 = .ok (.iconst 0, 1) := by decide +kernel
theorem dX5_bits_1 : decode cX5_bits 1 = .ok (.istore_n 2, 1) := by decide +kernel
theorem dX5_bits_2 : decode cX5_bits 2 = .ok (.iconst 0, 1) := by decide +kernel
theorem dX5_bits_3 : decode cX5_bits 3 = .ok (.istore_n 3, 1) := by decide +kernel
theorem dX5_bits_4 : decode cX5_bits 4 = .ok (.iload_n 3, 1) := by decide +kernel
theorem dX5_bits_5 : decode cX5_bits 5 = .ok (.bipush 64, 2) := by decide +kernel
theorem dX5_bits_7 : decode cX5_bits 7 = .ok (.if_icmp .ge 27, 3) := by decide +kernel
theorem dX5_bits_10 : decode cX5_bits 10 = .ok (.lload_n 0, 1) := by decide +kernel
theorem dX5_bits_11 : decode cX5_bits 11 = .ok (.iload_n 3, 1) := by decide +kernel
theorem dX5_bits_12 : decode cX5_bits 12 = .ok (.lshr, 1) := by decide +kernel
theorem dX5_bits_13 : decode cX5_bits 13 = .ok (.lconst 1, 1) := by decide +kernel
theorem dX5_bits_14 : decode cX5_bits 14 = .ok (.land, 1) := by decide +kernel
theorem dX5_bits_15 : decode cX5_bits 15 = .ok (.lconst 1, 1) := by decide +kernel
theorem dX5_bits_16 : decode cX5_bits 16 = .ok (.lcmp, 1) := by decide +kernel
theorem dX5_bits_17 : decode cX5_bits 17 = .ok (.ifCond .ne 9, 3) := by decide +kernel
theorem dX5_bits_20 : decode cX5_bits 20 = .ok (.iload_n 2, 1) := by decide +kernel
theorem dX5_bits_21 : decode cX5_bits 21 = .ok (.iconst 1, 1) := by decide +kernel
theorem dX5_bits_22 : decode cX5_bits 22 = .ok (.iadd, 1) := by decide +kernel
theorem dX5_bits_23 : decode cX5_bits 23 = .ok (.goto 4, 3) := by decide +kernel
theorem dX5_bits_26 : decode cX5_bits 26 = .ok (.iload_n 2, 1) := by decide +kernel
theorem dX5_bits_27 : decode cX5_bits 27 = .ok (.istore_n 2, 1) := by decide +kernel
theorem dX5_bits_28 : decode cX5_bits 28 = .ok (.iinc 3 1, 3) := by decide +kernel
theorem dX5_bits_31 : decode cX5_bits 31 = .ok (.goto (-27), 3) := by decide +kernel
theorem dX5_bits_34 : decode cX5_bits 34 = .ok (.iload_n 2, 1) := by decide +kernel
theorem dX5_bits_35 : decode cX5_bits 35 = .ok (.ireturn, 1) := by decide +kernel
set_option maxRecDepth 20000 in
theorem ggX5_told_X5_isIn : GoodIn wsX5_told wsX5_isIn := goodIn_r _ [16] (by decide +kernel) (by decide +kernel)
set_option maxRecDepth 20000 in
theorem gX5_told_X5_isIn : GoodIn wsX5_told (va_wsS RX5 92 yX5_isIn wsX5_isIn) := goodIn_app (goodIn_of _ (by decide +kernel)) ggX5_told_X5_isIn
set_option maxRecDepth 20000 in
theorem ggX5_told_X5_bits : GoodIn wsX5_told wsX5_bits := goodIn_r _ [19] (by decide +kernel) (by decide +kernel)
set_option maxRecDepth 20000 in
theorem gX5_told_X5_bits : GoodIn wsX5_told (va_wsS RX5 181 yX5_bits wsX5_bits) := goodIn_app (goodIn_of _ (by decide +kernel)) ggX5_told_X5_bits
theorem dX5_told_0 : decode cX5_told 0 = .ok (.aload_n 0, 1) := by decide +kernel
theorem dX5_told_1 : decode cX5_told 1 = .ok (.iload_n 1, 1) := by decide +kernel
theorem dX5_told_2 : decode cX5_told 2 = .ok (.aload_n 0, 1) := by decide +kernel
theorem dX5_told_3 : decode cX5_told 3 = .ok (.getfield 79, 3) := by decide +kernel
theorem dX5_told_6 : decode cX5_told 6 = .ok (.invokestatic 92, 3) := by decide +kernel
theorem dX5_told_9 : decode cX5_told 9 = .ok (.ifCond .ne 7, 3) := by decide +kernel
theorem dX5_told_12 : decode cX5_told 12 = .ok (.iconst 1, 1) := by decide +kernel
theorem dX5_told_13 : decode cX5_told 13 = .ok (.goto 17, 3) := by decide +kernel
theorem dX5_told_16 : decode cX5_told 16 = .ok (.iload_n 2, 1) := by decide +kernel
theorem dX5_told_17 : decode cX5_told 17 = .ok (.bipush 10, 2) := by decide +kernel
theorem dX5_told_19 : decode cX5_told 19 = .ok (.invokestatic 92, 3) := by decide +kernel
theorem dX5_told_22 : decode cX5_told 22 = .ok (.ifCond .eq 7, 3) := by decide +kernel
theorem dX5_told_25 : decode cX5_told 25 = .ok (.iconst 0, 1) := by decide +kernel
theorem dX5_told_26 : decode cX5_told 26 = .ok (.goto 4, 3) := by decide +kernel
theorem dX5_told_29 : decode cX5_told 29 = .ok (.iconst 2, 1) := by decide +kernel
theorem dX5_told_30 : decode cX5_told 30 = .ok (.putfield 89, 3) := by decide +kernel
theorem dX5_told_33 : decode cX5_told 33 = .ok (.aload_n 0, 1) := by decide +kernel
theorem dX5_told_34 : decode cX5_told 34 = .ok (.getfield 89, 3) := by decide +kernel
theorem dX5_told_37 : decode cX5_told 37 = .ok (.ifCond .le 5, 3) := by decide +kernel
theorem dX5_told_40 : decode cX5_told 40 = .ok (.iconst 0, 1) := by decide +kernel
theorem dX5_told_41 : decode cX5_told 41 = .ok (.ireturn, 1) := by decide +kernel
theorem dX5_told_42 : decode cX5_told 42 = .ok (.iload_n 2, 1) := by decide +kernel
theorem dX5_told_43 : decode cX5_told 43 = .ok (.tableswitch 131 0 8 #[49, 56, 71, 78, 85, 92, 103, 114, 124], 49) := by decide +kernel
theorem dX5_told_92 : decode cX5_told 92 = .ok (.aload_n 0, 1) := by decide +kernel
theorem dX5_told_93 : decode cX5_told 93 = .ok (.getfield 25, 3) := by decide +kernel
theorem dX5_told_96 : decode cX5_told 96 = .ok (.iload_n 1, 1) := by decide +kernel
theorem dX5_told_97 : decode cX5_told 97 = .ok (.iaload, 1) := by decide +kernel
theorem dX5_told_98 : decode cX5_told 98 = .ok (.ireturn, 1) := by decide +kernel
theorem dX5_told_99 : decode cX5_told 99 = .ok (.aload_n 0, 1) := by decide +kernel
theorem dX5_told_100 : decode cX5_told 100 = .ok (.getfield 28, 3) := by decide +kernel
theorem dX5_told_103 : decode cX5_told 103 = .ok (.iload_n 1, 1) := by decide +kernel
theorem dX5_told_104 : decode cX5_told 104 = .ok (.baload, 1) := by decide +kernel
theorem dX5_told_105 : decode cX5_told 105 = .ok (.ifCond .eq 7, 3) := by decide +kernel
theorem dX5_told_108 : decode cX5_told 108 = .ok (.iconst 1, 1) := by decide +kernel
theorem dX5_told_109 : decode cX5_told 109 = .ok (.goto 4, 3) := by decide +kernel
theorem dX5_told_112 : decode cX5_told 112 = .ok (.iconst 0, 1) := by decide +kernel
theorem dX5_told_113 : decode cX5_told 113 = .ok (.ireturn, 1) := by decide +kernel
theorem dX5_told_114 : decode cX5_told 114 = .ok (.aload_n 0, 1) := by decide +kernel
theorem dX5_told_115 : decode cX5_told 115 = .ok (.getfield 32, 3) := by decide +kernel
theorem dX5_told_118 : decode cX5_told 118 = .ok (.iload_n 1, 1) := by decide +kernel
theorem dX5_told_119 : decode cX5_told 119 = .ok (.iaload, 1) := by decide +kernel
theorem dX5_told_120 : decode cX5_told 120 = .ok (.ireturn, 1) := by decide +kernel
theorem dX5_told_121 : decode cX5_told 121 = .ok (.aload_n 0, 1) := by decide +kernel
theorem dX5_told_122 : decode cX5_told 122 = .ok (.getfield 38, 3) := by decide +kernel
theorem dX5_told_125 : decode cX5_told 125 = .ok (.iload_n 1, 1) := by decide +kernel
theorem dX5_told_126 : decode cX5_told 126 = .ok (.iaload, 1) := by decide +kernel
theorem dX5_told_127 : decode cX5_told 127 = .ok (.ireturn, 1) := by decide +kernel
theorem dX5_told_128 : decode cX5_told 128 = .ok (.aload_n 0, 1) := by decide +kernel
theorem dX5_told_129 : decode cX5_told 129 = .ok (.getfield 41, 3) := by decide +kernel
theorem dX5_told_132 : decode cX5_told 132 = .ok (.iload_n 1, 1) := by decide +kernel
theorem dX5_told_133 : decode cX5_told 133 = .ok (.iaload, 1) := by decide +kernel
theorem dX5_told_134 : decode cX5_told 134 = .ok (.ireturn, 1) := by decide +kernel
theorem dX5_told_135 : decode cX5_told 135 = .ok (.aload_n 0, 1) := by decide +kernel
theorem dX5_told_136 : decode cX5_told 136 = .ok (.getfield 53, 3) := by decide +kernel
theorem dX5_told_139 : decode cX5_told 139 = .ok (.iload_n 1, 1) := by decide +kernel
theorem dX5_told_140 : decode cX5_told 140 = .ok (.iaload, 1) := by decide +kernel
theorem dX5_told_141 : decode cX5_told 141 = .ok (.i2l, 1) := by decide +kernel
theorem dX5_told_142 : decode cX5_told 142 = .ok (.invokestatic 181, 3) := by decide +kernel
theorem dX5_told_145 : decode cX5_told 145 = .ok (.ireturn, 1) := by decide +kernel
theorem dX5_told_146 : decode cX5_told 146 = .ok (.aload_n 0, 1) := by decide +kernel
theorem dX5_told_147 : decode cX5_told 147 = .ok (.getfield 56, 3) := by decide +kernel
theorem dX5_told_150 : decode cX5_told 150 = .ok (.iload_n 1, 1) := by decide +kernel
theorem dX5_told_151 : decode cX5_told 151 = .ok (.iaload, 1) := by decide +kernel
theorem dX5_told_152 : decode cX5_told 152 = .ok (.i2l, 1) := by decide +kernel
theorem dX5_told_153 : decode cX5_told 153 = .ok (.invokestatic 181, 3) := by decide +kernel
theorem dX5_told_156 : decode cX5_told 156 = .ok (.ireturn, 1) := by decide +kernel
theorem dX5_told_157 : decode cX5_told 157 = .ok (.aload_n 0, 1) := by decide +kernel
theorem dX5_told_158 : decode cX5_told 158 = .ok (.getfield 59, 3) := by decide +kernel
theorem dX5_told_161 : decode cX5_told 161 = .ok (.iload_n 1, 1) := by decide +kernel
theorem dX5_told_162 : decode cX5_told 162 = .ok (.laload, 1) := by decide +kernel
theorem dX5_told_163 : decode cX5_told 163 = .ok (.invokestatic 181, 3) := by decide +kernel
theorem dX5_told_166 : decode cX5_told 166 = .ok (.ireturn, 1) := by decide +kernel
theorem dX5_told_167 : decode cX5_told 167 = .ok (.aload_n 0, 1) := by decide +kernel
theorem dX5_told_168 : decode cX5_told 168 = .ok (.getfield 66, 3) := by decide +kernel
theorem dX5_told_171 : decode cX5_told 171 = .ok (.iload_n 1, 1) := by decide +kernel
theorem dX5_told_172 : decode cX5_told 172 = .ok (.iaload, 1) := by decide +kernel
theorem dX5_told_173 : decode cX5_told 173 = .ok (.ireturn, 1) := by decide +kernel
theorem dX5_told_174 : decode cX5_told 174 = .ok (.aload_n 0, 1) := by decide +kernel
theorem dX5_told_175 : decode cX5_told 175 = .ok (.getfield 69, 3) := by decide +kernel
theorem dX5_told_178 : decode cX5_told 178 = .ok (.iload_n 1, 1) := by decide +kernel
theorem dX5_told_179 : decode cX5_told 179 = .ok (.iaload, 1) := by decide +kernel
theorem dX5_told_180 : decode cX5_told 180 = .ok (.ireturn, 1) := by decide +kernel
theorem dX5_records_0 : decode cX5_records 0 = .ok (.aload_n 0, 1) := by decide +kernel
theorem dX5_records_1 : decode cX5_records 1 = .ok (.iconst 0, 1) := by decide +kernel
theorem dX5_records_2 : decode cX5_records 2 = .ok (.putfield 89, 3) := by decide +kernel
theorem dX5_records_5 : decode cX5_records 5 = .ok (.aload_n 0, 1) := by decide +kernel
theorem dX5_records_6 : decode cX5_records 6 = .ok (.getfield 121, 3) := by decide +kernel
theorem dX5_records_9 : decode cX5_records 9 = .ok (.ireturn, 1) := by decide +kernel
set_option maxRecDepth 20000 in
theorem ggX5_record_X5_isIn : GoodIn wsX5_record wsX5_isIn := goodIn_r _ [7] (by decide +kernel) (by decide +kernel)
set_option maxRecDepth 20000 in
theorem gX5_record_X5_isIn : GoodIn wsX5_record (va_wsS RX5 92 yX5_isIn wsX5_isIn) := goodIn_app (goodIn_of _ (by decide +kernel)) ggX5_record_X5_isIn
theorem dX5_record_0 : decode cX5_record 0 = .ok (.aload_n 0, 1) := by decide +kernel
theorem dX5_record_1 : decode cX5_record 1 = .ok (.iload_n 1, 1) := by decide +kernel
theorem dX5_record_2 : decode cX5_record 2 = .ok (.aload_n 0, 1) := by decide +kernel
theorem dX5_record_3 : decode cX5_record 3 = .ok (.getfield 121, 3) := by decide +kernel
theorem dX5_record_6 : decode cX5_record 6 = .ok (.invokestatic 92, 3) := by decide +kernel
theorem dX5_record_9 : decode cX5_record 9 = .ok (.ifCond .ne 7, 3) := by decide +kernel
theorem dX5_record_12 : decode cX5_record 12 = .ok (.iconst 1, 1) := by decide +kernel
theorem dX5_record_13 : decode cX5_record 13 = .ok (.goto 16, 3) := by decide +kernel
theorem dX5_record_16 : decode cX5_record 16 = .ok (.iload_n 2, 1) := by decide +kernel
theorem dX5_record_17 : decode cX5_record 17 = .ok (.iconst 4, 1) := by decide +kernel
theorem dX5_record_18 : decode cX5_record 18 = .ok (.invokestatic 92, 3) := by decide +kernel
theorem dX5_record_21 : decode cX5_record 21 = .ok (.ifCond .eq 7, 3) := by decide +kernel
theorem dX5_record_24 : decode cX5_record 24 = .ok (.iconst 0, 1) := by decide +kernel
theorem dX5_record_25 : decode cX5_record 25 = .ok (.goto 4, 3) := by decide +kernel
theorem dX5_record_28 : decode cX5_record 28 = .ok (.iconst 2, 1) := by decide +kernel
theorem dX5_record_29 : decode cX5_record 29 = .ok (.putfield 89, 3) := by decide +kernel
theorem dX5_record_32 : decode cX5_record 32 = .ok (.aload_n 0, 1) := by decide +kernel
theorem dX5_record_33 : decode cX5_record 33 = .ok (.getfield 89, 3) := by decide +kernel
theorem dX5_record_36 : decode cX5_record 36 = .ok (.ifCond .le 7, 3) := by decide +kernel
theorem dX5_record_39 : decode cX5_record 39 = .ok (.iconst 0, 1) := by decide +kernel
theorem dX5_record_40 : decode cX5_record 40 = .ok (.goto 13, 3) := by decide +kernel
theorem dX5_record_43 : decode cX5_record 43 = .ok (.aload_n 0, 1) := by decide +kernel
theorem dX5_record_44 : decode cX5_record 44 = .ok (.getfield 72, 3) := by decide +kernel
theorem dX5_record_47 : decode cX5_record 47 = .ok (.iconst 4, 1) := by decide +kernel
theorem dX5_record_48 : decode cX5_record 48 = .ok (.iload_n 1, 1) := by decide +kernel
theorem dX5_record_49 : decode cX5_record 49 = .ok (.imul, 1) := by decide +kernel
theorem dX5_record_50 : decode cX5_record 50 = .ok (.iload_n 2, 1) := by decide +kernel
theorem dX5_record_51 : decode cX5_record 51 = .ok (.iadd, 1) := by decide +kernel
theorem dX5_record_52 : decode cX5_record 52 = .ok (.iaload, 1) := by decide +kernel
theorem dX5_record_53 : decode cX5_record 53 = .ok (.ireturn, 1) := by decide +kernel
set_option maxRecDepth 20000 in
theorem ggX5_clear_X5_leave : GoodIn wsX5_clear wsX5_leave := goodIn_r _ [16, 17, 18, 19, 20, 21, 22, 23, 24, 25, 26, 27, 28, 29, 30, 31, 32, 33, 34, 35, 36, 37, 38, 39, 40, 41, 42, 43, 44, 45, 46, 47, 48, 49, 50] (by decide +kernel) (by decide +kernel)
set_option maxRecDepth 20000 in
theorem gX5_clear_X5_leave : GoodIn wsX5_clear (wsV RX5 109 RX5 yX5_leave wsX5_leave) := goodIn_app (goodIn_of _ (by decide +kernel)) ggX5_clear_X5_leave
theorem dX5_clear_0 : decode cX5_clear 0 = .ok (.aload_n 0, 1) := by decide +kernel
theorem dX5_clear_1 : decode cX5_clear 1 = .ok (.iconst 0, 1) := by decide +kernel
theorem dX5_clear_2 : decode cX5_clear 2 = .ok (.putfield 89, 3) := by decide +kernel
theorem dX5_clear_5 : decode cX5_clear 5 = .ok (.aload_n 0, 1) := by decide +kernel
theorem dX5_clear_6 : decode cX5_clear 6 = .ok (.iconst 0, 1) := by decide +kernel
theorem dX5_clear_7 : decode cX5_clear 7 = .ok (.putfield 106, 3) := by decide +kernel
theorem dX5_clear_10 : decode cX5_clear 10 = .ok (.aload_n 0, 1) := by decide +kernel
theorem dX5_clear_11 : decode cX5_clear 11 = .ok (.iconst 0, 1) := by decide +kernel
theorem dX5_clear_12 : decode cX5_clear 12 = .ok (.putfield 148, 3) := by decide +kernel
theorem dX5_clear_15 : decode cX5_clear 15 = .ok (.aload_n 0, 1) := by decide +kernel
theorem dX5_clear_16 : decode cX5_clear 16 = .ok (.iconst 0, 1) := by decide +kernel
theorem dX5_clear_17 : decode cX5_clear 17 = .ok (.putfield 121, 3) := by decide +kernel
theorem dX5_clear_20 : decode cX5_clear 20 = .ok (.iconst 0, 1) := by decide +kernel
theorem dX5_clear_21 : decode cX5_clear 21 = .ok (.istore_n 1, 1) := by decide +kernel
theorem dX5_clear_22 : decode cX5_clear 22 = .ok (.iload_n 1, 1) := by decide +kernel
theorem dX5_clear_23 : decode cX5_clear 23 = .ok (.bipush 64, 2) := by decide +kernel
theorem dX5_clear_25 : decode cX5_clear 25 = .ok (.if_icmp .ge 16, 3) := by decide +kernel
theorem dX5_clear_28 : decode cX5_clear 28 = .ok (.aload_n 0, 1) := by decide +kernel
theorem dX5_clear_29 : decode cX5_clear 29 = .ok (.getfield 7, 3) := by decide +kernel
theorem dX5_clear_32 : decode cX5_clear 32 = .ok (.iload_n 1, 1) := by decide +kernel
theorem dX5_clear_33 : decode cX5_clear 33 = .ok (.iconst 0, 1) := by decide +kernel
theorem dX5_clear_34 : decode cX5_clear 34 = .ok (.iastore, 1) := by decide +kernel
theorem dX5_clear_35 : decode cX5_clear 35 = .ok (.iinc 1 1, 3) := by decide +kernel
theorem dX5_clear_38 : decode cX5_clear 38 = .ok (.goto (-16), 3) := by decide +kernel
theorem dX5_clear_41 : decode cX5_clear 41 = .ok (.iconst 0, 1) := by decide +kernel
theorem dX5_clear_42 : decode cX5_clear 42 = .ok (.istore_n 1, 1) := by decide +kernel
theorem dX5_clear_43 : decode cX5_clear 43 = .ok (.iload_n 1, 1) := by decide +kernel
theorem dX5_clear_44 : decode cX5_clear 44 = .ok (.iconst 4, 1) := by decide +kernel
theorem dX5_clear_45 : decode cX5_clear 45 = .ok (.if_icmp .ge 49, 3) := by decide +kernel
theorem dX5_clear_48 : decode cX5_clear 48 = .ok (.aload_n 0, 1) := by decide +kernel
theorem dX5_clear_49 : decode cX5_clear 49 = .ok (.getfield 25, 3) := by decide +kernel
theorem dX5_clear_52 : decode cX5_clear 52 = .ok (.iload_n 1, 1) := by decide +kernel
theorem dX5_clear_53 : decode cX5_clear 53 = .ok (.iconst 0, 1) := by decide +kernel
theorem dX5_clear_54 : decode cX5_clear 54 = .ok (.iastore, 1) := by decide +kernel
theorem dX5_clear_55 : decode cX5_clear 55 = .ok (.aload_n 0, 1) := by decide +kernel
theorem dX5_clear_56 : decode cX5_clear 56 = .ok (.getfield 28, 3) := by decide +kernel
theorem dX5_clear_59 : decode cX5_clear 59 = .ok (.iload_n 1, 1) := by decide +kernel
theorem dX5_clear_60 : decode cX5_clear 60 = .ok (.iconst 0, 1) := by decide +kernel
theorem dX5_clear_61 : decode cX5_clear 61 = .ok (.bastore, 1) := by decide +kernel
theorem dX5_clear_62 : decode cX5_clear 62 = .ok (.aload_n 0, 1) := by decide +kernel
theorem dX5_clear_63 : decode cX5_clear 63 = .ok (.getfield 32, 3) := by decide +kernel
theorem dX5_clear_66 : decode cX5_clear 66 = .ok (.iload_n 1, 1) := by decide +kernel
theorem dX5_clear_67 : decode cX5_clear 67 = .ok (.iconst 0, 1) := by decide +kernel
theorem dX5_clear_68 : decode cX5_clear 68 = .ok (.iastore, 1) := by decide +kernel
theorem dX5_clear_69 : decode cX5_clear 69 = .ok (.aload_n 0, 1) := by decide +kernel
theorem dX5_clear_70 : decode cX5_clear 70 = .ok (.getfield 66, 3) := by decide +kernel
theorem dX5_clear_73 : decode cX5_clear 73 = .ok (.iload_n 1, 1) := by decide +kernel
theorem dX5_clear_74 : decode cX5_clear 74 = .ok (.iconst 0, 1) := by decide +kernel
theorem dX5_clear_75 : decode cX5_clear 75 = .ok (.iastore, 1) := by decide +kernel
theorem dX5_clear_76 : decode cX5_clear 76 = .ok (.aload_n 0, 1) := by decide +kernel
theorem dX5_clear_77 : decode cX5_clear 77 = .ok (.getfield 69, 3) := by decide +kernel
theorem dX5_clear_80 : decode cX5_clear 80 = .ok (.iload_n 1, 1) := by decide +kernel
theorem dX5_clear_81 : decode cX5_clear 81 = .ok (.iconst 0, 1) := by decide +kernel
theorem dX5_clear_82 : decode cX5_clear 82 = .ok (.iastore, 1) := by decide +kernel
theorem dX5_clear_83 : decode cX5_clear 83 = .ok (.aload_n 0, 1) := by decide +kernel
theorem dX5_clear_84 : decode cX5_clear 84 = .ok (.iload_n 1, 1) := by decide +kernel
theorem dX5_clear_85 : decode cX5_clear 85 = .ok (.invokevirtual 109, 3) := by decide +kernel
theorem dX5_clear_88 : decode cX5_clear 88 = .ok (.iinc 1 1, 3) := by decide +kernel
theorem dX5_clear_91 : decode cX5_clear 91 = .ok (.goto (-48), 3) := by decide +kernel
theorem dX5_clear_94 : decode cX5_clear 94 = .ok (.iconst 0, 1) := by decide +kernel
theorem dX5_clear_95 : decode cX5_clear 95 = .ok (.istore_n 1, 1) := by decide +kernel
theorem dX5_clear_96 : decode cX5_clear 96 = .ok (.iload_n 1, 1) := by decide +kernel
theorem dX5_clear_97 : decode cX5_clear 97 = .ok (.bipush 32, 2) := by decide +kernel
theorem dX5_clear_99 : decode cX5_clear 99 = .ok (.if_icmp .ge 16, 3) := by decide +kernel
theorem dX5_clear_102 : decode cX5_clear 102 = .ok (.aload_n 0, 1) := by decide +kernel
theorem dX5_clear_103 : decode cX5_clear 103 = .ok (.getfield 35, 3) := by decide +kernel
end
section
theorem dX5_clear_106 : decode cX5_clear 106 = .ok (.iload_n 1, 1) := by decide +kernel
theorem dX5_clear_107 : decode cX5_clear 107 = .ok (.iconst 0, 1) := by decide +kernel
theorem dX5_clear_108 : decode cX5_clear 108 = .ok (.iastore, 1) := by decide +kernel
theorem dX5_clear_109 : decode cX5_clear 109 = .ok (.iinc 1 1, 3) := by decide +kernel
theorem dX5_clear_112 : decode cX5_clear 112 = .ok (.goto (-16), 3) := by decide +kernel
theorem dX5_clear_115 : decode cX5_clear 115 = .ok (.return_, 1) := by decide +kernel
theorem dJ6_bitCount_0f7a4_0 : decode cJ6_bitCount_0f7a4 0 = .ok (.iload_n 0, 1) := by decide +kernel
theorem dJ6_bitCount_0f7a4_1 : decode cJ6_bitCount_0f7a4 1 = .ok (.iload_n 0, 1) := by decide +kernel
theorem dJ6_bitCount_0f7a4_2 : decode cJ6_bitCount_0f7a4 2 = .ok (.iconst 1, 1) := by decide +kernel
theorem dJ6_bitCount_0f7a4_3 : decode cJ6_bitCount_0f7a4 3 = .ok (.iushr, 1) := by decide +kernel
theorem dJ6_bitCount_0f7a4_4 : decode cJ6_bitCount_0f7a4 4 = .ok (.ldc_w 265, 3) := by decide +kernel
theorem dJ6_bitCount_0f7a4_7 : decode cJ6_bitCount_0f7a4 7 = .ok (.iand, 1) := by decide +kernel
theorem dJ6_bitCount_0f7a4_8 : decode cJ6_bitCount_0f7a4 8 = .ok (.isub, 1) := by decide +kernel
theorem dJ6_bitCount_0f7a4_9 : decode cJ6_bitCount_0f7a4 9 = .ok (.istore_n 0, 1) := by decide +kernel
theorem dJ6_bitCount_0f7a4_10 : decode cJ6_bitCount_0f7a4 10 = .ok (.iload_n 0, 1) := by decide +kernel
theorem dJ6_bitCount_0f7a4_11 : decode cJ6_bitCount_0f7a4 11 = .ok (.ldc_w 266, 3) := by decide +kernel
theorem dJ6_bitCount_0f7a4_14 : decode cJ6_bitCount_0f7a4 14 = .ok (.iand, 1) := by decide +kernel
theorem dJ6_bitCount_0f7a4_15 : decode cJ6_bitCount_0f7a4 15 = .ok (.iload_n 0, 1) := by decide +kernel
theorem dJ6_bitCount_0f7a4_16 : decode cJ6_bitCount_0f7a4 16 = .ok (.iconst 2, 1) := by decide +kernel
theorem dJ6_bitCount_0f7a4_17 : decode cJ6_bitCount_0f7a4 17 = .ok (.iushr, 1) := by decide +kernel
theorem dJ6_bitCount_0f7a4_18 : decode cJ6_bitCount_0f7a4 18 = .ok (.ldc_w 266, 3) := by decide +kernel
theorem dJ6_bitCount_0f7a4_21 : decode cJ6_bitCount_0f7a4 21 = .ok (.iand, 1) := by decide +kernel
theorem dJ6_bitCount_0f7a4_22 : decode cJ6_bitCount_0f7a4 22 = .ok (.iadd, 1) := by decide +kernel
theorem dJ6_bitCount_0f7a4_23 : decode cJ6_bitCount_0f7a4 23 = .ok (.istore_n 0, 1) := by decide +kernel
theorem dJ6_bitCount_0f7a4_24 : decode cJ6_bitCount_0f7a4 24 = .ok (.iload_n 0, 1) := by decide +kernel
theorem dJ6_bitCount_0f7a4_25 : decode cJ6_bitCount_0f7a4 25 = .ok (.iload_n 0, 1) := by decide +kernel
theorem dJ6_bitCount_0f7a4_26 : decode cJ6_bitCount_0f7a4 26 = .ok (.iconst 4, 1) := by decide +kernel
theorem dJ6_bitCount_0f7a4_27 : decode cJ6_bitCount_0f7a4 27 = .ok (.iushr, 1) := by decide +kernel
theorem dJ6_bitCount_0f7a4_28 : decode cJ6_bitCount_0f7a4 28 = .ok (.iadd, 1) := by decide +kernel
theorem dJ6_bitCount_0f7a4_29 : decode cJ6_bitCount_0f7a4 29 = .ok (.ldc_w 267, 3) := by decide +kernel
theorem dJ6_bitCount_0f7a4_32 : decode cJ6_bitCount_0f7a4 32 = .ok (.iand, 1) := by decide +kernel
theorem dJ6_bitCount_0f7a4_33 : decode cJ6_bitCount_0f7a4 33 = .ok (.istore_n 0, 1) := by decide +kernel
theorem dJ6_bitCount_0f7a4_34 : decode cJ6_bitCount_0f7a4 34 = .ok (.iload_n 0, 1) := by decide +kernel
theorem dJ6_bitCount_0f7a4_35 : decode cJ6_bitCount_0f7a4 35 = .ok (.iload_n 0, 1) := by decide +kernel
theorem dJ6_bitCount_0f7a4_36 : decode cJ6_bitCount_0f7a4 36 = .ok (.bipush 8, 2) := by decide +kernel
theorem dJ6_bitCount_0f7a4_38 : decode cJ6_bitCount_0f7a4 38 = .ok (.iushr, 1) := by decide +kernel
theorem dJ6_bitCount_0f7a4_39 : decode cJ6_bitCount_0f7a4 39 = .ok (.iadd, 1) := by decide +kernel
theorem dJ6_bitCount_0f7a4_40 : decode cJ6_bitCount_0f7a4 40 = .ok (.istore_n 0, 1) := by decide +kernel
theorem dJ6_bitCount_0f7a4_41 : decode cJ6_bitCount_0f7a4 41 = .ok (.iload_n 0, 1) := by decide +kernel
theorem dJ6_bitCount_0f7a4_42 : decode cJ6_bitCount_0f7a4 42 = .ok (.iload_n 0, 1) := by decide +kernel
theorem dJ6_bitCount_0f7a4_43 : decode cJ6_bitCount_0f7a4 43 = .ok (.bipush 16, 2) := by decide +kernel
theorem dJ6_bitCount_0f7a4_45 : decode cJ6_bitCount_0f7a4 45 = .ok (.iushr, 1) := by decide +kernel
theorem dJ6_bitCount_0f7a4_46 : decode cJ6_bitCount_0f7a4 46 = .ok (.iadd, 1) := by decide +kernel
theorem dJ6_bitCount_0f7a4_47 : decode cJ6_bitCount_0f7a4 47 = .ok (.istore_n 0, 1) := by decide +kernel
theorem dJ6_bitCount_0f7a4_48 : decode cJ6_bitCount_0f7a4 48 = .ok (.iload_n 0, 1) := by decide +kernel
theorem dJ6_bitCount_0f7a4_49 : decode cJ6_bitCount_0f7a4 49 = .ok (.bipush 63, 2) := by decide +kernel
theorem dJ6_bitCount_0f7a4_51 : decode cJ6_bitCount_0f7a4 51 = .ok (.iand, 1) := by decide +kernel
theorem dJ6_bitCount_0f7a4_52 : decode cJ6_bitCount_0f7a4 52 = .ok (.ireturn, 1) := by decide +kernel
theorem dJ13_bitCount_95d88_0 : decode cJ13_bitCount_95d88 0 = .ok (.lload_n 0, 1) := by decide +kernel
theorem dJ13_bitCount_95d88_1 : decode cJ13_bitCount_95d88 1 = .ok (.lload_n 0, 1) := by decide +kernel
theorem dJ13_bitCount_95d88_2 : decode cJ13_bitCount_95d88 2 = .ok (.iconst 1, 1) := by decide +kernel
theorem dJ13_bitCount_95d88_3 : decode cJ13_bitCount_95d88 3 = .ok (.lushr, 1) := by decide +kernel
theorem dJ13_bitCount_95d88_4 : decode cJ13_bitCount_95d88 4 = .ok (.ldc2_w 314, 3) := by decide +kernel
theorem dJ13_bitCount_95d88_7 : decode cJ13_bitCount_95d88 7 = .ok (.land, 1) := by decide +kernel
theorem dJ13_bitCount_95d88_8 : decode cJ13_bitCount_95d88 8 = .ok (.lsub, 1) := by decide +kernel
theorem dJ13_bitCount_95d88_9 : decode cJ13_bitCount_95d88 9 = .ok (.lstore_n 0, 1) := by decide +kernel
theorem dJ13_bitCount_95d88_10 : decode cJ13_bitCount_95d88 10 = .ok (.lload_n 0, 1) := by decide +kernel
theorem dJ13_bitCount_95d88_11 : decode cJ13_bitCount_95d88 11 = .ok (.ldc2_w 316, 3) := by decide +kernel
theorem dJ13_bitCount_95d88_14 : decode cJ13_bitCount_95d88 14 = .ok (.land, 1) := by decide +kernel
theorem dJ13_bitCount_95d88_15 : decode cJ13_bitCount_95d88 15 = .ok (.lload_n 0, 1) := by decide +kernel
theorem dJ13_bitCount_95d88_16 : decode cJ13_bitCount_95d88 16 = .ok (.iconst 2, 1) := by decide +kernel
theorem dJ13_bitCount_95d88_17 : decode cJ13_bitCount_95d88 17 = .ok (.lushr, 1) := by decide +kernel
theorem dJ13_bitCount_95d88_18 : decode cJ13_bitCount_95d88 18 = .ok (.ldc2_w 316, 3) := by decide +kernel
theorem dJ13_bitCount_95d88_21 : decode cJ13_bitCount_95d88 21 = .ok (.land, 1) := by decide +kernel
theorem dJ13_bitCount_95d88_22 : decode cJ13_bitCount_95d88 22 = .ok (.ladd, 1) := by decide +kernel
theorem dJ13_bitCount_95d88_23 : decode cJ13_bitCount_95d88 23 = .ok (.lstore_n 0, 1) := by decide +kernel
theorem dJ13_bitCount_95d88_24 : decode cJ13_bitCount_95d88 24 = .ok (.lload_n 0, 1) := by decide +kernel
theorem dJ13_bitCount_95d88_25 : decode cJ13_bitCount_95d88 25 = .ok (.lload_n 0, 1) := by decide +kernel
theorem dJ13_bitCount_95d88_26 : decode cJ13_bitCount_95d88 26 = .ok (.iconst 4, 1) := by decide +kernel
theorem dJ13_bitCount_95d88_27 : decode cJ13_bitCount_95d88 27 = .ok (.lushr, 1) := by decide +kernel
theorem dJ13_bitCount_95d88_28 : decode cJ13_bitCount_95d88 28 = .ok (.ladd, 1) := by decide +kernel
theorem dJ13_bitCount_95d88_29 : decode cJ13_bitCount_95d88 29 = .ok (.ldc2_w 318, 3) := by decide +kernel
theorem dJ13_bitCount_95d88_32 : decode cJ13_bitCount_95d88 32 = .ok (.land, 1) := by decide +kernel
theorem dJ13_bitCount_95d88_33 : decode cJ13_bitCount_95d88 33 = .ok (.lstore_n 0, 1) := by decide +kernel
theorem dJ13_bitCount_95d88_34 : decode cJ13_bitCount_95d88 34 = .ok (.lload_n 0, 1) := by decide +kernel
theorem dJ13_bitCount_95d88_35 : decode cJ13_bitCount_95d88 35 = .ok (.lload_n 0, 1) := by decide +kernel
theorem dJ13_bitCount_95d88_36 : decode cJ13_bitCount_95d88 36 = .ok (.bipush 8, 2) := by decide +kernel
theorem dJ13_bitCount_95d88_38 : decode cJ13_bitCount_95d88 38 = .ok (.lushr, 1) := by decide +kernel
theorem dJ13_bitCount_95d88_39 : decode cJ13_bitCount_95d88 39 = .ok (.ladd, 1) := by decide +kernel
theorem dJ13_bitCount_95d88_40 : decode cJ13_bitCount_95d88 40 = .ok (.lstore_n 0, 1) := by decide +kernel
theorem dJ13_bitCount_95d88_41 : decode cJ13_bitCount_95d88 41 = .ok (.lload_n 0, 1) := by decide +kernel
theorem dJ13_bitCount_95d88_42 : decode cJ13_bitCount_95d88 42 = .ok (.lload_n 0, 1) := by decide +kernel
theorem dJ13_bitCount_95d88_43 : decode cJ13_bitCount_95d88 43 = .ok (.bipush 16, 2) := by decide +kernel
theorem dJ13_bitCount_95d88_45 : decode cJ13_bitCount_95d88 45 = .ok (.lushr, 1) := by decide +kernel
theorem dJ13_bitCount_95d88_46 : decode cJ13_bitCount_95d88 46 = .ok (.ladd, 1) := by decide +kernel
theorem dJ13_bitCount_95d88_47 : decode cJ13_bitCount_95d88 47 = .ok (.lstore_n 0, 1) := by decide +kernel
theorem dJ13_bitCount_95d88_48 : decode cJ13_bitCount_95d88 48 = .ok (.lload_n 0, 1) := by decide +kernel
theorem dJ13_bitCount_95d88_49 : decode cJ13_bitCount_95d88 49 = .ok (.lload_n 0, 1) := by decide +kernel
theorem dJ13_bitCount_95d88_50 : decode cJ13_bitCount_95d88 50 = .ok (.bipush 32, 2) := by decide +kernel
theorem dJ13_bitCount_95d88_52 : decode cJ13_bitCount_95d88 52 = .ok (.lushr, 1) := by decide +kernel
theorem dJ13_bitCount_95d88_53 : decode cJ13_bitCount_95d88 53 = .ok (.ladd, 1) := by decide +kernel
theorem dJ13_bitCount_95d88_54 : decode cJ13_bitCount_95d88 54 = .ok (.lstore_n 0, 1) := by decide +kernel
theorem dJ13_bitCount_95d88_55 : decode cJ13_bitCount_95d88 55 = .ok (.lload_n 0, 1) := by decide +kernel
theorem dJ13_bitCount_95d88_56 : decode cJ13_bitCount_95d88 56 = .ok (.l2i, 1) := by decide +kernel
theorem dJ13_bitCount_95d88_57 : decode cJ13_bitCount_95d88 57 = .ok (.bipush 127, 2) := by decide +kernel
theorem dJ13_bitCount_95d88_59 : decode cJ13_bitCount_95d88 59 = .ok (.iand, 1) := by decide +kernel
theorem dJ13_bitCount_95d88_60 : decode cJ13_bitCount_95d88 60 = .ok (.ireturn, 1) := by decide +kernel
theorem dJ9_max_7cf53_0 : decode cJ9_max_7cf53 0 = .ok (.iload_n 0, 1) := by decide +kernel
theorem dJ9_max_7cf53_1 : decode cJ9_max_7cf53 1 = .ok (.iload_n 1, 1) := by decide +kernel
theorem dJ9_max_7cf53_2 : decode cJ9_max_7cf53 2 = .ok (.if_icmp .lt 7, 3) := by decide +kernel
theorem dJ9_max_7cf53_5 : decode cJ9_max_7cf53 5 = .ok (.iload_n 0, 1) := by decide +kernel
theorem dJ9_max_7cf53_6 : decode cJ9_max_7cf53 6 = .ok (.goto 4, 3) := by decide +kernel
theorem dJ9_max_7cf53_9 : decode cJ9_max_7cf53 9 = .ok (.iload_n 1, 1) := by decide +kernel
theorem dJ9_max_7cf53_10 : decode cJ9_max_7cf53 10 = .ok (.ireturn, 1) := by decide +kernel
theorem dJ9_min_7cf53_0 : decode cJ9_min_7cf53 0 = .ok (.iload_n 0, 1) := by decide +kernel
theorem dJ9_min_7cf53_1 : decode cJ9_min_7cf53 1 = .ok (.iload_n 1, 1) := by decide +kernel
theorem dJ9_min_7cf53_2 : decode cJ9_min_7cf53 2 = .ok (.if_icmp .gt 7, 3) := by decide +kernel
theorem dJ9_min_7cf53_5 : decode cJ9_min_7cf53 5 = .ok (.iload_n 0, 1) := by decide +kernel
theorem dJ9_min_7cf53_6 : decode cJ9_min_7cf53 6 = .ok (.goto 4, 3) := by decide +kernel
theorem dJ9_min_7cf53_9 : decode cJ9_min_7cf53 9 = .ok (.iload_n 1, 1) := by decide +kernel
theorem dJ9_min_7cf53_10 : decode cJ9_min_7cf53 10 = .ok (.ireturn, 1) := by decide +kernel
theorem dL_cell_0 : decode cL_cell 0 = .ok (.iload_n 1, 1) := by decide +kernel
theorem dL_cell_1 : decode cL_cell 1 = .ok (.aload_n 0, 1) := by decide +kernel
theorem dL_cell_2 : decode cL_cell 2 = .ok (.arraylength, 1) := by decide +kernel
theorem dL_cell_3 : decode cL_cell 3 = .ok (.if_icmp .ge 9, 3) := by decide +kernel
theorem dL_cell_6 : decode cL_cell 6 = .ok (.aload_n 0, 1) := by decide +kernel
theorem dL_cell_7 : decode cL_cell 7 = .ok (.iload_n 1, 1) := by decide +kernel
theorem dL_cell_8 : decode cL_cell 8 = .ok (.iaload, 1) := by decide +kernel
theorem dL_cell_9 : decode cL_cell 9 = .ok (.goto 4, 3) := by decide +kernel
theorem dL_cell_12 : decode cL_cell 12 = .ok (.iconst 0, 1) := by decide +kernel
theorem dL_cell_13 : decode cL_cell 13 = .ok (.ireturn, 1) := by decide +kernel
set_option maxRecDepth 20000 in
theorem ggL_instruction_X4_instruction : GoodIn wsL_instruction wsX4_instruction := goodIn_ca (goodIn_ca (goodIn_r _ [7, 8, 9, 10, 11, 12, 13, 14, 15, 6, 16, 17, 18, 19, 20, 21, 22, 23, 24, 25, 26, 27, 28, 29, 30, 31, 32, 33, 34, 35, 36, 37, 38, 39, 40, 41] (by decide +kernel) (by decide +kernel)) (goodIn_sub (fun _ h => List.mem_cons_of_mem _ (List.mem_append_left _ (List.mem_append_right _ h))) (by decide +kernel))) (goodIn_sub (fun _ h => List.mem_cons_of_mem _ (List.mem_append_right _ h)) (by decide +kernel))
set_option maxRecDepth 20000 in
theorem gL_instruction_X4_instruction : GoodIn wsL_instruction (wsV RL 7 RX4 yX4_instruction wsX4_instruction) := goodIn_app (goodIn_of _ (by decide +kernel)) ggL_instruction_X4_instruction
theorem dL_instruction_0 : decode cL_instruction 0 = .ok (.aload 5, 2) := by decide +kernel
theorem dL_instruction_2 : decode cL_instruction 2 = .ok (.iconst 0, 1) := by decide +kernel
theorem dL_instruction_3 : decode cL_instruction 3 = .ok (.aload_n 0, 1) := by decide +kernel
theorem dL_instruction_4 : decode cL_instruction 4 = .ok (.iload_n 1, 1) := by decide +kernel
theorem dL_instruction_5 : decode cL_instruction 5 = .ok (.iload_n 2, 1) := by decide +kernel
theorem dL_instruction_6 : decode cL_instruction 6 = .ok (.iload_n 3, 1) := by decide +kernel
theorem dL_instruction_7 : decode cL_instruction 7 = .ok (.iload 4, 2) := by decide +kernel
theorem dL_instruction_9 : decode cL_instruction 9 = .ok (.invokevirtual 7, 3) := by decide +kernel
theorem dL_instruction_12 : decode cL_instruction 12 = .ok (.i2l, 1) := by decide +kernel
theorem dL_instruction_13 : decode cL_instruction 13 = .ok (.lastore, 1) := by decide +kernel
theorem dL_instruction_14 : decode cL_instruction 14 = .ok (.goto 11, 3) := by decide +kernel
theorem dL_instruction_17 : decode cL_instruction 17 = .ok (.astore 6, 2) := by decide +kernel
theorem dL_instruction_19 : decode cL_instruction 19 = .ok (.iconst 1, 1) := by decide +kernel
theorem dL_instruction_20 : decode cL_instruction 20 = .ok (.ireturn, 1) := by decide +kernel
theorem dL_instruction_21 : decode cL_instruction 21 = .ok (.astore 6, 2) := by decide +kernel
theorem dL_instruction_23 : decode cL_instruction 23 = .ok (.iconst 2, 1) := by decide +kernel
theorem dL_instruction_24 : decode cL_instruction 24 = .ok (.ireturn, 1) := by decide +kernel
theorem dL_instruction_25 : decode cL_instruction 25 = .ok (.iconst 0, 1) := by decide +kernel
theorem dL_instruction_26 : decode cL_instruction 26 = .ok (.ireturn, 1) := by decide +kernel
set_option maxRecDepth 20000 in
theorem ggL_start_X4_start : GoodIn wsL_start wsX4_start := goodIn_ca (goodIn_ca (goodIn_r _ [7, 8, 9, 10, 11, 12, 13, 14, 15, 16, 17, 18, 6, 19, 20, 21, 22, 23, 24, 25, 26, 27, 28, 29, 30, 31, 32, 33, 34, 35, 36, 37, 38, 39, 40, 41, 42, 43, 44, 45, 46, 47, 48, 49, 50, 51, 52, 53] (by decide +kernel) (by decide +kernel)) (goodIn_sub (fun _ h => List.mem_cons_of_mem _ (List.mem_append_left _ (List.mem_append_right _ h))) (by decide +kernel))) (goodIn_sub (fun _ h => List.mem_cons_of_mem _ (List.mem_append_right _ h)) (by decide +kernel))
set_option maxRecDepth 20000 in
theorem gL_start_X4_start : GoodIn wsL_start (wsV RL 17 RX4 yX4_start wsX4_start) := goodIn_app (goodIn_of _ (by decide +kernel)) ggL_start_X4_start
theorem dL_start_0 : decode cL_start 0 = .ok (.aload_n 3, 1) := by decide +kernel
theorem dL_start_1 : decode cL_start 1 = .ok (.iconst 0, 1) := by decide +kernel
theorem dL_start_2 : decode cL_start 2 = .ok (.aload_n 0, 1) := by decide +kernel
theorem dL_start_3 : decode cL_start 3 = .ok (.iload_n 1, 1) := by decide +kernel
theorem dL_start_4 : decode cL_start 4 = .ok (.iload_n 2, 1) := by decide +kernel
theorem dL_start_5 : decode cL_start 5 = .ok (.invokevirtual 17, 3) := by decide +kernel
theorem dL_start_8 : decode cL_start 8 = .ok (.i2l, 1) := by decide +kernel
theorem dL_start_9 : decode cL_start 9 = .ok (.lastore, 1) := by decide +kernel
theorem dL_start_10 : decode cL_start 10 = .ok (.goto 11, 3) := by decide +kernel
theorem dL_start_13 : decode cL_start 13 = .ok (.astore 4, 2) := by decide +kernel
theorem dL_start_15 : decode cL_start 15 = .ok (.iconst 1, 1) := by decide +kernel
theorem dL_start_16 : decode cL_start 16 = .ok (.ireturn, 1) := by decide +kernel
theorem dL_start_17 : decode cL_start 17 = .ok (.astore 4, 2) := by decide +kernel
theorem dL_start_19 : decode cL_start 19 = .ok (.iconst 2, 1) := by decide +kernel
theorem dL_start_20 : decode cL_start 20 = .ok (.ireturn, 1) := by decide +kernel
theorem dL_start_21 : decode cL_start 21 = .ok (.iconst 0, 1) := by decide +kernel
theorem dL_start_22 : decode cL_start 22 = .ok (.ireturn, 1) := by decide +kernel
set_option maxRecDepth 20000 in
theorem ggL_set_X4_set : GoodIn wsL_set wsX4_set := goodIn_ca (goodIn_r _ [6, 7, 8, 9, 10, 11, 12, 13, 5, 14, 15, 16, 17, 18, 19, 20, 21, 22, 23, 24, 25, 26, 27, 28, 29, 30, 31, 32, 33, 34, 35, 36, 37, 38] (by decide +kernel) (by decide +kernel)) (goodIn_sub (fun _ h => List.mem_cons_of_mem _ (List.mem_append_right _ h)) (by decide +kernel))
set_option maxRecDepth 20000 in
theorem gL_set_X4_set : GoodIn wsL_set (wsV RL 23 RX4 yX4_set wsX4_set) := goodIn_app (goodIn_of _ (by decide +kernel)) ggL_set_X4_set
theorem dL_set_0 : decode cL_set 0 = .ok (.aload 4, 2) := by decide +kernel
theorem dL_set_2 : decode cL_set 2 = .ok (.iconst 0, 1) := by decide +kernel
theorem dL_set_3 : decode cL_set 3 = .ok (.aload_n 0, 1) := by decide +kernel
theorem dL_set_4 : decode cL_set 4 = .ok (.iload_n 1, 1) := by decide +kernel
theorem dL_set_5 : decode cL_set 5 = .ok (.iload_n 2, 1) := by decide +kernel
theorem dL_set_6 : decode cL_set 6 = .ok (.iload_n 3, 1) := by decide +kernel
theorem dL_set_7 : decode cL_set 7 = .ok (.invokevirtual 23, 3) := by decide +kernel
theorem dL_set_10 : decode cL_set 10 = .ok (.i2l, 1) := by decide +kernel
theorem dL_set_11 : decode cL_set 11 = .ok (.lastore, 1) := by decide +kernel
theorem dL_set_12 : decode cL_set 12 = .ok (.goto 7, 3) := by decide +kernel
theorem dL_set_15 : decode cL_set 15 = .ok (.astore 5, 2) := by decide +kernel
theorem dL_set_17 : decode cL_set 17 = .ok (.iconst 1, 1) := by decide +kernel
theorem dL_set_18 : decode cL_set 18 = .ok (.ireturn, 1) := by decide +kernel
theorem dL_set_19 : decode cL_set 19 = .ok (.iconst 0, 1) := by decide +kernel
theorem dL_set_20 : decode cL_set 20 = .ok (.ireturn, 1) := by decide +kernel
set_option maxRecDepth 20000 in
theorem ggL_poke_X4_poke : GoodIn wsL_poke wsX4_poke := goodIn_ca (goodIn_r _ [6, 7, 8, 9, 10, 11, 5, 12, 13, 14, 15, 16, 17, 18, 19, 20, 21, 22, 23, 24, 25, 26, 27, 28, 29, 30, 31, 32, 33, 34, 35, 36, 37, 38, 39, 40, 41, 42, 43, 44, 45, 46, 47, 48, 49, 50, 51, 52, 53, 54, 55, 56, 57, 58, 59, 60, 61, 62, 63, 64, 65, 66, 67, 68, 69, 70, 71, 72, 73, 74, 75, 76, 77, 78, 79, 80, 81, 82, 83, 84, 85, 86, 87, 88, 89, 90] (by decide +kernel) (by decide +kernel)) (goodIn_sub (fun _ h => List.mem_cons_of_mem _ (List.mem_append_right _ h)) (by decide +kernel))
set_option maxRecDepth 20000 in
theorem gL_poke_X4_poke : GoodIn wsL_poke (wsV RL 27 RX4 yX4_poke wsX4_poke) := goodIn_app (goodIn_of _ (by decide +kernel)) ggL_poke_X4_poke
theorem dL_poke_0 : decode cL_poke 0 = .ok (.aload_n 3, 1) := by decide +kernel
theorem dL_poke_1 : decode cL_poke 1 = .ok (.iconst 0, 1) := by decide +kernel
theorem dL_poke_2 : decode cL_poke 2 = .ok (.aload_n 0, 1) := by decide +kernel
theorem dL_poke_3 : decode cL_poke 3 = .ok (.iload_n 1, 1) := by decide +kernel
theorem dL_poke_4 : decode cL_poke 4 = .ok (.iload_n 2, 1) := by decide +kernel
theorem dL_poke_5 : decode cL_poke 5 = .ok (.invokevirtual 27, 3) := by decide +kernel
theorem dL_poke_8 : decode cL_poke 8 = .ok (.i2l, 1) := by decide +kernel
theorem dL_poke_9 : decode cL_poke 9 = .ok (.lastore, 1) := by decide +kernel
theorem dL_poke_10 : decode cL_poke 10 = .ok (.goto 7, 3) := by decide +kernel
theorem dL_poke_13 : decode cL_poke 13 = .ok (.astore 4, 2) := by decide +kernel
theorem dL_poke_15 : decode cL_poke 15 = .ok (.iconst 1, 1) := by decide +kernel
theorem dL_poke_16 : decode cL_poke 16 = .ok (.ireturn, 1) := by decide +kernel
theorem dL_poke_17 : decode cL_poke 17 = .ok (.iconst 0, 1) := by decide +kernel
theorem dL_poke_18 : decode cL_poke 18 = .ok (.ireturn, 1) := by decide +kernel
set_option maxRecDepth 20000 in
theorem ggL_pick_X4_pick : GoodIn wsL_pick wsX4_pick := goodIn_ca (goodIn_ca (goodIn_r _ [7, 8, 9, 10, 11, 12, 13, 14, 15, 16, 6, 17, 18, 19, 20, 21, 22, 23, 24, 25, 26, 27, 28, 29, 30, 31, 32, 33, 34, 35, 36, 37, 38, 39, 40, 41, 42, 43, 44, 45, 46, 47, 48, 49, 50, 51, 52, 53, 54, 55, 56, 57, 58, 59, 60, 61, 62, 63, 64, 65, 66, 67, 68, 69, 70, 71, 72, 73, 74, 75, 76, 77, 78, 79, 80, 81, 82, 83, 84, 85, 86, 87, 88, 89, 90, 91, 92, 93, 94, 95, 96, 97, 98, 99, 100, 101, 102, 103, 104, 105, 106, 107, 108, 109, 110, 111, 112, 113, 114, 115, 116, 117, 118, 119, 120, 121, 122, 123, 124, 125, 126, 127, 128, 129, 130, 131, 132, 133, 134, 135, 136, 137, 138, 139, 140, 141, 142, 143, 144, 145, 146, 147, 148, 149, 150, 151, 152, 153, 154, 155, 156, 157, 158, 159, 160, 161, 162, 163, 164, 165, 166, 167, 168, 169, 170, 171, 172, 173, 174, 175, 176, 177, 178, 179, 180, 181, 182, 183, 184, 185, 186, 187, 188, 189, 190, 191, 192, 193] (by decide +kernel) (by decide +kernel)) (goodIn_sub (fun _ h => List.mem_cons_of_mem _ (List.mem_append_left _ (List.mem_append_right _ h))) (by decide +kernel))) (goodIn_sub (fun _ h => List.mem_cons_of_mem _ (List.mem_append_right _ h)) (by decide +kernel))
set_option maxRecDepth 20000 in
theorem gL_pick_X4_pick : GoodIn wsL_pick (wsV RL 30 RX4 yX4_pick wsX4_pick) := goodIn_app (goodIn_of _ (by decide +kernel)) ggL_pick_X4_pick
theorem dL_pick_0 : decode cL_pick 0 = .ok (.aload_n 3, 1) := by decide +kernel
theorem dL_pick_1 : decode cL_pick 1 = .ok (.iconst 0, 1) := by decide +kernel
theorem dL_pick_2 : decode cL_pick 2 = .ok (.aload_n 0, 1) := by decide +kernel
theorem dL_pick_3 : decode cL_pick 3 = .ok (.iload_n 1, 1) := by decide +kernel
theorem dL_pick_4 : decode cL_pick 4 = .ok (.iload_n 2, 1) := by decide +kernel
theorem dL_pick_5 : decode cL_pick 5 = .ok (.invokevirtual 30, 3) := by decide +kernel
theorem dL_pick_8 : decode cL_pick 8 = .ok (.i2l, 1) := by decide +kernel
theorem dL_pick_9 : decode cL_pick 9 = .ok (.lastore, 1) := by decide +kernel
theorem dL_pick_10 : decode cL_pick 10 = .ok (.goto 11, 3) := by decide +kernel
theorem dL_pick_13 : decode cL_pick 13 = .ok (.astore 4, 2) := by decide +kernel
theorem dL_pick_15 : decode cL_pick 15 = .ok (.iconst 1, 1) := by decide +kernel
theorem dL_pick_16 : decode cL_pick 16 = .ok (.ireturn, 1) := by decide +kernel
theorem dL_pick_17 : decode cL_pick 17 = .ok (.astore 4, 2) := by decide +kernel
theorem dL_pick_19 : decode cL_pick 19 = .ok (.iconst 2, 1) := by decide +kernel
theorem dL_pick_20 : decode cL_pick 20 = .ok (.ireturn, 1) := by decide +kernel
theorem dL_pick_21 : decode cL_pick 21 = .ok (.iconst 0, 1) := by decide +kernel
theorem dL_pick_22 : decode cL_pick 22 = .ok (.ireturn, 1) := by decide +kernel
set_option maxRecDepth 20000 in
theorem ggL_run_X4_run : GoodIn wsL_run wsX4_run := goodIn_ca (goodIn_r _ [6, 7, 8, 9, 10, 11, 12, 5, 13, 14, 15, 16, 17, 18, 19, 20, 21, 22, 23, 24, 25, 26, 27, 28, 29, 30, 31, 32, 33, 34, 35, 36, 37, 38, 39, 40, 41, 42, 43, 44, 45, 46, 47, 48, 49, 50, 51, 52, 53, 54, 55, 56, 57, 58, 59, 60, 61, 62, 63, 64, 65, 66, 67, 68, 69, 70, 71, 72, 73, 74, 75, 76, 77, 78, 79, 80, 81, 82, 83, 84, 85, 86, 87, 88, 89, 90, 91, 92, 93, 94, 95, 96, 97, 98, 99, 100, 101, 102, 103, 104, 105, 106, 107, 108, 109, 110, 111, 112, 113, 114, 115, 116, 117, 118, 119, 120, 121, 122, 123, 124, 125, 126, 127, 128, 129, 130, 131, 132, 133, 134, 135, 136, 137, 138, 139, 140, 141, 142, 143, 144, 145, 146, 147, 148, 149, 150, 151, 152, 153, 154, 155, 156, 157, 158, 159, 160, 161, 162, 163, 164, 165, 166, 167, 168, 169, 170, 171, 172, 173, 174, 175, 176, 177, 178, 179, 180, 181, 182, 183, 184, 185, 186, 187] (by decide +kernel) (by decide +kernel)) (goodIn_sub (fun _ h => List.mem_cons_of_mem _ (List.mem_append_right _ h)) (by decide +kernel))
set_option maxRecDepth 20000 in
theorem gL_run_X4_run : GoodIn wsL_run (wsV RL 33 RX4 yX4_run wsX4_run) := goodIn_app (goodIn_of _ (by decide +kernel)) ggL_run_X4_run
theorem dL_run_0 : decode cL_run 0 = .ok (.aload_n 3, 1) := by decide +kernel
theorem dL_run_1 : decode cL_run 1 = .ok (.iconst 0, 1) := by decide +kernel
theorem dL_run_2 : decode cL_run 2 = .ok (.aload_n 0, 1) := by decide +kernel
theorem dL_run_3 : decode cL_run 3 = .ok (.iload_n 1, 1) := by decide +kernel
theorem dL_run_4 : decode cL_run 4 = .ok (.iload_n 2, 1) := by decide +kernel
theorem dL_run_5 : decode cL_run 5 = .ok (.invokevirtual 33, 3) := by decide +kernel
theorem dL_run_8 : decode cL_run 8 = .ok (.i2l, 1) := by decide +kernel
theorem dL_run_9 : decode cL_run 9 = .ok (.lastore, 1) := by decide +kernel
theorem dL_run_10 : decode cL_run 10 = .ok (.goto 7, 3) := by decide +kernel
theorem dL_run_13 : decode cL_run 13 = .ok (.astore 4, 2) := by decide +kernel
theorem dL_run_15 : decode cL_run 15 = .ok (.iconst 1, 1) := by decide +kernel
theorem dL_run_16 : decode cL_run 16 = .ok (.ireturn, 1) := by decide +kernel
theorem dL_run_17 : decode cL_run 17 = .ok (.iconst 0, 1) := by decide +kernel
theorem dL_run_18 : decode cL_run 18 = .ok (.ireturn, 1) := by decide +kernel
set_option maxRecDepth 20000 in
theorem ggL_register_X4_register : GoodIn wsL_register wsX4_register := goodIn_ca (goodIn_r _ [6, 7, 8, 9, 10, 11, 12, 13, 5, 14, 15, 16, 17, 18, 19, 20, 21, 22, 23, 24, 25, 26, 27, 28, 29, 30, 31, 32] (by decide +kernel) (by decide +kernel)) (goodIn_sub (fun _ h => List.mem_cons_of_mem _ (List.mem_append_right _ h)) (by decide +kernel))
set_option maxRecDepth 20000 in
theorem gL_register_X4_register : GoodIn wsL_register (wsV RL 36 RX4 yX4_register wsX4_register) := goodIn_app (goodIn_of _ (by decide +kernel)) ggL_register_X4_register
theorem dL_register_0 : decode cL_register 0 = .ok (.aload_n 3, 1) := by decide +kernel
theorem dL_register_1 : decode cL_register 1 = .ok (.iconst 0, 1) := by decide +kernel
theorem dL_register_2 : decode cL_register 2 = .ok (.aload_n 0, 1) := by decide +kernel
theorem dL_register_3 : decode cL_register 3 = .ok (.iload_n 1, 1) := by decide +kernel
theorem dL_register_4 : decode cL_register 4 = .ok (.iload_n 2, 1) := by decide +kernel
theorem dL_register_5 : decode cL_register 5 = .ok (.invokevirtual 36, 3) := by decide +kernel
theorem dL_register_8 : decode cL_register 8 = .ok (.i2l, 1) := by decide +kernel
theorem dL_register_9 : decode cL_register 9 = .ok (.lastore, 1) := by decide +kernel
theorem dL_register_10 : decode cL_register 10 = .ok (.goto 7, 3) := by decide +kernel
theorem dL_register_13 : decode cL_register 13 = .ok (.astore 4, 2) := by decide +kernel
theorem dL_register_15 : decode cL_register 15 = .ok (.iconst 1, 1) := by decide +kernel
theorem dL_register_16 : decode cL_register 16 = .ok (.ireturn, 1) := by decide +kernel
theorem dL_register_17 : decode cL_register 17 = .ok (.iconst 0, 1) := by decide +kernel
theorem dL_register_18 : decode cL_register 18 = .ok (.ireturn, 1) := by decide +kernel
set_option maxRecDepth 20000 in
theorem ggL_word_X4_word : GoodIn wsL_word wsX4_word := goodIn_ca (goodIn_r _ [6, 7, 8, 9, 10, 11, 5, 12, 13, 14, 15, 16, 17, 18, 19] (by decide +kernel) (by decide +kernel)) (goodIn_sub (fun _ h => List.mem_cons_of_mem _ (List.mem_append_right _ h)) (by decide +kernel))
set_option maxRecDepth 20000 in
theorem gL_word_X4_word : GoodIn wsL_word (wsV RL 39 RX4 yX4_word wsX4_word) := goodIn_app (goodIn_of _ (by decide +kernel)) ggL_word_X4_word
theorem dL_word_0 : decode cL_word 0 = .ok (.aload_n 2, 1) := by decide +kernel
theorem dL_word_1 : decode cL_word 1 = .ok (.iconst 0, 1) := by decide +kernel
theorem dL_word_2 : decode cL_word 2 = .ok (.aload_n 0, 1) := by decide +kernel
theorem dL_word_3 : decode cL_word 3 = .ok (.iload_n 1, 1) := by decide +kernel
theorem dL_word_4 : decode cL_word 4 = .ok (.invokevirtual 39, 3) := by decide +kernel
theorem dL_word_7 : decode cL_word 7 = .ok (.i2l, 1) := by decide +kernel
theorem dL_word_8 : decode cL_word 8 = .ok (.lastore, 1) := by decide +kernel
theorem dL_word_9 : decode cL_word 9 = .ok (.goto 6, 3) := by decide +kernel
theorem dL_word_12 : decode cL_word 12 = .ok (.astore_n 3, 1) := by decide +kernel
theorem dL_word_13 : decode cL_word 13 = .ok (.iconst 1, 1) := by decide +kernel
theorem dL_word_14 : decode cL_word 14 = .ok (.ireturn, 1) := by decide +kernel
theorem dL_word_15 : decode cL_word 15 = .ok (.iconst 0, 1) := by decide +kernel
theorem dL_word_16 : decode cL_word 16 = .ok (.ireturn, 1) := by decide +kernel
set_option maxRecDepth 20000 in
theorem ggL_seen_X4_seen : GoodIn wsL_seen wsX4_seen := goodIn_ca (goodIn_r _ [6, 7, 8, 9, 10, 11, 12, 5, 13, 14, 15, 16, 17, 18, 19, 20, 21, 22, 23, 24, 25, 26, 27, 28, 29, 30, 31, 32, 33, 34, 35, 36, 37, 38, 39, 40, 41, 42, 43, 44, 45, 46, 47, 48, 49, 50, 51, 52, 53] (by decide +kernel) (by decide +kernel)) (goodIn_sub (fun _ h => List.mem_cons_of_mem _ (List.mem_append_right _ h)) (by decide +kernel))
set_option maxRecDepth 20000 in
theorem gL_seen_X4_seen : GoodIn wsL_seen (wsV RL 43 RX4 yX4_seen wsX4_seen) := goodIn_app (goodIn_of _ (by decide +kernel)) ggL_seen_X4_seen
theorem dL_seen_0 : decode cL_seen 0 = .ok (.aload_n 3, 1) := by decide +kernel
theorem dL_seen_1 : decode cL_seen 1 = .ok (.iconst 0, 1) := by decide +kernel
theorem dL_seen_2 : decode cL_seen 2 = .ok (.aload_n 0, 1) := by decide +kernel
theorem dL_seen_3 : decode cL_seen 3 = .ok (.iload_n 1, 1) := by decide +kernel
theorem dL_seen_4 : decode cL_seen 4 = .ok (.iload_n 2, 1) := by decide +kernel
theorem dL_seen_5 : decode cL_seen 5 = .ok (.invokevirtual 43, 3) := by decide +kernel
theorem dL_seen_8 : decode cL_seen 8 = .ok (.i2l, 1) := by decide +kernel
theorem dL_seen_9 : decode cL_seen 9 = .ok (.lastore, 1) := by decide +kernel
theorem dL_seen_10 : decode cL_seen 10 = .ok (.goto 7, 3) := by decide +kernel
theorem dL_seen_13 : decode cL_seen 13 = .ok (.astore 4, 2) := by decide +kernel
theorem dL_seen_15 : decode cL_seen 15 = .ok (.iconst 1, 1) := by decide +kernel
theorem dL_seen_16 : decode cL_seen 16 = .ok (.ireturn, 1) := by decide +kernel
theorem dL_seen_17 : decode cL_seen 17 = .ok (.iconst 0, 1) := by decide +kernel
theorem dL_seen_18 : decode cL_seen 18 = .ok (.ireturn, 1) := by decide +kernel
set_option maxRecDepth 20000 in
theorem ggL_told_X4_told : GoodIn wsL_told wsX4_told := goodIn_ca (goodIn_ca (goodIn_r _ [7, 8, 9, 10, 11, 12, 13, 14, 15, 6, 16, 17, 18, 19, 20, 21, 22, 23, 24, 25, 26, 27, 28, 29, 30, 31, 32, 33, 34, 35, 36, 37, 38, 39, 40, 41, 42, 43, 44, 45, 46, 47, 48, 49, 50, 51, 52, 53, 54, 55, 56, 57, 58, 59, 60, 61, 62, 63, 64, 65, 66, 67, 68] (by decide +kernel) (by decide +kernel)) (goodIn_sub (fun _ h => List.mem_cons_of_mem _ (List.mem_append_left _ (List.mem_append_right _ h))) (by decide +kernel))) (goodIn_sub (fun _ h => List.mem_cons_of_mem _ (List.mem_append_right _ h)) (by decide +kernel))
set_option maxRecDepth 20000 in
theorem gL_told_X4_told : GoodIn wsL_told (wsV RL 46 RX4 yX4_told wsX4_told) := goodIn_app (goodIn_of _ (by decide +kernel)) ggL_told_X4_told
theorem dL_told_0 : decode cL_told 0 = .ok (.aload_n 3, 1) := by decide +kernel
theorem dL_told_1 : decode cL_told 1 = .ok (.iconst 0, 1) := by decide +kernel
theorem dL_told_2 : decode cL_told 2 = .ok (.aload_n 0, 1) := by decide +kernel
theorem dL_told_3 : decode cL_told 3 = .ok (.iload_n 1, 1) := by decide +kernel
theorem dL_told_4 : decode cL_told 4 = .ok (.iload_n 2, 1) := by decide +kernel
theorem dL_told_5 : decode cL_told 5 = .ok (.invokevirtual 46, 3) := by decide +kernel
theorem dL_told_8 : decode cL_told 8 = .ok (.i2l, 1) := by decide +kernel
theorem dL_told_9 : decode cL_told 9 = .ok (.lastore, 1) := by decide +kernel
theorem dL_told_10 : decode cL_told 10 = .ok (.goto 11, 3) := by decide +kernel
theorem dL_told_13 : decode cL_told 13 = .ok (.astore 4, 2) := by decide +kernel
theorem dL_told_15 : decode cL_told 15 = .ok (.iconst 1, 1) := by decide +kernel
theorem dL_told_16 : decode cL_told 16 = .ok (.ireturn, 1) := by decide +kernel
theorem dL_told_17 : decode cL_told 17 = .ok (.astore 4, 2) := by decide +kernel
theorem dL_told_19 : decode cL_told 19 = .ok (.iconst 2, 1) := by decide +kernel
theorem dL_told_20 : decode cL_told 20 = .ok (.ireturn, 1) := by decide +kernel
theorem dL_told_21 : decode cL_told 21 = .ok (.iconst 0, 1) := by decide +kernel
theorem dL_told_22 : decode cL_told 22 = .ok (.ireturn, 1) := by decide +kernel
set_option maxRecDepth 20000 in
theorem ggL_record_X4_record : GoodIn wsL_record wsX4_record := goodIn_ca (goodIn_ca (goodIn_r _ [7, 8, 9, 10, 11, 12, 13, 14, 15, 16, 17, 18, 19, 20, 21, 22, 23, 24, 25, 26, 27, 28, 29, 30] (by decide +kernel) (by decide +kernel)) (goodIn_sub (fun _ h => List.mem_cons_of_mem _ (List.mem_append_left _ (List.mem_append_right _ h))) (by decide +kernel))) (goodIn_sub (fun _ h => List.mem_cons_of_mem _ (List.mem_append_right _ h)) (by decide +kernel))
set_option maxRecDepth 20000 in
theorem gL_record_X4_record : GoodIn wsL_record (wsV RL 49 RX4 yX4_record wsX4_record) := goodIn_app (goodIn_of _ (by decide +kernel)) ggL_record_X4_record
theorem dL_record_0 : decode cL_record 0 = .ok (.aload_n 3, 1) := by decide +kernel
theorem dL_record_1 : decode cL_record 1 = .ok (.iconst 0, 1) := by decide +kernel
theorem dL_record_2 : decode cL_record 2 = .ok (.aload_n 0, 1) := by decide +kernel
theorem dL_record_3 : decode cL_record 3 = .ok (.iload_n 1, 1) := by decide +kernel
theorem dL_record_4 : decode cL_record 4 = .ok (.iload_n 2, 1) := by decide +kernel
theorem dL_record_5 : decode cL_record 5 = .ok (.invokevirtual 49, 3) := by decide +kernel
theorem dL_record_8 : decode cL_record 8 = .ok (.i2l, 1) := by decide +kernel
theorem dL_record_9 : decode cL_record 9 = .ok (.lastore, 1) := by decide +kernel
theorem dL_record_10 : decode cL_record 10 = .ok (.goto 11, 3) := by decide +kernel
theorem dL_record_13 : decode cL_record 13 = .ok (.astore 4, 2) := by decide +kernel
theorem dL_record_15 : decode cL_record 15 = .ok (.iconst 1, 1) := by decide +kernel
theorem dL_record_16 : decode cL_record 16 = .ok (.ireturn, 1) := by decide +kernel
theorem dL_record_17 : decode cL_record 17 = .ok (.astore 4, 2) := by decide +kernel
theorem dL_record_19 : decode cL_record 19 = .ok (.iconst 2, 1) := by decide +kernel
theorem dL_record_20 : decode cL_record 20 = .ok (.ireturn, 1) := by decide +kernel
theorem dL_record_21 : decode cL_record 21 = .ok (.iconst 0, 1) := by decide +kernel
theorem dL_record_22 : decode cL_record 22 = .ok (.ireturn, 1) := by decide +kernel
set_option maxRecDepth 20000 in
theorem ggL_law_L_cell : GoodIn wsL_law wsL_cell := goodIn_r _ [10] (by decide +kernel) (by decide +kernel)
set_option maxRecDepth 20000 in
theorem gL_law_L_cell : GoodIn wsL_law (va_wsS RL 52 yL_cell wsL_cell) := goodIn_app (goodIn_of _ (by decide +kernel)) ggL_law_L_cell
set_option maxRecDepth 20000 in
theorem ggL_law_X4_init : GoodIn wsL_law wsX4_init := goodIn_r _ [13, 14, 15, 16, 17, 18, 19, 20, 21, 22, 23, 24, 25, 26, 27, 28, 29, 30, 31, 32, 33, 34, 35, 36, 37, 38, 39, 40, 41, 42, 43, 44, 45, 2, 46, 47, 48, 49, 50, 51, 52, 53, 54, 55, 56, 57, 58, 59, 60, 61, 62, 63, 64, 65, 66, 67, 68, 532, 533, 534, 535, 536, 537, 538, 568, 569, 570, 571, 572, 573, 574, 575, 576, 577, 578, 579, 580, 581, 582, 583, 584, 585, 586, 587, 588, 589, 590, 591, 592] (by decide +kernel) (by decide +kernel)
set_option maxRecDepth 20000 in
theorem gL_law_X4_init : GoodIn wsL_law (wsX4_init) := ggL_law_X4_init
set_option maxRecDepth 20000 in
theorem ggL_law_X5_init : GoodIn wsL_law wsX5_init := goodIn_r _ [71, 72, 15, 16, 17, 73, 74, 75, 76, 77, 78, 79, 80, 81, 82, 83, 84, 85, 86, 87, 88, 89, 6, 90, 91, 92, 93, 94, 95, 96, 97, 98, 99, 5, 100, 539, 540, 541, 542, 543, 544, 545, 546, 547, 548, 549, 550, 551, 552, 553, 554, 555, 556, 557, 558, 559, 560, 561, 562, 563, 564, 565, 566, 567] (by decide +kernel) (by decide +kernel)
set_option maxRecDepth 20000 in
theorem gL_law_X5_init : GoodIn wsL_law (wsX5_init) := ggL_law_X5_init
set_option maxRecDepth 20000 in
theorem ggL_law_L_instruction : GoodIn wsL_law wsL_instruction := goodIn_ca (goodIn_ca (goodIn_r _ [103, 104, 105, 106, 107, 108, 2, 109, 110, 111, 112, 113, 22, 114, 115, 116, 117, 118, 119, 120, 121, 122, 123, 21, 124, 125, 36, 37, 38, 39, 532, 533, 534, 535, 536, 537, 538, 568, 569, 570, 571, 572] (by decide +kernel) (by decide +kernel)) (goodIn_sub (fun _ h => List.mem_append_left _ (List.mem_append_left _ (List.mem_append_right _ h))) (by decide +kernel))) (goodIn_sub (fun _ h => List.mem_append_left _ (List.mem_append_right _ h)) (by decide +kernel))
set_option maxRecDepth 20000 in
theorem gL_law_L_instruction : GoodIn wsL_law (va_wsS RL 64 yL_instruction wsL_instruction) := goodIn_app (goodIn_of _ (by decide +kernel)) ggL_law_L_instruction
set_option maxRecDepth 20000 in
theorem ggL_law_X5_instruction : GoodIn wsL_law wsX5_instruction := goodIn_r _ [129, 130, 131, 74, 75, 76, 77, 132, 133, 5, 134, 135, 136, 137, 138, 139, 140, 141, 142, 143, 539, 540, 541, 542, 543, 544, 545, 546, 547, 548, 549, 550, 551, 552, 553, 554, 555, 556, 557, 558, 559, 560, 561, 562, 563, 564, 565, 566, 567] (by decide +kernel) (by decide +kernel)
set_option maxRecDepth 20000 in
theorem gL_law_X5_instruction : GoodIn wsL_law (wsV RL 67 RX5 yX5_instruction wsX5_instruction) := goodIn_app (goodIn_of _ (by decide +kernel)) ggL_law_X5_instruction
set_option maxRecDepth 20000 in
theorem ggL_law_X5_thrown : GoodIn wsL_law wsX5_thrown := goodIn_r _ [147, 131, 539, 540, 541, 542, 543, 544, 545, 546, 547, 548, 549, 550, 551, 552, 553, 554, 555, 556, 557, 558, 559, 560, 561, 562, 563, 564, 565, 566, 567] (by decide +kernel) (by decide +kernel)
set_option maxRecDepth 20000 in
theorem gL_law_X5_thrown : GoodIn wsL_law (wsV RL 68 RX5 yX5_thrown wsX5_thrown) := goodIn_app (goodIn_of _ (by decide +kernel)) ggL_law_X5_thrown
set_option maxRecDepth 20000 in
theorem ggL_law_L_start : GoodIn wsL_law wsL_start := goodIn_ca (goodIn_ca (goodIn_r _ [150, 151, 104, 152, 153, 154, 2, 155, 156, 157, 110, 111, 30, 158, 159, 160, 161, 162, 163, 164, 165, 166, 167, 61, 168, 169, 170, 171, 172, 173, 532, 533, 534, 535, 536, 537, 538, 576, 577, 578, 579, 580, 581, 582, 583, 584, 585, 586, 587, 588, 589, 590, 591, 592] (by decide +kernel) (by decide +kernel)) (goodIn_sub (fun _ h => List.mem_append_right _ h) (by decide +kernel))) (goodIn_sub (fun _ h => List.mem_append_left _ (List.mem_append_left _ (List.mem_append_right _ h))) (by decide +kernel))
set_option maxRecDepth 20000 in
theorem gL_law_L_start : GoodIn wsL_law (va_wsS RL 72 yL_start wsL_start) := goodIn_app (goodIn_of _ (by decide +kernel)) ggL_law_L_start
set_option maxRecDepth 20000 in
theorem ggL_law_X5_start : GoodIn wsL_law wsX5_start := goodIn_r _ [177, 95, 131, 78, 80, 132, 133, 5, 134, 178, 179, 180, 181, 83, 84, 88, 89, 90, 539, 540, 541, 542, 543, 544, 545, 546, 547, 548, 549, 550, 551, 552, 553, 554, 555, 556, 557, 558, 559, 560, 561, 562, 563, 564, 565, 566, 567] (by decide +kernel) (by decide +kernel)
set_option maxRecDepth 20000 in
theorem gL_law_X5_start : GoodIn wsL_law (wsV RL 75 RX5 yX5_start wsX5_start) := goodIn_app (goodIn_of _ (by decide +kernel)) ggL_law_X5_start
set_option maxRecDepth 20000 in
theorem ggL_law_L_set : GoodIn wsL_law wsL_set := goodIn_ca (goodIn_r _ [184, 151, 185, 186, 187, 2, 188, 156, 157, 30, 189, 161, 162, 163, 164, 118, 119, 120, 190, 191, 192, 32, 193, 58, 532, 533, 534, 535, 536, 537, 538, 576, 577, 578, 579, 580, 581, 582, 583] (by decide +kernel) (by decide +kernel)) (goodIn_sub (fun _ h => List.mem_append_right _ h) (by decide +kernel))
set_option maxRecDepth 20000 in
theorem gL_law_L_set : GoodIn wsL_law (va_wsS RL 76 yL_set wsL_set) := goodIn_app (goodIn_of _ (by decide +kernel)) ggL_law_L_set
set_option maxRecDepth 20000 in
theorem ggL_law_X5_set : GoodIn wsL_law wsX5_set := goodIn_r _ [197, 95, 131, 132, 133, 5, 134, 198, 199, 200, 201, 82, 202, 203, 204, 205, 539, 540, 541, 542, 543, 544, 545, 546, 547, 548, 549, 550, 551, 552, 553, 554, 555, 556, 557, 558, 559, 560, 561, 562, 563, 564, 565, 566, 567] (by decide +kernel) (by decide +kernel)
set_option maxRecDepth 20000 in
theorem gL_law_X5_set : GoodIn wsL_law (wsV RL 79 RX5 yX5_set wsX5_set) := goodIn_app (goodIn_of _ (by decide +kernel)) ggL_law_X5_set
set_option maxRecDepth 20000 in
theorem ggL_law_L_poke : GoodIn wsL_law wsL_poke := goodIn_ca (goodIn_r _ [208, 151, 209, 210, 211, 2, 212, 156, 157, 18, 213, 214, 215, 216, 217, 218, 219, 30, 159, 220, 221, 222, 61, 223, 171, 172, 224, 225, 226, 227, 26, 228, 229, 230, 231, 189, 232, 233, 234, 235, 236, 158, 237, 238, 239, 240, 25, 241, 242, 243, 43, 190, 191, 192, 32, 193, 58, 165, 166, 167, 168, 169, 170, 173, 532, 533, 534, 535, 536, 537, 538, 576, 577, 578, 579, 580, 581, 582, 583, 584, 585, 586, 587, 588, 589, 590, 591, 592, 573, 574, 575] (by decide +kernel) (by decide +kernel)) (goodIn_sub (fun _ h => List.mem_append_right _ h) (by decide +kernel))
set_option maxRecDepth 20000 in
theorem gL_law_L_poke : GoodIn wsL_law (va_wsS RL 80 yL_poke wsL_poke) := goodIn_app (goodIn_of _ (by decide +kernel)) ggL_law_L_poke
set_option maxRecDepth 20000 in
theorem ggL_law_X5_poke : GoodIn wsL_law wsX5_poke := goodIn_r _ [247, 131, 73, 132, 133, 5, 134, 248, 249, 250, 251, 95, 252, 253, 254, 255, 88, 89, 83, 256, 257, 258, 259, 260, 94, 85, 84, 82, 87, 78, 86, 93, 178, 179, 180, 181, 90, 539, 540, 541, 542, 543, 544, 545, 546, 547, 548, 549, 550, 551, 552, 553, 554, 555, 556, 557, 558, 559, 560, 561, 562, 563, 564, 565, 566, 567] (by decide +kernel) (by decide +kernel)
set_option maxRecDepth 20000 in
theorem gL_law_X5_poke : GoodIn wsL_law (wsV RL 82 RX5 yX5_poke wsX5_poke) := goodIn_app (goodIn_of _ (by decide +kernel)) ggL_law_X5_poke
set_option maxRecDepth 20000 in
theorem ggL_law_L_pick : GoodIn wsL_law wsL_pick := goodIn_ca (goodIn_ca (goodIn_r _ [263, 151, 104, 264, 265, 266, 2, 267, 156, 157, 110, 111, 30, 160, 161, 162, 163, 164, 268, 269, 270, 271, 272, 273, 274, 158, 22, 114, 275, 276, 277, 278, 279, 159, 280, 224, 225, 226, 227, 26, 228, 229, 230, 231, 189, 232, 233, 234, 235, 236, 237, 238, 239, 240, 25, 241, 242, 243, 43, 190, 191, 192, 32, 193, 58, 165, 166, 167, 61, 168, 169, 170, 171, 172, 173, 281, 282, 283, 284, 285, 286, 287, 288, 289, 290, 291, 292, 27, 28, 213, 214, 215, 293, 294, 295, 296, 220, 221, 222, 223, 216, 217, 218, 219, 297, 298, 299, 300, 301, 302, 303, 304, 305, 306, 307, 308, 309, 18, 310, 311, 312, 313, 314, 315, 316, 317, 318, 319, 320, 321, 68, 322, 323, 324, 325, 326, 327, 328, 329, 330, 331, 332, 333, 334, 335, 336, 67, 337, 338, 339, 340, 341, 342, 343, 344, 345, 346, 347, 348, 349, 350, 351, 532, 533, 534, 535, 536, 537, 538, 576, 577, 578, 579, 580, 581, 582, 583, 568, 569, 570, 571, 572, 584, 585, 586, 587, 588, 589, 590, 591, 592, 573, 574, 575] (by decide +kernel) (by decide +kernel)) (goodIn_sub (fun _ h => List.mem_append_right _ h) (by decide +kernel))) (goodIn_sub (fun _ h => List.mem_append_left _ (List.mem_append_left _ (List.mem_append_right _ h))) (by decide +kernel))
set_option maxRecDepth 20000 in
theorem gL_law_L_pick : GoodIn wsL_law (va_wsS RL 83 yL_pick wsL_pick) := goodIn_app (goodIn_of _ (by decide +kernel)) ggL_law_L_pick
set_option maxRecDepth 20000 in
theorem ggL_law_X5_pick : GoodIn wsL_law wsX5_pick := goodIn_r _ [355, 95, 131, 80, 132, 133, 5, 134, 356, 357, 358, 359, 78, 130, 360, 81, 361, 362, 363, 364, 83, 256, 257, 258, 259, 260, 94, 85, 84, 82, 87, 86, 93, 178, 179, 180, 181, 88, 89, 90, 365, 366, 367, 368, 75, 76, 77, 74, 202, 203, 204, 205, 198, 199, 200, 201, 369, 370, 371, 372, 373, 374, 375, 376, 97, 252, 253, 254, 255, 248, 249, 250, 251, 377, 378, 379, 380, 96, 381, 382, 383, 384, 91, 73, 385, 386, 387, 388, 389, 390, 391, 392, 393, 394, 395, 396, 397, 398, 399, 400, 401, 92, 402, 403, 404, 405, 539, 540, 541, 542, 543, 544, 545, 546, 547, 548, 549, 550, 551, 552, 553, 554, 555, 556, 557, 558, 559, 560, 561, 562, 563, 564, 565, 566, 567] (by decide +kernel) (by decide +kernel)
set_option maxRecDepth 20000 in
theorem gL_law_X5_pick : GoodIn wsL_law (wsV RL 85 RX5 yX5_pick wsX5_pick) := goodIn_app (goodIn_of _ (by decide +kernel)) ggL_law_X5_pick
set_option maxRecDepth 20000 in
theorem ggL_law_L_run : GoodIn wsL_law wsL_run := goodIn_ca (goodIn_r _ [408, 104, 409, 410, 411, 2, 412, 110, 111, 413, 30, 268, 269, 270, 271, 272, 273, 274, 160, 158, 22, 114, 275, 276, 277, 278, 279, 159, 280, 224, 225, 226, 227, 26, 228, 229, 230, 231, 189, 232, 233, 234, 235, 236, 237, 238, 239, 240, 25, 241, 242, 243, 43, 190, 191, 192, 32, 193, 58, 165, 166, 167, 61, 168, 169, 170, 171, 172, 173, 281, 282, 283, 284, 285, 286, 287, 288, 289, 290, 291, 292, 27, 28, 213, 214, 215, 293, 294, 295, 296, 220, 221, 222, 223, 216, 217, 218, 219, 297, 298, 299, 300, 301, 302, 303, 304, 305, 306, 307, 308, 309, 18, 310, 311, 312, 313, 314, 315, 316, 317, 318, 319, 320, 321, 68, 322, 323, 324, 325, 326, 327, 328, 329, 330, 331, 332, 333, 334, 335, 336, 67, 337, 338, 339, 340, 341, 342, 343, 344, 345, 346, 347, 348, 349, 350, 351, 532, 533, 534, 535, 536, 537, 538, 576, 577, 578, 579, 580, 581, 582, 583, 568, 569, 570, 571, 572, 584, 585, 586, 587, 588, 589, 590, 591, 592, 573, 574, 575] (by decide +kernel) (by decide +kernel)) (goodIn_sub (fun _ h => List.mem_append_left _ (List.mem_append_left _ (List.mem_append_right _ h))) (by decide +kernel))
set_option maxRecDepth 20000 in
theorem gL_law_L_run : GoodIn wsL_law (va_wsS RL 86 yL_run wsL_run) := goodIn_app (goodIn_of _ (by decide +kernel)) ggL_law_L_run
set_option maxRecDepth 20000 in
theorem ggL_law_X5_run : GoodIn wsL_law wsX5_run := goodIn_r _ [417, 131, 418, 95, 356, 357, 358, 5, 359, 80, 78, 130, 360, 81, 132, 133, 134, 361, 362, 363, 364, 83, 256, 257, 258, 259, 260, 94, 85, 84, 82, 87, 86, 93, 178, 179, 180, 181, 88, 89, 90, 365, 366, 367, 368, 75, 76, 77, 74, 202, 203, 204, 205, 198, 199, 200, 201, 369, 370, 371, 372, 373, 374, 375, 376, 97, 252, 253, 254, 255, 248, 249, 250, 251, 377, 378, 379, 380, 96, 381, 382, 383, 384, 91, 73, 385, 386, 387, 388, 389, 390, 391, 392, 393, 394, 395, 396, 397, 398, 399, 400, 401, 92, 402, 403, 404, 405, 539, 540, 541, 542, 543, 544, 545, 546, 547, 548, 549, 550, 551, 552, 553, 554, 555, 556, 557, 558, 559, 560, 561, 562, 563, 564, 565, 566, 567] (by decide +kernel) (by decide +kernel)
set_option maxRecDepth 20000 in
theorem gL_law_X5_run : GoodIn wsL_law (wsV RL 88 RX5 yX5_run wsX5_run) := goodIn_app (goodIn_of _ (by decide +kernel)) ggL_law_X5_run
set_option maxRecDepth 20000 in
theorem ggL_law_L_register : GoodIn wsL_law wsL_register := goodIn_ca (goodIn_r _ [421, 151, 422, 423, 424, 2, 425, 156, 157, 30, 189, 161, 162, 163, 164, 118, 119, 120, 532, 533, 534, 535, 536, 537, 538, 576, 577, 578, 579, 580, 581, 582, 583] (by decide +kernel) (by decide +kernel)) (goodIn_sub (fun _ h => List.mem_append_right _ h) (by decide +kernel))
set_option maxRecDepth 20000 in
theorem gL_law_L_register : GoodIn wsL_law (va_wsS RL 89 yL_register wsL_register) := goodIn_app (goodIn_of _ (by decide +kernel)) ggL_law_L_register
set_option maxRecDepth 20000 in
theorem ggL_law_X5_register : GoodIn wsL_law wsX5_register := goodIn_r _ [429, 95, 131, 132, 133, 5, 134, 198, 199, 200, 201, 82, 539, 540, 541, 542, 543, 544, 545, 546, 547, 548, 549, 550, 551, 552, 553, 554, 555, 556, 557, 558, 559, 560, 561, 562, 563, 564, 565, 566, 567] (by decide +kernel) (by decide +kernel)
set_option maxRecDepth 20000 in
theorem gL_law_X5_register : GoodIn wsL_law (wsV RL 91 RX5 yX5_register wsX5_register) := goodIn_app (goodIn_of _ (by decide +kernel)) ggL_law_X5_register
set_option maxRecDepth 20000 in
theorem ggL_law_L_word : GoodIn wsL_law wsL_word := goodIn_ca (goodIn_r _ [432, 151, 433, 434, 435, 2, 436, 156, 157, 18, 213, 214, 215, 532, 533, 534, 535, 536, 537, 538] (by decide +kernel) (by decide +kernel)) (goodIn_sub (fun _ h => List.mem_append_right _ h) (by decide +kernel))
set_option maxRecDepth 20000 in
theorem gL_law_L_word : GoodIn wsL_law (va_wsS RL 92 yL_word wsL_word) := goodIn_app (goodIn_of _ (by decide +kernel)) ggL_law_L_word
set_option maxRecDepth 20000 in
theorem ggL_law_X5_word : GoodIn wsL_law wsX5_word := goodIn_r _ [440, 131, 73, 132, 133, 5, 134, 539, 540, 541, 542, 543, 544, 545, 546, 547, 548, 549, 550, 551, 552, 553, 554, 555, 556, 557, 558, 559, 560, 561, 562, 563, 564, 565, 566, 567] (by decide +kernel) (by decide +kernel)
set_option maxRecDepth 20000 in
theorem gL_law_X5_word : GoodIn wsL_law (wsV RL 95 RX5 yX5_word wsX5_word) := goodIn_app (goodIn_of _ (by decide +kernel)) ggL_law_X5_word
set_option maxRecDepth 20000 in
theorem ggL_law_L_seen : GoodIn wsL_law wsL_seen := goodIn_ca (goodIn_r _ [443, 151, 444, 445, 446, 2, 447, 156, 157, 30, 161, 162, 163, 164, 213, 214, 215, 305, 306, 307, 308, 159, 309, 18, 310, 311, 312, 61, 313, 173, 532, 533, 534, 535, 536, 537, 538, 576, 577, 578, 579, 580, 581, 582, 583, 584, 585, 586, 587, 588, 589, 590, 591, 592] (by decide +kernel) (by decide +kernel)) (goodIn_sub (fun _ h => List.mem_append_right _ h) (by decide +kernel))
set_option maxRecDepth 20000 in
theorem gL_law_L_seen : GoodIn wsL_law (va_wsS RL 96 yL_seen wsL_seen) := goodIn_app (goodIn_of _ (by decide +kernel)) ggL_law_L_seen
set_option maxRecDepth 20000 in
theorem ggL_law_X5_seen : GoodIn wsL_law wsX5_seen := goodIn_r _ [451, 95, 131, 132, 133, 5, 134, 381, 382, 383, 384, 90, 91, 73, 539, 540, 541, 542, 543, 544, 545, 546, 547, 548, 549, 550, 551, 552, 553, 554, 555, 556, 557, 558, 559, 560, 561, 562, 563, 564, 565, 566, 567] (by decide +kernel) (by decide +kernel)
set_option maxRecDepth 20000 in
theorem gL_law_X5_seen : GoodIn wsL_law (wsV RL 98 RX5 yX5_seen wsX5_seen) := goodIn_app (goodIn_of _ (by decide +kernel)) ggL_law_X5_seen
set_option maxRecDepth 20000 in
theorem ggL_law_L_told : GoodIn wsL_law wsL_told := goodIn_ca (goodIn_ca (goodIn_r _ [454, 151, 104, 455, 456, 457, 2, 458, 156, 157, 110, 111, 30, 161, 162, 163, 164, 459, 460, 461, 159, 158, 160, 275, 280, 230, 462, 463, 464, 342, 237, 465, 466, 467, 468, 469, 470, 471, 472, 473, 474, 475, 476, 477, 478, 532, 533, 534, 535, 536, 537, 538, 576, 577, 578, 579, 580, 581, 582, 583, 584, 585, 586, 587, 588, 589, 590, 591, 592] (by decide +kernel) (by decide +kernel)) (goodIn_sub (fun _ h => List.mem_append_right _ h) (by decide +kernel))) (goodIn_sub (fun _ h => List.mem_append_left _ (List.mem_append_left _ (List.mem_append_right _ h))) (by decide +kernel))
set_option maxRecDepth 20000 in
theorem gL_law_L_told : GoodIn wsL_law (va_wsS RL 99 yL_told wsL_told) := goodIn_app (goodIn_of _ (by decide +kernel)) ggL_law_L_told
set_option maxRecDepth 20000 in
theorem ggL_law_X5_told : GoodIn wsL_law wsX5_told := goodIn_r _ [482, 95, 131, 78, 80, 81, 83, 84, 88, 89, 90, 92, 93, 132, 133, 5, 134, 483, 484, 485, 539, 540, 541, 542, 543, 544, 545, 546, 547, 548, 549, 550, 551, 552, 553, 554, 555, 556, 557, 558, 559, 560, 561, 562, 563, 564, 565, 566, 567] (by decide +kernel) (by decide +kernel)
set_option maxRecDepth 20000 in
theorem gL_law_X5_told : GoodIn wsL_law (wsV RL 101 RX5 yX5_told wsX5_told) := goodIn_app (goodIn_of _ (by decide +kernel)) ggL_law_X5_told
set_option maxRecDepth 20000 in
theorem ggL_law_X4_records : GoodIn wsL_law wsX4_records := goodIn_r _ [489, 26, 490, 532, 533, 534, 535, 536, 537, 538, 573, 574, 575] (by decide +kernel) (by decide +kernel)
set_option maxRecDepth 20000 in
theorem gL_law_X4_records : GoodIn wsL_law (wsV RL 102 RX4 yX4_records wsX4_records) := goodIn_app (goodIn_of _ (by decide +kernel)) ggL_law_X4_records
set_option maxRecDepth 20000 in
theorem ggL_law_X5_records : GoodIn wsL_law wsX5_records := goodIn_r _ [494, 131, 260, 539, 540, 541, 542, 543, 544, 545, 546, 547, 548, 549, 550, 551, 552, 553, 554, 555, 556, 557, 558, 559, 560, 561, 562, 563, 564, 565, 566, 567] (by decide +kernel) (by decide +kernel)
set_option maxRecDepth 20000 in
theorem gL_law_X5_records : GoodIn wsL_law (wsV RL 105 RX5 yX5_records wsX5_records) := goodIn_app (goodIn_of _ (by decide +kernel)) ggL_law_X5_records
set_option maxRecDepth 20000 in
theorem ggL_law_L_record : GoodIn wsL_law wsL_record := goodIn_ca (goodIn_ca (goodIn_r _ [497, 151, 104, 498, 499, 500, 2, 501, 156, 157, 110, 111, 26, 490, 502, 503, 504, 25, 505, 43, 242, 532, 533, 534, 535, 536, 537, 538, 573, 574, 575] (by decide +kernel) (by decide +kernel)) (goodIn_sub (fun _ h => List.mem_append_right _ h) (by decide +kernel))) (goodIn_sub (fun _ h => List.mem_append_left _ (List.mem_append_left _ (List.mem_append_right _ h))) (by decide +kernel))
set_option maxRecDepth 20000 in
theorem gL_law_L_record : GoodIn wsL_law (va_wsS RL 106 yL_record wsL_record) := goodIn_app (goodIn_of _ (by decide +kernel)) ggL_law_L_record
set_option maxRecDepth 20000 in
theorem ggL_law_X5_record : GoodIn wsL_law wsX5_record := goodIn_r _ [509, 260, 131, 94, 132, 133, 5, 134, 539, 540, 541, 542, 543, 544, 545, 546, 547, 548, 549, 550, 551, 552, 553, 554, 555, 556, 557, 558, 559, 560, 561, 562, 563, 564, 565, 566, 567] (by decide +kernel) (by decide +kernel)
set_option maxRecDepth 20000 in
theorem gL_law_X5_record : GoodIn wsL_law (wsV RL 108 RX5 yX5_record wsX5_record) := goodIn_app (goodIn_of _ (by decide +kernel)) ggL_law_X5_record
set_option maxRecDepth 20000 in
theorem ggL_law_X4_clear : GoodIn wsL_law wsX4_clear := goodIn_r _ [513, 30, 18, 22, 114, 26, 330, 514, 515, 516, 32, 517, 58, 62, 518, 519, 520, 521, 522, 523, 166, 167, 61, 168, 169, 170, 171, 172, 173, 524, 525, 526, 25, 527, 243, 242, 532, 533, 534, 535, 536, 537, 538, 568, 569, 570, 571, 572, 576, 577, 578, 579, 580, 581, 582, 583, 584, 585, 586, 587, 588, 589, 590, 591, 592, 573, 574, 575] (by decide +kernel) (by decide +kernel)
set_option maxRecDepth 20000 in
theorem gL_law_X4_clear : GoodIn wsL_law (wsV RL 109 RX4 yX4_clear wsX4_clear) := goodIn_app (goodIn_of _ (by decide +kernel)) ggL_law_X4_clear
set_option maxRecDepth 20000 in
theorem ggL_law_X5_clear : GoodIn wsL_law wsX5_clear := goodIn_r _ [531, 131, 130, 393, 260, 73, 78, 80, 81, 92, 93, 82, 178, 179, 180, 5, 181, 83, 84, 88, 89, 90, 539, 540, 541, 542, 543, 544, 545, 546, 547, 548, 549, 550, 551, 552, 553, 554, 555, 556, 557, 558, 559, 560, 561, 562, 563, 564, 565, 566, 567] (by decide +kernel) (by decide +kernel)
set_option maxRecDepth 20000 in
theorem gL_law_X5_clear : GoodIn wsL_law (wsV RL 112 RX5 yX5_clear wsX5_clear) := goodIn_app (goodIn_of _ (by decide +kernel)) ggL_law_X5_clear
theorem dL_law_0 : decode cL_law 0 = .ok (.new 8, 3) := by decide +kernel
theorem dL_law_3 : decode cL_law 3 = .ok (.dup, 1) := by decide +kernel
theorem dL_law_4 : decode cL_law 4 = .ok (.aload_n 0, 1) := by decide +kernel
theorem dL_law_5 : decode cL_law 5 = .ok (.iconst 0, 1) := by decide +kernel
theorem dL_law_6 : decode cL_law 6 = .ok (.invokestatic 52, 3) := by decide +kernel
theorem dL_law_9 : decode cL_law 9 = .ok (.aload_n 0, 1) := by decide +kernel
theorem dL_law_10 : decode cL_law 10 = .ok (.iconst 1, 1) := by decide +kernel
theorem dL_law_11 : decode cL_law 11 = .ok (.invokestatic 52, 3) := by decide +kernel
theorem dL_law_14 : decode cL_law 14 = .ok (.aload_n 0, 1) := by decide +kernel
theorem dL_law_15 : decode cL_law 15 = .ok (.iconst 2, 1) := by decide +kernel
theorem dL_law_16 : decode cL_law 16 = .ok (.invokestatic 52, 3) := by decide +kernel
theorem dL_law_19 : decode cL_law 19 = .ok (.invokespecial 58, 3) := by decide +kernel
theorem dL_law_22 : decode cL_law 22 = .ok (.astore_n 1, 1) := by decide +kernel
theorem dL_law_23 : decode cL_law 23 = .ok (.new 61, 3) := by decide +kernel
theorem dL_law_26 : decode cL_law 26 = .ok (.dup, 1) := by decide +kernel
theorem dL_law_27 : decode cL_law 27 = .ok (.aload_n 0, 1) := by decide +kernel
theorem dL_law_28 : decode cL_law 28 = .ok (.iconst 0, 1) := by decide +kernel
theorem dL_law_29 : decode cL_law 29 = .ok (.invokestatic 52, 3) := by decide +kernel
theorem dL_law_32 : decode cL_law 32 = .ok (.aload_n 0, 1) := by decide +kernel
theorem dL_law_33 : decode cL_law 33 = .ok (.iconst 1, 1) := by decide +kernel
theorem dL_law_34 : decode cL_law 34 = .ok (.invokestatic 52, 3) := by decide +kernel
theorem dL_law_37 : decode cL_law 37 = .ok (.aload_n 0, 1) := by decide +kernel
theorem dL_law_38 : decode cL_law 38 = .ok (.iconst 2, 1) := by decide +kernel
theorem dL_law_39 : decode cL_law 39 = .ok (.invokestatic 52, 3) := by decide +kernel
theorem dL_law_42 : decode cL_law 42 = .ok (.invokespecial 63, 3) := by decide +kernel
theorem dL_law_45 : decode cL_law 45 = .ok (.astore_n 2, 1) := by decide +kernel
theorem dL_law_46 : decode cL_law 46 = .ok (.iconst 1, 1) := by decide +kernel
theorem dL_law_47 : decode cL_law 47 = .ok (.newarray .long, 2) := by decide +kernel
theorem dL_law_49 : decode cL_law 49 = .ok (.astore_n 3, 1) := by decide +kernel
theorem dL_law_50 : decode cL_law 50 = .ok (.iconst 3, 1) := by decide +kernel
theorem dL_law_51 : decode cL_law 51 = .ok (.istore 4, 2) := by decide +kernel
theorem dL_law_53 : decode cL_law 53 = .ok (.iload 4, 2) := by decide +kernel
theorem dL_law_55 : decode cL_law 55 = .ok (.aload_n 0, 1) := by decide +kernel
theorem dL_law_56 : decode cL_law 56 = .ok (.arraylength, 1) := by decide +kernel
theorem dL_law_57 : decode cL_law 57 = .ok (.iconst 5, 1) := by decide +kernel
theorem dL_law_58 : decode cL_law 58 = .ok (.isub, 1) := by decide +kernel
theorem dL_law_59 : decode cL_law 59 = .ok (.if_icmp .gt 879, 3) := by decide +kernel
theorem dL_law_62 : decode cL_law 62 = .ok (.aload_n 0, 1) := by decide +kernel
theorem dL_law_63 : decode cL_law 63 = .ok (.iload 4, 2) := by decide +kernel
theorem dL_law_65 : decode cL_law 65 = .ok (.iaload, 1) := by decide +kernel
theorem dL_law_66 : decode cL_law 66 = .ok (.bipush 15, 2) := by decide +kernel
theorem dL_law_68 : decode cL_law 68 = .ok (.iand, 1) := by decide +kernel
theorem dL_law_69 : decode cL_law 69 = .ok (.tableswitch 863 0 12 #[67, 159, 227, 307, 375, 443, 511, 579, 635, 703, 771, 784, 852], 67) := by decide +kernel
theorem dL_law_136 : decode cL_law 136 = .ok (.aload_n 1, 1) := by decide +kernel
end
section
theorem dL_law_137 : decode cL_law 137 = .ok (.aload_n 0, 1) := by decide +kernel
theorem dL_law_138 : decode cL_law 138 = .ok (.iload 4, 2) := by decide +kernel
theorem dL_law_140 : decode cL_law 140 = .ok (.iconst 1, 1) := by decide +kernel
theorem dL_law_141 : decode cL_law 141 = .ok (.iadd, 1) := by decide +kernel
theorem dL_law_142 : decode cL_law 142 = .ok (.iaload, 1) := by decide +kernel
theorem dL_law_143 : decode cL_law 143 = .ok (.aload_n 0, 1) := by decide +kernel
theorem dL_law_144 : decode cL_law 144 = .ok (.iload 4, 2) := by decide +kernel
theorem dL_law_146 : decode cL_law 146 = .ok (.iconst 2, 1) := by decide +kernel
theorem dL_law_147 : decode cL_law 147 = .ok (.iadd, 1) := by decide +kernel
theorem dL_law_148 : decode cL_law 148 = .ok (.iaload, 1) := by decide +kernel
theorem dL_law_149 : decode cL_law 149 = .ok (.aload_n 0, 1) := by decide +kernel
theorem dL_law_150 : decode cL_law 150 = .ok (.iload 4, 2) := by decide +kernel
theorem dL_law_152 : decode cL_law 152 = .ok (.iconst 3, 1) := by decide +kernel
theorem dL_law_153 : decode cL_law 153 = .ok (.iadd, 1) := by decide +kernel
theorem dL_law_154 : decode cL_law 154 = .ok (.iaload, 1) := by decide +kernel
theorem dL_law_155 : decode cL_law 155 = .ok (.aload_n 0, 1) := by decide +kernel
theorem dL_law_156 : decode cL_law 156 = .ok (.iload 4, 2) := by decide +kernel
theorem dL_law_158 : decode cL_law 158 = .ok (.iconst 4, 1) := by decide +kernel
theorem dL_law_159 : decode cL_law 159 = .ok (.iadd, 1) := by decide +kernel
theorem dL_law_160 : decode cL_law 160 = .ok (.iaload, 1) := by decide +kernel
theorem dL_law_161 : decode cL_law 161 = .ok (.aload_n 3, 1) := by decide +kernel
theorem dL_law_162 : decode cL_law 162 = .ok (.invokestatic 64, 3) := by decide +kernel
theorem dL_law_165 : decode cL_law 165 = .ok (.istore 5, 2) := by decide +kernel
theorem dL_law_167 : decode cL_law 167 = .ok (.aload_n 2, 1) := by decide +kernel
theorem dL_law_168 : decode cL_law 168 = .ok (.aload_n 0, 1) := by decide +kernel
theorem dL_law_169 : decode cL_law 169 = .ok (.iload 4, 2) := by decide +kernel
theorem dL_law_171 : decode cL_law 171 = .ok (.iconst 1, 1) := by decide +kernel
theorem dL_law_172 : decode cL_law 172 = .ok (.iadd, 1) := by decide +kernel
theorem dL_law_173 : decode cL_law 173 = .ok (.iaload, 1) := by decide +kernel
theorem dL_law_174 : decode cL_law 174 = .ok (.aload_n 0, 1) := by decide +kernel
theorem dL_law_175 : decode cL_law 175 = .ok (.iload 4, 2) := by decide +kernel
theorem dL_law_177 : decode cL_law 177 = .ok (.iconst 2, 1) := by decide +kernel
theorem dL_law_178 : decode cL_law 178 = .ok (.iadd, 1) := by decide +kernel
theorem dL_law_179 : decode cL_law 179 = .ok (.iaload, 1) := by decide +kernel
theorem dL_law_180 : decode cL_law 180 = .ok (.aload_n 0, 1) := by decide +kernel
theorem dL_law_181 : decode cL_law 181 = .ok (.iload 4, 2) := by decide +kernel
theorem dL_law_183 : decode cL_law 183 = .ok (.iconst 3, 1) := by decide +kernel
theorem dL_law_184 : decode cL_law 184 = .ok (.iadd, 1) := by decide +kernel
theorem dL_law_185 : decode cL_law 185 = .ok (.iaload, 1) := by decide +kernel
theorem dL_law_186 : decode cL_law 186 = .ok (.aload_n 0, 1) := by decide +kernel
theorem dL_law_187 : decode cL_law 187 = .ok (.iload 4, 2) := by decide +kernel
theorem dL_law_189 : decode cL_law 189 = .ok (.iconst 4, 1) := by decide +kernel
theorem dL_law_190 : decode cL_law 190 = .ok (.iadd, 1) := by decide +kernel
theorem dL_law_191 : decode cL_law 191 = .ok (.iaload, 1) := by decide +kernel
theorem dL_law_192 : decode cL_law 192 = .ok (.invokevirtual 67, 3) := by decide +kernel
theorem dL_law_195 : decode cL_law 195 = .ok (.istore 6, 2) := by decide +kernel
theorem dL_law_197 : decode cL_law 197 = .ok (.aload_n 2, 1) := by decide +kernel
theorem dL_law_198 : decode cL_law 198 = .ok (.invokevirtual 68, 3) := by decide +kernel
theorem dL_law_201 : decode cL_law 201 = .ok (.iload 5, 2) := by decide +kernel
theorem dL_law_203 : decode cL_law 203 = .ok (.if_icmp .eq 5, 3) := by decide +kernel
theorem dL_law_206 : decode cL_law 206 = .ok (.iconst 0, 1) := by decide +kernel
theorem dL_law_207 : decode cL_law 207 = .ok (.ireturn, 1) := by decide +kernel
theorem dL_law_208 : decode cL_law 208 = .ok (.iload 5, 2) := by decide +kernel
theorem dL_law_210 : decode cL_law 210 = .ok (.ifCond .ne 15, 3) := by decide +kernel
theorem dL_law_213 : decode cL_law 213 = .ok (.aload_n 3, 1) := by decide +kernel
theorem dL_law_214 : decode cL_law 214 = .ok (.iconst 0, 1) := by decide +kernel
theorem dL_law_215 : decode cL_law 215 = .ok (.laload, 1) := by decide +kernel
theorem dL_law_216 : decode cL_law 216 = .ok (.iload 6, 2) := by decide +kernel
theorem dL_law_218 : decode cL_law 218 = .ok (.i2l, 1) := by decide +kernel
theorem dL_law_219 : decode cL_law 219 = .ok (.lcmp, 1) := by decide +kernel
theorem dL_law_220 : decode cL_law 220 = .ok (.ifCond .eq 5, 3) := by decide +kernel
theorem dL_law_223 : decode cL_law 223 = .ok (.iconst 0, 1) := by decide +kernel
theorem dL_law_224 : decode cL_law 224 = .ok (.ireturn, 1) := by decide +kernel
theorem dL_law_225 : decode cL_law 225 = .ok (.goto 707, 3) := by decide +kernel
theorem dL_law_228 : decode cL_law 228 = .ok (.aload_n 1, 1) := by decide +kernel
theorem dL_law_229 : decode cL_law 229 = .ok (.aload_n 0, 1) := by decide +kernel
theorem dL_law_230 : decode cL_law 230 = .ok (.iload 4, 2) := by decide +kernel
theorem dL_law_232 : decode cL_law 232 = .ok (.iconst 1, 1) := by decide +kernel
theorem dL_law_233 : decode cL_law 233 = .ok (.iadd, 1) := by decide +kernel
theorem dL_law_234 : decode cL_law 234 = .ok (.iaload, 1) := by decide +kernel
theorem dL_law_235 : decode cL_law 235 = .ok (.aload_n 0, 1) := by decide +kernel
theorem dL_law_236 : decode cL_law 236 = .ok (.iload 4, 2) := by decide +kernel
theorem dL_law_238 : decode cL_law 238 = .ok (.iconst 2, 1) := by decide +kernel
theorem dL_law_239 : decode cL_law 239 = .ok (.iadd, 1) := by decide +kernel
theorem dL_law_240 : decode cL_law 240 = .ok (.iaload, 1) := by decide +kernel
theorem dL_law_241 : decode cL_law 241 = .ok (.aload_n 3, 1) := by decide +kernel
theorem dL_law_242 : decode cL_law 242 = .ok (.invokestatic 72, 3) := by decide +kernel
theorem dL_law_245 : decode cL_law 245 = .ok (.istore 5, 2) := by decide +kernel
theorem dL_law_247 : decode cL_law 247 = .ok (.aload_n 2, 1) := by decide +kernel
theorem dL_law_248 : decode cL_law 248 = .ok (.aload_n 0, 1) := by decide +kernel
theorem dL_law_249 : decode cL_law 249 = .ok (.iload 4, 2) := by decide +kernel
theorem dL_law_251 : decode cL_law 251 = .ok (.iconst 1, 1) := by decide +kernel
theorem dL_law_252 : decode cL_law 252 = .ok (.iadd, 1) := by decide +kernel
theorem dL_law_253 : decode cL_law 253 = .ok (.iaload, 1) := by decide +kernel
theorem dL_law_254 : decode cL_law 254 = .ok (.aload_n 0, 1) := by decide +kernel
theorem dL_law_255 : decode cL_law 255 = .ok (.iload 4, 2) := by decide +kernel
theorem dL_law_257 : decode cL_law 257 = .ok (.iconst 2, 1) := by decide +kernel
theorem dL_law_258 : decode cL_law 258 = .ok (.iadd, 1) := by decide +kernel
theorem dL_law_259 : decode cL_law 259 = .ok (.iaload, 1) := by decide +kernel
theorem dL_law_260 : decode cL_law 260 = .ok (.invokevirtual 75, 3) := by decide +kernel
theorem dL_law_263 : decode cL_law 263 = .ok (.istore 6, 2) := by decide +kernel
theorem dL_law_265 : decode cL_law 265 = .ok (.aload_n 2, 1) := by decide +kernel
theorem dL_law_266 : decode cL_law 266 = .ok (.invokevirtual 68, 3) := by decide +kernel
theorem dL_law_269 : decode cL_law 269 = .ok (.iload 5, 2) := by decide +kernel
theorem dL_law_271 : decode cL_law 271 = .ok (.if_icmp .eq 5, 3) := by decide +kernel
theorem dL_law_274 : decode cL_law 274 = .ok (.iconst 0, 1) := by decide +kernel
theorem dL_law_275 : decode cL_law 275 = .ok (.ireturn, 1) := by decide +kernel
theorem dL_law_276 : decode cL_law 276 = .ok (.iload 5, 2) := by decide +kernel
theorem dL_law_278 : decode cL_law 278 = .ok (.ifCond .ne 15, 3) := by decide +kernel
theorem dL_law_281 : decode cL_law 281 = .ok (.aload_n 3, 1) := by decide +kernel
theorem dL_law_282 : decode cL_law 282 = .ok (.iconst 0, 1) := by decide +kernel
theorem dL_law_283 : decode cL_law 283 = .ok (.laload, 1) := by decide +kernel
theorem dL_law_284 : decode cL_law 284 = .ok (.iload 6, 2) := by decide +kernel
theorem dL_law_286 : decode cL_law 286 = .ok (.i2l, 1) := by decide +kernel
theorem dL_law_287 : decode cL_law 287 = .ok (.lcmp, 1) := by decide +kernel
theorem dL_law_288 : decode cL_law 288 = .ok (.ifCond .eq 5, 3) := by decide +kernel
theorem dL_law_291 : decode cL_law 291 = .ok (.iconst 0, 1) := by decide +kernel
theorem dL_law_292 : decode cL_law 292 = .ok (.ireturn, 1) := by decide +kernel
theorem dL_law_293 : decode cL_law 293 = .ok (.goto 639, 3) := by decide +kernel
theorem dL_law_296 : decode cL_law 296 = .ok (.aload_n 1, 1) := by decide +kernel
theorem dL_law_297 : decode cL_law 297 = .ok (.aload_n 0, 1) := by decide +kernel
theorem dL_law_298 : decode cL_law 298 = .ok (.iload 4, 2) := by decide +kernel
theorem dL_law_300 : decode cL_law 300 = .ok (.iconst 1, 1) := by decide +kernel
theorem dL_law_301 : decode cL_law 301 = .ok (.iadd, 1) := by decide +kernel
theorem dL_law_302 : decode cL_law 302 = .ok (.iaload, 1) := by decide +kernel
theorem dL_law_303 : decode cL_law 303 = .ok (.aload_n 0, 1) := by decide +kernel
theorem dL_law_304 : decode cL_law 304 = .ok (.iload 4, 2) := by decide +kernel
theorem dL_law_306 : decode cL_law 306 = .ok (.iconst 2, 1) := by decide +kernel
theorem dL_law_307 : decode cL_law 307 = .ok (.iadd, 1) := by decide +kernel
theorem dL_law_308 : decode cL_law 308 = .ok (.iaload, 1) := by decide +kernel
theorem dL_law_309 : decode cL_law 309 = .ok (.aload_n 0, 1) := by decide +kernel
theorem dL_law_310 : decode cL_law 310 = .ok (.iload 4, 2) := by decide +kernel
theorem dL_law_312 : decode cL_law 312 = .ok (.iconst 3, 1) := by decide +kernel
theorem dL_law_313 : decode cL_law 313 = .ok (.iadd, 1) := by decide +kernel
theorem dL_law_314 : decode cL_law 314 = .ok (.iaload, 1) := by decide +kernel
theorem dL_law_315 : decode cL_law 315 = .ok (.aload_n 3, 1) := by decide +kernel
theorem dL_law_316 : decode cL_law 316 = .ok (.invokestatic 76, 3) := by decide +kernel
theorem dL_law_319 : decode cL_law 319 = .ok (.istore 5, 2) := by decide +kernel
theorem dL_law_321 : decode cL_law 321 = .ok (.aload_n 2, 1) := by decide +kernel
theorem dL_law_322 : decode cL_law 322 = .ok (.aload_n 0, 1) := by decide +kernel
theorem dL_law_323 : decode cL_law 323 = .ok (.iload 4, 2) := by decide +kernel
theorem dL_law_325 : decode cL_law 325 = .ok (.iconst 1, 1) := by decide +kernel
theorem dL_law_326 : decode cL_law 326 = .ok (.iadd, 1) := by decide +kernel
theorem dL_law_327 : decode cL_law 327 = .ok (.iaload, 1) := by decide +kernel
theorem dL_law_328 : decode cL_law 328 = .ok (.aload_n 0, 1) := by decide +kernel
theorem dL_law_329 : decode cL_law 329 = .ok (.iload 4, 2) := by decide +kernel
theorem dL_law_331 : decode cL_law 331 = .ok (.iconst 2, 1) := by decide +kernel
theorem dL_law_332 : decode cL_law 332 = .ok (.iadd, 1) := by decide +kernel
theorem dL_law_333 : decode cL_law 333 = .ok (.iaload, 1) := by decide +kernel
theorem dL_law_334 : decode cL_law 334 = .ok (.aload_n 0, 1) := by decide +kernel
theorem dL_law_335 : decode cL_law 335 = .ok (.iload 4, 2) := by decide +kernel
theorem dL_law_337 : decode cL_law 337 = .ok (.iconst 3, 1) := by decide +kernel
theorem dL_law_338 : decode cL_law 338 = .ok (.iadd, 1) := by decide +kernel
theorem dL_law_339 : decode cL_law 339 = .ok (.iaload, 1) := by decide +kernel
theorem dL_law_340 : decode cL_law 340 = .ok (.invokevirtual 79, 3) := by decide +kernel
theorem dL_law_343 : decode cL_law 343 = .ok (.istore 6, 2) := by decide +kernel
theorem dL_law_345 : decode cL_law 345 = .ok (.aload_n 2, 1) := by decide +kernel
theorem dL_law_346 : decode cL_law 346 = .ok (.invokevirtual 68, 3) := by decide +kernel
theorem dL_law_349 : decode cL_law 349 = .ok (.iload 5, 2) := by decide +kernel
theorem dL_law_351 : decode cL_law 351 = .ok (.if_icmp .eq 5, 3) := by decide +kernel
theorem dL_law_354 : decode cL_law 354 = .ok (.iconst 0, 1) := by decide +kernel
theorem dL_law_355 : decode cL_law 355 = .ok (.ireturn, 1) := by decide +kernel
theorem dL_law_356 : decode cL_law 356 = .ok (.iload 5, 2) := by decide +kernel
theorem dL_law_358 : decode cL_law 358 = .ok (.ifCond .ne 15, 3) := by decide +kernel
theorem dL_law_361 : decode cL_law 361 = .ok (.aload_n 3, 1) := by decide +kernel
theorem dL_law_362 : decode cL_law 362 = .ok (.iconst 0, 1) := by decide +kernel
theorem dL_law_363 : decode cL_law 363 = .ok (.laload, 1) := by decide +kernel
theorem dL_law_364 : decode cL_law 364 = .ok (.iload 6, 2) := by decide +kernel
theorem dL_law_366 : decode cL_law 366 = .ok (.i2l, 1) := by decide +kernel
theorem dL_law_367 : decode cL_law 367 = .ok (.lcmp, 1) := by decide +kernel
theorem dL_law_368 : decode cL_law 368 = .ok (.ifCond .eq 5, 3) := by decide +kernel
theorem dL_law_371 : decode cL_law 371 = .ok (.iconst 0, 1) := by decide +kernel
theorem dL_law_372 : decode cL_law 372 = .ok (.ireturn, 1) := by decide +kernel
theorem dL_law_373 : decode cL_law 373 = .ok (.goto 559, 3) := by decide +kernel
theorem dL_law_376 : decode cL_law 376 = .ok (.aload_n 1, 1) := by decide +kernel
theorem dL_law_377 : decode cL_law 377 = .ok (.aload_n 0, 1) := by decide +kernel
theorem dL_law_378 : decode cL_law 378 = .ok (.iload 4, 2) := by decide +kernel
theorem dL_law_380 : decode cL_law 380 = .ok (.iconst 1, 1) := by decide +kernel
theorem dL_law_381 : decode cL_law 381 = .ok (.iadd, 1) := by decide +kernel
theorem dL_law_382 : decode cL_law 382 = .ok (.iaload, 1) := by decide +kernel
theorem dL_law_383 : decode cL_law 383 = .ok (.aload_n 0, 1) := by decide +kernel
theorem dL_law_384 : decode cL_law 384 = .ok (.iload 4, 2) := by decide +kernel
theorem dL_law_386 : decode cL_law 386 = .ok (.iconst 2, 1) := by decide +kernel
theorem dL_law_387 : decode cL_law 387 = .ok (.iadd, 1) := by decide +kernel
theorem dL_law_388 : decode cL_law 388 = .ok (.iaload, 1) := by decide +kernel
theorem dL_law_389 : decode cL_law 389 = .ok (.aload_n 3, 1) := by decide +kernel
theorem dL_law_390 : decode cL_law 390 = .ok (.invokestatic 80, 3) := by decide +kernel
theorem dL_law_393 : decode cL_law 393 = .ok (.istore 5, 2) := by decide +kernel
theorem dL_law_395 : decode cL_law 395 = .ok (.aload_n 2, 1) := by decide +kernel
theorem dL_law_396 : decode cL_law 396 = .ok (.aload_n 0, 1) := by decide +kernel
theorem dL_law_397 : decode cL_law 397 = .ok (.iload 4, 2) := by decide +kernel
theorem dL_law_399 : decode cL_law 399 = .ok (.iconst 1, 1) := by decide +kernel
theorem dL_law_400 : decode cL_law 400 = .ok (.iadd, 1) := by decide +kernel
theorem dL_law_401 : decode cL_law 401 = .ok (.iaload, 1) := by decide +kernel
theorem dL_law_402 : decode cL_law 402 = .ok (.aload_n 0, 1) := by decide +kernel
theorem dL_law_403 : decode cL_law 403 = .ok (.iload 4, 2) := by decide +kernel
theorem dL_law_405 : decode cL_law 405 = .ok (.iconst 2, 1) := by decide +kernel
theorem dL_law_406 : decode cL_law 406 = .ok (.iadd, 1) := by decide +kernel
theorem dL_law_407 : decode cL_law 407 = .ok (.iaload, 1) := by decide +kernel
theorem dL_law_408 : decode cL_law 408 = .ok (.invokevirtual 82, 3) := by decide +kernel
theorem dL_law_411 : decode cL_law 411 = .ok (.istore 6, 2) := by decide +kernel
theorem dL_law_413 : decode cL_law 413 = .ok (.aload_n 2, 1) := by decide +kernel
theorem dL_law_414 : decode cL_law 414 = .ok (.invokevirtual 68, 3) := by decide +kernel
theorem dL_law_417 : decode cL_law 417 = .ok (.iload 5, 2) := by decide +kernel
theorem dL_law_419 : decode cL_law 419 = .ok (.if_icmp .eq 5, 3) := by decide +kernel
theorem dL_law_422 : decode cL_law 422 = .ok (.iconst 0, 1) := by decide +kernel
theorem dL_law_423 : decode cL_law 423 = .ok (.ireturn, 1) := by decide +kernel
theorem dL_law_424 : decode cL_law 424 = .ok (.iload 5, 2) := by decide +kernel
theorem dL_law_426 : decode cL_law 426 = .ok (.ifCond .ne 15, 3) := by decide +kernel
theorem dL_law_429 : decode cL_law 429 = .ok (.aload_n 3, 1) := by decide +kernel
theorem dL_law_430 : decode cL_law 430 = .ok (.iconst 0, 1) := by decide +kernel
theorem dL_law_431 : decode cL_law 431 = .ok (.laload, 1) := by decide +kernel
theorem dL_law_432 : decode cL_law 432 = .ok (.iload 6, 2) := by decide +kernel
theorem dL_law_434 : decode cL_law 434 = .ok (.i2l, 1) := by decide +kernel
theorem dL_law_435 : decode cL_law 435 = .ok (.lcmp, 1) := by decide +kernel
theorem dL_law_436 : decode cL_law 436 = .ok (.ifCond .eq 5, 3) := by decide +kernel
theorem dL_law_439 : decode cL_law 439 = .ok (.iconst 0, 1) := by decide +kernel
theorem dL_law_440 : decode cL_law 440 = .ok (.ireturn, 1) := by decide +kernel
theorem dL_law_441 : decode cL_law 441 = .ok (.goto 491, 3) := by decide +kernel
theorem dL_law_444 : decode cL_law 444 = .ok (.aload_n 1, 1) := by decide +kernel
theorem dL_law_445 : decode cL_law 445 = .ok (.aload_n 0, 1) := by decide +kernel
theorem dL_law_446 : decode cL_law 446 = .ok (.iload 4, 2) := by decide +kernel
theorem dL_law_448 : decode cL_law 448 = .ok (.iconst 1, 1) := by decide +kernel
theorem dL_law_449 : decode cL_law 449 = .ok (.iadd, 1) := by decide +kernel
theorem dL_law_450 : decode cL_law 450 = .ok (.iaload, 1) := by decide +kernel
theorem dL_law_451 : decode cL_law 451 = .ok (.aload_n 0, 1) := by decide +kernel
theorem dL_law_452 : decode cL_law 452 = .ok (.iload 4, 2) := by decide +kernel
theorem dL_law_454 : decode cL_law 454 = .ok (.iconst 2, 1) := by decide +kernel
theorem dL_law_455 : decode cL_law 455 = .ok (.iadd, 1) := by decide +kernel
theorem dL_law_456 : decode cL_law 456 = .ok (.iaload, 1) := by decide +kernel
theorem dL_law_457 : decode cL_law 457 = .ok (.aload_n 3, 1) := by decide +kernel
theorem dL_law_458 : decode cL_law 458 = .ok (.invokestatic 83, 3) := by decide +kernel
theorem dL_law_461 : decode cL_law 461 = .ok (.istore 5, 2) := by decide +kernel
theorem dL_law_463 : decode cL_law 463 = .ok (.aload_n 2, 1) := by decide +kernel
theorem dL_law_464 : decode cL_law 464 = .ok (.aload_n 0, 1) := by decide +kernel
theorem dL_law_465 : decode cL_law 465 = .ok (.iload 4, 2) := by decide +kernel
theorem dL_law_467 : decode cL_law 467 = .ok (.iconst 1, 1) := by decide +kernel
theorem dL_law_468 : decode cL_law 468 = .ok (.iadd, 1) := by decide +kernel
theorem dL_law_469 : decode cL_law 469 = .ok (.iaload, 1) := by decide +kernel
theorem dL_law_470 : decode cL_law 470 = .ok (.aload_n 0, 1) := by decide +kernel
theorem dL_law_471 : decode cL_law 471 = .ok (.iload 4, 2) := by decide +kernel
theorem dL_law_473 : decode cL_law 473 = .ok (.iconst 2, 1) := by decide +kernel
theorem dL_law_474 : decode cL_law 474 = .ok (.iadd, 1) := by decide +kernel
theorem dL_law_475 : decode cL_law 475 = .ok (.iaload, 1) := by decide +kernel
theorem dL_law_476 : decode cL_law 476 = .ok (.invokevirtual 85, 3) := by decide +kernel
theorem dL_law_479 : decode cL_law 479 = .ok (.istore 6, 2) := by decide +kernel
theorem dL_law_481 : decode cL_law 481 = .ok (.aload_n 2, 1) := by decide +kernel
theorem dL_law_482 : decode cL_law 482 = .ok (.invokevirtual 68, 3) := by decide +kernel
theorem dL_law_485 : decode cL_law 485 = .ok (.iload 5, 2) := by decide +kernel
theorem dL_law_487 : decode cL_law 487 = .ok (.if_icmp .eq 5, 3) := by decide +kernel
theorem dL_law_490 : decode cL_law 490 = .ok (.iconst 0, 1) := by decide +kernel
theorem dL_law_491 : decode cL_law 491 = .ok (.ireturn, 1) := by decide +kernel
theorem dL_law_492 : decode cL_law 492 = .ok (.iload 5, 2) := by decide +kernel
theorem dL_law_494 : decode cL_law 494 = .ok (.ifCond .ne 15, 3) := by decide +kernel
theorem dL_law_497 : decode cL_law 497 = .ok (.aload_n 3, 1) := by decide +kernel
theorem dL_law_498 : decode cL_law 498 = .ok (.iconst 0, 1) := by decide +kernel
theorem dL_law_499 : decode cL_law 499 = .ok (.laload, 1) := by decide +kernel
theorem dL_law_500 : decode cL_law 500 = .ok (.iload 6, 2) := by decide +kernel
theorem dL_law_502 : decode cL_law 502 = .ok (.i2l, 1) := by decide +kernel
theorem dL_law_503 : decode cL_law 503 = .ok (.lcmp, 1) := by decide +kernel
theorem dL_law_504 : decode cL_law 504 = .ok (.ifCond .eq 5, 3) := by decide +kernel
theorem dL_law_507 : decode cL_law 507 = .ok (.iconst 0, 1) := by decide +kernel
theorem dL_law_508 : decode cL_law 508 = .ok (.ireturn, 1) := by decide +kernel
theorem dL_law_509 : decode cL_law 509 = .ok (.goto 423, 3) := by decide +kernel
theorem dL_law_512 : decode cL_law 512 = .ok (.aload_n 1, 1) := by decide +kernel
theorem dL_law_513 : decode cL_law 513 = .ok (.aload_n 0, 1) := by decide +kernel
theorem dL_law_514 : decode cL_law 514 = .ok (.iload 4, 2) := by decide +kernel
theorem dL_law_516 : decode cL_law 516 = .ok (.iconst 1, 1) := by decide +kernel
theorem dL_law_517 : decode cL_law 517 = .ok (.iadd, 1) := by decide +kernel
theorem dL_law_518 : decode cL_law 518 = .ok (.iaload, 1) := by decide +kernel
theorem dL_law_519 : decode cL_law 519 = .ok (.aload_n 0, 1) := by decide +kernel
theorem dL_law_520 : decode cL_law 520 = .ok (.iload 4, 2) := by decide +kernel
theorem dL_law_522 : decode cL_law 522 = .ok (.iconst 2, 1) := by decide +kernel
theorem dL_law_523 : decode cL_law 523 = .ok (.iadd, 1) := by decide +kernel
theorem dL_law_524 : decode cL_law 524 = .ok (.iaload, 1) := by decide +kernel
theorem dL_law_525 : decode cL_law 525 = .ok (.aload_n 3, 1) := by decide +kernel
theorem dL_law_526 : decode cL_law 526 = .ok (.invokestatic 86, 3) := by decide +kernel
theorem dL_law_529 : decode cL_law 529 = .ok (.istore 5, 2) := by decide +kernel
theorem dL_law_531 : decode cL_law 531 = .ok (.aload_n 2, 1) := by decide +kernel
theorem dL_law_532 : decode cL_law 532 = .ok (.aload_n 0, 1) := by decide +kernel
theorem dL_law_533 : decode cL_law 533 = .ok (.iload 4, 2) := by decide +kernel
theorem dL_law_535 : decode cL_law 535 = .ok (.iconst 1, 1) := by decide +kernel
theorem dL_law_536 : decode cL_law 536 = .ok (.iadd, 1) := by decide +kernel
theorem dL_law_537 : decode cL_law 537 = .ok (.iaload, 1) := by decide +kernel
theorem dL_law_538 : decode cL_law 538 = .ok (.aload_n 0, 1) := by decide +kernel
theorem dL_law_539 : decode cL_law 539 = .ok (.iload 4, 2) := by decide +kernel
theorem dL_law_541 : decode cL_law 541 = .ok (.iconst 2, 1) := by decide +kernel
theorem dL_law_542 : decode cL_law 542 = .ok (.iadd, 1) := by decide +kernel
theorem dL_law_543 : decode cL_law 543 = .ok (.iaload, 1) := by decide +kernel
theorem dL_law_544 : decode cL_law 544 = .ok (.invokevirtual 88, 3) := by decide +kernel
theorem dL_law_547 : decode cL_law 547 = .ok (.istore 6, 2) := by decide +kernel
theorem dL_law_549 : decode cL_law 549 = .ok (.aload_n 2, 1) := by decide +kernel
theorem dL_law_550 : decode cL_law 550 = .ok (.invokevirtual 68, 3) := by decide +kernel
theorem dL_law_553 : decode cL_law 553 = .ok (.iload 5, 2) := by decide +kernel
theorem dL_law_555 : decode cL_law 555 = .ok (.if_icmp .eq 5, 3) := by decide +kernel
theorem dL_law_558 : decode cL_law 558 = .ok (.iconst 0, 1) := by decide +kernel
theorem dL_law_559 : decode cL_law 559 = .ok (.ireturn, 1) := by decide +kernel
theorem dL_law_560 : decode cL_law 560 = .ok (.iload 5, 2) := by decide +kernel
theorem dL_law_562 : decode cL_law 562 = .ok (.ifCond .ne 15, 3) := by decide +kernel
theorem dL_law_565 : decode cL_law 565 = .ok (.aload_n 3, 1) := by decide +kernel
theorem dL_law_566 : decode cL_law 566 = .ok (.iconst 0, 1) := by decide +kernel
theorem dL_law_567 : decode cL_law 567 = .ok (.laload, 1) := by decide +kernel
theorem dL_law_568 : decode cL_law 568 = .ok (.iload 6, 2) := by decide +kernel
theorem dL_law_570 : decode cL_law 570 = .ok (.i2l, 1) := by decide +kernel
theorem dL_law_571 : decode cL_law 571 = .ok (.lcmp, 1) := by decide +kernel
theorem dL_law_572 : decode cL_law 572 = .ok (.ifCond .eq 5, 3) := by decide +kernel
theorem dL_law_575 : decode cL_law 575 = .ok (.iconst 0, 1) := by decide +kernel
theorem dL_law_576 : decode cL_law 576 = .ok (.ireturn, 1) := by decide +kernel
theorem dL_law_577 : decode cL_law 577 = .ok (.goto 355, 3) := by decide +kernel
theorem dL_law_580 : decode cL_law 580 = .ok (.aload_n 1, 1) := by decide +kernel
theorem dL_law_581 : decode cL_law 581 = .ok (.aload_n 0, 1) := by decide +kernel
theorem dL_law_582 : decode cL_law 582 = .ok (.iload 4, 2) := by decide +kernel
theorem dL_law_584 : decode cL_law 584 = .ok (.iconst 1, 1) := by decide +kernel
theorem dL_law_585 : decode cL_law 585 = .ok (.iadd, 1) := by decide +kernel
theorem dL_law_586 : decode cL_law 586 = .ok (.iaload, 1) := by decide +kernel
theorem dL_law_587 : decode cL_law 587 = .ok (.aload_n 0, 1) := by decide +kernel
theorem dL_law_588 : decode cL_law 588 = .ok (.iload 4, 2) := by decide +kernel
theorem dL_law_590 : decode cL_law 590 = .ok (.iconst 2, 1) := by decide +kernel
theorem dL_law_591 : decode cL_law 591 = .ok (.iadd, 1) := by decide +kernel
theorem dL_law_592 : decode cL_law 592 = .ok (.iaload, 1) := by decide +kernel
theorem dL_law_593 : decode cL_law 593 = .ok (.aload_n 3, 1) := by decide +kernel
theorem dL_law_594 : decode cL_law 594 = .ok (.invokestatic 89, 3) := by decide +kernel
theorem dL_law_597 : decode cL_law 597 = .ok (.istore 5, 2) := by decide +kernel
theorem dL_law_599 : decode cL_law 599 = .ok (.aload_n 2, 1) := by decide +kernel
theorem dL_law_600 : decode cL_law 600 = .ok (.aload_n 0, 1) := by decide +kernel
theorem dL_law_601 : decode cL_law 601 = .ok (.iload 4, 2) := by decide +kernel
theorem dL_law_603 : decode cL_law 603 = .ok (.iconst 1, 1) := by decide +kernel
theorem dL_law_604 : decode cL_law 604 = .ok (.iadd, 1) := by decide +kernel
theorem dL_law_605 : decode cL_law 605 = .ok (.iaload, 1) := by decide +kernel
theorem dL_law_606 : decode cL_law 606 = .ok (.aload_n 0, 1) := by decide +kernel
theorem dL_law_607 : decode cL_law 607 = .ok (.iload 4, 2) := by decide +kernel
theorem dL_law_609 : decode cL_law 609 = .ok (.iconst 2, 1) := by decide +kernel
theorem dL_law_610 : decode cL_law 610 = .ok (.iadd, 1) := by decide +kernel
theorem dL_law_611 : decode cL_law 611 = .ok (.iaload, 1) := by decide +kernel
theorem dL_law_612 : decode cL_law 612 = .ok (.invokevirtual 91, 3) := by decide +kernel
theorem dL_law_615 : decode cL_law 615 = .ok (.istore 6, 2) := by decide +kernel
theorem dL_law_617 : decode cL_law 617 = .ok (.aload_n 2, 1) := by decide +kernel
theorem dL_law_618 : decode cL_law 618 = .ok (.invokevirtual 68, 3) := by decide +kernel
theorem dL_law_621 : decode cL_law 621 = .ok (.iload 5, 2) := by decide +kernel
theorem dL_law_623 : decode cL_law 623 = .ok (.if_icmp .eq 5, 3) := by decide +kernel
theorem dL_law_626 : decode cL_law 626 = .ok (.iconst 0, 1) := by decide +kernel
theorem dL_law_627 : decode cL_law 627 = .ok (.ireturn, 1) := by decide +kernel
theorem dL_law_628 : decode cL_law 628 = .ok (.iload 5, 2) := by decide +kernel
theorem dL_law_630 : decode cL_law 630 = .ok (.ifCond .ne 15, 3) := by decide +kernel
theorem dL_law_633 : decode cL_law 633 = .ok (.aload_n 3, 1) := by decide +kernel
theorem dL_law_634 : decode cL_law 634 = .ok (.iconst 0, 1) := by decide +kernel
theorem dL_law_635 : decode cL_law 635 = .ok (.laload, 1) := by decide +kernel
theorem dL_law_636 : decode cL_law 636 = .ok (.iload 6, 2) := by decide +kernel
theorem dL_law_638 : decode cL_law 638 = .ok (.i2l, 1) := by decide +kernel
theorem dL_law_639 : decode cL_law 639 = .ok (.lcmp, 1) := by decide +kernel
theorem dL_law_640 : decode cL_law 640 = .ok (.ifCond .eq 5, 3) := by decide +kernel
theorem dL_law_643 : decode cL_law 643 = .ok (.iconst 0, 1) := by decide +kernel
theorem dL_law_644 : decode cL_law 644 = .ok (.ireturn, 1) := by decide +kernel
theorem dL_law_645 : decode cL_law 645 = .ok (.goto 287, 3) := by decide +kernel
theorem dL_law_648 : decode cL_law 648 = .ok (.aload_n 1, 1) := by decide +kernel
theorem dL_law_649 : decode cL_law 649 = .ok (.aload_n 0, 1) := by decide +kernel
theorem dL_law_650 : decode cL_law 650 = .ok (.iload 4, 2) := by decide +kernel
theorem dL_law_652 : decode cL_law 652 = .ok (.iconst 1, 1) := by decide +kernel
theorem dL_law_653 : decode cL_law 653 = .ok (.iadd, 1) := by decide +kernel
theorem dL_law_654 : decode cL_law 654 = .ok (.iaload, 1) := by decide +kernel
theorem dL_law_655 : decode cL_law 655 = .ok (.aload_n 3, 1) := by decide +kernel
theorem dL_law_656 : decode cL_law 656 = .ok (.invokestatic 92, 3) := by decide +kernel
theorem dL_law_659 : decode cL_law 659 = .ok (.istore 5, 2) := by decide +kernel
theorem dL_law_661 : decode cL_law 661 = .ok (.aload_n 2, 1) := by decide +kernel
theorem dL_law_662 : decode cL_law 662 = .ok (.aload_n 0, 1) := by decide +kernel
theorem dL_law_663 : decode cL_law 663 = .ok (.iload 4, 2) := by decide +kernel
theorem dL_law_665 : decode cL_law 665 = .ok (.iconst 1, 1) := by decide +kernel
theorem dL_law_666 : decode cL_law 666 = .ok (.iadd, 1) := by decide +kernel
theorem dL_law_667 : decode cL_law 667 = .ok (.iaload, 1) := by decide +kernel
theorem dL_law_668 : decode cL_law 668 = .ok (.invokevirtual 95, 3) := by decide +kernel
theorem dL_law_671 : decode cL_law 671 = .ok (.istore 6, 2) := by decide +kernel
theorem dL_law_673 : decode cL_law 673 = .ok (.aload_n 2, 1) := by decide +kernel
theorem dL_law_674 : decode cL_law 674 = .ok (.invokevirtual 68, 3) := by decide +kernel
theorem dL_law_677 : decode cL_law 677 = .ok (.iload 5, 2) := by decide +kernel
theorem dL_law_679 : decode cL_law 679 = .ok (.if_icmp .eq 5, 3) := by decide +kernel
theorem dL_law_682 : decode cL_law 682 = .ok (.iconst 0, 1) := by decide +kernel
theorem dL_law_683 : decode cL_law 683 = .ok (.ireturn, 1) := by decide +kernel
theorem dL_law_684 : decode cL_law 684 = .ok (.iload 5, 2) := by decide +kernel
theorem dL_law_686 : decode cL_law 686 = .ok (.ifCond .ne 15, 3) := by decide +kernel
theorem dL_law_689 : decode cL_law 689 = .ok (.aload_n 3, 1) := by decide +kernel
theorem dL_law_690 : decode cL_law 690 = .ok (.iconst 0, 1) := by decide +kernel
theorem dL_law_691 : decode cL_law 691 = .ok (.laload, 1) := by decide +kernel
theorem dL_law_692 : decode cL_law 692 = .ok (.iload 6, 2) := by decide +kernel
theorem dL_law_694 : decode cL_law 694 = .ok (.i2l, 1) := by decide +kernel
theorem dL_law_695 : decode cL_law 695 = .ok (.lcmp, 1) := by decide +kernel
theorem dL_law_696 : decode cL_law 696 = .ok (.ifCond .eq 5, 3) := by decide +kernel
theorem dL_law_699 : decode cL_law 699 = .ok (.iconst 0, 1) := by decide +kernel
theorem dL_law_700 : decode cL_law 700 = .ok (.ireturn, 1) := by decide +kernel
theorem dL_law_701 : decode cL_law 701 = .ok (.goto 231, 3) := by decide +kernel
theorem dL_law_704 : decode cL_law 704 = .ok (.aload_n 1, 1) := by decide +kernel
theorem dL_law_705 : decode cL_law 705 = .ok (.aload_n 0, 1) := by decide +kernel
theorem dL_law_706 : decode cL_law 706 = .ok (.iload 4, 2) := by decide +kernel
theorem dL_law_708 : decode cL_law 708 = .ok (.iconst 1, 1) := by decide +kernel
theorem dL_law_709 : decode cL_law 709 = .ok (.iadd, 1) := by decide +kernel
theorem dL_law_710 : decode cL_law 710 = .ok (.iaload, 1) := by decide +kernel
theorem dL_law_711 : decode cL_law 711 = .ok (.aload_n 0, 1) := by decide +kernel
theorem dL_law_712 : decode cL_law 712 = .ok (.iload 4, 2) := by decide +kernel
theorem dL_law_714 : decode cL_law 714 = .ok (.iconst 2, 1) := by decide +kernel
theorem dL_law_715 : decode cL_law 715 = .ok (.iadd, 1) := by decide +kernel
theorem dL_law_716 : decode cL_law 716 = .ok (.iaload, 1) := by decide +kernel
theorem dL_law_717 : decode cL_law 717 = .ok (.aload_n 3, 1) := by decide +kernel
theorem dL_law_718 : decode cL_law 718 = .ok (.invokestatic 96, 3) := by decide +kernel
theorem dL_law_721 : decode cL_law 721 = .ok (.istore 5, 2) := by decide +kernel
theorem dL_law_723 : decode cL_law 723 = .ok (.aload_n 2, 1) := by decide +kernel
theorem dL_law_724 : decode cL_law 724 = .ok (.aload_n 0, 1) := by decide +kernel
theorem dL_law_725 : decode cL_law 725 = .ok (.iload 4, 2) := by decide +kernel
theorem dL_law_727 : decode cL_law 727 = .ok (.iconst 1, 1) := by decide +kernel
theorem dL_law_728 : decode cL_law 728 = .ok (.iadd, 1) := by decide +kernel
theorem dL_law_729 : decode cL_law 729 = .ok (.iaload, 1) := by decide +kernel
theorem dL_law_730 : decode cL_law 730 = .ok (.aload_n 0, 1) := by decide +kernel
theorem dL_law_731 : decode cL_law 731 = .ok (.iload 4, 2) := by decide +kernel
theorem dL_law_733 : decode cL_law 733 = .ok (.iconst 2, 1) := by decide +kernel
theorem dL_law_734 : decode cL_law 734 = .ok (.iadd, 1) := by decide +kernel
theorem dL_law_735 : decode cL_law 735 = .ok (.iaload, 1) := by decide +kernel
theorem dL_law_736 : decode cL_law 736 = .ok (.invokevirtual 98, 3) := by decide +kernel
theorem dL_law_739 : decode cL_law 739 = .ok (.istore 6, 2) := by decide +kernel
theorem dL_law_741 : decode cL_law 741 = .ok (.aload_n 2, 1) := by decide +kernel
theorem dL_law_742 : decode cL_law 742 = .ok (.invokevirtual 68, 3) := by decide +kernel
theorem dL_law_745 : decode cL_law 745 = .ok (.iload 5, 2) := by decide +kernel
theorem dL_law_747 : decode cL_law 747 = .ok (.if_icmp .eq 5, 3) := by decide +kernel
theorem dL_law_750 : decode cL_law 750 = .ok (.iconst 0, 1) := by decide +kernel
theorem dL_law_751 : decode cL_law 751 = .ok (.ireturn, 1) := by decide +kernel
theorem dL_law_752 : decode cL_law 752 = .ok (.iload 5, 2) := by decide +kernel
theorem dL_law_754 : decode cL_law 754 = .ok (.ifCond .ne 15, 3) := by decide +kernel
theorem dL_law_757 : decode cL_law 757 = .ok (.aload_n 3, 1) := by decide +kernel
theorem dL_law_758 : decode cL_law 758 = .ok (.iconst 0, 1) := by decide +kernel
theorem dL_law_759 : decode cL_law 759 = .ok (.laload, 1) := by decide +kernel
theorem dL_law_760 : decode cL_law 760 = .ok (.iload 6, 2) := by decide +kernel
theorem dL_law_762 : decode cL_law 762 = .ok (.i2l, 1) := by decide +kernel
theorem dL_law_763 : decode cL_law 763 = .ok (.lcmp, 1) := by decide +kernel
theorem dL_law_764 : decode cL_law 764 = .ok (.ifCond .eq 5, 3) := by decide +kernel
theorem dL_law_767 : decode cL_law 767 = .ok (.iconst 0, 1) := by decide +kernel
theorem dL_law_768 : decode cL_law 768 = .ok (.ireturn, 1) := by decide +kernel
theorem dL_law_769 : decode cL_law 769 = .ok (.goto 163, 3) := by decide +kernel
theorem dL_law_772 : decode cL_law 772 = .ok (.aload_n 1, 1) := by decide +kernel
theorem dL_law_773 : decode cL_law 773 = .ok (.aload_n 0, 1) := by decide +kernel
theorem dL_law_774 : decode cL_law 774 = .ok (.iload 4, 2) := by decide +kernel
theorem dL_law_776 : decode cL_law 776 = .ok (.iconst 1, 1) := by decide +kernel
theorem dL_law_777 : decode cL_law 777 = .ok (.iadd, 1) := by decide +kernel
theorem dL_law_778 : decode cL_law 778 = .ok (.iaload, 1) := by decide +kernel
theorem dL_law_779 : decode cL_law 779 = .ok (.aload_n 0, 1) := by decide +kernel
theorem dL_law_780 : decode cL_law 780 = .ok (.iload 4, 2) := by decide +kernel
theorem dL_law_782 : decode cL_law 782 = .ok (.iconst 2, 1) := by decide +kernel
theorem dL_law_783 : decode cL_law 783 = .ok (.iadd, 1) := by decide +kernel
theorem dL_law_784 : decode cL_law 784 = .ok (.iaload, 1) := by decide +kernel
theorem dL_law_785 : decode cL_law 785 = .ok (.aload_n 3, 1) := by decide +kernel
theorem dL_law_786 : decode cL_law 786 = .ok (.invokestatic 99, 3) := by decide +kernel
theorem dL_law_789 : decode cL_law 789 = .ok (.istore 5, 2) := by decide +kernel
theorem dL_law_791 : decode cL_law 791 = .ok (.aload_n 2, 1) := by decide +kernel
theorem dL_law_792 : decode cL_law 792 = .ok (.aload_n 0, 1) := by decide +kernel
theorem dL_law_793 : decode cL_law 793 = .ok (.iload 4, 2) := by decide +kernel
theorem dL_law_795 : decode cL_law 795 = .ok (.iconst 1, 1) := by decide +kernel
theorem dL_law_796 : decode cL_law 796 = .ok (.iadd, 1) := by decide +kernel
theorem dL_law_797 : decode cL_law 797 = .ok (.iaload, 1) := by decide +kernel
theorem dL_law_798 : decode cL_law 798 = .ok (.aload_n 0, 1) := by decide +kernel
theorem dL_law_799 : decode cL_law 799 = .ok (.iload 4, 2) := by decide +kernel
theorem dL_law_801 : decode cL_law 801 = .ok (.iconst 2, 1) := by decide +kernel
theorem dL_law_802 : decode cL_law 802 = .ok (.iadd, 1) := by decide +kernel
theorem dL_law_803 : decode cL_law 803 = .ok (.iaload, 1) := by decide +kernel
theorem dL_law_804 : decode cL_law 804 = .ok (.invokevirtual 101, 3) := by decide +kernel
theorem dL_law_807 : decode cL_law 807 = .ok (.istore 6, 2) := by decide +kernel
theorem dL_law_809 : decode cL_law 809 = .ok (.aload_n 2, 1) := by decide +kernel
theorem dL_law_810 : decode cL_law 810 = .ok (.invokevirtual 68, 3) := by decide +kernel
theorem dL_law_813 : decode cL_law 813 = .ok (.iload 5, 2) := by decide +kernel
theorem dL_law_815 : decode cL_law 815 = .ok (.if_icmp .eq 5, 3) := by decide +kernel
theorem dL_law_818 : decode cL_law 818 = .ok (.iconst 0, 1) := by decide +kernel
theorem dL_law_819 : decode cL_law 819 = .ok (.ireturn, 1) := by decide +kernel
theorem dL_law_820 : decode cL_law 820 = .ok (.iload 5, 2) := by decide +kernel
theorem dL_law_822 : decode cL_law 822 = .ok (.ifCond .ne 15, 3) := by decide +kernel
theorem dL_law_825 : decode cL_law 825 = .ok (.aload_n 3, 1) := by decide +kernel
theorem dL_law_826 : decode cL_law 826 = .ok (.iconst 0, 1) := by decide +kernel
theorem dL_law_827 : decode cL_law 827 = .ok (.laload, 1) := by decide +kernel
theorem dL_law_828 : decode cL_law 828 = .ok (.iload 6, 2) := by decide +kernel
theorem dL_law_830 : decode cL_law 830 = .ok (.i2l, 1) := by decide +kernel
theorem dL_law_831 : decode cL_law 831 = .ok (.lcmp, 1) := by decide +kernel
theorem dL_law_832 : decode cL_law 832 = .ok (.ifCond .eq 5, 3) := by decide +kernel
theorem dL_law_835 : decode cL_law 835 = .ok (.iconst 0, 1) := by decide +kernel
theorem dL_law_836 : decode cL_law 836 = .ok (.ireturn, 1) := by decide +kernel
theorem dL_law_837 : decode cL_law 837 = .ok (.goto 95, 3) := by decide +kernel
theorem dL_law_840 : decode cL_law 840 = .ok (.aload_n 1, 1) := by decide +kernel
theorem dL_law_841 : decode cL_law 841 = .ok (.invokevirtual 102, 3) := by decide +kernel
theorem dL_law_844 : decode cL_law 844 = .ok (.aload_n 2, 1) := by decide +kernel
theorem dL_law_845 : decode cL_law 845 = .ok (.invokevirtual 105, 3) := by decide +kernel
theorem dL_law_848 : decode cL_law 848 = .ok (.if_icmp .eq 84, 3) := by decide +kernel
theorem dL_law_851 : decode cL_law 851 = .ok (.iconst 0, 1) := by decide +kernel
theorem dL_law_852 : decode cL_law 852 = .ok (.ireturn, 1) := by decide +kernel
theorem dL_law_853 : decode cL_law 853 = .ok (.aload_n 1, 1) := by decide +kernel
theorem dL_law_854 : decode cL_law 854 = .ok (.aload_n 0, 1) := by decide +kernel
theorem dL_law_855 : decode cL_law 855 = .ok (.iload 4, 2) := by decide +kernel
theorem dL_law_857 : decode cL_law 857 = .ok (.iconst 1, 1) := by decide +kernel
theorem dL_law_858 : decode cL_law 858 = .ok (.iadd, 1) := by decide +kernel
theorem dL_law_859 : decode cL_law 859 = .ok (.iaload, 1) := by decide +kernel
theorem dL_law_860 : decode cL_law 860 = .ok (.aload_n 0, 1) := by decide +kernel
theorem dL_law_861 : decode cL_law 861 = .ok (.iload 4, 2) := by decide +kernel
theorem dL_law_863 : decode cL_law 863 = .ok (.iconst 2, 1) := by decide +kernel
theorem dL_law_864 : decode cL_law 864 = .ok (.iadd, 1) := by decide +kernel
theorem dL_law_865 : decode cL_law 865 = .ok (.iaload, 1) := by decide +kernel
theorem dL_law_866 : decode cL_law 866 = .ok (.aload_n 3, 1) := by decide +kernel
theorem dL_law_867 : decode cL_law 867 = .ok (.invokestatic 106, 3) := by decide +kernel
theorem dL_law_870 : decode cL_law 870 = .ok (.istore 5, 2) := by decide +kernel
theorem dL_law_872 : decode cL_law 872 = .ok (.aload_n 2, 1) := by decide +kernel
theorem dL_law_873 : decode cL_law 873 = .ok (.aload_n 0, 1) := by decide +kernel
theorem dL_law_874 : decode cL_law 874 = .ok (.iload 4, 2) := by decide +kernel
theorem dL_law_876 : decode cL_law 876 = .ok (.iconst 1, 1) := by decide +kernel
theorem dL_law_877 : decode cL_law 877 = .ok (.iadd, 1) := by decide +kernel
theorem dL_law_878 : decode cL_law 878 = .ok (.iaload, 1) := by decide +kernel
theorem dL_law_879 : decode cL_law 879 = .ok (.aload_n 0, 1) := by decide +kernel
theorem dL_law_880 : decode cL_law 880 = .ok (.iload 4, 2) := by decide +kernel
theorem dL_law_882 : decode cL_law 882 = .ok (.iconst 2, 1) := by decide +kernel
theorem dL_law_883 : decode cL_law 883 = .ok (.iadd, 1) := by decide +kernel
end
section
theorem dL_law_884 : decode cL_law 884 = .ok (.iaload, 1) := by decide +kernel
theorem dL_law_885 : decode cL_law 885 = .ok (.invokevirtual 108, 3) := by decide +kernel
theorem dL_law_888 : decode cL_law 888 = .ok (.istore 6, 2) := by decide +kernel
theorem dL_law_890 : decode cL_law 890 = .ok (.aload_n 2, 1) := by decide +kernel
theorem dL_law_891 : decode cL_law 891 = .ok (.invokevirtual 68, 3) := by decide +kernel
theorem dL_law_894 : decode cL_law 894 = .ok (.iload 5, 2) := by decide +kernel
theorem dL_law_896 : decode cL_law 896 = .ok (.if_icmp .eq 5, 3) := by decide +kernel
theorem dL_law_899 : decode cL_law 899 = .ok (.iconst 0, 1) := by decide +kernel
theorem dL_law_900 : decode cL_law 900 = .ok (.ireturn, 1) := by decide +kernel
theorem dL_law_901 : decode cL_law 901 = .ok (.iload 5, 2) := by decide +kernel
theorem dL_law_903 : decode cL_law 903 = .ok (.ifCond .ne 15, 3) := by decide +kernel
theorem dL_law_906 : decode cL_law 906 = .ok (.aload_n 3, 1) := by decide +kernel
theorem dL_law_907 : decode cL_law 907 = .ok (.iconst 0, 1) := by decide +kernel
theorem dL_law_908 : decode cL_law 908 = .ok (.laload, 1) := by decide +kernel
theorem dL_law_909 : decode cL_law 909 = .ok (.iload 6, 2) := by decide +kernel
theorem dL_law_911 : decode cL_law 911 = .ok (.i2l, 1) := by decide +kernel
theorem dL_law_912 : decode cL_law 912 = .ok (.lcmp, 1) := by decide +kernel
theorem dL_law_913 : decode cL_law 913 = .ok (.ifCond .eq 5, 3) := by decide +kernel
theorem dL_law_916 : decode cL_law 916 = .ok (.iconst 0, 1) := by decide +kernel
theorem dL_law_917 : decode cL_law 917 = .ok (.ireturn, 1) := by decide +kernel
theorem dL_law_918 : decode cL_law 918 = .ok (.goto 14, 3) := by decide +kernel
theorem dL_law_921 : decode cL_law 921 = .ok (.aload_n 1, 1) := by decide +kernel
theorem dL_law_922 : decode cL_law 922 = .ok (.invokevirtual 109, 3) := by decide +kernel
theorem dL_law_925 : decode cL_law 925 = .ok (.aload_n 2, 1) := by decide +kernel
theorem dL_law_926 : decode cL_law 926 = .ok (.invokevirtual 112, 3) := by decide +kernel
theorem dL_law_929 : decode cL_law 929 = .ok (.goto 3, 3) := by decide +kernel
theorem dL_law_932 : decode cL_law 932 = .ok (.iinc 4 5, 3) := by decide +kernel
theorem dL_law_935 : decode cL_law 935 = .ok (.goto (-882), 3) := by decide +kernel
theorem dL_law_938 : decode cL_law 938 = .ok (.iconst 1, 1) := by decide +kernel
theorem dL_law_939 : decode cL_law 939 = .ok (.ireturn, 1) := by decide +kernel
end
section
/-! worlds by an index: cell i is at ad i and holds f i -/
def FW (N : Nat) (ad : Nat → Nat) (f : Nat → va_E) : va_W := (List.range N).map (fun i => (ad i, f i))
theorem FW_get {N : Nat} {ad : Nat → Nat} {f : Nat → va_E} {i : Nat} {e : va_E} (hi : i < N) (he : f i = e) : (FW N ad f)[i]? = some (ad i, e) := by
  simp [FW, hi, he]
theorem FW_inv {N : Nat} {ad : Nat → Nat} {f : Nat → va_E} {i : Nat} {q : Nat × va_E} (h : (FW N ad f)[i]? = some q) : i < N ∧ q = (ad i, f i) := by
  unfold FW at h
  rw [List.getElem?_map] at h
  by_cases hi : i < N
  · rw [List.getElem?_range hi] at h
    exact ⟨hi, (Option.some.inj h).symm⟩
  · rw [List.getElem?_eq_none (by rw [List.length_range]; omega)] at h
    cases h
theorem FW_len (N : Nat) (ad : Nat → Nat) (f : Nat → va_E) : (FW N ad f).length = N := by simp [FW]
theorem FW_set {N : Nat} {ad : Nat → Nat} {f f' : Nat → va_E} {i : Nat} {e : va_E} (h : va_up f i e = f') : (FW N ad f).set i (ad i, e) = FW N ad f' := by
  subst h
  apply List.ext_getElem?
  intro j
  by_cases hN : j < N
  · rw [FW_get (f := va_up f i e) hN rfl]
    by_cases hj : j = i
    · subst hj
      rw [List.getElem?_set_self (by rw [FW_len]; exact hN), va_up_self]
    · rw [List.getElem?_set_ne (Ne.symm hj), FW_get hN rfl, va_up_ne _ _ hj]
  · rw [List.getElem?_eq_none (by rw [List.length_set, FW_len]; omega), List.getElem?_eq_none (by rw [FW_len]; omega)]
theorem FW_P {D : va_G} {cl : List vw_C} {N : Nat} {ad : Nat → Nat} {f f' : Nat → va_E} {i : Nat} {e : va_E} {H : Heap} (hP : va_P D cl ((FW N ad f).set i (ad i, e)) H) (h : va_up f i e = f') : va_P D cl (FW N ad f') H := by
  rw [FW_set h] at hP
  exact hP
theorem FW_at {D : va_G} {cl : List vw_C} {N : Nat} {ad : Nat → Nat} {f : Nat → va_E} {H : Heap} : va_P D cl (FW N ad f) H ↔ ∀ i, i < N → va_at D cl (ad i, f i) H := by
  constructor
  · intro h i hi
    exact h i _ (FW_get hi rfl)
  · intro h k q hk
    obtain ⟨h1, rfl⟩ := FW_inv hk
    exact h k h1
theorem FW_D {A : Nat → Prop} {N : Nat} {ad : Nat → Nat} {f : Nat → va_E} : va_D A (FW N ad f) ↔ (∀ i j, i < N → j < N → ad i = ad j → i = j) ∧ ∀ i, i < N → A (ad i) := by
  constructor
  · intro h
    exact ⟨fun i j hi hj e => h.1 i j _ _ (FW_get hi rfl) (FW_get hj rfl) e, fun i hi => h.2 i _ (FW_get hi rfl)⟩
  · intro h
    refine ⟨fun i j p q hp hq e => ?_, fun k q hk => ?_⟩
    · obtain ⟨h1, rfl⟩ := FW_inv hp
      obtain ⟨h2, rfl⟩ := FW_inv hq
      exact h.1 i j h1 h2 e
    · obtain ⟨h1, rfl⟩ := FW_inv hk
      exact h.2 k h1
theorem FW_Dall {A : Nat → Prop} {N : Nat} {ad : Nat → Nat} {f : Nat → va_E} (h : va_D A (FW N ad f)) : ∀ g, va_D A (FW N ad g) := fun g => FW_D.mpr (FW_D.mp h)
theorem FW_A {N : Nat} {ad : Nat → Nat} {f : Nat → va_E} {sz q : Nat} : va_A (FW N ad f) sz q ↔ (∃ i, i < N ∧ ad i = q) ∨ sz ≤ q := by
  unfold va_A
  constructor
  · rintro (⟨k, e, h⟩ | h)
    · obtain ⟨h1, h2⟩ := FW_inv h
      exact Or.inl ⟨k, h1, (congrArg Prod.fst h2).symm⟩
    · exact Or.inr h
  · rintro (⟨i, h1, rfl⟩ | h)
    · exact Or.inl ⟨i, f i, FW_get h1 rfl⟩
    · exact Or.inr h
abbrev gPc (D : va_G) (tys : List (ClassId × FieldType)) (N : Nat) (ad : Nat → Nat) (f : Nat → va_E) (sz : Nat) (av : List Value) : Array Value → State → Prop := va_Pc av (fun U => U.heap.size = sz ∧ va_P D vwCl (FW N ad f) U.heap ∧ va_K D vwCl tys U ∧ va_D (fun _ => True) (FW N ad f))
theorem gPc_blind {D : va_G} {tys : List (ClassId × FieldType)} {N : Nat} {ad : Nat → Nat} {f : Nat → va_E} {sz : Nat} {av : List Value} : FrameBlind (gPc D tys N ad f sz av) := fun a U g mk q => by
  obtain ⟨q0, q1, qP, qK, qD⟩ := q
  exact ⟨q0, q1, qP, va_K.moved (u := U) (U := U.calling g mk a) (Vm.Alike.refl U.vm) qK, qD⟩
def gMi {S : Type} (l : Launch) (y : MethodName) (ws : List Cond) (rm : Room) (D : va_G) (tys : List (ClassId × FieldType)) (N : Nat) (ad : Nat → Nat) (f : Nat → va_E) (av : List Value) (post : Int32 → S → Prop) (g : S → Nat → va_E) : Prop :=
  ∀ sz : Nat, Met l y ws rm (gPc D tys N ad f sz av) (va_Qi post (fun u t => va_P D vwCl (FW N ad (g u)) t.heap) (va_A (FW N ad f) sz)) 0 0 (va_A (FW N ad f) sz)
def gMv {S : Type} (l : Launch) (y : MethodName) (ws : List Cond) (rm : Room) (D : va_G) (tys : List (ClassId × FieldType)) (N : Nat) (ad : Nat → Nat) (f : Nat → va_E) (av : List Value) (post : S → Prop) (g : S → Nat → va_E) : Prop :=
  ∀ sz : Nat, Met l y ws rm (gPc D tys N ad f sz av) (va_Qv post (fun u t => va_P D vwCl (FW N ad (g u)) t.heap) (va_A (FW N ad f) sz)) 0 0 (va_A (FW N ad f) sz)
abbrev zq (b : Int32) : Prop := b = 0 ∨ b = 1
theorem g_ofi {S : Type} {l : Launch} {y : MethodName} {ws ws0 : List Cond} {rm : Room} {D : va_G} {tys : List (ClassId × FieldType)} {N : Nat} {ad : Nat → Nat} {f : Nat → va_E} {av : List Value} {cc : ByteArray} {maxL : Nat} {post : Int32 → S → Prop} {g : S → Nat → va_E} (hy : plainName y.cls = true) (hw : ws = Cond.code y cc maxL (some .int) :: ws0) (hlen : (lg_sl av).length ≤ maxL) (hrc : rm.cells = 0) (hrs : rm.slots = 0)
    (k : ∀ (p : Program) (e : Env) (s : State) (m : MethodId) (args : Array Value) (below : List Frame) (meth : Method) (c : Code) (A : Nat → Prop) (ls : Array Slot) (Q : State → Prop), p.tables.exec = Jvm.exec → c.code = cc → c.maxLocals = maxL → (∀ w ∈ ws, w.before args s = true) → s.vm.findClass y.cls = some m.cls → va_K D vwCl tys s → va_P D vwCl (FW N ad f) s.heap → (∀ g, va_D A (FW N ad g)) → (∀ q : Nat, s.heap.size ≤ q → A q) → va_S A s.heap s.heap [] → lv_has ls maxL (lv_args 0 av) →
      (∀ (H : Heap) (locs : List Loc) (f' : Nat → va_E) (v : Int32) (u : S) (pc : Nat) (ls : Array Slot), decode cc pc = .ok (.ireturn, 1) → va_P D vwCl (FW N ad f') H → va_S A s.heap H locs → post v u → f' = g u → W p l e rm s m args below meth c H locs 0 0 Q (F0 m pc ls [.int v])) →
      W p l e rm s m args below meth c s.heap [] 0 0 Q (F0 m 0 ls [])) : gMi l y ws rm D tys N ad f av post g := by
  intro sz
  refine Met.ofW (cc := cc) (maxL := maxL) (ret := some .int) hy hw ?_
  intro p e s m args below meth c s₁ B hml hv
  obtain ⟨rfl, hsz, hP, hK, hD0⟩ := hv
  have hts := atoms_spec (ws := ws) B.pre
  have hown : s.vm.findClass y.cls = some m.cls := findClass_of_methodNamed B.named
  subst hsz
  have hD := hD0.self (sz := s.heap.size)
  have hA : ∀ q : Nat, s.heap.size ≤ q → va_A (FW N ad f) s.heap.size q := fun q h => Or.inr h
  have hl := lv_entry av (n := maxL) hlen
  have hx := B.exec
  have hb := B.bytes
  have hr := B.returns
  have hlocks := B.notSynchronized
  rw [lg_entry_eq]
  refine k p e s m _ below meth c (va_A (FW N ad f) s.heap.size) _ _ hx hb hml hts hown hK hP (FW_Dall hD) hA va_S.rf hl ?_
  intro H locs f2 v u pc ls hdg hP hS hu hg
  exact W.iret (v := v) hx hb hr (fun t ht hW => ⟨⟨v, u, rfl, hu, by show va_P D vwCl (FW N ad (g u)) t.heap; rw [ht, ← hg]; exact hP⟩, hS.F ht⟩) hS.2.2 hdg hlocks
theorem g_ofz {S : Type} {l : Launch} {y : MethodName} {ws ws0 : List Cond} {rm : Room} {D : va_G} {tys : List (ClassId × FieldType)} {N : Nat} {ad : Nat → Nat} {f : Nat → va_E} {av : List Value} {cc : ByteArray} {maxL : Nat} {post : Int32 → S → Prop} {g : S → Nat → va_E} (hy : plainName y.cls = true) (hw : ws = Cond.code y cc maxL (some .boolean) :: ws0) (hlen : (lg_sl av).length ≤ maxL) (hrc : rm.cells = 0) (hrs : rm.slots = 0)
    (k : ∀ (p : Program) (e : Env) (s : State) (m : MethodId) (args : Array Value) (below : List Frame) (meth : Method) (c : Code) (A : Nat → Prop) (ls : Array Slot) (Q : State → Prop), p.tables.exec = Jvm.exec → c.code = cc → c.maxLocals = maxL → (∀ w ∈ ws, w.before args s = true) → s.vm.findClass y.cls = some m.cls → va_K D vwCl tys s → va_P D vwCl (FW N ad f) s.heap → (∀ g, va_D A (FW N ad g)) → (∀ q : Nat, s.heap.size ≤ q → A q) → va_S A s.heap s.heap [] → lv_has ls maxL (lv_args 0 av) →
      (∀ (H : Heap) (locs : List Loc) (f' : Nat → va_E) (v : Int32) (u : S) (pc : Nat) (ls : Array Slot), decode cc pc = .ok (.ireturn, 1) → va_P D vwCl (FW N ad f') H → va_S A s.heap H locs → zq v → post v u → f' = g u → W p l e rm s m args below meth c H locs 0 0 Q (F0 m pc ls [.int v])) →
      W p l e rm s m args below meth c s.heap [] 0 0 Q (F0 m 0 ls [])) : gMi l y ws rm D tys N ad f av post g := by
  intro sz
  refine Met.ofW (cc := cc) (maxL := maxL) (ret := some .boolean) hy hw ?_
  intro p e s m args below meth c s₁ B hml hv
  obtain ⟨rfl, hsz, hP, hK, hD0⟩ := hv
  have hts := atoms_spec (ws := ws) B.pre
  have hown : s.vm.findClass y.cls = some m.cls := findClass_of_methodNamed B.named
  subst hsz
  have hD := hD0.self (sz := s.heap.size)
  have hA : ∀ q : Nat, s.heap.size ≤ q → va_A (FW N ad f) s.heap.size q := fun q h => Or.inr h
  have hl := lv_entry av (n := maxL) hlen
  have hx := B.exec
  have hb := B.bytes
  have hr := B.returns
  have hlocks := B.notSynchronized
  rw [lg_entry_eq]
  refine k p e s m _ below meth c (va_A (FW N ad f) s.heap.size) _ _ hx hb hml hts hown hK hP (FW_Dall hD) hA va_S.rf hl ?_
  intro H locs f2 v u pc ls hdg hP hS hz hu hg
  exact W.zret (v := v) (ty := .boolean) hx hb hr (by rcases hz with rfl | rfl <;> rfl) (fun t ht hW => ⟨⟨v, u, rfl, hu, by show va_P D vwCl (FW N ad (g u)) t.heap; rw [ht, ← hg]; exact hP⟩, hS.F ht⟩) hS.2.2 hdg hlocks
theorem g_ofv {S : Type} {l : Launch} {y : MethodName} {ws ws0 : List Cond} {rm : Room} {D : va_G} {tys : List (ClassId × FieldType)} {N : Nat} {ad : Nat → Nat} {f : Nat → va_E} {av : List Value} {cc : ByteArray} {maxL : Nat} {post : S → Prop} {g : S → Nat → va_E} (hy : plainName y.cls = true) (hw : ws = Cond.code y cc maxL (none) :: ws0) (hlen : (lg_sl av).length ≤ maxL) (hrc : rm.cells = 0) (hrs : rm.slots = 0)
    (k : ∀ (p : Program) (e : Env) (s : State) (m : MethodId) (args : Array Value) (below : List Frame) (meth : Method) (c : Code) (A : Nat → Prop) (ls : Array Slot) (Q : State → Prop), p.tables.exec = Jvm.exec → c.code = cc → c.maxLocals = maxL → (∀ w ∈ ws, w.before args s = true) → s.vm.findClass y.cls = some m.cls → va_K D vwCl tys s → va_P D vwCl (FW N ad f) s.heap → (∀ g, va_D A (FW N ad g)) → (∀ q : Nat, s.heap.size ≤ q → A q) → va_S A s.heap s.heap [] → lv_has ls maxL (lv_args 0 av) →
      (∀ (H : Heap) (locs : List Loc) (f' : Nat → va_E) (u : S) (pc : Nat) (ls : Array Slot), decode cc pc = .ok (.return_, 1) → va_P D vwCl (FW N ad f') H → va_S A s.heap H locs → post u → f' = g u → W p l e rm s m args below meth c H locs 0 0 Q (F0 m pc ls [])) →
      W p l e rm s m args below meth c s.heap [] 0 0 Q (F0 m 0 ls [])) : gMv l y ws rm D tys N ad f av post g := by
  intro sz
  refine Met.ofW (cc := cc) (maxL := maxL) (ret := none) hy hw ?_
  intro p e s m args below meth c s₁ B hml hv
  obtain ⟨rfl, hsz, hP, hK, hD0⟩ := hv
  have hts := atoms_spec (ws := ws) B.pre
  have hown : s.vm.findClass y.cls = some m.cls := findClass_of_methodNamed B.named
  subst hsz
  have hD := hD0.self (sz := s.heap.size)
  have hA : ∀ q : Nat, s.heap.size ≤ q → va_A (FW N ad f) s.heap.size q := fun q h => Or.inr h
  have hl := lv_entry av (n := maxL) hlen
  have hx := B.exec
  have hb := B.bytes
  have hr := B.returns
  have hlocks := B.notSynchronized
  rw [lg_entry_eq]
  refine k p e s m _ below meth c (va_A (FW N ad f) s.heap.size) _ _ hx hb hml hts hown hK hP (FW_Dall hD) hA va_S.rf hl ?_
  intro H locs f2 u pc ls hdg hP hS hu hg
  exact W.vret hx hb hr (fun t ht hW => ⟨⟨u, rfl, hu, by show va_P D vwCl (FW N ad (g u)) t.heap; rw [ht, ← hg]; exact hP⟩, hS.F ht⟩) hS.2.2 hdg hlocks
section GR
variable {p : Program} {l : Launch} {e : Env} {R : Room} {s : State} {m : MethodId} {args : Array Value} {below : List Frame} {meth : Method} {c : Code} {H H0 : Heap} {locs : List Loc} {cells slots : Nat} {Q : State → Prop} {A : Nat → Prop} {D : va_G} {tys : List (ClassId × FieldType)} {N : Nat} {ad : Nat → Nat} {f f' : Nat → va_E} {cc : ByteArray} {pc : Nat} {ls : Array Slot} {rest st0 : List Value}
theorem g_free (hD : ∀ g, va_D A (FW N ad g)) (hS : va_S A H0 H locs) (hA : ∀ q : Nat, H0.size ≤ q → A q) : ∀ q, va_A (FW N ad f) H.size q → A q := fun q h => by
  rcases FW_A.mp h with ⟨i, hi, rfl⟩ | h
  · exact (FW_D.mp (hD f)).2 i hi
  · exact hA q (Nat.le_trans hS.1 h)
variable {Ts ws : List Cond} {own C : String} {y : MethodName} {bytes : ByteArray} {maxL nL n index : Nat} {rm : Room} {b : Addr} {As : List Value} {ret : Option FieldType}
/-- a call of an instance method that has the caller's whole world, an int back -/
theorem g_cvi {S : Type} {post : Int32 → S → Prop} {g : S → Nat → va_E} (F : CallFix p m c cc nL s args Ts own) (hM : gMi l y ws rm D tys N ad f (.ref b :: As) post g) (cw : CallW R s args own C index y bytes maxL ret ws rm 0 0 n) (hK : va_K D vwCl tys s) (hP : va_P D vwCl (FW N ad f) H) (hD : ∀ g, va_D A (FW N ad g)) (hS : va_S A H0 H locs) (hA : ∀ q : Nat, H0.size ≤ q → A q) (q0 : Nat) {ci : Nat} {fs : List Value} {qc : vw_C} (hc : vwCl[ci]? = some qc) (hC : C = qc.1) (he : (FW N ad f)[q0]? = some (b, .inr (ci, fs))) (hsize : ls.size = nL) (hdg : decode cc pc = .ok (.invokevirtual index, 3)) (hn : As.length = n) (hst : st0 = As.reverse ++ .ref b :: rest) (hrm : (rest.map fun v => v.category).sum ≤ 8) (hf : cells ≤ R.cells ∧ slots ≤ R.slots)
    (kk : ∀ (r : Int32) (u : S) (H1 : Heap) (locs1 : List Loc), post r u → va_P D vwCl (FW N ad (g u)) H1 → va_S A H0 H1 locs1 → W p l e R s m args below meth c H1 locs1 cells slots Q (F0 m (pc + 3) ls (.int r :: rest))) : W p l e R s m args below meth c H locs cells slots Q (F0 m pc ls st0) := by
  have hfr := g_free (f := f) hD hS hA
  subst hC
  refine va_calli (va_runV (As := As) (rest := rest) F (hM H.size) cw ⟨gPc_blind, va_recv hK hP hc he, fun U hU hW => ⟨rfl, by rw [hU], by rw [hU]; exact hP, va_K.moved hW.alike hK, (hD f).weaken (fun _ _ _ _ => trivial)⟩⟩ rfl hn hsize hst (lv_room hrm) hdg hf) hS (fun q _ h => hfr q h) hfr (fun r u t H1 locs1 ht hvm hw hB hz1 hk1 hS => ?_)
  rw [ht] at hB
  exact kk r u H1 locs1 hw hB hS
theorem g_cvv {S : Type} {post : S → Prop} {g : S → Nat → va_E} (F : CallFix p m c cc nL s args Ts own) (hM : gMv l y ws rm D tys N ad f (.ref b :: As) post g) (cw : CallW R s args own C index y bytes maxL ret ws rm 0 0 n) (hK : va_K D vwCl tys s) (hP : va_P D vwCl (FW N ad f) H) (hD : ∀ g, va_D A (FW N ad g)) (hS : va_S A H0 H locs) (hA : ∀ q : Nat, H0.size ≤ q → A q) (q0 : Nat) {ci : Nat} {fs : List Value} {qc : vw_C} (hc : vwCl[ci]? = some qc) (hC : C = qc.1) (he : (FW N ad f)[q0]? = some (b, .inr (ci, fs))) (hsize : ls.size = nL) (hdg : decode cc pc = .ok (.invokevirtual index, 3)) (hn : As.length = n) (hst : st0 = As.reverse ++ .ref b :: rest) (hrm : (rest.map fun v => v.category).sum ≤ 8) (hf : cells ≤ R.cells ∧ slots ≤ R.slots)
    (kk : ∀ (u : S) (H1 : Heap) (locs1 : List Loc), post u → va_P D vwCl (FW N ad (g u)) H1 → va_S A H0 H1 locs1 → W p l e R s m args below meth c H1 locs1 cells slots Q (F0 m (pc + 3) ls rest)) : W p l e R s m args below meth c H locs cells slots Q (F0 m pc ls st0) := by
  have hfr := g_free (f := f) hD hS hA
  subst hC
  refine va_callv (va_runV (As := As) (rest := rest) F (hM H.size) cw ⟨gPc_blind, va_recv hK hP hc he, fun U hU hW => ⟨rfl, by rw [hU], by rw [hU]; exact hP, va_K.moved hW.alike hK, (hD f).weaken (fun _ _ _ _ => trivial)⟩⟩ rfl hn hsize hst (lv_room hrm) hdg hf) hS (fun q _ h => hfr q h) hfr (fun u t H1 locs1 ht hvm hw hB hz1 hk1 hS => ?_)
  rw [ht] at hB
  exact kk u H1 locs1 hw hB hS
/-- a call of a static method, an int back -/
theorem g_csi {S : Type} {post : Int32 → S → Prop} {g : S → Nat → va_E} (F : CallFix p m c cc nL s args Ts own) (hM : gMi l y ws rm D tys N ad f As post g) (cw : CallB R s args own index y bytes maxL ret ws rm 0 0 n ∧ (Cond.static y).before args s = true) (hK : va_K D vwCl tys s) (hP : va_P D vwCl (FW N ad f) H) (hD : ∀ g, va_D A (FW N ad g)) (hS : va_S A H0 H locs) (hA : ∀ q : Nat, H0.size ≤ q → A q) (hsize : ls.size = nL) (hdg : decode cc pc = .ok (.invokestatic index, 3)) (hn : As.length = n) (hst : st0 = As.reverse ++ rest) (hrm : (rest.map fun v => v.category).sum ≤ 8) (hf : cells ≤ R.cells ∧ slots ≤ R.slots)
    (kk : ∀ (r : Int32) (u : S) (H1 : Heap) (locs1 : List Loc), post r u → va_P D vwCl (FW N ad (g u)) H1 → va_S A H0 H1 locs1 → W p l e R s m args below meth c H1 locs1 cells slots Q (F0 m (pc + 3) ls (.int r :: rest))) : W p l e R s m args below meth c H locs cells slots Q (F0 m pc ls st0) := by
  have hfr := g_free (f := f) hD hS hA
  refine va_calli (va_runS (As := As) (rest := rest) F (hM H.size) cw ⟨gPc_blind, fun U hU hW => ⟨rfl, by rw [hU], by rw [hU]; exact hP, va_K.moved hW.alike hK, (hD f).weaken (fun _ _ _ _ => trivial)⟩⟩ rfl hn hsize hst (lv_room hrm) hdg hf) hS (fun q _ h => hfr q h) hfr (fun r u t H1 locs1 ht hvm hw hB hz1 hk1 hS => ?_)
  rw [ht] at hB
  exact kk r u H1 locs1 hw hB hS
theorem g_iald {q0 t0 : Nat} {cA : ClassId} {n' : Nat} {f1 : Nat → Int32} {i v : Int32} (hx : p.tables.exec = Jvm.exec) (hb : c.code = cc) (hK : va_K D vwCl tys s) (hP : va_P D vwCl (FW N ad f) H) (ha : (FW N ad f)[q0]? = some (ad q0, .inl (cA, n', .inl f1))) (ht : tys[t0]? = some (cA, .int)) (j : Nat) (hi : i = nI j) (hj : j < n') (hn : n' < 2 ^ 31) (hv : f1 j = v) (hdg : decode cc pc = .ok (.iaload, 1))
    (kk : W p l e R s m args below meth c H locs cells slots Q (F0 m (pc + 1) ls (.int v :: rest))) : W p l e R s m args below meth c H locs cells slots Q (F0 m pc ls (.int i :: .ref (ad q0) :: rest)) := by
  subst hi; subst hv
  refine va_iald hx hb hK hP q0 t0 ha ht (vp_in_nI hj hn) hdg ?_
  rw [nI_clamp (Nat.lt_trans hj hn)]
  exact kk
theorem g_zald {q0 t0 : Nat} {cA : ClassId} {n' : Nat} {f1 : Nat → Int32} {i v : Int32} (hx : p.tables.exec = Jvm.exec) (hb : c.code = cc) (hK : va_K D vwCl tys s) (hP : va_P D vwCl (FW N ad f) H) (ha : (FW N ad f)[q0]? = some (ad q0, .inl (cA, n', .inl f1))) (ht : tys[t0]? = some (cA, .boolean)) (j : Nat) (hi : i = nI j) (hj : j < n') (hn : n' < 2 ^ 31) (hv : f1 j = v) (hdg : decode cc pc = .ok (.baload, 1))
    (kk : W p l e R s m args below meth c H locs cells slots Q (F0 m (pc + 1) ls (.int v :: rest))) : W p l e R s m args below meth c H locs cells slots Q (F0 m pc ls (.int i :: .ref (ad q0) :: rest)) := by
  subst hi; subst hv
  refine va_zald hx hb hK hP q0 t0 ha ht (vp_in_nI hj hn) hdg ?_
  rw [nI_clamp (Nat.lt_trans hj hn)]
  exact kk
theorem g_lald {q0 t0 : Nat} {cA : ClassId} {n' : Nat} {f1 : Nat → Int64} {i : Int32} {v : Int64} (hx : p.tables.exec = Jvm.exec) (hb : c.code = cc) (hK : va_K D vwCl tys s) (hP : va_P D vwCl (FW N ad f) H) (ha : (FW N ad f)[q0]? = some (ad q0, .inl (cA, n', .inr (.inl f1)))) (ht : tys[t0]? = some (cA, .long)) (j : Nat) (hi : i = nI j) (hj : j < n') (hn : n' < 2 ^ 31) (hv : f1 j = v) (hdg : decode cc pc = .ok (.laload, 1))
    (kk : W p l e R s m args below meth c H locs cells slots Q (F0 m (pc + 1) ls (.long v :: rest))) : W p l e R s m args below meth c H locs cells slots Q (F0 m pc ls (.int i :: .ref (ad q0) :: rest)) := by
  subst hi; subst hv
  refine va_lald hx hb hK hP q0 t0 ha ht (vp_in_nI hj hn) hdg ?_
  rw [nI_clamp (Nat.lt_trans hj hn)]
  exact kk
theorem g_aald {q0 t0 : Nat} {cA : ClassId} {C0 : String} {n' : Nat} {f1 : Nat → Option Nat} {i : Int32} {v : Nat} (hx : p.tables.exec = Jvm.exec) (hb : c.code = cc) (hK : va_K D vwCl tys s) (hP : va_P D vwCl (FW N ad f) H) (ha : (FW N ad f)[q0]? = some (ad q0, .inl (cA, n', .inr (.inr (.inr (.inr f1)))))) (ht : tys[t0]? = some (cA, .object C0)) (j : Nat) (hi : i = nI j) (hj : j < n') (hn : n' < 2 ^ 31) (hv : f1 j = some v) (hdg : decode cc pc = .ok (.aaload, 1))
    (kk : W p l e R s m args below meth c H locs cells slots Q (F0 m (pc + 1) ls (.ref v :: rest))) : W p l e R s m args below meth c H locs cells slots Q (F0 m pc ls (.int i :: .ref (ad q0) :: rest)) := by
  subst hi
  refine va_aldq hx hb hK hP q0 t0 ha ht (vp_in_nI hj hn) hdg ?_
  rw [nI_clamp (Nat.lt_trans hj hn), hv]
  exact kk
theorem g_iast {q0 t0 : Nat} {cA : ClassId} {n' : Nat} {f1 : Nat → Int32} {i x : Int32} (hx : p.tables.exec = Jvm.exec) (hb : c.code = cc) (hK : va_K D vwCl tys s) (hP : va_P D vwCl (FW N ad f) H) (hD : ∀ g, va_D A (FW N ad g)) (hS : va_S A H0 H locs) (ha : (FW N ad f)[q0]? = some (ad q0, .inl (cA, n', .inl f1))) (ht : tys[t0]? = some (cA, .int)) (j : Nat) (hi : i = nI j) (hj : j < n') (hn : n' < 2 ^ 31) (hdg : decode cc pc = .ok (.iastore, 1))
    (kk : ∀ (H1 : Heap) (locs1 : List Loc), va_P D vwCl ((FW N ad f).set q0 (ad q0, .inl (cA, n', .inl (upd f1 j x)))) H1 → va_S A H0 H1 locs1 → W p l e R s m args below meth c H1 locs1 cells slots Q (F0 m (pc + 1) ls rest)) : W p l e R s m args below meth c H locs cells slots Q (F0 m pc ls (.int x :: .int i :: .ref (ad q0) :: rest)) := by
  subst hi
  refine va_iast hx hb hK hP (hD f) hS q0 t0 ha ht (vp_in_nI hj hn) hdg (fun H1 locs1 hP _ hS => ?_)
  rw [nI_clamp (Nat.lt_trans hj hn)] at hP
  exact kk H1 locs1 hP hS
theorem g_zast {q0 t0 : Nat} {cA : ClassId} {n' : Nat} {f1 : Nat → Int32} {i x : Int32} (hx : p.tables.exec = Jvm.exec) (hb : c.code = cc) (hK : va_K D vwCl tys s) (hP : va_P D vwCl (FW N ad f) H) (hD : ∀ g, va_D A (FW N ad g)) (hS : va_S A H0 H locs) (ha : (FW N ad f)[q0]? = some (ad q0, .inl (cA, n', .inl f1))) (ht : tys[t0]? = some (cA, .boolean)) (j : Nat) (hi : i = nI j) (hj : j < n') (hn : n' < 2 ^ 31) (hz : zq x) (hdg : decode cc pc = .ok (.bastore, 1))
    (kk : ∀ (H1 : Heap) (locs1 : List Loc), va_P D vwCl ((FW N ad f).set q0 (ad q0, .inl (cA, n', .inl (upd f1 j x)))) H1 → va_S A H0 H1 locs1 → W p l e R s m args below meth c H1 locs1 cells slots Q (F0 m (pc + 1) ls rest)) : W p l e R s m args below meth c H locs cells slots Q (F0 m pc ls (.int x :: .int i :: .ref (ad q0) :: rest)) := by
  subst hi
  refine va_zast hx hb hK hP (hD f) hS q0 t0 ha ht (vp_in_nI hj hn) hdg (fun H1 locs1 hP _ hS => ?_)
  rw [nI_clamp (Nat.lt_trans hj hn), show vp_nar .boolean x = x by rcases hz with rfl | rfl <;> rfl] at hP
  exact kk H1 locs1 hP hS
theorem g_last {q0 t0 : Nat} {cA : ClassId} {n' : Nat} {f1 : Nat → Int64} {i : Int32} {x : Int64} (hx : p.tables.exec = Jvm.exec) (hb : c.code = cc) (hK : va_K D vwCl tys s) (hP : va_P D vwCl (FW N ad f) H) (hD : ∀ g, va_D A (FW N ad g)) (hS : va_S A H0 H locs) (ha : (FW N ad f)[q0]? = some (ad q0, .inl (cA, n', .inr (.inl f1)))) (ht : tys[t0]? = some (cA, .long)) (j : Nat) (hi : i = nI j) (hj : j < n') (hn : n' < 2 ^ 31) (hdg : decode cc pc = .ok (.lastore, 1))
    (kk : ∀ (H1 : Heap) (locs1 : List Loc), va_P D vwCl ((FW N ad f).set q0 (ad q0, .inl (cA, n', .inr (.inl (vp_updL f1 j x))))) H1 → va_S A H0 H1 locs1 → W p l e R s m args below meth c H1 locs1 cells slots Q (F0 m (pc + 1) ls rest)) : W p l e R s m args below meth c H locs cells slots Q (F0 m pc ls (.long x :: .int i :: .ref (ad q0) :: rest)) := by
  subst hi
  refine va_last hx hb hK hP (hD f) hS q0 t0 ha ht (vp_in_nI hj hn) hdg (fun H1 locs1 hP _ hS => ?_)
  rw [nI_clamp (Nat.lt_trans hj hn)] at hP
  exact kk H1 locs1 hP hS
theorem g_top {x y : Int32} (h : x = y) (k : W p l e R s m args below meth c H locs cells slots Q (F0 m pc ls (.int y :: rest))) : W p l e R s m args below meth c H locs cells slots Q (F0 m pc ls (.int x :: rest)) := by
  subst h; exact k
theorem g_topl {x y : Int64} (h : x = y) (k : W p l e R s m args below meth c H locs cells slots Q (F0 m pc ls (.long y :: rest))) : W p l e R s m args below meth c H locs cells slots Q (F0 m pc ls (.long x :: rest)) := by
  subst h; exact k
end GR
end
section
/-! the state of the system: int rows by (row, core, place), and a long a core -/
abbrev St : Type := (Nat → Nat → Nat → Int32) × (Nat → Int64)
def put (σ : St) (f k j : Nat) (v : Int32) : St := (fun f' k' j' => if f' = f ∧ k' = k ∧ j' = j then v else σ.1 f' k' j', σ.2)
def putA (σ : St) (f k : Nat) (g : Nat → Int32) : St := (fun f' k' j' => if f' = f ∧ k' = k then g j' else σ.1 f' k' j', σ.2)
def putL (σ : St) (k : Nat) (v : Int64) : St := (σ.1, fun k' => if k' = k then v else σ.2 k')
theorem put_at (σ : St) (f k j : Nat) (v : Int32) (f' k' j' : Nat) : (put σ f k j v).1 f' k' j' = if f' = f ∧ k' = k ∧ j' = j then v else σ.1 f' k' j' := rfl
theorem putA_at (σ : St) (f k : Nat) (g : Nat → Int32) (f' k' j' : Nat) : (putA σ f k g).1 f' k' j' = if f' = f ∧ k' = k then g j' else σ.1 f' k' j' := rfl
theorem putL_at (σ : St) (k : Nat) (v : Int64) (f' k' j' : Nat) : (putL σ k v).1 f' k' j' = σ.1 f' k' j' := rfl
theorem put_2 (σ : St) (f k j : Nat) (v : Int32) : (put σ f k j v).2 = σ.2 := rfl
theorem putA_2 (σ : St) (f k : Nat) (g : Nat → Int32) : (putA σ f k g).2 = σ.2 := rfl
theorem putL_2 (σ : St) (k : Nat) (v : Int64) (k' : Nat) : (putL σ k v).2 k' = if k' = k then v else σ.2 k' := rfl
abbrev tyL (cs : Nat → ClassId) : List (ClassId × FieldType) := [(cs 0, .int), (cs 1, .object RX0), (cs 2, .long), (cs 3, .boolean)]
/-- the class's cells, by row and column: rows 0, 1 the object and what it has once, row k + 2 core k -/
def CQ (cs : Nat → ClassId) (n : Nat) (ad : Nat → Nat) (σ : St) (r c : Nat) : va_E := match r with
  | 0 => (match c with
    | 0 => .inr (4, [.int (σ.1 27 0 0), .int (σ.1 28 0 0), .ref (ad 1), .ref (ad 2), .ref (ad 3), .ref (ad 4), .int (σ.1 9 0 0)])
    | 1 => .inl (cs 1, n, .inr (.inr (.inr (.inr (fun i => some (ad (5 * (i + 2) + 0)))))))
    | 2 => .inl (cs 0, 64, .inl (fun j => σ.1 0 0 j))
    | 3 => .inr (1, [.ref (ad 5), .ref (ad 6), .ref (ad 7), .ref (ad 8), .int (σ.1 5 0 0)])
    | _ => .inr (2, [.ref (ad 9), .int (σ.1 7 0 0), .int (σ.1 8 0 0)]))
  | 1 => (match c with
    | 0 => .inl (cs 0, 80, .inl (fun j => σ.1 1 0 j))
    | 1 => .inl (cs 0, 80, .inl (fun j => σ.1 2 0 j))
    | 2 => .inl (cs 0, 80, .inl (fun j => σ.1 3 0 j))
    | 3 => .inl (cs 0, 80, .inl (fun j => σ.1 4 0 j))
    | _ => .inl (cs 0, 400, .inl (fun j => σ.1 6 0 j)))
  | k + 2 => (match c with
    | 0 => .inr (0, [.int (nI k), .ref (ad (5 * (k + 2) + 1)), .ref (ad (5 * (k + 2) + 2)), .int (σ.1 13 k 0), .int (σ.1 14 k 0), .int (σ.1 15 k 0), .int (σ.1 16 k 0), .int (σ.1 17 k 0)])
    | 1 => .inl (cs 0, 8, .inl (fun j => σ.1 10 k j))
    | 2 => .inr (3, [.ref (ad (5 * (k + 2) + 3)), .ref (ad (5 * (k + 2) + 4)), .int (σ.1 18 k 0), .int (σ.1 19 k 0), .int (σ.1 20 k 0), .int (σ.1 21 k 0), .int (σ.1 22 k 0), .int (σ.1 23 k 0), .long (σ.2 k)])
    | 3 => .inl (cs 0, 8, .inl (fun j => σ.1 11 k j))
    | _ => .inl (cs 0, 64, .inl (fun j => σ.1 12 k j)))
def CC (cs : Nat → ClassId) (n : Nat) (ad : Nat → Nat) (σ : St) : Nat → va_E := fun i => CQ cs n ad σ (i / 5) (i % 5)
theorem CC_at (cs : Nat → ClassId) (n : Nat) (ad : Nat → Nat) (σ : St) (r c : Nat) (hc : c < 5) : CC cs n ad σ (5 * r + c) = CQ cs n ad σ r c := by
  show CQ cs n ad σ ((5 * r + c) / 5) ((5 * r + c) % 5) = _
  rw [show (5 * r + c) / 5 = r by omega, show (5 * r + c) % 5 = c by omega]
theorem CC_up {cs : Nat → ClassId} {n : Nat} {ad : Nat → Nat} {σ σ' : St} (r c : Nat) (hc : c < 5) {e : va_E} (h1 : CQ cs n ad σ' r c = e) (h2 : ∀ r' c', c' < 5 → ¬ (r' = r ∧ c' = c) → CQ cs n ad σ' r' c' = CQ cs n ad σ r' c') : va_up (CC cs n ad σ) (5 * r + c) e = CC cs n ad σ' := by
  funext i
  by_cases hi : i = 5 * r + c
  · subst hi
    rw [va_up_self, CC_at _ _ _ _ _ _ hc, h1]
  · rw [va_up_ne _ _ hi]
    exact (h2 (i / 5) (i % 5) (by omega) (by omega)).symm

theorem cc_obj {cs : Nat → ClassId} {n : Nat} {ad : Nat → Nat} {σ : St} : (FW (5 * (n + 2)) ad (CC cs n ad σ))[0]? = some (ad 0, .inr (4, [.int (σ.1 27 0 0), .int (σ.1 28 0 0), .ref (ad 1), .ref (ad 2), .ref (ad 3), .ref (ad 4), .int (σ.1 9 0 0)])) := FW_get (by omega) (CC_at cs n ad σ 0 0 (by omega))
theorem cc_cor {cs : Nat → ClassId} {n : Nat} {ad : Nat → Nat} {σ : St} : (FW (5 * (n + 2)) ad (CC cs n ad σ))[1]? = some (ad 1, .inl (cs 1, n, .inr (.inr (.inr (.inr (fun i => some (ad (5 * (i + 2) + 0)))))))) := FW_get (by omega) (CC_at cs n ad σ 0 1 (by omega))
theorem cc_mem {cs : Nat → ClassId} {n : Nat} {ad : Nat → Nat} {σ : St} : (FW (5 * (n + 2)) ad (CC cs n ad σ))[2]? = some (ad 2, .inl (cs 0, 64, .inl (fun j => σ.1 0 0 j))) := FW_get (by omega) (CC_at cs n ad σ 0 2 (by omega))
theorem cc_pro {cs : Nat → ClassId} {n : Nat} {ad : Nat → Nat} {σ : St} : (FW (5 * (n + 2)) ad (CC cs n ad σ))[3]? = some (ad 3, .inr (1, [.ref (ad 5), .ref (ad 6), .ref (ad 7), .ref (ad 8), .int (σ.1 5 0 0)])) := FW_get (by omega) (CC_at cs n ad σ 0 3 (by omega))
theorem cc_rec {cs : Nat → ClassId} {n : Nat} {ad : Nat → Nat} {σ : St} : (FW (5 * (n + 2)) ad (CC cs n ad σ))[4]? = some (ad 4, .inr (2, [.ref (ad 9), .int (σ.1 7 0 0), .int (σ.1 8 0 0)])) := FW_get (by omega) (CC_at cs n ad σ 0 4 (by omega))
theorem cc_ops {cs : Nat → ClassId} {n : Nat} {ad : Nat → Nat} {σ : St} : (FW (5 * (n + 2)) ad (CC cs n ad σ))[5]? = some (ad 5, .inl (cs 0, 80, .inl (fun j => σ.1 1 0 j))) := FW_get (by omega) (CC_at cs n ad σ 1 0 (by omega))
theorem cc_pa {cs : Nat → ClassId} {n : Nat} {ad : Nat → Nat} {σ : St} : (FW (5 * (n + 2)) ad (CC cs n ad σ))[6]? = some (ad 6, .inl (cs 0, 80, .inl (fun j => σ.1 2 0 j))) := FW_get (by omega) (CC_at cs n ad σ 1 1 (by omega))
theorem cc_pb {cs : Nat → ClassId} {n : Nat} {ad : Nat → Nat} {σ : St} : (FW (5 * (n + 2)) ad (CC cs n ad σ))[7]? = some (ad 7, .inl (cs 0, 80, .inl (fun j => σ.1 3 0 j))) := FW_get (by omega) (CC_at cs n ad σ 1 2 (by omega))
theorem cc_pc {cs : Nat → ClassId} {n : Nat} {ad : Nat → Nat} {σ : St} : (FW (5 * (n + 2)) ad (CC cs n ad σ))[8]? = some (ad 8, .inl (cs 0, 80, .inl (fun j => σ.1 4 0 j))) := FW_get (by omega) (CC_at cs n ad σ 1 3 (by omega))
theorem cc_fld {cs : Nat → ClassId} {n : Nat} {ad : Nat → Nat} {σ : St} : (FW (5 * (n + 2)) ad (CC cs n ad σ))[9]? = some (ad 9, .inl (cs 0, 400, .inl (fun j => σ.1 6 0 j))) := FW_get (by omega) (CC_at cs n ad σ 1 4 (by omega))
theorem cc_core {cs : Nat → ClassId} {n : Nat} {ad : Nat → Nat} {σ : St} {k : Nat} (hk : k < n) : (FW (5 * (n + 2)) ad (CC cs n ad σ))[5 * (k + 2) + 0]? = some (ad (5 * (k + 2) + 0), .inr (0, [.int (nI k), .ref (ad (5 * (k + 2) + 1)), .ref (ad (5 * (k + 2) + 2)), .int (σ.1 13 k 0), .int (σ.1 14 k 0), .int (σ.1 15 k 0), .int (σ.1 16 k 0), .int (σ.1 17 k 0)])) := FW_get (by omega) (CC_at cs n ad σ (k + 2) 0 (by omega))
theorem cc_regs {cs : Nat → ClassId} {n : Nat} {ad : Nat → Nat} {σ : St} {k : Nat} (hk : k < n) : (FW (5 * (n + 2)) ad (CC cs n ad σ))[5 * (k + 2) + 1]? = some (ad (5 * (k + 2) + 1), .inl (cs 0, 8, .inl (fun j => σ.1 10 k j))) := FW_get (by omega) (CC_at cs n ad σ (k + 2) 1 (by omega))
theorem cc_tx {cs : Nat → ClassId} {n : Nat} {ad : Nat → Nat} {σ : St} {k : Nat} (hk : k < n) : (FW (5 * (n + 2)) ad (CC cs n ad σ))[5 * (k + 2) + 2]? = some (ad (5 * (k + 2) + 2), .inr (3, [.ref (ad (5 * (k + 2) + 3)), .ref (ad (5 * (k + 2) + 4)), .int (σ.1 18 k 0), .int (σ.1 19 k 0), .int (σ.1 20 k 0), .int (σ.1 21 k 0), .int (σ.1 22 k 0), .int (σ.1 23 k 0), .long (σ.2 k)])) := FW_get (by omega) (CC_at cs n ad σ (k + 2) 2 (by omega))
theorem cc_kept {cs : Nat → ClassId} {n : Nat} {ad : Nat → Nat} {σ : St} {k : Nat} (hk : k < n) : (FW (5 * (n + 2)) ad (CC cs n ad σ))[5 * (k + 2) + 3]? = some (ad (5 * (k + 2) + 3), .inl (cs 0, 8, .inl (fun j => σ.1 11 k j))) := FW_get (by omega) (CC_at cs n ad σ (k + 2) 3 (by omega))
theorem cc_stw {cs : Nat → ClassId} {n : Nat} {ad : Nat → Nat} {σ : St} {k : Nat} (hk : k < n) : (FW (5 * (n + 2)) ad (CC cs n ad σ))[5 * (k + 2) + 4]? = some (ad (5 * (k + 2) + 4), .inl (cs 0, 64, .inl (fun j => σ.1 12 k j))) := FW_get (by omega) (CC_at cs n ad σ (k + 2) 4 (by omega))
theorem cu_obj_6 {cs : Nat → ClassId} {n : Nat} {ad : Nat → Nat} {σ : St} {v : Int32} : va_up (CC cs n ad σ) (5 * 0 + 0) (.inr (4, [.int (σ.1 27 0 0), .int (σ.1 28 0 0), .ref (ad 1), .ref (ad 2), .ref (ad 3), .ref (ad 4), .int v])) = CC cs n ad (put σ 9 0 0 v) :=
  CC_up 0 0 (by omega) (by simp [CQ, put, putA, putL, upd] <;> (try funext j) <;> (try simp [upd])) (fun r' c' hc' hne => by
    rcases r' with _ | _ | k' <;> (rcases (show c' = 0 ∨ c' = 1 ∨ c' = 2 ∨ c' = 3 ∨ c' = 4 by omega) with rfl | rfl | rfl | rfl | rfl) <;> simp [CQ, put, putA, putL] at hne ⊢)
theorem cu_pro_4 {cs : Nat → ClassId} {n : Nat} {ad : Nat → Nat} {σ : St} {v : Int32} : va_up (CC cs n ad σ) (5 * 0 + 3) (.inr (1, [.ref (ad 5), .ref (ad 6), .ref (ad 7), .ref (ad 8), .int v])) = CC cs n ad (put σ 5 0 0 v) :=
  CC_up 0 3 (by omega) (by simp [CQ, put, putA, putL, upd] <;> (try funext j) <;> (try simp [upd])) (fun r' c' hc' hne => by
    rcases r' with _ | _ | k' <;> (rcases (show c' = 0 ∨ c' = 1 ∨ c' = 2 ∨ c' = 3 ∨ c' = 4 by omega) with rfl | rfl | rfl | rfl | rfl) <;> simp [CQ, put, putA, putL] at hne ⊢)
theorem cu_rec_1 {cs : Nat → ClassId} {n : Nat} {ad : Nat → Nat} {σ : St} {v : Int32} : va_up (CC cs n ad σ) (5 * 0 + 4) (.inr (2, [.ref (ad 9), .int v, .int (σ.1 8 0 0)])) = CC cs n ad (put σ 7 0 0 v) :=
  CC_up 0 4 (by omega) (by simp [CQ, put, putA, putL, upd] <;> (try funext j) <;> (try simp [upd])) (fun r' c' hc' hne => by
    rcases r' with _ | _ | k' <;> (rcases (show c' = 0 ∨ c' = 1 ∨ c' = 2 ∨ c' = 3 ∨ c' = 4 by omega) with rfl | rfl | rfl | rfl | rfl) <;> simp [CQ, put, putA, putL] at hne ⊢)
theorem cu_rec_2 {cs : Nat → ClassId} {n : Nat} {ad : Nat → Nat} {σ : St} {v : Int32} : va_up (CC cs n ad σ) (5 * 0 + 4) (.inr (2, [.ref (ad 9), .int (σ.1 7 0 0), .int v])) = CC cs n ad (put σ 8 0 0 v) :=
  CC_up 0 4 (by omega) (by simp [CQ, put, putA, putL, upd] <;> (try funext j) <;> (try simp [upd])) (fun r' c' hc' hne => by
    rcases r' with _ | _ | k' <;> (rcases (show c' = 0 ∨ c' = 1 ∨ c' = 2 ∨ c' = 3 ∨ c' = 4 by omega) with rfl | rfl | rfl | rfl | rfl) <;> simp [CQ, put, putA, putL] at hne ⊢)
theorem cu_core_3 {cs : Nat → ClassId} {n : Nat} {ad : Nat → Nat} {σ : St} {k : Nat} {v : Int32} : va_up (CC cs n ad σ) (5 * (k + 2) + 0) (.inr (0, [.int (nI k), .ref (ad (5 * (k + 2) + 1)), .ref (ad (5 * (k + 2) + 2)), .int v, .int (σ.1 14 k 0), .int (σ.1 15 k 0), .int (σ.1 16 k 0), .int (σ.1 17 k 0)])) = CC cs n ad (put σ 13 k 0 v) :=
  CC_up (k + 2) 0 (by omega) (by simp [CQ, put, putA, putL, upd] <;> (try funext j) <;> (try simp [upd])) (fun r' c' hc' hne => by
    rcases r' with _ | _ | k' <;> (rcases (show c' = 0 ∨ c' = 1 ∨ c' = 2 ∨ c' = 3 ∨ c' = 4 by omega) with rfl | rfl | rfl | rfl | rfl) <;> simp [CQ, put, putA, putL] at hne ⊢ <;> simp [hne])
theorem cu_core_4 {cs : Nat → ClassId} {n : Nat} {ad : Nat → Nat} {σ : St} {k : Nat} {v : Int32} : va_up (CC cs n ad σ) (5 * (k + 2) + 0) (.inr (0, [.int (nI k), .ref (ad (5 * (k + 2) + 1)), .ref (ad (5 * (k + 2) + 2)), .int (σ.1 13 k 0), .int v, .int (σ.1 15 k 0), .int (σ.1 16 k 0), .int (σ.1 17 k 0)])) = CC cs n ad (put σ 14 k 0 v) :=
  CC_up (k + 2) 0 (by omega) (by simp [CQ, put, putA, putL, upd] <;> (try funext j) <;> (try simp [upd])) (fun r' c' hc' hne => by
    rcases r' with _ | _ | k' <;> (rcases (show c' = 0 ∨ c' = 1 ∨ c' = 2 ∨ c' = 3 ∨ c' = 4 by omega) with rfl | rfl | rfl | rfl | rfl) <;> simp [CQ, put, putA, putL] at hne ⊢ <;> simp [hne])
theorem cu_core_5 {cs : Nat → ClassId} {n : Nat} {ad : Nat → Nat} {σ : St} {k : Nat} {v : Int32} : va_up (CC cs n ad σ) (5 * (k + 2) + 0) (.inr (0, [.int (nI k), .ref (ad (5 * (k + 2) + 1)), .ref (ad (5 * (k + 2) + 2)), .int (σ.1 13 k 0), .int (σ.1 14 k 0), .int v, .int (σ.1 16 k 0), .int (σ.1 17 k 0)])) = CC cs n ad (put σ 15 k 0 v) :=
  CC_up (k + 2) 0 (by omega) (by simp [CQ, put, putA, putL, upd] <;> (try funext j) <;> (try simp [upd])) (fun r' c' hc' hne => by
    rcases r' with _ | _ | k' <;> (rcases (show c' = 0 ∨ c' = 1 ∨ c' = 2 ∨ c' = 3 ∨ c' = 4 by omega) with rfl | rfl | rfl | rfl | rfl) <;> simp [CQ, put, putA, putL] at hne ⊢ <;> simp [hne])
theorem cu_core_6 {cs : Nat → ClassId} {n : Nat} {ad : Nat → Nat} {σ : St} {k : Nat} {v : Int32} : va_up (CC cs n ad σ) (5 * (k + 2) + 0) (.inr (0, [.int (nI k), .ref (ad (5 * (k + 2) + 1)), .ref (ad (5 * (k + 2) + 2)), .int (σ.1 13 k 0), .int (σ.1 14 k 0), .int (σ.1 15 k 0), .int v, .int (σ.1 17 k 0)])) = CC cs n ad (put σ 16 k 0 v) :=
  CC_up (k + 2) 0 (by omega) (by simp [CQ, put, putA, putL, upd] <;> (try funext j) <;> (try simp [upd])) (fun r' c' hc' hne => by
    rcases r' with _ | _ | k' <;> (rcases (show c' = 0 ∨ c' = 1 ∨ c' = 2 ∨ c' = 3 ∨ c' = 4 by omega) with rfl | rfl | rfl | rfl | rfl) <;> simp [CQ, put, putA, putL] at hne ⊢ <;> simp [hne])
theorem cu_core_7 {cs : Nat → ClassId} {n : Nat} {ad : Nat → Nat} {σ : St} {k : Nat} {v : Int32} : va_up (CC cs n ad σ) (5 * (k + 2) + 0) (.inr (0, [.int (nI k), .ref (ad (5 * (k + 2) + 1)), .ref (ad (5 * (k + 2) + 2)), .int (σ.1 13 k 0), .int (σ.1 14 k 0), .int (σ.1 15 k 0), .int (σ.1 16 k 0), .int v])) = CC cs n ad (put σ 17 k 0 v) :=
  CC_up (k + 2) 0 (by omega) (by simp [CQ, put, putA, putL, upd] <;> (try funext j) <;> (try simp [upd])) (fun r' c' hc' hne => by
    rcases r' with _ | _ | k' <;> (rcases (show c' = 0 ∨ c' = 1 ∨ c' = 2 ∨ c' = 3 ∨ c' = 4 by omega) with rfl | rfl | rfl | rfl | rfl) <;> simp [CQ, put, putA, putL] at hne ⊢ <;> simp [hne])
theorem cu_tx_2 {cs : Nat → ClassId} {n : Nat} {ad : Nat → Nat} {σ : St} {k : Nat} {v : Int32} : va_up (CC cs n ad σ) (5 * (k + 2) + 2) (.inr (3, [.ref (ad (5 * (k + 2) + 3)), .ref (ad (5 * (k + 2) + 4)), .int v, .int (σ.1 19 k 0), .int (σ.1 20 k 0), .int (σ.1 21 k 0), .int (σ.1 22 k 0), .int (σ.1 23 k 0), .long (σ.2 k)])) = CC cs n ad (put σ 18 k 0 v) :=
  CC_up (k + 2) 2 (by omega) (by simp [CQ, put, putA, putL, upd] <;> (try funext j) <;> (try simp [upd])) (fun r' c' hc' hne => by
    rcases r' with _ | _ | k' <;> (rcases (show c' = 0 ∨ c' = 1 ∨ c' = 2 ∨ c' = 3 ∨ c' = 4 by omega) with rfl | rfl | rfl | rfl | rfl) <;> simp [CQ, put, putA, putL] at hne ⊢ <;> simp [hne])
theorem cu_tx_3 {cs : Nat → ClassId} {n : Nat} {ad : Nat → Nat} {σ : St} {k : Nat} {v : Int32} : va_up (CC cs n ad σ) (5 * (k + 2) + 2) (.inr (3, [.ref (ad (5 * (k + 2) + 3)), .ref (ad (5 * (k + 2) + 4)), .int (σ.1 18 k 0), .int v, .int (σ.1 20 k 0), .int (σ.1 21 k 0), .int (σ.1 22 k 0), .int (σ.1 23 k 0), .long (σ.2 k)])) = CC cs n ad (put σ 19 k 0 v) :=
  CC_up (k + 2) 2 (by omega) (by simp [CQ, put, putA, putL, upd] <;> (try funext j) <;> (try simp [upd])) (fun r' c' hc' hne => by
    rcases r' with _ | _ | k' <;> (rcases (show c' = 0 ∨ c' = 1 ∨ c' = 2 ∨ c' = 3 ∨ c' = 4 by omega) with rfl | rfl | rfl | rfl | rfl) <;> simp [CQ, put, putA, putL] at hne ⊢ <;> simp [hne])
theorem cu_tx_4 {cs : Nat → ClassId} {n : Nat} {ad : Nat → Nat} {σ : St} {k : Nat} {v : Int32} : va_up (CC cs n ad σ) (5 * (k + 2) + 2) (.inr (3, [.ref (ad (5 * (k + 2) + 3)), .ref (ad (5 * (k + 2) + 4)), .int (σ.1 18 k 0), .int (σ.1 19 k 0), .int v, .int (σ.1 21 k 0), .int (σ.1 22 k 0), .int (σ.1 23 k 0), .long (σ.2 k)])) = CC cs n ad (put σ 20 k 0 v) :=
  CC_up (k + 2) 2 (by omega) (by simp [CQ, put, putA, putL, upd] <;> (try funext j) <;> (try simp [upd])) (fun r' c' hc' hne => by
    rcases r' with _ | _ | k' <;> (rcases (show c' = 0 ∨ c' = 1 ∨ c' = 2 ∨ c' = 3 ∨ c' = 4 by omega) with rfl | rfl | rfl | rfl | rfl) <;> simp [CQ, put, putA, putL] at hne ⊢ <;> simp [hne])
theorem cu_tx_5 {cs : Nat → ClassId} {n : Nat} {ad : Nat → Nat} {σ : St} {k : Nat} {v : Int32} : va_up (CC cs n ad σ) (5 * (k + 2) + 2) (.inr (3, [.ref (ad (5 * (k + 2) + 3)), .ref (ad (5 * (k + 2) + 4)), .int (σ.1 18 k 0), .int (σ.1 19 k 0), .int (σ.1 20 k 0), .int v, .int (σ.1 22 k 0), .int (σ.1 23 k 0), .long (σ.2 k)])) = CC cs n ad (put σ 21 k 0 v) :=
  CC_up (k + 2) 2 (by omega) (by simp [CQ, put, putA, putL, upd] <;> (try funext j) <;> (try simp [upd])) (fun r' c' hc' hne => by
    rcases r' with _ | _ | k' <;> (rcases (show c' = 0 ∨ c' = 1 ∨ c' = 2 ∨ c' = 3 ∨ c' = 4 by omega) with rfl | rfl | rfl | rfl | rfl) <;> simp [CQ, put, putA, putL] at hne ⊢ <;> simp [hne])
theorem cu_tx_6 {cs : Nat → ClassId} {n : Nat} {ad : Nat → Nat} {σ : St} {k : Nat} {v : Int32} : va_up (CC cs n ad σ) (5 * (k + 2) + 2) (.inr (3, [.ref (ad (5 * (k + 2) + 3)), .ref (ad (5 * (k + 2) + 4)), .int (σ.1 18 k 0), .int (σ.1 19 k 0), .int (σ.1 20 k 0), .int (σ.1 21 k 0), .int v, .int (σ.1 23 k 0), .long (σ.2 k)])) = CC cs n ad (put σ 22 k 0 v) :=
  CC_up (k + 2) 2 (by omega) (by simp [CQ, put, putA, putL, upd] <;> (try funext j) <;> (try simp [upd])) (fun r' c' hc' hne => by
    rcases r' with _ | _ | k' <;> (rcases (show c' = 0 ∨ c' = 1 ∨ c' = 2 ∨ c' = 3 ∨ c' = 4 by omega) with rfl | rfl | rfl | rfl | rfl) <;> simp [CQ, put, putA, putL] at hne ⊢ <;> simp [hne])
theorem cu_tx_7 {cs : Nat → ClassId} {n : Nat} {ad : Nat → Nat} {σ : St} {k : Nat} {v : Int32} : va_up (CC cs n ad σ) (5 * (k + 2) + 2) (.inr (3, [.ref (ad (5 * (k + 2) + 3)), .ref (ad (5 * (k + 2) + 4)), .int (σ.1 18 k 0), .int (σ.1 19 k 0), .int (σ.1 20 k 0), .int (σ.1 21 k 0), .int (σ.1 22 k 0), .int v, .long (σ.2 k)])) = CC cs n ad (put σ 23 k 0 v) :=
  CC_up (k + 2) 2 (by omega) (by simp [CQ, put, putA, putL, upd] <;> (try funext j) <;> (try simp [upd])) (fun r' c' hc' hne => by
    rcases r' with _ | _ | k' <;> (rcases (show c' = 0 ∨ c' = 1 ∨ c' = 2 ∨ c' = 3 ∨ c' = 4 by omega) with rfl | rfl | rfl | rfl | rfl) <;> simp [CQ, put, putA, putL] at hne ⊢ <;> simp [hne])
theorem cu_tx_8 {cs : Nat → ClassId} {n : Nat} {ad : Nat → Nat} {σ : St} {k : Nat} {v : Int64} : va_up (CC cs n ad σ) (5 * (k + 2) + 2) (.inr (3, [.ref (ad (5 * (k + 2) + 3)), .ref (ad (5 * (k + 2) + 4)), .int (σ.1 18 k 0), .int (σ.1 19 k 0), .int (σ.1 20 k 0), .int (σ.1 21 k 0), .int (σ.1 22 k 0), .int (σ.1 23 k 0), .long v])) = CC cs n ad (putL σ k v) :=
  CC_up (k + 2) 2 (by omega) (by simp [CQ, put, putA, putL, upd] <;> (try funext j) <;> (try simp [upd])) (fun r' c' hc' hne => by
    rcases r' with _ | _ | k' <;> (rcases (show c' = 0 ∨ c' = 1 ∨ c' = 2 ∨ c' = 3 ∨ c' = 4 by omega) with rfl | rfl | rfl | rfl | rfl) <;> simp [CQ, put, putA, putL] at hne ⊢ <;> simp [hne])
theorem cu_mem {cs : Nat → ClassId} {n : Nat} {ad : Nat → Nat} {σ : St} {j0 : Nat} {v : Int32} : va_up (CC cs n ad σ) (5 * 0 + 2) (.inl (cs 0, 64, .inl (upd (fun j => σ.1 0 0 j) j0 v))) = CC cs n ad (put σ 0 0 j0 v) :=
  CC_up 0 2 (by omega) (by simp [CQ, put, putA, putL, upd] <;> (try funext j) <;> (try simp [upd])) (fun r' c' hc' hne => by
    rcases r' with _ | _ | k' <;> (rcases (show c' = 0 ∨ c' = 1 ∨ c' = 2 ∨ c' = 3 ∨ c' = 4 by omega) with rfl | rfl | rfl | rfl | rfl) <;> simp [CQ, put, putA, putL] at hne ⊢)
theorem cu_memA {cs : Nat → ClassId} {n : Nat} {ad : Nat → Nat} {σ : St} {g : Nat → Int32} : va_up (CC cs n ad σ) (5 * 0 + 2) (.inl (cs 0, 64, .inl g)) = CC cs n ad (putA σ 0 0 g) :=
  CC_up 0 2 (by omega) (by simp [CQ, put, putA, putL, upd] <;> (try funext j) <;> (try simp [upd])) (fun r' c' hc' hne => by
    rcases r' with _ | _ | k' <;> (rcases (show c' = 0 ∨ c' = 1 ∨ c' = 2 ∨ c' = 3 ∨ c' = 4 by omega) with rfl | rfl | rfl | rfl | rfl) <;> simp [CQ, put, putA, putL] at hne ⊢)
theorem cu_ops {cs : Nat → ClassId} {n : Nat} {ad : Nat → Nat} {σ : St} {j0 : Nat} {v : Int32} : va_up (CC cs n ad σ) (5 * 1 + 0) (.inl (cs 0, 80, .inl (upd (fun j => σ.1 1 0 j) j0 v))) = CC cs n ad (put σ 1 0 j0 v) :=
  CC_up 1 0 (by omega) (by simp [CQ, put, putA, putL, upd] <;> (try funext j) <;> (try simp [upd])) (fun r' c' hc' hne => by
    rcases r' with _ | _ | k' <;> (rcases (show c' = 0 ∨ c' = 1 ∨ c' = 2 ∨ c' = 3 ∨ c' = 4 by omega) with rfl | rfl | rfl | rfl | rfl) <;> simp [CQ, put, putA, putL] at hne ⊢)
theorem cu_opsA {cs : Nat → ClassId} {n : Nat} {ad : Nat → Nat} {σ : St} {g : Nat → Int32} : va_up (CC cs n ad σ) (5 * 1 + 0) (.inl (cs 0, 80, .inl g)) = CC cs n ad (putA σ 1 0 g) :=
  CC_up 1 0 (by omega) (by simp [CQ, put, putA, putL, upd] <;> (try funext j) <;> (try simp [upd])) (fun r' c' hc' hne => by
    rcases r' with _ | _ | k' <;> (rcases (show c' = 0 ∨ c' = 1 ∨ c' = 2 ∨ c' = 3 ∨ c' = 4 by omega) with rfl | rfl | rfl | rfl | rfl) <;> simp [CQ, put, putA, putL] at hne ⊢)
theorem cu_pa {cs : Nat → ClassId} {n : Nat} {ad : Nat → Nat} {σ : St} {j0 : Nat} {v : Int32} : va_up (CC cs n ad σ) (5 * 1 + 1) (.inl (cs 0, 80, .inl (upd (fun j => σ.1 2 0 j) j0 v))) = CC cs n ad (put σ 2 0 j0 v) :=
  CC_up 1 1 (by omega) (by simp [CQ, put, putA, putL, upd] <;> (try funext j) <;> (try simp [upd])) (fun r' c' hc' hne => by
    rcases r' with _ | _ | k' <;> (rcases (show c' = 0 ∨ c' = 1 ∨ c' = 2 ∨ c' = 3 ∨ c' = 4 by omega) with rfl | rfl | rfl | rfl | rfl) <;> simp [CQ, put, putA, putL] at hne ⊢)
theorem cu_paA {cs : Nat → ClassId} {n : Nat} {ad : Nat → Nat} {σ : St} {g : Nat → Int32} : va_up (CC cs n ad σ) (5 * 1 + 1) (.inl (cs 0, 80, .inl g)) = CC cs n ad (putA σ 2 0 g) :=
  CC_up 1 1 (by omega) (by simp [CQ, put, putA, putL, upd] <;> (try funext j) <;> (try simp [upd])) (fun r' c' hc' hne => by
    rcases r' with _ | _ | k' <;> (rcases (show c' = 0 ∨ c' = 1 ∨ c' = 2 ∨ c' = 3 ∨ c' = 4 by omega) with rfl | rfl | rfl | rfl | rfl) <;> simp [CQ, put, putA, putL] at hne ⊢)
theorem cu_pb {cs : Nat → ClassId} {n : Nat} {ad : Nat → Nat} {σ : St} {j0 : Nat} {v : Int32} : va_up (CC cs n ad σ) (5 * 1 + 2) (.inl (cs 0, 80, .inl (upd (fun j => σ.1 3 0 j) j0 v))) = CC cs n ad (put σ 3 0 j0 v) :=
  CC_up 1 2 (by omega) (by simp [CQ, put, putA, putL, upd] <;> (try funext j) <;> (try simp [upd])) (fun r' c' hc' hne => by
    rcases r' with _ | _ | k' <;> (rcases (show c' = 0 ∨ c' = 1 ∨ c' = 2 ∨ c' = 3 ∨ c' = 4 by omega) with rfl | rfl | rfl | rfl | rfl) <;> simp [CQ, put, putA, putL] at hne ⊢)
theorem cu_pbA {cs : Nat → ClassId} {n : Nat} {ad : Nat → Nat} {σ : St} {g : Nat → Int32} : va_up (CC cs n ad σ) (5 * 1 + 2) (.inl (cs 0, 80, .inl g)) = CC cs n ad (putA σ 3 0 g) :=
  CC_up 1 2 (by omega) (by simp [CQ, put, putA, putL, upd] <;> (try funext j) <;> (try simp [upd])) (fun r' c' hc' hne => by
    rcases r' with _ | _ | k' <;> (rcases (show c' = 0 ∨ c' = 1 ∨ c' = 2 ∨ c' = 3 ∨ c' = 4 by omega) with rfl | rfl | rfl | rfl | rfl) <;> simp [CQ, put, putA, putL] at hne ⊢)
theorem cu_pc {cs : Nat → ClassId} {n : Nat} {ad : Nat → Nat} {σ : St} {j0 : Nat} {v : Int32} : va_up (CC cs n ad σ) (5 * 1 + 3) (.inl (cs 0, 80, .inl (upd (fun j => σ.1 4 0 j) j0 v))) = CC cs n ad (put σ 4 0 j0 v) :=
  CC_up 1 3 (by omega) (by simp [CQ, put, putA, putL, upd] <;> (try funext j) <;> (try simp [upd])) (fun r' c' hc' hne => by
    rcases r' with _ | _ | k' <;> (rcases (show c' = 0 ∨ c' = 1 ∨ c' = 2 ∨ c' = 3 ∨ c' = 4 by omega) with rfl | rfl | rfl | rfl | rfl) <;> simp [CQ, put, putA, putL] at hne ⊢)
theorem cu_pcA {cs : Nat → ClassId} {n : Nat} {ad : Nat → Nat} {σ : St} {g : Nat → Int32} : va_up (CC cs n ad σ) (5 * 1 + 3) (.inl (cs 0, 80, .inl g)) = CC cs n ad (putA σ 4 0 g) :=
  CC_up 1 3 (by omega) (by simp [CQ, put, putA, putL, upd] <;> (try funext j) <;> (try simp [upd])) (fun r' c' hc' hne => by
    rcases r' with _ | _ | k' <;> (rcases (show c' = 0 ∨ c' = 1 ∨ c' = 2 ∨ c' = 3 ∨ c' = 4 by omega) with rfl | rfl | rfl | rfl | rfl) <;> simp [CQ, put, putA, putL] at hne ⊢)
theorem cu_fld {cs : Nat → ClassId} {n : Nat} {ad : Nat → Nat} {σ : St} {j0 : Nat} {v : Int32} : va_up (CC cs n ad σ) (5 * 1 + 4) (.inl (cs 0, 400, .inl (upd (fun j => σ.1 6 0 j) j0 v))) = CC cs n ad (put σ 6 0 j0 v) :=
  CC_up 1 4 (by omega) (by simp [CQ, put, putA, putL, upd] <;> (try funext j) <;> (try simp [upd])) (fun r' c' hc' hne => by
    rcases r' with _ | _ | k' <;> (rcases (show c' = 0 ∨ c' = 1 ∨ c' = 2 ∨ c' = 3 ∨ c' = 4 by omega) with rfl | rfl | rfl | rfl | rfl) <;> simp [CQ, put, putA, putL] at hne ⊢)
theorem cu_fldA {cs : Nat → ClassId} {n : Nat} {ad : Nat → Nat} {σ : St} {g : Nat → Int32} : va_up (CC cs n ad σ) (5 * 1 + 4) (.inl (cs 0, 400, .inl g)) = CC cs n ad (putA σ 6 0 g) :=
  CC_up 1 4 (by omega) (by simp [CQ, put, putA, putL, upd] <;> (try funext j) <;> (try simp [upd])) (fun r' c' hc' hne => by
    rcases r' with _ | _ | k' <;> (rcases (show c' = 0 ∨ c' = 1 ∨ c' = 2 ∨ c' = 3 ∨ c' = 4 by omega) with rfl | rfl | rfl | rfl | rfl) <;> simp [CQ, put, putA, putL] at hne ⊢)
theorem cu_regs {cs : Nat → ClassId} {n : Nat} {ad : Nat → Nat} {σ : St} {k : Nat} {j0 : Nat} {v : Int32} : va_up (CC cs n ad σ) (5 * (k + 2) + 1) (.inl (cs 0, 8, .inl (upd (fun j => σ.1 10 k j) j0 v))) = CC cs n ad (put σ 10 k j0 v) :=
  CC_up (k + 2) 1 (by omega) (by simp [CQ, put, putA, putL, upd] <;> (try funext j) <;> (try simp [upd])) (fun r' c' hc' hne => by
    rcases r' with _ | _ | k' <;> (rcases (show c' = 0 ∨ c' = 1 ∨ c' = 2 ∨ c' = 3 ∨ c' = 4 by omega) with rfl | rfl | rfl | rfl | rfl) <;> simp [CQ, put, putA, putL] at hne ⊢ <;> simp [hne])
theorem cu_regsA {cs : Nat → ClassId} {n : Nat} {ad : Nat → Nat} {σ : St} {k : Nat} {g : Nat → Int32} : va_up (CC cs n ad σ) (5 * (k + 2) + 1) (.inl (cs 0, 8, .inl g)) = CC cs n ad (putA σ 10 k g) :=
  CC_up (k + 2) 1 (by omega) (by simp [CQ, put, putA, putL, upd] <;> (try funext j) <;> (try simp [upd])) (fun r' c' hc' hne => by
    rcases r' with _ | _ | k' <;> (rcases (show c' = 0 ∨ c' = 1 ∨ c' = 2 ∨ c' = 3 ∨ c' = 4 by omega) with rfl | rfl | rfl | rfl | rfl) <;> simp [CQ, put, putA, putL] at hne ⊢ <;> simp [hne])
theorem cu_kept {cs : Nat → ClassId} {n : Nat} {ad : Nat → Nat} {σ : St} {k : Nat} {j0 : Nat} {v : Int32} : va_up (CC cs n ad σ) (5 * (k + 2) + 3) (.inl (cs 0, 8, .inl (upd (fun j => σ.1 11 k j) j0 v))) = CC cs n ad (put σ 11 k j0 v) :=
  CC_up (k + 2) 3 (by omega) (by simp [CQ, put, putA, putL, upd] <;> (try funext j) <;> (try simp [upd])) (fun r' c' hc' hne => by
    rcases r' with _ | _ | k' <;> (rcases (show c' = 0 ∨ c' = 1 ∨ c' = 2 ∨ c' = 3 ∨ c' = 4 by omega) with rfl | rfl | rfl | rfl | rfl) <;> simp [CQ, put, putA, putL] at hne ⊢ <;> simp [hne])
theorem cu_keptA {cs : Nat → ClassId} {n : Nat} {ad : Nat → Nat} {σ : St} {k : Nat} {g : Nat → Int32} : va_up (CC cs n ad σ) (5 * (k + 2) + 3) (.inl (cs 0, 8, .inl g)) = CC cs n ad (putA σ 11 k g) :=
  CC_up (k + 2) 3 (by omega) (by simp [CQ, put, putA, putL, upd] <;> (try funext j) <;> (try simp [upd])) (fun r' c' hc' hne => by
    rcases r' with _ | _ | k' <;> (rcases (show c' = 0 ∨ c' = 1 ∨ c' = 2 ∨ c' = 3 ∨ c' = 4 by omega) with rfl | rfl | rfl | rfl | rfl) <;> simp [CQ, put, putA, putL] at hne ⊢ <;> simp [hne])
theorem cu_stw {cs : Nat → ClassId} {n : Nat} {ad : Nat → Nat} {σ : St} {k : Nat} {j0 : Nat} {v : Int32} : va_up (CC cs n ad σ) (5 * (k + 2) + 4) (.inl (cs 0, 64, .inl (upd (fun j => σ.1 12 k j) j0 v))) = CC cs n ad (put σ 12 k j0 v) :=
  CC_up (k + 2) 4 (by omega) (by simp [CQ, put, putA, putL, upd] <;> (try funext j) <;> (try simp [upd])) (fun r' c' hc' hne => by
    rcases r' with _ | _ | k' <;> (rcases (show c' = 0 ∨ c' = 1 ∨ c' = 2 ∨ c' = 3 ∨ c' = 4 by omega) with rfl | rfl | rfl | rfl | rfl) <;> simp [CQ, put, putA, putL] at hne ⊢ <;> simp [hne])
theorem cu_stwA {cs : Nat → ClassId} {n : Nat} {ad : Nat → Nat} {σ : St} {k : Nat} {g : Nat → Int32} : va_up (CC cs n ad σ) (5 * (k + 2) + 4) (.inl (cs 0, 64, .inl g)) = CC cs n ad (putA σ 12 k g) :=
  CC_up (k + 2) 4 (by omega) (by simp [CQ, put, putA, putL, upd] <;> (try funext j) <;> (try simp [upd])) (fun r' c' hc' hne => by
    rcases r' with _ | _ | k' <;> (rcases (show c' = 0 ∨ c' = 1 ∨ c' = 2 ∨ c' = 3 ∨ c' = 4 by omega) with rfl | rfl | rfl | rfl | rfl) <;> simp [CQ, put, putA, putL] at hne ⊢ <;> simp [hne])
/-- the reference's cells: its object (what it has thrown, its next place), then its arrays -/
def CR (cs : Nat → ClassId) (n : Nat) (ad : Nat → Nat) (th nx : Int32) (σ : St) (i : Nat) : va_E := match i with
  | 0 => .inr (5, [.int th, .int (nI n), .int (σ.1 27 0 0), .int (σ.1 28 0 0), .ref (ad 1), .int (σ.1 5 0 0), .ref (ad 2), .ref (ad 3), .ref (ad 4), .ref (ad 5), .ref (ad 6), .ref (ad 7), .ref (ad 8), .ref (ad 9), .ref (ad 10), .ref (ad 11), .ref (ad 12), .ref (ad 13), .ref (ad 14), .ref (ad 15), .ref (ad 16), .ref (ad 17), .ref (ad 18), .ref (ad 19), .ref (ad 20), .int (σ.1 9 0 0), .int (σ.1 7 0 0), .ref (ad 21), .int nx])
  | 1 => .inl (cs 0, 64, .inl (fun j => σ.1 0 0 j))
  | 2 => .inl (cs 0, 80, .inl (fun j => σ.1 1 0 j))
  | 3 => .inl (cs 0, 80, .inl (fun j => σ.1 2 0 j))
  | 4 => .inl (cs 0, 80, .inl (fun j => σ.1 3 0 j))
  | 5 => .inl (cs 0, 80, .inl (fun j => σ.1 4 0 j))
  | 6 => .inl (cs 0, 4, .inl (fun k => σ.1 13 k 0))
  | 7 => .inl (cs 3, 4, .inl (fun k => σ.1 14 k 0))
  | 8 => .inl (cs 0, 4, .inl (fun k => σ.1 15 k 0))
  | 9 => .inl (cs 0, 32, .inl (fun i => σ.1 10 (i / 8) (i % 8)))
  | 10 => .inl (cs 0, 4, .inl (fun k => σ.1 18 k 0))
  | 11 => .inl (cs 0, 4, .inl (fun k => σ.1 19 k 0))
  | 12 => .inl (cs 0, 4, .inl (fun k => σ.1 20 k 0))
  | 13 => .inl (cs 0, 4, .inl (fun k => σ.1 21 k 0))
  | 14 => .inl (cs 0, 32, .inl (fun i => σ.1 11 (i / 8) (i % 8)))
  | 15 => .inl (cs 0, 4, .inl (fun k => σ.1 22 k 0))
  | 16 => .inl (cs 0, 4, .inl (fun k => σ.1 23 k 0))
  | 17 => .inl (cs 2, 4, .inr (.inl (fun k => σ.2 k)))
  | 18 => .inl (cs 0, 256, .inl (fun i => σ.1 12 (i / 64) (i % 64)))
  | 19 => .inl (cs 0, 4, .inl (fun k => σ.1 16 k 0))
  | 20 => .inl (cs 0, 4, .inl (fun k => σ.1 17 k 0))
  | _ => .inl (cs 0, 400, .inl (fun j => σ.1 24 0 j))
theorem cr_obj {cs : Nat → ClassId} {n : Nat} {ad : Nat → Nat} {th nx : Int32} {σ : St} : (FW 22 ad (CR cs n ad th nx σ))[0]? = some (ad 0, .inr (5, [.int th, .int (nI n), .int (σ.1 27 0 0), .int (σ.1 28 0 0), .ref (ad 1), .int (σ.1 5 0 0), .ref (ad 2), .ref (ad 3), .ref (ad 4), .ref (ad 5), .ref (ad 6), .ref (ad 7), .ref (ad 8), .ref (ad 9), .ref (ad 10), .ref (ad 11), .ref (ad 12), .ref (ad 13), .ref (ad 14), .ref (ad 15), .ref (ad 16), .ref (ad 17), .ref (ad 18), .ref (ad 19), .ref (ad 20), .int (σ.1 9 0 0), .int (σ.1 7 0 0), .ref (ad 21), .int nx])) := FW_get (by omega) rfl
theorem cr_mem {cs : Nat → ClassId} {n : Nat} {ad : Nat → Nat} {th nx : Int32} {σ : St} : (FW 22 ad (CR cs n ad th nx σ))[1]? = some (ad 1, .inl (cs 0, 64, .inl (fun j => σ.1 0 0 j))) := FW_get (by omega) rfl
theorem cr_ops {cs : Nat → ClassId} {n : Nat} {ad : Nat → Nat} {th nx : Int32} {σ : St} : (FW 22 ad (CR cs n ad th nx σ))[2]? = some (ad 2, .inl (cs 0, 80, .inl (fun j => σ.1 1 0 j))) := FW_get (by omega) rfl
theorem cr_as {cs : Nat → ClassId} {n : Nat} {ad : Nat → Nat} {th nx : Int32} {σ : St} : (FW 22 ad (CR cs n ad th nx σ))[3]? = some (ad 3, .inl (cs 0, 80, .inl (fun j => σ.1 2 0 j))) := FW_get (by omega) rfl
theorem cr_bs {cs : Nat → ClassId} {n : Nat} {ad : Nat → Nat} {th nx : Int32} {σ : St} : (FW 22 ad (CR cs n ad th nx σ))[4]? = some (ad 4, .inl (cs 0, 80, .inl (fun j => σ.1 3 0 j))) := FW_get (by omega) rfl
theorem cr_cs {cs : Nat → ClassId} {n : Nat} {ad : Nat → Nat} {th nx : Int32} {σ : St} : (FW 22 ad (CR cs n ad th nx σ))[5]? = some (ad 5, .inl (cs 0, 80, .inl (fun j => σ.1 4 0 j))) := FW_get (by omega) rfl
theorem cr_places {cs : Nat → ClassId} {n : Nat} {ad : Nat → Nat} {th nx : Int32} {σ : St} : (FW 22 ad (CR cs n ad th nx σ))[6]? = some (ad 6, .inl (cs 0, 4, .inl (fun k => σ.1 13 k 0))) := FW_get (by omega) rfl
theorem cr_ended {cs : Nat → ClassId} {n : Nat} {ad : Nat → Nat} {th nx : Int32} {σ : St} : (FW 22 ad (CR cs n ad th nx σ))[7]? = some (ad 7, .inl (cs 3, 4, .inl (fun k => σ.1 14 k 0))) := FW_get (by omega) rfl
theorem cr_retired {cs : Nat → ClassId} {n : Nat} {ad : Nat → Nat} {th nx : Int32} {σ : St} : (FW 22 ad (CR cs n ad th nx σ))[8]? = some (ad 8, .inl (cs 0, 4, .inl (fun k => σ.1 15 k 0))) := FW_get (by omega) rfl
theorem cr_registers {cs : Nat → ClassId} {n : Nat} {ad : Nat → Nat} {th nx : Int32} {σ : St} : (FW 22 ad (CR cs n ad th nx σ))[9]? = some (ad 9, .inl (cs 0, 32, .inl (fun i => σ.1 10 (i / 8) (i % 8)))) := FW_get (by omega) rfl
theorem cr_depths {cs : Nat → ClassId} {n : Nat} {ad : Nat → Nat} {th nx : Int32} {σ : St} : (FW 22 ad (CR cs n ad th nx σ))[10]? = some (ad 10, .inl (cs 0, 4, .inl (fun k => σ.1 18 k 0))) := FW_get (by omega) rfl
theorem cr_ages {cs : Nat → ClassId} {n : Nat} {ad : Nat → Nat} {th nx : Int32} {σ : St} : (FW 22 ad (CR cs n ad th nx σ))[11]? = some (ad 11, .inl (cs 0, 4, .inl (fun k => σ.1 19 k 0))) := FW_get (by omega) rfl
theorem cr_begins {cs : Nat → ClassId} {n : Nat} {ad : Nat → Nat} {th nx : Int32} {σ : St} : (FW 22 ad (CR cs n ad th nx σ))[12]? = some (ad 12, .inl (cs 0, 4, .inl (fun k => σ.1 20 k 0))) := FW_get (by omega) rfl
theorem cr_returns {cs : Nat → ClassId} {n : Nat} {ad : Nat → Nat} {th nx : Int32} {σ : St} : (FW 22 ad (CR cs n ad th nx σ))[13]? = some (ad 13, .inl (cs 0, 4, .inl (fun k => σ.1 21 k 0))) := FW_get (by omega) rfl
theorem cr_kept {cs : Nat → ClassId} {n : Nat} {ad : Nat → Nat} {th nx : Int32} {σ : St} : (FW 22 ad (CR cs n ad th nx σ))[14]? = some (ad 14, .inl (cs 0, 32, .inl (fun i => σ.1 11 (i / 8) (i % 8)))) := FW_get (by omega) rfl
theorem cr_reads {cs : Nat → ClassId} {n : Nat} {ad : Nat → Nat} {th nx : Int32} {σ : St} : (FW 22 ad (CR cs n ad th nx σ))[15]? = some (ad 15, .inl (cs 0, 4, .inl (fun k => σ.1 22 k 0))) := FW_get (by omega) rfl
theorem cr_writes {cs : Nat → ClassId} {n : Nat} {ad : Nat → Nat} {th nx : Int32} {σ : St} : (FW 22 ad (CR cs n ad th nx σ))[16]? = some (ad 16, .inl (cs 0, 4, .inl (fun k => σ.1 23 k 0))) := FW_get (by omega) rfl
theorem cr_stores {cs : Nat → ClassId} {n : Nat} {ad : Nat → Nat} {th nx : Int32} {σ : St} : (FW 22 ad (CR cs n ad th nx σ))[17]? = some (ad 17, .inl (cs 2, 4, .inr (.inl (fun k => σ.2 k)))) := FW_get (by omega) rfl
theorem cr_stored {cs : Nat → ClassId} {n : Nat} {ad : Nat → Nat} {th nx : Int32} {σ : St} : (FW 22 ad (CR cs n ad th nx σ))[18]? = some (ad 18, .inl (cs 0, 256, .inl (fun i => σ.1 12 (i / 64) (i % 64)))) := FW_get (by omega) rfl
theorem cr_committed {cs : Nat → ClassId} {n : Nat} {ad : Nat → Nat} {th nx : Int32} {σ : St} : (FW 22 ad (CR cs n ad th nx σ))[19]? = some (ad 19, .inl (cs 0, 4, .inl (fun k => σ.1 16 k 0))) := FW_get (by omega) rfl
theorem cr_broken {cs : Nat → ClassId} {n : Nat} {ad : Nat → Nat} {th nx : Int32} {σ : St} : (FW 22 ad (CR cs n ad th nx σ))[20]? = some (ad 20, .inl (cs 0, 4, .inl (fun k => σ.1 17 k 0))) := FW_get (by omega) rfl
theorem cr_recs {cs : Nat → ClassId} {n : Nat} {ad : Nat → Nat} {th nx : Int32} {σ : St} : (FW 22 ad (CR cs n ad th nx σ))[21]? = some (ad 21, .inl (cs 0, 400, .inl (fun j => σ.1 24 0 j))) := FW_get (by omega) rfl
theorem CR_up {cs : Nat → ClassId} {n : Nat} {ad : Nat → Nat} {th nx th' nx' : Int32} {σ σ' : St} (i : Nat) {e : va_E} (h1 : CR cs n ad th' nx' σ' i = e) (h2 : ∀ j, j ≤ 21 → j ≠ i → CR cs n ad th' nx' σ' j = CR cs n ad th nx σ j) (h3 : i ≤ 21) {H : Heap} {D : va_G} (hP : va_P D vwCl ((FW 22 ad (CR cs n ad th nx σ)).set i (ad i, e)) H) : va_P D vwCl (FW 22 ad (CR cs n ad th' nx' σ')) H := by
  rw [FW_set rfl] at hP
  rw [FW_at] at hP ⊢
  intro j hj
  have h := hP j hj
  by_cases hji : j = i
  · subst hji
    rw [va_up_self] at h
    rw [h1]; exact h
  · rw [va_up_ne _ _ hji] at h
    rw [h2 j (by omega) hji]; exact h
theorem cru_th {cs : Nat → ClassId} {n : Nat} {ad : Nat → Nat} {th nx : Int32} {σ : St} {v : Int32}  {H : Heap} {D : va_G} (hP : va_P D vwCl ((FW 22 ad (CR cs n ad th nx σ)).set 0 (ad 0, .inr (5, [.int v, .int (nI n), .int (σ.1 27 0 0), .int (σ.1 28 0 0), .ref (ad 1), .int (σ.1 5 0 0), .ref (ad 2), .ref (ad 3), .ref (ad 4), .ref (ad 5), .ref (ad 6), .ref (ad 7), .ref (ad 8), .ref (ad 9), .ref (ad 10), .ref (ad 11), .ref (ad 12), .ref (ad 13), .ref (ad 14), .ref (ad 15), .ref (ad 16), .ref (ad 17), .ref (ad 18), .ref (ad 19), .ref (ad 20), .int (σ.1 9 0 0), .int (σ.1 7 0 0), .ref (ad 21), .int nx]))) H) : va_P D vwCl (FW 22 ad (CR cs n ad v nx (σ))) H :=
  CR_up 0 (rfl) (fun j hj hne => by
    match j, hj, hne with
    | 0, _, h => exact absurd rfl h
    | 1, _, _ => first | rfl | (simp [CR, put, putA, putL]; done)
    | 2, _, _ => first | rfl | (simp [CR, put, putA, putL]; done)
    | 3, _, _ => first | rfl | (simp [CR, put, putA, putL]; done)
    | 4, _, _ => first | rfl | (simp [CR, put, putA, putL]; done)
    | 5, _, _ => first | rfl | (simp [CR, put, putA, putL]; done)
    | 6, _, _ => first | rfl | (simp [CR, put, putA, putL]; done)
    | 7, _, _ => first | rfl | (simp [CR, put, putA, putL]; done)
    | 8, _, _ => first | rfl | (simp [CR, put, putA, putL]; done)
    | 9, _, _ => first | rfl | (simp [CR, put, putA, putL]; done)
    | 10, _, _ => first | rfl | (simp [CR, put, putA, putL]; done)
    | 11, _, _ => first | rfl | (simp [CR, put, putA, putL]; done)
    | 12, _, _ => first | rfl | (simp [CR, put, putA, putL]; done)
    | 13, _, _ => first | rfl | (simp [CR, put, putA, putL]; done)
    | 14, _, _ => first | rfl | (simp [CR, put, putA, putL]; done)
    | 15, _, _ => first | rfl | (simp [CR, put, putA, putL]; done)
    | 16, _, _ => first | rfl | (simp [CR, put, putA, putL]; done)
    | 17, _, _ => first | rfl | (simp [CR, put, putA, putL]; done)
    | 18, _, _ => first | rfl | (simp [CR, put, putA, putL]; done)
    | 19, _, _ => first | rfl | (simp [CR, put, putA, putL]; done)
    | 20, _, _ => first | rfl | (simp [CR, put, putA, putL]; done)
    | 21, _, _ => first | rfl | (simp [CR, put, putA, putL]; done)
    | q + 22, hq, _ => omega) (by omega) hP
theorem cru_nx {cs : Nat → ClassId} {n : Nat} {ad : Nat → Nat} {th nx : Int32} {σ : St} {v : Int32}  {H : Heap} {D : va_G} (hP : va_P D vwCl ((FW 22 ad (CR cs n ad th nx σ)).set 0 (ad 0, .inr (5, [.int th, .int (nI n), .int (σ.1 27 0 0), .int (σ.1 28 0 0), .ref (ad 1), .int (σ.1 5 0 0), .ref (ad 2), .ref (ad 3), .ref (ad 4), .ref (ad 5), .ref (ad 6), .ref (ad 7), .ref (ad 8), .ref (ad 9), .ref (ad 10), .ref (ad 11), .ref (ad 12), .ref (ad 13), .ref (ad 14), .ref (ad 15), .ref (ad 16), .ref (ad 17), .ref (ad 18), .ref (ad 19), .ref (ad 20), .int (σ.1 9 0 0), .int (σ.1 7 0 0), .ref (ad 21), .int v]))) H) : va_P D vwCl (FW 22 ad (CR cs n ad th v (σ))) H :=
  CR_up 0 (rfl) (fun j hj hne => by
    match j, hj, hne with
    | 0, _, h => exact absurd rfl h
    | 1, _, _ => first | rfl | (simp [CR, put, putA, putL]; done)
    | 2, _, _ => first | rfl | (simp [CR, put, putA, putL]; done)
    | 3, _, _ => first | rfl | (simp [CR, put, putA, putL]; done)
    | 4, _, _ => first | rfl | (simp [CR, put, putA, putL]; done)
    | 5, _, _ => first | rfl | (simp [CR, put, putA, putL]; done)
    | 6, _, _ => first | rfl | (simp [CR, put, putA, putL]; done)
    | 7, _, _ => first | rfl | (simp [CR, put, putA, putL]; done)
    | 8, _, _ => first | rfl | (simp [CR, put, putA, putL]; done)
    | 9, _, _ => first | rfl | (simp [CR, put, putA, putL]; done)
    | 10, _, _ => first | rfl | (simp [CR, put, putA, putL]; done)
    | 11, _, _ => first | rfl | (simp [CR, put, putA, putL]; done)
    | 12, _, _ => first | rfl | (simp [CR, put, putA, putL]; done)
    | 13, _, _ => first | rfl | (simp [CR, put, putA, putL]; done)
    | 14, _, _ => first | rfl | (simp [CR, put, putA, putL]; done)
    | 15, _, _ => first | rfl | (simp [CR, put, putA, putL]; done)
    | 16, _, _ => first | rfl | (simp [CR, put, putA, putL]; done)
    | 17, _, _ => first | rfl | (simp [CR, put, putA, putL]; done)
    | 18, _, _ => first | rfl | (simp [CR, put, putA, putL]; done)
    | 19, _, _ => first | rfl | (simp [CR, put, putA, putL]; done)
    | 20, _, _ => first | rfl | (simp [CR, put, putA, putL]; done)
    | 21, _, _ => first | rfl | (simp [CR, put, putA, putL]; done)
    | q + 22, hq, _ => omega) (by omega) hP
theorem cru_obj_5 {cs : Nat → ClassId} {n : Nat} {ad : Nat → Nat} {th nx : Int32} {σ : St} {v : Int32}  {H : Heap} {D : va_G} (hP : va_P D vwCl ((FW 22 ad (CR cs n ad th nx σ)).set 0 (ad 0, .inr (5, [.int th, .int (nI n), .int (σ.1 27 0 0), .int (σ.1 28 0 0), .ref (ad 1), .int v, .ref (ad 2), .ref (ad 3), .ref (ad 4), .ref (ad 5), .ref (ad 6), .ref (ad 7), .ref (ad 8), .ref (ad 9), .ref (ad 10), .ref (ad 11), .ref (ad 12), .ref (ad 13), .ref (ad 14), .ref (ad 15), .ref (ad 16), .ref (ad 17), .ref (ad 18), .ref (ad 19), .ref (ad 20), .int (σ.1 9 0 0), .int (σ.1 7 0 0), .ref (ad 21), .int nx]))) H) : va_P D vwCl (FW 22 ad (CR cs n ad th nx (put σ 5 0 0 v))) H :=
  CR_up 0 (rfl) (fun j hj hne => by
    match j, hj, hne with
    | 0, _, h => exact absurd rfl h
    | 1, _, _ => first | rfl | (simp [CR, put, putA, putL]; done)
    | 2, _, _ => first | rfl | (simp [CR, put, putA, putL]; done)
    | 3, _, _ => first | rfl | (simp [CR, put, putA, putL]; done)
    | 4, _, _ => first | rfl | (simp [CR, put, putA, putL]; done)
    | 5, _, _ => first | rfl | (simp [CR, put, putA, putL]; done)
    | 6, _, _ => first | rfl | (simp [CR, put, putA, putL]; done)
    | 7, _, _ => first | rfl | (simp [CR, put, putA, putL]; done)
    | 8, _, _ => first | rfl | (simp [CR, put, putA, putL]; done)
    | 9, _, _ => first | rfl | (simp [CR, put, putA, putL]; done)
    | 10, _, _ => first | rfl | (simp [CR, put, putA, putL]; done)
    | 11, _, _ => first | rfl | (simp [CR, put, putA, putL]; done)
    | 12, _, _ => first | rfl | (simp [CR, put, putA, putL]; done)
    | 13, _, _ => first | rfl | (simp [CR, put, putA, putL]; done)
    | 14, _, _ => first | rfl | (simp [CR, put, putA, putL]; done)
    | 15, _, _ => first | rfl | (simp [CR, put, putA, putL]; done)
    | 16, _, _ => first | rfl | (simp [CR, put, putA, putL]; done)
    | 17, _, _ => first | rfl | (simp [CR, put, putA, putL]; done)
    | 18, _, _ => first | rfl | (simp [CR, put, putA, putL]; done)
    | 19, _, _ => first | rfl | (simp [CR, put, putA, putL]; done)
    | 20, _, _ => first | rfl | (simp [CR, put, putA, putL]; done)
    | 21, _, _ => first | rfl | (simp [CR, put, putA, putL]; done)
    | q + 22, hq, _ => omega) (by omega) hP
theorem cru_obj_25 {cs : Nat → ClassId} {n : Nat} {ad : Nat → Nat} {th nx : Int32} {σ : St} {v : Int32}  {H : Heap} {D : va_G} (hP : va_P D vwCl ((FW 22 ad (CR cs n ad th nx σ)).set 0 (ad 0, .inr (5, [.int th, .int (nI n), .int (σ.1 27 0 0), .int (σ.1 28 0 0), .ref (ad 1), .int (σ.1 5 0 0), .ref (ad 2), .ref (ad 3), .ref (ad 4), .ref (ad 5), .ref (ad 6), .ref (ad 7), .ref (ad 8), .ref (ad 9), .ref (ad 10), .ref (ad 11), .ref (ad 12), .ref (ad 13), .ref (ad 14), .ref (ad 15), .ref (ad 16), .ref (ad 17), .ref (ad 18), .ref (ad 19), .ref (ad 20), .int v, .int (σ.1 7 0 0), .ref (ad 21), .int nx]))) H) : va_P D vwCl (FW 22 ad (CR cs n ad th nx (put σ 9 0 0 v))) H :=
  CR_up 0 (rfl) (fun j hj hne => by
    match j, hj, hne with
    | 0, _, h => exact absurd rfl h
    | 1, _, _ => first | rfl | (simp [CR, put, putA, putL]; done)
    | 2, _, _ => first | rfl | (simp [CR, put, putA, putL]; done)
    | 3, _, _ => first | rfl | (simp [CR, put, putA, putL]; done)
    | 4, _, _ => first | rfl | (simp [CR, put, putA, putL]; done)
    | 5, _, _ => first | rfl | (simp [CR, put, putA, putL]; done)
    | 6, _, _ => first | rfl | (simp [CR, put, putA, putL]; done)
    | 7, _, _ => first | rfl | (simp [CR, put, putA, putL]; done)
    | 8, _, _ => first | rfl | (simp [CR, put, putA, putL]; done)
    | 9, _, _ => first | rfl | (simp [CR, put, putA, putL]; done)
    | 10, _, _ => first | rfl | (simp [CR, put, putA, putL]; done)
    | 11, _, _ => first | rfl | (simp [CR, put, putA, putL]; done)
    | 12, _, _ => first | rfl | (simp [CR, put, putA, putL]; done)
    | 13, _, _ => first | rfl | (simp [CR, put, putA, putL]; done)
    | 14, _, _ => first | rfl | (simp [CR, put, putA, putL]; done)
    | 15, _, _ => first | rfl | (simp [CR, put, putA, putL]; done)
    | 16, _, _ => first | rfl | (simp [CR, put, putA, putL]; done)
    | 17, _, _ => first | rfl | (simp [CR, put, putA, putL]; done)
    | 18, _, _ => first | rfl | (simp [CR, put, putA, putL]; done)
    | 19, _, _ => first | rfl | (simp [CR, put, putA, putL]; done)
    | 20, _, _ => first | rfl | (simp [CR, put, putA, putL]; done)
    | 21, _, _ => first | rfl | (simp [CR, put, putA, putL]; done)
    | q + 22, hq, _ => omega) (by omega) hP
theorem cru_obj_26 {cs : Nat → ClassId} {n : Nat} {ad : Nat → Nat} {th nx : Int32} {σ : St} {v : Int32}  {H : Heap} {D : va_G} (hP : va_P D vwCl ((FW 22 ad (CR cs n ad th nx σ)).set 0 (ad 0, .inr (5, [.int th, .int (nI n), .int (σ.1 27 0 0), .int (σ.1 28 0 0), .ref (ad 1), .int (σ.1 5 0 0), .ref (ad 2), .ref (ad 3), .ref (ad 4), .ref (ad 5), .ref (ad 6), .ref (ad 7), .ref (ad 8), .ref (ad 9), .ref (ad 10), .ref (ad 11), .ref (ad 12), .ref (ad 13), .ref (ad 14), .ref (ad 15), .ref (ad 16), .ref (ad 17), .ref (ad 18), .ref (ad 19), .ref (ad 20), .int (σ.1 9 0 0), .int v, .ref (ad 21), .int nx]))) H) : va_P D vwCl (FW 22 ad (CR cs n ad th nx (put σ 7 0 0 v))) H :=
  CR_up 0 (rfl) (fun j hj hne => by
    match j, hj, hne with
    | 0, _, h => exact absurd rfl h
    | 1, _, _ => first | rfl | (simp [CR, put, putA, putL]; done)
    | 2, _, _ => first | rfl | (simp [CR, put, putA, putL]; done)
    | 3, _, _ => first | rfl | (simp [CR, put, putA, putL]; done)
    | 4, _, _ => first | rfl | (simp [CR, put, putA, putL]; done)
    | 5, _, _ => first | rfl | (simp [CR, put, putA, putL]; done)
    | 6, _, _ => first | rfl | (simp [CR, put, putA, putL]; done)
    | 7, _, _ => first | rfl | (simp [CR, put, putA, putL]; done)
    | 8, _, _ => first | rfl | (simp [CR, put, putA, putL]; done)
    | 9, _, _ => first | rfl | (simp [CR, put, putA, putL]; done)
    | 10, _, _ => first | rfl | (simp [CR, put, putA, putL]; done)
    | 11, _, _ => first | rfl | (simp [CR, put, putA, putL]; done)
    | 12, _, _ => first | rfl | (simp [CR, put, putA, putL]; done)
    | 13, _, _ => first | rfl | (simp [CR, put, putA, putL]; done)
    | 14, _, _ => first | rfl | (simp [CR, put, putA, putL]; done)
    | 15, _, _ => first | rfl | (simp [CR, put, putA, putL]; done)
    | 16, _, _ => first | rfl | (simp [CR, put, putA, putL]; done)
    | 17, _, _ => first | rfl | (simp [CR, put, putA, putL]; done)
    | 18, _, _ => first | rfl | (simp [CR, put, putA, putL]; done)
    | 19, _, _ => first | rfl | (simp [CR, put, putA, putL]; done)
    | 20, _, _ => first | rfl | (simp [CR, put, putA, putL]; done)
    | 21, _, _ => first | rfl | (simp [CR, put, putA, putL]; done)
    | q + 22, hq, _ => omega) (by omega) hP
theorem cru_mem {cs : Nat → ClassId} {n : Nat} {ad : Nat → Nat} {th nx : Int32} {σ : St} {j0 : Nat} {v : Int32}  {H : Heap} {D : va_G} (hP : va_P D vwCl ((FW 22 ad (CR cs n ad th nx σ)).set 1 (ad 1, .inl (cs 0, 64, .inl (upd (fun j => σ.1 0 0 j) j0 v)))) H) : va_P D vwCl (FW 22 ad (CR cs n ad th nx (put σ 0 0 j0 v))) H :=
  CR_up 1 (by
    simp only [CR, put]
    congr 4
    funext q
    by_cases h : q = j0
    · subst h; simp [upd]
    · simp only [upd, if_neg h]; rw [if_neg (by omega)]) (fun j hj hne => by
    match j, hj, hne with
    | 0, _, _ => first | rfl | (simp [CR, put, putA, putL]; done)
    | 1, _, h => exact absurd rfl h
    | 2, _, _ => first | rfl | (simp [CR, put, putA, putL]; done)
    | 3, _, _ => first | rfl | (simp [CR, put, putA, putL]; done)
    | 4, _, _ => first | rfl | (simp [CR, put, putA, putL]; done)
    | 5, _, _ => first | rfl | (simp [CR, put, putA, putL]; done)
    | 6, _, _ => first | rfl | (simp [CR, put, putA, putL]; done)
    | 7, _, _ => first | rfl | (simp [CR, put, putA, putL]; done)
    | 8, _, _ => first | rfl | (simp [CR, put, putA, putL]; done)
    | 9, _, _ => first | rfl | (simp [CR, put, putA, putL]; done)
    | 10, _, _ => first | rfl | (simp [CR, put, putA, putL]; done)
    | 11, _, _ => first | rfl | (simp [CR, put, putA, putL]; done)
    | 12, _, _ => first | rfl | (simp [CR, put, putA, putL]; done)
    | 13, _, _ => first | rfl | (simp [CR, put, putA, putL]; done)
    | 14, _, _ => first | rfl | (simp [CR, put, putA, putL]; done)
    | 15, _, _ => first | rfl | (simp [CR, put, putA, putL]; done)
    | 16, _, _ => first | rfl | (simp [CR, put, putA, putL]; done)
    | 17, _, _ => first | rfl | (simp [CR, put, putA, putL]; done)
    | 18, _, _ => first | rfl | (simp [CR, put, putA, putL]; done)
    | 19, _, _ => first | rfl | (simp [CR, put, putA, putL]; done)
    | 20, _, _ => first | rfl | (simp [CR, put, putA, putL]; done)
    | 21, _, _ => first | rfl | (simp [CR, put, putA, putL]; done)
    | q + 22, hq, _ => omega) (by omega) hP
theorem cru_ops {cs : Nat → ClassId} {n : Nat} {ad : Nat → Nat} {th nx : Int32} {σ : St} {j0 : Nat} {v : Int32}  {H : Heap} {D : va_G} (hP : va_P D vwCl ((FW 22 ad (CR cs n ad th nx σ)).set 2 (ad 2, .inl (cs 0, 80, .inl (upd (fun j => σ.1 1 0 j) j0 v)))) H) : va_P D vwCl (FW 22 ad (CR cs n ad th nx (put σ 1 0 j0 v))) H :=
  CR_up 2 (by
    simp only [CR, put]
    congr 4
    funext q
    by_cases h : q = j0
    · subst h; simp [upd]
    · simp only [upd, if_neg h]; rw [if_neg (by omega)]) (fun j hj hne => by
    match j, hj, hne with
    | 0, _, _ => first | rfl | (simp [CR, put, putA, putL]; done)
    | 1, _, _ => first | rfl | (simp [CR, put, putA, putL]; done)
    | 2, _, h => exact absurd rfl h
    | 3, _, _ => first | rfl | (simp [CR, put, putA, putL]; done)
    | 4, _, _ => first | rfl | (simp [CR, put, putA, putL]; done)
    | 5, _, _ => first | rfl | (simp [CR, put, putA, putL]; done)
    | 6, _, _ => first | rfl | (simp [CR, put, putA, putL]; done)
    | 7, _, _ => first | rfl | (simp [CR, put, putA, putL]; done)
    | 8, _, _ => first | rfl | (simp [CR, put, putA, putL]; done)
    | 9, _, _ => first | rfl | (simp [CR, put, putA, putL]; done)
    | 10, _, _ => first | rfl | (simp [CR, put, putA, putL]; done)
    | 11, _, _ => first | rfl | (simp [CR, put, putA, putL]; done)
    | 12, _, _ => first | rfl | (simp [CR, put, putA, putL]; done)
    | 13, _, _ => first | rfl | (simp [CR, put, putA, putL]; done)
    | 14, _, _ => first | rfl | (simp [CR, put, putA, putL]; done)
    | 15, _, _ => first | rfl | (simp [CR, put, putA, putL]; done)
    | 16, _, _ => first | rfl | (simp [CR, put, putA, putL]; done)
    | 17, _, _ => first | rfl | (simp [CR, put, putA, putL]; done)
    | 18, _, _ => first | rfl | (simp [CR, put, putA, putL]; done)
    | 19, _, _ => first | rfl | (simp [CR, put, putA, putL]; done)
    | 20, _, _ => first | rfl | (simp [CR, put, putA, putL]; done)
    | 21, _, _ => first | rfl | (simp [CR, put, putA, putL]; done)
    | q + 22, hq, _ => omega) (by omega) hP
theorem cru_as {cs : Nat → ClassId} {n : Nat} {ad : Nat → Nat} {th nx : Int32} {σ : St} {j0 : Nat} {v : Int32}  {H : Heap} {D : va_G} (hP : va_P D vwCl ((FW 22 ad (CR cs n ad th nx σ)).set 3 (ad 3, .inl (cs 0, 80, .inl (upd (fun j => σ.1 2 0 j) j0 v)))) H) : va_P D vwCl (FW 22 ad (CR cs n ad th nx (put σ 2 0 j0 v))) H :=
  CR_up 3 (by
    simp only [CR, put]
    congr 4
    funext q
    by_cases h : q = j0
    · subst h; simp [upd]
    · simp only [upd, if_neg h]; rw [if_neg (by omega)]) (fun j hj hne => by
    match j, hj, hne with
    | 0, _, _ => first | rfl | (simp [CR, put, putA, putL]; done)
    | 1, _, _ => first | rfl | (simp [CR, put, putA, putL]; done)
    | 2, _, _ => first | rfl | (simp [CR, put, putA, putL]; done)
    | 3, _, h => exact absurd rfl h
    | 4, _, _ => first | rfl | (simp [CR, put, putA, putL]; done)
    | 5, _, _ => first | rfl | (simp [CR, put, putA, putL]; done)
    | 6, _, _ => first | rfl | (simp [CR, put, putA, putL]; done)
    | 7, _, _ => first | rfl | (simp [CR, put, putA, putL]; done)
    | 8, _, _ => first | rfl | (simp [CR, put, putA, putL]; done)
    | 9, _, _ => first | rfl | (simp [CR, put, putA, putL]; done)
    | 10, _, _ => first | rfl | (simp [CR, put, putA, putL]; done)
    | 11, _, _ => first | rfl | (simp [CR, put, putA, putL]; done)
    | 12, _, _ => first | rfl | (simp [CR, put, putA, putL]; done)
    | 13, _, _ => first | rfl | (simp [CR, put, putA, putL]; done)
    | 14, _, _ => first | rfl | (simp [CR, put, putA, putL]; done)
    | 15, _, _ => first | rfl | (simp [CR, put, putA, putL]; done)
    | 16, _, _ => first | rfl | (simp [CR, put, putA, putL]; done)
    | 17, _, _ => first | rfl | (simp [CR, put, putA, putL]; done)
    | 18, _, _ => first | rfl | (simp [CR, put, putA, putL]; done)
    | 19, _, _ => first | rfl | (simp [CR, put, putA, putL]; done)
    | 20, _, _ => first | rfl | (simp [CR, put, putA, putL]; done)
    | 21, _, _ => first | rfl | (simp [CR, put, putA, putL]; done)
    | q + 22, hq, _ => omega) (by omega) hP
theorem cru_bs {cs : Nat → ClassId} {n : Nat} {ad : Nat → Nat} {th nx : Int32} {σ : St} {j0 : Nat} {v : Int32}  {H : Heap} {D : va_G} (hP : va_P D vwCl ((FW 22 ad (CR cs n ad th nx σ)).set 4 (ad 4, .inl (cs 0, 80, .inl (upd (fun j => σ.1 3 0 j) j0 v)))) H) : va_P D vwCl (FW 22 ad (CR cs n ad th nx (put σ 3 0 j0 v))) H :=
  CR_up 4 (by
    simp only [CR, put]
    congr 4
    funext q
    by_cases h : q = j0
    · subst h; simp [upd]
    · simp only [upd, if_neg h]; rw [if_neg (by omega)]) (fun j hj hne => by
    match j, hj, hne with
    | 0, _, _ => first | rfl | (simp [CR, put, putA, putL]; done)
    | 1, _, _ => first | rfl | (simp [CR, put, putA, putL]; done)
    | 2, _, _ => first | rfl | (simp [CR, put, putA, putL]; done)
    | 3, _, _ => first | rfl | (simp [CR, put, putA, putL]; done)
    | 4, _, h => exact absurd rfl h
    | 5, _, _ => first | rfl | (simp [CR, put, putA, putL]; done)
    | 6, _, _ => first | rfl | (simp [CR, put, putA, putL]; done)
    | 7, _, _ => first | rfl | (simp [CR, put, putA, putL]; done)
    | 8, _, _ => first | rfl | (simp [CR, put, putA, putL]; done)
    | 9, _, _ => first | rfl | (simp [CR, put, putA, putL]; done)
    | 10, _, _ => first | rfl | (simp [CR, put, putA, putL]; done)
    | 11, _, _ => first | rfl | (simp [CR, put, putA, putL]; done)
    | 12, _, _ => first | rfl | (simp [CR, put, putA, putL]; done)
    | 13, _, _ => first | rfl | (simp [CR, put, putA, putL]; done)
    | 14, _, _ => first | rfl | (simp [CR, put, putA, putL]; done)
    | 15, _, _ => first | rfl | (simp [CR, put, putA, putL]; done)
    | 16, _, _ => first | rfl | (simp [CR, put, putA, putL]; done)
    | 17, _, _ => first | rfl | (simp [CR, put, putA, putL]; done)
    | 18, _, _ => first | rfl | (simp [CR, put, putA, putL]; done)
    | 19, _, _ => first | rfl | (simp [CR, put, putA, putL]; done)
    | 20, _, _ => first | rfl | (simp [CR, put, putA, putL]; done)
    | 21, _, _ => first | rfl | (simp [CR, put, putA, putL]; done)
    | q + 22, hq, _ => omega) (by omega) hP
theorem cru_cs {cs : Nat → ClassId} {n : Nat} {ad : Nat → Nat} {th nx : Int32} {σ : St} {j0 : Nat} {v : Int32}  {H : Heap} {D : va_G} (hP : va_P D vwCl ((FW 22 ad (CR cs n ad th nx σ)).set 5 (ad 5, .inl (cs 0, 80, .inl (upd (fun j => σ.1 4 0 j) j0 v)))) H) : va_P D vwCl (FW 22 ad (CR cs n ad th nx (put σ 4 0 j0 v))) H :=
  CR_up 5 (by
    simp only [CR, put]
    congr 4
    funext q
    by_cases h : q = j0
    · subst h; simp [upd]
    · simp only [upd, if_neg h]; rw [if_neg (by omega)]) (fun j hj hne => by
    match j, hj, hne with
    | 0, _, _ => first | rfl | (simp [CR, put, putA, putL]; done)
    | 1, _, _ => first | rfl | (simp [CR, put, putA, putL]; done)
    | 2, _, _ => first | rfl | (simp [CR, put, putA, putL]; done)
    | 3, _, _ => first | rfl | (simp [CR, put, putA, putL]; done)
    | 4, _, _ => first | rfl | (simp [CR, put, putA, putL]; done)
    | 5, _, h => exact absurd rfl h
    | 6, _, _ => first | rfl | (simp [CR, put, putA, putL]; done)
    | 7, _, _ => first | rfl | (simp [CR, put, putA, putL]; done)
    | 8, _, _ => first | rfl | (simp [CR, put, putA, putL]; done)
    | 9, _, _ => first | rfl | (simp [CR, put, putA, putL]; done)
    | 10, _, _ => first | rfl | (simp [CR, put, putA, putL]; done)
    | 11, _, _ => first | rfl | (simp [CR, put, putA, putL]; done)
    | 12, _, _ => first | rfl | (simp [CR, put, putA, putL]; done)
    | 13, _, _ => first | rfl | (simp [CR, put, putA, putL]; done)
    | 14, _, _ => first | rfl | (simp [CR, put, putA, putL]; done)
    | 15, _, _ => first | rfl | (simp [CR, put, putA, putL]; done)
    | 16, _, _ => first | rfl | (simp [CR, put, putA, putL]; done)
    | 17, _, _ => first | rfl | (simp [CR, put, putA, putL]; done)
    | 18, _, _ => first | rfl | (simp [CR, put, putA, putL]; done)
    | 19, _, _ => first | rfl | (simp [CR, put, putA, putL]; done)
    | 20, _, _ => first | rfl | (simp [CR, put, putA, putL]; done)
    | 21, _, _ => first | rfl | (simp [CR, put, putA, putL]; done)
    | q + 22, hq, _ => omega) (by omega) hP
theorem cru_places {cs : Nat → ClassId} {n : Nat} {ad : Nat → Nat} {th nx : Int32} {σ : St} {j0 : Nat} {v : Int32}  {H : Heap} {D : va_G} (hP : va_P D vwCl ((FW 22 ad (CR cs n ad th nx σ)).set 6 (ad 6, .inl (cs 0, 4, .inl (upd (fun k => σ.1 13 k 0) j0 v)))) H) : va_P D vwCl (FW 22 ad (CR cs n ad th nx (put σ 13 j0 0 v))) H :=
  CR_up 6 (by
    simp only [CR, put]
    congr 4
    funext q
    by_cases h : q = j0
    · subst h; simp [upd]
    · simp only [upd, if_neg h]; rw [if_neg (by omega)]) (fun j hj hne => by
    match j, hj, hne with
    | 0, _, _ => first | rfl | (simp [CR, put, putA, putL]; done)
    | 1, _, _ => first | rfl | (simp [CR, put, putA, putL]; done)
    | 2, _, _ => first | rfl | (simp [CR, put, putA, putL]; done)
    | 3, _, _ => first | rfl | (simp [CR, put, putA, putL]; done)
    | 4, _, _ => first | rfl | (simp [CR, put, putA, putL]; done)
    | 5, _, _ => first | rfl | (simp [CR, put, putA, putL]; done)
    | 6, _, h => exact absurd rfl h
    | 7, _, _ => first | rfl | (simp [CR, put, putA, putL]; done)
    | 8, _, _ => first | rfl | (simp [CR, put, putA, putL]; done)
    | 9, _, _ => first | rfl | (simp [CR, put, putA, putL]; done)
    | 10, _, _ => first | rfl | (simp [CR, put, putA, putL]; done)
    | 11, _, _ => first | rfl | (simp [CR, put, putA, putL]; done)
    | 12, _, _ => first | rfl | (simp [CR, put, putA, putL]; done)
    | 13, _, _ => first | rfl | (simp [CR, put, putA, putL]; done)
    | 14, _, _ => first | rfl | (simp [CR, put, putA, putL]; done)
    | 15, _, _ => first | rfl | (simp [CR, put, putA, putL]; done)
    | 16, _, _ => first | rfl | (simp [CR, put, putA, putL]; done)
    | 17, _, _ => first | rfl | (simp [CR, put, putA, putL]; done)
    | 18, _, _ => first | rfl | (simp [CR, put, putA, putL]; done)
    | 19, _, _ => first | rfl | (simp [CR, put, putA, putL]; done)
    | 20, _, _ => first | rfl | (simp [CR, put, putA, putL]; done)
    | 21, _, _ => first | rfl | (simp [CR, put, putA, putL]; done)
    | q + 22, hq, _ => omega) (by omega) hP
theorem cru_ended {cs : Nat → ClassId} {n : Nat} {ad : Nat → Nat} {th nx : Int32} {σ : St} {j0 : Nat} {v : Int32}  {H : Heap} {D : va_G} (hP : va_P D vwCl ((FW 22 ad (CR cs n ad th nx σ)).set 7 (ad 7, .inl (cs 3, 4, .inl (upd (fun k => σ.1 14 k 0) j0 v)))) H) : va_P D vwCl (FW 22 ad (CR cs n ad th nx (put σ 14 j0 0 v))) H :=
  CR_up 7 (by
    simp only [CR, put]
    congr 4
    funext q
    by_cases h : q = j0
    · subst h; simp [upd]
    · simp only [upd, if_neg h]; rw [if_neg (by omega)]) (fun j hj hne => by
    match j, hj, hne with
    | 0, _, _ => first | rfl | (simp [CR, put, putA, putL]; done)
    | 1, _, _ => first | rfl | (simp [CR, put, putA, putL]; done)
    | 2, _, _ => first | rfl | (simp [CR, put, putA, putL]; done)
    | 3, _, _ => first | rfl | (simp [CR, put, putA, putL]; done)
    | 4, _, _ => first | rfl | (simp [CR, put, putA, putL]; done)
    | 5, _, _ => first | rfl | (simp [CR, put, putA, putL]; done)
    | 6, _, _ => first | rfl | (simp [CR, put, putA, putL]; done)
    | 7, _, h => exact absurd rfl h
    | 8, _, _ => first | rfl | (simp [CR, put, putA, putL]; done)
    | 9, _, _ => first | rfl | (simp [CR, put, putA, putL]; done)
    | 10, _, _ => first | rfl | (simp [CR, put, putA, putL]; done)
    | 11, _, _ => first | rfl | (simp [CR, put, putA, putL]; done)
    | 12, _, _ => first | rfl | (simp [CR, put, putA, putL]; done)
    | 13, _, _ => first | rfl | (simp [CR, put, putA, putL]; done)
    | 14, _, _ => first | rfl | (simp [CR, put, putA, putL]; done)
    | 15, _, _ => first | rfl | (simp [CR, put, putA, putL]; done)
    | 16, _, _ => first | rfl | (simp [CR, put, putA, putL]; done)
    | 17, _, _ => first | rfl | (simp [CR, put, putA, putL]; done)
    | 18, _, _ => first | rfl | (simp [CR, put, putA, putL]; done)
    | 19, _, _ => first | rfl | (simp [CR, put, putA, putL]; done)
    | 20, _, _ => first | rfl | (simp [CR, put, putA, putL]; done)
    | 21, _, _ => first | rfl | (simp [CR, put, putA, putL]; done)
    | q + 22, hq, _ => omega) (by omega) hP
theorem cru_retired {cs : Nat → ClassId} {n : Nat} {ad : Nat → Nat} {th nx : Int32} {σ : St} {j0 : Nat} {v : Int32}  {H : Heap} {D : va_G} (hP : va_P D vwCl ((FW 22 ad (CR cs n ad th nx σ)).set 8 (ad 8, .inl (cs 0, 4, .inl (upd (fun k => σ.1 15 k 0) j0 v)))) H) : va_P D vwCl (FW 22 ad (CR cs n ad th nx (put σ 15 j0 0 v))) H :=
  CR_up 8 (by
    simp only [CR, put]
    congr 4
    funext q
    by_cases h : q = j0
    · subst h; simp [upd]
    · simp only [upd, if_neg h]; rw [if_neg (by omega)]) (fun j hj hne => by
    match j, hj, hne with
    | 0, _, _ => first | rfl | (simp [CR, put, putA, putL]; done)
    | 1, _, _ => first | rfl | (simp [CR, put, putA, putL]; done)
    | 2, _, _ => first | rfl | (simp [CR, put, putA, putL]; done)
    | 3, _, _ => first | rfl | (simp [CR, put, putA, putL]; done)
    | 4, _, _ => first | rfl | (simp [CR, put, putA, putL]; done)
    | 5, _, _ => first | rfl | (simp [CR, put, putA, putL]; done)
    | 6, _, _ => first | rfl | (simp [CR, put, putA, putL]; done)
    | 7, _, _ => first | rfl | (simp [CR, put, putA, putL]; done)
    | 8, _, h => exact absurd rfl h
    | 9, _, _ => first | rfl | (simp [CR, put, putA, putL]; done)
    | 10, _, _ => first | rfl | (simp [CR, put, putA, putL]; done)
    | 11, _, _ => first | rfl | (simp [CR, put, putA, putL]; done)
    | 12, _, _ => first | rfl | (simp [CR, put, putA, putL]; done)
    | 13, _, _ => first | rfl | (simp [CR, put, putA, putL]; done)
    | 14, _, _ => first | rfl | (simp [CR, put, putA, putL]; done)
    | 15, _, _ => first | rfl | (simp [CR, put, putA, putL]; done)
    | 16, _, _ => first | rfl | (simp [CR, put, putA, putL]; done)
    | 17, _, _ => first | rfl | (simp [CR, put, putA, putL]; done)
    | 18, _, _ => first | rfl | (simp [CR, put, putA, putL]; done)
    | 19, _, _ => first | rfl | (simp [CR, put, putA, putL]; done)
    | 20, _, _ => first | rfl | (simp [CR, put, putA, putL]; done)
    | 21, _, _ => first | rfl | (simp [CR, put, putA, putL]; done)
    | q + 22, hq, _ => omega) (by omega) hP
theorem cru_registers {cs : Nat → ClassId} {n : Nat} {ad : Nat → Nat} {th nx : Int32} {σ : St} {j0 : Nat} {v : Int32}  {H : Heap} {D : va_G} (hP : va_P D vwCl ((FW 22 ad (CR cs n ad th nx σ)).set 9 (ad 9, .inl (cs 0, 32, .inl (upd (fun i => σ.1 10 (i / 8) (i % 8)) j0 v)))) H) : va_P D vwCl (FW 22 ad (CR cs n ad th nx (put σ 10 (j0 / 8) (j0 % 8) v))) H :=
  CR_up 9 (by
    simp only [CR, put]
    congr 4
    funext q
    by_cases h : q = j0
    · subst h; simp [upd]
    · simp only [upd, if_neg h]; rw [if_neg (by omega)]) (fun j hj hne => by
    match j, hj, hne with
    | 0, _, _ => first | rfl | (simp [CR, put, putA, putL]; done)
    | 1, _, _ => first | rfl | (simp [CR, put, putA, putL]; done)
    | 2, _, _ => first | rfl | (simp [CR, put, putA, putL]; done)
    | 3, _, _ => first | rfl | (simp [CR, put, putA, putL]; done)
    | 4, _, _ => first | rfl | (simp [CR, put, putA, putL]; done)
    | 5, _, _ => first | rfl | (simp [CR, put, putA, putL]; done)
    | 6, _, _ => first | rfl | (simp [CR, put, putA, putL]; done)
    | 7, _, _ => first | rfl | (simp [CR, put, putA, putL]; done)
    | 8, _, _ => first | rfl | (simp [CR, put, putA, putL]; done)
    | 9, _, h => exact absurd rfl h
    | 10, _, _ => first | rfl | (simp [CR, put, putA, putL]; done)
    | 11, _, _ => first | rfl | (simp [CR, put, putA, putL]; done)
    | 12, _, _ => first | rfl | (simp [CR, put, putA, putL]; done)
    | 13, _, _ => first | rfl | (simp [CR, put, putA, putL]; done)
    | 14, _, _ => first | rfl | (simp [CR, put, putA, putL]; done)
    | 15, _, _ => first | rfl | (simp [CR, put, putA, putL]; done)
    | 16, _, _ => first | rfl | (simp [CR, put, putA, putL]; done)
    | 17, _, _ => first | rfl | (simp [CR, put, putA, putL]; done)
    | 18, _, _ => first | rfl | (simp [CR, put, putA, putL]; done)
    | 19, _, _ => first | rfl | (simp [CR, put, putA, putL]; done)
    | 20, _, _ => first | rfl | (simp [CR, put, putA, putL]; done)
    | 21, _, _ => first | rfl | (simp [CR, put, putA, putL]; done)
    | q + 22, hq, _ => omega) (by omega) hP
theorem cru_depths {cs : Nat → ClassId} {n : Nat} {ad : Nat → Nat} {th nx : Int32} {σ : St} {j0 : Nat} {v : Int32}  {H : Heap} {D : va_G} (hP : va_P D vwCl ((FW 22 ad (CR cs n ad th nx σ)).set 10 (ad 10, .inl (cs 0, 4, .inl (upd (fun k => σ.1 18 k 0) j0 v)))) H) : va_P D vwCl (FW 22 ad (CR cs n ad th nx (put σ 18 j0 0 v))) H :=
  CR_up 10 (by
    simp only [CR, put]
    congr 4
    funext q
    by_cases h : q = j0
    · subst h; simp [upd]
    · simp only [upd, if_neg h]; rw [if_neg (by omega)]) (fun j hj hne => by
    match j, hj, hne with
    | 0, _, _ => first | rfl | (simp [CR, put, putA, putL]; done)
    | 1, _, _ => first | rfl | (simp [CR, put, putA, putL]; done)
    | 2, _, _ => first | rfl | (simp [CR, put, putA, putL]; done)
    | 3, _, _ => first | rfl | (simp [CR, put, putA, putL]; done)
    | 4, _, _ => first | rfl | (simp [CR, put, putA, putL]; done)
    | 5, _, _ => first | rfl | (simp [CR, put, putA, putL]; done)
    | 6, _, _ => first | rfl | (simp [CR, put, putA, putL]; done)
    | 7, _, _ => first | rfl | (simp [CR, put, putA, putL]; done)
    | 8, _, _ => first | rfl | (simp [CR, put, putA, putL]; done)
    | 9, _, _ => first | rfl | (simp [CR, put, putA, putL]; done)
    | 10, _, h => exact absurd rfl h
    | 11, _, _ => first | rfl | (simp [CR, put, putA, putL]; done)
    | 12, _, _ => first | rfl | (simp [CR, put, putA, putL]; done)
    | 13, _, _ => first | rfl | (simp [CR, put, putA, putL]; done)
    | 14, _, _ => first | rfl | (simp [CR, put, putA, putL]; done)
    | 15, _, _ => first | rfl | (simp [CR, put, putA, putL]; done)
    | 16, _, _ => first | rfl | (simp [CR, put, putA, putL]; done)
    | 17, _, _ => first | rfl | (simp [CR, put, putA, putL]; done)
    | 18, _, _ => first | rfl | (simp [CR, put, putA, putL]; done)
    | 19, _, _ => first | rfl | (simp [CR, put, putA, putL]; done)
    | 20, _, _ => first | rfl | (simp [CR, put, putA, putL]; done)
    | 21, _, _ => first | rfl | (simp [CR, put, putA, putL]; done)
    | q + 22, hq, _ => omega) (by omega) hP
theorem cru_ages {cs : Nat → ClassId} {n : Nat} {ad : Nat → Nat} {th nx : Int32} {σ : St} {j0 : Nat} {v : Int32}  {H : Heap} {D : va_G} (hP : va_P D vwCl ((FW 22 ad (CR cs n ad th nx σ)).set 11 (ad 11, .inl (cs 0, 4, .inl (upd (fun k => σ.1 19 k 0) j0 v)))) H) : va_P D vwCl (FW 22 ad (CR cs n ad th nx (put σ 19 j0 0 v))) H :=
  CR_up 11 (by
    simp only [CR, put]
    congr 4
    funext q
    by_cases h : q = j0
    · subst h; simp [upd]
    · simp only [upd, if_neg h]; rw [if_neg (by omega)]) (fun j hj hne => by
    match j, hj, hne with
    | 0, _, _ => first | rfl | (simp [CR, put, putA, putL]; done)
    | 1, _, _ => first | rfl | (simp [CR, put, putA, putL]; done)
    | 2, _, _ => first | rfl | (simp [CR, put, putA, putL]; done)
    | 3, _, _ => first | rfl | (simp [CR, put, putA, putL]; done)
    | 4, _, _ => first | rfl | (simp [CR, put, putA, putL]; done)
    | 5, _, _ => first | rfl | (simp [CR, put, putA, putL]; done)
    | 6, _, _ => first | rfl | (simp [CR, put, putA, putL]; done)
    | 7, _, _ => first | rfl | (simp [CR, put, putA, putL]; done)
    | 8, _, _ => first | rfl | (simp [CR, put, putA, putL]; done)
    | 9, _, _ => first | rfl | (simp [CR, put, putA, putL]; done)
    | 10, _, _ => first | rfl | (simp [CR, put, putA, putL]; done)
    | 11, _, h => exact absurd rfl h
    | 12, _, _ => first | rfl | (simp [CR, put, putA, putL]; done)
    | 13, _, _ => first | rfl | (simp [CR, put, putA, putL]; done)
    | 14, _, _ => first | rfl | (simp [CR, put, putA, putL]; done)
    | 15, _, _ => first | rfl | (simp [CR, put, putA, putL]; done)
    | 16, _, _ => first | rfl | (simp [CR, put, putA, putL]; done)
    | 17, _, _ => first | rfl | (simp [CR, put, putA, putL]; done)
    | 18, _, _ => first | rfl | (simp [CR, put, putA, putL]; done)
    | 19, _, _ => first | rfl | (simp [CR, put, putA, putL]; done)
    | 20, _, _ => first | rfl | (simp [CR, put, putA, putL]; done)
    | 21, _, _ => first | rfl | (simp [CR, put, putA, putL]; done)
    | q + 22, hq, _ => omega) (by omega) hP
theorem cru_begins {cs : Nat → ClassId} {n : Nat} {ad : Nat → Nat} {th nx : Int32} {σ : St} {j0 : Nat} {v : Int32}  {H : Heap} {D : va_G} (hP : va_P D vwCl ((FW 22 ad (CR cs n ad th nx σ)).set 12 (ad 12, .inl (cs 0, 4, .inl (upd (fun k => σ.1 20 k 0) j0 v)))) H) : va_P D vwCl (FW 22 ad (CR cs n ad th nx (put σ 20 j0 0 v))) H :=
  CR_up 12 (by
    simp only [CR, put]
    congr 4
    funext q
    by_cases h : q = j0
    · subst h; simp [upd]
    · simp only [upd, if_neg h]; rw [if_neg (by omega)]) (fun j hj hne => by
    match j, hj, hne with
    | 0, _, _ => first | rfl | (simp [CR, put, putA, putL]; done)
    | 1, _, _ => first | rfl | (simp [CR, put, putA, putL]; done)
    | 2, _, _ => first | rfl | (simp [CR, put, putA, putL]; done)
    | 3, _, _ => first | rfl | (simp [CR, put, putA, putL]; done)
    | 4, _, _ => first | rfl | (simp [CR, put, putA, putL]; done)
    | 5, _, _ => first | rfl | (simp [CR, put, putA, putL]; done)
    | 6, _, _ => first | rfl | (simp [CR, put, putA, putL]; done)
    | 7, _, _ => first | rfl | (simp [CR, put, putA, putL]; done)
    | 8, _, _ => first | rfl | (simp [CR, put, putA, putL]; done)
    | 9, _, _ => first | rfl | (simp [CR, put, putA, putL]; done)
    | 10, _, _ => first | rfl | (simp [CR, put, putA, putL]; done)
    | 11, _, _ => first | rfl | (simp [CR, put, putA, putL]; done)
    | 12, _, h => exact absurd rfl h
    | 13, _, _ => first | rfl | (simp [CR, put, putA, putL]; done)
    | 14, _, _ => first | rfl | (simp [CR, put, putA, putL]; done)
    | 15, _, _ => first | rfl | (simp [CR, put, putA, putL]; done)
    | 16, _, _ => first | rfl | (simp [CR, put, putA, putL]; done)
    | 17, _, _ => first | rfl | (simp [CR, put, putA, putL]; done)
    | 18, _, _ => first | rfl | (simp [CR, put, putA, putL]; done)
    | 19, _, _ => first | rfl | (simp [CR, put, putA, putL]; done)
    | 20, _, _ => first | rfl | (simp [CR, put, putA, putL]; done)
    | 21, _, _ => first | rfl | (simp [CR, put, putA, putL]; done)
    | q + 22, hq, _ => omega) (by omega) hP
theorem cru_returns {cs : Nat → ClassId} {n : Nat} {ad : Nat → Nat} {th nx : Int32} {σ : St} {j0 : Nat} {v : Int32}  {H : Heap} {D : va_G} (hP : va_P D vwCl ((FW 22 ad (CR cs n ad th nx σ)).set 13 (ad 13, .inl (cs 0, 4, .inl (upd (fun k => σ.1 21 k 0) j0 v)))) H) : va_P D vwCl (FW 22 ad (CR cs n ad th nx (put σ 21 j0 0 v))) H :=
  CR_up 13 (by
    simp only [CR, put]
    congr 4
    funext q
    by_cases h : q = j0
    · subst h; simp [upd]
    · simp only [upd, if_neg h]; rw [if_neg (by omega)]) (fun j hj hne => by
    match j, hj, hne with
    | 0, _, _ => first | rfl | (simp [CR, put, putA, putL]; done)
    | 1, _, _ => first | rfl | (simp [CR, put, putA, putL]; done)
    | 2, _, _ => first | rfl | (simp [CR, put, putA, putL]; done)
    | 3, _, _ => first | rfl | (simp [CR, put, putA, putL]; done)
    | 4, _, _ => first | rfl | (simp [CR, put, putA, putL]; done)
    | 5, _, _ => first | rfl | (simp [CR, put, putA, putL]; done)
    | 6, _, _ => first | rfl | (simp [CR, put, putA, putL]; done)
    | 7, _, _ => first | rfl | (simp [CR, put, putA, putL]; done)
    | 8, _, _ => first | rfl | (simp [CR, put, putA, putL]; done)
    | 9, _, _ => first | rfl | (simp [CR, put, putA, putL]; done)
    | 10, _, _ => first | rfl | (simp [CR, put, putA, putL]; done)
    | 11, _, _ => first | rfl | (simp [CR, put, putA, putL]; done)
    | 12, _, _ => first | rfl | (simp [CR, put, putA, putL]; done)
    | 13, _, h => exact absurd rfl h
    | 14, _, _ => first | rfl | (simp [CR, put, putA, putL]; done)
    | 15, _, _ => first | rfl | (simp [CR, put, putA, putL]; done)
    | 16, _, _ => first | rfl | (simp [CR, put, putA, putL]; done)
    | 17, _, _ => first | rfl | (simp [CR, put, putA, putL]; done)
    | 18, _, _ => first | rfl | (simp [CR, put, putA, putL]; done)
    | 19, _, _ => first | rfl | (simp [CR, put, putA, putL]; done)
    | 20, _, _ => first | rfl | (simp [CR, put, putA, putL]; done)
    | 21, _, _ => first | rfl | (simp [CR, put, putA, putL]; done)
    | q + 22, hq, _ => omega) (by omega) hP
theorem cru_kept {cs : Nat → ClassId} {n : Nat} {ad : Nat → Nat} {th nx : Int32} {σ : St} {j0 : Nat} {v : Int32}  {H : Heap} {D : va_G} (hP : va_P D vwCl ((FW 22 ad (CR cs n ad th nx σ)).set 14 (ad 14, .inl (cs 0, 32, .inl (upd (fun i => σ.1 11 (i / 8) (i % 8)) j0 v)))) H) : va_P D vwCl (FW 22 ad (CR cs n ad th nx (put σ 11 (j0 / 8) (j0 % 8) v))) H :=
  CR_up 14 (by
    simp only [CR, put]
    congr 4
    funext q
    by_cases h : q = j0
    · subst h; simp [upd]
    · simp only [upd, if_neg h]; rw [if_neg (by omega)]) (fun j hj hne => by
    match j, hj, hne with
    | 0, _, _ => first | rfl | (simp [CR, put, putA, putL]; done)
    | 1, _, _ => first | rfl | (simp [CR, put, putA, putL]; done)
    | 2, _, _ => first | rfl | (simp [CR, put, putA, putL]; done)
    | 3, _, _ => first | rfl | (simp [CR, put, putA, putL]; done)
    | 4, _, _ => first | rfl | (simp [CR, put, putA, putL]; done)
    | 5, _, _ => first | rfl | (simp [CR, put, putA, putL]; done)
    | 6, _, _ => first | rfl | (simp [CR, put, putA, putL]; done)
    | 7, _, _ => first | rfl | (simp [CR, put, putA, putL]; done)
    | 8, _, _ => first | rfl | (simp [CR, put, putA, putL]; done)
    | 9, _, _ => first | rfl | (simp [CR, put, putA, putL]; done)
    | 10, _, _ => first | rfl | (simp [CR, put, putA, putL]; done)
    | 11, _, _ => first | rfl | (simp [CR, put, putA, putL]; done)
    | 12, _, _ => first | rfl | (simp [CR, put, putA, putL]; done)
    | 13, _, _ => first | rfl | (simp [CR, put, putA, putL]; done)
    | 14, _, h => exact absurd rfl h
    | 15, _, _ => first | rfl | (simp [CR, put, putA, putL]; done)
    | 16, _, _ => first | rfl | (simp [CR, put, putA, putL]; done)
    | 17, _, _ => first | rfl | (simp [CR, put, putA, putL]; done)
    | 18, _, _ => first | rfl | (simp [CR, put, putA, putL]; done)
    | 19, _, _ => first | rfl | (simp [CR, put, putA, putL]; done)
    | 20, _, _ => first | rfl | (simp [CR, put, putA, putL]; done)
    | 21, _, _ => first | rfl | (simp [CR, put, putA, putL]; done)
    | q + 22, hq, _ => omega) (by omega) hP
theorem cru_reads {cs : Nat → ClassId} {n : Nat} {ad : Nat → Nat} {th nx : Int32} {σ : St} {j0 : Nat} {v : Int32}  {H : Heap} {D : va_G} (hP : va_P D vwCl ((FW 22 ad (CR cs n ad th nx σ)).set 15 (ad 15, .inl (cs 0, 4, .inl (upd (fun k => σ.1 22 k 0) j0 v)))) H) : va_P D vwCl (FW 22 ad (CR cs n ad th nx (put σ 22 j0 0 v))) H :=
  CR_up 15 (by
    simp only [CR, put]
    congr 4
    funext q
    by_cases h : q = j0
    · subst h; simp [upd]
    · simp only [upd, if_neg h]; rw [if_neg (by omega)]) (fun j hj hne => by
    match j, hj, hne with
    | 0, _, _ => first | rfl | (simp [CR, put, putA, putL]; done)
    | 1, _, _ => first | rfl | (simp [CR, put, putA, putL]; done)
    | 2, _, _ => first | rfl | (simp [CR, put, putA, putL]; done)
    | 3, _, _ => first | rfl | (simp [CR, put, putA, putL]; done)
    | 4, _, _ => first | rfl | (simp [CR, put, putA, putL]; done)
    | 5, _, _ => first | rfl | (simp [CR, put, putA, putL]; done)
    | 6, _, _ => first | rfl | (simp [CR, put, putA, putL]; done)
    | 7, _, _ => first | rfl | (simp [CR, put, putA, putL]; done)
    | 8, _, _ => first | rfl | (simp [CR, put, putA, putL]; done)
    | 9, _, _ => first | rfl | (simp [CR, put, putA, putL]; done)
    | 10, _, _ => first | rfl | (simp [CR, put, putA, putL]; done)
    | 11, _, _ => first | rfl | (simp [CR, put, putA, putL]; done)
    | 12, _, _ => first | rfl | (simp [CR, put, putA, putL]; done)
    | 13, _, _ => first | rfl | (simp [CR, put, putA, putL]; done)
    | 14, _, _ => first | rfl | (simp [CR, put, putA, putL]; done)
    | 15, _, h => exact absurd rfl h
    | 16, _, _ => first | rfl | (simp [CR, put, putA, putL]; done)
    | 17, _, _ => first | rfl | (simp [CR, put, putA, putL]; done)
    | 18, _, _ => first | rfl | (simp [CR, put, putA, putL]; done)
    | 19, _, _ => first | rfl | (simp [CR, put, putA, putL]; done)
    | 20, _, _ => first | rfl | (simp [CR, put, putA, putL]; done)
    | 21, _, _ => first | rfl | (simp [CR, put, putA, putL]; done)
    | q + 22, hq, _ => omega) (by omega) hP
theorem cru_writes {cs : Nat → ClassId} {n : Nat} {ad : Nat → Nat} {th nx : Int32} {σ : St} {j0 : Nat} {v : Int32}  {H : Heap} {D : va_G} (hP : va_P D vwCl ((FW 22 ad (CR cs n ad th nx σ)).set 16 (ad 16, .inl (cs 0, 4, .inl (upd (fun k => σ.1 23 k 0) j0 v)))) H) : va_P D vwCl (FW 22 ad (CR cs n ad th nx (put σ 23 j0 0 v))) H :=
  CR_up 16 (by
    simp only [CR, put]
    congr 4
    funext q
    by_cases h : q = j0
    · subst h; simp [upd]
    · simp only [upd, if_neg h]; rw [if_neg (by omega)]) (fun j hj hne => by
    match j, hj, hne with
    | 0, _, _ => first | rfl | (simp [CR, put, putA, putL]; done)
    | 1, _, _ => first | rfl | (simp [CR, put, putA, putL]; done)
    | 2, _, _ => first | rfl | (simp [CR, put, putA, putL]; done)
    | 3, _, _ => first | rfl | (simp [CR, put, putA, putL]; done)
    | 4, _, _ => first | rfl | (simp [CR, put, putA, putL]; done)
    | 5, _, _ => first | rfl | (simp [CR, put, putA, putL]; done)
    | 6, _, _ => first | rfl | (simp [CR, put, putA, putL]; done)
    | 7, _, _ => first | rfl | (simp [CR, put, putA, putL]; done)
    | 8, _, _ => first | rfl | (simp [CR, put, putA, putL]; done)
    | 9, _, _ => first | rfl | (simp [CR, put, putA, putL]; done)
    | 10, _, _ => first | rfl | (simp [CR, put, putA, putL]; done)
    | 11, _, _ => first | rfl | (simp [CR, put, putA, putL]; done)
    | 12, _, _ => first | rfl | (simp [CR, put, putA, putL]; done)
    | 13, _, _ => first | rfl | (simp [CR, put, putA, putL]; done)
    | 14, _, _ => first | rfl | (simp [CR, put, putA, putL]; done)
    | 15, _, _ => first | rfl | (simp [CR, put, putA, putL]; done)
    | 16, _, h => exact absurd rfl h
    | 17, _, _ => first | rfl | (simp [CR, put, putA, putL]; done)
    | 18, _, _ => first | rfl | (simp [CR, put, putA, putL]; done)
    | 19, _, _ => first | rfl | (simp [CR, put, putA, putL]; done)
    | 20, _, _ => first | rfl | (simp [CR, put, putA, putL]; done)
    | 21, _, _ => first | rfl | (simp [CR, put, putA, putL]; done)
    | q + 22, hq, _ => omega) (by omega) hP
theorem cru_stores {cs : Nat → ClassId} {n : Nat} {ad : Nat → Nat} {th nx : Int32} {σ : St} {j0 : Nat} {v : Int64}  {H : Heap} {D : va_G} (hP : va_P D vwCl ((FW 22 ad (CR cs n ad th nx σ)).set 17 (ad 17, .inl (cs 2, 4, .inr (.inl (vp_updL (fun k => σ.2 k) j0 v))))) H) : va_P D vwCl (FW 22 ad (CR cs n ad th nx (putL σ j0 v))) H :=
  CR_up 17 (rfl) (fun j hj hne => by
    match j, hj, hne with
    | 0, _, _ => first | rfl | (simp [CR, put, putA, putL]; done)
    | 1, _, _ => first | rfl | (simp [CR, put, putA, putL]; done)
    | 2, _, _ => first | rfl | (simp [CR, put, putA, putL]; done)
    | 3, _, _ => first | rfl | (simp [CR, put, putA, putL]; done)
    | 4, _, _ => first | rfl | (simp [CR, put, putA, putL]; done)
    | 5, _, _ => first | rfl | (simp [CR, put, putA, putL]; done)
    | 6, _, _ => first | rfl | (simp [CR, put, putA, putL]; done)
    | 7, _, _ => first | rfl | (simp [CR, put, putA, putL]; done)
    | 8, _, _ => first | rfl | (simp [CR, put, putA, putL]; done)
    | 9, _, _ => first | rfl | (simp [CR, put, putA, putL]; done)
    | 10, _, _ => first | rfl | (simp [CR, put, putA, putL]; done)
    | 11, _, _ => first | rfl | (simp [CR, put, putA, putL]; done)
    | 12, _, _ => first | rfl | (simp [CR, put, putA, putL]; done)
    | 13, _, _ => first | rfl | (simp [CR, put, putA, putL]; done)
    | 14, _, _ => first | rfl | (simp [CR, put, putA, putL]; done)
    | 15, _, _ => first | rfl | (simp [CR, put, putA, putL]; done)
    | 16, _, _ => first | rfl | (simp [CR, put, putA, putL]; done)
    | 17, _, h => exact absurd rfl h
    | 18, _, _ => first | rfl | (simp [CR, put, putA, putL]; done)
    | 19, _, _ => first | rfl | (simp [CR, put, putA, putL]; done)
    | 20, _, _ => first | rfl | (simp [CR, put, putA, putL]; done)
    | 21, _, _ => first | rfl | (simp [CR, put, putA, putL]; done)
    | q + 22, hq, _ => omega) (by omega) hP
theorem cru_stored {cs : Nat → ClassId} {n : Nat} {ad : Nat → Nat} {th nx : Int32} {σ : St} {j0 : Nat} {v : Int32}  {H : Heap} {D : va_G} (hP : va_P D vwCl ((FW 22 ad (CR cs n ad th nx σ)).set 18 (ad 18, .inl (cs 0, 256, .inl (upd (fun i => σ.1 12 (i / 64) (i % 64)) j0 v)))) H) : va_P D vwCl (FW 22 ad (CR cs n ad th nx (put σ 12 (j0 / 64) (j0 % 64) v))) H :=
  CR_up 18 (by
    simp only [CR, put]
    congr 4
    funext q
    by_cases h : q = j0
    · subst h; simp [upd]
    · simp only [upd, if_neg h]; rw [if_neg (by omega)]) (fun j hj hne => by
    match j, hj, hne with
    | 0, _, _ => first | rfl | (simp [CR, put, putA, putL]; done)
    | 1, _, _ => first | rfl | (simp [CR, put, putA, putL]; done)
    | 2, _, _ => first | rfl | (simp [CR, put, putA, putL]; done)
    | 3, _, _ => first | rfl | (simp [CR, put, putA, putL]; done)
    | 4, _, _ => first | rfl | (simp [CR, put, putA, putL]; done)
    | 5, _, _ => first | rfl | (simp [CR, put, putA, putL]; done)
    | 6, _, _ => first | rfl | (simp [CR, put, putA, putL]; done)
    | 7, _, _ => first | rfl | (simp [CR, put, putA, putL]; done)
    | 8, _, _ => first | rfl | (simp [CR, put, putA, putL]; done)
    | 9, _, _ => first | rfl | (simp [CR, put, putA, putL]; done)
    | 10, _, _ => first | rfl | (simp [CR, put, putA, putL]; done)
    | 11, _, _ => first | rfl | (simp [CR, put, putA, putL]; done)
    | 12, _, _ => first | rfl | (simp [CR, put, putA, putL]; done)
    | 13, _, _ => first | rfl | (simp [CR, put, putA, putL]; done)
    | 14, _, _ => first | rfl | (simp [CR, put, putA, putL]; done)
    | 15, _, _ => first | rfl | (simp [CR, put, putA, putL]; done)
    | 16, _, _ => first | rfl | (simp [CR, put, putA, putL]; done)
    | 17, _, _ => first | rfl | (simp [CR, put, putA, putL]; done)
    | 18, _, h => exact absurd rfl h
    | 19, _, _ => first | rfl | (simp [CR, put, putA, putL]; done)
    | 20, _, _ => first | rfl | (simp [CR, put, putA, putL]; done)
    | 21, _, _ => first | rfl | (simp [CR, put, putA, putL]; done)
    | q + 22, hq, _ => omega) (by omega) hP
theorem cru_committed {cs : Nat → ClassId} {n : Nat} {ad : Nat → Nat} {th nx : Int32} {σ : St} {j0 : Nat} {v : Int32}  {H : Heap} {D : va_G} (hP : va_P D vwCl ((FW 22 ad (CR cs n ad th nx σ)).set 19 (ad 19, .inl (cs 0, 4, .inl (upd (fun k => σ.1 16 k 0) j0 v)))) H) : va_P D vwCl (FW 22 ad (CR cs n ad th nx (put σ 16 j0 0 v))) H :=
  CR_up 19 (by
    simp only [CR, put]
    congr 4
    funext q
    by_cases h : q = j0
    · subst h; simp [upd]
    · simp only [upd, if_neg h]; rw [if_neg (by omega)]) (fun j hj hne => by
    match j, hj, hne with
    | 0, _, _ => first | rfl | (simp [CR, put, putA, putL]; done)
    | 1, _, _ => first | rfl | (simp [CR, put, putA, putL]; done)
    | 2, _, _ => first | rfl | (simp [CR, put, putA, putL]; done)
    | 3, _, _ => first | rfl | (simp [CR, put, putA, putL]; done)
    | 4, _, _ => first | rfl | (simp [CR, put, putA, putL]; done)
    | 5, _, _ => first | rfl | (simp [CR, put, putA, putL]; done)
    | 6, _, _ => first | rfl | (simp [CR, put, putA, putL]; done)
    | 7, _, _ => first | rfl | (simp [CR, put, putA, putL]; done)
    | 8, _, _ => first | rfl | (simp [CR, put, putA, putL]; done)
    | 9, _, _ => first | rfl | (simp [CR, put, putA, putL]; done)
    | 10, _, _ => first | rfl | (simp [CR, put, putA, putL]; done)
    | 11, _, _ => first | rfl | (simp [CR, put, putA, putL]; done)
    | 12, _, _ => first | rfl | (simp [CR, put, putA, putL]; done)
    | 13, _, _ => first | rfl | (simp [CR, put, putA, putL]; done)
    | 14, _, _ => first | rfl | (simp [CR, put, putA, putL]; done)
    | 15, _, _ => first | rfl | (simp [CR, put, putA, putL]; done)
    | 16, _, _ => first | rfl | (simp [CR, put, putA, putL]; done)
    | 17, _, _ => first | rfl | (simp [CR, put, putA, putL]; done)
    | 18, _, _ => first | rfl | (simp [CR, put, putA, putL]; done)
    | 19, _, h => exact absurd rfl h
    | 20, _, _ => first | rfl | (simp [CR, put, putA, putL]; done)
    | 21, _, _ => first | rfl | (simp [CR, put, putA, putL]; done)
    | q + 22, hq, _ => omega) (by omega) hP
theorem cru_broken {cs : Nat → ClassId} {n : Nat} {ad : Nat → Nat} {th nx : Int32} {σ : St} {j0 : Nat} {v : Int32}  {H : Heap} {D : va_G} (hP : va_P D vwCl ((FW 22 ad (CR cs n ad th nx σ)).set 20 (ad 20, .inl (cs 0, 4, .inl (upd (fun k => σ.1 17 k 0) j0 v)))) H) : va_P D vwCl (FW 22 ad (CR cs n ad th nx (put σ 17 j0 0 v))) H :=
  CR_up 20 (by
    simp only [CR, put]
    congr 4
    funext q
    by_cases h : q = j0
    · subst h; simp [upd]
    · simp only [upd, if_neg h]; rw [if_neg (by omega)]) (fun j hj hne => by
    match j, hj, hne with
    | 0, _, _ => first | rfl | (simp [CR, put, putA, putL]; done)
    | 1, _, _ => first | rfl | (simp [CR, put, putA, putL]; done)
    | 2, _, _ => first | rfl | (simp [CR, put, putA, putL]; done)
    | 3, _, _ => first | rfl | (simp [CR, put, putA, putL]; done)
    | 4, _, _ => first | rfl | (simp [CR, put, putA, putL]; done)
    | 5, _, _ => first | rfl | (simp [CR, put, putA, putL]; done)
    | 6, _, _ => first | rfl | (simp [CR, put, putA, putL]; done)
    | 7, _, _ => first | rfl | (simp [CR, put, putA, putL]; done)
    | 8, _, _ => first | rfl | (simp [CR, put, putA, putL]; done)
    | 9, _, _ => first | rfl | (simp [CR, put, putA, putL]; done)
    | 10, _, _ => first | rfl | (simp [CR, put, putA, putL]; done)
    | 11, _, _ => first | rfl | (simp [CR, put, putA, putL]; done)
    | 12, _, _ => first | rfl | (simp [CR, put, putA, putL]; done)
    | 13, _, _ => first | rfl | (simp [CR, put, putA, putL]; done)
    | 14, _, _ => first | rfl | (simp [CR, put, putA, putL]; done)
    | 15, _, _ => first | rfl | (simp [CR, put, putA, putL]; done)
    | 16, _, _ => first | rfl | (simp [CR, put, putA, putL]; done)
    | 17, _, _ => first | rfl | (simp [CR, put, putA, putL]; done)
    | 18, _, _ => first | rfl | (simp [CR, put, putA, putL]; done)
    | 19, _, _ => first | rfl | (simp [CR, put, putA, putL]; done)
    | 20, _, h => exact absurd rfl h
    | 21, _, _ => first | rfl | (simp [CR, put, putA, putL]; done)
    | q + 22, hq, _ => omega) (by omega) hP
theorem cru_recs {cs : Nat → ClassId} {n : Nat} {ad : Nat → Nat} {th nx : Int32} {σ : St} {j0 : Nat} {v : Int32}  {H : Heap} {D : va_G} (hP : va_P D vwCl ((FW 22 ad (CR cs n ad th nx σ)).set 21 (ad 21, .inl (cs 0, 400, .inl (upd (fun j => σ.1 24 0 j) j0 v)))) H) : va_P D vwCl (FW 22 ad (CR cs n ad th nx (put σ 24 0 j0 v))) H :=
  CR_up 21 (by
    simp only [CR, put]
    congr 4
    funext q
    by_cases h : q = j0
    · subst h; simp [upd]
    · simp only [upd, if_neg h]; rw [if_neg (by omega)]) (fun j hj hne => by
    match j, hj, hne with
    | 0, _, _ => first | rfl | (simp [CR, put, putA, putL]; done)
    | 1, _, _ => first | rfl | (simp [CR, put, putA, putL]; done)
    | 2, _, _ => first | rfl | (simp [CR, put, putA, putL]; done)
    | 3, _, _ => first | rfl | (simp [CR, put, putA, putL]; done)
    | 4, _, _ => first | rfl | (simp [CR, put, putA, putL]; done)
    | 5, _, _ => first | rfl | (simp [CR, put, putA, putL]; done)
    | 6, _, _ => first | rfl | (simp [CR, put, putA, putL]; done)
    | 7, _, _ => first | rfl | (simp [CR, put, putA, putL]; done)
    | 8, _, _ => first | rfl | (simp [CR, put, putA, putL]; done)
    | 9, _, _ => first | rfl | (simp [CR, put, putA, putL]; done)
    | 10, _, _ => first | rfl | (simp [CR, put, putA, putL]; done)
    | 11, _, _ => first | rfl | (simp [CR, put, putA, putL]; done)
    | 12, _, _ => first | rfl | (simp [CR, put, putA, putL]; done)
    | 13, _, _ => first | rfl | (simp [CR, put, putA, putL]; done)
    | 14, _, _ => first | rfl | (simp [CR, put, putA, putL]; done)
    | 15, _, _ => first | rfl | (simp [CR, put, putA, putL]; done)
    | 16, _, _ => first | rfl | (simp [CR, put, putA, putL]; done)
    | 17, _, _ => first | rfl | (simp [CR, put, putA, putL]; done)
    | 18, _, _ => first | rfl | (simp [CR, put, putA, putL]; done)
    | 19, _, _ => first | rfl | (simp [CR, put, putA, putL]; done)
    | 20, _, _ => first | rfl | (simp [CR, put, putA, putL]; done)
    | 21, _, h => exact absurd rfl h
    | q + 22, hq, _ => omega) (by omega) hP
end
section
/-! what the calls do to the state, as functions: both classes are held against them -/
def bI (w : Bool) : Int32 := if w then 1 else 0
def iN (x : Int32) : Nat := x.toNatClampNeg
theorem iN_nI {n : Nat} (h : n < 2 ^ 31) : iN (nI n) = n := nI_clamp h
def tch (σ : St) (o ln : Nat) (w : Bool) : Bool := decide ((((if w then σ.1 22 o 0 ||| σ.1 23 o 0 else σ.1 23 o 0) >>> (nI ln &&& 31)) &&& 1) = 1)
def pClose (σ : St) (k : Nat) : St := putL (put (put (put (put σ 18 k 0 0) 19 k 0 0) 22 k 0 0) 23 k 0 0) k 0
def pAdd (σ : St) (a b c d : Int32) : St :=
  let o := iN (σ.1 8 0 0)
  let q := iN (σ.1 7 0 0)
  let row := (o + q) % 100 * 4
  let σ1 := putA σ 6 0 (upd (upd (upd (upd (fun j => σ.1 6 0 j) row a) (row + 1) b) (row + 2) c) (row + 3) d)
  let σ2 := if q < 100 then put σ1 7 0 0 (nI (q + 1)) else put σ1 8 0 0 (nI ((o + 1) % 100))
  let q' := if q < 100 then q else 99
  let g := if q < 100 then (fun j => σ.1 24 0 j) else (fun j => if j < 396 then σ.1 24 0 (j + 4) else σ.1 24 0 j)
  putA σ2 24 0 (upd (upd (upd (upd g (4 * q') a) (4 * q' + 1) b) (4 * q' + 2) c) (4 * q' + 3) d)
def pGive (σ : St) (k j : Nat) (v : Int32) : St := if j = 0 then σ else put σ 10 k j v
def pBreak (σ : St) (k : Nat) (code : Int32) : St :=
  pClose (put (put (putA (pAdd σ (nI k) (σ.1 20 k 0) code (σ.1 19 k 0)) 10 k (upd (fun j => if j < 8 then σ.1 11 k j else σ.1 10 k j) 1 code)) 13 k 0 (σ.1 21 k 0)) 17 k 0 (σ.1 17 k 0 + 1)) k
def pBA (acc : Int32) (ln : Nat) (w : Bool) : Nat → St → St
  | 0, σ => σ
  | m + 1, σ => if nI m ≠ acc ∧ tch (pBA acc ln w m σ) m ln w = true then pBreak (pBA acc ln w m σ) m 4 else pBA acc ln w m σ
def mOld (σ : St) (k ln : Nat) (w : Bool) : Nat → Bool
  | 0 => false
  | m + 1 => mOld σ k ln w m || (decide (m ≠ k) && tch σ m ln w && decide (σ.1 19 m 0 < σ.1 19 k 0))
def pMark (σ : St) (k ln : Nat) (w : Bool) : St := if w then put σ 23 k 0 (σ.1 23 k 0 ||| ((1 : Int32) <<< (nI ln &&& 31))) else put σ 22 k 0 (σ.1 22 k 0 ||| ((1 : Int32) <<< (nI ln &&& 31)))
def lnb (σ : St) (k m : Nat) : Bool := decide ((((σ.1 22 k 0 ||| σ.1 23 k 0) >>> (nI m &&& 31)) &&& 1) = 1)
def cntL (σ : St) (k s t : Nat) : Nat → Nat
  | 0 => 0
  | m + 1 => cntL σ k s t m + (if m % s = t ∧ lnb σ k m = true then 1 else 0)
def pFault (σ : St) (k : Nat) : St := if 0 < σ.1 18 k 0 then pBreak σ k 1 else put σ 14 k 0 1
def pMay (σ : St) (n k : Nat) (word : Int32) (w : Bool) : St × Bool :=
  if 0 ≤ word ∧ word < 64 then
    (if mOld σ k (iN word / 4) w n = true then (pBreak σ k 4, false)
    else if (pBA (nI k) (iN word / 4) w n σ).1 18 k 0 = 0 then (pBA (nI k) (iN word / 4) w n σ, true)
    else if σ.1 28 0 0 < nI (cntL (pMark (pBA (nI k) (iN word / 4) w n σ) k (iN word / 4) w) k (iN (σ.1 27 0 0)) (iN word / 4 % iN (σ.1 27 0 0)) 16) then (pBreak (pMark (pBA (nI k) (iN word / 4) w n σ) k (iN word / 4) w) k 3, false)
    else (pMark (pBA (nI k) (iN word / 4) w n σ) k (iN word / 4) w, true))
  else (pFault σ k, false)
def hasS (σ : St) (k j : Nat) : Bool := decide (((σ.2 k >>> ((nI j).toInt64 &&& 63)) &&& 1) = 1)
def pSeen (σ : St) (k j : Nat) : Int32 := if hasS σ k j then σ.1 12 k j else σ.1 0 0 j
def pKeep (σ : St) (k j : Nat) (v : Int32) : St := put (putL σ k (σ.2 k ||| ((1 : Int64) <<< ((nI j).toInt64 &&& 63)))) 12 k j v
def pWrite (σ : St) (k j : Nat) (v : Int32) : St := if 0 < σ.1 18 k 0 then pKeep σ k j v else put σ 0 0 j v
def pOpen (σ : St) (k : Nat) (g b c : Int32) : St := putA (put (put (put σ 19 k 0 g) 20 k 0 b) 21 k 0 c) 11 k (fun j => if j < 8 then σ.1 10 k j else σ.1 11 k j)
def pBegin (σ : St) (k i : Nat) : St × Bool :=
  if 8 ≤ σ.1 18 k 0 then (pBreak σ k 2, false)
  else if σ.1 18 k 0 = 0 then (put (pOpen (put σ 9 0 0 (σ.1 9 0 0 + 1)) k (σ.1 9 0 0 + 1) (nI i) (σ.1 4 0 i)) 18 k 0 (σ.1 18 k 0 + 1), true)
  else (put σ 18 k 0 (σ.1 18 k 0 + 1), true)
def pMemo (σ : St) (k m : Nat) : St := putA σ 0 0 (fun j => if j < m then pSeen σ k j else σ.1 0 0 j)
def pEnd (σ : St) (k : Nat) : St :=
  if σ.1 18 k 0 = 1 then put (pClose (pMemo σ k 64) k) 16 k 0 (σ.1 16 k 0 + 1)
  else if 1 < σ.1 18 k 0 then put σ 18 k 0 (σ.1 18 k 0 - 1) else σ
/-- the instruction at i: the state behind it but for the place, the next place, whether it is retired -/
def pDoes (σ : St) (n k i : Nat) : St × Int32 × Bool :=
  let op := σ.1 1 0 i
  let a := iN (σ.1 2 0 i)
  let b := iN (σ.1 3 0 i)
  let d := σ.1 4 0 i
  let nx := nI i + 1
  if op = 0 then (pGive σ k a d, nx, true)
  else if op = 1 then (pGive σ k a (σ.1 10 k b + σ.1 10 k (iN d)), nx, true)
  else if op = 2 then (pGive σ k a (σ.1 10 k b - σ.1 10 k (iN d)), nx, true)
  else if op = 3 then (pGive σ k a (σ.1 10 k b * σ.1 10 k (iN d)), nx, true)
  else if op = 4 then (pGive σ k a (σ.1 10 k b + d), nx, true)
  else if op = 5 then (if (pMay σ n k (σ.1 10 k b + d) false).2 = true then (pGive (pMay σ n k (σ.1 10 k b + d) false).1 k a (pSeen (pMay σ n k (σ.1 10 k b + d) false).1 k (iN (σ.1 10 k b + d))), nx, true) else ((pMay σ n k (σ.1 10 k b + d) false).1, nx, false))
  else if op = 6 then (if (pMay σ n k (σ.1 10 k b + d) true).2 = true then (pWrite (pMay σ n k (σ.1 10 k b + d) true).1 k (iN (σ.1 10 k b + d)) (σ.1 10 k a), nx, true) else ((pMay σ n k (σ.1 10 k b + d) true).1, nx, false))
  else if op = 7 then (σ, if σ.1 10 k a < σ.1 10 k b then d else nx, true)
  else if op = 8 then (σ, if σ.1 10 k a ≠ σ.1 10 k b then d else nx, true)
  else if op = 9 then (σ, d, true)
  else if op = 10 then ((pBegin σ k i).1, nx, (pBegin σ k i).2)
  else if op = 11 then (pEnd σ k, nx, true)
  else if op = 12 then (if σ.1 18 k 0 = 0 then (σ, nx, true) else (pBreak σ k (256 + σ.1 10 k a), nx, false))
  else (if σ.1 18 k 0 = 0 then (put σ 14 k 0 1, nx, true) else (pBreak (put σ 14 k 0 0) k 5, nx, false))
def pExec (σ : St) (n k i : Nat) : St × Bool := if (pDoes σ n k i).2.2 = true then (put (pDoes σ n k i).1 13 k 0 (pDoes σ n k i).2.1, true) else ((pDoes σ n k i).1, false)
def pStep (σ : St) (n k : Nat) : St × Int32 :=
  if σ.1 14 k 0 ≠ 0 then (σ, 0)
  else if 0 ≤ σ.1 13 k 0 ∧ σ.1 13 k 0 < σ.1 5 0 0 then
    (if (pExec σ n k (iN (σ.1 13 k 0))).2 = true then (put (pExec σ n k (iN (σ.1 13 k 0))).1 15 k 0 ((pExec σ n k (iN (σ.1 13 k 0))).1.1 15 k 0 + 1), 1) else ((pExec σ n k (iN (σ.1 13 k 0))).1, 0))
  else (pFault σ k, 0)
def pPick (n k : Nat) : Nat → Int32 → St → St × Int32
  | 0, acc, σ => (σ, acc)
  | t + 1, acc, σ => if σ.1 14 k 0 ≠ 0 then (σ, acc) else pPick n k t (acc + (pStep σ n k).2) (pStep σ n k).1
def rnd (x : Int32) : Int32 := x * 1103515245 + 12345
def rcore (x : Int32) (n : Nat) : Nat := x.toBitVec.toNat / 65536 % n
def pRun (n : Nat) : Nat → Int32 → Int32 → St → St × Int32
  | 0, _, acc, σ => (σ, acc)
  | t + 1, x, acc, σ => pRun n t (rnd x) (acc + (pStep σ n (rcore (rnd x) n)).2) (pStep σ n (rcore (rnd x) n)).1
def pApp (σ : St) (o a b c : Int32) : St := put (put (put (put (put σ 1 0 (iN (σ.1 5 0 0)) o) 2 0 (iN (σ.1 5 0 0)) a) 3 0 (iN (σ.1 5 0 0)) b) 4 0 (iN (σ.1 5 0 0)) c) 5 0 0 (σ.1 5 0 0 + 1)
def pClr (σ : St) : St := (fun f k j => if (f = 13 ∨ f = 14 ∨ f = 15 ∨ f = 16 ∨ f = 17 ∨ f = 18 ∨ f = 19 ∨ f = 22 ∨ f = 23) ∧ k < 4 ∧ j = 0 then 0 else if f = 10 ∧ k < 4 ∧ j < 8 then 0 else if f = 0 ∧ k = 0 ∧ j < 64 then 0 else if (f = 5 ∨ f = 7 ∨ f = 8 ∨ f = 9) ∧ k = 0 ∧ j = 0 then 0 else σ.1 f k j, fun k => if k < 4 then 0 else σ.2 k)
def isR (x : Int32) : Prop := 0 ≤ x ∧ x < 8
def nmA (o : Int32) : Prop := o ≤ 8 ∨ o = 12
def nmB (o : Int32) : Prop := 1 ≤ o ∧ o ≤ 8
def nmC (o : Int32) : Prop := 1 ≤ o ∧ o ≤ 3
/-- what holds between the calls: at most G transactions have begun -/
def okI (σ : St) (i : Nat) : Prop := 0 ≤ σ.1 1 0 i ∧ σ.1 1 0 i ≤ 13 ∧ (nmA (σ.1 1 0 i) → isR (σ.1 2 0 i)) ∧ (nmB (σ.1 1 0 i) → isR (σ.1 3 0 i)) ∧ (nmC (σ.1 1 0 i) → isR (σ.1 4 0 i))
def okK (σ : St) (G k : Nat) : Prop := σ.1 10 k 0 = 0 ∧ σ.1 11 k 0 = 0 ∧ zq (σ.1 14 k 0) ∧ (∃ d, d ≤ 8 ∧ σ.1 18 k 0 = nI d) ∧ (∃ g, g ≤ G ∧ σ.1 19 k 0 = nI g) ∧ (∃ x, x < 65536 ∧ σ.1 22 k 0 = nI x) ∧ (∃ x, x < 65536 ∧ σ.1 23 k 0 = nI x) ∧ (σ.1 18 k 0 = 0 → σ.1 19 k 0 = 0 ∧ σ.1 22 k 0 = 0 ∧ σ.1 23 k 0 = 0 ∧ σ.2 k = 0)
def okR (σ : St) : Prop := ∃ o q, o < 100 ∧ q ≤ 100 ∧ σ.1 8 0 0 = nI o ∧ σ.1 7 0 0 = nI q ∧ ∀ i w, i < q → w < 4 → σ.1 6 0 ((o + i) % 100 * 4 + w) = σ.1 24 0 (4 * i + w)
def okS (σ : St) : Prop := (∃ s, (s = 1 ∨ s = 2 ∨ s = 4) ∧ σ.1 27 0 0 = nI s)
def Inv (σ : St) (G : Nat) : Prop := G < 2 ^ 30 ∧ (∃ L, L ≤ 80 ∧ σ.1 5 0 0 = nI L ∧ ∀ i, i < L → okI σ i) ∧ (∃ g, g ≤ G ∧ σ.1 9 0 0 = nI g) ∧ okR σ ∧ okS σ ∧ ∀ k, k < 4 → okK σ G k
end
section
/-! the class's leaves: transaction, core, program, records -/
theorem bI0 {w : Bool} (h : bI w = 0) : w = false := by cases w <;> simp_all [bI]
theorem bI1 {w : Bool} (h : ¬ bI w = 0) : w = true := by cases w <;> simp_all [bI]
theorem zq_bI (w : Bool) : zq (bI w) := by cases w <;> simp [bI, zq]
theorem bI_d {P : Prop} [Decidable P] (h : P) : bI (decide P) = 1 := by simp [bI, h]
theorem bI_n {P : Prop} [Decidable P] (h : ¬ P) : bI (decide P) = 0 := by simp [bI, h]
theorem put_A (σ : St) (f k j : Nat) (v : Int32) (g : Nat → Int32) : put (putA σ f k g) f k j v = putA σ f k (upd g j v) := by
  refine Prod.ext (funext fun f' => funext fun k' => funext fun j' => ?_) rfl
  simp only [put, putA, upd]
  by_cases h1 : f' = f <;> by_cases h2 : k' = k <;> by_cases h3 : j' = j <;> simp [h1, h2, h3]
theorem put_0 (σ : St) (f k j : Nat) (v : Int32) : put σ f k j v = putA σ f k (upd (fun i => σ.1 f k i) j v) := by
  refine Prod.ext (funext fun f' => funext fun k' => funext fun j' => ?_) rfl
  simp only [put, putA, upd]
  by_cases h1 : f' = f <;> by_cases h2 : k' = k <;> by_cases h3 : j' = j <;> simp [h1, h2, h3]
theorem putA_step {σ : St} {f k i : Nat} {v : Int32} {g g' : Nat → Int32} (h : ∀ j, g' j = if j = i then v else g j) : put (putA σ f k g) f k i v = putA σ f k g' := by
  rw [put_A]; congr 1; funext j; rw [h]; rfl
theorem putA_0 {σ : St} {f k : Nat} {g : Nat → Int32} (h : ∀ j, g j = σ.1 f k j) : putA σ f k g = σ := by
  refine Prod.ext (funext fun f' => funext fun k' => funext fun j' => ?_) rfl
  simp only [putA]
  by_cases h1 : f' = f <;> by_cases h2 : k' = k <;> simp [h1, h2, h]
theorem put_c {σ : St} {f k j f2 k2 j2 : Nat} {v v2 : Int32} (h : f ≠ f2) : put (put σ f k j v) f2 k2 j2 v2 = put (put σ f2 k2 j2 v2) f k j v := by
  refine Prod.ext (funext fun f' => funext fun k' => funext fun j' => ?_) rfl
  simp only [put]
  by_cases h1 : f' = f
  · subst h1; simp [h]
  · simp [h1]
theorem nI_lit (n : Nat) : (OfNat.ofNat n : Int32) = nI n := rfl
theorem lcmp_1 {x : Int64} (h : lg_cmp x 1 = 0) : x = 1 := by
  unfold lg_cmp at h
  by_cases h1 : x > 1
  · rw [if_pos h1] at h; exact absurd h (by decide)
  · rw [if_neg h1] at h
    by_cases h2 : x = 1
    · exact h2
    · rw [if_neg h2] at h; exact absurd h (by decide)
theorem lcmp_n {x : Int64} (h : ¬ lg_cmp x 1 = 0) : ¬ x = 1 := by
  intro e; subst e; exact h (by decide)

theorem iwX3_close_X3 : ∀ w ∈ wsX30, w ∈ wsX3_close := fun w h => by unfold wsX3_close; simp only [List.mem_cons, List.mem_append, h, true_or, or_true]
theorem lkX3_close_18 : Cond.fieldLink RX3 18 "CoreTransactions$Transaction" "age" "I" ∈ wsX3_close := by decide +kernel
theorem lkX3_close_34 : Cond.fieldLink RX3 34 "CoreTransactions$Transaction" "depth" "I" ∈ wsX3_close := by decide +kernel
theorem lkX3_close_37 : Cond.fieldLink RX3 37 "CoreTransactions$Transaction" "linesRead" "I" ∈ wsX3_close := by decide +kernel
theorem lkX3_close_40 : Cond.fieldLink RX3 40 "CoreTransactions$Transaction" "linesWritten" "I" ∈ wsX3_close := by decide +kernel
theorem lkX3_close_43 : Cond.fieldLink RX3 43 "CoreTransactions$Transaction" "stored" "J" ∈ wsX3_close := by decide +kernel
abbrev rmX3_close : Room := ({ frames := 0, cells := 0, slots := 0, locals := 0 } : Room)
set_option maxRecDepth 100000 in
set_option maxHeartbeats 4000000 in
theorem kX3_close (l : Launch) (D : va_G) (cs : Nat → ClassId) (n : Nat) (ad : Nat → Nat) (σ : St) (k : Nat) (hk : k < n) : gMv l yX3_close wsX3_close rmX3_close D (tyL cs) (5 * (n + 2)) ad (CC cs n ad σ) [.ref (ad (5 * (k + 2) + 2))] (fun (u : Unit) => True) (fun (u : Unit) => CC cs n ad (pClose σ k)) := by
  refine g_ofv (cc := cX3_close) (maxL := 1) (by decide) rfl (Nat.le_of_ble_eq_true rfl) rfl rfl ?_
  intro p e s m args below meth c A ls Q hx hb hml hts hown hK hP hD hA hS hl hret
  have hl : lv_has ls 1 [(0, .ref (ad (5 * (k + 2) + 2)))] := hl
  refine lv_aload_n hx hb dX3_close_0 rfl (lv_at hl 0 rfl) ?_
  refine lv_iconst (v := 0) hx hb dX3_close_1 (by decide) ?_
  refine va_put (D := D) (ci := 3) (v := .int 0) (ty := .int) (C := RX3) (T := TX3) (N := 9) hx hb hts iwX3_close_X3 tyX3 tyX3_ok nmX3 hown hK hP (hD _) hS (5 * (k + 2) + 2) (cc_tx hk) rfl 2 (by decide) (hts _ lkX3_close_34) (fun _ h9 => h9) rfl (by decide +kernel) rfl rfl (Nat.le_of_ble_eq_true rfl) dX3_close_2 (fun H locs hP _ hS => ?_)
  obtain ⟨σ1, eσ1⟩ : ∃ z, z = put σ 18 k 0 0 := ⟨_, rfl⟩
  have hP : va_P D vwCl (FW (5 * (n + 2)) ad (CC cs n ad σ1)) H := by rw [eσ1]; exact FW_P hP cu_tx_2
  refine lv_aload_n hx hb dX3_close_5 rfl (lv_at hl 0 rfl) ?_
  refine lv_iconst (v := 0) hx hb dX3_close_6 (by decide) ?_
  refine va_put (D := D) (ci := 3) (v := .int 0) (ty := .int) (C := RX3) (T := TX3) (N := 9) hx hb hts iwX3_close_X3 tyX3 tyX3_ok nmX3 hown hK hP (hD _) hS (5 * (k + 2) + 2) (cc_tx hk) rfl 3 (by decide) (hts _ lkX3_close_18) (fun _ h9 => h9) rfl (by decide +kernel) rfl rfl (Nat.le_of_ble_eq_true rfl) dX3_close_7 (fun H locs hP _ hS => ?_)
  obtain ⟨σ2, eσ2⟩ : ∃ z, z = put σ1 19 k 0 0 := ⟨_, rfl⟩
  have hP : va_P D vwCl (FW (5 * (n + 2)) ad (CC cs n ad σ2)) H := by rw [eσ2]; exact FW_P hP cu_tx_3
  refine lv_aload_n hx hb dX3_close_10 rfl (lv_at hl 0 rfl) ?_
  refine lv_iconst (v := 0) hx hb dX3_close_11 (by decide) ?_
  refine va_put (D := D) (ci := 3) (v := .int 0) (ty := .int) (C := RX3) (T := TX3) (N := 9) hx hb hts iwX3_close_X3 tyX3 tyX3_ok nmX3 hown hK hP (hD _) hS (5 * (k + 2) + 2) (cc_tx hk) rfl 6 (by decide) (hts _ lkX3_close_37) (fun _ h9 => h9) rfl (by decide +kernel) rfl rfl (Nat.le_of_ble_eq_true rfl) dX3_close_12 (fun H locs hP _ hS => ?_)
  obtain ⟨σ3, eσ3⟩ : ∃ z, z = put σ2 22 k 0 0 := ⟨_, rfl⟩
  have hP : va_P D vwCl (FW (5 * (n + 2)) ad (CC cs n ad σ3)) H := by rw [eσ3]; exact FW_P hP cu_tx_6
  refine lv_aload_n hx hb dX3_close_15 rfl (lv_at hl 0 rfl) ?_
  refine lv_iconst (v := 0) hx hb dX3_close_16 (by decide) ?_
  refine va_put (D := D) (ci := 3) (v := .int 0) (ty := .int) (C := RX3) (T := TX3) (N := 9) hx hb hts iwX3_close_X3 tyX3 tyX3_ok nmX3 hown hK hP (hD _) hS (5 * (k + 2) + 2) (cc_tx hk) rfl 7 (by decide) (hts _ lkX3_close_40) (fun _ h9 => h9) rfl (by decide +kernel) rfl rfl (Nat.le_of_ble_eq_true rfl) dX3_close_17 (fun H locs hP _ hS => ?_)
  obtain ⟨σ4, eσ4⟩ : ∃ z, z = put σ3 23 k 0 0 := ⟨_, rfl⟩
  have hP : va_P D vwCl (FW (5 * (n + 2)) ad (CC cs n ad σ4)) H := by rw [eσ4]; exact FW_P hP cu_tx_7
  refine lv_aload_n hx hb dX3_close_20 rfl (lv_at hl 0 rfl) ?_
  refine lv_lconst (v := 0) hx hb dX3_close_21 (by decide) ?_
  refine va_put (D := D) (ci := 3) (v := .long 0) (ty := .long) (C := RX3) (T := TX3) (N := 9) hx hb hts iwX3_close_X3 tyX3 tyX3_ok nmX3 hown hK hP (hD _) hS (5 * (k + 2) + 2) (cc_tx hk) rfl 8 (by decide) (hts _ lkX3_close_43) (fun _ h9 => h9) rfl (by decide +kernel) rfl rfl (Nat.le_of_ble_eq_true rfl) dX3_close_22 (fun H locs hP _ hS => ?_)
  obtain ⟨σ5, eσ5⟩ : ∃ z, z = putL σ4 k 0 := ⟨_, rfl⟩
  have hP : va_P D vwCl (FW (5 * (n + 2)) ad (CC cs n ad σ5)) H := by rw [eσ5]; exact FW_P hP cu_tx_8
  exact hret _ _ _ () _ _ dX3_close_25 hP hS (trivial) (by simp only [eσ5, eσ4, eσ3, eσ2, eσ1]; first | done | rfl)

theorem iwX3_touches_X3 : ∀ w ∈ wsX30, w ∈ wsX3_touches := fun w h => by unfold wsX3_touches; simp only [List.mem_cons, List.mem_append, h, true_or, or_true]
theorem lkX3_touches_37 : Cond.fieldLink RX3 37 "CoreTransactions$Transaction" "linesRead" "I" ∈ wsX3_touches := by decide +kernel
theorem lkX3_touches_40 : Cond.fieldLink RX3 40 "CoreTransactions$Transaction" "linesWritten" "I" ∈ wsX3_touches := by decide +kernel
abbrev rmX3_touches : Room := ({ frames := 0, cells := 0, slots := 0, locals := 0 } : Room)
set_option maxRecDepth 100000 in
set_option maxHeartbeats 4000000 in
theorem kX3_touches (l : Launch) (D : va_G) (cs : Nat → ClassId) (n : Nat) (ad : Nat → Nat) (σ : St) (k : Nat) (hk : k < n) (ln : Nat) (w : Bool) : gMi l yX3_touches wsX3_touches rmX3_touches D (tyL cs) (5 * (n + 2)) ad (CC cs n ad σ) [.ref (ad (5 * (k + 2) + 2)), .int (nI ln), .int (bI w)] (fun (r : Int32) (u : Unit) => r = bI (tch σ k ln w)) (fun (u : Unit) => CC cs n ad σ) := by
  refine g_ofz (cc := cX3_touches) (maxL := 4) (by decide) rfl (Nat.le_of_ble_eq_true rfl) rfl rfl ?_
  intro p e s m args below meth c A ls Q hx hb hml hts hown hK hP hD hA hS hl hret
  have hl : lv_has ls 4 [(0, .ref (ad (5 * (k + 2) + 2))), (1, .int (nI ln)), (2, .int (bI w))] := hl
  refine lv_iload_n hx hb dX3_touches_0 rfl (lv_at hl 2 rfl) ?_
  refine lv_if_eq (tgt := 16) hx hb dX3_touches_1 (by decide) (fun c1 => ?_) (fun c1 => ?_)
  · have hw0 : w = false := bI0 c1
    refine lv_aload_n hx hb dX3_touches_16 rfl (lv_at hl 0 rfl) ?_
    refine va_get (D := D) (ci := 3) (v := .int (σ.1 23 k 0)) (C := RX3) (T := TX3) (N := 9) hx hb hts iwX3_touches_X3 hown hK hP (5 * (k + 2) + 2) (cc_tx hk) rfl 7 (by decide) (hts _ lkX3_touches_40) (fun _ h9 => h9) rfl dX3_touches_17 ?_
    refine lv_istore_n (lv' := [(3, .int (σ.1 23 k 0)), (0, .ref (ad (5 * (k + 2) + 2))), (1, .int (nI ln)), (2, .int (bI w))]) hx hb dX3_touches_20 rfl hl (by decide) rfl (fun ls hl => ?_)
    refine lv_iload_n hx hb dX3_touches_21 rfl (lv_at hl 0 rfl) ?_
    refine lv_iload_n hx hb dX3_touches_22 rfl (lv_at hl 2 rfl) ?_
    refine lv_ishr hx hb dX3_touches_23 ?_
    refine lv_iconst (v := 1) hx hb dX3_touches_24 (by decide) ?_
    refine lv_iand hx hb dX3_touches_25 ?_
    refine lv_iconst (v := 1) hx hb dX3_touches_26 (by decide) ?_
    refine lv_icmp_ne (tgt := 34) hx hb dX3_touches_27 (by decide) (fun c2 => ?_) (fun c2 => ?_)
    · refine lv_iconst (v := 0) hx hb dX3_touches_34 (by decide) ?_
      exact hret _ _ _ _ () _ _ dX3_touches_35 hP hS (Or.inl rfl) (by rw [hw0]; exact (bI_n (by simpa using c2)).symm) (rfl)
    · refine lv_iconst (v := 1) hx hb dX3_touches_30 (by decide) ?_
      refine lv_goto (tgt := 35) hx hb dX3_touches_31 (by decide) ?_
      exact hret _ _ _ _ () _ _ dX3_touches_35 hP hS (Or.inr rfl) (by rw [hw0]; exact (bI_d (by simpa using c2)).symm) (rfl)
  · have hw0 : w = true := bI1 c1
    refine lv_aload_n hx hb dX3_touches_4 rfl (lv_at hl 0 rfl) ?_
    refine va_get (D := D) (ci := 3) (v := .int (σ.1 22 k 0)) (C := RX3) (T := TX3) (N := 9) hx hb hts iwX3_touches_X3 hown hK hP (5 * (k + 2) + 2) (cc_tx hk) rfl 6 (by decide) (hts _ lkX3_touches_37) (fun _ h9 => h9) rfl dX3_touches_5 ?_
    refine lv_aload_n hx hb dX3_touches_8 rfl (lv_at hl 0 rfl) ?_
    refine va_get (D := D) (ci := 3) (v := .int (σ.1 23 k 0)) (C := RX3) (T := TX3) (N := 9) hx hb hts iwX3_touches_X3 hown hK hP (5 * (k + 2) + 2) (cc_tx hk) rfl 7 (by decide) (hts _ lkX3_touches_40) (fun _ h9 => h9) rfl dX3_touches_9 ?_
    refine lv_ior hx hb dX3_touches_12 ?_
    refine lv_goto (tgt := 20) hx hb dX3_touches_13 (by decide) ?_
    refine lv_istore_n (lv' := [(3, .int ((σ.1 22 k 0) ||| (σ.1 23 k 0))), (0, .ref (ad (5 * (k + 2) + 2))), (1, .int (nI ln)), (2, .int (bI w))]) hx hb dX3_touches_20 rfl hl (by decide) rfl (fun ls hl => ?_)
    refine lv_iload_n hx hb dX3_touches_21 rfl (lv_at hl 0 rfl) ?_
    refine lv_iload_n hx hb dX3_touches_22 rfl (lv_at hl 2 rfl) ?_
    refine lv_ishr hx hb dX3_touches_23 ?_
    refine lv_iconst (v := 1) hx hb dX3_touches_24 (by decide) ?_
    refine lv_iand hx hb dX3_touches_25 ?_
    refine lv_iconst (v := 1) hx hb dX3_touches_26 (by decide) ?_
    refine lv_icmp_ne (tgt := 34) hx hb dX3_touches_27 (by decide) (fun c3 => ?_) (fun c3 => ?_)
    · refine lv_iconst (v := 0) hx hb dX3_touches_34 (by decide) ?_
      exact hret _ _ _ _ () _ _ dX3_touches_35 hP hS (Or.inl rfl) (by rw [hw0]; exact (bI_n (by simpa using c3)).symm) (rfl)
    · refine lv_iconst (v := 1) hx hb dX3_touches_30 (by decide) ?_
      refine lv_goto (tgt := 35) hx hb dX3_touches_31 (by decide) ?_
      exact hret _ _ _ _ () _ _ dX3_touches_35 hP hS (Or.inr rfl) (by rw [hw0]; exact (bI_d (by simpa using c3)).symm) (rfl)

theorem iwX3_mark_X3 : ∀ w ∈ wsX30, w ∈ wsX3_mark := fun w h => by unfold wsX3_mark; simp only [List.mem_cons, List.mem_append, h, true_or, or_true]
theorem lkX3_mark_37 : Cond.fieldLink RX3 37 "CoreTransactions$Transaction" "linesRead" "I" ∈ wsX3_mark := by decide +kernel
theorem lkX3_mark_40 : Cond.fieldLink RX3 40 "CoreTransactions$Transaction" "linesWritten" "I" ∈ wsX3_mark := by decide +kernel
abbrev rmX3_mark : Room := ({ frames := 0, cells := 0, slots := 0, locals := 0 } : Room)
set_option maxRecDepth 100000 in
set_option maxHeartbeats 4000000 in
theorem kX3_mark (l : Launch) (D : va_G) (cs : Nat → ClassId) (n : Nat) (ad : Nat → Nat) (σ : St) (k : Nat) (hk : k < n) (ln : Nat) (w : Bool) : gMv l yX3_mark wsX3_mark rmX3_mark D (tyL cs) (5 * (n + 2)) ad (CC cs n ad σ) [.ref (ad (5 * (k + 2) + 2)), .int (nI ln), .int (bI w)] (fun (u : Unit) => True) (fun (u : Unit) => CC cs n ad (pMark σ k ln w)) := by
  refine g_ofv (cc := cX3_mark) (maxL := 3) (by decide) rfl (Nat.le_of_ble_eq_true rfl) rfl rfl ?_
  intro p e s m args below meth c A ls Q hx hb hml hts hown hK hP hD hA hS hl hret
  have hl : lv_has ls 3 [(0, .ref (ad (5 * (k + 2) + 2))), (1, .int (nI ln)), (2, .int (bI w))] := hl
  refine lv_iload_n hx hb dX3_mark_0 rfl (lv_at hl 2 rfl) ?_
  refine lv_if_eq (tgt := 19) hx hb dX3_mark_1 (by decide) (fun c1 => ?_) (fun c1 => ?_)
  · have hw0 : w = false := bI0 c1
    refine lv_aload_n hx hb dX3_mark_19 rfl (lv_at hl 0 rfl) ?_
    refine lv_dup hx hb dX3_mark_20 rfl ?_
    refine va_get (D := D) (ci := 3) (v := .int (σ.1 22 k 0)) (C := RX3) (T := TX3) (N := 9) hx hb hts iwX3_mark_X3 hown hK hP (5 * (k + 2) + 2) (cc_tx hk) rfl 6 (by decide) (hts _ lkX3_mark_37) (fun _ h9 => h9) rfl dX3_mark_21 ?_
    refine lv_iconst (v := 1) hx hb dX3_mark_24 (by decide) ?_
    refine lv_iload_n hx hb dX3_mark_25 rfl (lv_at hl 1 rfl) ?_
    refine lv_ishl hx hb dX3_mark_26 ?_
    refine lv_ior hx hb dX3_mark_27 ?_
    refine va_put (D := D) (ci := 3) (v := .int ((σ.1 22 k 0) ||| (1 <<< ((nI ln) &&& 31)))) (ty := .int) (C := RX3) (T := TX3) (N := 9) hx hb hts iwX3_mark_X3 tyX3 tyX3_ok nmX3 hown hK hP (hD _) hS (5 * (k + 2) + 2) (cc_tx hk) rfl 6 (by decide) (hts _ lkX3_mark_37) (fun _ h9 => h9) rfl (by decide +kernel) rfl rfl (Nat.le_of_ble_eq_true rfl) dX3_mark_28 (fun H locs hP _ hS => ?_)
    obtain ⟨σ2, eσ2⟩ : ∃ z, z = put σ 22 k 0 ((σ.1 22 k 0) ||| (1 <<< ((nI ln) &&& 31))) := ⟨_, rfl⟩
    have hP : va_P D vwCl (FW (5 * (n + 2)) ad (CC cs n ad σ2)) H := by rw [eσ2]; exact FW_P hP cu_tx_6
    exact hret _ _ _ () _ _ dX3_mark_31 hP hS (trivial) (by rw [hw0]; simp only [eσ2]; first | done | rfl)
  · have hw0 : w = true := bI1 c1
    refine lv_aload_n hx hb dX3_mark_4 rfl (lv_at hl 0 rfl) ?_
    refine lv_dup hx hb dX3_mark_5 rfl ?_
    refine va_get (D := D) (ci := 3) (v := .int (σ.1 23 k 0)) (C := RX3) (T := TX3) (N := 9) hx hb hts iwX3_mark_X3 hown hK hP (5 * (k + 2) + 2) (cc_tx hk) rfl 7 (by decide) (hts _ lkX3_mark_40) (fun _ h9 => h9) rfl dX3_mark_6 ?_
    refine lv_iconst (v := 1) hx hb dX3_mark_9 (by decide) ?_
    refine lv_iload_n hx hb dX3_mark_10 rfl (lv_at hl 1 rfl) ?_
    refine lv_ishl hx hb dX3_mark_11 ?_
    refine lv_ior hx hb dX3_mark_12 ?_
    refine va_put (D := D) (ci := 3) (v := .int ((σ.1 23 k 0) ||| (1 <<< ((nI ln) &&& 31)))) (ty := .int) (C := RX3) (T := TX3) (N := 9) hx hb hts iwX3_mark_X3 tyX3 tyX3_ok nmX3 hown hK hP (hD _) hS (5 * (k + 2) + 2) (cc_tx hk) rfl 7 (by decide) (hts _ lkX3_mark_40) (fun _ h9 => h9) rfl (by decide +kernel) rfl rfl (Nat.le_of_ble_eq_true rfl) dX3_mark_13 (fun H locs hP _ hS => ?_)
    obtain ⟨σ3, eσ3⟩ : ∃ z, z = put σ 23 k 0 ((σ.1 23 k 0) ||| (1 <<< ((nI ln) &&& 31))) := ⟨_, rfl⟩
    have hP : va_P D vwCl (FW (5 * (n + 2)) ad (CC cs n ad σ3)) H := by rw [eσ3]; exact FW_P hP cu_tx_7
    refine lv_goto (tgt := 31) hx hb dX3_mark_16 (by decide) ?_
    exact hret _ _ _ () _ _ dX3_mark_31 hP hS (trivial) (by rw [hw0]; simp only [eσ3]; first | done | rfl)

theorem iwX3_hasStored_X3 : ∀ w ∈ wsX30, w ∈ wsX3_hasStored := fun w h => by unfold wsX3_hasStored; simp only [List.mem_cons, List.mem_append, h, true_or, or_true]
theorem lkX3_hasStored_43 : Cond.fieldLink RX3 43 "CoreTransactions$Transaction" "stored" "J" ∈ wsX3_hasStored := by decide +kernel
abbrev rmX3_hasStored : Room := ({ frames := 0, cells := 0, slots := 0, locals := 0 } : Room)
set_option maxRecDepth 100000 in
set_option maxHeartbeats 4000000 in
theorem kX3_hasStored (l : Launch) (D : va_G) (cs : Nat → ClassId) (n : Nat) (ad : Nat → Nat) (σ : St) (k : Nat) (hk : k < n) (j : Nat) : gMi l yX3_hasStored wsX3_hasStored rmX3_hasStored D (tyL cs) (5 * (n + 2)) ad (CC cs n ad σ) [.ref (ad (5 * (k + 2) + 2)), .int (nI j)] (fun (r : Int32) (u : Unit) => r = bI (hasS σ k j)) (fun (u : Unit) => CC cs n ad σ) := by
  refine g_ofz (cc := cX3_hasStored) (maxL := 2) (by decide) rfl (Nat.le_of_ble_eq_true rfl) rfl rfl ?_
  intro p e s m args below meth c A ls Q hx hb hml hts hown hK hP hD hA hS hl hret
  have hl : lv_has ls 2 [(0, .ref (ad (5 * (k + 2) + 2))), (1, .int (nI j))] := hl
  refine lv_aload_n hx hb dX3_hasStored_0 rfl (lv_at hl 0 rfl) ?_
  refine va_get (D := D) (ci := 3) (v := .long (σ.2 k)) (C := RX3) (T := TX3) (N := 9) hx hb hts iwX3_hasStored_X3 hown hK hP (5 * (k + 2) + 2) (cc_tx hk) rfl 8 (by decide) (hts _ lkX3_hasStored_43) (fun _ h9 => h9) rfl dX3_hasStored_1 ?_
  refine lv_iload_n hx hb dX3_hasStored_4 rfl (lv_at hl 1 rfl) ?_
  refine lv_lshr (v := (σ.2 k) >>> ((nI j).toInt64 &&& 63)) hx hb dX3_hasStored_5 rfl ?_
  refine lv_lconst (v := 1) hx hb dX3_hasStored_6 (by decide) ?_
  refine lv_land hx hb dX3_hasStored_7 ?_
  refine lv_lconst (v := 1) hx hb dX3_hasStored_8 (by decide) ?_
  refine W.lcmp hx hb dX3_hasStored_9 ?_
  refine lv_if_ne (tgt := 17) hx hb dX3_hasStored_10 (by decide) (fun c1 => ?_) (fun c1 => ?_)
  · refine lv_iconst (v := 0) hx hb dX3_hasStored_17 (by decide) ?_
    exact hret _ _ _ _ () _ _ dX3_hasStored_18 hP hS (Or.inl rfl) ((bI_n (lcmp_n c1)).symm) (rfl)
  · refine lv_iconst (v := 1) hx hb dX3_hasStored_13 (by decide) ?_
    refine lv_goto (tgt := 18) hx hb dX3_hasStored_14 (by decide) ?_
    exact hret _ _ _ _ () _ _ dX3_hasStored_18 hP hS (Or.inr rfl) ((bI_d (lcmp_1 c1)).symm) (rfl)

theorem iwX3_keep_X3 : ∀ w ∈ wsX30, w ∈ wsX3_keep := fun w h => by unfold wsX3_keep; simp only [List.mem_cons, List.mem_append, h, true_or, or_true]
theorem lkX3_keep_15 : Cond.fieldLink RX3 15 "CoreTransactions$Transaction" "storedWords" "[I" ∈ wsX3_keep := by decide +kernel
theorem lkX3_keep_43 : Cond.fieldLink RX3 43 "CoreTransactions$Transaction" "stored" "J" ∈ wsX3_keep := by decide +kernel
abbrev rmX3_keep : Room := ({ frames := 0, cells := 0, slots := 0, locals := 0 } : Room)
set_option maxRecDepth 100000 in
set_option maxHeartbeats 4000000 in
theorem kX3_keep (l : Launch) (D : va_G) (cs : Nat → ClassId) (n : Nat) (ad : Nat → Nat) (σ : St) (k : Nat) (hk : k < n) (j : Nat) (hj : j < 64) (v : Int32) : gMv l yX3_keep wsX3_keep rmX3_keep D (tyL cs) (5 * (n + 2)) ad (CC cs n ad σ) [.ref (ad (5 * (k + 2) + 2)), .int (nI j), .int v] (fun (u : Unit) => True) (fun (u : Unit) => CC cs n ad (pKeep σ k j v)) := by
  refine g_ofv (cc := cX3_keep) (maxL := 3) (by decide) rfl (Nat.le_of_ble_eq_true rfl) rfl rfl ?_
  intro p e s m args below meth c A ls Q hx hb hml hts hown hK hP hD hA hS hl hret
  have hl : lv_has ls 3 [(0, .ref (ad (5 * (k + 2) + 2))), (1, .int (nI j)), (2, .int v)] := hl
  refine lv_aload_n hx hb dX3_keep_0 rfl (lv_at hl 0 rfl) ?_
  refine lv_dup hx hb dX3_keep_1 rfl ?_
  refine va_get (D := D) (ci := 3) (v := .long (σ.2 k)) (C := RX3) (T := TX3) (N := 9) hx hb hts iwX3_keep_X3 hown hK hP (5 * (k + 2) + 2) (cc_tx hk) rfl 8 (by decide) (hts _ lkX3_keep_43) (fun _ h9 => h9) rfl dX3_keep_2 ?_
  refine lv_lconst (v := 1) hx hb dX3_keep_5 (by decide) ?_
  refine lv_iload_n hx hb dX3_keep_6 rfl (lv_at hl 1 rfl) ?_
  refine lv_lshl (v := 1 <<< ((nI j).toInt64 &&& 63)) hx hb dX3_keep_7 rfl ?_
  refine lv_lor hx hb dX3_keep_8 ?_
  refine va_put (D := D) (ci := 3) (v := .long ((σ.2 k) ||| (1 <<< ((nI j).toInt64 &&& 63)))) (ty := .long) (C := RX3) (T := TX3) (N := 9) hx hb hts iwX3_keep_X3 tyX3 tyX3_ok nmX3 hown hK hP (hD _) hS (5 * (k + 2) + 2) (cc_tx hk) rfl 8 (by decide) (hts _ lkX3_keep_43) (fun _ h9 => h9) rfl (by decide +kernel) rfl rfl (Nat.le_of_ble_eq_true rfl) dX3_keep_9 (fun H locs hP _ hS => ?_)
  obtain ⟨σ1, eσ1⟩ : ∃ z, z = putL σ k ((σ.2 k) ||| (1 <<< ((nI j).toInt64 &&& 63))) := ⟨_, rfl⟩
  have hP : va_P D vwCl (FW (5 * (n + 2)) ad (CC cs n ad σ1)) H := by rw [eσ1]; exact FW_P hP cu_tx_8
  refine lv_aload_n hx hb dX3_keep_12 rfl (lv_at hl 0 rfl) ?_
  refine va_get (D := D) (ci := 3) (v := .ref (ad (5 * (k + 2) + 4))) (C := RX3) (T := TX3) (N := 9) hx hb hts iwX3_keep_X3 hown hK hP (5 * (k + 2) + 2) (cc_tx hk) rfl 1 (by decide) (hts _ lkX3_keep_15) (fun _ h9 => h9) rfl dX3_keep_13 ?_
  refine lv_iload_n hx hb dX3_keep_16 rfl (lv_at hl 1 rfl) ?_
  refine lv_iload_n hx hb dX3_keep_17 rfl (lv_at hl 2 rfl) ?_
  refine g_iast (t0 := 0) hx hb hK hP hD hS (cc_stw hk) rfl j rfl hj (by decide) dX3_keep_18 (fun H locs hP hS => ?_)
  obtain ⟨σ2, eσ2⟩ : ∃ z, z = put σ1 12 k j v := ⟨_, rfl⟩
  have hP : va_P D vwCl (FW (5 * (n + 2)) ad (CC cs n ad σ2)) H := by rw [eσ2]; exact FW_P hP cu_stw
  exact hret _ _ _ () _ _ dX3_keep_19 hP hS (trivial) (by simp only [eσ2, eσ1]; first | done | rfl)

theorem iwX0_put_X0 : ∀ w ∈ wsX00, w ∈ wsX0_put := fun w h => by unfold wsX0_put; simp only [List.mem_cons, List.mem_append, h, true_or, or_true]
theorem lkX0_put_9 : Cond.fieldLink RX0 9 "CoreTransactions$Core" "registers" "[I" ∈ wsX0_put := by decide +kernel
abbrev rmX0_put : Room := ({ frames := 0, cells := 0, slots := 0, locals := 0 } : Room)
set_option maxRecDepth 100000 in
set_option maxHeartbeats 4000000 in
theorem kX0_put (l : Launch) (D : va_G) (cs : Nat → ClassId) (n : Nat) (ad : Nat → Nat) (σ : St) (k : Nat) (hk : k < n) (j : Nat) (hj : j < 8) (v : Int32) : gMv l yX0_put wsX0_put rmX0_put D (tyL cs) (5 * (n + 2)) ad (CC cs n ad σ) [.ref (ad (5 * (k + 2) + 0)), .int (nI j), .int v] (fun (u : Unit) => True) (fun (u : Unit) => CC cs n ad (pGive σ k j v)) := by
  refine g_ofv (cc := cX0_put) (maxL := 3) (by decide) rfl (Nat.le_of_ble_eq_true rfl) rfl rfl ?_
  intro p e s m args below meth c A ls Q hx hb hml hts hown hK hP hD hA hS hl hret
  have hl : lv_has ls 3 [(0, .ref (ad (5 * (k + 2) + 0))), (1, .int (nI j)), (2, .int v)] := hl
  refine lv_iload_n hx hb dX0_put_0 rfl (lv_at hl 1 rfl) ?_
  refine lv_if_eq (tgt := 11) hx hb dX0_put_1 (by decide) (fun c1 => ?_) (fun c1 => ?_)
  · have hj0 : j = 0 := (nI_eq (by omega) (by omega)).mp (c1 : nI j = nI 0)
    exact hret _ _ _ () _ _ dX0_put_11 hP hS (trivial) (by simp only [pGive, hj0, if_true, if_false])
  · have hj0 : ¬ j = 0 := fun h => c1 (by rw [h]; rfl)
    refine lv_aload_n hx hb dX0_put_4 rfl (lv_at hl 0 rfl) ?_
    refine va_get (D := D) (ci := 0) (v := .ref (ad (5 * (k + 2) + 1))) (C := RX0) (T := TX0) (N := 8) hx hb hts iwX0_put_X0 hown hK hP (5 * (k + 2) + 0) (cc_core hk) rfl 1 (by decide) (hts _ lkX0_put_9) (fun _ h9 => h9) rfl dX0_put_5 ?_
    refine lv_iload_n hx hb dX0_put_8 rfl (lv_at hl 1 rfl) ?_
    refine lv_iload_n hx hb dX0_put_9 rfl (lv_at hl 2 rfl) ?_
    refine g_iast (t0 := 0) hx hb hK hP hD hS (cc_regs hk) rfl j rfl hj (by decide) dX0_put_10 (fun H locs hP hS => ?_)
    obtain ⟨σ2, eσ2⟩ : ∃ z, z = put σ 10 k j v := ⟨_, rfl⟩
    have hP : va_P D vwCl (FW (5 * (n + 2)) ad (CC cs n ad σ2)) H := by rw [eσ2]; exact FW_P hP cu_regs
    exact hret _ _ _ () _ _ dX0_put_11 hP hS (trivial) (by simp only [eσ2]; simp only [pGive, hj0, if_true, if_false])

theorem iwX2_forget_X2 : ∀ w ∈ wsX20, w ∈ wsX2_forget := fun w h => by unfold wsX2_forget; simp only [List.mem_cons, List.mem_append, h, true_or, or_true]
theorem lkX2_forget_15 : Cond.fieldLink RX2 15 "CoreTransactions$Records" "oldest" "I" ∈ wsX2_forget := by decide +kernel
theorem lkX2_forget_19 : Cond.fieldLink RX2 19 "CoreTransactions$Records" "count" "I" ∈ wsX2_forget := by decide +kernel
abbrev rmX2_forget : Room := ({ frames := 0, cells := 0, slots := 0, locals := 0 } : Room)
set_option maxRecDepth 100000 in
set_option maxHeartbeats 4000000 in
theorem kX2_forget (l : Launch) (D : va_G) (cs : Nat → ClassId) (n : Nat) (ad : Nat → Nat) (σ : St)  : gMv l yX2_forget wsX2_forget rmX2_forget D (tyL cs) (5 * (n + 2)) ad (CC cs n ad σ) [.ref (ad 4)] (fun (u : Unit) => True) (fun (u : Unit) => CC cs n ad (put (put σ 7 0 0 0) 8 0 0 0)) := by
  refine g_ofv (cc := cX2_forget) (maxL := 1) (by decide) rfl (Nat.le_of_ble_eq_true rfl) rfl rfl ?_
  intro p e s m args below meth c A ls Q hx hb hml hts hown hK hP hD hA hS hl hret
  have hl : lv_has ls 1 [(0, .ref (ad 4))] := hl
  refine lv_aload_n hx hb dX2_forget_0 rfl (lv_at hl 0 rfl) ?_
  refine lv_iconst (v := 0) hx hb dX2_forget_1 (by decide) ?_
  refine va_put (D := D) (ci := 2) (v := .int 0) (ty := .int) (C := RX2) (T := TX2) (N := 3) hx hb hts iwX2_forget_X2 tyX2 tyX2_ok nmX2 hown hK hP (hD _) hS 4 cc_rec rfl 1 (by decide) (hts _ lkX2_forget_19) (fun _ h9 => h9) rfl (by decide +kernel) rfl rfl (Nat.le_of_ble_eq_true rfl) dX2_forget_2 (fun H locs hP _ hS => ?_)
  obtain ⟨σ1, eσ1⟩ : ∃ z, z = put σ 7 0 0 0 := ⟨_, rfl⟩
  have hP : va_P D vwCl (FW (5 * (n + 2)) ad (CC cs n ad σ1)) H := by rw [eσ1]; exact FW_P hP cu_rec_1
  refine lv_aload_n hx hb dX2_forget_5 rfl (lv_at hl 0 rfl) ?_
  refine lv_iconst (v := 0) hx hb dX2_forget_6 (by decide) ?_
  refine va_put (D := D) (ci := 2) (v := .int 0) (ty := .int) (C := RX2) (T := TX2) (N := 3) hx hb hts iwX2_forget_X2 tyX2 tyX2_ok nmX2 hown hK hP (hD _) hS 4 cc_rec rfl 2 (by decide) (hts _ lkX2_forget_15) (fun _ h9 => h9) rfl (by decide +kernel) rfl rfl (Nat.le_of_ble_eq_true rfl) dX2_forget_7 (fun H locs hP _ hS => ?_)
  obtain ⟨σ2, eσ2⟩ : ∃ z, z = put σ1 8 0 0 0 := ⟨_, rfl⟩
  have hP : va_P D vwCl (FW (5 * (n + 2)) ad (CC cs n ad σ2)) H := by rw [eσ2]; exact FW_P hP cu_rec_2
  exact hret _ _ _ () _ _ dX2_forget_10 hP hS (trivial) (by simp only [eσ2, eσ1]; first | done | rfl)

theorem iwX2_field_X2 : ∀ w ∈ wsX20, w ∈ wsX2_field := fun w h => by unfold wsX2_field; simp only [List.mem_cons, List.mem_append, h, true_or, or_true]
theorem lkX2_field_9 : Cond.fieldLink RX2 9 "CoreTransactions$Records" "fields" "[I" ∈ wsX2_field := by decide +kernel
theorem lkX2_field_15 : Cond.fieldLink RX2 15 "CoreTransactions$Records" "oldest" "I" ∈ wsX2_field := by decide +kernel
abbrev rmX2_field : Room := ({ frames := 0, cells := 0, slots := 0, locals := 0 } : Room)
set_option maxRecDepth 100000 in
set_option maxHeartbeats 4000000 in
theorem kX2_field (l : Launch) (D : va_G) (cs : Nat → ClassId) (n : Nat) (ad : Nat → Nat) (σ : St) (o i w : Nat) (ho : σ.1 8 0 0 = nI o) (ho2 : o < 100) (hi : i < 100) (hw4 : w < 4) : gMi l yX2_field wsX2_field rmX2_field D (tyL cs) (5 * (n + 2)) ad (CC cs n ad σ) [.ref (ad 4), .int (nI i), .int (nI w)] (fun (r : Int32) (u : Unit) => r = σ.1 6 0 ((o + i) % 100 * 4 + w)) (fun (u : Unit) => CC cs n ad σ) := by
  refine g_ofi (cc := cX2_field) (maxL := 3) (by decide) rfl (Nat.le_of_ble_eq_true rfl) rfl rfl ?_
  intro p e s m args below meth c A ls Q hx hb hml hts hown hK hP hD hA hS hl hret
  have hl : lv_has ls 3 [(0, .ref (ad 4)), (1, .int (nI i)), (2, .int (nI w))] := hl
  refine lv_aload_n hx hb dX2_field_0 rfl (lv_at hl 0 rfl) ?_
  refine va_get (D := D) (ci := 2) (v := .ref (ad 9)) (C := RX2) (T := TX2) (N := 3) hx hb hts iwX2_field_X2 hown hK hP 4 cc_rec rfl 0 (by decide) (hts _ lkX2_field_9) (fun _ h9 => h9) rfl dX2_field_1 ?_
  refine lv_aload_n hx hb dX2_field_4 rfl (lv_at hl 0 rfl) ?_
  refine va_get (D := D) (ci := 2) (v := .int (σ.1 8 0 0)) (C := RX2) (T := TX2) (N := 3) hx hb hts iwX2_field_X2 hown hK hP 4 cc_rec rfl 2 (by decide) (hts _ lkX2_field_15) (fun _ h9 => h9) rfl dX2_field_5 ?_
  refine lv_iload_n hx hb dX2_field_8 rfl (lv_at hl 1 rfl) ?_
  refine lv_iadd hx hb dX2_field_9 ?_
  refine g_top (y := nI (o + i)) (by rw [ho, nI_add]) ?_
  refine lv_bipush (v := 100) hx hb dX2_field_10 (by decide) ?_
  refine lv_irem hx hb dX2_field_12 (by decide) ?_
  refine g_top (y := nI ((o + i) % 100)) (pk_rem (by omega) (by decide) (by decide)) ?_
  refine lv_iconst (v := 4) hx hb dX2_field_13 (by decide) ?_
  refine lv_imul hx hb dX2_field_14 ?_
  refine g_top (y := nI ((o + i) % 100 * 4)) (pk_mul _ 4) ?_
  refine lv_iload_n hx hb dX2_field_15 rfl (lv_at hl 2 rfl) ?_
  refine lv_iadd hx hb dX2_field_16 ?_
  refine g_top (y := nI ((o + i) % 100 * 4 + w)) (nI_add _ _) ?_
  refine g_iald (t0 := 0) (v := σ.1 6 0 ((o + i) % 100 * 4 + w)) hx hb hK hP cc_fld rfl ((o + i) % 100 * 4 + w) rfl (by omega) (by decide) rfl dX2_field_17 ?_
  exact hret _ _ _ _ () _ _ dX2_field_18 hP hS (rfl) (rfl)

theorem iwX1_append_X1 : ∀ w ∈ wsX10, w ∈ wsX1_append := fun w h => by unfold wsX1_append; simp only [List.mem_cons, List.mem_append, h, true_or, or_true]
theorem lkX1_append_9 : Cond.fieldLink RX1 9 "CoreTransactions$Program" "operations" "[I" ∈ wsX1_append := by decide +kernel
theorem lkX1_append_15 : Cond.fieldLink RX1 15 "CoreTransactions$Program" "a" "[I" ∈ wsX1_append := by decide +kernel
theorem lkX1_append_18 : Cond.fieldLink RX1 18 "CoreTransactions$Program" "b" "[I" ∈ wsX1_append := by decide +kernel
theorem lkX1_append_21 : Cond.fieldLink RX1 21 "CoreTransactions$Program" "c" "[I" ∈ wsX1_append := by decide +kernel
theorem lkX1_append_24 : Cond.fieldLink RX1 24 "CoreTransactions$Program" "length" "I" ∈ wsX1_append := by decide +kernel
abbrev rmX1_append : Room := ({ frames := 0, cells := 0, slots := 0, locals := 0 } : Room)
set_option maxRecDepth 100000 in
set_option maxHeartbeats 4000000 in
theorem kX1_append (l : Launch) (D : va_G) (cs : Nat → ClassId) (n : Nat) (ad : Nat → Nat) (σ : St) (o a b d : Int32) (L : Nat) (hL : σ.1 5 0 0 = nI L) (hL8 : L < 80) : gMi l yX1_append wsX1_append rmX1_append D (tyL cs) (5 * (n + 2)) ad (CC cs n ad σ) [.ref (ad 3), .int o, .int a, .int b, .int d] (fun (r : Int32) (u : Unit) => r = σ.1 5 0 0) (fun (u : Unit) => CC cs n ad (pApp σ o a b d)) := by
  refine g_ofi (cc := cX1_append) (maxL := 6) (by decide) rfl (Nat.le_of_ble_eq_true rfl) rfl rfl ?_
  intro p e s m args below meth c A ls Q hx hb hml hts hown hK hP hD hA hS hl hret
  have hl : lv_has ls 6 [(0, .ref (ad 3)), (1, .int o), (2, .int a), (3, .int b), (4, .int d)] := hl
  refine lv_aload_n hx hb dX1_append_0 rfl (lv_at hl 0 rfl) ?_
  refine va_get (D := D) (ci := 1) (v := .int (σ.1 5 0 0)) (C := RX1) (T := TX1) (N := 5) hx hb hts iwX1_append_X1 hown hK hP 3 cc_pro rfl 4 (by decide) (hts _ lkX1_append_24) (fun _ h9 => h9) rfl dX1_append_1 ?_
  refine lv_istore (lv' := [(5, .int (σ.1 5 0 0)), (0, .ref (ad 3)), (1, .int o), (2, .int a), (3, .int b), (4, .int d)]) hx hb dX1_append_4 hl (by decide) rfl (fun ls hl => ?_)
  refine lv_aload_n hx hb dX1_append_6 rfl (lv_at hl 1 rfl) ?_
  refine va_get (D := D) (ci := 1) (v := .ref (ad 5)) (C := RX1) (T := TX1) (N := 5) hx hb hts iwX1_append_X1 hown hK hP 3 cc_pro rfl 0 (by decide) (hts _ lkX1_append_9) (fun _ h9 => h9) rfl dX1_append_7 ?_
  refine lv_iload hx hb dX1_append_10 (lv_at hl 0 rfl) ?_
  refine lv_iload_n hx hb dX1_append_12 rfl (lv_at hl 2 rfl) ?_
  refine g_iast (t0 := 0) hx hb hK hP hD hS cc_ops rfl L hL hL8 (by decide) dX1_append_13 (fun H locs hP hS => ?_)
  obtain ⟨σ1, eσ1⟩ : ∃ z, z = put σ 1 0 L o := ⟨_, rfl⟩
  have hP : va_P D vwCl (FW (5 * (n + 2)) ad (CC cs n ad σ1)) H := by rw [eσ1]; exact FW_P hP cu_ops
  refine lv_aload_n hx hb dX1_append_14 rfl (lv_at hl 1 rfl) ?_
  refine va_get (D := D) (ci := 1) (v := .ref (ad 6)) (C := RX1) (T := TX1) (N := 5) hx hb hts iwX1_append_X1 hown hK hP 3 cc_pro rfl 1 (by decide) (hts _ lkX1_append_15) (fun _ h9 => h9) rfl dX1_append_15 ?_
  refine lv_iload hx hb dX1_append_18 (lv_at hl 0 rfl) ?_
  refine lv_iload_n hx hb dX1_append_20 rfl (lv_at hl 3 rfl) ?_
  refine g_iast (t0 := 0) hx hb hK hP hD hS cc_pa rfl L hL hL8 (by decide) dX1_append_21 (fun H locs hP hS => ?_)
  obtain ⟨σ2, eσ2⟩ : ∃ z, z = put σ1 2 0 L a := ⟨_, rfl⟩
  have hP : va_P D vwCl (FW (5 * (n + 2)) ad (CC cs n ad σ2)) H := by rw [eσ2]; exact FW_P hP cu_pa
  refine lv_aload_n hx hb dX1_append_22 rfl (lv_at hl 1 rfl) ?_
  refine va_get (D := D) (ci := 1) (v := .ref (ad 7)) (C := RX1) (T := TX1) (N := 5) hx hb hts iwX1_append_X1 hown hK hP 3 cc_pro rfl 2 (by decide) (hts _ lkX1_append_18) (fun _ h9 => h9) rfl dX1_append_23 ?_
  refine lv_iload hx hb dX1_append_26 (lv_at hl 0 rfl) ?_
  refine lv_iload_n hx hb dX1_append_28 rfl (lv_at hl 4 rfl) ?_
  refine g_iast (t0 := 0) hx hb hK hP hD hS cc_pb rfl L hL hL8 (by decide) dX1_append_29 (fun H locs hP hS => ?_)
  obtain ⟨σ3, eσ3⟩ : ∃ z, z = put σ2 3 0 L b := ⟨_, rfl⟩
  have hP : va_P D vwCl (FW (5 * (n + 2)) ad (CC cs n ad σ3)) H := by rw [eσ3]; exact FW_P hP cu_pb
  refine lv_aload_n hx hb dX1_append_30 rfl (lv_at hl 1 rfl) ?_
  refine va_get (D := D) (ci := 1) (v := .ref (ad 8)) (C := RX1) (T := TX1) (N := 5) hx hb hts iwX1_append_X1 hown hK hP 3 cc_pro rfl 3 (by decide) (hts _ lkX1_append_21) (fun _ h9 => h9) rfl dX1_append_31 ?_
  refine lv_iload hx hb dX1_append_34 (lv_at hl 0 rfl) ?_
  refine lv_iload hx hb dX1_append_36 (lv_at hl 5 rfl) ?_
  refine g_iast (t0 := 0) hx hb hK hP hD hS cc_pc rfl L hL hL8 (by decide) dX1_append_38 (fun H locs hP hS => ?_)
  obtain ⟨σ4, eσ4⟩ : ∃ z, z = put σ3 4 0 L d := ⟨_, rfl⟩
  have hP : va_P D vwCl (FW (5 * (n + 2)) ad (CC cs n ad σ4)) H := by rw [eσ4]; exact FW_P hP cu_pc
  refine lv_aload_n hx hb dX1_append_39 rfl (lv_at hl 1 rfl) ?_
  refine lv_dup hx hb dX1_append_40 rfl ?_
  refine va_get (D := D) (ci := 1) (v := .int (σ4.1 5 0 0)) (C := RX1) (T := TX1) (N := 5) hx hb hts iwX1_append_X1 hown hK hP 3 cc_pro rfl 4 (by decide) (hts _ lkX1_append_24) (fun _ h9 => h9) rfl dX1_append_41 ?_
  refine lv_iconst (v := 1) hx hb dX1_append_44 (by decide) ?_
  refine lv_iadd hx hb dX1_append_45 ?_
  refine va_put (D := D) (ci := 1) (v := .int ((σ4.1 5 0 0) + 1)) (ty := .int) (C := RX1) (T := TX1) (N := 5) hx hb hts iwX1_append_X1 tyX1 tyX1_ok nmX1 hown hK hP (hD _) hS 3 cc_pro rfl 4 (by decide) (hts _ lkX1_append_24) (fun _ h9 => h9) rfl (by decide +kernel) rfl rfl (Nat.le_of_ble_eq_true rfl) dX1_append_46 (fun H locs hP _ hS => ?_)
  obtain ⟨σ5, eσ5⟩ : ∃ z, z = put σ4 5 0 0 ((σ4.1 5 0 0) + 1) := ⟨_, rfl⟩
  have hP : va_P D vwCl (FW (5 * (n + 2)) ad (CC cs n ad σ5)) H := by rw [eσ5]; exact FW_P hP cu_pro_4
  refine lv_iload hx hb dX1_append_49 (lv_at hl 0 rfl) ?_
  exact hret _ _ _ _ () _ _ dX1_append_51 hP hS (rfl) (by simp only [eσ5, eσ4, eσ3, eσ2, eσ1]; rw [show pApp σ o a b d = put (put (put (put (put σ 1 0 L o) 2 0 L a) 3 0 L b) 4 0 L d) 5 0 0 (σ.1 5 0 0 + 1) from by unfold pApp; rw [hL, iN_nI (show L < 2 ^ 31 by omega)]]; rfl)
end
section
/-! more leaves: records, copies, counts -/
theorem CC_24 {cs : Nat → ClassId} {n : Nat} {ad : Nat → Nat} {σ : St} {g : Nat → Int32} : CC cs n ad (putA σ 24 0 g) = CC cs n ad σ := by
  funext i
  show CQ cs n ad (putA σ 24 0 g) (i / 5) (i % 5) = CQ cs n ad σ (i / 5) (i % 5)
  generalize i / 5 = r
  have hc : i % 5 < 5 := by omega
  generalize i % 5 = c at hc
  rcases r with _ | _ | k <;> (rcases (show c = 0 ∨ c = 1 ∨ c = 2 ∨ c = 3 ∨ c = 4 by omega) with rfl | rfl | rfl | rfl | rfl) <;> simp [CQ, putA]
theorem cpy8 {f g : Nat → Int32} : va_cpy f g (0 : Int32).toNatClampNeg (0 : Int32).toNatClampNeg (8 : Int32).toNatClampNeg = fun j => if j < 8 then f j else g j := by
  have e0 : (0 : Int32).toNatClampNeg = 0 := by decide
  have e8 : (8 : Int32).toNatClampNeg = 8 := by decide
  rw [e0, e8]
  funext j
  simp [va_cpy]
theorem pAdd_eq {σ : St} {o q : Nat} (ho : σ.1 8 0 0 = nI o) (hq : σ.1 7 0 0 = nI q) (ho2 : o < 100) (hq2 : q ≤ 100) (a b c d : Int32) : ∃ g, pAdd σ a b c d = putA (if q < 100 then put (putA σ 6 0 (upd (upd (upd (upd (fun j => σ.1 6 0 j) ((o + q) % 100 * 4) a) ((o + q) % 100 * 4 + 1) b) ((o + q) % 100 * 4 + 2) c) ((o + q) % 100 * 4 + 3) d)) 7 0 0 (nI (q + 1)) else put (putA σ 6 0 (upd (upd (upd (upd (fun j => σ.1 6 0 j) ((o + q) % 100 * 4) a) ((o + q) % 100 * 4 + 1) b) ((o + q) % 100 * 4 + 2) c) ((o + q) % 100 * 4 + 3) d)) 8 0 0 (nI ((o + 1) % 100))) 24 0 g := by
  unfold pAdd
  rw [ho, hq, iN_nI (show o < 2 ^ 31 by omega), iN_nI (show q < 2 ^ 31 by omega)]
  exact ⟨_, rfl⟩
theorem and1 (x : Int32) : x &&& 1 = nI 0 ∨ x &&& 1 = nI 1 := by
  obtain ⟨j, h, e⟩ := pk_andE x (m := 1) 1 (by decide)
  rcases (show j = 0 ∨ j = 1 by omega) with rfl | rfl
  · exact Or.inl e
  · exact Or.inr e
theorem cnt_s {σ : St} {k s t i : Nat} (h : i % s = t) : nI (cntL σ k s t i) + (((σ.1 22 k 0 ||| σ.1 23 k 0) >>> (nI i &&& 31)) &&& 1) = nI (cntL σ k s t (i + 1)) := by
  simp only [cntL, h, lnb, true_and]
  rcases and1 ((σ.1 22 k 0 ||| σ.1 23 k 0) >>> (nI i &&& 31)) with e | e
  · rw [e, nI_add]; rfl
  · rw [e, nI_add]; rfl
theorem cnt_n {σ : St} {k s t i : Nat} (h : ¬ i % s = t) : cntL σ k s t (i + 1) = cntL σ k s t i := by
  simp [cntL, h]
def pReset (σ : St) (k : Nat) : St := put (put (put (put (put (pClose (putA σ 10 k (fun j => if j < 8 then 0 else σ.1 10 k j)) k) 13 k 0 0) 14 k 0 0) 15 k 0 0) 16 k 0 0) 17 k 0 0
theorem hasS_memo {σ : St} {k m j : Nat} : hasS (pMemo σ k m) k j = hasS σ k j := rfl
theorem memo_y {σ : St} {k i : Nat} (h : hasS σ k i = true) : put (pMemo σ k i) 0 0 i (σ.1 12 k i) = pMemo σ k (i + 1) := by
  refine putA_step (fun j => ?_)
  by_cases h1 : j = i
  · subst h1; simp [pSeen, h]
  · rw [if_neg h1]
    by_cases h2 : j < i
    · rw [if_pos h2, if_pos (by omega)]
    · rw [if_neg h2, if_neg (by omega)]
theorem memo_n {σ : St} {k i : Nat} (h : hasS σ k i = false) : pMemo σ k (i + 1) = pMemo σ k i := by
  unfold pMemo
  congr 1
  funext j
  by_cases h1 : j = i
  · subst h1; simp [pSeen, h]
  · by_cases h2 : j < i
    · rw [if_pos h2, if_pos (by omega)]
    · rw [if_neg h2, if_neg (by omega)]
theorem memo_0 {σ : St} {k : Nat} : pMemo σ k 0 = σ := putA_0 (fun j => by simp)

theorem iwX2_add_X2 : ∀ w ∈ wsX20, w ∈ wsX2_add := fun w h => by unfold wsX2_add; simp only [List.mem_cons, List.mem_append, h, true_or, or_true]
theorem lkX2_add_9 : Cond.fieldLink RX2 9 "CoreTransactions$Records" "fields" "[I" ∈ wsX2_add := by decide +kernel
theorem lkX2_add_15 : Cond.fieldLink RX2 15 "CoreTransactions$Records" "oldest" "I" ∈ wsX2_add := by decide +kernel
theorem lkX2_add_19 : Cond.fieldLink RX2 19 "CoreTransactions$Records" "count" "I" ∈ wsX2_add := by decide +kernel
abbrev rmX2_add : Room := ({ frames := 0, cells := 0, slots := 0, locals := 0 } : Room)
set_option maxRecDepth 100000 in
set_option maxHeartbeats 4000000 in
theorem kX2_add (l : Launch) (D : va_G) (cs : Nat → ClassId) (n : Nat) (ad : Nat → Nat) (σ : St) (a b c2 d2 : Int32) (o q : Nat) (ho : σ.1 8 0 0 = nI o) (hq : σ.1 7 0 0 = nI q) (ho2 : o < 100) (hq2 : q ≤ 100) : gMv l yX2_add wsX2_add rmX2_add D (tyL cs) (5 * (n + 2)) ad (CC cs n ad σ) [.ref (ad 4), .int a, .int b, .int c2, .int d2] (fun (u : Unit) => True) (fun (u : Unit) => CC cs n ad (pAdd σ a b c2 d2)) := by
  refine g_ofv (cc := cX2_add) (maxL := 6) (by decide) rfl (Nat.le_of_ble_eq_true rfl) rfl rfl ?_
  intro p e s m args below meth c A ls Q hx hb hml hts hown hK hP hD hA hS hl hret
  have hl : lv_has ls 6 [(0, .ref (ad 4)), (1, .int a), (2, .int b), (3, .int c2), (4, .int d2)] := hl
  refine lv_aload_n hx hb dX2_add_0 rfl (lv_at hl 0 rfl) ?_
  refine va_get (D := D) (ci := 2) (v := .int (σ.1 8 0 0)) (C := RX2) (T := TX2) (N := 3) hx hb hts iwX2_add_X2 hown hK hP 4 cc_rec rfl 2 (by decide) (hts _ lkX2_add_15) (fun _ h9 => h9) rfl dX2_add_1 ?_
  refine lv_aload_n hx hb dX2_add_4 rfl (lv_at hl 0 rfl) ?_
  refine va_get (D := D) (ci := 2) (v := .int (σ.1 7 0 0)) (C := RX2) (T := TX2) (N := 3) hx hb hts iwX2_add_X2 hown hK hP 4 cc_rec rfl 1 (by decide) (hts _ lkX2_add_19) (fun _ h9 => h9) rfl dX2_add_5 ?_
  refine lv_iadd hx hb dX2_add_8 ?_
  refine g_top (y := nI (o + q)) (by rw [ho, hq, nI_add]) ?_
  refine lv_bipush (v := 100) hx hb dX2_add_9 (by decide) ?_
  refine lv_irem hx hb dX2_add_11 (by decide) ?_
  refine g_top (y := nI ((o + q) % 100)) (pk_rem (by omega) (by decide) (by decide)) ?_
  refine lv_iconst (v := 4) hx hb dX2_add_12 (by decide) ?_
  refine lv_imul hx hb dX2_add_13 ?_
  refine g_top (y := nI ((o + q) % 100 * 4)) (pk_mul _ 4) ?_
  refine lv_istore (lv' := [(5, .int (nI ((o + q) % 100 * 4))), (0, .ref (ad 4)), (1, .int a), (2, .int b), (3, .int c2), (4, .int d2)]) hx hb dX2_add_14 hl (by decide) rfl (fun ls hl => ?_)
  refine lv_aload_n hx hb dX2_add_16 rfl (lv_at hl 1 rfl) ?_
  refine va_get (D := D) (ci := 2) (v := .ref (ad 9)) (C := RX2) (T := TX2) (N := 3) hx hb hts iwX2_add_X2 hown hK hP 4 cc_rec rfl 0 (by decide) (hts _ lkX2_add_9) (fun _ h9 => h9) rfl dX2_add_17 ?_
  refine lv_iload hx hb dX2_add_20 (lv_at hl 0 rfl) ?_
  refine lv_iload_n hx hb dX2_add_22 rfl (lv_at hl 2 rfl) ?_
  refine g_iast (t0 := 0) hx hb hK hP hD hS cc_fld rfl ((o + q) % 100 * 4) rfl (by omega) (by decide) dX2_add_23 (fun H locs hP hS => ?_)
  obtain ⟨σ1, eσ1⟩ : ∃ z, z = put σ 6 0 ((o + q) % 100 * 4) a := ⟨_, rfl⟩
  have hP : va_P D vwCl (FW (5 * (n + 2)) ad (CC cs n ad σ1)) H := by rw [eσ1]; exact FW_P hP cu_fld
  refine lv_aload_n hx hb dX2_add_24 rfl (lv_at hl 1 rfl) ?_
  refine va_get (D := D) (ci := 2) (v := .ref (ad 9)) (C := RX2) (T := TX2) (N := 3) hx hb hts iwX2_add_X2 hown hK hP 4 cc_rec rfl 0 (by decide) (hts _ lkX2_add_9) (fun _ h9 => h9) rfl dX2_add_25 ?_
  refine lv_iload hx hb dX2_add_28 (lv_at hl 0 rfl) ?_
  refine lv_iconst (v := 1) hx hb dX2_add_30 (by decide) ?_
  refine lv_iadd hx hb dX2_add_31 ?_
  refine g_top (y := nI ((o + q) % 100 * 4 + 1)) (nI_add _ 1) ?_
  refine lv_iload_n hx hb dX2_add_32 rfl (lv_at hl 3 rfl) ?_
  refine g_iast (t0 := 0) hx hb hK hP hD hS cc_fld rfl ((o + q) % 100 * 4 + 1) rfl (by omega) (by decide) dX2_add_33 (fun H locs hP hS => ?_)
  obtain ⟨σ2, eσ2⟩ : ∃ z, z = put σ1 6 0 ((o + q) % 100 * 4 + 1) b := ⟨_, rfl⟩
  have hP : va_P D vwCl (FW (5 * (n + 2)) ad (CC cs n ad σ2)) H := by rw [eσ2]; exact FW_P hP cu_fld
  refine lv_aload_n hx hb dX2_add_34 rfl (lv_at hl 1 rfl) ?_
  refine va_get (D := D) (ci := 2) (v := .ref (ad 9)) (C := RX2) (T := TX2) (N := 3) hx hb hts iwX2_add_X2 hown hK hP 4 cc_rec rfl 0 (by decide) (hts _ lkX2_add_9) (fun _ h9 => h9) rfl dX2_add_35 ?_
  refine lv_iload hx hb dX2_add_38 (lv_at hl 0 rfl) ?_
  refine lv_iconst (v := 2) hx hb dX2_add_40 (by decide) ?_
  refine lv_iadd hx hb dX2_add_41 ?_
  refine g_top (y := nI ((o + q) % 100 * 4 + 2)) (nI_add _ 2) ?_
  refine lv_iload_n hx hb dX2_add_42 rfl (lv_at hl 4 rfl) ?_
  refine g_iast (t0 := 0) hx hb hK hP hD hS cc_fld rfl ((o + q) % 100 * 4 + 2) rfl (by omega) (by decide) dX2_add_43 (fun H locs hP hS => ?_)
  obtain ⟨σ3, eσ3⟩ : ∃ z, z = put σ2 6 0 ((o + q) % 100 * 4 + 2) c2 := ⟨_, rfl⟩
  have hP : va_P D vwCl (FW (5 * (n + 2)) ad (CC cs n ad σ3)) H := by rw [eσ3]; exact FW_P hP cu_fld
  refine lv_aload_n hx hb dX2_add_44 rfl (lv_at hl 1 rfl) ?_
  refine va_get (D := D) (ci := 2) (v := .ref (ad 9)) (C := RX2) (T := TX2) (N := 3) hx hb hts iwX2_add_X2 hown hK hP 4 cc_rec rfl 0 (by decide) (hts _ lkX2_add_9) (fun _ h9 => h9) rfl dX2_add_45 ?_
  refine lv_iload hx hb dX2_add_48 (lv_at hl 0 rfl) ?_
  refine lv_iconst (v := 3) hx hb dX2_add_50 (by decide) ?_
  refine lv_iadd hx hb dX2_add_51 ?_
  refine g_top (y := nI ((o + q) % 100 * 4 + 3)) (nI_add _ 3) ?_
  refine lv_iload hx hb dX2_add_52 (lv_at hl 5 rfl) ?_
  refine g_iast (t0 := 0) hx hb hK hP hD hS cc_fld rfl ((o + q) % 100 * 4 + 3) rfl (by omega) (by decide) dX2_add_54 (fun H locs hP hS => ?_)
  obtain ⟨σ4, eσ4⟩ : ∃ z, z = put σ3 6 0 ((o + q) % 100 * 4 + 3) d2 := ⟨_, rfl⟩
  have hP : va_P D vwCl (FW (5 * (n + 2)) ad (CC cs n ad σ4)) H := by rw [eσ4]; exact FW_P hP cu_fld
  refine lv_aload_n hx hb dX2_add_55 rfl (lv_at hl 1 rfl) ?_
  refine va_get (D := D) (ci := 2) (v := .int (σ4.1 7 0 0)) (C := RX2) (T := TX2) (N := 3) hx hb hts iwX2_add_X2 hown hK hP 4 cc_rec rfl 1 (by decide) (hts _ lkX2_add_19) (fun _ h9 => h9) rfl dX2_add_56 ?_
  refine g_top (y := nI q) (by simp only [eσ4, eσ3, eσ2, eσ1]; exact hq) ?_
  refine lv_bipush (v := 100) hx hb dX2_add_59 (by decide) ?_
  refine lv_icmp_ge (tgt := 77) hx hb dX2_add_61 (by decide) (fun c5 => ?_) (fun c5 => ?_)
  · have h100 : ¬ q < 100 := fun h => nI_ge h (show 100 < 2 ^ 31 by decide) c5
    refine lv_aload_n hx hb dX2_add_77 rfl (lv_at hl 1 rfl) ?_
    refine lv_aload_n hx hb dX2_add_78 rfl (lv_at hl 1 rfl) ?_
    refine va_get (D := D) (ci := 2) (v := .int (σ4.1 8 0 0)) (C := RX2) (T := TX2) (N := 3) hx hb hts iwX2_add_X2 hown hK hP 4 cc_rec rfl 2 (by decide) (hts _ lkX2_add_15) (fun _ h9 => h9) rfl dX2_add_79 ?_
    refine g_top (y := nI o) (by simp only [eσ4, eσ3, eσ2, eσ1]; exact ho) ?_
    refine lv_iconst (v := 1) hx hb dX2_add_82 (by decide) ?_
    refine lv_iadd hx hb dX2_add_83 ?_
    refine g_top (y := nI (o + 1)) (nI_add _ 1) ?_
    refine lv_bipush (v := 100) hx hb dX2_add_84 (by decide) ?_
    refine lv_irem hx hb dX2_add_86 (by decide) ?_
    refine g_top (y := nI ((o + 1) % 100)) (pk_rem (by omega) (by decide) (by decide)) ?_
    refine va_put (D := D) (ci := 2) (v := .int (nI ((o + 1) % 100))) (ty := .int) (C := RX2) (T := TX2) (N := 3) hx hb hts iwX2_add_X2 tyX2 tyX2_ok nmX2 hown hK hP (hD _) hS 4 cc_rec rfl 2 (by decide) (hts _ lkX2_add_15) (fun _ h9 => h9) rfl (by decide +kernel) rfl rfl (Nat.le_of_ble_eq_true rfl) dX2_add_87 (fun H locs hP _ hS => ?_)
    obtain ⟨σ6, eσ6⟩ : ∃ z, z = put σ4 8 0 0 (nI ((o + 1) % 100)) := ⟨_, rfl⟩
    have hP : va_P D vwCl (FW (5 * (n + 2)) ad (CC cs n ad σ6)) H := by rw [eσ6]; exact FW_P hP cu_rec_2
    exact hret _ _ _ () _ _ dX2_add_90 hP hS (trivial) (by obtain ⟨g, hg⟩ := pAdd_eq ho hq ho2 hq2 a b c2 d2; rw [hg, CC_24, if_neg h100]; simp only [eσ6, eσ4, eσ3, eσ2, eσ1]; rw [put_0 σ, put_A, put_A, put_A])
  · have h100 : q < 100 := Nat.lt_of_not_le (fun h => c5 (nI_le h (by omega)))
    refine lv_aload_n hx hb dX2_add_64 rfl (lv_at hl 1 rfl) ?_
    refine lv_dup hx hb dX2_add_65 rfl ?_
    refine va_get (D := D) (ci := 2) (v := .int (σ4.1 7 0 0)) (C := RX2) (T := TX2) (N := 3) hx hb hts iwX2_add_X2 hown hK hP 4 cc_rec rfl 1 (by decide) (hts _ lkX2_add_19) (fun _ h9 => h9) rfl dX2_add_66 ?_
    refine g_top (y := nI q) (by simp only [eσ4, eσ3, eσ2, eσ1]; exact hq) ?_
    refine lv_iconst (v := 1) hx hb dX2_add_69 (by decide) ?_
    refine lv_iadd hx hb dX2_add_70 ?_
    refine g_top (y := nI (q + 1)) (nI_add _ 1) ?_
    refine va_put (D := D) (ci := 2) (v := .int (nI (q + 1))) (ty := .int) (C := RX2) (T := TX2) (N := 3) hx hb hts iwX2_add_X2 tyX2 tyX2_ok nmX2 hown hK hP (hD _) hS 4 cc_rec rfl 1 (by decide) (hts _ lkX2_add_19) (fun _ h9 => h9) rfl (by decide +kernel) rfl rfl (Nat.le_of_ble_eq_true rfl) dX2_add_71 (fun H locs hP _ hS => ?_)
    obtain ⟨σ7, eσ7⟩ : ∃ z, z = put σ4 7 0 0 (nI (q + 1)) := ⟨_, rfl⟩
    have hP : va_P D vwCl (FW (5 * (n + 2)) ad (CC cs n ad σ7)) H := by rw [eσ7]; exact FW_P hP cu_rec_1
    refine lv_goto (tgt := 90) hx hb dX2_add_74 (by decide) ?_
    exact hret _ _ _ () _ _ dX2_add_90 hP hS (trivial) (by obtain ⟨g, hg⟩ := pAdd_eq ho hq ho2 hq2 a b c2 d2; rw [hg, CC_24, if_pos h100]; simp only [eσ7, eσ4, eσ3, eσ2, eσ1]; rw [put_0 σ, put_A, put_A, put_A])

theorem iwX3_open_X3 : ∀ w ∈ wsX30, w ∈ wsX3_open := fun w h => by unfold wsX3_open; simp only [List.mem_cons, List.mem_append, h, true_or, or_true]
theorem lkX3_open_9 : Cond.fieldLink RX3 9 "CoreTransactions$Transaction" "keptRegisters" "[I" ∈ wsX3_open := by decide +kernel
theorem lkX3_open_18 : Cond.fieldLink RX3 18 "CoreTransactions$Transaction" "age" "I" ∈ wsX3_open := by decide +kernel
theorem lkX3_open_22 : Cond.fieldLink RX3 22 "CoreTransactions$Transaction" "beginPlace" "I" ∈ wsX3_open := by decide +kernel
theorem lkX3_open_25 : Cond.fieldLink RX3 25 "CoreTransactions$Transaction" "keptPlace" "I" ∈ wsX3_open := by decide +kernel
theorem lkX3_open_ml : Cond.methodLink RX3 28 arraycopyName ∈ wsX3_open := by decide +kernel
theorem lkX3_open_na : Cond.native arraycopyName ∈ wsX3_open := by decide +kernel
theorem lkX3_open_sta : Cond.static arraycopyName ∈ wsX3_open := by decide +kernel
theorem lkX3_open_ini : Cond.initialized "java/lang/System" ∈ wsX3_open := by decide +kernel
abbrev rmX3_open : Room := ({ frames := 1, cells := 0, slots := 0, locals := 60 } : Room)
set_option maxRecDepth 100000 in
set_option maxHeartbeats 4000000 in
theorem kX3_open (l : Launch) (D : va_G) (cs : Nat → ClassId) (n : Nat) (ad : Nat → Nat) (σ : St) (k : Nat) (hk : k < n) (g b d2 : Int32) : gMv l yX3_open wsX3_open rmX3_open D (tyL cs) (5 * (n + 2)) ad (CC cs n ad σ) [.ref (ad (5 * (k + 2) + 2)), .int g, .int b, .int d2, .ref (ad (5 * (k + 2) + 1))] (fun (u : Unit) => True) (fun (u : Unit) => CC cs n ad (pOpen σ k g b d2)) := by
  refine g_ofv (cc := cX3_open) (maxL := 5) (by decide) rfl (Nat.le_of_ble_eq_true rfl) rfl rfl ?_
  intro p e s m args below meth c A ls Q hx hb hml hts hown hK hP hD hA hS hl hret
  have hl : lv_has ls 5 [(0, .ref (ad (5 * (k + 2) + 2))), (1, .int g), (2, .int b), (3, .int d2), (4, .ref (ad (5 * (k + 2) + 1)))] := hl
  refine lv_aload_n hx hb dX3_open_0 rfl (lv_at hl 0 rfl) ?_
  refine lv_iload_n hx hb dX3_open_1 rfl (lv_at hl 1 rfl) ?_
  refine va_put (D := D) (ci := 3) (v := .int g) (ty := .int) (C := RX3) (T := TX3) (N := 9) hx hb hts iwX3_open_X3 tyX3 tyX3_ok nmX3 hown hK hP (hD _) hS (5 * (k + 2) + 2) (cc_tx hk) rfl 3 (by decide) (hts _ lkX3_open_18) (fun _ h9 => h9) rfl (by decide +kernel) rfl rfl (Nat.le_of_ble_eq_true rfl) dX3_open_2 (fun H locs hP _ hS => ?_)
  obtain ⟨σ1, eσ1⟩ : ∃ z, z = put σ 19 k 0 g := ⟨_, rfl⟩
  have hP : va_P D vwCl (FW (5 * (n + 2)) ad (CC cs n ad σ1)) H := by rw [eσ1]; exact FW_P hP cu_tx_3
  refine lv_aload_n hx hb dX3_open_5 rfl (lv_at hl 0 rfl) ?_
  refine lv_iload_n hx hb dX3_open_6 rfl (lv_at hl 2 rfl) ?_
  refine va_put (D := D) (ci := 3) (v := .int b) (ty := .int) (C := RX3) (T := TX3) (N := 9) hx hb hts iwX3_open_X3 tyX3 tyX3_ok nmX3 hown hK hP (hD _) hS (5 * (k + 2) + 2) (cc_tx hk) rfl 4 (by decide) (hts _ lkX3_open_22) (fun _ h9 => h9) rfl (by decide +kernel) rfl rfl (Nat.le_of_ble_eq_true rfl) dX3_open_7 (fun H locs hP _ hS => ?_)
  obtain ⟨σ2, eσ2⟩ : ∃ z, z = put σ1 20 k 0 b := ⟨_, rfl⟩
  have hP : va_P D vwCl (FW (5 * (n + 2)) ad (CC cs n ad σ2)) H := by rw [eσ2]; exact FW_P hP cu_tx_4
  refine lv_aload_n hx hb dX3_open_10 rfl (lv_at hl 0 rfl) ?_
  refine lv_iload_n hx hb dX3_open_11 rfl (lv_at hl 3 rfl) ?_
  refine va_put (D := D) (ci := 3) (v := .int d2) (ty := .int) (C := RX3) (T := TX3) (N := 9) hx hb hts iwX3_open_X3 tyX3 tyX3_ok nmX3 hown hK hP (hD _) hS (5 * (k + 2) + 2) (cc_tx hk) rfl 5 (by decide) (hts _ lkX3_open_25) (fun _ h9 => h9) rfl (by decide +kernel) rfl rfl (Nat.le_of_ble_eq_true rfl) dX3_open_12 (fun H locs hP _ hS => ?_)
  obtain ⟨σ3, eσ3⟩ : ∃ z, z = put σ2 21 k 0 d2 := ⟨_, rfl⟩
  have hP : va_P D vwCl (FW (5 * (n + 2)) ad (CC cs n ad σ3)) H := by rw [eσ3]; exact FW_P hP cu_tx_5
  refine lv_aload hx hb dX3_open_15 (lv_at hl 4 rfl) ?_
  refine lv_iconst (v := 0) hx hb dX3_open_17 (by decide) ?_
  refine lv_aload_n hx hb dX3_open_18 rfl (lv_at hl 0 rfl) ?_
  refine va_get (D := D) (ci := 3) (v := .ref (ad (5 * (k + 2) + 3))) (C := RX3) (T := TX3) (N := 9) hx hb hts iwX3_open_X3 hown hK hP (5 * (k + 2) + 2) (cc_tx hk) rfl 0 (by decide) (hts _ lkX3_open_9) (fun _ h9 => h9) rfl dX3_open_19 ?_
  refine lv_iconst (v := 0) hx hb dX3_open_22 (by decide) ?_
  refine lv_bipush (v := 8) hx hb dX3_open_23 (by decide) ?_
  refine va_copyi hx hb (hml.trans hl.1.symm) hown (hts _ lkX3_open_ml) (hts _ lkX3_open_na) (hts _ lkX3_open_sta) (hts _ lkX3_open_ini) hK hP (hD _) hS (5 * (k + 2) + 1) (5 * (k + 2) + 3) 0 0 (cc_regs hk) (cc_kept hk) rfl rfl rfl (by decide) (by decide) (by decide) (by decide) (by decide) (fun _ _ => rfl) (by decide) (by decide) dX3_open_25 (fun H locs hP _ hS => ?_)
  rw [cpy8] at hP
  obtain ⟨σ4, eσ4⟩ : ∃ z, z = putA σ3 11 k (fun j => if j < 8 then σ3.1 10 k j else σ3.1 11 k j) := ⟨_, rfl⟩
  have hP : va_P D vwCl (FW (5 * (n + 2)) ad (CC cs n ad σ4)) H := by rw [eσ4]; exact FW_P hP cu_keptA
  exact hret _ _ _ () _ _ dX3_open_28 hP hS (trivial) (by simp only [eσ4, eσ3, eσ2, eσ1]; first | done | rfl)

theorem iwX3_linesInSet_X3 : ∀ w ∈ wsX30, w ∈ wsX3_linesInSet := fun w h => by unfold wsX3_linesInSet; simp only [List.mem_cons, List.mem_append, h, true_or, or_true]
theorem lkX3_linesInSet_37 : Cond.fieldLink RX3 37 "CoreTransactions$Transaction" "linesRead" "I" ∈ wsX3_linesInSet := by decide +kernel
theorem lkX3_linesInSet_40 : Cond.fieldLink RX3 40 "CoreTransactions$Transaction" "linesWritten" "I" ∈ wsX3_linesInSet := by decide +kernel
abbrev rmX3_linesInSet : Room := ({ frames := 0, cells := 0, slots := 0, locals := 0 } : Room)
set_option maxRecDepth 100000 in
set_option maxHeartbeats 4000000 in
theorem kX3_linesInSet (l : Launch) (D : va_G) (cs : Nat → ClassId) (n : Nat) (ad : Nat → Nat) (σ : St) (k : Nat) (hk : k < n) (t q2 : Nat) (hq0 : 0 < q2) (hq1 : q2 < 2 ^ 31) (ht1 : t < 2 ^ 31) : gMi l yX3_linesInSet wsX3_linesInSet rmX3_linesInSet D (tyL cs) (5 * (n + 2)) ad (CC cs n ad σ) [.ref (ad (5 * (k + 2) + 2)), .int (nI t), .int (nI q2)] (fun (r : Int32) (u : Unit) => r = nI (cntL σ k q2 t 16)) (fun (u : Unit) => CC cs n ad σ) := by
  refine g_ofi (cc := cX3_linesInSet) (maxL := 5) (by decide) rfl (Nat.le_of_ble_eq_true rfl) rfl rfl ?_
  intro p e s m args below meth c A ls Q hx hb hml hts hown hK hP hD hA hS hl hret
  have hl : lv_has ls 5 [(0, .ref (ad (5 * (k + 2) + 2))), (1, .int (nI t)), (2, .int (nI q2))] := hl
  refine lv_iconst (v := 0) hx hb dX3_linesInSet_0 (by decide) ?_
  refine lv_istore_n (lv' := [(3, .int 0), (0, .ref (ad (5 * (k + 2) + 2))), (1, .int (nI t)), (2, .int (nI q2))]) hx hb dX3_linesInSet_1 rfl hl (by decide) rfl (fun ls hl => ?_)
  refine lv_iconst (v := 0) hx hb dX3_linesInSet_2 (by decide) ?_
  refine lv_istore (lv' := [(4, .int 0), (3, .int 0), (0, .ref (ad (5 * (k + 2) + 2))), (1, .int (nI t)), (2, .int (nI q2))]) hx hb dX3_linesInSet_3 hl (by decide) rfl (fun ls hl => ?_)
  have loop : ∀ (d i : Nat), i + d = 16 → ∀ (q : Nat), q = cntL σ k q2 t i → ∀ (H : Heap) (locs : List Loc) (ls : Array Slot), va_P D vwCl (FW (5 * (n + 2)) ad (CC cs n ad (σ))) H → va_S A s.heap H locs → lv_has ls 5 [(0, .ref (ad (5 * (k + 2) + 2))), (1, .int (nI t)), (2, .int (nI q2)), (3, .int (nI q)), (4, .int (nI i))] → W p l e rmX3_linesInSet s m args below meth c H locs 0 0 Q (F0 m 5 ls []) := by
    intro d
    induction d with
    | zero =>
      intro i hi q hq H locs ls hP hS hl
      obtain rfl : i = 16 := by omega
      obtain ⟨σ1, eσ1⟩ : ∃ z, z = σ := ⟨_, rfl⟩
      have hP : va_P D vwCl (FW (5 * (n + 2)) ad (CC cs n ad σ1)) H := by rw [eσ1]; exact hP
      refine lv_iload hx hb dX3_linesInSet_5 (lv_at hl 4 rfl) ?_
      refine lv_bipush (v := 16) hx hb dX3_linesInSet_7 (by decide) ?_
      refine lv_icmp_ge (tgt := 43) hx hb dX3_linesInSet_9 (by decide) (fun c2 => ?_) (fun c2 => absurd (show (16 : Int32) ≤ nI 16 from Int32.le_refl _) c2)
      refine lv_iload_n hx hb dX3_linesInSet_43 rfl (lv_at hl 3 rfl) ?_
      exact hret _ _ _ _ () _ _ dX3_linesInSet_44 hP hS (by rw [hq]) (by simp only [eσ1]; first | done | rfl)
    | succ d ih =>
      intro i hi q hq H locs ls hP hS hl
      have hi2 : i < 16 := by omega
      obtain ⟨σ3, eσ3⟩ : ∃ z, z = σ := ⟨_, rfl⟩
      have hP : va_P D vwCl (FW (5 * (n + 2)) ad (CC cs n ad σ3)) H := by rw [eσ3]; exact hP
      refine lv_iload hx hb dX3_linesInSet_5 (lv_at hl 4 rfl) ?_
      refine lv_bipush (v := 16) hx hb dX3_linesInSet_7 (by decide) ?_
      refine lv_icmp_ge (tgt := 43) hx hb dX3_linesInSet_9 (by decide) (fun c4 => absurd c4 (nI_ge hi2 (show 16 < 2 ^ 31 by decide))) (fun c4 => ?_)
      refine lv_iload hx hb dX3_linesInSet_12 (lv_at hl 4 rfl) ?_
      refine lv_iload_n hx hb dX3_linesInSet_14 rfl (lv_at hl 2 rfl) ?_
      refine lv_irem hx hb dX3_linesInSet_15 (nI_ne0 hq0 hq1) ?_
      refine g_top (y := nI (i % q2)) (pk_rem (by omega) hq0 hq1) ?_
      refine lv_iload_n hx hb dX3_linesInSet_16 rfl (lv_at hl 1 rfl) ?_
      refine lv_icmp_ne (tgt := 37) hx hb dX3_linesInSet_17 (by decide) (fun c5 => ?_) (fun c5 => ?_)
      · have hm : ¬ i % q2 = t := fun h => c5 (by rw [h])
        refine lv_iinc (v := nI (i + 1)) (lv' := [(4, .int (nI (i + 1))), (0, .ref (ad (5 * (k + 2) + 2))), (1, .int (nI t)), (2, .int (nI q2)), (3, .int (nI q))]) hx hb dX3_linesInSet_37 hl (k := 4) rfl (nI_1 i) (by decide) rfl (fun ls hl => ?_)
        refine lv_goto (tgt := 5) hx hb dX3_linesInSet_40 (by decide) ?_
        exact ih (i + 1) (by omega) q (by rw [hq, cnt_n hm]) _ _ _ (by simp only [eσ3] at hP; exact hP) hS (lv_sub hl [1, 2, 3, 4, 0] rfl)
      · have hm : i % q2 = t := (nI_eq (by have := Nat.mod_lt i hq0; omega) ht1).mp c5
        refine lv_iload_n hx hb dX3_linesInSet_20 rfl (lv_at hl 3 rfl) ?_
        refine lv_aload_n hx hb dX3_linesInSet_21 rfl (lv_at hl 0 rfl) ?_
        refine va_get (D := D) (ci := 3) (v := .int (σ3.1 22 k 0)) (C := RX3) (T := TX3) (N := 9) hx hb hts iwX3_linesInSet_X3 hown hK hP (5 * (k + 2) + 2) (cc_tx hk) rfl 6 (by decide) (hts _ lkX3_linesInSet_37) (fun _ h9 => h9) rfl dX3_linesInSet_22 ?_
        refine lv_aload_n hx hb dX3_linesInSet_25 rfl (lv_at hl 0 rfl) ?_
        refine va_get (D := D) (ci := 3) (v := .int (σ3.1 23 k 0)) (C := RX3) (T := TX3) (N := 9) hx hb hts iwX3_linesInSet_X3 hown hK hP (5 * (k + 2) + 2) (cc_tx hk) rfl 7 (by decide) (hts _ lkX3_linesInSet_40) (fun _ h9 => h9) rfl dX3_linesInSet_26 ?_
        refine lv_ior hx hb dX3_linesInSet_29 ?_
        refine lv_iload hx hb dX3_linesInSet_30 (lv_at hl 4 rfl) ?_
        refine lv_ishr hx hb dX3_linesInSet_32 ?_
        refine lv_iconst (v := 1) hx hb dX3_linesInSet_33 (by decide) ?_
        refine lv_iand hx hb dX3_linesInSet_34 ?_
        refine lv_iadd hx hb dX3_linesInSet_35 ?_
        refine g_top (y := nI (cntL σ k q2 t (i + 1))) (by simp only [hq, eσ3]; exact cnt_s hm) ?_
        refine lv_istore_n (lv' := [(3, .int (nI (cntL σ k q2 t (i + 1)))), (0, .ref (ad (5 * (k + 2) + 2))), (1, .int (nI t)), (2, .int (nI q2)), (4, .int (nI i))]) hx hb dX3_linesInSet_36 rfl hl (by decide) rfl (fun ls hl => ?_)
        refine lv_iinc (v := nI (i + 1)) (lv' := [(4, .int (nI (i + 1))), (3, .int (nI (cntL σ k q2 t (i + 1)))), (0, .ref (ad (5 * (k + 2) + 2))), (1, .int (nI t)), (2, .int (nI q2))]) hx hb dX3_linesInSet_37 hl (k := 4) rfl (nI_1 i) (by decide) rfl (fun ls hl => ?_)
        refine lv_goto (tgt := 5) hx hb dX3_linesInSet_40 (by decide) ?_
        exact ih (i + 1) (by omega) (cntL σ k q2 t (i + 1)) (rfl) _ _ _ (by simp only [eσ3] at hP; exact hP) hS (lv_sub hl [2, 3, 4, 1, 0] rfl)
  exact loop (16) 0 (by omega) 0 rfl _ _ _ (hP) hS (lv_sub hl [2, 3, 4, 1, 0] rfl)

theorem iwX3_writeTo_X3 : ∀ w ∈ wsX30, w ∈ wsX3_writeTo := fun w h => by unfold wsX3_writeTo; simp only [List.mem_cons, List.mem_append, h, true_or, or_true]
theorem lkX3_writeTo_15 : Cond.fieldLink RX3 15 "CoreTransactions$Transaction" "storedWords" "[I" ∈ wsX3_writeTo := by decide +kernel
abbrev rmX3_writeTo : Room := ({ frames := 1, cells := 0, slots := 0, locals := 21 } : Room)
set_option maxRecDepth 100000 in
set_option maxHeartbeats 4000000 in
theorem kX3_writeTo (l : Launch) (D : va_G) (cs : Nat → ClassId) (n : Nat) (ad : Nat → Nat) (σ : St) (k : Nat) (hk : k < n) : gMv l yX3_writeTo wsX3_writeTo rmX3_writeTo D (tyL cs) (5 * (n + 2)) ad (CC cs n ad σ) [.ref (ad (5 * (k + 2) + 2)), .ref (ad 2)] (fun (u : Unit) => True) (fun (u : Unit) => CC cs n ad (pMemo σ k 64)) := by
  refine g_ofv (cc := cX3_writeTo) (maxL := 3) (by decide) rfl (Nat.le_of_ble_eq_true rfl) rfl rfl ?_
  intro p e s m args below meth c A ls Q hx hb hml hts hown hK hP hD hA hS hl hret
  have hl : lv_has ls 3 [(0, .ref (ad (5 * (k + 2) + 2))), (1, .ref (ad 2))] := hl
  refine lv_iconst (v := 0) hx hb dX3_writeTo_0 (by decide) ?_
  refine lv_istore_n (lv' := [(2, .int 0), (0, .ref (ad (5 * (k + 2) + 2))), (1, .ref (ad 2))]) hx hb dX3_writeTo_1 rfl hl (by decide) rfl (fun ls hl => ?_)
  have loop : ∀ (d i : Nat), i + d = 64 →  ∀ (H : Heap) (locs : List Loc) (ls : Array Slot), va_P D vwCl (FW (5 * (n + 2)) ad (CC cs n ad (pMemo σ k i))) H → va_S A s.heap H locs → lv_has ls 3 [(0, .ref (ad (5 * (k + 2) + 2))), (1, .ref (ad 2)), (2, .int (nI i))] → W p l e rmX3_writeTo s m args below meth c H locs 0 0 Q (F0 m 2 ls []) := by
    intro d
    induction d with
    | zero =>
      intro i hi  H locs ls hP hS hl
      obtain rfl : i = 64 := by omega
      obtain ⟨σ1, eσ1⟩ : ∃ z, z = pMemo σ k 64 := ⟨_, rfl⟩
      have hP : va_P D vwCl (FW (5 * (n + 2)) ad (CC cs n ad σ1)) H := by rw [eσ1]; exact hP
      refine lv_iload_n hx hb dX3_writeTo_2 rfl (lv_at hl 2 rfl) ?_
      refine lv_bipush (v := 64) hx hb dX3_writeTo_3 (by decide) ?_
      refine lv_icmp_ge (tgt := 31) hx hb dX3_writeTo_5 (by decide) (fun c2 => ?_) (fun c2 => absurd (show (64 : Int32) ≤ nI 64 from Int32.le_refl _) c2)
      exact hret _ _ _ () _ _ dX3_writeTo_31 hP hS (trivial) (by simp only [eσ1]; first | done | rfl)
    | succ d ih =>
      intro i hi  H locs ls hP hS hl
      have hi2 : i < 64 := by omega
      obtain ⟨σ3, eσ3⟩ : ∃ z, z = pMemo σ k i := ⟨_, rfl⟩
      have hP : va_P D vwCl (FW (5 * (n + 2)) ad (CC cs n ad σ3)) H := by rw [eσ3]; exact hP
      refine lv_iload_n hx hb dX3_writeTo_2 rfl (lv_at hl 2 rfl) ?_
      refine lv_bipush (v := 64) hx hb dX3_writeTo_3 (by decide) ?_
      refine lv_icmp_ge (tgt := 31) hx hb dX3_writeTo_5 (by decide) (fun c4 => absurd c4 (nI_ge hi2 (show 64 < 2 ^ 31 by decide))) (fun c4 => ?_)
      refine lv_aload_n hx hb dX3_writeTo_8 rfl (lv_at hl 0 rfl) ?_
      refine lv_iload_n hx hb dX3_writeTo_9 rfl (lv_at hl 2 rfl) ?_
      refine g_cvi (As := [.int (nI i)]) ⟨hx, hb, hml, hown, hts⟩ (kX3_hasStored l D cs n ad σ3 k hk i) (cwV 1 hts gX3_writeTo_X3_hasStored rfl rfl rfl (by decide +kernel) ⟨Nat.le_of_ble_eq_true rfl, Nat.le_of_ble_eq_true rfl⟩) hK hP hD hS hA (5 * (k + 2) + 2) (ci := 3) rfl rfl (cc_tx hk) hl.1 dX3_writeTo_10 rfl rfl (Nat.le_of_ble_eq_true rfl) ⟨Nat.zero_le _, Nat.zero_le _⟩ (fun r _ H locs hw hP hS => ?_)
      obtain rfl : r = bI (hasS σ3 k i) := hw
      have hP : va_P D vwCl (FW (5 * (n + 2)) ad (CC cs n ad σ3)) H := hP
      refine lv_if_eq (tgt := 25) hx hb dX3_writeTo_13 (by decide) (fun c5 => ?_) (fun c5 => ?_)
      · have hm : hasS σ3 k i = false := bI0 c5
        refine lv_iinc (v := nI (i + 1)) (lv' := [(2, .int (nI (i + 1))), (0, .ref (ad (5 * (k + 2) + 2))), (1, .ref (ad 2))]) hx hb dX3_writeTo_25 hl (k := 2) rfl (nI_1 i) (by decide) rfl (fun ls hl => ?_)
        refine lv_goto (tgt := 2) hx hb dX3_writeTo_28 (by decide) ?_
        exact ih (i + 1) (by omega)  _ _ _ (by simp only [eσ3] at hP hm; rw [memo_n (σ := σ) hm]; exact hP) hS (lv_sub hl [1, 2, 0] rfl)
      · have hm : hasS σ3 k i = true := bI1 c5
        refine lv_aload_n hx hb dX3_writeTo_16 rfl (lv_at hl 1 rfl) ?_
        refine lv_iload_n hx hb dX3_writeTo_17 rfl (lv_at hl 2 rfl) ?_
        refine lv_aload_n hx hb dX3_writeTo_18 rfl (lv_at hl 0 rfl) ?_
        refine va_get (D := D) (ci := 3) (v := .ref (ad (5 * (k + 2) + 4))) (C := RX3) (T := TX3) (N := 9) hx hb hts iwX3_writeTo_X3 hown hK hP (5 * (k + 2) + 2) (cc_tx hk) rfl 1 (by decide) (hts _ lkX3_writeTo_15) (fun _ h9 => h9) rfl dX3_writeTo_19 ?_
        refine lv_iload_n hx hb dX3_writeTo_22 rfl (lv_at hl 2 rfl) ?_
        refine g_iald (t0 := 0) (v := σ3.1 12 k i) hx hb hK hP (cc_stw hk) rfl i rfl hi2 (by decide) rfl dX3_writeTo_23 ?_
        refine g_iast (t0 := 0) hx hb hK hP hD hS cc_mem rfl i rfl hi2 (by decide) dX3_writeTo_24 (fun H locs hP hS => ?_)
        obtain ⟨σ6, eσ6⟩ : ∃ z, z = put σ3 0 0 i (σ3.1 12 k i) := ⟨_, rfl⟩
        have hP : va_P D vwCl (FW (5 * (n + 2)) ad (CC cs n ad σ6)) H := by rw [eσ6]; exact FW_P hP cu_mem
        refine lv_iinc (v := nI (i + 1)) (lv' := [(2, .int (nI (i + 1))), (0, .ref (ad (5 * (k + 2) + 2))), (1, .ref (ad 2))]) hx hb dX3_writeTo_25 hl (k := 2) rfl (nI_1 i) (by decide) rfl (fun ls hl => ?_)
        refine lv_goto (tgt := 2) hx hb dX3_writeTo_28 (by decide) ?_
        exact ih (i + 1) (by omega)  _ _ _ (by simp only [eσ6, eσ3] at hP hm; rw [← memo_y (σ := σ) hm]; exact hP) hS (lv_sub hl [1, 2, 0] rfl)
  exact loop (64) 0 (by omega)  _ _ _ (by rw [memo_0]; exact hP) hS (lv_sub hl [1, 2, 0] rfl)

theorem iwX0_reset_X0 : ∀ w ∈ wsX00, w ∈ wsX0_reset := fun w h => by unfold wsX0_reset; simp only [List.mem_cons, List.mem_append, h, true_or, or_true]
theorem lkX0_reset_9 : Cond.fieldLink RX0 9 "CoreTransactions$Core" "registers" "[I" ∈ wsX0_reset := by decide +kernel
theorem lkX0_reset_18 : Cond.fieldLink RX0 18 "CoreTransactions$Core" "transaction" "LCoreTransactions$Transaction;" ∈ wsX0_reset := by decide +kernel
theorem lkX0_reset_29 : Cond.fieldLink RX0 29 "CoreTransactions$Core" "place" "I" ∈ wsX0_reset := by decide +kernel
theorem lkX0_reset_32 : Cond.fieldLink RX0 32 "CoreTransactions$Core" "ended" "Z" ∈ wsX0_reset := by decide +kernel
theorem lkX0_reset_36 : Cond.fieldLink RX0 36 "CoreTransactions$Core" "retired" "I" ∈ wsX0_reset := by decide +kernel
theorem lkX0_reset_39 : Cond.fieldLink RX0 39 "CoreTransactions$Core" "committed" "I" ∈ wsX0_reset := by decide +kernel
theorem lkX0_reset_42 : Cond.fieldLink RX0 42 "CoreTransactions$Core" "brokenOff" "I" ∈ wsX0_reset := by decide +kernel
abbrev rmX0_reset : Room := ({ frames := 1, cells := 0, slots := 0, locals := 20 } : Room)
set_option maxRecDepth 100000 in
set_option maxHeartbeats 4000000 in
theorem kX0_reset (l : Launch) (D : va_G) (cs : Nat → ClassId) (n : Nat) (ad : Nat → Nat) (σ : St) (k : Nat) (hk : k < n) : gMv l yX0_reset wsX0_reset rmX0_reset D (tyL cs) (5 * (n + 2)) ad (CC cs n ad σ) [.ref (ad (5 * (k + 2) + 0))] (fun (u : Unit) => True) (fun (u : Unit) => CC cs n ad (pReset σ k)) := by
  refine g_ofv (cc := cX0_reset) (maxL := 2) (by decide) rfl (Nat.le_of_ble_eq_true rfl) rfl rfl ?_
  intro p e s m args below meth c A ls Q hx hb hml hts hown hK hP hD hA hS hl hret
  have hl : lv_has ls 2 [(0, .ref (ad (5 * (k + 2) + 0)))] := hl
  refine lv_iconst (v := 0) hx hb dX0_reset_0 (by decide) ?_
  refine lv_istore_n (lv' := [(1, .int 0), (0, .ref (ad (5 * (k + 2) + 0)))]) hx hb dX0_reset_1 rfl hl (by decide) rfl (fun ls hl => ?_)
  have loop : ∀ (d i : Nat), i + d = 8 →  ∀ (H : Heap) (locs : List Loc) (ls : Array Slot), va_P D vwCl (FW (5 * (n + 2)) ad (CC cs n ad (putA σ 10 k (fun j => if j < i then 0 else σ.1 10 k j)))) H → va_S A s.heap H locs → lv_has ls 2 [(0, .ref (ad (5 * (k + 2) + 0))), (1, .int (nI i))] → W p l e rmX0_reset s m args below meth c H locs 0 0 Q (F0 m 2 ls []) := by
    intro d
    induction d with
    | zero =>
      intro i hi  H locs ls hP hS hl
      obtain rfl : i = 8 := by omega
      obtain ⟨σ1, eσ1⟩ : ∃ z, z = putA σ 10 k (fun j => if j < 8 then 0 else σ.1 10 k j) := ⟨_, rfl⟩
      have hP : va_P D vwCl (FW (5 * (n + 2)) ad (CC cs n ad σ1)) H := by rw [eσ1]; exact hP
      refine lv_iload_n hx hb dX0_reset_2 rfl (lv_at hl 1 rfl) ?_
      refine lv_bipush (v := 8) hx hb dX0_reset_3 (by decide) ?_
      refine lv_icmp_ge (tgt := 21) hx hb dX0_reset_5 (by decide) (fun c2 => ?_) (fun c2 => absurd (show (8 : Int32) ≤ nI 8 from Int32.le_refl _) c2)
      refine lv_aload_n hx hb dX0_reset_21 rfl (lv_at hl 0 rfl) ?_
      refine va_get (D := D) (ci := 0) (v := .ref (ad (5 * (k + 2) + 2))) (C := RX0) (T := TX0) (N := 8) hx hb hts iwX0_reset_X0 hown hK hP (5 * (k + 2) + 0) (cc_core hk) rfl 2 (by decide) (hts _ lkX0_reset_18) (fun _ h9 => h9) rfl dX0_reset_22 ?_
      refine g_cvv (As := []) ⟨hx, hb, hml, hown, hts⟩ (kX3_close l D cs n ad σ1 k hk) (cwV 0 hts gX0_reset_X3_close rfl rfl rfl (by decide +kernel) ⟨Nat.le_of_ble_eq_true rfl, Nat.le_of_ble_eq_true rfl⟩) hK hP hD hS hA (5 * (k + 2) + 2) (ci := 3) rfl rfl (cc_tx hk) hl.1 dX0_reset_25 rfl rfl (Nat.le_of_ble_eq_true rfl) ⟨Nat.zero_le _, Nat.zero_le _⟩ (fun _ H locs hw hP hS => ?_)
      obtain ⟨σ3, eσ3⟩ : ∃ z, z = pClose σ1 k := ⟨_, rfl⟩
      have hP : va_P D vwCl (FW (5 * (n + 2)) ad (CC cs n ad σ3)) H := by rw [eσ3]; exact hP
      refine lv_aload_n hx hb dX0_reset_28 rfl (lv_at hl 0 rfl) ?_
      refine lv_iconst (v := 0) hx hb dX0_reset_29 (by decide) ?_
      refine va_put (D := D) (ci := 0) (v := .int 0) (ty := .int) (C := RX0) (T := TX0) (N := 8) hx hb hts iwX0_reset_X0 tyX0 tyX0_ok nmX0 hown hK hP (hD _) hS (5 * (k + 2) + 0) (cc_core hk) rfl 3 (by decide) (hts _ lkX0_reset_29) (fun _ h9 => h9) rfl (by decide +kernel) rfl rfl (Nat.le_of_ble_eq_true rfl) dX0_reset_30 (fun H locs hP _ hS => ?_)
      obtain ⟨σ4, eσ4⟩ : ∃ z, z = put σ3 13 k 0 0 := ⟨_, rfl⟩
      have hP : va_P D vwCl (FW (5 * (n + 2)) ad (CC cs n ad σ4)) H := by rw [eσ4]; exact FW_P hP cu_core_3
      refine lv_aload_n hx hb dX0_reset_33 rfl (lv_at hl 0 rfl) ?_
      refine lv_iconst (v := 0) hx hb dX0_reset_34 (by decide) ?_
      refine va_put (D := D) (ci := 0) (v := .int 0) (ty := .boolean) (C := RX0) (T := TX0) (N := 8) hx hb hts iwX0_reset_X0 tyX0 tyX0_ok nmX0 hown hK hP (hD _) hS (5 * (k + 2) + 0) (cc_core hk) rfl 4 (by decide) (hts _ lkX0_reset_32) (fun _ h9 => h9) rfl (by decide +kernel) rfl rfl (Nat.le_of_ble_eq_true rfl) dX0_reset_35 (fun H locs hP _ hS => ?_)
      obtain ⟨σ5, eσ5⟩ : ∃ z, z = put σ4 14 k 0 0 := ⟨_, rfl⟩
      have hP : va_P D vwCl (FW (5 * (n + 2)) ad (CC cs n ad σ5)) H := by rw [eσ5]; exact FW_P hP cu_core_4
      refine lv_aload_n hx hb dX0_reset_38 rfl (lv_at hl 0 rfl) ?_
      refine lv_iconst (v := 0) hx hb dX0_reset_39 (by decide) ?_
      refine va_put (D := D) (ci := 0) (v := .int 0) (ty := .int) (C := RX0) (T := TX0) (N := 8) hx hb hts iwX0_reset_X0 tyX0 tyX0_ok nmX0 hown hK hP (hD _) hS (5 * (k + 2) + 0) (cc_core hk) rfl 5 (by decide) (hts _ lkX0_reset_36) (fun _ h9 => h9) rfl (by decide +kernel) rfl rfl (Nat.le_of_ble_eq_true rfl) dX0_reset_40 (fun H locs hP _ hS => ?_)
      obtain ⟨σ6, eσ6⟩ : ∃ z, z = put σ5 15 k 0 0 := ⟨_, rfl⟩
      have hP : va_P D vwCl (FW (5 * (n + 2)) ad (CC cs n ad σ6)) H := by rw [eσ6]; exact FW_P hP cu_core_5
      refine lv_aload_n hx hb dX0_reset_43 rfl (lv_at hl 0 rfl) ?_
      refine lv_iconst (v := 0) hx hb dX0_reset_44 (by decide) ?_
      refine va_put (D := D) (ci := 0) (v := .int 0) (ty := .int) (C := RX0) (T := TX0) (N := 8) hx hb hts iwX0_reset_X0 tyX0 tyX0_ok nmX0 hown hK hP (hD _) hS (5 * (k + 2) + 0) (cc_core hk) rfl 6 (by decide) (hts _ lkX0_reset_39) (fun _ h9 => h9) rfl (by decide +kernel) rfl rfl (Nat.le_of_ble_eq_true rfl) dX0_reset_45 (fun H locs hP _ hS => ?_)
      obtain ⟨σ7, eσ7⟩ : ∃ z, z = put σ6 16 k 0 0 := ⟨_, rfl⟩
      have hP : va_P D vwCl (FW (5 * (n + 2)) ad (CC cs n ad σ7)) H := by rw [eσ7]; exact FW_P hP cu_core_6
      refine lv_aload_n hx hb dX0_reset_48 rfl (lv_at hl 0 rfl) ?_
      refine lv_iconst (v := 0) hx hb dX0_reset_49 (by decide) ?_
      refine va_put (D := D) (ci := 0) (v := .int 0) (ty := .int) (C := RX0) (T := TX0) (N := 8) hx hb hts iwX0_reset_X0 tyX0 tyX0_ok nmX0 hown hK hP (hD _) hS (5 * (k + 2) + 0) (cc_core hk) rfl 7 (by decide) (hts _ lkX0_reset_42) (fun _ h9 => h9) rfl (by decide +kernel) rfl rfl (Nat.le_of_ble_eq_true rfl) dX0_reset_50 (fun H locs hP _ hS => ?_)
      obtain ⟨σ8, eσ8⟩ : ∃ z, z = put σ7 17 k 0 0 := ⟨_, rfl⟩
      have hP : va_P D vwCl (FW (5 * (n + 2)) ad (CC cs n ad σ8)) H := by rw [eσ8]; exact FW_P hP cu_core_7
      exact hret _ _ _ () _ _ dX0_reset_53 hP hS (trivial) (by simp only [eσ8, eσ7, eσ6, eσ5, eσ4, eσ3, eσ1]; first | done | rfl)
    | succ d ih =>
      intro i hi  H locs ls hP hS hl
      have hi2 : i < 8 := by omega
      obtain ⟨σ9, eσ9⟩ : ∃ z, z = putA σ 10 k (fun j => if j < i then 0 else σ.1 10 k j) := ⟨_, rfl⟩
      have hP : va_P D vwCl (FW (5 * (n + 2)) ad (CC cs n ad σ9)) H := by rw [eσ9]; exact hP
      refine lv_iload_n hx hb dX0_reset_2 rfl (lv_at hl 1 rfl) ?_
      refine lv_bipush (v := 8) hx hb dX0_reset_3 (by decide) ?_
      refine lv_icmp_ge (tgt := 21) hx hb dX0_reset_5 (by decide) (fun c10 => absurd c10 (nI_ge hi2 (show 8 < 2 ^ 31 by decide))) (fun c10 => ?_)
      refine lv_aload_n hx hb dX0_reset_8 rfl (lv_at hl 0 rfl) ?_
      refine va_get (D := D) (ci := 0) (v := .ref (ad (5 * (k + 2) + 1))) (C := RX0) (T := TX0) (N := 8) hx hb hts iwX0_reset_X0 hown hK hP (5 * (k + 2) + 0) (cc_core hk) rfl 1 (by decide) (hts _ lkX0_reset_9) (fun _ h9 => h9) rfl dX0_reset_9 ?_
      refine lv_iload_n hx hb dX0_reset_12 rfl (lv_at hl 1 rfl) ?_
      refine lv_iconst (v := 0) hx hb dX0_reset_13 (by decide) ?_
      refine g_iast (t0 := 0) hx hb hK hP hD hS (cc_regs hk) rfl i rfl hi2 (by decide) dX0_reset_14 (fun H locs hP hS => ?_)
      obtain ⟨σ11, eσ11⟩ : ∃ z, z = put σ9 10 k i 0 := ⟨_, rfl⟩
      have hP : va_P D vwCl (FW (5 * (n + 2)) ad (CC cs n ad σ11)) H := by rw [eσ11]; exact FW_P hP cu_regs
      refine lv_iinc (v := nI (i + 1)) (lv' := [(1, .int (nI (i + 1))), (0, .ref (ad (5 * (k + 2) + 0)))]) hx hb dX0_reset_15 hl (k := 1) rfl (nI_1 i) (by decide) rfl (fun ls hl => ?_)
      refine lv_goto (tgt := 2) hx hb dX0_reset_18 (by decide) ?_
      exact ih (i + 1) (by omega)  _ _ _ (by simp only [eσ11, eσ9] at hP; rw [putA_step (g' := fun j => if j < i + 1 then 0 else σ.1 10 k j) (fun j => by by_cases h1 : j = i <;> by_cases h2 : j < i <;> simp [h1, h2] <;> omega)] at hP; exact hP) hS (lv_sub hl [1, 0] rfl)
  exact loop (8) 0 (by omega)  _ _ _ (by rw [putA_0 (fun j => by simp)]; exact hP) hS (lv_sub hl [1, 0] rfl)

abbrev rmX4_isRegister : Room := ({ frames := 0, cells := 0, slots := 0, locals := 0 } : Room)
set_option maxRecDepth 100000 in
set_option maxHeartbeats 4000000 in
theorem kX4_isRegister (l : Launch) (D : va_G) (cs : Nat → ClassId) (n : Nat) (ad : Nat → Nat) (σ : St) (x : Int32) : gMi l yX4_isRegister wsX4_isRegister rmX4_isRegister D (tyL cs) (5 * (n + 2)) ad (CC cs n ad σ) [.int x] (fun (r : Int32) (u : Unit) => r = bI (decide (0 ≤ x ∧ x < 8))) (fun (u : Unit) => CC cs n ad σ) := by
  refine g_ofz (cc := cX4_isRegister) (maxL := 1) (by decide) rfl (Nat.le_of_ble_eq_true rfl) rfl rfl ?_
  intro p e s m args below meth c A ls Q hx hb hml hts hown hK hP hD hA hS hl hret
  have hl : lv_has ls 1 [(0, .int x)] := hl
  refine lv_iload_n hx hb dX4_isRegister_0 rfl (lv_at hl 0 rfl) ?_
  refine lv_if_lt (tgt := 14) hx hb dX4_isRegister_1 (by decide) (fun c1 => ?_) (fun c1 => ?_)
  · refine lv_iconst (v := 0) hx hb dX4_isRegister_14 (by decide) ?_
    exact hret _ _ _ _ () _ _ dX4_isRegister_15 hP hS (Or.inl rfl) ((bI_n (fun h => absurd h.1 (Int32.not_le.mpr c1))).symm) (rfl)
  · refine lv_iload_n hx hb dX4_isRegister_4 rfl (lv_at hl 0 rfl) ?_
    refine lv_bipush (v := 8) hx hb dX4_isRegister_5 (by decide) ?_
    refine lv_icmp_ge (tgt := 14) hx hb dX4_isRegister_7 (by decide) (fun c2 => ?_) (fun c2 => ?_)
    · refine lv_iconst (v := 0) hx hb dX4_isRegister_14 (by decide) ?_
      exact hret _ _ _ _ () _ _ dX4_isRegister_15 hP hS (Or.inl rfl) ((bI_n (fun h => absurd h.2 (Int32.not_lt.mpr c2))).symm) (rfl)
    · refine lv_iconst (v := 1) hx hb dX4_isRegister_10 (by decide) ?_
      refine lv_goto (tgt := 15) hx hb dX4_isRegister_11 (by decide) ?_
      exact hret _ _ _ _ () _ _ dX4_isRegister_15 hP hS (Or.inr rfl) ((bI_d ⟨Int32.not_lt.mp c1, Int32.not_le.mp c2⟩).symm) (rfl)

abbrev rmX4_isWord : Room := ({ frames := 0, cells := 0, slots := 0, locals := 0 } : Room)
set_option maxRecDepth 100000 in
set_option maxHeartbeats 4000000 in
theorem kX4_isWord (l : Launch) (D : va_G) (cs : Nat → ClassId) (n : Nat) (ad : Nat → Nat) (σ : St) (x : Int32) : gMi l yX4_isWord wsX4_isWord rmX4_isWord D (tyL cs) (5 * (n + 2)) ad (CC cs n ad σ) [.int x] (fun (r : Int32) (u : Unit) => r = bI (decide (0 ≤ x ∧ x < 64))) (fun (u : Unit) => CC cs n ad σ) := by
  refine g_ofz (cc := cX4_isWord) (maxL := 1) (by decide) rfl (Nat.le_of_ble_eq_true rfl) rfl rfl ?_
  intro p e s m args below meth c A ls Q hx hb hml hts hown hK hP hD hA hS hl hret
  have hl : lv_has ls 1 [(0, .int x)] := hl
  refine lv_iload_n hx hb dX4_isWord_0 rfl (lv_at hl 0 rfl) ?_
  refine lv_if_lt (tgt := 14) hx hb dX4_isWord_1 (by decide) (fun c1 => ?_) (fun c1 => ?_)
  · refine lv_iconst (v := 0) hx hb dX4_isWord_14 (by decide) ?_
    exact hret _ _ _ _ () _ _ dX4_isWord_15 hP hS (Or.inl rfl) ((bI_n (fun h => absurd h.1 (Int32.not_le.mpr c1))).symm) (rfl)
  · refine lv_iload_n hx hb dX4_isWord_4 rfl (lv_at hl 0 rfl) ?_
    refine lv_bipush (v := 64) hx hb dX4_isWord_5 (by decide) ?_
    refine lv_icmp_ge (tgt := 14) hx hb dX4_isWord_7 (by decide) (fun c2 => ?_) (fun c2 => ?_)
    · refine lv_iconst (v := 0) hx hb dX4_isWord_14 (by decide) ?_
      exact hret _ _ _ _ () _ _ dX4_isWord_15 hP hS (Or.inl rfl) ((bI_n (fun h => absurd h.2 (Int32.not_lt.mpr c2))).symm) (rfl)
    · refine lv_iconst (v := 1) hx hb dX4_isWord_10 (by decide) ?_
      refine lv_goto (tgt := 15) hx hb dX4_isWord_11 (by decide) ?_
      exact hret _ _ _ _ () _ _ dX4_isWord_15 hP hS (Or.inr rfl) ((bI_d ⟨Int32.not_lt.mp c1, Int32.not_le.mp c2⟩).symm) (rfl)

abbrev rmX4_isManyPicks : Room := ({ frames := 0, cells := 0, slots := 0, locals := 0 } : Room)
set_option maxRecDepth 100000 in
set_option maxHeartbeats 4000000 in
theorem kX4_isManyPicks (l : Launch) (D : va_G) (cs : Nat → ClassId) (n : Nat) (ad : Nat → Nat) (σ : St) (x : Int32) : gMi l yX4_isManyPicks wsX4_isManyPicks rmX4_isManyPicks D (tyL cs) (5 * (n + 2)) ad (CC cs n ad σ) [.int x] (fun (r : Int32) (u : Unit) => r = bI (decide (0 ≤ x ∧ x ≤ 2000))) (fun (u : Unit) => CC cs n ad σ) := by
  refine g_ofz (cc := cX4_isManyPicks) (maxL := 1) (by decide) rfl (Nat.le_of_ble_eq_true rfl) rfl rfl ?_
  intro p e s m args below meth c A ls Q hx hb hml hts hown hK hP hD hA hS hl hret
  have hl : lv_has ls 1 [(0, .int x)] := hl
  refine lv_iload_n hx hb dX4_isManyPicks_0 rfl (lv_at hl 0 rfl) ?_
  refine lv_if_lt (tgt := 15) hx hb dX4_isManyPicks_1 (by decide) (fun c1 => ?_) (fun c1 => ?_)
  · refine lv_iconst (v := 0) hx hb dX4_isManyPicks_15 (by decide) ?_
    exact hret _ _ _ _ () _ _ dX4_isManyPicks_16 hP hS (Or.inl rfl) ((bI_n (fun h => absurd h.1 (Int32.not_le.mpr c1))).symm) (rfl)
  · refine lv_iload_n hx hb dX4_isManyPicks_4 rfl (lv_at hl 0 rfl) ?_
    refine lv_sipush (v := 2000) hx hb dX4_isManyPicks_5 (by decide) ?_
    refine lv_icmp_gt (tgt := 15) hx hb dX4_isManyPicks_8 (by decide) (fun c2 => ?_) (fun c2 => ?_)
    · refine lv_iconst (v := 0) hx hb dX4_isManyPicks_15 (by decide) ?_
      exact hret _ _ _ _ () _ _ dX4_isManyPicks_16 hP hS (Or.inl rfl) ((bI_n (fun h => absurd h.2 (Int32.not_le.mpr c2))).symm) (rfl)
    · refine lv_iconst (v := 1) hx hb dX4_isManyPicks_11 (by decide) ?_
      refine lv_goto (tgt := 16) hx hb dX4_isManyPicks_12 (by decide) ?_
      exact hret _ _ _ _ () _ _ dX4_isManyPicks_16 hP hS (Or.inr rfl) ((bI_d ⟨Int32.not_lt.mp c1, Int32.not_lt.mp c2⟩).symm) (rfl)

theorem iwX4_isCore_X4 : ∀ w ∈ wsX40, w ∈ wsX4_isCore := fun w h => by unfold wsX4_isCore; simp only [List.mem_cons, List.mem_append, h, true_or, or_true]
theorem lkX4_isCore_40 : Cond.fieldLink RX4 40 "CoreTransactions" "cores" "[LCoreTransactions$Core;" ∈ wsX4_isCore := by decide +kernel
abbrev rmX4_isCore : Room := ({ frames := 0, cells := 0, slots := 0, locals := 0 } : Room)
set_option maxRecDepth 100000 in
set_option maxHeartbeats 4000000 in
theorem kX4_isCore (l : Launch) (D : va_G) (cs : Nat → ClassId) (n : Nat) (ad : Nat → Nat) (σ : St) (x : Int32) : gMi l yX4_isCore wsX4_isCore rmX4_isCore D (tyL cs) (5 * (n + 2)) ad (CC cs n ad σ) [.ref (ad 0), .int x] (fun (r : Int32) (u : Unit) => r = bI (decide (0 ≤ x ∧ x < nI n))) (fun (u : Unit) => CC cs n ad σ) := by
  refine g_ofz (cc := cX4_isCore) (maxL := 2) (by decide) rfl (Nat.le_of_ble_eq_true rfl) rfl rfl ?_
  intro p e s m args below meth c A ls Q hx hb hml hts hown hK hP hD hA hS hl hret
  have hl : lv_has ls 2 [(0, .ref (ad 0)), (1, .int x)] := hl
  refine lv_iload_n hx hb dX4_isCore_0 rfl (lv_at hl 1 rfl) ?_
  refine lv_if_lt (tgt := 17) hx hb dX4_isCore_1 (by decide) (fun c1 => ?_) (fun c1 => ?_)
  · refine lv_iconst (v := 0) hx hb dX4_isCore_17 (by decide) ?_
    exact hret _ _ _ _ () _ _ dX4_isCore_18 hP hS (Or.inl rfl) ((bI_n (fun h => absurd h.1 (Int32.not_le.mpr c1))).symm) (rfl)
  · refine lv_iload_n hx hb dX4_isCore_4 rfl (lv_at hl 1 rfl) ?_
    refine lv_aload_n hx hb dX4_isCore_5 rfl (lv_at hl 0 rfl) ?_
    refine va_get (D := D) (ci := 4) (v := .ref (ad 1)) (C := RX4) (T := TX4) (N := 7) hx hb hts iwX4_isCore_X4 hown hK hP 0 cc_obj rfl 2 (by decide) (hts _ lkX4_isCore_40) (fun _ h9 => h9) rfl dX4_isCore_6 ?_
    refine va_alen hx hb hK hP 1 1 cc_cor rfl (v := nI n) rfl dX4_isCore_9 ?_
    refine lv_icmp_ge (tgt := 17) hx hb dX4_isCore_10 (by decide) (fun c2 => ?_) (fun c2 => ?_)
    · refine lv_iconst (v := 0) hx hb dX4_isCore_17 (by decide) ?_
      exact hret _ _ _ _ () _ _ dX4_isCore_18 hP hS (Or.inl rfl) ((bI_n (fun h => absurd h.2 (Int32.not_lt.mpr c2))).symm) (rfl)
    · refine lv_iconst (v := 1) hx hb dX4_isCore_13 (by decide) ?_
      refine lv_goto (tgt := 18) hx hb dX4_isCore_14 (by decide) ?_
      exact hret _ _ _ _ () _ _ dX4_isCore_18 hP hS (Or.inr rfl) ((bI_d ⟨Int32.not_lt.mp c1, Int32.not_le.mp c2⟩).symm) (rfl)
end
section
/-! what the functions keep: plain facts -/
theorem pAdd_at {σ : St} {a b c d : Int32} {f k j : Nat} (h6 : f ≠ 6) (h7 : f ≠ 7) (h8 : f ≠ 8) (h24 : f ≠ 24) : (pAdd σ a b c d).1 f k j = σ.1 f k j := by
  unfold pAdd
  dsimp only
  split <;> simp [put, putA, h6, h7, h8, h24]
theorem pAdd_2 {σ : St} {a b c d : Int32} : (pAdd σ a b c d).2 = σ.2 := by
  unfold pAdd
  dsimp only
  split <;> rfl
def okQ (σ : St) : Prop := ∃ o q, o < 100 ∧ q ≤ 100 ∧ σ.1 8 0 0 = nI o ∧ σ.1 7 0 0 = nI q
theorem okQ_pAdd {σ : St} {a b c d : Int32} (h : okQ σ) : okQ (pAdd σ a b c d) := by
  obtain ⟨o, q, ho2, hq2, ho, hq⟩ := h
  obtain ⟨g, hg⟩ := pAdd_eq ho hq ho2 hq2 a b c d
  rw [hg]
  by_cases h : q < 100
  · rw [if_pos h]
    exact ⟨o, q + 1, ho2, h, ho, rfl⟩
  · rw [if_neg h]
    exact ⟨(o + 1) % 100, q, Nat.mod_lt _ (by decide), hq2, rfl, hq⟩
theorem okQ_of {σ τ : St} (h : okQ σ) (h8 : τ.1 8 0 0 = σ.1 8 0 0) (h7 : τ.1 7 0 0 = σ.1 7 0 0) : okQ τ := by
  obtain ⟨o, q, ho2, hq2, ho, hq⟩ := h
  exact ⟨o, q, ho2, hq2, h8.trans ho, h7.trans hq⟩
theorem okQ_break {σ : St} {k : Nat} {c : Int32} (h : okQ σ) : okQ (pBreak σ k c) := okQ_of (okQ_pAdd h) rfl rfl
/-- a core's break-off leaves all rows but its own and the records -/
theorem pBreak_at {σ : St} {k : Nat} {c : Int32} {f k' j : Nat} (h6 : f ≠ 6) (h7 : f ≠ 7) (h8 : f ≠ 8) (h24 : f ≠ 24) (h : k' ≠ k ∨ (f ≠ 10 ∧ f ≠ 13 ∧ f ≠ 17 ∧ f ≠ 18 ∧ f ≠ 19 ∧ f ≠ 22 ∧ f ≠ 23)) : (pBreak σ k c).1 f k' j = σ.1 f k' j := by
  have e := pAdd_at (σ := σ) (a := nI k) (b := σ.1 20 k 0) (c := c) (d := σ.1 19 k 0) (f := f) (k := k') (j := j) h6 h7 h8 h24
  rcases h with h | ⟨h1, h2, h3, h4, h5, h6, h7⟩
  · simp [pBreak, pClose, put, putA, putL, h, e]
  · simp [pBreak, pClose, put, putA, putL, h1, h2, h3, h4, h5, h6, h7, e]
theorem pBreak_2 {σ : St} {k k' : Nat} {c : Int32} (h : k' ≠ k) : (pBreak σ k c).2 k' = σ.2 k' := by
  simp [pBreak, pClose, put, putA, putL, h, pAdd_2]
theorem okQ_BA {acc : Int32} {ln : Nat} {w : Bool} {σ : St} (h : okQ σ) : ∀ m, okQ (pBA acc ln w m σ)
  | 0 => h
  | m + 1 => by
    unfold pBA
    split
    · exact okQ_break (okQ_BA h m)
    · exact okQ_BA h m
theorem pBA_at {acc : Int32} {ln : Nat} {w : Bool} {σ : St} {f k' j : Nat} (h6 : f ≠ 6) (h7 : f ≠ 7) (h8 : f ≠ 8) (h24 : f ≠ 24) (h : nI k' = acc ∨ (f ≠ 10 ∧ f ≠ 13 ∧ f ≠ 17 ∧ f ≠ 18 ∧ f ≠ 19 ∧ f ≠ 22 ∧ f ≠ 23)) : ∀ m, (pBA acc ln w m σ).1 f k' j = σ.1 f k' j
  | 0 => rfl
  | m + 1 => by
    unfold pBA
    split
    · rename_i hc
      rw [pBreak_at h6 h7 h8 h24 (h.imp (fun e q => hc.1 (by rw [← e, q])) id)]
      exact pBA_at h6 h7 h8 h24 h m
    · exact pBA_at h6 h7 h8 h24 h m
theorem pBA_2 {acc : Int32} {ln : Nat} {w : Bool} {σ : St} {k' : Nat} (h : nI k' = acc) : ∀ m, (pBA acc ln w m σ).2 k' = σ.2 k'
  | 0 => rfl
  | m + 1 => by
    unfold pBA
    split
    · rename_i hc
      rw [pBreak_2 (fun q => hc.1 (by rw [← h, q]))]
      exact pBA_2 h m
    · exact pBA_2 h m
theorem pMark_at {σ : St} {k ln : Nat} {w : Bool} {f k' j : Nat} (h1 : f ≠ 22) (h2 : f ≠ 23) : (pMark σ k ln w).1 f k' j = σ.1 f k' j := by
  unfold pMark
  split <;> simp [put, h1, h2]
theorem mOld_mono {σ : St} {k ln : Nat} {w : Bool} {m n : Nat} (h : m ≤ n) (hm : mOld σ k ln w m = true) : mOld σ k ln w n = true := by
  induction n with
  | zero => rw [← Nat.le_zero.mp h]; exact hm
  | succ n ih =>
    rcases Nat.lt_or_ge m (n + 1) with q | q
    · unfold mOld; rw [ih (by omega)]; rfl
    · rw [← Nat.le_antisymm h q]; exact hm
theorem i32_of {x : Int32} {N : Nat} (hN : N < 2 ^ 31) (h0 : 0 ≤ x) (h1 : x < nI N) : ∃ j, j < N ∧ x = nI j := by
  obtain ⟨j, h2, rfl⟩ := nI_of (x := x) (fun h => absurd h (Int32.not_lt.mpr h0))
  exact ⟨j, (nI_ltI h2 hN).mp h1, rfl⟩
theorem i32_ofle {x : Int32} {N : Nat} (hN : N < 2 ^ 31) (h0 : 0 ≤ x) (h1 : x ≤ nI N) : ∃ j, j ≤ N ∧ x = nI j := by
  obtain ⟨j, h2, rfl⟩ := nI_of (x := x) (fun h => absurd h (Int32.not_lt.mpr h0))
  exact ⟨j, (nI_leI h2 hN).mp h1, rfl⟩
theorem nI_0le {j : Nat} (h : j < 2 ^ 31) : (0 : Int32) ≤ nI j := (nI_leI (by decide) h).mpr (Nat.zero_le j)
theorem pMay_in {σ : St} {n k j : Nat} {w : Bool} (hj : j < 64) : pMay σ n k (nI j) w = (if mOld σ k (j / 4) w n = true then (pBreak σ k 4, false)
    else if (pBA (nI k) (j / 4) w n σ).1 18 k 0 = 0 then (pBA (nI k) (j / 4) w n σ, true)
    else if σ.1 28 0 0 < nI (cntL (pMark (pBA (nI k) (j / 4) w n σ) k (j / 4) w) k (iN (σ.1 27 0 0)) (j / 4 % iN (σ.1 27 0 0)) 16) then (pBreak (pMark (pBA (nI k) (j / 4) w n σ) k (j / 4) w) k 3, false)
    else (pMark (pBA (nI k) (j / 4) w n σ) k (j / 4) w, true)) := by
  unfold pMay
  rw [if_pos ⟨nI_0le (by omega), (nI_ltI (by omega) (by decide)).mpr hj⟩, iN_nI (show j < 2 ^ 31 by omega)]
theorem pMay_out {σ : St} {n k : Nat} {x : Int32} {w : Bool} (h : ¬ (0 ≤ x ∧ x < 64)) : pMay σ n k x w = (pFault σ k, false) := by
  unfold pMay
  rw [if_neg h]
theorem pExec_t {σ τ : St} {n k i : Nat} {x : Int32} (h : pDoes σ n k i = (τ, x, true)) : pExec σ n k i = (put τ 13 k 0 x, true) := by
  simp [pExec, h]
theorem pExec_f {σ τ : St} {n k i : Nat} {x : Int32} (h : pDoes σ n k i = (τ, x, false)) : pExec σ n k i = (τ, false) := by
  simp [pExec, h]
theorem pGive_at {σ : St} {k r : Nat} {v : Int32} {f k' j : Nat} (h : f ≠ 10) : (pGive σ k r v).1 f k' j = σ.1 f k' j := by
  unfold pGive
  split <;> simp [put, h]
theorem pMay_ok {σ : St} {n k : Nat} {x : Int32} {w : Bool} (h : (pMay σ n k x w).2 = true) {f j : Nat} (h6 : f ≠ 6) (h7 : f ≠ 7) (h8 : f ≠ 8) (h24 : f ≠ 24) (h22 : f ≠ 22) (h23 : f ≠ 23) : (pMay σ n k x w).1.1 f k j = σ.1 f k j := by
  unfold pMay at h ⊢
  split at h
  · rename_i h1
    rw [if_pos h1]
    split at h
    · cases h
    · rename_i h2
      rw [if_neg h2]
      split at h
      · rename_i h3
        rw [if_pos h3]
        exact pBA_at h6 h7 h8 h24 (Or.inl rfl) n
      · rename_i h3
        rw [if_neg h3]
        split at h
        · cases h
        · rename_i h4
          rw [if_neg h4]
          show (pMark _ k _ w).1 f k j = _
          rw [pMark_at h22 h23]
          exact pBA_at h6 h7 h8 h24 (Or.inl rfl) n
  · cases h
theorem pMay_fix {σ : St} {n k : Nat} {x : Int32} {w : Bool} {f k' j : Nat} (h6 : f ≠ 6) (h7 : f ≠ 7) (h8 : f ≠ 8) (h24 : f ≠ 24) (hf : f ≠ 10 ∧ f ≠ 13 ∧ f ≠ 17 ∧ f ≠ 18 ∧ f ≠ 19 ∧ f ≠ 22 ∧ f ≠ 23) (h14 : f ≠ 14) : (pMay σ n k x w).1.1 f k' j = σ.1 f k' j := by
  unfold pMay
  split
  · split
    · exact pBreak_at h6 h7 h8 h24 (Or.inr hf)
    · split
      · exact pBA_at h6 h7 h8 h24 (Or.inr hf) n
      · split
        · rw [pBreak_at h6 h7 h8 h24 (Or.inr hf), pMark_at hf.2.2.2.2.2.1 hf.2.2.2.2.2.2]
          exact pBA_at h6 h7 h8 h24 (Or.inr hf) n
        · rw [pMark_at hf.2.2.2.2.2.1 hf.2.2.2.2.2.2]
          exact pBA_at h6 h7 h8 h24 (Or.inr hf) n
  · show (pFault σ k).1 f k' j = _
    unfold pFault
    split
    · exact pBreak_at h6 h7 h8 h24 (Or.inr hf)
    · simp [put, h14]
end
