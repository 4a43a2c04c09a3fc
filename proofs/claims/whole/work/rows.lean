section
-- ===== PART A: goes FIRST, ahead of the names: the tables' words, and 'selects' of the private methods out of them =====
/-- a private method of a class that the tables say can be made, by its rows of tables_1 -/
def lw_okq (q : MethodName × Nat) : Prop := (q.1.cls ≠ "java/lang/invoke/MethodHandle" ∧ q.1.cls ≠ "java/lang/invoke/VarHandle") ∧ Cond.instantiable q.1.cls q.2 ∈ tables_1 ∧ Cond.privateMethod q.1 ∈ tables_1 ∧ Cond.instanceMethod q.1 ∈ tables_1
theorem lw_p0 : lw_okq (⟨"ClockTree", "playRound", "()I"⟩, 6) := ⟨⟨by decide +kernel, by decide +kernel⟩, List.mem_of_getElem? (i := 15) (by decide +kernel), List.mem_of_getElem? (i := 97) (by decide +kernel), List.mem_of_getElem? (i := 98) (by decide +kernel)⟩
theorem lw_p1 : lw_okq (⟨"ClockTree", "hearAtPorts", "(LClockTree$Node;)I"⟩, 6) := ⟨⟨by decide +kernel, by decide +kernel⟩, List.mem_of_getElem? (i := 15) (by decide +kernel), List.mem_of_getElem? (i := 101) (by decide +kernel), List.mem_of_getElem? (i := 102) (by decide +kernel)⟩
theorem lw_p2 : lw_okq (⟨"ClockTree$Node", "findBest", "()LClockTree$Dataset;"⟩, 6) := ⟨⟨by decide +kernel, by decide +kernel⟩, List.mem_of_getElem? (i := 139) (by decide +kernel), List.mem_of_getElem? (i := 137) (by decide +kernel), List.mem_of_getElem? (i := 138) (by decide +kernel)⟩
theorem lw_p3 : lw_okq (⟨"ClockTree", "setsClock", "(LClockTree$Node;J)Z"⟩, 6) := ⟨⟨by decide +kernel, by decide +kernel⟩, List.mem_of_getElem? (i := 15) (by decide +kernel), List.mem_of_getElem? (i := 159) (by decide +kernel), List.mem_of_getElem? (i := 160) (by decide +kernel)⟩
theorem lw_p4 : lw_okq (⟨"ClockTree", "setClock", "(LClockTree$Node;LClockTree$Port;JII)Z"⟩, 6) := ⟨⟨by decide +kernel, by decide +kernel⟩, List.mem_of_getElem? (i := 15) (by decide +kernel), List.mem_of_getElem? (i := 166) (by decide +kernel), List.mem_of_getElem? (i := 167) (by decide +kernel)⟩
theorem lw_p5 : lw_okq (⟨"ClockTree$Reckoner", "plus", "(JJ)J"⟩, 12) := ⟨⟨by decide +kernel, by decide +kernel⟩, List.mem_of_getElem? (i := 27) (by decide +kernel), List.mem_of_getElem? (i := 183) (by decide +kernel), List.mem_of_getElem? (i := 184) (by decide +kernel)⟩
theorem lw_p6 : lw_okq (⟨"ClockTree$Reckoner", "minus", "(JJ)J"⟩, 12) := ⟨⟨by decide +kernel, by decide +kernel⟩, List.mem_of_getElem? (i := 27) (by decide +kernel), List.mem_of_getElem? (i := 196) (by decide +kernel), List.mem_of_getElem? (i := 197) (by decide +kernel)⟩
theorem lw_p7 : lw_okq (⟨"java/lang/Throwable", "fillInStackTrace", "(I)Ljava/lang/Throwable;"⟩, 6) := ⟨⟨by decide +kernel, by decide +kernel⟩, List.mem_of_getElem? (i := 251) (by decide +kernel), List.mem_of_getElem? (i := 249) (by decide +kernel), List.mem_of_getElem? (i := 250) (by decide +kernel)⟩
theorem lw_p8 : lw_okq (⟨"ClockTree", "hasIdentity", "(I)Z"⟩, 6) := ⟨⟨by decide +kernel, by decide +kernel⟩, List.mem_of_getElem? (i := 15) (by decide +kernel), List.mem_of_getElem? (i := 281) (by decide +kernel), List.mem_of_getElem? (i := 282) (by decide +kernel)⟩
theorem lw_p9 : lw_okq (⟨"ClockTree", "portAt", "(II)LClockTree$Port;"⟩, 6) := ⟨⟨by decide +kernel, by decide +kernel⟩, List.mem_of_getElem? (i := 15) (by decide +kernel), List.mem_of_getElem? (i := 428) (by decide +kernel), List.mem_of_getElem? (i := 429) (by decide +kernel)⟩
theorem lw_p10 : lw_okq (⟨"ClockTree", "nodeAt", "(I)LClockTree$Node;"⟩, 6) := ⟨⟨by decide +kernel, by decide +kernel⟩, List.mem_of_getElem? (i := 15) (by decide +kernel), List.mem_of_getElem? (i := 432) (by decide +kernel), List.mem_of_getElem? (i := 433) (by decide +kernel)⟩
theorem lw_p11 : lw_okq (⟨"ClockTreeModel", "byteSized", "(I)Z"⟩, 28) := ⟨⟨by decide +kernel, by decide +kernel⟩, List.mem_of_getElem? (i := 559) (by decide +kernel), List.mem_of_getElem? (i := 661) (by decide +kernel), List.mem_of_getElem? (i := 662) (by decide +kernel)⟩
theorem lw_p12 : lw_okq (⟨"ClockTreeModel", "findAll", "()V"⟩, 28) := ⟨⟨by decide +kernel, by decide +kernel⟩, List.mem_of_getElem? (i := 559) (by decide +kernel), List.mem_of_getElem? (i := 666) (by decide +kernel), List.mem_of_getElem? (i := 667) (by decide +kernel)⟩
theorem lw_p13 : lw_okq (⟨"ClockTreeModel", "find", "(I)V"⟩, 28) := ⟨⟨by decide +kernel, by decide +kernel⟩, List.mem_of_getElem? (i := 559) (by decide +kernel), List.mem_of_getElem? (i := 670) (by decide +kernel), List.mem_of_getElem? (i := 671) (by decide +kernel)⟩
theorem lw_p14 : lw_okq (⟨"ClockTreeModel", "ownOne", "(II)V"⟩, 28) := ⟨⟨by decide +kernel, by decide +kernel⟩, List.mem_of_getElem? (i := 559) (by decide +kernel), List.mem_of_getElem? (i := 674) (by decide +kernel), List.mem_of_getElem? (i := 675) (by decide +kernel)⟩
theorem lw_p15 : lw_okq (⟨"ClockTreeModel", "keptOne", "(I)V"⟩, 28) := ⟨⟨by decide +kernel, by decide +kernel⟩, List.mem_of_getElem? (i := 559) (by decide +kernel), List.mem_of_getElem? (i := 678) (by decide +kernel), List.mem_of_getElem? (i := 679) (by decide +kernel)⟩
def lw_privs_1 : List (MethodName × Nat) := [(⟨"ClockTree", "playRound", "()I"⟩, 6), (⟨"ClockTree", "hearAtPorts", "(LClockTree$Node;)I"⟩, 6), (⟨"ClockTree$Node", "findBest", "()LClockTree$Dataset;"⟩, 6), (⟨"ClockTree", "setsClock", "(LClockTree$Node;J)Z"⟩, 6), (⟨"ClockTree", "setClock", "(LClockTree$Node;LClockTree$Port;JII)Z"⟩, 6), (⟨"ClockTree$Reckoner", "plus", "(JJ)J"⟩, 12), (⟨"ClockTree$Reckoner", "minus", "(JJ)J"⟩, 12), (⟨"java/lang/Throwable", "fillInStackTrace", "(I)Ljava/lang/Throwable;"⟩, 6), (⟨"ClockTree", "hasIdentity", "(I)Z"⟩, 6), (⟨"ClockTree", "portAt", "(II)LClockTree$Port;"⟩, 6), (⟨"ClockTree", "nodeAt", "(I)LClockTree$Node;"⟩, 6), (⟨"ClockTreeModel", "byteSized", "(I)Z"⟩, 28), (⟨"ClockTreeModel", "findAll", "()V"⟩, 28), (⟨"ClockTreeModel", "find", "(I)V"⟩, 28), (⟨"ClockTreeModel", "ownOne", "(II)V"⟩, 28), (⟨"ClockTreeModel", "keptOne", "(I)V"⟩, 28)]
theorem lw_r1 : ∀ q ∈ lw_privs_1, lw_okq q := List.forall_mem_cons.mpr ⟨lw_p0, List.forall_mem_cons.mpr ⟨lw_p1, List.forall_mem_cons.mpr ⟨lw_p2, List.forall_mem_cons.mpr ⟨lw_p3, List.forall_mem_cons.mpr ⟨lw_p4, List.forall_mem_cons.mpr ⟨lw_p5, List.forall_mem_cons.mpr ⟨lw_p6, List.forall_mem_cons.mpr ⟨lw_p7, List.forall_mem_cons.mpr ⟨lw_p8, List.forall_mem_cons.mpr ⟨lw_p9, List.forall_mem_cons.mpr ⟨lw_p10, List.forall_mem_cons.mpr ⟨lw_p11, List.forall_mem_cons.mpr ⟨lw_p12, List.forall_mem_cons.mpr ⟨lw_p13, List.forall_mem_cons.mpr ⟨lw_p14, List.forall_mem_cons.mpr ⟨lw_p15, fun _ h => absurd h List.not_mem_nil⟩⟩⟩⟩⟩⟩⟩⟩⟩⟩⟩⟩⟩⟩⟩⟩
theorem lw_p16 : lw_okq (⟨"ClockTreeModel", "turnRound", "()V"⟩, 28) := ⟨⟨by decide +kernel, by decide +kernel⟩, List.mem_of_getElem? (i := 559) (by decide +kernel), List.mem_of_getElem? (i := 682) (by decide +kernel), List.mem_of_getElem? (i := 683) (by decide +kernel)⟩
theorem lw_p17 : lw_okq (⟨"ClockTreeModel", "better", "()Z"⟩, 28) := ⟨⟨by decide +kernel, by decide +kernel⟩, List.mem_of_getElem? (i := 559) (by decide +kernel), List.mem_of_getElem? (i := 686) (by decide +kernel), List.mem_of_getElem? (i := 687) (by decide +kernel)⟩
theorem lw_p18 : lw_okq (⟨"ClockTreeModel", "toldOne", "(I)V"⟩, 28) := ⟨⟨by decide +kernel, by decide +kernel⟩, List.mem_of_getElem? (i := 559) (by decide +kernel), List.mem_of_getElem? (i := 690) (by decide +kernel), List.mem_of_getElem? (i := 691) (by decide +kernel)⟩
theorem lw_p19 : lw_okq (⟨"ClockTreeModel", "noPort", "(II)Z"⟩, 28) := ⟨⟨by decide +kernel, by decide +kernel⟩, List.mem_of_getElem? (i := 559) (by decide +kernel), List.mem_of_getElem? (i := 698) (by decide +kernel), List.mem_of_getElem? (i := 699) (by decide +kernel)⟩
theorem lw_p20 : lw_okq (⟨"ClockTreeModel", "noNode", "(I)Z"⟩, 28) := ⟨⟨by decide +kernel, by decide +kernel⟩, List.mem_of_getElem? (i := 559) (by decide +kernel), List.mem_of_getElem? (i := 702) (by decide +kernel), List.mem_of_getElem? (i := 703) (by decide +kernel)⟩
theorem lw_p21 : lw_okq (⟨"ClockTreeModel", "noDelay", "(I)Z"⟩, 28) := ⟨⟨by decide +kernel, by decide +kernel⟩, List.mem_of_getElem? (i := 559) (by decide +kernel), List.mem_of_getElem? (i := 706) (by decide +kernel), List.mem_of_getElem? (i := 707) (by decide +kernel)⟩
theorem lw_p22 : lw_okq (⟨"ClockTreeModel", "pass", "()I"⟩, 28) := ⟨⟨by decide +kernel, by decide +kernel⟩, List.mem_of_getElem? (i := 559) (by decide +kernel), List.mem_of_getElem? (i := 723) (by decide +kernel), List.mem_of_getElem? (i := 724) (by decide +kernel)⟩
theorem lw_p23 : lw_okq (⟨"ClockTreeModel", "sendAll", "()I"⟩, 28) := ⟨⟨by decide +kernel, by decide +kernel⟩, List.mem_of_getElem? (i := 559) (by decide +kernel), List.mem_of_getElem? (i := 727) (by decide +kernel), List.mem_of_getElem? (i := 728) (by decide +kernel)⟩
theorem lw_p24 : lw_okq (⟨"ClockTreeModel", "across", "(I)I"⟩, 28) := ⟨⟨by decide +kernel, by decide +kernel⟩, List.mem_of_getElem? (i := 559) (by decide +kernel), List.mem_of_getElem? (i := 731) (by decide +kernel), List.mem_of_getElem? (i := 732) (by decide +kernel)⟩
theorem lw_p25 : lw_okq (⟨"ClockTreeModel", "endOf", "(I)I"⟩, 28) := ⟨⟨by decide +kernel, by decide +kernel⟩, List.mem_of_getElem? (i := 559) (by decide +kernel), List.mem_of_getElem? (i := 735) (by decide +kernel), List.mem_of_getElem? (i := 736) (by decide +kernel)⟩
theorem lw_p26 : lw_okq (⟨"ClockTreeModel", "hear", "(I)V"⟩, 28) := ⟨⟨by decide +kernel, by decide +kernel⟩, List.mem_of_getElem? (i := 559) (by decide +kernel), List.mem_of_getElem? (i := 739) (by decide +kernel), List.mem_of_getElem? (i := 740) (by decide +kernel)⟩
theorem lw_p27 : lw_okq (⟨"ClockTreeModel", "remember", "()V"⟩, 28) := ⟨⟨by decide +kernel, by decide +kernel⟩, List.mem_of_getElem? (i := 559) (by decide +kernel), List.mem_of_getElem? (i := 747) (by decide +kernel), List.mem_of_getElem? (i := 748) (by decide +kernel)⟩
theorem lw_p28 : lw_okq (⟨"ClockTreeModel", "isAsBefore", "()Z"⟩, 28) := ⟨⟨by decide +kernel, by decide +kernel⟩, List.mem_of_getElem? (i := 559) (by decide +kernel), List.mem_of_getElem? (i := 751) (by decide +kernel), List.mem_of_getElem? (i := 752) (by decide +kernel)⟩
theorem lw_p29 : lw_okq (⟨"ClockTreeModel", "stepsOf", "(I)I"⟩, 28) := ⟨⟨by decide +kernel, by decide +kernel⟩, List.mem_of_getElem? (i := 559) (by decide +kernel), List.mem_of_getElem? (i := 767) (by decide +kernel), List.mem_of_getElem? (i := 768) (by decide +kernel)⟩
theorem lw_p30 : lw_okq (⟨"ClockTreeModel", "noRest", "(I)Z"⟩, 28) := ⟨⟨by decide +kernel, by decide +kernel⟩, List.mem_of_getElem? (i := 559) (by decide +kernel), List.mem_of_getElem? (i := 779) (by decide +kernel), List.mem_of_getElem? (i := 780) (by decide +kernel)⟩
theorem lw_p31 : lw_okq (⟨"ClockTreeModel", "canSwap", "(I)Z"⟩, 28) := ⟨⟨by decide +kernel, by decide +kernel⟩, List.mem_of_getElem? (i := 559) (by decide +kernel), List.mem_of_getElem? (i := 784) (by decide +kernel), List.mem_of_getElem? (i := 785) (by decide +kernel)⟩
def lw_privs_2 : List (MethodName × Nat) := [(⟨"ClockTreeModel", "turnRound", "()V"⟩, 28), (⟨"ClockTreeModel", "better", "()Z"⟩, 28), (⟨"ClockTreeModel", "toldOne", "(I)V"⟩, 28), (⟨"ClockTreeModel", "noPort", "(II)Z"⟩, 28), (⟨"ClockTreeModel", "noNode", "(I)Z"⟩, 28), (⟨"ClockTreeModel", "noDelay", "(I)Z"⟩, 28), (⟨"ClockTreeModel", "pass", "()I"⟩, 28), (⟨"ClockTreeModel", "sendAll", "()I"⟩, 28), (⟨"ClockTreeModel", "across", "(I)I"⟩, 28), (⟨"ClockTreeModel", "endOf", "(I)I"⟩, 28), (⟨"ClockTreeModel", "hear", "(I)V"⟩, 28), (⟨"ClockTreeModel", "remember", "()V"⟩, 28), (⟨"ClockTreeModel", "isAsBefore", "()Z"⟩, 28), (⟨"ClockTreeModel", "stepsOf", "(I)I"⟩, 28), (⟨"ClockTreeModel", "noRest", "(I)Z"⟩, 28), (⟨"ClockTreeModel", "canSwap", "(I)Z"⟩, 28)]
theorem lw_r2 : ∀ q ∈ lw_privs_2, lw_okq q := List.forall_mem_cons.mpr ⟨lw_p16, List.forall_mem_cons.mpr ⟨lw_p17, List.forall_mem_cons.mpr ⟨lw_p18, List.forall_mem_cons.mpr ⟨lw_p19, List.forall_mem_cons.mpr ⟨lw_p20, List.forall_mem_cons.mpr ⟨lw_p21, List.forall_mem_cons.mpr ⟨lw_p22, List.forall_mem_cons.mpr ⟨lw_p23, List.forall_mem_cons.mpr ⟨lw_p24, List.forall_mem_cons.mpr ⟨lw_p25, List.forall_mem_cons.mpr ⟨lw_p26, List.forall_mem_cons.mpr ⟨lw_p27, List.forall_mem_cons.mpr ⟨lw_p28, List.forall_mem_cons.mpr ⟨lw_p29, List.forall_mem_cons.mpr ⟨lw_p30, List.forall_mem_cons.mpr ⟨lw_p31, fun _ h => absurd h List.not_mem_nil⟩⟩⟩⟩⟩⟩⟩⟩⟩⟩⟩⟩⟩⟩⟩⟩
theorem lw_p32 : lw_okq (⟨"ClockTreeModel", "swap", "(IJII)V"⟩, 28) := ⟨⟨by decide +kernel, by decide +kernel⟩, List.mem_of_getElem? (i := 559) (by decide +kernel), List.mem_of_getElem? (i := 788) (by decide +kernel), List.mem_of_getElem? (i := 789) (by decide +kernel)⟩
theorem lw_p33 : lw_okq (⟨"ClockTreeModel", "sum", "(JJ)J"⟩, 28) := ⟨⟨by decide +kernel, by decide +kernel⟩, List.mem_of_getElem? (i := 559) (by decide +kernel), List.mem_of_getElem? (i := 792) (by decide +kernel), List.mem_of_getElem? (i := 793) (by decide +kernel)⟩
theorem lw_p34 : lw_okq (⟨"ClockTreeModel", "difference", "(JJ)J"⟩, 28) := ⟨⟨by decide +kernel, by decide +kernel⟩, List.mem_of_getElem? (i := 559) (by decide +kernel), List.mem_of_getElem? (i := 797) (by decide +kernel), List.mem_of_getElem? (i := 798) (by decide +kernel)⟩
def lw_privs_3 : List (MethodName × Nat) := [(⟨"ClockTreeModel", "swap", "(IJII)V"⟩, 28), (⟨"ClockTreeModel", "sum", "(JJ)J"⟩, 28), (⟨"ClockTreeModel", "difference", "(JJ)J"⟩, 28)]
theorem lw_r3 : ∀ q ∈ lw_privs_3, lw_okq q := List.forall_mem_cons.mpr ⟨lw_p32, List.forall_mem_cons.mpr ⟨lw_p33, List.forall_mem_cons.mpr ⟨lw_p34, fun _ h => absurd h List.not_mem_nil⟩⟩⟩
def lw_privs : List (MethodName × Nat) := lw_privs_1 ++ (lw_privs_2 ++ (lw_privs_3))
def lw_tbl : List Cond := k2_sels lw_privs ++ tables_1
theorem lw_privs_ok : ∀ q ∈ lw_privs, lw_okq q := by
  show ∀ q ∈ lw_privs_1 ++ (lw_privs_2 ++ (lw_privs_3)), lw_okq q
  exact List.forall_mem_append.mpr ⟨lw_r1, List.forall_mem_append.mpr ⟨lw_r2, lw_r3⟩⟩

/-! ===== BEGIN words of one list among another's, by their places ===== -/
theorem goodIn_r {big : List Cond} (ws : List Cond) (ps : List Nat) (hp : ws = ps.filterMap (fun i => big[i]?)) (h : ws.all goodWord = true) : GoodIn big ws := by
  intro w hw
  have h1 := List.all_eq_true.mp h w hw
  rw [hp] at hw
  obtain ⟨i, -, hi⟩ := List.mem_filterMap.mp hw
  have hm : w ∈ big := by first | exact List.mem_of_getElem? hi | exact List.getElem?_mem hi
  exact ⟨hm, good_of_word h1⟩
theorem goodIn_app {big a b : List Cond} (ha : GoodIn big a) (hb : GoodIn big b) : GoodIn big (a ++ b) := fun w h => (List.mem_append.mp h).elim (ha w) (hb w)
theorem goodIn_ca {big a b : List Cond} {c : Cond} (ha : GoodIn big (c :: a)) (hb : GoodIn big b) : GoodIn big (c :: (a ++ b)) := fun w h => (List.mem_cons.mp h).elim (fun e => ha w (List.mem_cons.mpr (Or.inl e))) (fun h => (List.mem_append.mp h).elim (fun h => ha w (List.mem_cons.mpr (Or.inr h))) (hb w))
theorem goodIn_sub {big ws : List Cond} (hm : ∀ w ∈ ws, w ∈ big) (h : ws.all goodWord = true) : GoodIn big ws := fun w hw => ⟨hm w hw, good_of_word (List.all_eq_true.mp h w hw)⟩
/-! ===== END ===== -/

/-! ===== BEGIN exceptions that leave a method, and their catching by the caller (launches without stack traces) ===== -/
section VXA
/-! The laws vx_back, vx_callV, vx_callS, vx_callSW, vx_throw0, vx_throwS follow proofs of the library, with one case more: JvmDerived/Free/Laws.lean (Back.of_free), Shelf42/LK1.lean (callV, callS), Shelf/KitTraced.lean (throwNew0V, throwNewS). -/
/-- where a method has thrown q: the class by its name, the cell, what was written, the world -/
def vx_T (XC : String → State → State → Prop) (st : State) (q : Addr) (t : State) (mc ms : Nat) (free : Addr → Prop) : Prop :=
  ∃ (E : String) (ce : Cell) (L : List Loc), XC E st t ∧ t.heap[q]? = some ce ∧ ce.vm = .none ∧ st.vm.findClass E = some ce.cls ∧ st.WarmedH t.vm ∧ st.sameButNew ({ t with vm := st.vm } : State) L mc ms ∧ ∀ z ∈ L, free z.base
def vx_Q (Qc : Array Value → State → Outcome → State → Prop) (XC : String → State → State → Prop) (mc ms : Nat) (free : Addr → Prop) : Array Value → State → Outcome → State → Prop := fun a st o t =>
  (Qc a st o t ∧ ∃ L, FrameEnd st o t L mc ms ∧ ∀ q ∈ L, free q.base) ∨ ∃ q, o = .threw q ∧ vx_T XC st q t mc ms free
/-- a callee that returns or throws -/
def vx_Met (l : Launch) (y : MethodName) (ws : List Cond) (rm : Room) (Pc : Array Value → State → Prop) (Qc : Array Value → State → Outcome → State → Prop) (XC : String → State → State → Prop) (mc ms : Nat) (free : Addr → Prop) : Prop :=
  MetFree l y (headSpec ws rm) Pc (fun _ _ _ _ _ => True) (vx_Q Qc XC mc ms free)
def vx_Post (XC : String → State → State → Prop) (mc ms : Nat) (free : Addr → Prop) : Pt → Array Value → Addr → Pt → Prop := fun A a q B =>
  ∃ (g : JFrame) (mk : MethodId) (t : State) (L : List Loc) (E : String) (ce : Cell), B.U.heap = t.heap ∧ B.U.vm = t.vm ∧ XC E (A.U.calling g mk a) t ∧ t.heap[q]? = some ce ∧ ce.vm = .none ∧ A.U.vm.findClass E = some ce.cls ∧ B.locs = A.locs ++ L ∧ (∀ z ∈ L, free z.base) ∧ B.cells = A.cells + mc ∧ B.slots = A.slots + ms
def vx_Back (l : Launch) (R : Room) (p : Program) (e : Env) (below : List Frame) (s : State) (sargs : Array Value) (y : MethodName) (len W9 : Nat)
    (Pre : Pt → Array Value → Prop) (Post : Pt → Array Value → Option Value → Pt → Prop) (PostX : Pt → Array Value → Addr → Pt → Prop) : Prop :=
  ∀ (m : MethodId) (meth : Method) (c : Code) (A : Pt) (g : JFrame) (ig : Instr) (mk : MethodId) (a : Array Value),
    Stand p l e R s m sargs below meth c A.U A.locs A.cells A.slots → g.method = m → g.locals.size = c.maxLocals → decode c.code g.pc = .ok (ig, len) →
    2 * g.monitorRoom + (g.stack.map fun v => v.category).sum ≤ W9 → A.U.methodNamed? y = some mk → Pre A a →
    (∃ (v : Option Value) (B : Pt), Stand p l e R s m sargs below meth c B.U B.locs B.cells B.slots ∧ Post A a v B ∧
      Steps p.tables e below (doInvoke e (A.U.setTop g) [] mk a).1 (B.U.setTop { g with pc := g.pc + len, stack := v.toList ++ g.stack })) ∨
    (∃ (q : Addr) (B : Pt), Stand p l e R s m sargs below meth c B.U B.locs B.cells B.slots ∧ PostX A a q B ∧
      Steps p.tables e below (doInvoke e (A.U.setTop g) [] mk a).1 ((B.U.setTop g).pushFrame (.throwing q)))
section Payer
variable {l : Launch} {R : Room} {p : Program} {e : Env} {below : List Frame} {s : State} {sargs : Array Value} {y : MethodName} {len W9 : Nat}
theorem vx_back {ws : List Cond} {rm : Room} {Pc : Array Value → State → Prop} {Qc : Array Value → State → Outcome → State → Prop} {XC : String → State → State → Prop} {mc ms : Nat} {free : Addr → Prop} {bytes : ByteArray} {maxL : Nat} {ret : Option FieldType}
    (hM : vx_Met l y ws rm Pc Qc XC mc ms free) (hblind : FrameBlind Pc) (hrc : rm.cells = mc) (hrs : rm.slots = ms)
    (hframes : rm.frames + 1 ≤ R.frames) (hlocals : W9 + (maxL + 11) + rm.locals ≤ R.locals)
    (hws : ∀ w ∈ ws, ∀ a' U, s.WarmedH U.vm → w.before a' U = true) (hcode : Cond.code y bytes maxL ret ∈ ws) (hinit : ∀ a' U, s.WarmedH U.vm → (Cond.initialized y.cls).before a' U = true) :
    vx_Back l R p e below s sargs y len W9 (PreOf R mc ms Pc) (PostOf Qc mc ms free) (vx_Post XC mc ms free) := by
  intro m meth c A g ig mk a X hg hsize hdg hW hn hp
  have h1 : (headSpec ws rm).pre.before a A.U = true := atoms_intro fun w hw => hws w hw _ _ X.warmed
  have h2 : (Cond.code y bytes maxL ret).before a A.U = true := hws _ hcode _ _ X.warmed
  have h3 : (Cond.initialized y.cls).before a A.U = true := hinit _ _ X.warmed
  have h4 : A.cells + (headSpec ws rm).room.cells ≤ R.cells := by rw [show (headSpec ws rm).room.cells = mc from hrc]; exact hp.1
  have h5 : A.slots + (headSpec ws rm).room.slots ≤ R.slots := by rw [show (headSpec ws rm).room.slots = ms from hrs]; exact hp.2.1
  have hPc : Pc a (A.U.calling g mk a) := hblind _ _ _ _ hp.2.2
  obtain ⟨U, Ls, c0, s0⟩ := A
  dsimp only [Pt.U, Pt.locs, Pt.cells, Pt.slots] at h1 h2 h3 h4 h5 X hn hPc ⊢
  obtain ⟨methY, cY, hmY, hcY, -, hlY, -, -, -, -⟩ := Cond.code_spec hn h2
  obtain ⟨kY, hkY, -⟩ := className_of_methodNamed hn
  have hinitY : kY.init = .initialized := Cond.initialized_spec (findClass_of_methodNamed hn) hkY h3
  have h : At U g.method c below := by rw [hg]; exact X.here
  have hlocals9 : W9 + (maxL + 11) + (headSpec ws rm).room.locals ≤ R.locals := hlocals
  have happ : (headSpec ws rm).appliesLoose y e.platform (U.calling g mk a) = true :=
    Spec.appliesLoose_calling (g := g) h hdg hn hkY hinitY
      (X.room_calling (g := g) (R' := (headSpec ws rm).room) hsize hmY hcY hframes (by rw [hlY]; omega) h4 h5) h1
  obtain ⟨mid, hmid⟩ := h.above
  have hfr : (U.setTop g).frames = (.java g :: mid) ++ below := by rw [State.frames_setTop' g h.top, hmid]; rfl
  obtain ⟨o, s₂, hsteps, -, hend, hq⟩ := Steps.callFree hM p X.admits X.cas X.clock (acts := []) hfr happ hPc trivial
  have hq' : vx_Q Qc XC mc ms free a (U.calling g mk a) o s₂ := hq
  rw [State.frames_setTop' g h.top] at hend
  obtain ⟨g₀, hg0⟩ := Option.isSome_iff_exists.mp h.top
  obtain ⟨r, hr⟩ := State.topJava?_eq_some.mp hg0
  have hr' : (({ U with heap := s₂.heap, slotsUsed := s₂.slotsUsed } : State).setVm s₂.vm).frames = .java g₀ :: r := hr
  rcases hq' with ⟨hqc, L, hfe, hL⟩ | ⟨q, rfl, E, ce, L, hx, hce, hcv, hcl, hW₂, hsm, hL⟩
  · obtain ⟨⟨v, rfl⟩, hW₂, e2, q2, q3, q4, q5, q6⟩ := id hfe
    have e3 : s₂ = ({ (U.calling g mk a).setFrames s₂.frames with heap := s₂.heap, slotsUsed := s₂.slotsUsed } : State).setVm s₂.vm := by
      have : s₂ = ({ s₂ with vm := (U.calling g mk a).vm } : State).setVm s₂.vm := rfl
      rw [e2] at this
      exact this
    obtain ⟨c₂, i₂, len₂, hc₂, hd₂, hf₂⟩ := hend
    have hW' : U.WarmedH s₂.vm := hW₂
    have hcc : c₂ = c := by
      have h1 : s₂.code? g.method = U.code? g.method := by
        rw [State.code?_eq, State.code?_eq, hW'.alike.method?]
      exact Option.some.inj (hc₂.symm.trans (h1.trans h.code))
    subst hcc
    have hlen : len₂ = len := by rw [hdg] at hd₂; cases hd₂; rfl
    subst hlen
    have hs₂ : s₂ = (({ U with heap := s₂.heap, slotsUsed := s₂.slotsUsed } : State).setVm s₂.vm).setTop { g with pc := g.pc + len₂, stack := v.toList ++ g.stack } := by
      refine e3.trans ?_
      rw [hf₂, State.calling_eq h.top, State.setFrames_setFrames, State.setTop_of_frames _ hr', hr]
      rfl
    have hsame : U.sameButNew ({ U with heap := s₂.heap, slotsUsed := s₂.slotsUsed } : State) L mc ms := by
      refine ⟨?_, q2, q3, q4, q5, q6⟩
      obtain ⟨t, ht, -⟩ := State.frames_cons hr
      show ({ U with heap := s₂.heap, slotsUsed := s₂.slotsUsed } : State) = { U.setFrames U.frames with heap := s₂.heap, slotsUsed := s₂.slotsUsed }
      rw [State.setFrames_self ht]
    subst hg
    refine Or.inl ⟨v, ⟨(({ U with heap := s₂.heap, slotsUsed := s₂.slotsUsed } : State).setVm s₂.vm), Ls ++ L, c0 + mc, s0 + ms⟩,
      ⟨X.admits, X.cas, X.clock, X.frames, X.room, X.hears, X.method, X.code, (X.here.setHeapUsed s₂.heap s₂.slotsUsed).setVm hW'.alike, X.tail, State.WarmedH.trans X.warmed hW', X.limits, X.bytes, X.same.trans (hsame.setVm s.vm)⟩,
      ⟨g, mk, s₂, L, rfl, rfl, hqc, rfl, hL, rfl, rfl⟩, ?_⟩
    show Steps p.tables e below _ ((({ U with heap := s₂.heap, slotsUsed := s₂.slotsUsed } : State).setVm s₂.vm).setTop { g with pc := g.pc + len₂, stack := v.toList ++ g.stack })
    rw [← hs₂]
    exact hsteps
  · obtain ⟨e2, q2, q3, q4, q5, q6⟩ := id hsm
    have e3 : s₂ = ({ (U.calling g mk a).setFrames s₂.frames with heap := s₂.heap, slotsUsed := s₂.slotsUsed } : State).setVm s₂.vm := by
      have : s₂ = ({ s₂ with vm := (U.calling g mk a).vm } : State).setVm s₂.vm := rfl
      rw [e2] at this
      exact this
    have hf₂ : s₂.frames = .throwing q :: .java g :: U.frames.tail := hend
    have hW' : U.WarmedH s₂.vm := hW₂
    have hs₂ : s₂ = ((({ U with heap := s₂.heap, slotsUsed := s₂.slotsUsed } : State).setVm s₂.vm).setTop g).pushFrame (.throwing q) := by
      refine e3.trans ?_
      rw [hf₂, State.calling_eq h.top, State.setFrames_setFrames, State.pushFrame, State.frames_setTop _ hr', State.setTop_of_frames _ hr', State.setFrames_setFrames, hr]
      rfl
    have hsame : U.sameButNew ({ U with heap := s₂.heap, slotsUsed := s₂.slotsUsed } : State) L mc ms := by
      refine ⟨?_, q2, q3, q4, q5, q6⟩
      obtain ⟨t, ht, -⟩ := State.frames_cons hr
      show ({ U with heap := s₂.heap, slotsUsed := s₂.slotsUsed } : State) = { U.setFrames U.frames with heap := s₂.heap, slotsUsed := s₂.slotsUsed }
      rw [State.setFrames_self ht]
    subst hg
    refine Or.inr ⟨q, ⟨(({ U with heap := s₂.heap, slotsUsed := s₂.slotsUsed } : State).setVm s₂.vm), Ls ++ L, c0 + mc, s0 + ms⟩,
      ⟨X.admits, X.cas, X.clock, X.frames, X.room, X.hears, X.method, X.code, (X.here.setHeapUsed s₂.heap s₂.slotsUsed).setVm hW'.alike, X.tail, State.WarmedH.trans X.warmed hW', X.limits, X.bytes, X.same.trans (hsame.setVm s.vm)⟩,
      ⟨g, mk, s₂, L, E, ce, rfl, rfl, hx, hce, hcv, hcl, rfl, hL, rfl, rfl⟩, ?_⟩
    show Steps p.tables e below _ (((({ U with heap := s₂.heap, slotsUsed := s₂.slotsUsed } : State).setVm s₂.vm).setTop g).pushFrame (.throwing q))
    rw [← hs₂]
    exact hsteps
end Payer
section Calls
variable {p : Program} {l : Launch} {e : Env} {R : Room} {s : State} {m : MethodId} {args : Array Value} {below : List Frame} {meth : Method} {c : Code} {T : State} {locs : List Loc} {cells slots : Nat}
theorem vx_callV (X : Stand p l e R s m args below meth c T locs cells slots) (hexec : p.tables.exec = Jvm.exec) {own C : String} {index : Nat} {y : MethodName} {bytes : ByteArray} {maxL : Nat} {ret : Option FieldType}
    (hown : s.vm.findClass own = some m.cls) (hlink : (Cond.methodLink own index y).before args s = true) (hinst : (Cond.instanceMethod y).before args s = true) (hsel : (Cond.selects C y y).before args s = true)
    (hcode : (Cond.code y bytes maxL ret).before args s = true) (hy : y.cls ≠ "java/lang/invoke/MethodHandle" ∧ y.cls ≠ "java/lang/invoke/VarHandle")
    {W9 : Nat} {Pre : Pt → Array Value → Prop} {Post : Pt → Array Value → Option Value → Pt → Prop} {PostX : Pt → Array Value → Addr → Pt → Prop} (hK : vx_Back l R p e below s args y 3 W9 Pre Post PostX)
    {b : Addr} {cellB : Cell} (hcell : T.heap[b]? = some cellB) (hobj : cellB.vm.isStatics = false) (hcls : s.vm.findClass C = some cellB.cls)
    {g : JFrame} (hg : g.method = m) (hsize : g.locals.size = c.maxLocals) {argsL rest : List Value} (hlen : ∀ sig, parseMethodDescriptor y.desc = some sig → argsL.length = sig.parameters.length)
    (hstack : g.stack = argsL.reverse ++ .ref b :: rest) (hW : 2 * g.monitorRoom + (rest.map fun v => v.category).sum ≤ W9) (hdg : decode c.code g.pc = .ok (.invokevirtual index, 3))
    (hpre : ∀ vm₁, s.WarmedH vm₁ → Pre ⟨T.setVm vm₁, locs, cells, slots⟩ (Value.ref b :: argsL).toArray) :
    (∃ (v : Option Value) (vm₁ : Vm) (B : Pt), s.WarmedH vm₁ ∧ Stand p l e R s m args below meth c B.U B.locs B.cells B.slots ∧ Post ⟨T.setVm vm₁, locs, cells, slots⟩ (Value.ref b :: argsL).toArray v B ∧
      ∀ target, Steps p.tables e below (B.U.setTop { g with pc := g.pc + 3, stack := v.toList ++ rest }) target → Steps p.tables e below (T.setTop g) target) ∨
    (∃ (q : Addr) (vm₁ : Vm) (B : Pt), s.WarmedH vm₁ ∧ Stand p l e R s m args below meth c B.U B.locs B.cells B.slots ∧ PostX ⟨T.setVm vm₁, locs, cells, slots⟩ (Value.ref b :: argsL).toArray q B ∧
      Steps p.tables e below (T.setTop g) ((B.U.setTop { g with stack := rest }).pushFrame (.throwing q))) := by
  obtain ⟨mk, methM, hnamed, hmethM, hstM, habM⟩ := Cond.instanceMethod_spec hinst
  obtain ⟨methM', cM, hmethM', -, -, -, -, -, -, hsigM⟩ := Cond.code_spec hnamed hcode
  cases hmethM.symm.trans hmethM'
  obtain ⟨c2, r2, m2, q1, q2, q3, q4, kP, hkP, hkPi⟩ := Cond.selects_spec hsel
  cases hcls.symm.trans q1
  cases (State.methodFound?_of_named hnamed hy).symm.trans q2
  cases hnamed.symm.trans q3
  have hselP : selectMethod e.platform s.vm cellB.cls mk = .method mk := by rw [Launch.admits_selectMethod X.admits]; exact q4
  obtain ⟨vm₁, X₁, hstep₁⟩ := X.invokevirtual hexec hown hlink hnamed hmethM hstM hkP hkPi hy (a := b) (cell := cellB) hcell
    (fun z h => by rw [h] at hobj; cases hobj) hselP hmethM habM hkP hkPi (g := g) hg (argsL := argsL) (rest := rest) (hlen _ hsigM) hstack hdg
  rcases hK m meth c ⟨T.setVm vm₁, locs, cells, slots⟩ { g with stack := rest } (.invokevirtual index) mk (Value.ref b :: argsL).toArray X₁ hg hsize hdg hW (X₁.named hnamed) (hpre vm₁ X₁.warmed) with ⟨v, B, X', hpost, hsteps⟩ | ⟨q, B, X', hpost, hsteps⟩
  · exact Or.inl ⟨v, vm₁, B, X₁.warmed, X', hpost, fun target h => hstep₁ _ fun acts => by rw [doInvoke_state]; exact hsteps.trans h⟩
  · exact Or.inr ⟨q, vm₁, B, X₁.warmed, X', hpost, hstep₁ _ fun acts => by rw [doInvoke_state]; exact hsteps⟩
theorem vx_callS (X : Stand p l e R s m args below meth c T locs cells slots) (hexec : p.tables.exec = Jvm.exec) {own : String} {index : Nat} {y : MethodName} {bytes : ByteArray} {maxL : Nat} {ret : Option FieldType}
    (hown : s.vm.findClass own = some m.cls) (hlink : (Cond.methodLink own index y).before args s = true) (hstat : (Cond.static y).before args s = true) (hinit : (Cond.initialized y.cls).before args s = true)
    (hcode : (Cond.code y bytes maxL ret).before args s = true) (hy : y.cls ≠ "java/lang/invoke/MethodHandle" ∧ y.cls ≠ "java/lang/invoke/VarHandle")
    {W9 : Nat} {Pre : Pt → Array Value → Prop} {Post : Pt → Array Value → Option Value → Pt → Prop} {PostX : Pt → Array Value → Addr → Pt → Prop} (hK : vx_Back l R p e below s args y 3 W9 Pre Post PostX)
    {g : JFrame} (hg : g.method = m) (hsize : g.locals.size = c.maxLocals) {argsL rest : List Value} (hlen : ∀ sig, parseMethodDescriptor y.desc = some sig → argsL.length = sig.parameters.length)
    (hstack : g.stack = argsL.reverse ++ rest) (hW : 2 * g.monitorRoom + (rest.map fun v => v.category).sum ≤ W9) (hdg : decode c.code g.pc = .ok (.invokestatic index, 3))
    (hpre : ∀ vm₁, s.WarmedH vm₁ → Pre ⟨T.setVm vm₁, locs, cells, slots⟩ argsL.toArray) :
    (∃ (v : Option Value) (vm₁ : Vm) (B : Pt), s.WarmedH vm₁ ∧ Stand p l e R s m args below meth c B.U B.locs B.cells B.slots ∧ Post ⟨T.setVm vm₁, locs, cells, slots⟩ argsL.toArray v B ∧
      ∀ target, Steps p.tables e below (B.U.setTop { g with pc := g.pc + 3, stack := v.toList ++ rest }) target → Steps p.tables e below (T.setTop g) target) ∨
    (∃ (q : Addr) (vm₁ : Vm) (B : Pt), s.WarmedH vm₁ ∧ Stand p l e R s m args below meth c B.U B.locs B.cells B.slots ∧ PostX ⟨T.setVm vm₁, locs, cells, slots⟩ argsL.toArray q B ∧
      Steps p.tables e below (T.setTop g) ((B.U.setTop { g with stack := rest }).pushFrame (.throwing q))) := by
  obtain ⟨mk, hnamed⟩ := Cond.code_named hcode
  obtain ⟨methM, cM, hmethM, -, -, -, -, -, -, hsigM⟩ := Cond.code_spec hnamed hcode
  have hstatic : methM.isStatic = true := Cond.static_spec hnamed hmethM hstat
  obtain ⟨kP, hkP, -⟩ := className_of_methodNamed hnamed
  have hinitP : kP.init = .initialized := Cond.initialized_spec (findClass_of_methodNamed hnamed) hkP hinit
  obtain ⟨vm₁, X₁, hstep₁⟩ := X.invokestatic hexec hown hlink hnamed hmethM hstatic hkP hinitP hy (g := g) hg (argsL := argsL) (rest := rest) (hlen _ hsigM) hstack hdg
  rcases hK m meth c ⟨T.setVm vm₁, locs, cells, slots⟩ { g with stack := rest } (.invokestatic index) mk argsL.toArray X₁ hg hsize hdg hW (X₁.named hnamed) (hpre vm₁ X₁.warmed) with ⟨v, B, X', hpost, hsteps⟩ | ⟨q, B, X', hpost, hsteps⟩
  · exact Or.inl ⟨v, vm₁, B, X₁.warmed, X', hpost, fun target h => hstep₁ _ fun acts => by rw [doInvoke_state]; exact hsteps.trans h⟩
  · exact Or.inr ⟨q, vm₁, B, X₁.warmed, X', hpost, hstep₁ _ fun acts => by rw [doInvoke_state]; exact hsteps⟩
end Calls
theorem vx_cls {s : State} {T : State} {vm₁ : Vm} {E : String} {k : ClassId} (hW : s.WarmedH vm₁) (h : (T.setVm vm₁).vm.findClass E = some k) : s.vm.findClass E = some k := by
  have h1 : vm₁.findClass E = some k := h
  rw [hW.alike.findClass] at h1
  exact h1
/-- the method's frame g, with q thrown over it -/
def vx_W (p : Program) (l : Launch) (e : Env) (R : Room) (s : State) (m : MethodId) (args : Array Value) (below : List Frame) (meth : Method) (c : Code) (H : Heap) (locs : List Loc) (cells slots : Nat) (Q : State → Prop) (g : JFrame) (q : Addr) : Prop :=
  ∀ T : State, T.heap = H → Stand p l e R s m args below meth c T locs cells slots → ∃ t, Steps p.tables e below ((T.setTop g).pushFrame (.throwing q)) t ∧ Q t
def vx_Run (p : Program) (l : Launch) (e : Env) (R : Room) (s : State) (m : MethodId) (args : Array Value) (below : List Frame) (meth : Method) (c : Code) (H : Heap) (locs : List Loc) (cells slots mc ms : Nat) (g : JFrame) (rest : List Value) (Qa : State → Outcome → State → Prop) (XC : String → State → State → Prop) (free : Addr → Prop) : Prop :=
  ∀ T : State, T.heap = H → Stand p l e R s m args below meth c T locs cells slots →
    (∃ (v : Option Value) (st₀ t T' : State) (L : List Loc), st₀.heap = H ∧ Stand p l e R s m args below meth c T' (locs ++ L) (cells + mc) (slots + ms) ∧ (∀ q ∈ L, free q.base) ∧ T'.heap = t.heap ∧ T'.vm = t.vm ∧ Qa st₀ (.returned v) t ∧
      Goes p e below T g T' { g with pc := g.pc + 3, stack := v.toList ++ rest }) ∨
    (∃ (q : Addr) (st₀ t T' : State) (L : List Loc) (E : String) (ce : Cell), st₀.heap = H ∧ Stand p l e R s m args below meth c T' (locs ++ L) (cells + mc) (slots + ms) ∧ (∀ z ∈ L, free z.base) ∧ T'.heap = t.heap ∧ T'.vm = t.vm ∧ XC E st₀ t ∧ t.heap[q]? = some ce ∧ ce.vm = .none ∧ s.vm.findClass E = some ce.cls ∧
      Steps p.tables e below (T.setTop g) ((T'.setTop { g with stack := rest }).pushFrame (.throwing q)))
def vx_X {S : Type} (px : S → Prop) (B : String → S → State → Prop) (A : Nat → Prop) : String → State → State → Prop := fun E st t => ∃ u : S, px u ∧ B E u t ∧ va_F A st t
section Runs
variable {p : Program} {l : Launch} {e : Env} {R : Room} {s : State} {m : MethodId} {args : Array Value} {below : List Frame} {meth : Method} {c : Code} {H : Heap} {locs : List Loc} {cells slots : Nat}
variable {y : MethodName} {bytes cc : ByteArray} {maxL nL mc ms n index : Nat} {ret : Option FieldType} {ws : List Cond} {rm : Room} {Pc : Array Value → State → Prop} {Qc : Array Value → State → Outcome → State → Prop} {XC : String → State → State → Prop} {free : Addr → Prop} {Ts : List Cond} {own C : String} {b : Addr} {As rest : List Value} {g : JFrame}
theorem vx_callBack (cb : CallB R s args own index y bytes maxL ret ws rm mc ms n) (hM : vx_Met l y ws rm Pc Qc XC mc ms free) (hbl : FrameBlind Pc) : vx_Back l R p e below s args y 3 8 (PreOf R mc ms Pc) (PostOf Qc mc ms free) (vx_Post XC mc ms free) := by
  obtain ⟨hrc, hrs, hfr, hlo, hws, hcw, -, hini, -⟩ := cb
  exact vx_back (bytes := bytes) (maxL := maxL) (ret := ret) hM hbl hrc hrs hfr hlo hws hcw (fun a' U hW => word_at hW (Or.inl (by first | rfl | simp [Cond.onTables, Cond.keeps, Cond.steady])) hini)
theorem vx_runV (S : CallFix p m c cc nL s args Ts own) (hM : vx_Met l y ws rm Pc Qc XC mc ms free) (cw : CallW R s args own C index y bytes maxL ret ws rm mc ms n) (hp : PreV s H C b Pc As)
    (hg : g.method = m) (hn : As.length = n) (hsize : g.locals.size = nL) (hstack : g.stack = As.reverse ++ .ref b :: rest) (hW : 2 * g.monitorRoom + (rest.map fun v => v.category).sum ≤ 8) (hdg : decode cc g.pc = .ok (.invokevirtual index, 3)) (hf : cells + mc ≤ R.cells ∧ slots + ms ≤ R.slots) :
    vx_Run p l e R s m args below meth c H locs cells slots mc ms g rest (Qc (Value.ref b :: As).toArray) XC free := by
  have hK : vx_Back l R p e below s args y 3 8 (PreOf R mc ms Pc) (PostOf Qc mc ms free) (vx_Post XC mc ms free) := vx_callBack cw.1 hM hp.1
  obtain ⟨⟨-, -, -, -, -, -, hcode, -, hy, hlen, hl⟩, hin, hse⟩ := cw
  obtain ⟨hx, hb, hml, ho, -⟩ := S
  obtain ⟨-, ⟨cellB, hcB, hoB, hclB⟩, hPc⟩ := hp
  intro T hT X
  rcases vx_callV X hx (C := C) (bytes := bytes) (maxL := maxL) (ret := ret) ho hl hin hse hcode hy hK (by rw [hT]; exact hcB) hoB hclB hg (hsize.trans hml.symm) (argsL := As) (rest := rest) (fun sig h => hn.trans (hlen sig h)) hstack hW (by rw [hb]; exact hdg)
    (fun vm₁ hW₁ => ⟨hf.1, hf.2, hPc (T.setVm vm₁) hT hW₁⟩) with ⟨v, vm₁, ⟨U', l2, c2, s2⟩, hW₁, X', ⟨g', mk, t, L, e1, e2, hq, h1, hL, h2, h3⟩, st⟩ | ⟨q, vm₁, ⟨U', l2, c2, s2⟩, hW₁, X', ⟨g', mk, t, L, E, ce, e1, e2, hq, hce, hcv, hcl, h1, hL, h2, h3⟩, st⟩
  · dsimp only [Pt.U, Pt.locs, Pt.cells, Pt.slots] at X' e1 e2 h1 h2 h3 st
    subst h1; subst h2; subst h3
    exact Or.inl ⟨v, (T.setVm vm₁).calling g' mk (Value.ref b :: As).toArray, t, U', L, hT, X', hL, e1, e2, hq, st⟩
  · dsimp only [Pt.U, Pt.locs, Pt.cells, Pt.slots] at X' e1 e2 h1 h2 h3 st hcl
    subst h1; subst h2; subst h3
    exact Or.inr ⟨q, (T.setVm vm₁).calling g' mk (Value.ref b :: As).toArray, t, U', L, E, ce, hT, X', hL, e1, e2, hq, hce, hcv, vx_cls hW₁ hcl, st⟩
theorem vx_runS (S : CallFix p m c cc nL s args Ts own) (hM : vx_Met l y ws rm Pc Qc XC mc ms free) (cw : CallB R s args own index y bytes maxL ret ws rm mc ms n ∧ (Cond.static y).before args s = true) (hp : PreS s H Pc As)
    (hg : g.method = m) (hn : As.length = n) (hsize : g.locals.size = nL) (hstack : g.stack = As.reverse ++ rest) (hW : 2 * g.monitorRoom + (rest.map fun v => v.category).sum ≤ 8) (hdg : decode cc g.pc = .ok (.invokestatic index, 3)) (hf : cells + mc ≤ R.cells ∧ slots + ms ≤ R.slots) :
    vx_Run p l e R s m args below meth c H locs cells slots mc ms g rest (Qc As.toArray) XC free := by
  have hK : vx_Back l R p e below s args y 3 8 (PreOf R mc ms Pc) (PostOf Qc mc ms free) (vx_Post XC mc ms free) := vx_callBack cw.1 hM hp.1
  obtain ⟨⟨-, -, -, -, -, -, hcode, hini, hy, hlen, hl⟩, hstt⟩ := cw
  obtain ⟨hx, hb, hml, ho, -⟩ := S
  intro T hT X
  rcases vx_callS X hx (bytes := bytes) (maxL := maxL) (ret := ret) ho hl hstt hini hcode hy hK hg (hsize.trans hml.symm) (argsL := As) (rest := rest) (fun sig h => hn.trans (hlen sig h)) hstack hW (by rw [hb]; exact hdg)
    (fun vm₁ hW₁ => ⟨hf.1, hf.2, hp.2 (T.setVm vm₁) hT hW₁⟩) with ⟨v, vm₁, ⟨U', l2, c2, s2⟩, hW₁, X', ⟨g', mk, t, L, e1, e2, hq, h1, hL, h2, h3⟩, st⟩ | ⟨q, vm₁, ⟨U', l2, c2, s2⟩, hW₁, X', ⟨g', mk, t, L, E, ce, e1, e2, hq, hce, hcv, hcl, h1, hL, h2, h3⟩, st⟩
  · dsimp only [Pt.U, Pt.locs, Pt.cells, Pt.slots] at X' e1 e2 h1 h2 h3 st
    subst h1; subst h2; subst h3
    exact Or.inl ⟨v, (T.setVm vm₁).calling g' mk As.toArray, t, U', L, hT, X', hL, e1, e2, hq, st⟩
  · dsimp only [Pt.U, Pt.locs, Pt.cells, Pt.slots] at X' e1 e2 h1 h2 h3 st hcl
    subst h1; subst h2; subst h3
    exact Or.inr ⟨q, (T.setVm vm₁).calling g' mk As.toArray, t, U', L, E, ce, hT, X', hL, e1, e2, hq, hce, hcv, vx_cls hW₁ hcl, st⟩
end Runs
section Rows
variable {p : Program} {l : Launch} {e : Env} {R : Room} {s : State} {m : MethodId} {args : Array Value} {below : List Frame} {meth : Method} {c : Code} {H : Heap} {locs : List Loc} {cells slots : Nat} {Q : State → Prop}
variable {mc ms : Nat} {free : Addr → Prop} {A0 A1 : Nat → Prop} {H0 : Heap} {a : Array Value} {pc : Nat} {ls : Array Slot} {st0 rest : List Value}
theorem vx_keep {st₀ t T' : State} {L : List Loc} (h0 : st₀.heap = H) (e1 : T'.heap = t.heap) (hS : va_S A0 H0 H locs) (hA : ∀ q, q < H.size → A1 q → A0 q) (hf : ∀ q, free q → A0 q) (hL : ∀ q ∈ L, free q.base) (hF : va_F A1 st₀ t) :
    H.size ≤ T'.heap.size ∧ (∀ q : Nat, q < H.size → ¬ A1 q → T'.heap[q]? = H[q]?) ∧ va_S A0 H0 T'.heap (locs ++ L) := by
  obtain ⟨hz, hk⟩ := hF
  rw [h0] at hz hk
  exact ⟨by rw [e1]; exact hz, fun q h1 h2 => by rw [e1]; exact hk q h1 h2,
    ⟨Nat.le_trans hS.1 (by rw [e1]; exact hz), fun q h1 h2 => by rw [e1, hk q (Nat.lt_of_lt_of_le h1 hS.1) (fun z => h2 (hA q (Nat.lt_of_lt_of_le h1 hS.1) z))]; exact hS.2.1 q h1 h2, fun q hq => by
      rcases List.mem_append.mp hq with h | h
      · exact hS.2.2 q h
      · exact hf _ (hL q h)⟩⟩
theorem vx_calli {S SX : Type} {post : Int32 → S → Prop} {px : SX → Prop} {B : S → State → Prop} {BX : String → SX → State → Prop} {AX : Nat → Prop} (hr : vx_Run p l e R s m args below meth c H locs cells slots mc ms (F0 m pc ls st0) rest (va_Qi post B A1 a) (vx_X px BX AX) free) (hS : va_S A0 H0 H locs) (hA : ∀ q, q < H.size → A1 q → A0 q) (hf : ∀ q, free q → A0 q) (hAX : ∀ q, q < H.size → AX q → A0 q)
    (kx : ∀ (E : String) (ce : Cell) (q9 : Addr) (u : SX) (t : State) (H1 : Heap) (locs1 : List Loc), t.heap = H1 → s.vm.Alike t.vm → px u → BX E u t → H.size ≤ H1.size → (∀ q : Nat, q < H.size → ¬ AX q → H1[q]? = H[q]?) → va_S A0 H0 H1 locs1 → H1[q9]? = some ce → ce.vm = .none → s.vm.findClass E = some ce.cls → vx_W p l e R s m args below meth c H1 locs1 (cells + mc) (slots + ms) Q (F0 m pc ls rest) q9)
    (kk : ∀ (r : Int32) (u : S) (t : State) (H1 : Heap) (locs1 : List Loc), t.heap = H1 → s.vm.Alike t.vm → post r u → B u t → H.size ≤ H1.size → (∀ q : Nat, q < H.size → ¬ A1 q → H1[q]? = H[q]?) → va_S A0 H0 H1 locs1 → W p l e R s m args below meth c H1 locs1 (cells + mc) (slots + ms) Q (F0 m (pc + 3) ls (.int r :: rest))) : W p l e R s m args below meth c H locs cells slots Q (F0 m pc ls st0) := by
  intro T hT X
  rcases hr T hT X with ⟨v, st₀, t, T', L, h0, X', hL, e1, e2, ⟨⟨r, u, hv, hp, hb⟩, hF⟩, st⟩ | ⟨q, st₀, t, T', L, E, ce, h0, X', hL, e1, e2, ⟨u, hp, hb, hF⟩, hce, hcv, hcl, st⟩
  · cases hv
    obtain ⟨k1, k2, k3⟩ := vx_keep h0 e1 hS hA hf hL hF
    obtain ⟨t2, a1, b1⟩ := kk r u t T'.heap (locs ++ L) e1.symm (by rw [← e2]; exact X'.warmed.alike) hp hb k1 k2 k3 T' rfl X'
    exact ⟨t2, st t2 a1, b1⟩
  · obtain ⟨k1, k2, k3⟩ := vx_keep h0 e1 hS hAX hf hL hF
    obtain ⟨t2, a1, b1⟩ := kx E ce q u t T'.heap (locs ++ L) e1.symm (by rw [← e2]; exact X'.warmed.alike) hp hb k1 k2 k3 (by rw [e1]; exact hce) hcv hcl T' rfl X'
    exact ⟨t2, st.trans a1, b1⟩
theorem vx_calll {S SX : Type} {post : Int64 → S → Prop} {px : SX → Prop} {B : S → State → Prop} {BX : String → SX → State → Prop} {AX : Nat → Prop} (hr : vx_Run p l e R s m args below meth c H locs cells slots mc ms (F0 m pc ls st0) rest (va_Ql post B A1 a) (vx_X px BX AX) free) (hS : va_S A0 H0 H locs) (hA : ∀ q, q < H.size → A1 q → A0 q) (hf : ∀ q, free q → A0 q) (hAX : ∀ q, q < H.size → AX q → A0 q)
    (kx : ∀ (E : String) (ce : Cell) (q9 : Addr) (u : SX) (t : State) (H1 : Heap) (locs1 : List Loc), t.heap = H1 → s.vm.Alike t.vm → px u → BX E u t → H.size ≤ H1.size → (∀ q : Nat, q < H.size → ¬ AX q → H1[q]? = H[q]?) → va_S A0 H0 H1 locs1 → H1[q9]? = some ce → ce.vm = .none → s.vm.findClass E = some ce.cls → vx_W p l e R s m args below meth c H1 locs1 (cells + mc) (slots + ms) Q (F0 m pc ls rest) q9)
    (kk : ∀ (r : Int64) (u : S) (t : State) (H1 : Heap) (locs1 : List Loc), t.heap = H1 → s.vm.Alike t.vm → post r u → B u t → H.size ≤ H1.size → (∀ q : Nat, q < H.size → ¬ A1 q → H1[q]? = H[q]?) → va_S A0 H0 H1 locs1 → W p l e R s m args below meth c H1 locs1 (cells + mc) (slots + ms) Q (F0 m (pc + 3) ls (.long r :: rest))) : W p l e R s m args below meth c H locs cells slots Q (F0 m pc ls st0) := by
  intro T hT X
  rcases hr T hT X with ⟨v, st₀, t, T', L, h0, X', hL, e1, e2, ⟨⟨r, u, hv, hp, hb⟩, hF⟩, st⟩ | ⟨q, st₀, t, T', L, E, ce, h0, X', hL, e1, e2, ⟨u, hp, hb, hF⟩, hce, hcv, hcl, st⟩
  · cases hv
    obtain ⟨k1, k2, k3⟩ := vx_keep h0 e1 hS hA hf hL hF
    obtain ⟨t2, a1, b1⟩ := kk r u t T'.heap (locs ++ L) e1.symm (by rw [← e2]; exact X'.warmed.alike) hp hb k1 k2 k3 T' rfl X'
    exact ⟨t2, st t2 a1, b1⟩
  · obtain ⟨k1, k2, k3⟩ := vx_keep h0 e1 hS hAX hf hL hF
    obtain ⟨t2, a1, b1⟩ := kx E ce q u t T'.heap (locs ++ L) e1.symm (by rw [← e2]; exact X'.warmed.alike) hp hb k1 k2 k3 (by rw [e1]; exact hce) hcv hcl T' rfl X'
    exact ⟨t2, st.trans a1, b1⟩
theorem vx_callf {S SX : Type} {post : UInt32 → S → Prop} {px : SX → Prop} {B : S → State → Prop} {BX : String → SX → State → Prop} {AX : Nat → Prop} (hr : vx_Run p l e R s m args below meth c H locs cells slots mc ms (F0 m pc ls st0) rest (va_Qf post B A1 a) (vx_X px BX AX) free) (hS : va_S A0 H0 H locs) (hA : ∀ q, q < H.size → A1 q → A0 q) (hf : ∀ q, free q → A0 q) (hAX : ∀ q, q < H.size → AX q → A0 q)
    (kx : ∀ (E : String) (ce : Cell) (q9 : Addr) (u : SX) (t : State) (H1 : Heap) (locs1 : List Loc), t.heap = H1 → s.vm.Alike t.vm → px u → BX E u t → H.size ≤ H1.size → (∀ q : Nat, q < H.size → ¬ AX q → H1[q]? = H[q]?) → va_S A0 H0 H1 locs1 → H1[q9]? = some ce → ce.vm = .none → s.vm.findClass E = some ce.cls → vx_W p l e R s m args below meth c H1 locs1 (cells + mc) (slots + ms) Q (F0 m pc ls rest) q9)
    (kk : ∀ (r : UInt32) (u : S) (t : State) (H1 : Heap) (locs1 : List Loc), t.heap = H1 → s.vm.Alike t.vm → post r u → B u t → H.size ≤ H1.size → (∀ q : Nat, q < H.size → ¬ A1 q → H1[q]? = H[q]?) → va_S A0 H0 H1 locs1 → W p l e R s m args below meth c H1 locs1 (cells + mc) (slots + ms) Q (F0 m (pc + 3) ls (.float r :: rest))) : W p l e R s m args below meth c H locs cells slots Q (F0 m pc ls st0) := by
  intro T hT X
  rcases hr T hT X with ⟨v, st₀, t, T', L, h0, X', hL, e1, e2, ⟨⟨r, u, hv, hp, hb⟩, hF⟩, st⟩ | ⟨q, st₀, t, T', L, E, ce, h0, X', hL, e1, e2, ⟨u, hp, hb, hF⟩, hce, hcv, hcl, st⟩
  · cases hv
    obtain ⟨k1, k2, k3⟩ := vx_keep h0 e1 hS hA hf hL hF
    obtain ⟨t2, a1, b1⟩ := kk r u t T'.heap (locs ++ L) e1.symm (by rw [← e2]; exact X'.warmed.alike) hp hb k1 k2 k3 T' rfl X'
    exact ⟨t2, st t2 a1, b1⟩
  · obtain ⟨k1, k2, k3⟩ := vx_keep h0 e1 hS hAX hf hL hF
    obtain ⟨t2, a1, b1⟩ := kx E ce q u t T'.heap (locs ++ L) e1.symm (by rw [← e2]; exact X'.warmed.alike) hp hb k1 k2 k3 (by rw [e1]; exact hce) hcv hcl T' rfl X'
    exact ⟨t2, st.trans a1, b1⟩
theorem vx_calld {S SX : Type} {post : UInt64 → S → Prop} {px : SX → Prop} {B : S → State → Prop} {BX : String → SX → State → Prop} {AX : Nat → Prop} (hr : vx_Run p l e R s m args below meth c H locs cells slots mc ms (F0 m pc ls st0) rest (va_Qd post B A1 a) (vx_X px BX AX) free) (hS : va_S A0 H0 H locs) (hA : ∀ q, q < H.size → A1 q → A0 q) (hf : ∀ q, free q → A0 q) (hAX : ∀ q, q < H.size → AX q → A0 q)
    (kx : ∀ (E : String) (ce : Cell) (q9 : Addr) (u : SX) (t : State) (H1 : Heap) (locs1 : List Loc), t.heap = H1 → s.vm.Alike t.vm → px u → BX E u t → H.size ≤ H1.size → (∀ q : Nat, q < H.size → ¬ AX q → H1[q]? = H[q]?) → va_S A0 H0 H1 locs1 → H1[q9]? = some ce → ce.vm = .none → s.vm.findClass E = some ce.cls → vx_W p l e R s m args below meth c H1 locs1 (cells + mc) (slots + ms) Q (F0 m pc ls rest) q9)
    (kk : ∀ (r : UInt64) (u : S) (t : State) (H1 : Heap) (locs1 : List Loc), t.heap = H1 → s.vm.Alike t.vm → post r u → B u t → H.size ≤ H1.size → (∀ q : Nat, q < H.size → ¬ A1 q → H1[q]? = H[q]?) → va_S A0 H0 H1 locs1 → W p l e R s m args below meth c H1 locs1 (cells + mc) (slots + ms) Q (F0 m (pc + 3) ls (.double r :: rest))) : W p l e R s m args below meth c H locs cells slots Q (F0 m pc ls st0) := by
  intro T hT X
  rcases hr T hT X with ⟨v, st₀, t, T', L, h0, X', hL, e1, e2, ⟨⟨r, u, hv, hp, hb⟩, hF⟩, st⟩ | ⟨q, st₀, t, T', L, E, ce, h0, X', hL, e1, e2, ⟨u, hp, hb, hF⟩, hce, hcv, hcl, st⟩
  · cases hv
    obtain ⟨k1, k2, k3⟩ := vx_keep h0 e1 hS hA hf hL hF
    obtain ⟨t2, a1, b1⟩ := kk r u t T'.heap (locs ++ L) e1.symm (by rw [← e2]; exact X'.warmed.alike) hp hb k1 k2 k3 T' rfl X'
    exact ⟨t2, st t2 a1, b1⟩
  · obtain ⟨k1, k2, k3⟩ := vx_keep h0 e1 hS hAX hf hL hF
    obtain ⟨t2, a1, b1⟩ := kx E ce q u t T'.heap (locs ++ L) e1.symm (by rw [← e2]; exact X'.warmed.alike) hp hb k1 k2 k3 (by rw [e1]; exact hce) hcv hcl T' rfl X'
    exact ⟨t2, st.trans a1, b1⟩
theorem vx_callv {S SX : Type} {post : S → Prop} {px : SX → Prop} {B : S → State → Prop} {BX : String → SX → State → Prop} {AX : Nat → Prop} (hr : vx_Run p l e R s m args below meth c H locs cells slots mc ms (F0 m pc ls st0) rest (va_Qv post B A1 a) (vx_X px BX AX) free) (hS : va_S A0 H0 H locs) (hA : ∀ q, q < H.size → A1 q → A0 q) (hf : ∀ q, free q → A0 q) (hAX : ∀ q, q < H.size → AX q → A0 q)
    (kx : ∀ (E : String) (ce : Cell) (q9 : Addr) (u : SX) (t : State) (H1 : Heap) (locs1 : List Loc), t.heap = H1 → s.vm.Alike t.vm → px u → BX E u t → H.size ≤ H1.size → (∀ q : Nat, q < H.size → ¬ AX q → H1[q]? = H[q]?) → va_S A0 H0 H1 locs1 → H1[q9]? = some ce → ce.vm = .none → s.vm.findClass E = some ce.cls → vx_W p l e R s m args below meth c H1 locs1 (cells + mc) (slots + ms) Q (F0 m pc ls rest) q9)
    (kk : ∀ (u : S) (t : State) (H1 : Heap) (locs1 : List Loc), t.heap = H1 → s.vm.Alike t.vm → post u → B u t → H.size ≤ H1.size → (∀ q : Nat, q < H.size → ¬ A1 q → H1[q]? = H[q]?) → va_S A0 H0 H1 locs1 → W p l e R s m args below meth c H1 locs1 (cells + mc) (slots + ms) Q (F0 m (pc + 3) ls (rest))) : W p l e R s m args below meth c H locs cells slots Q (F0 m pc ls st0) := by
  intro T hT X
  rcases hr T hT X with ⟨v, st₀, t, T', L, h0, X', hL, e1, e2, ⟨⟨u, hv, hp, hb⟩, hF⟩, st⟩ | ⟨q, st₀, t, T', L, E, ce, h0, X', hL, e1, e2, ⟨u, hp, hb, hF⟩, hce, hcv, hcl, st⟩
  · cases hv
    obtain ⟨k1, k2, k3⟩ := vx_keep h0 e1 hS hA hf hL hF
    obtain ⟨t2, a1, b1⟩ := kk u t T'.heap (locs ++ L) e1.symm (by rw [← e2]; exact X'.warmed.alike) hp hb k1 k2 k3 T' rfl X'
    exact ⟨t2, st t2 a1, b1⟩
  · obtain ⟨k1, k2, k3⟩ := vx_keep h0 e1 hS hAX hf hL hF
    obtain ⟨t2, a1, b1⟩ := kx E ce q u t T'.heap (locs ++ L) e1.symm (by rw [← e2]; exact X'.warmed.alike) hp hb k1 k2 k3 (by rw [e1]; exact hce) hcv hcl T' rfl X'
    exact ⟨t2, st.trans a1, b1⟩
/-- caught by the row x of this method's table; the rows ahead don't take it -/
theorem vx_catch {own name : String} {E : String} {ce : Cell} {q : Addr} (hown : s.vm.findClass own = some m.cls) (pre : List ExceptionTableEntry) (x : ExceptionTableEntry) (suf : List ExceptionTableEntry) (hsplit : c.exceptionTable.toList = pre ++ x :: suf)
    (hpass : ∀ z ∈ pre, covers z pc = false ∨ (z.catchType ≠ 0 ∧ ∃ nm : String, (Cond.classLink own z.catchType nm).before args s = true ∧ va_Nc E nm s)) (hx : covers x pc = true) (h0 : x.catchType ≠ 0)
    (hlink : (Cond.classLink own x.catchType name).before args s = true) (hcast : (Cond.castable E name).before args s = true) (hcell : H[q]? = some ce) (hv : ce.vm = .none) (hcl : s.vm.findClass E = some ce.cls)
    (kk : W p l e R s m args below meth c H locs cells slots Q (F0 m x.handlerPc ls [.ref q])) : vx_W p l e R s m args below meth c H locs cells slots Q (F0 m pc ls rest) q := by
  intro T hT X
  have hpl : e.platform.magicAccessors = ({} : Platform).magicAccessors := by rw [X.admits.platform]
  obtain ⟨c3, c4, hc3, hc4, hasg⟩ := Cond.castable_spec hcast
  cases Option.some.inj (hc3.symm.trans hcl)
  obtain ⟨c5, hc5, hcl5⟩ := Cond.classLink_spec hown hlink e.platform hpl
  cases Option.some.inj (hc4.symm.trans hc5)
  obtain ⟨vm', X', st⟩ := X.thenCaughtThrough q (g := F0 m pc ls rest) rfl (Steps.refl _) (by rw [hT]; exact hcell) (by rw [hv]; rfl) (by obtain ⟨k9, h9, -⟩ := Vm.findClass_spec hcl; exact ⟨k9, h9⟩) pre x suf hsplit
    (fun z hz => by
      rcases hpass z hz with h | ⟨hz0, nm, hl1, hn1⟩
      · exact Or.inl h
      · obtain ⟨c6, hc6, hcl6⟩ := Cond.classLink_spec hown hl1 e.platform hpl
        obtain ⟨a8, b8, h1, h2, h3⟩ := hn1
        cases Option.some.inj (h1.symm.trans hcl)
        cases Option.some.inj (h2.symm.trans hc6)
        exact Or.inr ⟨hz0, _, hcl6, h3⟩) hx (Or.inr ⟨h0, c4, hcl5, hasg⟩)
  obtain ⟨t, a1, b1⟩ := kk (T.setVm vm') hT X'
  exact ⟨t, st.trans a1, b1⟩
end Rows
section Ends
variable {p : Program} {l : Launch} {e : Env} {R : Room} {s : State} {m : MethodId} {args : Array Value} {below : List Frame} {meth : Method} {c : Code} {H : Heap} {locs : List Loc} {cells slots : Nat} {Q : State → Prop}
variable {mc ms : Nat} {free : Addr → Prop} {A0 A1 : Nat → Prop} {H0 : Heap} {a : Array Value} {ls : Array Slot} {st0 rest : List Value}
variable {Qc : Array Value → State → Outcome → State → Prop} {XC : String → State → State → Prop}
/-- what a body that may throw owes at its end -/
def vx_MQ (below : List Frame) (Qc : Array Value → State → Outcome → State → Prop) (XC : String → State → State → Prop) (a : Array Value) (s : State) (mc ms : Nat) (free : Addr → Prop) : State → Prop := fun t =>
  ∃ o, t.status = .running ∧ Ended t below o ∧ vx_Q Qc XC mc ms free a s o t
theorem vx_ret {g : JFrame} {mc ms : Nat} (k : W p l e R s m args below meth c H locs cells slots (MQ below Qc args s mc ms free) g) : W p l e R s m args below meth c H locs cells slots (vx_MQ below Qc XC args s mc ms free) g := by
  intro T hT X
  obtain ⟨t, a1, o, b1, b2, b3, b4⟩ := k T hT X
  exact ⟨t, a1, o, b1, b2, Or.inl ⟨b3, b4⟩⟩
/-- not caught here: it goes on to the caller -/
theorem vx_widen {g : JFrame} {q : Addr} {k n : Nat} (h1 : cells ≤ k) (h2 : slots ≤ n) (kk : vx_W p l e R s m args below meth c H locs k n Q g q) : vx_W p l e R s m args below meth c H locs cells slots Q g q := fun T hT X => kk T hT (stand_widen X h1 h2)
theorem vx_out {pc : Nat} {E : String} {ce : Cell} {q : Addr} {mc ms : Nat} (hout : ∀ x ∈ c.exceptionTable.toList, covers x pc = false) (hlocks : meth.locks = false) (hcell : H[q]? = some ce) (hv : ce.vm = .none) (hcl : s.vm.findClass E = some ce.cls)
    (hx : ∀ t : State, t.heap = H → s.vm.Alike t.vm → XC E s t) (hf : ∀ z ∈ locs, free z.base) (hc : cells ≤ mc) (hs : slots ≤ ms) :
    vx_W p l e R s m args below meth c H locs cells slots (vx_MQ below Qc XC args s mc ms free) (F0 m pc ls rest) q := by
  intro T hT X
  obtain ⟨st1, hrun, hend, hW, hsm⟩ := X.leaveThrown q (g := F0 m pc ls rest) rfl rfl rfl hout hlocks
  have hcell9 : (T.setFrames (.throwing q :: below)).heap[q]? = some ce := by
    show T.heap[q]? = some ce
    rw [hT]; exact hcell
  exact ⟨_, st1, .threw q, hrun, hend, Or.inr ⟨q, rfl, E, ce, locs, hx _ hT hW.alike, hcell9, hv, hcl, hW, hsm.mono hc hs, hf⟩⟩
theorem vx_frame {U : State} {k n : Nat} (h : s.sameButNew ({ U with vm := s.vm } : State) locs k n) : s.heap.size ≤ U.heap.size ∧ ∀ q : Nat, q < s.heap.size → (∀ z ∈ locs, z.base ≠ q) → U.heap[q]? = s.heap[q]? := by
  obtain ⟨-, h2, -, -, -, h6⟩ := h
  refine ⟨h2, fun q hq hz => ?_⟩
  obtain ⟨c9, e1, e2, e3, e4⟩ := h6 q _ (Array.getElem?_eq_getElem hq)
  have hs : c9.slots = (s.heap[q]).slots := Array.ext_getElem? fun i => e4 i fun hm => hz _ hm rfl
  have h9 : c9 = s.heap[q] := by
    rw [hs] at e2
    exact e2
  have e5 : U.heap[q]? = some c9 := e1
  rw [e5, h9, Array.getElem?_eq_getElem hq]
/-- the words of a throw but the four that speak of the heap -/
def vx_no (w : Cond) : Bool := decide (w ≠ .isRef (.static Bundle.tN "UNASSIGNED_STACK" Bundle.steD)) && decide (w ≠ .isRef (.static Bundle.tN "SUPPRESSED_SENTINEL" Bundle.listD)) && decide (w ≠ .laysStatic Bundle.tN "UNASSIGNED_STACK" Bundle.steD) && decide (w ≠ .laysStatic Bundle.tN "SUPPRESSED_SENTINEL" Bundle.listD)
def vx_at0 (own : String) (ic : Nat) (X : String) (names : List String) : List Cond := (Bundle.ownAtoms0 own ic X names).filter vx_no
def vx_atS (own : String) (ic : Nat) (X : String) (names : List String) : List Cond := (Bundle.ownAtoms own ic X names).filter vx_no
/-- a word that the tables alone decide, or a good one -/
def vx_ot (w : Cond) : Bool := w.onTables || goodWord w
theorem vx_ot_at {args a' : Array Value} {s U : State} {w : Cond} (hW : s.WarmedH U.vm) (hvm : s.vm = U.vm) (hg : vx_ot w = true) (h : w.before args s = true) : w.before a' U = true := by
  simp only [vx_ot, Bool.or_eq_true] at hg
  rcases hg with hg | hg
  · exact va_tabs hg hvm h
  · exact word_at hW (good_of_word hg) h
/-- a list's words: the good ones out of the method's own list, the others by premises of their own -/
theorem vx_hat {args : Array Value} {s : State} {L B : List Cond} (h1 : ∀ w ∈ L.filter goodWord, w.before args s = true) (h2 : ∀ w ∈ L.filter (fun w => !goodWord w), w ∈ B) (h3 : ∀ w ∈ B, w.before args s = true) : ∀ w ∈ L, w.before args s = true := by
  intro w hw
  by_cases g : goodWord w = true
  · exact h1 w (List.mem_filter.mpr ⟨hw, g⟩)
  · refine h3 w (h2 w (List.mem_filter.mpr ⟨hw, ?_⟩))
    show (!goodWord w) = true
    cases hgw : goodWord w
    · rfl
    · exact absurd hgw g
theorem vx_c {args : Array Value} {s : State} {w : Cond} {B : List Cond} (h : w.before args s = true) (t : ∀ w ∈ B, w.before args s = true) : ∀ w' ∈ w :: B, w'.before args s = true := fun w' h' => (List.mem_cons.mp h').elim (fun e => by rw [e]; exact h) (t w')
theorem vx_n {args : Array Value} {s : State} : ∀ w ∈ ([] : List Cond), w.before args s = true := fun _ h => nomatch h
theorem vx_own {args : Array Value} {s : State} {L : List Cond} (h1 : ∀ w ∈ L.filter vx_no, w.before args s = true)
    (hU : (Cond.isRef (.static Bundle.tN "UNASSIGNED_STACK" Bundle.steD)).before args s = true) (hN : (Cond.isRef (.static Bundle.tN "SUPPRESSED_SENTINEL" Bundle.listD)).before args s = true)
    (lU : (Cond.laysStatic Bundle.tN "UNASSIGNED_STACK" Bundle.steD).before args s = true) (lN : (Cond.laysStatic Bundle.tN "SUPPRESSED_SENTINEL" Bundle.listD).before args s = true) : ∀ w ∈ L, w.before args s = true := by
  intro w hw
  by_cases e1 : w = .isRef (.static Bundle.tN "UNASSIGNED_STACK" Bundle.steD)
  · rw [e1]; exact hU
  · by_cases e2 : w = .isRef (.static Bundle.tN "SUPPRESSED_SENTINEL" Bundle.listD)
    · rw [e2]; exact hN
    · by_cases e3 : w = .laysStatic Bundle.tN "UNASSIGNED_STACK" Bundle.steD
      · rw [e3]; exact lU
      · by_cases e4 : w = .laysStatic Bundle.tN "SUPPRESSED_SENTINEL" Bundle.listD
        · rw [e4]; exact lN
        · exact h1 w (List.mem_filter.mpr ⟨hw, by unfold vx_no; rw [decide_eq_true e1, decide_eq_true e2, decide_eq_true e3, decide_eq_true e4]; rfl⟩)
/-- where a static field lies, its class's statics cell in H -/
def vx_L (C n d : String) (A : Nat → Prop) (U : State) (H : Heap) : Prop := ∃ (c : ClassId) (k : Class) (i : Nat) (f : Field) (a : Nat) (cell : Cell), U.vm.findClass C = some c ∧ U.fieldFound? C n d = some (c, k, i, f) ∧ f.isStatic = true ∧ k.statics = some a ∧ H[a]? = some cell ∧ cell.vm.isStatics = true ∧ cell.cls = c ∧ f.slot < cell.slots.size ∧ k.staticTypes[f.slot]? = some f.type ∧ ¬ A a
theorem vx_L.moved {C n d : String} {A : Nat → Prop} {u U : State} {H : Heap} (hvm : u.vm.Alike U.vm) (h : vx_L C n d A u H) : vx_L C n d A U H := by
  obtain ⟨c, k, i, f, a, cell, h1, h2, h3, h4, h5, h6, h7, h8, h9, h10⟩ := h
  obtain ⟨k', hi', he⟩ := State.fieldFound?_setVm hvm h2
  exact ⟨c, k', i, f, a, cell, by rw [hvm.findClass]; exact h1, hi', h3, by rw [he]; exact h4, h5, h6, h7, h8, by rw [he]; exact h9, h10⟩
theorem vx_L.kept {C n d : String} {A : Nat → Prop} {U : State} {H H1 : Heap} (h : vx_L C n d A U H) (hq : ∀ a : Nat, a < H.size → ¬ A a → H1[a]? = H[a]?) : vx_L C n d A U H1 := by
  obtain ⟨c, k, i, f, a, cell, h1, h2, h3, h4, h5, h6, h7, h8, h9, h10⟩ := h
  exact ⟨c, k, i, f, a, cell, h1, h2, h3, h4, by rw [hq a (Array.getElem?_eq_some_iff.mp h5).1 h10]; exact h5, h6, h7, h8, h9, h10⟩
theorem vx_L.narrow {C n d : String} {A B : Nat → Prop} {U : State} {H : Heap} (h : vx_L C n d A U H) (hAB : ∀ q, B q → A q) : vx_L C n d B U H := by
  obtain ⟨c, k, i, f, a, cell, h1, h2, h3, h4, h5, h6, h7, h8, h9, h10⟩ := h
  exact ⟨c, k, i, f, a, cell, h1, h2, h3, h4, h5, h6, h7, h8, h9, fun z => h10 (hAB _ z)⟩
theorem vx_L.word {C n d : String} {A : Nat → Prop} {s : State} {args : Array Value} (h : vx_L C n d A s s.heap) : (Cond.laysStatic C n d).before args s = true := by
  obtain ⟨c, k, i, f, a, cell, h1, h2, h3, h4, h5, h6, h7, h8, h9, -⟩ := h
  show (Cond.laysStatic C n d).holds args s none s [] = true
  exact Cond.laysStatic_of h1 h2 h3 h4 h5 h6 h7 h8 h9
/-- .. and what it holds: null or some reference -/
def vx_Zq (C n d : String) (A : Nat → Prop) (U : State) (H : Heap) : Prop := va_Zq C n d A U H ∧ vx_L C n d A U H
theorem vx_Zq.moved {C n d : String} {A : Nat → Prop} {u U : State} {H : Heap} (hvm : u.vm.Alike U.vm) (h : vx_Zq C n d A u H) : vx_Zq C n d A U H := ⟨va_Zq.moved hvm h.1, vx_L.moved hvm h.2⟩
theorem vx_Zq.kept {C n d : String} {A : Nat → Prop} {U : State} {H H1 : Heap} (h : vx_Zq C n d A U H) (hq : ∀ a : Nat, a < H.size → ¬ A a → H1[a]? = H[a]?) : vx_Zq C n d A U H1 := ⟨va_Zq.kept h.1 hq, vx_L.kept h.2 hq⟩
theorem vx_Zq.narrow {C n d : String} {A B : Nat → Prop} {U : State} {H : Heap} (h : vx_Zq C n d A U H) (hAB : ∀ q, B q → A q) : vx_Zq C n d B U H := ⟨va_Zq.narrow h.1 hAB, vx_L.narrow h.2 hAB⟩
theorem vx_Zqof {args : Array Value} {s : State} {C n d : String} {A : Nat → Prop} (hl : (Cond.laysStatic C n d).before args s = true) (hini : (Cond.initialized C).before args s = true) (h : (Cond.isRef (.static C n d)).before args s = true) (hA : ∀ a : Nat, a < s.heap.size → ¬ A a) : vx_Zq C n d A s s.heap := by
  refine ⟨va_Zqof hl hini h hA, ?_⟩
  obtain ⟨c, k, i, f, a, cell, h1, h2, h3, h4, h5, h6, h7, h8, h9⟩ := Cond.laysStatic_spec hl
  exact ⟨c, k, i, f, a, cell, h1, h2, h3, h4, h5, h6, h7, h8, h9, hA a (Array.getElem?_eq_some_iff.mp h5).1⟩
theorem vx_isRef {C n d : String} {v : Value} {A : Nat → Prop} {s : State} {args : Array Value} (h : va_Z C n d v A s s.heap) (hv : v.isRef = true) : (Cond.isRef (.static C n d)).before args s = true := by
  obtain ⟨cf, kf, fi, f, a, cell, h1, h2, h3, h4, h5, h6, h7, -⟩ := h
  have he : (Term.static C n d).eval args s none [] s = some v := by
    simp [Term.eval, State.fieldNamed?, h1, h2, h4, h5, h6, h7]
  simp only [Cond.before, Cond.holds, Cond.value, he]
  cases v <;> simp_all [Value.isRef]
theorem vx_isRefq {C n d : String} {A : Nat → Prop} {s : State} {args : Array Value} (h : va_Zq C n d A s s.heap) : (Cond.isRef (.static C n d)).before args s = true := by
  rcases h with h | ⟨t, h⟩
  · exact vx_isRef h rfl
  · exact vx_isRef h rfl
/-- the same frame, seen from here: as if the method were called anew in this heap -/
theorem vx_rebase {T : State} (X : Stand p l e R s m args below meth c T locs cells slots) {R' : Room} (hf : R'.frames ≤ R.frames) (hl : R'.locals ≤ R.locals) (hc : cells + R'.cells ≤ R.cells) (hs : slots + R'.slots ≤ R.slots) :
    Stand p l e R' ((T.setVm s.vm).setFrames (.invoking m args :: below)) m args below meth c T [] 0 0 := by
  have htop : (T.setVm s.vm).topJava?.isSome := X.here.top
  have hF : ((T.setVm s.vm).setFrames (.invoking m args :: below)).frames = .invoking m args :: below := State.frames_setFrames _ (State.cur_lt_of_top htop)
  obtain ⟨g₀, hg0⟩ := Option.isSome_iff_exists.mp htop
  obtain ⟨r, hr⟩ := State.topJava?_eq_some.mp hg0
  have hl9 : e.platform.stackLimits (T.setVm s.vm).me = e.platform.stackLimits s.me := X.limits
  have hb9 : (T.setVm s.vm).me.stackBytes = s.me.stackBytes := X.bytes
  refine ⟨X.admits, X.cas, X.clock, hF, ?_, X.hears, X.method, X.code, X.here, X.tail, X.warmed, ?_, ?_, ?_⟩
  · have h := X.room
    have hU : ((T.setVm s.vm).setFrames (.invoking m args :: below)).localsInUse = s.localsInUse := by
      rw [State.localsInUse_invoking hF (meth := meth) (c := c) X.method X.code, State.localsInUse_invoking X.frames X.method X.code]
    simp only [State.hasRoom, Bool.and_eq_true, decide_eq_true_eq] at h ⊢
    obtain ⟨⟨⟨⟨h1, h2, h3, h4, h5, h6⟩, h7⟩, h8⟩, h9⟩ := h
    rw [X.frames, List.length_cons] at h2 h3
    have q1 := X.heapSize
    have q2 := X.used
    simp only [hF, hU, List.length_cons, State.stackLimits_setFrames, State.stackBytes_setFrames, hl9, hb9]
    refine ⟨⟨⟨⟨by omega, by omega, by omega, by omega, by omega, h6⟩, ?_⟩, ?_⟩, X.book⟩
    · show T.heap.size + R'.cells ≤ e.platform.maxCells
      omega
    · show T.slotsUsed + R'.slots ≤ e.platform.maxSlots
      omega
  · rw [State.stackLimits_setFrames]; rfl
  · rw [State.stackBytes_setFrames]; rfl
  · refine ⟨?_, Nat.le_refl _, Nat.le_refl _, ?_, ?_, fun a c9 h9 => ⟨c9, h9, rfl, rfl, fun _ _ => rfl⟩⟩
    · obtain ⟨t, ht, -⟩ := State.frames_cons hr
      show T.setVm s.vm = { ((T.setVm s.vm).setFrames (.invoking m args :: below)).setFrames (T.setVm s.vm).frames with heap := T.heap, slotsUsed := T.slotsUsed }
      rw [State.setFrames_setFrames, State.setFrames_self ht]
      rfl
    · show T.slotsUsed = T.slotsUsed + ((T.heap.toList.drop T.heap.size).map (·.slots.size)).sum
      rw [List.drop_eq_nil_of_le (Nat.le_of_eq Array.length_toList)]
      rfl
    · show ((T.heap.toList.drop T.heap.size).map (·.slots.size)).sum ≤ 0
      rw [List.drop_eq_nil_of_le (Nat.le_of_eq Array.length_toList)]
      exact Nat.le_refl _
/-- 'throw new E()': new; dup; invokespecial; athrow -/
theorem vx_throw0 {cc : ByteArray} {pc : Nat} (hexec : p.tables.exec = Jvm.exec) (hb : c.code = cc) (hl : l.stackTraces = false) {own cls : String} {names : List String} {ik ic mc ms : Nat} {A : Nat → Prop}
    (hown : s.vm.findClass own = some m.cls) (hcls : Bundle.fit cls = true) (hnames : ∀ n ∈ names, Bundle.fit n = true)
    (hk : (Cond.classLink own ik cls).before args s = true) (hini : (Cond.initialized cls).before args s = true) (hat : ∀ w ∈ vx_at0 own ic cls names, w.before args s = true)
    (hgood : ∀ w ∈ Cond.classLink own ik cls :: Cond.initialized cls :: vx_at0 own ic cls names, vx_ot w = true)
    (hU : vx_Zq Bundle.tN "UNASSIGNED_STACK" Bundle.steD A s s.heap) (hN : vx_Zq Bundle.tN "SUPPRESSED_SENTINEL" Bundle.listD A s s.heap) (hS : va_S A s.heap H locs) (hsize : ls.size = c.maxLocals)
    (d0 : decode cc pc = .ok (.new ik, 3)) (d3 : decode cc (pc + 3) = .ok (.dup, 1)) (d4 : decode cc (pc + 4) = .ok (.invokespecial ic, 3)) (d7 : decode cc (pc + 7) = .ok (.athrow, 1))
    (hout : ∀ x ∈ c.exceptionTable.toList, covers x (pc + 7) = false)
    (hRframes : names.length + 3 < R.frames) (hRlocals : (rest.map fun v => v.category).sum + (13 * (names.length + 1) + 42) ≤ R.locals) (hRcells : cells + 1 ≤ R.cells) (hRslots : slots + 6 ≤ R.slots) (hlocks : meth.locks = false)
    (hx : ∀ t : State, s.vm.Alike t.vm → H.size ≤ t.heap.size → (∀ q : Nat, q < H.size → t.heap[q]? = H[q]?) → XC cls s t)
    (hf : ∀ z ∈ locs, free z.base) (hc : cells + 1 ≤ mc) (hs : slots + 6 ≤ ms) :
    W p l e R s m args below meth c H locs cells slots (vx_MQ below Qc XC args s mc ms free) (F0 m pc ls rest) := by
  intro T hT X
  have htr : e.platform.stackTraces = false := (show e.platform.stackTraces = l.stackTraces by rw [X.admits.platform]).trans hl
  have Y := vx_rebase X (R' := { frames := R.frames, locals := R.locals, cells := 1, slots := 6 }) (Nat.le_refl _) (Nat.le_refl _) hRcells hRslots
  obtain ⟨s', hA⟩ : ∃ z, z = (T.setVm s.vm).setFrames (.invoking m args :: below) := ⟨_, rfl⟩
  rw [← hA] at Y
  have hvm : s'.vm = s.vm := by rw [hA]; rfl
  have hhp : s'.heap = H := by rw [hA]; exact hT
  have hW0 : s.WarmedH s'.vm := by rw [hvm]; exact State.WarmedH.refl s
  have hat' : ∀ w ∈ vx_at0 own ic cls names, w.before args s' = true := fun w hw => vx_ot_at hW0 hvm.symm (hgood w (List.mem_cons_of_mem _ (List.mem_cons_of_mem _ hw))) (hat w hw)
  have hk' : (Cond.classLink own ik cls).before args s' = true := vx_ot_at hW0 hvm.symm (hgood _ List.mem_cons_self) hk
  have hini' : (Cond.initialized cls).before args s' = true := vx_ot_at hW0 hvm.symm (hgood _ (List.mem_cons_of_mem _ List.mem_cons_self)) hini
  have hU' : vx_Zq Bundle.tN "UNASSIGNED_STACK" Bundle.steD A s' s'.heap := by rw [hhp]; exact vx_Zq.moved hW0.alike (hU.kept hS.2.1)
  have hN' : vx_Zq Bundle.tN "SUPPRESSED_SENTINEL" Bundle.listD A s' s'.heap := by rw [hhp]; exact vx_Zq.moved hW0.alike (hN.kept hS.2.1)
  have h : ∀ w ∈ Bundle.ownAtoms0 own ic cls names, w.before args s' = true := vx_own hat' (vx_isRefq hU'.1) (vx_isRefq hN'.1) hU'.2.word hN'.2.word
  have hown' : s'.vm.findClass own = some m.cls := by rw [hvm]; exact hown
  have hins : (Cond.instantiable cls 6).before args s' = true := h _ (by simp [Bundle.ownAtoms0])
  obtain ⟨vm₁, cX, kX, hfX, hkX, -, -, X₁, st1⟩ := Y.newCold hexec (own := own) (C := cls) (index := ik) (n := 6) hown' hk' hins hini'
    (g := F0 m pc ls rest) rfl (by rw [hb]; exact d0) (Nat.le_refl _) (Nat.le_refl _)
  generalize hT1 : (T.setVm vm₁).pushCell { cls := cX, slots := kX.instanceTypes.map defaultValue, vm := .none } = T1 at X₁ st1
  have hcat : (Value.ref T.heap.size).category = 1 := rfl
  have hcellA : T1.heap[T.heap.size]? = some (freshCell cX kX) := by rw [← hT1]; exact State.heap_pushCell_size _ _
  have d3' : decode c.code (pc + 3) = .ok (.dup, 1) := by rw [hb]; exact d3
  obtain ⟨U, hsteps, hrun, hend, hW, hsame, ce, hce, hO⟩ := X₁.ctorThrow0 hexec htr (own := own) (cls := cls) (names := names) (ic := ic) hown' hcls hnames h (fun x hx => nomatch hx) hfX hkX hcellA (by rw [hhp, hT]; exact Nat.le_refl _)
    (g := { method := m, pc := pc + 4, locals := ls, stack := .ref T.heap.size :: .ref T.heap.size :: rest, locked := none }) rfl hsize rfl rfl (rest := rest) rfl
    (by rw [hb]; exact d4) (by rw [hb]; exact d7) hout hRframes (by simp only [List.map_cons, List.sum_cons, hcat]; omega) hlocks
  obtain ⟨f1, f2⟩ := vx_frame hsame
  rw [hhp] at f1 f2
  have hWs : s.WarmedH U.vm := State.WarmedH.trans hW0 hW
  have hcl : s.vm.findClass cls = some ce.cls := by
    have h9 := hO.cls
    rw [hvm] at h9
    exact h9
  have hall : s.sameButNew ({ U with vm := s.vm } : State) locs mc ms := by
    subst hA
    obtain ⟨e1, e2⟩ := hsame
    rw [State.setFrames_setFrames] at e1
    have h2 : (T.setVm s.vm).sameButNew ({ U with vm := s.vm } : State) [] (0 + 1) (0 + 6) := ⟨e1, e2⟩
    have h3 := X.same.trans h2
    rw [List.append_nil] at h3
    exact h3.mono hc hs
  refine ⟨U, ?_, .threw T.heap.size, hrun, hend, Or.inr ⟨T.heap.size, rfl, cls, ce, locs, hx U hWs.alike f1 (fun q hq => f2 q hq (fun z hz => nomatch hz)), hce, hO.vm, hcl, hWs, hall, hf⟩⟩
  refine st1 _ ?_
  show Steps p.tables e below (T1.setTop { method := m, pc := pc + 3, locals := ls, stack := .ref T.heap.size :: rest, locked := none }) _
  jvm_step X₁.here [X₁.here.top, hexec, d3', Value.category]
  exact hsteps
/-- 'throw new E("text")': new; dup; ldc; invokespecial; athrow -/
theorem vx_throwS {cc : ByteArray} {pc : Nat} (hexec : p.tables.exec = Jvm.exec) (hb : c.code = cc) (hl : l.stackTraces = false) {own cls text : String} {names : List String} {ik is ic mc ms sa : Nat} {A : Nat → Prop}
    (hown : s.vm.findClass own = some m.cls) (hcls : Bundle.fit cls = true) (hnames : ∀ n ∈ names, Bundle.fit n = true)
    (hk : (Cond.classLink own ik cls).before args s = true) (hini : (Cond.initialized cls).before args s = true) (hstr : vk_R own is text sa s) (hat : ∀ w ∈ vx_atS own ic cls names, w.before args s = true)
    (hgood : ∀ w ∈ Cond.classLink own ik cls :: Cond.initialized cls :: vx_atS own ic cls names, vx_ot w = true)
    (hU : vx_Zq Bundle.tN "UNASSIGNED_STACK" Bundle.steD A s s.heap) (hN : vx_Zq Bundle.tN "SUPPRESSED_SENTINEL" Bundle.listD A s s.heap) (hS : va_S A s.heap H locs) (hsize : ls.size = c.maxLocals)
    (d0 : decode cc pc = .ok (.new ik, 3)) (d3 : decode cc (pc + 3) = .ok (.dup, 1)) (d4 : decode cc (pc + 4) = .ok (.ldc is, 2)) (d6 : decode cc (pc + 6) = .ok (.invokespecial ic, 3)) (d9 : decode cc (pc + 9) = .ok (.athrow, 1))
    (hout : ∀ x ∈ c.exceptionTable.toList, covers x (pc + 9) = false)
    (hRframes : names.length + 3 < R.frames) (hRlocals : (rest.map fun v => v.category).sum + (13 * (names.length + 1) + 43) ≤ R.locals) (hRcells : cells + 1 ≤ R.cells) (hRslots : slots + 6 ≤ R.slots) (hlocks : meth.locks = false)
    (hx : ∀ t : State, s.vm.Alike t.vm → H.size ≤ t.heap.size → (∀ q : Nat, q < H.size → t.heap[q]? = H[q]?) → XC cls s t)
    (hf : ∀ z ∈ locs, free z.base) (hc : cells + 1 ≤ mc) (hs : slots + 6 ≤ ms) :
    W p l e R s m args below meth c H locs cells slots (vx_MQ below Qc XC args s mc ms free) (F0 m pc ls rest) := by
  intro T hT X
  have htr : e.platform.stackTraces = false := (show e.platform.stackTraces = l.stackTraces by rw [X.admits.platform]).trans hl
  have Y := vx_rebase X (R' := { frames := R.frames, locals := R.locals, cells := 1, slots := 6 }) (Nat.le_refl _) (Nat.le_refl _) hRcells hRslots
  obtain ⟨s', hA⟩ : ∃ z, z = (T.setVm s.vm).setFrames (.invoking m args :: below) := ⟨_, rfl⟩
  rw [← hA] at Y
  have hvm : s'.vm = s.vm := by rw [hA]; rfl
  have hhp : s'.heap = H := by rw [hA]; exact hT
  have hW0 : s.WarmedH s'.vm := by rw [hvm]; exact State.WarmedH.refl s
  have hat' : ∀ w ∈ vx_atS own ic cls names, w.before args s' = true := fun w hw => vx_ot_at hW0 hvm.symm (hgood w (List.mem_cons_of_mem _ (List.mem_cons_of_mem _ hw))) (hat w hw)
  have hk' : (Cond.classLink own ik cls).before args s' = true := vx_ot_at hW0 hvm.symm (hgood _ List.mem_cons_self) hk
  have hini' : (Cond.initialized cls).before args s' = true := vx_ot_at hW0 hvm.symm (hgood _ (List.mem_cons_of_mem _ List.mem_cons_self)) hini
  have hU' : vx_Zq Bundle.tN "UNASSIGNED_STACK" Bundle.steD A s' s'.heap := by rw [hhp]; exact vx_Zq.moved hW0.alike (hU.kept hS.2.1)
  have hN' : vx_Zq Bundle.tN "SUPPRESSED_SENTINEL" Bundle.listD A s' s'.heap := by rw [hhp]; exact vx_Zq.moved hW0.alike (hN.kept hS.2.1)
  have h : ∀ w ∈ Bundle.ownAtoms own ic cls names, w.before args s' = true := vx_own hat' (vx_isRefq hU'.1) (vx_isRefq hN'.1) hU'.2.word hN'.2.word
  have hown' : s'.vm.findClass own = some m.cls := by rw [hvm]; exact hown
  have hins : (Cond.instantiable cls 6).before args s' = true := h _ (by simp [Bundle.ownAtoms])
  obtain ⟨vm₁, cX, kX, hfX, hkX, -, -, X₁, st1⟩ := Y.newCold hexec (own := own) (C := cls) (index := ik) (n := 6) hown' hk' hins hini'
    (g := F0 m pc ls rest) rfl (by rw [hb]; exact d0) (Nat.le_refl _) (Nat.le_refl _)
  generalize hT1 : (T.setVm vm₁).pushCell { cls := cX, slots := kX.instanceTypes.map defaultValue, vm := .none } = T1 at X₁ st1
  have hcat : (Value.ref T.heap.size).category = 1 := rfl
  have hcellA : T1.heap[T.heap.size]? = some (freshCell cX kX) := by rw [← hT1]; exact State.heap_pushCell_size _ _
  have d3' : decode c.code (pc + 3) = .ok (.dup, 1) := by rw [hb]; exact d3
  have d4' : decode c.code (pc + 4) = .ok (.ldc is, 2) := by rw [hb]; exact d4
  have hstr' : vk_R own is text sa s' := vk_R.warm hW0 hstr
  obtain ⟨U, hsteps, hrun, hend, hW, hsame, ce, hce, hO⟩ := X₁.ctorThrowS hexec htr (own := own) (cls := cls) (names := names) (ic := ic) hown' hcls hnames h (fun x hx => nomatch hx) hfX hkX hcellA (by rw [hhp, hT]; exact Nat.le_refl _) (msg := .ref sa) rfl
    (g := { method := m, pc := pc + 6, locals := ls, stack := .ref sa :: .ref T.heap.size :: .ref T.heap.size :: rest, locked := none }) rfl hsize rfl rfl (rest := rest) rfl
    (by rw [hb]; exact d6) (by rw [hb]; exact d9) hout hRframes (by simp only [List.map_cons, List.sum_cons, hcat]; omega) hlocks
  obtain ⟨f1, f2⟩ := vx_frame hsame
  rw [hhp] at f1 f2
  have hWs : s.WarmedH U.vm := State.WarmedH.trans hW0 hW
  have hcl : s.vm.findClass cls = some ce.cls := by
    have h9 := hO.cls
    rw [hvm] at h9
    exact h9
  have hall : s.sameButNew ({ U with vm := s.vm } : State) locs mc ms := by
    subst hA
    obtain ⟨e1, e2⟩ := hsame
    rw [State.setFrames_setFrames] at e1
    have h2 : (T.setVm s.vm).sameButNew ({ U with vm := s.vm } : State) [] (0 + 1) (0 + 6) := ⟨e1, e2⟩
    have h3 := X.same.trans h2
    rw [List.append_nil] at h3
    exact h3.mono hc hs
  refine ⟨U, ?_, .threw T.heap.size, hrun, hend, Or.inr ⟨T.heap.size, rfl, cls, ce, locs, hx U hWs.alike f1 (fun q hq => f2 q hq (fun z hz => nomatch hz)), hce, hO.vm, hcl, hWs, hall, hf⟩⟩
  refine st1 _ ?_
  show Steps p.tables e below (T1.setTop { method := m, pc := pc + 3, locals := ls, stack := .ref T.heap.size :: rest, locked := none }) _
  jvm_step X₁.here [X₁.here.top, hexec, d3', Value.category]
  exact X₁.ldcString hexec (own := own) (text := text) (index := is) (a := sa) hown' hstr'.1 hstr'.2
    (g := { method := m, pc := pc + 4, locals := ls, stack := .ref T.heap.size :: .ref T.heap.size :: rest, locked := none }) rfl d4' _ hsteps
/-- 'throw new E("text")', the text by a wide index -/
theorem vx_throwSW {cc : ByteArray} {pc : Nat} (hexec : p.tables.exec = Jvm.exec) (hb : c.code = cc) (hl : l.stackTraces = false) {own cls text : String} {names : List String} {ik is ic mc ms sa : Nat} {A : Nat → Prop}
    (hown : s.vm.findClass own = some m.cls) (hcls : Bundle.fit cls = true) (hnames : ∀ n ∈ names, Bundle.fit n = true)
    (hk : (Cond.classLink own ik cls).before args s = true) (hini : (Cond.initialized cls).before args s = true) (hstr : vk_R own is text sa s) (hat : ∀ w ∈ vx_atS own ic cls names, w.before args s = true)
    (hgood : ∀ w ∈ Cond.classLink own ik cls :: Cond.initialized cls :: vx_atS own ic cls names, vx_ot w = true)
    (hU : vx_Zq Bundle.tN "UNASSIGNED_STACK" Bundle.steD A s s.heap) (hN : vx_Zq Bundle.tN "SUPPRESSED_SENTINEL" Bundle.listD A s s.heap) (hS : va_S A s.heap H locs) (hsize : ls.size = c.maxLocals)
    (d0 : decode cc pc = .ok (.new ik, 3)) (d3 : decode cc (pc + 3) = .ok (.dup, 1)) (d4 : decode cc (pc + 4) = .ok (.ldc_w is, 3)) (d7 : decode cc (pc + 7) = .ok (.invokespecial ic, 3)) (d10 : decode cc (pc + 10) = .ok (.athrow, 1))
    (hout : ∀ x ∈ c.exceptionTable.toList, covers x (pc + 10) = false)
    (hRframes : names.length + 3 < R.frames) (hRlocals : (rest.map fun v => v.category).sum + (13 * (names.length + 1) + 43) ≤ R.locals) (hRcells : cells + 1 ≤ R.cells) (hRslots : slots + 6 ≤ R.slots) (hlocks : meth.locks = false)
    (hx : ∀ t : State, s.vm.Alike t.vm → H.size ≤ t.heap.size → (∀ q : Nat, q < H.size → t.heap[q]? = H[q]?) → XC cls s t)
    (hf : ∀ z ∈ locs, free z.base) (hc : cells + 1 ≤ mc) (hs : slots + 6 ≤ ms) :
    W p l e R s m args below meth c H locs cells slots (vx_MQ below Qc XC args s mc ms free) (F0 m pc ls rest) := by
  intro T hT X
  have htr : e.platform.stackTraces = false := (show e.platform.stackTraces = l.stackTraces by rw [X.admits.platform]).trans hl
  have Y := vx_rebase X (R' := { frames := R.frames, locals := R.locals, cells := 1, slots := 6 }) (Nat.le_refl _) (Nat.le_refl _) hRcells hRslots
  obtain ⟨s', hA⟩ : ∃ z, z = (T.setVm s.vm).setFrames (.invoking m args :: below) := ⟨_, rfl⟩
  rw [← hA] at Y
  have hvm : s'.vm = s.vm := by rw [hA]; rfl
  have hhp : s'.heap = H := by rw [hA]; exact hT
  have hW0 : s.WarmedH s'.vm := by rw [hvm]; exact State.WarmedH.refl s
  have hat' : ∀ w ∈ vx_atS own ic cls names, w.before args s' = true := fun w hw => vx_ot_at hW0 hvm.symm (hgood w (List.mem_cons_of_mem _ (List.mem_cons_of_mem _ hw))) (hat w hw)
  have hk' : (Cond.classLink own ik cls).before args s' = true := vx_ot_at hW0 hvm.symm (hgood _ List.mem_cons_self) hk
  have hini' : (Cond.initialized cls).before args s' = true := vx_ot_at hW0 hvm.symm (hgood _ (List.mem_cons_of_mem _ List.mem_cons_self)) hini
  have hU' : vx_Zq Bundle.tN "UNASSIGNED_STACK" Bundle.steD A s' s'.heap := by rw [hhp]; exact vx_Zq.moved hW0.alike (hU.kept hS.2.1)
  have hN' : vx_Zq Bundle.tN "SUPPRESSED_SENTINEL" Bundle.listD A s' s'.heap := by rw [hhp]; exact vx_Zq.moved hW0.alike (hN.kept hS.2.1)
  have h : ∀ w ∈ Bundle.ownAtoms own ic cls names, w.before args s' = true := vx_own hat' (vx_isRefq hU'.1) (vx_isRefq hN'.1) hU'.2.word hN'.2.word
  have hown' : s'.vm.findClass own = some m.cls := by rw [hvm]; exact hown
  have hins : (Cond.instantiable cls 6).before args s' = true := h _ (by simp [Bundle.ownAtoms])
  obtain ⟨vm₁, cX, kX, hfX, hkX, -, -, X₁, st1⟩ := Y.newCold hexec (own := own) (C := cls) (index := ik) (n := 6) hown' hk' hins hini'
    (g := F0 m pc ls rest) rfl (by rw [hb]; exact d0) (Nat.le_refl _) (Nat.le_refl _)
  generalize hT1 : (T.setVm vm₁).pushCell { cls := cX, slots := kX.instanceTypes.map defaultValue, vm := .none } = T1 at X₁ st1
  have hcat : (Value.ref T.heap.size).category = 1 := rfl
  have hcellA : T1.heap[T.heap.size]? = some (freshCell cX kX) := by rw [← hT1]; exact State.heap_pushCell_size _ _
  have d3' : decode c.code (pc + 3) = .ok (.dup, 1) := by rw [hb]; exact d3
  have d4' : decode c.code (pc + 4) = .ok (.ldc_w is, 3) := by rw [hb]; exact d4
  have hstr' : vk_R own is text sa s' := vk_R.warm hW0 hstr
  obtain ⟨U, hsteps, hrun, hend, hW, hsame, ce, hce, hO⟩ := X₁.ctorThrowS hexec htr (own := own) (cls := cls) (names := names) (ic := ic) hown' hcls hnames h (fun x hx => nomatch hx) hfX hkX hcellA (by rw [hhp, hT]; exact Nat.le_refl _) (msg := .ref sa) rfl
    (g := { method := m, pc := pc + 7, locals := ls, stack := .ref sa :: .ref T.heap.size :: .ref T.heap.size :: rest, locked := none }) rfl hsize rfl rfl (rest := rest) rfl
    (by rw [hb]; exact d7) (by rw [hb]; exact d10) hout hRframes (by simp only [List.map_cons, List.sum_cons, hcat]; omega) hlocks
  obtain ⟨f1, f2⟩ := vx_frame hsame
  rw [hhp] at f1 f2
  have hWs : s.WarmedH U.vm := State.WarmedH.trans hW0 hW
  have hcl : s.vm.findClass cls = some ce.cls := by
    have h9 := hO.cls
    rw [hvm] at h9
    exact h9
  have hall : s.sameButNew ({ U with vm := s.vm } : State) locs mc ms := by
    subst hA
    obtain ⟨e1, e2⟩ := hsame
    rw [State.setFrames_setFrames] at e1
    have h2 : (T.setVm s.vm).sameButNew ({ U with vm := s.vm } : State) [] (0 + 1) (0 + 6) := ⟨e1, e2⟩
    have h3 := X.same.trans h2
    rw [List.append_nil] at h3
    exact h3.mono hc hs
  refine ⟨U, ?_, .threw T.heap.size, hrun, hend, Or.inr ⟨T.heap.size, rfl, cls, ce, locs, hx U hWs.alike f1 (fun q hq => f2 q hq (fun z hz => nomatch hz)), hce, hO.vm, hcl, hWs, hall, hf⟩⟩
  refine st1 _ ?_
  show Steps p.tables e below (T1.setTop { method := m, pc := pc + 3, locals := ls, stack := .ref T.heap.size :: rest, locked := none }) _
  jvm_step X₁.here [X₁.here.top, hexec, d3', Value.category]
  exact X₁.ldcStringW hexec (own := own) (text := text) (index := is) (a := sa) hown' hstr'.1 hstr'.2
    (g := { method := m, pc := pc + 4, locals := ls, stack := .ref T.heap.size :: .ref T.heap.size :: rest, locked := none }) rfl d4' _ hsteps
end Ends
section Bodies
variable {l : Launch}
theorem vx_ofW {y : MethodName} {ws ws' : List Cond} {rm : Room} {Pc : Array Value → State → Prop} {Qc : Array Value → State → Outcome → State → Prop} {XC : String → State → State → Prop} {mc ms : Nat} {free : Addr → Prop} {cc : ByteArray} {maxL : Nat} {ret : Option FieldType}
    (hy : plainName y.cls = true) (hw : ws = Cond.code y cc maxL ret :: ws')
    (body : ∀ p e s m args below meth c s₁, BodyLoose p l y (headSpec ws rm) cc maxL ret e s m args below meth c s₁ → c.maxLocals = maxL → (∀ x ∈ c.exceptionTable.toList, False) → Pc args s →
      W p l e (headSpec ws rm).room s m args below meth c s.heap [] 0 0 (vx_MQ below Qc XC args s mc ms free) (entryFrame m args maxL)) : vx_Met l y ws rm Pc Qc XC mc ms free := by
  refine MetFree.of_bodyS (code := cc) (maxLocals := maxL) (ret := ret) hy ?_ ?_
  · intro args s m h hn
    obtain ⟨meth, c, h1, h2, h3, h4, h5, h6, -, -⟩ := Cond.code_spec hn (atoms_spec (ws := ws) h _ (by rw [hw]; exact List.mem_cons_self))
    exact ⟨meth, c, h1, h2, h3, h4, h5, h6⟩
  · intro p e s m args below meth c s₁ B hml hP _
    have hh0 : s₁.heap = s.heap := by rw [B.state]; rfl
    have ht : ∀ x ∈ c.exceptionTable.toList, False := by
      obtain ⟨meth9, c9, h1, h2, -, -, -, -, h7, -⟩ := Cond.code_spec B.named (atoms_spec (ws := ws) B.pre _ (by rw [hw]; exact List.mem_cons_self))
      cases Option.some.inj (h1.symm.trans B.method)
      cases Option.some.inj (h2.symm.trans (Stand.of_body B).code)
      intro x hx
      rw [Array.isEmpty_iff.mp h7] at hx
      cases hx
    obtain ⟨t, a1, o, b1, b2, b3⟩ := body p e s m args below meth c s₁ B hml ht hP s₁ hh0 (Stand.of_body B)
    exact ⟨t, o, a1, b1, b2, b3⟩
/-- the table of a body with handlers -/
theorem vx_table {p : Program} {x y : MethodName} {S : Spec} {cc bytes : ByteArray} {maxL maxL' : Nat} {ret ret' : Option FieldType} {e : Env} {s s₁ : State} {m : MethodId} {args : Array Value} {below : List Frame} {meth : Method} {c : Code} {hh : List (Nat × Nat × Nat × Nat)}
    (B : BodyLoose p l y S cc maxL ret e s m args below meth c s₁) (h : (Cond.codeWith y bytes maxL' ret' hh).before args s = true) : c.exceptionTable.toList = tableOf hh := by
  obtain ⟨m9, meth9, c9, hn9, h1, h2, -, -, h6, -⟩ := Cond.codeWith_spec h
  cases Option.some.inj (hn9.symm.trans B.named)
  cases Option.some.inj (h1.symm.trans B.method)
  cases Option.some.inj (h2.symm.trans (Stand.of_body B).code)
  rw [← h6, table_eq]
end Bodies
end VXA
/-! ===== END ===== -/
/-! ===== BEGIN a static call of a method with an exception table ===== -/
section VXS
variable {p : Program} {l : Launch} {e : Env} {R : Room} {s : State} {m : MethodId} {args : Array Value} {below : List Frame} {meth : Method} {c : Code} {T : State} {H : Heap} {locs : List Loc} {cells slots : Nat}
abbrev vx_CSW (R : Room) (s : State) (args : Array Value) (own : String) (index : Nat) (y : MethodName) (bytes : ByteArray) (maxL : Nat) (ret : Option FieldType) (hh : List (Nat × Nat × Nat × Nat)) (ws : List Cond) (rm : Room) (mc ms n : Nat) : Prop :=
  (rm.cells = mc ∧ rm.slots = ms ∧ rm.frames + 1 ≤ R.frames ∧ 8 + (maxL + 11) + rm.locals ≤ R.locals ∧ (∀ w ∈ ws, ∀ (a' : Array Value) (U : State), s.WarmedH U.vm → w.before a' U = true) ∧ Cond.codeWith y bytes maxL ret hh ∈ ws) ∧
  (Cond.codeWith y bytes maxL ret hh).before args s = true ∧ (Cond.initialized y.cls).before args s = true ∧ (y.cls ≠ "java/lang/invoke/MethodHandle" ∧ y.cls ≠ "java/lang/invoke/VarHandle") ∧
  (∀ sig, parseMethodDescriptor y.desc = some sig → n = sig.parameters.length) ∧ (Cond.methodLink own index y).before args s = true ∧ (Cond.static y).before args s = true
theorem vx_cwSW {own : String} {index maxL mc ms : Nat} {y : MethodName} {bytes : ByteArray} {ret : Option FieldType} {hh : List (Nat × Nat × Nat × Nat)} {Ts ws ws' : List Cond} {rm : Room} (n : Nat) (ht : ∀ w ∈ Ts, w.before args s = true) (hT : GoodIn Ts (va_wsS own index y ws)) (hw : ws = Cond.codeWith y bytes maxL ret hh :: ws') (hrc : rm.cells = mc) (hrs : rm.slots = ms)
    (hd : y.cls ≠ "java/lang/invoke/MethodHandle" ∧ y.cls ≠ "java/lang/invoke/VarHandle" ∧ (parseMethodDescriptor y.desc).map (fun d => d.parameters.length) = some n) (hR : rm.frames + 1 ≤ R.frames ∧ 8 + (maxL + 11) + rm.locals ≤ R.locals) :
    vx_CSW R s args own index y bytes maxL ret hh ws rm mc ms n := by
  have ok : ∀ w ∈ va_wsS own index y ws, w.before args s = true := fun w h => ht w (hT w h).1
  have hG : GoodIn Ts ws := fun w h => hT w (by unfold va_wsS; exact List.mem_append_right _ h)
  have hc : Cond.codeWith y bytes maxL ret hh ∈ ws := by rw [hw]; exact List.mem_cons_self
  refine ⟨⟨hrc, hrs, hR.1, hR.2, pay_in ht hG, hc⟩, ht _ (hG _ hc).1, ok _ (by simp [va_wsS]), ⟨hd.1, hd.2.1⟩, fun sig h => ?_, ok _ (by simp [va_wsS]), ok _ (by simp [va_wsS])⟩
  have h2 := hd.2.2
  rw [h] at h2
  exact (Option.some.inj h2).symm
theorem vx_callSW (X : Stand p l e R s m args below meth c T locs cells slots) (hexec : p.tables.exec = Jvm.exec) {own : String} {index : Nat} {y : MethodName} {bytes : ByteArray} {maxL : Nat} {ret : Option FieldType} {hh : List (Nat × Nat × Nat × Nat)}
    (hown : s.vm.findClass own = some m.cls) (hlink : (Cond.methodLink own index y).before args s = true) (hstat : (Cond.static y).before args s = true) (hinit : (Cond.initialized y.cls).before args s = true)
    (hcode : (Cond.codeWith y bytes maxL ret hh).before args s = true) (hy : y.cls ≠ "java/lang/invoke/MethodHandle" ∧ y.cls ≠ "java/lang/invoke/VarHandle")
    {W9 : Nat} {Pre : Pt → Array Value → Prop} {Post : Pt → Array Value → Option Value → Pt → Prop} (hK : Back l R p e below s args y 3 W9 Pre Post)
    {g : JFrame} (hg : g.method = m) (hsize : g.locals.size = c.maxLocals) {argsL rest : List Value} (hlen : ∀ sig, parseMethodDescriptor y.desc = some sig → argsL.length = sig.parameters.length)
    (hstack : g.stack = argsL.reverse ++ rest) (hW : 2 * g.monitorRoom + (rest.map fun v => v.category).sum ≤ W9) (hdg : decode c.code g.pc = .ok (.invokestatic index, 3))
    (hpre : ∀ vm₁, s.WarmedH vm₁ → Pre ⟨T.setVm vm₁, locs, cells, slots⟩ argsL.toArray) :
    ∃ (v : Option Value) (vm₁ : Vm) (B : Pt), s.WarmedH vm₁ ∧ Stand p l e R s m args below meth c B.U B.locs B.cells B.slots ∧ Post ⟨T.setVm vm₁, locs, cells, slots⟩ argsL.toArray v B ∧
      ∀ target, Steps p.tables e below (B.U.setTop { g with pc := g.pc + 3, stack := v.toList ++ rest }) target → Steps p.tables e below (T.setTop g) target := by
  obtain ⟨mk, methM, cM, hnamed, hmethM, -, -, -, -, -, -, hsigM⟩ := Cond.codeWith_spec hcode
  have hstatic : methM.isStatic = true := Cond.static_spec hnamed hmethM hstat
  obtain ⟨kP, hkP, -⟩ := className_of_methodNamed hnamed
  have hinitP : kP.init = .initialized := Cond.initialized_spec (findClass_of_methodNamed hnamed) hkP hinit
  obtain ⟨vm₁, X₁, hstep₁⟩ := X.invokestatic hexec hown hlink hnamed hmethM hstatic hkP hinitP hy (g := g) hg (argsL := argsL) (rest := rest) (hlen _ hsigM) hstack hdg
  obtain ⟨v, B, X', hpost, hsteps⟩ := hK m meth c ⟨T.setVm vm₁, locs, cells, slots⟩ { g with stack := rest } (.invokestatic index) mk argsL.toArray X₁ hg hsize hdg hW (X₁.named hnamed) (hpre vm₁ X₁.warmed)
  exact ⟨v, vm₁, B, X₁.warmed, X', hpost, fun target h => hstep₁ _ fun acts => by rw [doInvoke_state]; exact hsteps.trans h⟩
theorem vx_runSW {y : MethodName} {bytes cc : ByteArray} {maxL nL mc ms n index : Nat} {ret : Option FieldType} {hh : List (Nat × Nat × Nat × Nat)} {ws : List Cond} {rm : Room} {Pc : Array Value → State → Prop} {Qc : Array Value → State → Outcome → State → Prop} {free : Addr → Prop} {Ts : List Cond} {own : String} {As rest : List Value} {g : JFrame}
    (S : CallFix p m c cc nL s args Ts own) (hM : Met l y ws rm Pc Qc mc ms free) (cw : vx_CSW R s args own index y bytes maxL ret hh ws rm mc ms n) (hp : PreS s H Pc As)
    (hg : g.method = m) (hn : As.length = n) (hsize : g.locals.size = nL) (hstack : g.stack = As.reverse ++ rest) (hW : 2 * g.monitorRoom + (rest.map fun v => v.category).sum ≤ 8) (hdg : decode cc g.pc = .ok (.invokestatic index, 3)) (hf : cells + mc ≤ R.cells ∧ slots + ms ≤ R.slots) :
    va_Run p l e R s m args below meth c H locs cells slots mc ms g rest (Qc As.toArray) (free) := by
  obtain ⟨⟨hrc, hrs, hfr, hlo, hws, hcw⟩, hcode, hini, hy, hlen, hl, hstt⟩ := cw
  have hK : Back l R p e below s args y 3 8 (PreOf R mc ms Pc) (PostOf Qc mc ms free) := va_backW (hh := hh) (bytes := bytes) (maxL := maxL) (ret := ret) hM hp.1 hrc hrs hfr hlo hws hcw (fun a' U hW => word_at hW (Or.inl (by first | rfl | simp [Cond.onTables, Cond.keeps, Cond.steady])) hini)
  obtain ⟨hx, hb, hml, ho, -⟩ := S
  intro T hT X
  obtain ⟨v, vm₁, ⟨U', l2, c2, s2⟩, hW₁, X', ⟨g', mk, t, L, e1, e2, hq, h1, hL, h2, h3⟩, st⟩ := vx_callSW X hx (hh := hh) (bytes := bytes) (maxL := maxL) (ret := ret) ho hl hstt hini hcode hy hK hg (hsize.trans hml.symm) (argsL := As) (rest := rest) (fun sig h => hn.trans (hlen sig h)) hstack hW (by rw [hb]; exact hdg)
    (fun vm₁ hW₁ => ⟨hf.1, hf.2, hp.2 (T.setVm vm₁) hT hW₁⟩)
  dsimp only [Pt.U, Pt.locs, Pt.cells, Pt.slots] at X' e1 e2 h1 h2 h3 st
  subst h1; subst h2; subst h3
  exact ⟨v, (T.setVm vm₁).calling g' mk As.toArray, t, U', L, hT, X', hL, e1, e2, hq, st⟩
/-- not caught here, past rows that name other classes: it goes on to the caller -/
theorem vx_outP {p : Program} {l : Launch} {e : Env} {R : Room} {s : State} {m : MethodId} {args : Array Value} {below : List Frame} {meth : Method} {c : Code} {H : Heap} {locs : List Loc} {cells slots : Nat} {free : Addr → Prop} {ls : Array Slot} {rest : List Value} {Qc : Array Value → State → Outcome → State → Prop} {XC : String → State → State → Prop}
    {pc : Nat} {own E : String} {ce : Cell} {q : Addr} {mc ms : Nat} (hown : s.vm.findClass own = some m.cls) (hlocks : meth.locks = false)
    (hpass : ∀ z ∈ c.exceptionTable.toList, covers z pc = false ∨ (z.catchType ≠ 0 ∧ ∃ nm : String, (Cond.classLink own z.catchType nm).before args s = true ∧ va_Nc E nm s)) (hcell : H[q]? = some ce) (hv : ce.vm = .none) (hcl : s.vm.findClass E = some ce.cls)
    (hx : ∀ t : State, t.heap = H → s.vm.Alike t.vm → XC E s t) (hf : ∀ z ∈ locs, free z.base) (hc : cells ≤ mc) (hs : slots ≤ ms) :
    vx_W p l e R s m args below meth c H locs cells slots (vx_MQ below Qc XC args s mc ms free) (F0 m pc ls rest) q := by
  intro T hT X
  have hpl : e.platform.magicAccessors = ({} : Platform).magicAccessors := by rw [X.admits.platform]
  obtain ⟨vm', hW', X', st⟩ := X.outThrough hlocks q (g := F0 m pc ls rest) rfl rfl rfl (cell := ce) (by rw [hT]; exact hcell) (by rw [hv]; rfl)
    (by obtain ⟨k9, h9, -⟩ := Vm.findClass_spec hcl; exact ⟨k9, h9⟩) (fun z hz => by
      rcases hpass z hz with h | ⟨hz0, nm, hl1, hn1⟩
      · exact Or.inl h
      · obtain ⟨c6, hc6, hcl6⟩ := Cond.classLink_spec hown hl1 e.platform hpl
        obtain ⟨a8, b8, h1, h2, h3⟩ := hn1
        cases Option.some.inj (h1.symm.trans hcl)
        cases Option.some.inj (h2.symm.trans hc6)
        exact Or.inr ⟨hz0, _, hcl6, h3⟩)
  obtain ⟨g₀, hfr⟩ := X'.frames_eq
  have hcell9 : ((T.setVm vm').setFrames (.throwing q :: below)).heap[q]? = some ce := by
    show T.heap[q]? = some ce
    rw [hT]; exact hcell
  have hend : Ended ((T.setVm vm').setFrames (.throwing q :: below)) below (.threw q) := State.frames_setFrames _ (State.cur_lt_of_frames hfr)
  refine ⟨(T.setVm vm').setFrames (.throwing q :: below), ?_, .threw q, X'.here.running, hend, Or.inr ⟨q, rfl, E, ce, locs, hx _ hT (X'.ends _).1.alike, hcell9, hv, hcl, (X'.ends _).1, (X'.ends _).2.mono hc hs, hf⟩⟩
  rw [X.pushThrowing_eq]
  exact st
/-- a thing of a world lies in the heap -/
theorem vx_lt {D : va_G} {cl : List vw_C} {ws : va_W} {H1 : Heap} (h : va_P D cl ws H1) {k : Nat} {q : Nat × va_E} (hk : ws[k]? = some q) : q.1 < H1.size := (h k q hk).lt
end VXS
/-! ===== END ===== -/
/-! ===== BEGIN methods with a table of their own: called by a name, returning or throwing ===== -/
section VXH
/-! vx_backW, vx_callVX, vx_callSX, vx_callVW, vx_runVW, vx_runVX, vx_runSX, vx_ofWH follow the same proofs as their sisters above (Free/Laws.lean, Shelf42/LK1.lean); vx_outP calls Shelf42/NT130.lean (outThrough). -/
section
variable {l : Launch} {R : Room} {p : Program} {e : Env} {below : List Frame} {s : State} {sargs : Array Value} {y : MethodName} {len W9 : Nat}
theorem vx_backW {ws : List Cond} {rm : Room} {Pc : Array Value → State → Prop} {Qc : Array Value → State → Outcome → State → Prop} {XC : String → State → State → Prop} {mc ms : Nat} {free : Addr → Prop} {bytes : ByteArray} {maxL : Nat} {ret : Option FieldType} {hh : List (Nat × Nat × Nat × Nat)}
    (hM : vx_Met l y ws rm Pc Qc XC mc ms free) (hblind : FrameBlind Pc) (hrc : rm.cells = mc) (hrs : rm.slots = ms)
    (hframes : rm.frames + 1 ≤ R.frames) (hlocals : W9 + (maxL + 11) + rm.locals ≤ R.locals)
    (hws : ∀ w ∈ ws, ∀ a' U, s.WarmedH U.vm → w.before a' U = true) (hcode : Cond.codeWith y bytes maxL ret hh ∈ ws) (hinit : ∀ a' U, s.WarmedH U.vm → (Cond.initialized y.cls).before a' U = true) :
    vx_Back l R p e below s sargs y len W9 (PreOf R mc ms Pc) (PostOf Qc mc ms free) (vx_Post XC mc ms free) := by
  intro m meth c A g ig mk a X hg hsize hdg hW hn hp
  have h1 : (headSpec ws rm).pre.before a A.U = true := atoms_intro fun w hw => hws w hw _ _ X.warmed
  have h2 : (Cond.codeWith y bytes maxL ret hh).before a A.U = true := hws _ hcode _ _ X.warmed
  have h3 : (Cond.initialized y.cls).before a A.U = true := hinit _ _ X.warmed
  have h4 : A.cells + (headSpec ws rm).room.cells ≤ R.cells := by rw [show (headSpec ws rm).room.cells = mc from hrc]; exact hp.1
  have h5 : A.slots + (headSpec ws rm).room.slots ≤ R.slots := by rw [show (headSpec ws rm).room.slots = ms from hrs]; exact hp.2.1
  have hPc : Pc a (A.U.calling g mk a) := hblind _ _ _ _ hp.2.2
  obtain ⟨U, Ls, c0, s0⟩ := A
  dsimp only [Pt.U, Pt.locs, Pt.cells, Pt.slots] at h1 h2 h3 h4 h5 X hn hPc ⊢
  obtain ⟨m9, methY, cY, hn9, hmY, hcY, -, hlY, -⟩ := Cond.codeWith_spec h2
  cases Option.some.inj (hn9.symm.trans hn)
  obtain ⟨kY, hkY, -⟩ := className_of_methodNamed hn
  have hinitY : kY.init = .initialized := Cond.initialized_spec (findClass_of_methodNamed hn) hkY h3
  have h : At U g.method c below := by rw [hg]; exact X.here
  have hlocals9 : W9 + (maxL + 11) + (headSpec ws rm).room.locals ≤ R.locals := hlocals
  have happ : (headSpec ws rm).appliesLoose y e.platform (U.calling g mk a) = true :=
    Spec.appliesLoose_calling (g := g) h hdg hn hkY hinitY
      (X.room_calling (g := g) (R' := (headSpec ws rm).room) hsize hmY hcY hframes (by rw [hlY]; omega) h4 h5) h1
  obtain ⟨mid, hmid⟩ := h.above
  have hfr : (U.setTop g).frames = (.java g :: mid) ++ below := by rw [State.frames_setTop' g h.top, hmid]; rfl
  obtain ⟨o, s₂, hsteps, -, hend, hq⟩ := Steps.callFree hM p X.admits X.cas X.clock (acts := []) hfr happ hPc trivial
  have hq' : vx_Q Qc XC mc ms free a (U.calling g mk a) o s₂ := hq
  rw [State.frames_setTop' g h.top] at hend
  obtain ⟨g₀, hg0⟩ := Option.isSome_iff_exists.mp h.top
  obtain ⟨r, hr⟩ := State.topJava?_eq_some.mp hg0
  have hr' : (({ U with heap := s₂.heap, slotsUsed := s₂.slotsUsed } : State).setVm s₂.vm).frames = .java g₀ :: r := hr
  rcases hq' with ⟨hqc, L, hfe, hL⟩ | ⟨q, rfl, E, ce, L, hx, hce, hcv, hcl, hW₂, hsm, hL⟩
  · obtain ⟨⟨v, rfl⟩, hW₂, e2, q2, q3, q4, q5, q6⟩ := id hfe
    have e3 : s₂ = ({ (U.calling g mk a).setFrames s₂.frames with heap := s₂.heap, slotsUsed := s₂.slotsUsed } : State).setVm s₂.vm := by
      have : s₂ = ({ s₂ with vm := (U.calling g mk a).vm } : State).setVm s₂.vm := rfl
      rw [e2] at this
      exact this
    obtain ⟨c₂, i₂, len₂, hc₂, hd₂, hf₂⟩ := hend
    have hW' : U.WarmedH s₂.vm := hW₂
    have hcc : c₂ = c := by
      have h1 : s₂.code? g.method = U.code? g.method := by
        rw [State.code?_eq, State.code?_eq, hW'.alike.method?]
      exact Option.some.inj (hc₂.symm.trans (h1.trans h.code))
    subst hcc
    have hlen : len₂ = len := by rw [hdg] at hd₂; cases hd₂; rfl
    subst hlen
    have hs₂ : s₂ = (({ U with heap := s₂.heap, slotsUsed := s₂.slotsUsed } : State).setVm s₂.vm).setTop { g with pc := g.pc + len₂, stack := v.toList ++ g.stack } := by
      refine e3.trans ?_
      rw [hf₂, State.calling_eq h.top, State.setFrames_setFrames, State.setTop_of_frames _ hr', hr]
      rfl
    have hsame : U.sameButNew ({ U with heap := s₂.heap, slotsUsed := s₂.slotsUsed } : State) L mc ms := by
      refine ⟨?_, q2, q3, q4, q5, q6⟩
      obtain ⟨t, ht, -⟩ := State.frames_cons hr
      show ({ U with heap := s₂.heap, slotsUsed := s₂.slotsUsed } : State) = { U.setFrames U.frames with heap := s₂.heap, slotsUsed := s₂.slotsUsed }
      rw [State.setFrames_self ht]
    subst hg
    refine Or.inl ⟨v, ⟨(({ U with heap := s₂.heap, slotsUsed := s₂.slotsUsed } : State).setVm s₂.vm), Ls ++ L, c0 + mc, s0 + ms⟩,
      ⟨X.admits, X.cas, X.clock, X.frames, X.room, X.hears, X.method, X.code, (X.here.setHeapUsed s₂.heap s₂.slotsUsed).setVm hW'.alike, X.tail, State.WarmedH.trans X.warmed hW', X.limits, X.bytes, X.same.trans (hsame.setVm s.vm)⟩,
      ⟨g, mk, s₂, L, rfl, rfl, hqc, rfl, hL, rfl, rfl⟩, ?_⟩
    show Steps p.tables e below _ ((({ U with heap := s₂.heap, slotsUsed := s₂.slotsUsed } : State).setVm s₂.vm).setTop { g with pc := g.pc + len₂, stack := v.toList ++ g.stack })
    rw [← hs₂]
    exact hsteps
  · obtain ⟨e2, q2, q3, q4, q5, q6⟩ := id hsm
    have e3 : s₂ = ({ (U.calling g mk a).setFrames s₂.frames with heap := s₂.heap, slotsUsed := s₂.slotsUsed } : State).setVm s₂.vm := by
      have : s₂ = ({ s₂ with vm := (U.calling g mk a).vm } : State).setVm s₂.vm := rfl
      rw [e2] at this
      exact this
    have hf₂ : s₂.frames = .throwing q :: .java g :: U.frames.tail := hend
    have hW' : U.WarmedH s₂.vm := hW₂
    have hs₂ : s₂ = ((({ U with heap := s₂.heap, slotsUsed := s₂.slotsUsed } : State).setVm s₂.vm).setTop g).pushFrame (.throwing q) := by
      refine e3.trans ?_
      rw [hf₂, State.calling_eq h.top, State.setFrames_setFrames, State.pushFrame, State.frames_setTop _ hr', State.setTop_of_frames _ hr', State.setFrames_setFrames, hr]
      rfl
    have hsame : U.sameButNew ({ U with heap := s₂.heap, slotsUsed := s₂.slotsUsed } : State) L mc ms := by
      refine ⟨?_, q2, q3, q4, q5, q6⟩
      obtain ⟨t, ht, -⟩ := State.frames_cons hr
      show ({ U with heap := s₂.heap, slotsUsed := s₂.slotsUsed } : State) = { U.setFrames U.frames with heap := s₂.heap, slotsUsed := s₂.slotsUsed }
      rw [State.setFrames_self ht]
    subst hg
    refine Or.inr ⟨q, ⟨(({ U with heap := s₂.heap, slotsUsed := s₂.slotsUsed } : State).setVm s₂.vm), Ls ++ L, c0 + mc, s0 + ms⟩,
      ⟨X.admits, X.cas, X.clock, X.frames, X.room, X.hears, X.method, X.code, (X.here.setHeapUsed s₂.heap s₂.slotsUsed).setVm hW'.alike, X.tail, State.WarmedH.trans X.warmed hW', X.limits, X.bytes, X.same.trans (hsame.setVm s.vm)⟩,
      ⟨g, mk, s₂, L, E, ce, rfl, rfl, hx, hce, hcv, hcl, rfl, hL, rfl, rfl⟩, ?_⟩
    show Steps p.tables e below _ (((({ U with heap := s₂.heap, slotsUsed := s₂.slotsUsed } : State).setVm s₂.vm).setTop g).pushFrame (.throwing q))
    rw [← hs₂]
    exact hsteps
end
variable {p : Program} {l : Launch} {e : Env} {R : Room} {s : State} {m : MethodId} {args : Array Value} {below : List Frame} {meth : Method} {c : Code} {T : State} {H : Heap} {locs : List Loc} {cells slots : Nat}
theorem vx_callVX (X : Stand p l e R s m args below meth c T locs cells slots) (hexec : p.tables.exec = Jvm.exec) {own C : String} {index : Nat} {y : MethodName} {bytes : ByteArray} {maxL : Nat} {ret : Option FieldType} {hh : List (Nat × Nat × Nat × Nat)}
    (hown : s.vm.findClass own = some m.cls) (hlink : (Cond.methodLink own index y).before args s = true) (hinst : (Cond.instanceMethod y).before args s = true) (hsel : (Cond.selects C y y).before args s = true)
    (hcode : (Cond.codeWith y bytes maxL ret hh).before args s = true) (hy : y.cls ≠ "java/lang/invoke/MethodHandle" ∧ y.cls ≠ "java/lang/invoke/VarHandle")
    {W9 : Nat} {Pre : Pt → Array Value → Prop} {Post : Pt → Array Value → Option Value → Pt → Prop} {PostX : Pt → Array Value → Addr → Pt → Prop} (hK : vx_Back l R p e below s args y 3 W9 Pre Post PostX)
    {b : Addr} {cellB : Cell} (hcell : T.heap[b]? = some cellB) (hobj : cellB.vm.isStatics = false) (hcls : s.vm.findClass C = some cellB.cls)
    {g : JFrame} (hg : g.method = m) (hsize : g.locals.size = c.maxLocals) {argsL rest : List Value} (hlen : ∀ sig, parseMethodDescriptor y.desc = some sig → argsL.length = sig.parameters.length)
    (hstack : g.stack = argsL.reverse ++ .ref b :: rest) (hW : 2 * g.monitorRoom + (rest.map fun v => v.category).sum ≤ W9) (hdg : decode c.code g.pc = .ok (.invokevirtual index, 3))
    (hpre : ∀ vm₁, s.WarmedH vm₁ → Pre ⟨T.setVm vm₁, locs, cells, slots⟩ (Value.ref b :: argsL).toArray) :
    (∃ (v : Option Value) (vm₁ : Vm) (B : Pt), s.WarmedH vm₁ ∧ Stand p l e R s m args below meth c B.U B.locs B.cells B.slots ∧ Post ⟨T.setVm vm₁, locs, cells, slots⟩ (Value.ref b :: argsL).toArray v B ∧
      ∀ target, Steps p.tables e below (B.U.setTop { g with pc := g.pc + 3, stack := v.toList ++ rest }) target → Steps p.tables e below (T.setTop g) target) ∨
    (∃ (q : Addr) (vm₁ : Vm) (B : Pt), s.WarmedH vm₁ ∧ Stand p l e R s m args below meth c B.U B.locs B.cells B.slots ∧ PostX ⟨T.setVm vm₁, locs, cells, slots⟩ (Value.ref b :: argsL).toArray q B ∧
      Steps p.tables e below (T.setTop g) ((B.U.setTop { g with stack := rest }).pushFrame (.throwing q))) := by
  obtain ⟨mk, methM, hnamed, hmethM, hstM, habM⟩ := Cond.instanceMethod_spec hinst
  obtain ⟨m8, methM', cM, hn8, hmethM', -, -, -, -, -, -, hsigM⟩ := Cond.codeWith_spec hcode
  cases Option.some.inj (hn8.symm.trans hnamed)
  cases hmethM.symm.trans hmethM'
  obtain ⟨c2, r2, m2, q1, q2, q3, q4, kP, hkP, hkPi⟩ := Cond.selects_spec hsel
  cases hcls.symm.trans q1
  cases (State.methodFound?_of_named hnamed hy).symm.trans q2
  cases hnamed.symm.trans q3
  have hselP : selectMethod e.platform s.vm cellB.cls mk = .method mk := by rw [Launch.admits_selectMethod X.admits]; exact q4
  obtain ⟨vm₁, X₁, hstep₁⟩ := X.invokevirtual hexec hown hlink hnamed hmethM hstM hkP hkPi hy (a := b) (cell := cellB) hcell
    (fun z h => by rw [h] at hobj; cases hobj) hselP hmethM habM hkP hkPi (g := g) hg (argsL := argsL) (rest := rest) (hlen _ hsigM) hstack hdg
  rcases hK m meth c ⟨T.setVm vm₁, locs, cells, slots⟩ { g with stack := rest } (.invokevirtual index) mk (Value.ref b :: argsL).toArray X₁ hg hsize hdg hW (X₁.named hnamed) (hpre vm₁ X₁.warmed) with ⟨v, B, X', hpost, hsteps⟩ | ⟨q, B, X', hpost, hsteps⟩
  · exact Or.inl ⟨v, vm₁, B, X₁.warmed, X', hpost, fun target h => hstep₁ _ fun acts => by rw [doInvoke_state]; exact hsteps.trans h⟩
  · exact Or.inr ⟨q, vm₁, B, X₁.warmed, X', hpost, hstep₁ _ fun acts => by rw [doInvoke_state]; exact hsteps⟩
theorem vx_callSX (X : Stand p l e R s m args below meth c T locs cells slots) (hexec : p.tables.exec = Jvm.exec) {own : String} {index : Nat} {y : MethodName} {bytes : ByteArray} {maxL : Nat} {ret : Option FieldType} {hh : List (Nat × Nat × Nat × Nat)}
    (hown : s.vm.findClass own = some m.cls) (hlink : (Cond.methodLink own index y).before args s = true) (hstat : (Cond.static y).before args s = true) (hinit : (Cond.initialized y.cls).before args s = true)
    (hcode : (Cond.codeWith y bytes maxL ret hh).before args s = true) (hy : y.cls ≠ "java/lang/invoke/MethodHandle" ∧ y.cls ≠ "java/lang/invoke/VarHandle")
    {W9 : Nat} {Pre : Pt → Array Value → Prop} {Post : Pt → Array Value → Option Value → Pt → Prop} {PostX : Pt → Array Value → Addr → Pt → Prop} (hK : vx_Back l R p e below s args y 3 W9 Pre Post PostX)
    {g : JFrame} (hg : g.method = m) (hsize : g.locals.size = c.maxLocals) {argsL rest : List Value} (hlen : ∀ sig, parseMethodDescriptor y.desc = some sig → argsL.length = sig.parameters.length)
    (hstack : g.stack = argsL.reverse ++ rest) (hW : 2 * g.monitorRoom + (rest.map fun v => v.category).sum ≤ W9) (hdg : decode c.code g.pc = .ok (.invokestatic index, 3))
    (hpre : ∀ vm₁, s.WarmedH vm₁ → Pre ⟨T.setVm vm₁, locs, cells, slots⟩ argsL.toArray) :
    (∃ (v : Option Value) (vm₁ : Vm) (B : Pt), s.WarmedH vm₁ ∧ Stand p l e R s m args below meth c B.U B.locs B.cells B.slots ∧ Post ⟨T.setVm vm₁, locs, cells, slots⟩ argsL.toArray v B ∧
      ∀ target, Steps p.tables e below (B.U.setTop { g with pc := g.pc + 3, stack := v.toList ++ rest }) target → Steps p.tables e below (T.setTop g) target) ∨
    (∃ (q : Addr) (vm₁ : Vm) (B : Pt), s.WarmedH vm₁ ∧ Stand p l e R s m args below meth c B.U B.locs B.cells B.slots ∧ PostX ⟨T.setVm vm₁, locs, cells, slots⟩ argsL.toArray q B ∧
      Steps p.tables e below (T.setTop g) ((B.U.setTop { g with stack := rest }).pushFrame (.throwing q))) := by
  obtain ⟨mk, methM, cM, hnamed, hmethM, -, -, -, -, -, -, hsigM⟩ := Cond.codeWith_spec hcode
  have hstatic : methM.isStatic = true := Cond.static_spec hnamed hmethM hstat
  obtain ⟨kP, hkP, -⟩ := className_of_methodNamed hnamed
  have hinitP : kP.init = .initialized := Cond.initialized_spec (findClass_of_methodNamed hnamed) hkP hinit
  obtain ⟨vm₁, X₁, hstep₁⟩ := X.invokestatic hexec hown hlink hnamed hmethM hstatic hkP hinitP hy (g := g) hg (argsL := argsL) (rest := rest) (hlen _ hsigM) hstack hdg
  rcases hK m meth c ⟨T.setVm vm₁, locs, cells, slots⟩ { g with stack := rest } (.invokestatic index) mk argsL.toArray X₁ hg hsize hdg hW (X₁.named hnamed) (hpre vm₁ X₁.warmed) with ⟨v, B, X', hpost, hsteps⟩ | ⟨q, B, X', hpost, hsteps⟩
  · exact Or.inl ⟨v, vm₁, B, X₁.warmed, X', hpost, fun target h => hstep₁ _ fun acts => by rw [doInvoke_state]; exact hsteps.trans h⟩
  · exact Or.inr ⟨q, vm₁, B, X₁.warmed, X', hpost, hstep₁ _ fun acts => by rw [doInvoke_state]; exact hsteps⟩
theorem vx_callVW (X : Stand p l e R s m args below meth c T locs cells slots) (hexec : p.tables.exec = Jvm.exec) {own C : String} {index : Nat} {y : MethodName} {bytes : ByteArray} {maxL : Nat} {ret : Option FieldType} {hh : List (Nat × Nat × Nat × Nat)}
    (hown : s.vm.findClass own = some m.cls) (hlink : (Cond.methodLink own index y).before args s = true) (hinst : (Cond.instanceMethod y).before args s = true) (hsel : (Cond.selects C y y).before args s = true)
    (hcode : (Cond.codeWith y bytes maxL ret hh).before args s = true) (hy : y.cls ≠ "java/lang/invoke/MethodHandle" ∧ y.cls ≠ "java/lang/invoke/VarHandle")
    {W9 : Nat} {Pre : Pt → Array Value → Prop} {Post : Pt → Array Value → Option Value → Pt → Prop} (hK : Back l R p e below s args y 3 W9 Pre Post)
    {b : Addr} {cellB : Cell} (hcell : T.heap[b]? = some cellB) (hobj : cellB.vm.isStatics = false) (hcls : s.vm.findClass C = some cellB.cls)
    {g : JFrame} (hg : g.method = m) (hsize : g.locals.size = c.maxLocals) {argsL rest : List Value} (hlen : ∀ sig, parseMethodDescriptor y.desc = some sig → argsL.length = sig.parameters.length)
    (hstack : g.stack = argsL.reverse ++ .ref b :: rest) (hW : 2 * g.monitorRoom + (rest.map fun v => v.category).sum ≤ W9) (hdg : decode c.code g.pc = .ok (.invokevirtual index, 3))
    (hpre : ∀ vm₁, s.WarmedH vm₁ → Pre ⟨T.setVm vm₁, locs, cells, slots⟩ (Value.ref b :: argsL).toArray) :
    ∃ (v : Option Value) (vm₁ : Vm) (B : Pt), s.WarmedH vm₁ ∧ Stand p l e R s m args below meth c B.U B.locs B.cells B.slots ∧ Post ⟨T.setVm vm₁, locs, cells, slots⟩ (Value.ref b :: argsL).toArray v B ∧
      ∀ target, Steps p.tables e below (B.U.setTop { g with pc := g.pc + 3, stack := v.toList ++ rest }) target → Steps p.tables e below (T.setTop g) target := by
  obtain ⟨mk, methM, hnamed, hmethM, hstM, habM⟩ := Cond.instanceMethod_spec hinst
  obtain ⟨m8, methM', cM, hn8, hmethM', -, -, -, -, -, -, hsigM⟩ := Cond.codeWith_spec hcode
  cases Option.some.inj (hn8.symm.trans hnamed)
  cases hmethM.symm.trans hmethM'
  obtain ⟨c2, r2, m2, q1, q2, q3, q4, kP, hkP, hkPi⟩ := Cond.selects_spec hsel
  cases hcls.symm.trans q1
  cases (State.methodFound?_of_named hnamed hy).symm.trans q2
  cases hnamed.symm.trans q3
  have hselP : selectMethod e.platform s.vm cellB.cls mk = .method mk := by rw [Launch.admits_selectMethod X.admits]; exact q4
  obtain ⟨vm₁, X₁, hstep₁⟩ := X.invokevirtual hexec hown hlink hnamed hmethM hstM hkP hkPi hy (a := b) (cell := cellB) hcell
    (fun z h => by rw [h] at hobj; cases hobj) hselP hmethM habM hkP hkPi (g := g) hg (argsL := argsL) (rest := rest) (hlen _ hsigM) hstack hdg
  obtain ⟨v, B, X', hpost, hsteps⟩ := hK m meth c ⟨T.setVm vm₁, locs, cells, slots⟩ { g with stack := rest } (.invokevirtual index) mk (Value.ref b :: argsL).toArray X₁ hg hsize hdg hW (X₁.named hnamed) (hpre vm₁ X₁.warmed)
  exact ⟨v, vm₁, B, X₁.warmed, X', hpost, fun target h => hstep₁ _ fun acts => by rw [doInvoke_state]; exact hsteps.trans h⟩
abbrev vx_CVW (R : Room) (s : State) (args : Array Value) (own C : String) (index : Nat) (y : MethodName) (bytes : ByteArray) (maxL : Nat) (ret : Option FieldType) (hh : List (Nat × Nat × Nat × Nat)) (ws : List Cond) (rm : Room) (mc ms n : Nat) : Prop :=
  (rm.cells = mc ∧ rm.slots = ms ∧ rm.frames + 1 ≤ R.frames ∧ 8 + (maxL + 11) + rm.locals ≤ R.locals ∧ (∀ w ∈ ws, ∀ (a' : Array Value) (U : State), s.WarmedH U.vm → w.before a' U = true) ∧ Cond.codeWith y bytes maxL ret hh ∈ ws) ∧
  (Cond.codeWith y bytes maxL ret hh).before args s = true ∧ (Cond.initialized y.cls).before args s = true ∧ (y.cls ≠ "java/lang/invoke/MethodHandle" ∧ y.cls ≠ "java/lang/invoke/VarHandle") ∧
  (∀ sig, parseMethodDescriptor y.desc = some sig → n = sig.parameters.length) ∧ (Cond.methodLink own index y).before args s = true ∧ (Cond.instanceMethod y).before args s = true ∧ (Cond.selects C y y).before args s = true
theorem vx_cwVW {own C : String} {index maxL mc ms : Nat} {y : MethodName} {bytes : ByteArray} {ret : Option FieldType} {hh : List (Nat × Nat × Nat × Nat)} {Ts ws ws' : List Cond} {rm : Room} (n : Nat) (ht : ∀ w ∈ Ts, w.before args s = true) (hT : GoodIn Ts (wsV own index C y ws)) (hw : ws = Cond.codeWith y bytes maxL ret hh :: ws') (hrc : rm.cells = mc) (hrs : rm.slots = ms)
    (hd : y.cls = C ∧ y.cls ≠ "java/lang/invoke/MethodHandle" ∧ y.cls ≠ "java/lang/invoke/VarHandle" ∧ (parseMethodDescriptor y.desc).map (fun d => d.parameters.length) = some n) (hR : rm.frames + 1 ≤ R.frames ∧ 8 + (maxL + 11) + rm.locals ≤ R.locals) :
    vx_CVW R s args own C index y bytes maxL ret hh ws rm mc ms n := by
  obtain ⟨hC, hd⟩ := hd
  subst hC
  have ok : ∀ w ∈ wsV own index y.cls y ws, w.before args s = true := fun w h => ht w (hT w h).1
  have hG : GoodIn Ts ws := fun w h => hT w (by unfold wsV; exact List.mem_append_right _ h)
  have hc : Cond.codeWith y bytes maxL ret hh ∈ ws := by rw [hw]; exact List.mem_cons_self
  refine ⟨⟨hrc, hrs, hR.1, hR.2, pay_in ht hG, hc⟩, ht _ (hG _ hc).1, ok _ (by simp [wsV]), ⟨hd.1, hd.2.1⟩, fun sig h => ?_, ok _ (by simp [wsV]), ok _ (by simp [wsV]), ok _ (by simp [wsV])⟩
  have h2 := hd.2.2
  rw [h] at h2
  exact (Option.some.inj h2).symm
theorem vx_runVW {y : MethodName} {bytes cc : ByteArray} {maxL nL mc ms n index : Nat} {ret : Option FieldType} {hh : List (Nat × Nat × Nat × Nat)} {ws : List Cond} {rm : Room} {Pc : Array Value → State → Prop} {Qc : Array Value → State → Outcome → State → Prop} {free : Addr → Prop} {Ts : List Cond} {own C : String} {b : Addr} {As rest : List Value} {g : JFrame}
    (S : CallFix p m c cc nL s args Ts own) (hM : Met l y ws rm Pc Qc mc ms free) (cw : vx_CVW R s args own C index y bytes maxL ret hh ws rm mc ms n) (hp : PreV s H C b Pc As)
    (hg : g.method = m) (hn : As.length = n) (hsize : g.locals.size = nL) (hstack : g.stack = As.reverse ++ .ref b :: rest) (hW : 2 * g.monitorRoom + (rest.map fun v => v.category).sum ≤ 8) (hdg : decode cc g.pc = .ok (.invokevirtual index, 3)) (hf : cells + mc ≤ R.cells ∧ slots + ms ≤ R.slots) :
    va_Run p l e R s m args below meth c H locs cells slots mc ms g rest (Qc (Value.ref b :: As).toArray) free := by
  obtain ⟨⟨hrc, hrs, hfr, hlo, hws, hcw⟩, hcode, hini, hy, hlen, hl, hin, hse⟩ := cw
  have hK : Back l R p e below s args y 3 8 (PreOf R mc ms Pc) (PostOf Qc mc ms free) := va_backW (hh := hh) (bytes := bytes) (maxL := maxL) (ret := ret) hM hp.1 hrc hrs hfr hlo hws hcw (fun a' U hW => word_at hW (Or.inl (by first | rfl | simp [Cond.onTables, Cond.keeps, Cond.steady])) hini)
  obtain ⟨hx, hb, hml, ho, -⟩ := S
  obtain ⟨-, ⟨cellB, hcB, hoB, hclB⟩, hPc⟩ := hp
  intro T hT X
  obtain ⟨v, vm₁, ⟨U', l2, c2, s2⟩, hW₁, X', ⟨g', mk, t, L, e1, e2, hq, h1, hL, h2, h3⟩, st⟩ := vx_callVW X hx (C := C) (hh := hh) (bytes := bytes) (maxL := maxL) (ret := ret) ho hl hin hse hcode hy hK (by rw [hT]; exact hcB) hoB hclB hg (hsize.trans hml.symm) (argsL := As) (rest := rest) (fun sig h => hn.trans (hlen sig h)) hstack hW (by rw [hb]; exact hdg)
    (fun vm₁ hW₁ => ⟨hf.1, hf.2, hPc (T.setVm vm₁) hT hW₁⟩)
  dsimp only [Pt.U, Pt.locs, Pt.cells, Pt.slots] at X' e1 e2 h1 h2 h3 st
  subst h1; subst h2; subst h3
  exact ⟨v, (T.setVm vm₁).calling g' mk (Value.ref b :: As).toArray, t, U', L, hT, X', hL, e1, e2, hq, st⟩
section
variable {y : MethodName} {bytes cc : ByteArray} {maxL nL mc ms n index : Nat} {ret : Option FieldType} {ws : List Cond} {rm : Room} {Pc : Array Value → State → Prop} {Qc : Array Value → State → Outcome → State → Prop} {XC : String → State → State → Prop} {free : Addr → Prop} {Ts : List Cond} {own C : String} {b : Addr} {As rest : List Value} {g : JFrame}
theorem vx_runVX {hh : List (Nat × Nat × Nat × Nat)} (S : CallFix p m c cc nL s args Ts own) (hM : vx_Met l y ws rm Pc Qc XC mc ms free) (cw : vx_CVW R s args own C index y bytes maxL ret hh ws rm mc ms n) (hp : PreV s H C b Pc As)
    (hg : g.method = m) (hn : As.length = n) (hsize : g.locals.size = nL) (hstack : g.stack = As.reverse ++ .ref b :: rest) (hW : 2 * g.monitorRoom + (rest.map fun v => v.category).sum ≤ 8) (hdg : decode cc g.pc = .ok (.invokevirtual index, 3)) (hf : cells + mc ≤ R.cells ∧ slots + ms ≤ R.slots) :
    vx_Run p l e R s m args below meth c H locs cells slots mc ms g rest (Qc (Value.ref b :: As).toArray) XC free := by
  obtain ⟨⟨hrc, hrs, hfr, hlo, hws, hcw⟩, hcode, hini, hy, hlen, hl, hin, hse⟩ := cw
  have hK : vx_Back l R p e below s args y 3 8 (PreOf R mc ms Pc) (PostOf Qc mc ms free) (vx_Post XC mc ms free) := vx_backW (hh := hh) (bytes := bytes) (maxL := maxL) (ret := ret) hM hp.1 hrc hrs hfr hlo hws hcw (fun a' U hW => word_at hW (Or.inl (by first | rfl | simp [Cond.onTables, Cond.keeps, Cond.steady])) hini)
  obtain ⟨hx, hb, hml, ho, -⟩ := S
  obtain ⟨-, ⟨cellB, hcB, hoB, hclB⟩, hPc⟩ := hp
  intro T hT X
  rcases vx_callVX X hx (C := C) (hh := hh) (bytes := bytes) (maxL := maxL) (ret := ret) ho hl hin hse hcode hy hK (by rw [hT]; exact hcB) hoB hclB hg (hsize.trans hml.symm) (argsL := As) (rest := rest) (fun sig h => hn.trans (hlen sig h)) hstack hW (by rw [hb]; exact hdg)
    (fun vm₁ hW₁ => ⟨hf.1, hf.2, hPc (T.setVm vm₁) hT hW₁⟩) with ⟨v, vm₁, ⟨U', l2, c2, s2⟩, hW₁, X', ⟨g', mk, t, L, e1, e2, hq, h1, hL, h2, h3⟩, st⟩ | ⟨q, vm₁, ⟨U', l2, c2, s2⟩, hW₁, X', ⟨g', mk, t, L, E, ce, e1, e2, hq, hce, hcv, hcl, h1, hL, h2, h3⟩, st⟩
  · dsimp only [Pt.U, Pt.locs, Pt.cells, Pt.slots] at X' e1 e2 h1 h2 h3 st
    subst h1; subst h2; subst h3
    exact Or.inl ⟨v, (T.setVm vm₁).calling g' mk (Value.ref b :: As).toArray, t, U', L, hT, X', hL, e1, e2, hq, st⟩
  · dsimp only [Pt.U, Pt.locs, Pt.cells, Pt.slots] at X' e1 e2 h1 h2 h3 st hcl
    subst h1; subst h2; subst h3
    exact Or.inr ⟨q, (T.setVm vm₁).calling g' mk (Value.ref b :: As).toArray, t, U', L, E, ce, hT, X', hL, e1, e2, hq, hce, hcv, vx_cls hW₁ hcl, st⟩
theorem vx_runSX {hh : List (Nat × Nat × Nat × Nat)} (S : CallFix p m c cc nL s args Ts own) (hM : vx_Met l y ws rm Pc Qc XC mc ms free) (cw : vx_CSW R s args own index y bytes maxL ret hh ws rm mc ms n) (hp : PreS s H Pc As)
    (hg : g.method = m) (hn : As.length = n) (hsize : g.locals.size = nL) (hstack : g.stack = As.reverse ++ rest) (hW : 2 * g.monitorRoom + (rest.map fun v => v.category).sum ≤ 8) (hdg : decode cc g.pc = .ok (.invokestatic index, 3)) (hf : cells + mc ≤ R.cells ∧ slots + ms ≤ R.slots) :
    vx_Run p l e R s m args below meth c H locs cells slots mc ms g rest (Qc As.toArray) XC free := by
  obtain ⟨⟨hrc, hrs, hfr, hlo, hws, hcw⟩, hcode, hini, hy, hlen, hl, hstt⟩ := cw
  have hK : vx_Back l R p e below s args y 3 8 (PreOf R mc ms Pc) (PostOf Qc mc ms free) (vx_Post XC mc ms free) := vx_backW (hh := hh) (bytes := bytes) (maxL := maxL) (ret := ret) hM hp.1 hrc hrs hfr hlo hws hcw (fun a' U hW => word_at hW (Or.inl (by first | rfl | simp [Cond.onTables, Cond.keeps, Cond.steady])) hini)
  obtain ⟨hx, hb, hml, ho, -⟩ := S
  intro T hT X
  rcases vx_callSX X hx (hh := hh) (bytes := bytes) (maxL := maxL) (ret := ret) ho hl hstt hini hcode hy hK hg (hsize.trans hml.symm) (argsL := As) (rest := rest) (fun sig h => hn.trans (hlen sig h)) hstack hW (by rw [hb]; exact hdg)
    (fun vm₁ hW₁ => ⟨hf.1, hf.2, hp.2 (T.setVm vm₁) hT hW₁⟩) with ⟨v, vm₁, ⟨U', l2, c2, s2⟩, hW₁, X', ⟨g', mk, t, L, e1, e2, hq, h1, hL, h2, h3⟩, st⟩ | ⟨q, vm₁, ⟨U', l2, c2, s2⟩, hW₁, X', ⟨g', mk, t, L, E, ce, e1, e2, hq, hce, hcv, hcl, h1, hL, h2, h3⟩, st⟩
  · dsimp only [Pt.U, Pt.locs, Pt.cells, Pt.slots] at X' e1 e2 h1 h2 h3 st
    subst h1; subst h2; subst h3
    exact Or.inl ⟨v, (T.setVm vm₁).calling g' mk As.toArray, t, U', L, hT, X', hL, e1, e2, hq, st⟩
  · dsimp only [Pt.U, Pt.locs, Pt.cells, Pt.slots] at X' e1 e2 h1 h2 h3 st hcl
    subst h1; subst h2; subst h3
    exact Or.inr ⟨q, (T.setVm vm₁).calling g' mk As.toArray, t, U', L, E, ce, hT, X', hL, e1, e2, hq, hce, hcv, vx_cls hW₁ hcl, st⟩
end
end VXH
theorem vx_ofWH {l : Launch} {y : MethodName} {ws ws' : List Cond} {rm : Room} {Pc : Array Value → State → Prop} {Qc : Array Value → State → Outcome → State → Prop} {XC : String → State → State → Prop} {mc ms : Nat} {free : Addr → Prop} {cc : ByteArray} {maxL : Nat} {ret : Option FieldType} {hh : List (Nat × Nat × Nat × Nat)}
    (hy : plainName y.cls = true) (hw : ws = Cond.codeWith y cc maxL ret hh :: ws')
    (body : ∀ p e s m args below meth c s₁, BodyLoose p l y (headSpec ws rm) cc maxL ret e s m args below meth c s₁ → c.maxLocals = maxL → Pc args s →
      W p l e (headSpec ws rm).room s m args below meth c s.heap [] 0 0 (vx_MQ below Qc XC args s mc ms free) (entryFrame m args maxL)) : vx_Met l y ws rm Pc Qc XC mc ms free := by
  refine MetFree.of_bodyS (code := cc) (maxLocals := maxL) (ret := ret) hy ?_ ?_
  · intro args s m h hn
    obtain ⟨m9, meth, c, hn9, h1, h2, h3, h4, -, h5, h6, -⟩ := Cond.codeWith_spec (atoms_spec (ws := ws) h _ (by rw [hw]; exact List.mem_cons_self))
    cases hn.symm.trans hn9
    exact ⟨meth, c, h1, h2, h3, h4, h5, h6⟩
  · intro p e s m args below meth c s₁ B hml hP _
    have hh0 : s₁.heap = s.heap := by rw [B.state]; rfl
    obtain ⟨t, a1, o, b1, b2, b3⟩ := body p e s m args below meth c s₁ B hml hP s₁ hh0 (Stand.of_body B)
    exact ⟨t, o, a1, b1, b2, b3⟩
/-! ===== END ===== -/
end
section
/-- the words that every method is given: the good ones of the tables -/
def gt : List Cond := lw_tbl.filter goodWord
theorem gt_good : ∀ w ∈ gt, goodWord w = true := fun w h => (List.mem_filter.mp h).2
def R_D : String := "ClockTree$Dataset"
def F_D : u_T := fun k => match k with
  | 0 => ("ClockTree$Dataset", "priority", "I", false)
  | 1 => ("ClockTree$Dataset", "kind", "I", false)
  | 2 => ("ClockTree$Dataset", "lesser", "I", false)
  | 3 => ("ClockTree$Dataset", "root", "I", false)
  | 4 => ("ClockTree$Dataset", "steps", "I", false)
  | 5 => ("ClockTree$Dataset", "sender", "I", false)
  | 6 => ("ClockTree$Dataset", "senderPort", "I", false)
  | _ => ("ClockTree$Dataset", "heardAt", "I", false)
def tt_D : Nat → FieldType := fun k => match k with
  | 0 => .int
  | 1 => .int
  | 2 => .int
  | 3 => .int
  | 4 => .int
  | 5 => .int
  | 6 => .int
  | _ => .int
theorem n_D : ∀ a, a < 8 → ∀ b, b < 8 → a ≠ b → (F_D a).2.1 ≠ (F_D b).2.1 := by decide +kernel
theorem tt_D_ok : ∀ k, k < 8 → parseFieldDescriptor (F_D k).2.2.1 = some (tt_D k) := by decide +kernel
theorem w_D : ∀ w ∈ u_ws R_D F_D 8, w ∈ gt := by decide +kernel
def R_P : String := "ClockTree$Port"
def F_P : u_T := fun k => match k with
  | 0 => ("ClockTree$Port", "owner", "I", true)
  | 1 => ("ClockTree$Port", "number", "I", true)
  | 2 => ("ClockTree$Port", "kept", "LClockTree$Dataset;", true)
  | 3 => ("ClockTree$Port", "told", "LClockTree$Dataset;", true)
  | 4 => ("ClockTree$Port", "keeps", "Z", false)
  | 5 => ("ClockTree$Port", "age", "I", false)
  | 6 => ("ClockTree$Port", "state", "I", false)
  | _ => ("ClockTree$Port", "link", "LClockTree$Link;", false)
def tt_P : Nat → FieldType := fun k => match k with
  | 0 => .int
  | 1 => .int
  | 2 => .object "ClockTree$Dataset"
  | 3 => .object "ClockTree$Dataset"
  | 4 => .boolean
  | 5 => .int
  | 6 => .int
  | _ => .object "ClockTree$Link"
theorem n_P : ∀ a, a < 8 → ∀ b, b < 8 → a ≠ b → (F_P a).2.1 ≠ (F_P b).2.1 := by decide +kernel
theorem tt_P_ok : ∀ k, k < 8 → parseFieldDescriptor (F_P k).2.2.1 = some (tt_P k) := by decide +kernel
theorem w_P : ∀ w ∈ u_ws R_P F_P 8, w ∈ gt := by decide +kernel
def R_N : String := "ClockTree$Node"
def F_N : u_T := fun k => match k with
  | 0 => ("ClockTree$Node", "number", "I", true)
  | 1 => ("ClockTree$Node", "own", "LClockTree$Dataset;", true)
  | 2 => ("ClockTree$Node", "ports", "[LClockTree$Port;", true)
  | 3 => ("ClockTree$Node", "best", "LClockTree$Dataset;", false)
  | 4 => ("ClockTree$Node", "offset", "J", false)
  | _ => ("ClockTree$Node", "delayFound", "J", false)
def tt_N : Nat → FieldType := fun k => match k with
  | 0 => .int
  | 1 => .object "ClockTree$Dataset"
  | 2 => .array (.object "ClockTree$Port")
  | 3 => .object "ClockTree$Dataset"
  | 4 => .long
  | _ => .long
theorem n_N : ∀ a, a < 6 → ∀ b, b < 6 → a ≠ b → (F_N a).2.1 ≠ (F_N b).2.1 := by decide +kernel
theorem tt_N_ok : ∀ k, k < 6 → parseFieldDescriptor (F_N k).2.2.1 = some (tt_N k) := by decide +kernel
theorem w_N : ∀ w ∈ u_ws R_N F_N 6, w ∈ gt := by decide +kernel
def R_K : String := "ClockTree$Link"
def F_K : u_T := fun k => match k with
  | 0 => ("ClockTree$Link", "first", "LClockTree$Port;", true)
  | 1 => ("ClockTree$Link", "second", "LClockTree$Port;", true)
  | 2 => ("ClockTree$Link", "there", "I", true)
  | 3 => ("ClockTree$Link", "back", "I", true)
  | _ => ("ClockTree$Link", "isUp", "Z", false)
def tt_K : Nat → FieldType := fun k => match k with
  | 0 => .object "ClockTree$Port"
  | 1 => .object "ClockTree$Port"
  | 2 => .int
  | 3 => .int
  | _ => .boolean
theorem n_K : ∀ a, a < 5 → ∀ b, b < 5 → a ≠ b → (F_K a).2.1 ≠ (F_K b).2.1 := by decide +kernel
theorem tt_K_ok : ∀ k, k < 5 → parseFieldDescriptor (F_K k).2.2.1 = some (tt_K k) := by decide +kernel
theorem w_K : ∀ w ∈ u_ws R_K F_K 5, w ∈ gt := by decide +kernel
def R_R : String := "ClockTree$Reckoner"
def F_R : u_T := fun k => match k with
  | 0 => ("ClockTree$Reckoner", "overflowed", "Z", false)
  | 1 => ("ClockTree$Reckoner", "offsetFound", "J", false)
  | 2 => ("ClockTree$Reckoner", "delayFound", "J", false)
  | 3 => ("ClockTree$Reckoner", "newOffset", "J", false)
  | 4 => ("ClockTree$Reckoner", "sentByMaster", "J", false)
  | 5 => ("ClockTree$Reckoner", "cameToSlave", "J", false)
  | 6 => ("ClockTree$Reckoner", "sentBySlave", "J", false)
  | 7 => ("ClockTree$Reckoner", "cameToMaster", "J", false)
  | 8 => ("ClockTree$Reckoner", "t1", "J", false)
  | 9 => ("ClockTree$Reckoner", "t2", "J", false)
  | 10 => ("ClockTree$Reckoner", "t3", "J", false)
  | _ => ("ClockTree$Reckoner", "t4", "J", false)
def tt_R : Nat → FieldType := fun k => match k with
  | 0 => .boolean
  | 1 => .long
  | 2 => .long
  | 3 => .long
  | 4 => .long
  | 5 => .long
  | 6 => .long
  | 7 => .long
  | 8 => .long
  | 9 => .long
  | 10 => .long
  | _ => .long
theorem n_R : ∀ a, a < 12 → ∀ b, b < 12 → a ≠ b → (F_R a).2.1 ≠ (F_R b).2.1 := by decide +kernel
theorem tt_R_ok : ∀ k, k < 12 → parseFieldDescriptor (F_R k).2.2.1 = some (tt_R k) := by decide +kernel
theorem w_R : ∀ w ∈ u_ws R_R F_R 12, w ∈ gt := by decide +kernel
def R_T : String := "ClockTree"
def F_T : u_T := fun k => match k with
  | 0 => ("ClockTree", "nodes", "[LClockTree$Node;", true)
  | 1 => ("ClockTree", "links", "[LClockTree$Link;", true)
  | 2 => ("ClockTree", "reckoner", "LClockTree$Reckoner;", true)
  | 3 => ("ClockTree", "nodeCount", "I", false)
  | 4 => ("ClockTree", "linkCount", "I", false)
  | _ => ("ClockTree", "changedInRound", "Z", false)
def tt_T : Nat → FieldType := fun k => match k with
  | 0 => .array (.object "ClockTree$Node")
  | 1 => .array (.object "ClockTree$Link")
  | 2 => .object "ClockTree$Reckoner"
  | 3 => .int
  | 4 => .int
  | _ => .boolean
theorem n_T : ∀ a, a < 6 → ∀ b, b < 6 → a ≠ b → (F_T a).2.1 ≠ (F_T b).2.1 := by decide +kernel
theorem tt_T_ok : ∀ k, k < 6 → parseFieldDescriptor (F_T k).2.2.1 = some (tt_T k) := by decide +kernel
theorem w_T : ∀ w ∈ u_ws R_T F_T 6, w ∈ gt := by decide +kernel
def R_M : String := "ClockTreeModel"
def F_M : u_T := fun k => match k with
  | 0 => ("ClockTreeModel", "thrown", "I", false)
  | 1 => ("ClockTreeModel", "nodes", "I", false)
  | 2 => ("ClockTreeModel", "identities", "[I", false)
  | 3 => ("ClockTreeModel", "priorities", "[I", false)
  | 4 => ("ClockTreeModel", "classes", "[I", false)
  | 5 => ("ClockTreeModel", "lessers", "[I", false)
  | 6 => ("ClockTreeModel", "offsets", "[J", false)
  | 7 => ("ClockTreeModel", "delays", "[J", false)
  | 8 => ("ClockTreeModel", "links", "I", false)
  | 9 => ("ClockTreeModel", "ends", "[I", false)
  | 10 => ("ClockTreeModel", "ways", "[I", false)
  | 11 => ("ClockTreeModel", "isUp", "[Z", false)
  | 12 => ("ClockTreeModel", "linkOf", "[I", false)
  | 13 => ("ClockTreeModel", "states", "[I", false)
  | 14 => ("ClockTreeModel", "keeps", "[Z", false)
  | 15 => ("ClockTreeModel", "ages", "[I", false)
  | 16 => ("ClockTreeModel", "data", "[I", false)
  | 17 => ("ClockTreeModel", "comes", "[Z", false)
  | 18 => ("ClockTreeModel", "coming", "[I", false)
  | 19 => ("ClockTreeModel", "kept", "[Z", false)
  | 20 => ("ClockTreeModel", "was", "[I", false)
  | 21 => ("ClockTreeModel", "wasState", "[I", false)
  | 22 => ("ClockTreeModel", "bests", "[I", false)
  | 23 => ("ClockTreeModel", "one", "[I", false)
  | 24 => ("ClockTreeModel", "other", "[I", false)
  | 25 => ("ClockTreeModel", "over", "Z", false)
  | 26 => ("ClockTreeModel", "found", "J", false)
  | _ => ("ClockTreeModel", "foundDelay", "J", false)
def tt_M : Nat → FieldType := fun k => match k with
  | 0 => .int
  | 1 => .int
  | 2 => .array (.int)
  | 3 => .array (.int)
  | 4 => .array (.int)
  | 5 => .array (.int)
  | 6 => .array (.long)
  | 7 => .array (.long)
  | 8 => .int
  | 9 => .array (.int)
  | 10 => .array (.int)
  | 11 => .array (.boolean)
  | 12 => .array (.int)
  | 13 => .array (.int)
  | 14 => .array (.boolean)
  | 15 => .array (.int)
  | 16 => .array (.int)
  | 17 => .array (.boolean)
  | 18 => .array (.int)
  | 19 => .array (.boolean)
  | 20 => .array (.int)
  | 21 => .array (.int)
  | 22 => .array (.int)
  | 23 => .array (.int)
  | 24 => .array (.int)
  | 25 => .boolean
  | 26 => .long
  | _ => .long
theorem n_M : ∀ a, a < 28 → ∀ b, b < 28 → a ≠ b → (F_M a).2.1 ≠ (F_M b).2.1 := by decide +kernel
theorem tt_M_ok : ∀ k, k < 28 → parseFieldDescriptor (F_M k).2.2.1 = some (tt_M k) := by decide +kernel
theorem w_M : ∀ w ∈ u_ws R_M F_M 28, w ∈ gt := by decide +kernel
def R_L : String := "ClockTreeLaw"
abbrev lcl : List vw_C := [(R_D, F_D, 8), (R_P, F_P, 8), (R_N, F_N, 6), (R_K, F_K, 5), (R_R, F_R, 12), (R_T, F_T, 6), (R_M, F_M, 28)]
def ttab (q : Nat) : Nat → FieldType := match q with
  | 0 => tt_D
  | 1 => tt_P
  | 2 => tt_N
  | 3 => tt_K
  | 4 => tt_R
  | 5 => tt_T
  | _ => tt_M
theorem lcl_ok : ∀ (q : Nat) (r : vw_C), lcl[q]? = some r → (∀ w ∈ u_ws r.1 r.2.1 r.2.2, w ∈ gt) ∧ (∀ k, k < r.2.2 → parseFieldDescriptor (r.2.1 k).2.2.1 = some (ttab q k)) ∧ ∀ a, a < r.2.2 → ∀ b, b < r.2.2 → a ≠ b → (r.2.1 a).2.1 ≠ (r.2.1 b).2.1 := by
  intro q r h
  match q, h with
  | 0, h => cases h; exact ⟨w_D, tt_D_ok, n_D⟩
  | 1, h => cases h; exact ⟨w_P, tt_P_ok, n_P⟩
  | 2, h => cases h; exact ⟨w_N, tt_N_ok, n_N⟩
  | 3, h => cases h; exact ⟨w_K, tt_K_ok, n_K⟩
  | 4, h => cases h; exact ⟨w_R, tt_R_ok, n_R⟩
  | 5, h => cases h; exact ⟨w_T, tt_T_ok, n_T⟩
  | 6, h => cases h; exact ⟨w_M, tt_M_ok, n_M⟩
  | n + 7, h => simp at h
/-- words that are not good ones, yet stay -/
def nstT : List Cond := [(Cond.methodLinkNest "ClockTree" 23 ⟨"ClockTree$Reckoner", "<init>", "()V"⟩ "ClockTree"), (Cond.methodLinkNest "ClockTree$Node" 26 ⟨"ClockTree$Dataset", "<init>", "()V"⟩ "ClockTree"), (Cond.methodLinkNest "ClockTree$Port" 20 ⟨"ClockTree$Dataset", "<init>", "()V"⟩ "ClockTree"), (Cond.castable "java/lang/IllegalArgumentException" "java/lang/IllegalArgumentException"), (Cond.castable "java/lang/IllegalStateException" "java/lang/IllegalStateException"), (Cond.castable "java/lang/ArithmeticException" "java/lang/ArithmeticException"), (Cond.declares ⟨"java/lang/RuntimeException", "<init>", "()V"⟩), (Cond.declares ⟨"java/lang/RuntimeException", "<init>", "(Ljava/lang/String;)V"⟩), (Cond.declares ⟨"java/lang/Exception", "<init>", "()V"⟩), (Cond.declares ⟨"java/lang/Exception", "<init>", "(Ljava/lang/String;)V"⟩), (Cond.declares ⟨"java/lang/Throwable", "<init>", "()V"⟩), (Cond.declares ⟨"java/lang/Throwable", "<init>", "(Ljava/lang/String;)V"⟩)]
/-- the texts of the exceptions -/
def strT : List (String × Nat × String) := [("ClockTree", 45, "a value is out of range"), ("ClockTree", 54, "there is a node with this identity"), ("ClockTree", 58, "there are 10 nodes"), ("ClockTree", 173, "there is no such node"), ("ClockTree", 175, "there is no such port"), ("ClockTree", 85, "a link joins two nodes"), ("ClockTree", 88, "a delay is out of range"), ("ClockTree", 90, "there are 16 links"), ("ClockTree", 98, "a port has a link"), ("ClockTree", 103, "there is no such link"), ("ClockTree", 112, "the priority is out of range"), ("ClockTree", 117, "rounds are 1 to 50"), ("ClockTree", 142, "a rest is out of range"), ("ClockTree", 148, "no slave port with a link that is up"), ("ClockTree", 156, "the exchange overflows")]
theorem obji_in : Cond.instanceMethod Lib.objectInit ∈ gt ∧ Cond.code Lib.objectInit ⟨#[0xb1]⟩ 1 none ∈ gt := by decide +kernel
abbrev c_T_init : ByteArray := prog_1_method_1_code
def y_T_init : MethodName := ⟨R_T, "<init>", "()V"⟩
abbrev c_R_init : ByteArray := prog_6_method_1_code
def y_R_init : MethodName := ⟨R_R, "<init>", "()V"⟩
abbrev c_T_settle : ByteArray := prog_1_method_7_code
def y_T_settle : MethodName := ⟨R_T, "settle", "()I"⟩
abbrev c_T_playRound : ByteArray := prog_1_method_20_code
def y_T_playRound : MethodName := ⟨R_T, "playRound", "()I"⟩
abbrev c_T_hearAtPorts : ByteArray := prog_1_method_21_code
def y_T_hearAtPorts : MethodName := ⟨R_T, "hearAtPorts", "(LClockTree$Node;)I"⟩
abbrev c_P_findSender : ByteArray := prog_5_method_2_code
def y_P_findSender : MethodName := ⟨R_P, "findSender", "()LClockTree$Port;"⟩
abbrev c_K_farFrom : ByteArray := prog_3_method_2_code
def y_K_farFrom : MethodName := ⟨R_K, "farFrom", "(LClockTree$Port;)LClockTree$Port;"⟩
abbrev c_N_accepts : ByteArray := prog_4_method_2_code
def y_N_accepts : MethodName := ⟨R_N, "accepts", "(LClockTree$Dataset;)Z"⟩
abbrev c_P_keep : ByteArray := prog_5_method_3_code
def y_P_keep : MethodName := ⟨R_P, "keep", "(LClockTree$Dataset;)Z"⟩
abbrev c_D_tellsSameAs : ByteArray := prog_2_method_5_code
def y_D_tellsSameAs : MethodName := ⟨R_D, "tellsSameAs", "(LClockTree$Dataset;)Z"⟩
abbrev c_D_setRootOf : ByteArray := prog_2_method_3_code
def y_D_setRootOf : MethodName := ⟨R_D, "setRootOf", "(LClockTree$Dataset;)V"⟩
abbrev c_P_growOlder : ByteArray := prog_5_method_4_code
def y_P_growOlder : MethodName := ⟨R_P, "growOlder", "()Z"⟩
abbrev c_N_findStates : ByteArray := prog_4_method_3_code
def y_N_findStates : MethodName := ⟨R_N, "findStates", "()Z"⟩
abbrev c_N_findBest : ByteArray := prog_4_method_4_code
def y_N_findBest : MethodName := ⟨R_N, "findBest", "()LClockTree$Dataset;"⟩
abbrev c_D_betterThan : ByteArray := prog_2_method_4_code
def y_D_betterThan : MethodName := ⟨R_D, "betterThan", "(LClockTree$Dataset;)Z"⟩
abbrev c_P_tell : ByteArray := prog_5_method_5_code
def y_P_tell : MethodName := ⟨R_P, "tell", "(LClockTree$Dataset;LClockTree$Dataset;)V"⟩
abbrev c_P_findState : ByteArray := prog_5_method_6_code
def y_P_findState : MethodName := ⟨R_P, "findState", "(LClockTree$Dataset;)I"⟩
abbrev c_T_discipline : ByteArray := prog_1_method_15_code
def y_T_discipline : MethodName := ⟨R_T, "discipline", "(J)I"⟩
abbrev c_T_setsClock : ByteArray := prog_1_method_23_code
def y_T_setsClock : MethodName := ⟨R_T, "setsClock", "(LClockTree$Node;J)Z"⟩
abbrev c_T_openSlaveOf : ByteArray := prog_1_method_22_code
def y_T_openSlaveOf : MethodName := ⟨R_T, "openSlaveOf", "(LClockTree$Node;)LClockTree$Port;"⟩
abbrev c_T_setClock : ByteArray := prog_1_method_24_code
def y_T_setClock : MethodName := ⟨R_T, "setClock", "(LClockTree$Node;LClockTree$Port;JII)Z"⟩
abbrev c_K_delayTo : ByteArray := prog_3_method_3_code
def y_K_delayTo : MethodName := ⟨R_K, "delayTo", "(LClockTree$Port;)I"⟩
abbrev c_K_delayFrom : ByteArray := prog_3_method_4_code
def y_K_delayFrom : MethodName := ⟨R_K, "delayFrom", "(LClockTree$Port;)I"⟩
abbrev c_R_noteTimes : ByteArray := prog_6_method_2_code
def y_R_noteTimes : MethodName := ⟨R_R, "noteTimes", "(JII)V"⟩
abbrev c_R_plus : ByteArray := prog_6_method_5_code
def y_R_plus : MethodName := ⟨R_R, "plus", "(JJ)J"⟩
abbrev c_R_noteClocks : ByteArray := prog_6_method_3_code
def y_R_noteClocks : MethodName := ⟨R_R, "noteClocks", "(JJ)V"⟩
abbrev c_R_find : ByteArray := prog_6_method_4_code
def y_R_find : MethodName := ⟨R_R, "find", "(JII)V"⟩
abbrev c_R_minus : ByteArray := prog_6_method_6_code
def y_R_minus : MethodName := ⟨R_R, "minus", "(JJ)J"⟩
abbrev c_L_node : ByteArray := method_3_code
def y_L_node : MethodName := ⟨R_L, "node", "(LClockTree;IIIIJ[J)I"⟩
abbrev c_T_node : ByteArray := prog_1_method_2_code
def y_T_node : MethodName := ⟨R_T, "node", "(IIIIJ)I"⟩
abbrev c_T_isWithin : ByteArray := prog_1_method_16_code
def y_T_isWithin : MethodName := ⟨R_T, "isWithin", "(II)Z"⟩
abbrev c_T_hasIdentity : ByteArray := prog_1_method_17_code
def y_T_hasIdentity : MethodName := ⟨R_T, "hasIdentity", "(I)Z"⟩
abbrev c_N_init : ByteArray := prog_4_method_1_code
def y_N_init : MethodName := ⟨R_N, "<init>", "(IJ)V"⟩
abbrev c_D_init : ByteArray := prog_2_method_1_code
def y_D_init : MethodName := ⟨R_D, "<init>", "()V"⟩
abbrev c_P_init : ByteArray := prog_5_method_1_code
def y_P_init : MethodName := ⟨R_P, "<init>", "(II)V"⟩
abbrev c_D_setOwn : ByteArray := prog_2_method_2_code
def y_D_setOwn : MethodName := ⟨R_D, "setOwn", "(IIII)V"⟩
abbrev c_L_link : ByteArray := method_4_code
def y_L_link : MethodName := ⟨R_L, "link", "(LClockTree;IIIIII[J)I"⟩
abbrev c_T_link : ByteArray := prog_1_method_3_code
def y_T_link : MethodName := ⟨R_T, "link", "(IIIIII)I"⟩
abbrev c_T_portAt : ByteArray := prog_1_method_19_code
def y_T_portAt : MethodName := ⟨R_T, "portAt", "(II)LClockTree$Port;"⟩
abbrev c_T_nodeAt : ByteArray := prog_1_method_18_code
def y_T_nodeAt : MethodName := ⟨R_T, "nodeAt", "(I)LClockTree$Node;"⟩
abbrev c_K_init : ByteArray := prog_3_method_1_code
def y_K_init : MethodName := ⟨R_K, "<init>", "(LClockTree$Port;LClockTree$Port;II)V"⟩
abbrev c_L_up : ByteArray := method_5_code
def y_L_up : MethodName := ⟨R_L, "up", "(LClockTree;IZ)I"⟩
abbrev c_T_up : ByteArray := prog_1_method_4_code
def y_T_up : MethodName := ⟨R_T, "up", "(IZ)V"⟩
abbrev c_L_priority : ByteArray := method_6_code
def y_L_priority : MethodName := ⟨R_L, "priority", "(LClockTree;II)I"⟩
abbrev c_T_priority : ByteArray := prog_1_method_5_code
def y_T_priority : MethodName := ⟨R_T, "priority", "(II)V"⟩
abbrev c_L_round : ByteArray := method_7_code
def y_L_round : MethodName := ⟨R_L, "round", "(LClockTree;I[J)I"⟩
abbrev c_T_round : ByteArray := prog_1_method_6_code
def y_T_round : MethodName := ⟨R_T, "round", "(I)I"⟩
abbrev c_L_state : ByteArray := method_8_code
def y_L_state : MethodName := ⟨R_L, "state", "(LClockTree;II[J)I"⟩
abbrev c_T_state : ByteArray := prog_1_method_8_code
def y_T_state : MethodName := ⟨R_T, "state", "(II)I"⟩
abbrev c_L_root : ByteArray := method_9_code
def y_L_root : MethodName := ⟨R_L, "root", "(LClockTree;I[J)I"⟩
abbrev c_T_root : ByteArray := prog_1_method_9_code
def y_T_root : MethodName := ⟨R_T, "root", "(I)I"⟩
abbrev c_L_steps : ByteArray := method_10_code
def y_L_steps : MethodName := ⟨R_L, "steps", "(LClockTree;I[J)I"⟩
abbrev c_T_steps : ByteArray := prog_1_method_10_code
def y_T_steps : MethodName := ⟨R_T, "steps", "(I)I"⟩
abbrev c_L_kept : ByteArray := method_11_code
def y_L_kept : MethodName := ⟨R_L, "kept", "(LClockTree;II[J)I"⟩
abbrev c_T_kept : ByteArray := prog_1_method_11_code
def y_T_kept : MethodName := ⟨R_T, "kept", "(II)I"⟩
abbrev c_L_exchange : ByteArray := method_12_code
def y_L_exchange : MethodName := ⟨R_L, "exchange", "(LClockTree;IJII[J)I"⟩
abbrev c_T_exchange : ByteArray := prog_1_method_12_code
def y_T_exchange : MethodName := ⟨R_T, "exchange", "(IJII)J"⟩
abbrev c_L_delay : ByteArray := method_13_code
def y_L_delay : MethodName := ⟨R_L, "delay", "(LClockTree;I[J)I"⟩
abbrev c_T_delay : ByteArray := prog_1_method_13_code
def y_T_delay : MethodName := ⟨R_T, "delay", "(I)J"⟩
abbrev c_L_offset : ByteArray := method_14_code
def y_L_offset : MethodName := ⟨R_L, "offset", "(LClockTree;I[J)I"⟩
abbrev c_T_offset : ByteArray := prog_1_method_14_code
def y_T_offset : MethodName := ⟨R_T, "offset", "(I)J"⟩
abbrev c_M_init : ByteArray := prog_8_method_1_code
def y_M_init : MethodName := ⟨R_M, "<init>", "()V"⟩
abbrev c_M_thrown : ByteArray := prog_8_method_2_code
def y_M_thrown : MethodName := ⟨R_M, "thrown", "()I"⟩
abbrev c_M_node : ByteArray := prog_8_method_11_code
def y_M_node : MethodName := ⟨R_M, "node", "(IIIIJ)I"⟩
abbrev c_M_byteSized : ByteArray := prog_8_method_10_code
def y_M_byteSized : MethodName := ⟨R_M, "byteSized", "(I)Z"⟩
abbrev c_M_findAll : ByteArray := prog_8_method_9_code
def y_M_findAll : MethodName := ⟨R_M, "findAll", "()V"⟩
abbrev c_M_find : ByteArray := prog_8_method_8_code
def y_M_find : MethodName := ⟨R_M, "find", "(I)V"⟩
abbrev c_M_ownOne : ByteArray := prog_8_method_3_code
def y_M_ownOne : MethodName := ⟨R_M, "ownOne", "(II)V"⟩
abbrev c_M_keptOne : ByteArray := prog_8_method_4_code
def y_M_keptOne : MethodName := ⟨R_M, "keptOne", "(I)V"⟩
abbrev c_M_turnRound : ByteArray := prog_8_method_5_code
def y_M_turnRound : MethodName := ⟨R_M, "turnRound", "()V"⟩
abbrev c_M_better : ByteArray := prog_8_method_6_code
def y_M_better : MethodName := ⟨R_M, "better", "()Z"⟩
abbrev c_M_toldOne : ByteArray := prog_8_method_7_code
def y_M_toldOne : MethodName := ⟨R_M, "toldOne", "(I)V"⟩
abbrev c_M_link : ByteArray := prog_8_method_15_code
def y_M_link : MethodName := ⟨R_M, "link", "(IIIIII)I"⟩
abbrev c_M_noPort : ByteArray := prog_8_method_13_code
def y_M_noPort : MethodName := ⟨R_M, "noPort", "(II)Z"⟩
abbrev c_M_noNode : ByteArray := prog_8_method_12_code
def y_M_noNode : MethodName := ⟨R_M, "noNode", "(I)Z"⟩
abbrev c_M_noDelay : ByteArray := prog_8_method_14_code
def y_M_noDelay : MethodName := ⟨R_M, "noDelay", "(I)Z"⟩
abbrev c_M_up : ByteArray := prog_8_method_16_code
def y_M_up : MethodName := ⟨R_M, "up", "(IZ)V"⟩
abbrev c_M_priority : ByteArray := prog_8_method_17_code
def y_M_priority : MethodName := ⟨R_M, "priority", "(II)V"⟩
abbrev c_M_round : ByteArray := prog_8_method_23_code
def y_M_round : MethodName := ⟨R_M, "round", "(I)I"⟩
abbrev c_M_pass : ByteArray := prog_8_method_22_code
def y_M_pass : MethodName := ⟨R_M, "pass", "()I"⟩
abbrev c_M_sendAll : ByteArray := prog_8_method_20_code
def y_M_sendAll : MethodName := ⟨R_M, "sendAll", "()I"⟩
abbrev c_M_across : ByteArray := prog_8_method_19_code
def y_M_across : MethodName := ⟨R_M, "across", "(I)I"⟩
abbrev c_M_endOf : ByteArray := prog_8_method_18_code
def y_M_endOf : MethodName := ⟨R_M, "endOf", "(I)I"⟩
abbrev c_M_hear : ByteArray := prog_8_method_21_code
def y_M_hear : MethodName := ⟨R_M, "hear", "(I)V"⟩
abbrev c_M_settle : ByteArray := prog_8_method_26_code
def y_M_settle : MethodName := ⟨R_M, "settle", "()I"⟩
abbrev c_M_remember : ByteArray := prog_8_method_24_code
def y_M_remember : MethodName := ⟨R_M, "remember", "()V"⟩
abbrev c_M_isAsBefore : ByteArray := prog_8_method_25_code
def y_M_isAsBefore : MethodName := ⟨R_M, "isAsBefore", "()Z"⟩
abbrev c_M_state : ByteArray := prog_8_method_27_code
def y_M_state : MethodName := ⟨R_M, "state", "(II)I"⟩
abbrev c_M_root : ByteArray := prog_8_method_28_code
def y_M_root : MethodName := ⟨R_M, "root", "(I)I"⟩
abbrev c_M_steps : ByteArray := prog_8_method_30_code
def y_M_steps : MethodName := ⟨R_M, "steps", "(I)I"⟩
abbrev c_M_stepsOf : ByteArray := prog_8_method_29_code
def y_M_stepsOf : MethodName := ⟨R_M, "stepsOf", "(I)I"⟩
abbrev c_M_kept : ByteArray := prog_8_method_31_code
def y_M_kept : MethodName := ⟨R_M, "kept", "(II)I"⟩
abbrev c_M_exchange : ByteArray := prog_8_method_37_code
def y_M_exchange : MethodName := ⟨R_M, "exchange", "(IJII)J"⟩
abbrev c_M_noRest : ByteArray := prog_8_method_35_code
def y_M_noRest : MethodName := ⟨R_M, "noRest", "(I)Z"⟩
abbrev c_M_canSwap : ByteArray := prog_8_method_36_code
def y_M_canSwap : MethodName := ⟨R_M, "canSwap", "(I)Z"⟩
abbrev c_M_swap : ByteArray := prog_8_method_34_code
def y_M_swap : MethodName := ⟨R_M, "swap", "(IJII)V"⟩
abbrev c_M_sum : ByteArray := prog_8_method_32_code
def y_M_sum : MethodName := ⟨R_M, "sum", "(JJ)J"⟩
abbrev c_M_difference : ByteArray := prog_8_method_33_code
def y_M_difference : MethodName := ⟨R_M, "difference", "(JJ)J"⟩
abbrev c_M_delay : ByteArray := prog_8_method_38_code
def y_M_delay : MethodName := ⟨R_M, "delay", "(I)J"⟩
abbrev c_M_offset : ByteArray := prog_8_method_39_code
def y_M_offset : MethodName := ⟨R_M, "offset", "(I)J"⟩
abbrev c_M_discipline : ByteArray := prog_8_method_40_code
def y_M_discipline : MethodName := ⟨R_M, "discipline", "(J)I"⟩
end
section
/-! the logical heap. A reference is a number q + 16 * a: the a-th object made of kind q. Kinds: 0 Dataset, 1 Port, 2 Node, 3 Link, 4 Reckoner, 5 ClockTree, 6 Model, 7 int[], 8 boolean[], 9 long[], 10 Node[], 11 Link[], 12 Port[]; 13 is the script. The state: how many of a kind there are, lengths of arrays, ints, longs, references by kind, number and place (of the field or the element). -/
abbrev HS : Type := (Nat → Nat) × (Nat → Nat → Nat) × (Nat → Nat → Nat → Int32) × (Nat → Nat → Nat → Int64) × (Nat → Nat → Nat → Option Nat)
def hn (σ : HS) : Nat → Nat := σ.1
def hl (σ : HS) : Nat → Nat → Nat := σ.2.1
def hI (σ : HS) : Nat → Nat → Nat → Int32 := σ.2.2.1
def hJ (σ : HS) : Nat → Nat → Nat → Int64 := σ.2.2.2.1
def hR (σ : HS) : Nat → Nat → Nat → Option Nat := σ.2.2.2.2
def up3 {α : Type} (g : Nat → Nat → Nat → α) (q a k : Nat) (v : α) : Nat → Nat → Nat → α := fun q' a' k' => if q' = q ∧ a' = a ∧ k' = k then v else g q' a' k'
def clr {α : Type} (g : Nat → Nat → Nat → α) (q a : Nat) (v : α) : Nat → Nat → Nat → α := fun q' a' k' => if q' = q ∧ a' = a then v else g q' a' k'
def sI (σ : HS) (q a k : Nat) (v : Int32) : HS := (σ.1, σ.2.1, up3 σ.2.2.1 q a k v, σ.2.2.2)
def sJ (σ : HS) (q a k : Nat) (v : Int64) : HS := (σ.1, σ.2.1, σ.2.2.1, up3 σ.2.2.2.1 q a k v, σ.2.2.2.2)
def sR (σ : HS) (q a k : Nat) (v : Option Nat) : HS := (σ.1, σ.2.1, σ.2.2.1, σ.2.2.2.1, up3 σ.2.2.2.2 q a k v)
def nw (σ : HS) (q n : Nat) : HS := (fun q' => if q' = q then σ.1 q + 1 else σ.1 q', fun q' a' => if q' = q ∧ a' = σ.1 q then n else σ.2.1 q' a', clr σ.2.2.1 q (σ.1 q) 0, clr σ.2.2.2.1 q (σ.1 q) 0, clr σ.2.2.2.2 q (σ.1 q) none)
section HSL
variable {σ : HS} {q a k n q' a' k' : Nat}
theorem n_sI {v : Int32} : hn (sI σ q a k v) = hn σ := rfl
theorem l_sI {v : Int32} : hl (sI σ q a k v) = hl σ := rfl
theorem I_sI {v : Int32} : hI (sI σ q a k v) q' a' k' = if q' = q ∧ a' = a ∧ k' = k then v else hI σ q' a' k' := rfl
theorem J_sI {v : Int32} : hJ (sI σ q a k v) = hJ σ := rfl
theorem R_sI {v : Int32} : hR (sI σ q a k v) = hR σ := rfl
theorem n_sJ {v : Int64} : hn (sJ σ q a k v) = hn σ := rfl
theorem l_sJ {v : Int64} : hl (sJ σ q a k v) = hl σ := rfl
theorem I_sJ {v : Int64} : hI (sJ σ q a k v) = hI σ := rfl
theorem J_sJ {v : Int64} : hJ (sJ σ q a k v) q' a' k' = if q' = q ∧ a' = a ∧ k' = k then v else hJ σ q' a' k' := rfl
theorem R_sJ {v : Int64} : hR (sJ σ q a k v) = hR σ := rfl
theorem n_sR {v : Option Nat} : hn (sR σ q a k v) = hn σ := rfl
theorem l_sR {v : Option Nat} : hl (sR σ q a k v) = hl σ := rfl
theorem I_sR {v : Option Nat} : hI (sR σ q a k v) = hI σ := rfl
theorem J_sR {v : Option Nat} : hJ (sR σ q a k v) = hJ σ := rfl
theorem R_sR {v : Option Nat} : hR (sR σ q a k v) q' a' k' = if q' = q ∧ a' = a ∧ k' = k then v else hR σ q' a' k' := rfl
theorem n_nw : hn (nw σ q n) q' = if q' = q then hn σ q + 1 else hn σ q' := rfl
theorem l_nw : hl (nw σ q n) q' a' = if q' = q ∧ a' = hn σ q then n else hl σ q' a' := rfl
theorem I_nw : hI (nw σ q n) q' a' k' = if q' = q ∧ a' = hn σ q then 0 else hI σ q' a' k' := rfl
theorem J_nw : hJ (nw σ q n) q' a' k' = if q' = q ∧ a' = hn σ q then 0 else hJ σ q' a' k' := rfl
theorem R_nw : hR (nw σ q n) q' a' k' = if q' = q ∧ a' = hn σ q then none else hR σ q' a' k' := rfl
end HSL
/-- there is an object of this number -/
def alN (n : Nat → Nat) (p : Nat) : Prop := p % 16 < 13 ∧ p / 16 < n (p % 16)
def al (σ : HS) (p : Nat) : Prop := alN (hn σ) p
theorem al_mk {σ : HS} {q a : Nat} (hq : q < 13) (h : a < hn σ q) : al σ (q + 16 * a) := by
  have h1 : (q + 16 * a) % 16 = q := by omega
  have h2 : (q + 16 * a) / 16 = a := by omega
  unfold al alN
  rw [h1, h2]
  exact ⟨hq, h⟩
theorem al_of {σ : HS} {q a : Nat} (hq : q < 16) (h : al σ (q + 16 * a)) : q < 13 ∧ a < hn σ q := by
  have h1 : (q + 16 * a) % 16 = q := by omega
  have h2 : (q + 16 * a) / 16 = a := by omega
  unfold al alN at h
  rw [h1, h2] at h
  exact h
def okv (σ : HS) : Value → Prop
  | .ref p => al σ p ∨ p = 13
  | _ => True
def okL (σ : HS) : List Value → Prop
  | [] => True
  | v :: r => okv σ v ∧ okL σ r
def okP (σ : HS) : List (Nat × Value) → Prop
  | [] => True
  | q :: r => okv σ q.2 ∧ okP σ r
def trV (ad : Nat → Nat) : Value → Value
  | .ref p => .ref (ad p)
  | v => v
abbrev trS (ad : Nat → Nat) (st : List Value) : List Value := st.map (trV ad)
abbrev trL (ad : Nat → Nat) (lv : List (Nat × Value)) : List (Nat × Value) := lv.map (fun q => (q.1, trV ad q.2))
theorem trV_cat (ad : Nat → Nat) (v : Value) : (trV ad v).category = v.category := by cases v <;> rfl
theorem trV_rf (ad : Nat → Nat) (r : Option Nat) : trV ad (va_rf r) = va_rf (r.map ad) := by cases r <;> rfl
/-- the codes of fields: 0 an int, 1 a long, 2 a reference -/
def fkT : FieldType → Nat
  | .int => 0
  | .boolean => 0
  | .long => 1
  | _ => 2
def fk (q k : Nat) : Nat := fkT (ttab q k)
def fv (ad : Nat → Nat) (σ : HS) (q a k : Nat) : Value := if fk q k = 0 then .int (hI σ q a k) else if fk q k = 1 then .long (hJ σ q a k) else va_rf ((hR σ q a k).map ad)
def nf (q : Nat) : Nat := match lcl[q]? with
  | some r => r.2.2
  | none => 0
def lc (cA : Nat → ClassId) (ad : Nat → Nat) (σ : HS) (p : Nat) : va_E :=
  if p % 16 < 7 then .inr (p % 16, (List.range (nf (p % 16))).map (fv ad σ (p % 16) (p / 16)))
  else .inl (cA (p % 16 - 7), hl σ (p % 16) (p / 16), if p % 16 < 9 then .inl (hI σ (p % 16) (p / 16)) else if p % 16 = 9 then .inr (.inl (hJ σ (p % 16) (p / 16))) else .inr (.inr (.inr (.inr (fun k => (hR σ (p % 16) (p / 16) k).map ad)))))
theorem lc_same {cA : Nat → ClassId} {ad ad' : Nat → Nat} {σ σ' : HS} {p : Nat} (h1 : ∀ k, hI σ' (p % 16) (p / 16) k = hI σ (p % 16) (p / 16) k) (h2 : ∀ k, hJ σ' (p % 16) (p / 16) k = hJ σ (p % 16) (p / 16) k)
    (h3 : ∀ k, (hR σ' (p % 16) (p / 16) k).map ad' = (hR σ (p % 16) (p / 16) k).map ad) (h4 : hl σ' (p % 16) (p / 16) = hl σ (p % 16) (p / 16)) : lc cA ad' σ' p = lc cA ad σ p := by
  have e1 : hI σ' (p % 16) (p / 16) = hI σ (p % 16) (p / 16) := funext h1
  have e2 : hJ σ' (p % 16) (p / 16) = hJ σ (p % 16) (p / 16) := funext h2
  have e3 : (fun k => (hR σ' (p % 16) (p / 16) k).map ad') = (fun k => (hR σ (p % 16) (p / 16) k).map ad) := funext h3
  have e5 : fv ad' σ' (p % 16) (p / 16) = fv ad σ (p % 16) (p / 16) := funext fun k => by unfold fv; rw [h1 k, h2 k, h3 k]
  unfold lc
  rw [e5, h4, e1, e2, e3]
abbrev LG : Type := va_G × (Nat → ClassId) × Nat
/-- the heap holds the state: each object in a cell of its own, from B on; references go to objects -/
def LW (G : LG) (B : Nat) (ad : Nat → Nat) (σ : HS) (H : Heap) : Prop :=
  (∀ p, al σ p → va_at G.1 lcl (ad p, lc G.2.1 ad σ p) H ∧ B ≤ ad p) ∧ (∀ p p', al σ p → al σ p' → ad p = ad p' → p = p') ∧ (∀ p k p', al σ p → hR σ (p % 16) (p / 16) k = some p' → al σ p') ∧ ad 13 = G.2.2
theorem lc_obj {cA : Nat → ClassId} {ad : Nat → Nat} {σ : HS} {q a : Nat} (hq : q < 7) : lc cA ad σ (q + 16 * a) = .inr (q, (List.range (nf q)).map (fv ad σ q a)) := by
  have h1 : (q + 16 * a) % 16 = q := by omega
  have h2 : (q + 16 * a) / 16 = a := by omega
  unfold lc
  rw [h1, h2, if_pos hq]
theorem lc_arI {cA : Nat → ClassId} {ad : Nat → Nat} {σ : HS} {q a : Nat} (hq : 7 ≤ q ∧ q < 9) : lc cA ad σ (q + 16 * a) = .inl (cA (q - 7), hl σ q a, .inl (hI σ q a)) := by
  have h1 : (q + 16 * a) % 16 = q := by omega
  have h2 : (q + 16 * a) / 16 = a := by omega
  unfold lc
  rw [h1, h2, if_neg (by omega), if_pos hq.2]
theorem lc_arJ {cA : Nat → ClassId} {ad : Nat → Nat} {σ : HS} {a : Nat} : lc cA ad σ (9 + 16 * a) = .inl (cA 2, hl σ 9 a, .inr (.inl (hJ σ 9 a))) := by
  have h1 : (9 + 16 * a) % 16 = 9 := by omega
  have h2 : (9 + 16 * a) / 16 = a := by omega
  unfold lc
  rw [h1, h2]
  rfl
theorem lc_arR {cA : Nat → ClassId} {ad : Nat → Nat} {σ : HS} {q a : Nat} (hq : 10 ≤ q ∧ q < 13) : lc cA ad σ (q + 16 * a) = .inl (cA (q - 7), hl σ q a, .inr (.inr (.inr (.inr (fun k => (hR σ q a k).map ad))))) := by
  have h1 : (q + 16 * a) % 16 = q := by omega
  have h2 : (q + 16 * a) / 16 = a := by omega
  unfold lc
  rw [h1, h2, if_neg (by omega), if_neg (by omega), if_neg (by omega)]
theorem nf_of {q : Nat} {r : vw_C} (h : lcl[q]? = some r) : nf q = r.2.2 := by
  unfold nf
  rw [h]
theorem vp_V_map {f : Nat → Value} {N k : Nat} (h : k < N) : vp_V ((List.range N).map f) k = f k := by
  simp [vp_V, h]
theorem LW.obj {G : LG} {B : Nat} {ad : Nat → Nat} {σ : HS} {H : Heap} (h : LW G B ad σ H) {q a : Nat} {r : vw_C} (hp : al σ (q + 16 * a)) (hq : q < 7) (hc : lcl[q]? = some r) :
    ∃ cell : Cell, H[ad (q + 16 * a)]? = some cell ∧ cell.cls = G.1.1 q ∧ cell.vm = .none ∧ ∀ k, k < r.2.2 → cell.slots[G.1.2 q k]? = some (fv ad σ q a k) := by
  obtain ⟨h1, -⟩ := h.1 _ hp
  rw [lc_obj hq] at h1
  obtain ⟨r', h2, cell, g1, g2, g3, g4⟩ := h1
  have hr : r' = r := Option.some.inj (h2.symm.trans hc)
  subst hr
  refine ⟨cell, g1, g2, g3, fun k hk => ?_⟩
  rw [g4 k hk]
  show some (vp_V ((List.range (nf q)).map (fv ad σ q a)) k) = _
  rw [nf_of hc, vp_V_map hk]
theorem LW.mkobj {G : LG} {ad : Nat → Nat} {σ : HS} {H : Heap} {q a : Nat} {r : vw_C} (hq : q < 7) (hc : lcl[q]? = some r) {cell : Cell} (g1 : H[ad (q + 16 * a)]? = some cell) (g2 : cell.cls = G.1.1 q) (g3 : cell.vm = .none) (g4 : ∀ k, k < r.2.2 → cell.slots[G.1.2 q k]? = some (fv ad σ q a k)) :
    va_at G.1 lcl (ad (q + 16 * a), lc G.2.1 ad σ (q + 16 * a)) H := by
  rw [lc_obj hq]
  refine ⟨r, hc, cell, g1, g2, g3, fun k hk => ?_⟩
  rw [g4 k hk]
  show _ = some (vp_V ((List.range (nf q)).map (fv ad σ q a)) k)
  rw [nf_of hc, vp_V_map hk]
theorem LW.arI {G : LG} {B : Nat} {ad : Nat → Nat} {σ : HS} {H : Heap} (h : LW G B ad σ H) {q a : Nat} (hp : al σ (q + 16 * a)) (hq : 7 ≤ q ∧ q < 9) : H[ad (q + 16 * a)]? = some (arrV (G.2.1 (q - 7)) (hl σ q a) (fun j => .int (hI σ q a j))) := by
  obtain ⟨h1, -⟩ := h.1 _ hp
  rw [lc_arI hq] at h1
  exact h1
theorem LW.arJ {G : LG} {B : Nat} {ad : Nat → Nat} {σ : HS} {H : Heap} (h : LW G B ad σ H) {a : Nat} (hp : al σ (9 + 16 * a)) : H[ad (9 + 16 * a)]? = some (arrV (G.2.1 2) (hl σ 9 a) (fun j => .long (hJ σ 9 a j))) := by
  obtain ⟨h1, -⟩ := h.1 _ hp
  rw [lc_arJ] at h1
  exact h1
theorem LW.arR {G : LG} {B : Nat} {ad : Nat → Nat} {σ : HS} {H : Heap} (h : LW G B ad σ H) {q a : Nat} (hp : al σ (q + 16 * a)) (hq : 10 ≤ q ∧ q < 13) : H[ad (q + 16 * a)]? = some (arrV (G.2.1 (q - 7)) (hl σ q a) (fun j => va_rf ((hR σ q a j).map ad))) := by
  obtain ⟨h1, -⟩ := h.1 _ hp
  rw [lc_arR hq] at h1
  exact h1
/-- one object's cell is written -/
theorem LW.set {G : LG} {B : Nat} {ad : Nat → Nat} {σ σ' : HS} {H H1 : Heap} {p : Nat} (h : LW G B ad σ H) (hp : al σ p) (hn' : hn σ' = hn σ) (ho : ∀ q : Nat, q ≠ ad p → H1[q]? = H[q]?) (hc : va_at G.1 lcl (ad p, lc G.2.1 ad σ' p) H1)
    (hj : ∀ p', p' ≠ p → lc G.2.1 ad σ' p' = lc G.2.1 ad σ p') (hr : ∀ p1 k p2, al σ p1 → hR σ' (p1 % 16) (p1 / 16) k = some p2 → al σ p2) : LW G B ad σ' H1 := by
  have ha : ∀ x, al σ' x = al σ x := fun x => by unfold al; rw [hn']
  refine ⟨fun x hx => ?_, fun x y hx hy => ?_, fun x k y hx => ?_, h.2.2.2⟩
  · rw [ha] at hx
    by_cases e : x = p
    · subst e; exact ⟨hc, (h.1 x hx).2⟩
    · rw [hj x e]; exact ⟨(h.1 x hx).1.kept (ho _ (fun z => e (h.2.1 x p hx hp z))), (h.1 x hx).2⟩
  · rw [ha] at hx hy; exact h.2.1 x y hx hy
  · rw [ha] at hx; rw [ha]; exact hr x k y hx
theorem lc_sI {cA : Nat → ClassId} {ad : Nat → Nat} {σ : HS} {q a k p' : Nat} {v : Int32} (h : p' ≠ q + 16 * a) : lc cA ad (sI σ q a k v) p' = lc cA ad σ p' :=
  lc_same (fun k' => by rw [I_sI, if_neg (fun z => h (by omega))]) (fun _ => rfl) (fun _ => rfl) rfl
theorem lc_sJ {cA : Nat → ClassId} {ad : Nat → Nat} {σ : HS} {q a k p' : Nat} {v : Int64} (h : p' ≠ q + 16 * a) : lc cA ad (sJ σ q a k v) p' = lc cA ad σ p' :=
  lc_same (fun _ => rfl) (fun k' => by rw [J_sJ, if_neg (fun z => h (by omega))]) (fun _ => rfl) rfl
theorem lc_sR {cA : Nat → ClassId} {ad : Nat → Nat} {σ : HS} {q a k p' : Nat} {v : Option Nat} (h : p' ≠ q + 16 * a) : lc cA ad (sR σ q a k v) p' = lc cA ad σ p' :=
  lc_same (fun _ => rfl) (fun _ => rfl) (fun k' => by rw [R_sR, if_neg (fun z => h (by omega))]) rfl
theorem LW.clR {G : LG} {B : Nat} {ad : Nat → Nat} {σ : HS} {H : Heap} {q a k : Nat} {v : Option Nat} (h : LW G B ad σ H) (hv : ∀ p, v = some p → al σ p) : ∀ p1 k1 p2, al σ p1 → hR (sR σ q a k v) (p1 % 16) (p1 / 16) k1 = some p2 → al σ p2 := by
  intro p1 k1 p2 h1 h2
  rw [R_sR] at h2
  split at h2
  · exact hv p2 h2
  · exact h.2.2.1 p1 k1 p2 h1 h2
/-- objects that were there keep their addresses -/
def ext (n0 : Nat → Nat) (ad0 : Nat → Nat) (n : Nat → Nat) (ad : Nat → Nat) : Prop := (∀ q, n0 q ≤ n q) ∧ ∀ p, alN n0 p → ad p = ad0 p
theorem ext.rf {n : Nat → Nat} {ad : Nat → Nat} : ext n ad n ad := ⟨fun _ => Nat.le_refl _, fun _ _ => rfl⟩
theorem alN.mono {n n' : Nat → Nat} (h : ∀ q, n q ≤ n' q) {p : Nat} (hp : alN n p) : alN n' p := ⟨hp.1, Nat.lt_of_lt_of_le hp.2 (h _)⟩
theorem ext.trans {n0 n1 n2 : Nat → Nat} {ad0 ad1 ad2 : Nat → Nat} (h : ext n0 ad0 n1 ad1) (h' : ext n1 ad1 n2 ad2) : ext n0 ad0 n2 ad2 :=
  ⟨fun q => Nat.le_trans (h.1 q) (h'.1 q), fun p hp => (h'.2 p (hp.mono h.1)).trans (h.2 p hp)⟩
theorem okv.mono {σ σ' : HS} (h : ∀ q, hn σ q ≤ hn σ' q) : ∀ {v : Value}, okv σ v → okv σ' v := by
  intro v hv
  cases v with
  | ref p => exact hv.elim (fun z => Or.inl (alN.mono h z)) Or.inr
  | _ => trivial
theorem okL.mono {σ σ' : HS} (h : ∀ q, hn σ q ≤ hn σ' q) : ∀ {st : List Value}, okL σ st → okL σ' st
  | [], _ => trivial
  | _ :: _, hs => ⟨okv.mono h hs.1, okL.mono h hs.2⟩
theorem okP.mono {σ σ' : HS} (h : ∀ q, hn σ q ≤ hn σ' q) : ∀ {st : List (Nat × Value)}, okP σ st → okP σ' st
  | [], _ => trivial
  | _ :: _, hs => ⟨okv.mono h hs.1, okP.mono h hs.2⟩
theorem trV_ext {σ : HS} {ad ad' n' : Nat → Nat} (h : ext (hn σ) ad n' ad') (h13 : ad' 13 = ad 13) {v : Value} (hv : okv σ v) : trV ad' v = trV ad v := by
  cases v with
  | ref p =>
    show Value.ref (ad' p) = Value.ref (ad p)
    rcases hv with z | z
    · rw [h.2 p z]
    · rw [z, h13]
  | _ => rfl
theorem trS_ext {σ : HS} {ad ad' n' : Nat → Nat} (h : ext (hn σ) ad n' ad') (h13 : ad' 13 = ad 13) : ∀ {st : List Value}, okL σ st → trS ad' st = trS ad st
  | [], _ => rfl
  | v :: r, hs => by
    show trV ad' v :: trS ad' r = trV ad v :: trS ad r
    rw [trV_ext h h13 hs.1, trS_ext h h13 hs.2]
theorem trL_ext {σ : HS} {ad ad' n' : Nat → Nat} (h : ext (hn σ) ad n' ad') (h13 : ad' 13 = ad 13) : ∀ {lv : List (Nat × Value)}, okP σ lv → trL ad' lv = trL ad lv
  | [], _ => rfl
  | q :: r, hs => by
    show (q.1, trV ad' q.2) :: trL ad' r = (q.1, trV ad q.2) :: trL ad r
    rw [trV_ext h h13 hs.1, trL_ext h h13 hs.2]
/-- a new object at the heap's end -/
theorem LW.new {G : LG} {B : Nat} {ad : Nat → Nat} {σ : HS} {H H1 : Heap} {q n h : Nat} (hw : LW G B ad σ H) (hq : q < 13) (hh : H.size = h) (hB : B ≤ h) (o1 : ∀ x : Nat, x < h → H1[x]? = H[x]?)
    (hc : ∀ ad' : Nat → Nat, ad' (q + 16 * hn σ q) = h → va_at G.1 lcl (ad' (q + 16 * hn σ q), lc G.2.1 ad' (nw σ q n) (q + 16 * hn σ q)) H1) :
    ∃ ad' : Nat → Nat, ext (hn σ) ad (hn (nw σ q n)) ad' ∧ LW G B ad' (nw σ q n) H1 ∧ ad' (q + 16 * hn σ q) = h ∧ al (nw σ q n) (q + 16 * hn σ q) := by
  have hm : ∀ q', hn σ q' ≤ hn (nw σ q n) q' := fun q' => by
    rw [n_nw]; split
    · rename_i e; rw [e]; omega
    · exact Nat.le_refl _
  have hid : al (nw σ q n) (q + 16 * hn σ q) := al_mk hq (by rw [n_nw, if_pos rfl]; omega)
  have hnot : ∀ p, al σ p → p ≠ q + 16 * hn σ q := fun p hp e => by
    rw [e] at hp
    have := (al_of (by omega) hp).2
    omega
  have hal : ∀ p, al (nw σ q n) p → al σ p ∨ p = q + 16 * hn σ q := fun p hp => by
    obtain ⟨z1, z2⟩ := hp
    rw [n_nw] at z2
    by_cases e : p % 16 = q
    · rw [if_pos e] at z2
      by_cases e2 : p / 16 = hn σ q
      · exact Or.inr (by omega)
      · exact Or.inl ⟨z1, by rw [e]; omega⟩
    · rw [if_neg e] at z2; exact Or.inl ⟨z1, z2⟩
  refine ⟨fun p => if p = q + 16 * hn σ q then h else ad p, ⟨hm, fun p hp => if_neg (hnot p hp)⟩, ⟨fun p hp => ?_, fun p p' hp hp' e => ?_, fun p k p' hp hr => ?_, ?_⟩, if_pos rfl, hid⟩
  · rcases hal p hp with z | z
    · have e1 : lc G.2.1 (fun p => if p = q + 16 * hn σ q then h else ad p) (nw σ q n) p = lc G.2.1 ad σ p := by
        have hne := hnot p z
        have hd : ¬ (p % 16 = q ∧ p / 16 = hn σ q) := fun y => hne (by omega)
        refine lc_same (fun k => by rw [I_nw, if_neg hd]) (fun k => by rw [J_nw, if_neg hd]) (fun k => ?_) (by rw [l_nw, if_neg hd])
        rw [R_nw, if_neg hd]
        cases hr : hR σ (p % 16) (p / 16) k with
        | none => rfl
        | some p2 => simp [hnot p2 (hw.2.2.1 p k p2 z hr)]
      show va_at G.1 lcl ((if p = q + 16 * hn σ q then h else ad p), lc G.2.1 (fun p => if p = q + 16 * hn σ q then h else ad p) (nw σ q n) p) H1 ∧ B ≤ (if p = q + 16 * hn σ q then h else ad p)
      rw [e1, if_neg (hnot p z)]
      have hz := (hw.1 p z).1.lt
      exact ⟨(hw.1 p z).1.kept (o1 _ (by rw [← hh]; exact hz)), (hw.1 p z).2⟩
    · subst z
      exact ⟨hc (fun p => if p = q + 16 * hn σ q then h else ad p) (if_pos rfl), by show B ≤ (if _ then h else _); rw [if_pos rfl]; exact hB⟩
  · have hlt : ∀ x, al σ x → ad x < h := fun x hx => by rw [← hh]; exact (hw.1 x hx).1.lt
    have e' : (if p = q + 16 * hn σ q then h else ad p) = (if p' = q + 16 * hn σ q then h else ad p') := e
    rcases hal p hp with z | z <;> rcases hal p' hp' with z' | z'
    · rw [if_neg (hnot p z), if_neg (hnot p' z')] at e'; exact hw.2.1 p p' z z' e'
    · rw [if_neg (hnot p z), if_pos z'] at e'; have := hlt p z; omega
    · rw [if_pos z, if_neg (hnot p' z')] at e'; have := hlt p' z'; omega
    · rw [z, z']
  · rw [R_nw] at hr
    rcases hal p hp with z | z
    · have hd : ¬ (p % 16 = q ∧ p / 16 = hn σ q) := fun y => hnot p z (by omega)
      rw [if_neg hd] at hr
      exact alN.mono hm (hw.2.2.1 p k p' z hr)
    · rw [if_pos (by omega)] at hr; cases hr
  · show (if 13 = q + 16 * hn σ q then h else ad 13) = G.2.2
    rw [if_neg (by omega)]; exact hw.2.2.2
theorem dfl_ok : ∀ (q : Nat) (r : vw_C), lcl[q]? = some r → ∀ k, k < r.2.2 → defaultValue (ttab q k) = (if fk q k = 0 then .int 0 else if fk q k = 1 then .long 0 else .null) := by
  intro q r h
  match q, h with
  | 0, h => cases h; exact (by decide +kernel : ∀ k, k < 8 → defaultValue (ttab 0 k) = (if fk 0 k = 0 then .int 0 else if fk 0 k = 1 then .long 0 else .null))
  | 1, h => cases h; exact (by decide +kernel : ∀ k, k < 8 → defaultValue (ttab 1 k) = (if fk 1 k = 0 then .int 0 else if fk 1 k = 1 then .long 0 else .null))
  | 2, h => cases h; exact (by decide +kernel : ∀ k, k < 6 → defaultValue (ttab 2 k) = (if fk 2 k = 0 then .int 0 else if fk 2 k = 1 then .long 0 else .null))
  | 3, h => cases h; exact (by decide +kernel : ∀ k, k < 5 → defaultValue (ttab 3 k) = (if fk 3 k = 0 then .int 0 else if fk 3 k = 1 then .long 0 else .null))
  | 4, h => cases h; exact (by decide +kernel : ∀ k, k < 12 → defaultValue (ttab 4 k) = (if fk 4 k = 0 then .int 0 else if fk 4 k = 1 then .long 0 else .null))
  | 5, h => cases h; exact (by decide +kernel : ∀ k, k < 6 → defaultValue (ttab 5 k) = (if fk 5 k = 0 then .int 0 else if fk 5 k = 1 then .long 0 else .null))
  | 6, h => cases h; exact (by decide +kernel : ∀ k, k < 28 → defaultValue (ttab 6 k) = (if fk 6 k = 0 then .int 0 else if fk 6 k = 1 then .long 0 else .null))
  | n + 7, h => simp at h
end
section
/-! the judgement Ex: from every machine state that holds this place, these locals, this stack and this logical heap, the method comes to its end, by PM -/
abbrev LO : Type := Nat ⊕ Option Value
/-- a method: name, bytes, locals, what it returns, its room, its table (none: not known) -/
abbrev MI : Type := MethodName × ByteArray × Nat × Option FieldType × Room × Option (List (Nat × Nat × Nat × Nat))
def wcM (M : MI) : Cond := match M.2.2.2.2.2 with
  | some (h :: t) => .codeWith M.1 M.2.1 M.2.2.1 M.2.2.2.1 (h :: t)
  | _ => .code M.1 M.2.1 M.2.2.1 M.2.2.2.1
def wsM (M : MI) : List Cond := wcM M :: gt
abbrev tyA (cA : Nat → ClassId) : List (ClassId × FieldType) := [(cA 0, .int), (cA 1, .boolean), (cA 2, .long), (cA 3, .object R_N), (cA 4, .object R_K), (cA 5, .object R_P)]
def nwOk : Cond → Bool
  | .methodLinkNest .. => true
  | .castable .. => true
  | .declares _ => true
  | _ => false
theorem nw_on {w : Cond} (h : nwOk w = true) : w.onTables = true := by
  cases w <;> first | rfl | cases h
theorem nw_warm {w : Cond} (h : nwOk w = true) {s U : State} (hW : s.WarmedH U.vm) (hZ : va_Nw w s) : va_Nw w U := by
  cases w <;> first | exact va_Nw.warmM hW hZ | exact va_Nw.warmC hW hZ | exact va_Nw.warmD hW hZ | cases h
theorem nstT_ok : ∀ x ∈ nstT, nwOk x = true := by decide +kernel
def aoT : List String := [R_N, R_K, R_P]
def ZS (B : Nat) (s : State) : Prop := vx_Zq Bundle.tN "UNASSIGNED_STACK" Bundle.steD (fun q => B ≤ q) s s.heap ∧ vx_Zq Bundle.tN "SUPPRESSED_SENTINEL" Bundle.listD (fun q => B ≤ q) s s.heap ∧
  (∀ x ∈ nstT, va_Nw x s) ∧ (∀ x ∈ strT, ∃ sa, vk_R x.1 x.2.1 x.2.2 sa s) ∧ ∀ C ∈ aoT, va_AO C s
theorem ZS.call {B : Nat} {s U : State} {H : Heap} {locs : List Loc} (h : ZS B s) (hS : va_S (fun q => B ≤ q) s.heap H locs) (hU : U.heap = H) (hW : s.WarmedH U.vm) : ZS B U :=
  ⟨by rw [hU]; exact vx_Zq.moved hW.alike (h.1.kept hS.2.1), by rw [hU]; exact vx_Zq.moved hW.alike (h.2.1.kept hS.2.1), fun x hx => nw_warm (nstT_ok x hx) hW (h.2.2.1 x hx), fun x hx => by obtain ⟨sa, hs⟩ := h.2.2.2.1 x hx; exact ⟨sa, vk_R.warm hW hs⟩, fun C hC => (h.2.2.2.2 C hC).moved hW.alike⟩
def CX (l : Launch) (G : LG) (M : MI) (p : Program) (s : State) (m : MethodId) (args : Array Value) (meth : Method) (c : Code) (B : Nat) : Prop :=
  CallFix p m c M.2.1 M.2.2.1 s args gt M.1.cls ∧ meth.sig.returnType = M.2.2.2.1 ∧ meth.locks = false ∧ meth.name = M.1.name ∧ (∀ hh, M.2.2.2.2.2 = some hh → c.exceptionTable.toList = tableOf hh) ∧ B ≤ s.heap.size ∧ va_K G.1 lcl (tyA G.2.1) s ∧ ZS B s ∧ l.stackTraces = false
def okO (σ : HS) : Option Value → Prop
  | none => True
  | some v => okv σ v
/-- the exceptions, by numbers -/
def xn : Nat → String
  | 0 => "java/lang/IllegalArgumentException"
  | 1 => "java/lang/IllegalStateException"
  | _ => "java/lang/ArithmeticException"
def QC (G : LG) (B : Nat) (n0 ad0 : Nat → Nat) (Q : LO → HS → Prop) : Array Value → State → Outcome → State → Prop := fun _ st oc t =>
  (∃ (v : Option Value) (σ' : HS) (ad' : Nat → Nat), oc = .returned (v.map (trV ad')) ∧ Q (.inr v) σ' ∧ LW G B ad' σ' t.heap ∧ ext n0 ad0 (hn σ') ad' ∧ okO σ' v) ∧ va_F (fun q => B ≤ q) st t
def XQ (G : LG) (B : Nat) (n0 ad0 : Nat → Nat) (Q : LO → HS → Prop) : String → State → State → Prop := fun E st t =>
  (∃ (k : Nat) (σ' : HS) (ad' : Nat → Nat), E = xn k ∧ Q (.inl k) σ' ∧ LW G B ad' σ' t.heap ∧ ext n0 ad0 (hn σ') ad') ∧ va_F (fun q => B ≤ q) st t
abbrev LPM : Type := List Frame → Array Value → State → Nat → (Nat → Nat) → (Nat → Nat) → State → Prop
def pmV (G : LG) (M : MI) (Q : LO → HS → Prop) : LPM := fun below args s B n0 ad0 => vx_MQ below (QC G B n0 ad0 Q) (XQ G B n0 ad0 Q) args s M.2.2.2.2.1.cells M.2.2.2.2.1.slots (fun q => B ≤ q)
def Ex (l : Launch) (G : LG) (M : MI) (PM : LPM) (pc : Nat) (lv : List (Nat × Value)) (st : List Value) (σ : HS) (mc ms : Nat) : Prop :=
  ∀ (p : Program) (e : Env) (s : State) (m : MethodId) (args : Array Value) (below : List Frame) (meth : Method) (c : Code) (B : Nat) (ad n0 ad0 : Nat → Nat) (H : Heap) (locs : List Loc) (ls : Array Slot) (cells slots : Nat),
    CX l G M p s m args meth c B → ext n0 ad0 (hn σ) ad → LW G B ad σ H → va_S (fun q => B ≤ q) s.heap H locs → lv_has ls M.2.2.1 (trL ad lv) → okP σ lv → okL σ st → cells + mc ≤ M.2.2.2.2.1.cells → slots + ms ≤ M.2.2.2.2.1.slots →
    W p l e M.2.2.2.2.1 s m args below meth c H locs cells slots (PM below args s B n0 ad0) (F0 m pc ls (trS ad st))
theorem trL_lk {ad : Nat → Nat} {ls : Array Slot} {nL : Nat} {lv : List (Nat × Value)} (h : lv_has ls nL (trL ad lv)) {i : Nat} {v : Value} (hk : lv.lookup i = some v) : ls[i]? = some (.val (trV ad v)) := by
  refine h.2.2 (i, trV ad v) ?_
  clear h
  induction lv with
  | nil => simp at hk
  | cons q r ih =>
    obtain ⟨a, b⟩ := q
    rw [List.lookup_cons] at hk
    by_cases e : i = a
    · subst e; simp at hk; subst hk; exact List.mem_cons_self
    · have e2 : (i == a) = false := by simp [e]
      rw [e2] at hk; exact List.mem_cons_of_mem _ (ih hk)
theorem okP_lk {σ : HS} : ∀ {lv : List (Nat × Value)}, okP σ lv → ∀ {i : Nat} {v : Value}, lv.lookup i = some v → okv σ v
  | [], _, i, v, hk => by simp at hk
  | (a, b) :: r, h, i, v, hk => by
    rw [List.lookup_cons] at hk
    by_cases e : i = a
    · subst e; simp at hk; subst hk; exact h.1
    · have e2 : (i == a) = false := by simp [e]
      rw [e2] at hk; exact okP_lk h.2 hk
theorem okP_fi {σ : HS} {f : Nat × Value → Bool} : ∀ {lv : List (Nat × Value)}, okP σ lv → okP σ (lv.filter f)
  | [], _ => trivial
  | q :: r, h => by
    rw [List.filter_cons]
    split
    · exact ⟨h.1, okP_fi h.2⟩
    · exact okP_fi h.2
def lsub (lv : List (Nat × Value)) : List (Nat × Value) → Prop
  | [] => True
  | q :: r => lv.lookup q.1 = some q.2 ∧ lsub lv r
theorem lsub_has {ad : Nat → Nat} {ls : Array Slot} {nL : Nat} {lv : List (Nat × Value)} (h : lv_has ls nL (trL ad lv)) : ∀ (lv' : List (Nat × Value)), lsub lv lv' → lv_has ls nL (trL ad lv')
  | [], _ => ⟨h.1, h.2.1, fun _ hq => by cases hq⟩
  | q :: r, hs => ⟨h.1, h.2.1, fun x hx => by
      rcases List.mem_cons.mp (show x ∈ (q.1, trV ad q.2) :: trL ad r from hx) with e | e
      · rw [e]; exact trL_lk h hs.1
      · exact (lsub_has h r hs.2).2.2 x e⟩
theorem lsub_ok {σ : HS} {lv : List (Nat × Value)} (h : okP σ lv) : ∀ (lv' : List (Nat × Value)), lsub lv lv' → okP σ lv'
  | [], _ => trivial
  | _ :: r, hs => ⟨okP_lk h hs.1, lsub_ok h r hs.2⟩
def lst (i : Nat) (v : Value) (lv : List (Nat × Value)) : List (Nat × Value) := (i, v) :: lv.filter (fun q => !(q.1 == i) && !(q.1 + 1 == i && q.2.category == 2))
def lst2 (i : Nat) (v : Value) (lv : List (Nat × Value)) : List (Nat × Value) := (i, v) :: lv.filter (fun q => !(q.1 == i) && (!(q.1 == i + 1) && !(q.1 + 1 == i && q.2.category == 2)))
theorem trL_fi {ad : Nat → Nat} {f : Nat × Value → Bool} (hf : ∀ q : Nat × Value, f (q.1, trV ad q.2) = f q) : ∀ (lv : List (Nat × Value)), (trL ad lv).filter f = trL ad (lv.filter f)
  | [] => rfl
  | q :: r => by
    show ((q.1, trV ad q.2) :: trL ad r).filter f = trL ad ((q :: r).filter f)
    rw [List.filter_cons, List.filter_cons, hf q, trL_fi hf r]
    split <;> rfl
theorem trL_st {ad : Nat → Nat} {i : Nat} {v w : Value} {lv : List (Nat × Value)} (hv : trV ad v = w) : (i, w) :: (trL ad lv).filter (fun q => !(q.1 == i) && !(q.1 + 1 == i && q.2.category == 2)) = trL ad (lst i v lv) := by
  rw [trL_fi (fun q => by simp only [trV_cat]) lv, ← hv]; rfl
theorem trL_st2 {ad : Nat → Nat} {i : Nat} {v w : Value} {lv : List (Nat × Value)} (hv : trV ad v = w) : (i, w) :: (trL ad lv).filter (fun q => !(q.1 == i) && (!(q.1 == i + 1) && !(q.1 + 1 == i && q.2.category == 2))) = trL ad (lst2 i v lv) := by
  rw [trL_fi (fun q => by simp only [trV_cat]) lv, ← hv]; rfl
theorem okR {σ : HS} {q a : Nat} (hq : q < 13) (h : okv σ (.ref (q + 16 * a))) : al σ (q + 16 * a) := by
  rcases (show al σ (q + 16 * a) ∨ q + 16 * a = 13 from h) with h | h
  · exact h
  · omega
theorem nb_ok {x : Int32} (h : x = 0 ∨ x = 1) : narrow .boolean (.int x) = .int x := by rcases h with rfl | rfl <;> rfl
theorem fb_ok {x : Int32} (h : x = 0 ∨ x = 1) : fits .boolean (.int x) = true := by rcases h with rfl | rfl <;> rfl
theorem fv_I {ad : Nat → Nat} {σ : HS} {q a k : Nat} (h : fk q k = 0) : fv ad σ q a k = .int (hI σ q a k) := if_pos h
theorem fv_J {ad : Nat → Nat} {σ : HS} {q a k : Nat} (h : fk q k = 1) : fv ad σ q a k = .long (hJ σ q a k) := by
  unfold fv
  rw [if_neg (by rw [h]; decide), if_pos h]
theorem fv_R {ad : Nat → Nat} {σ : HS} {q a k : Nat} (h : fk q k = 2) : fv ad σ q a k = va_rf ((hR σ q a k).map ad) := by
  unfold fv
  rw [if_neg (by rw [h]; decide), if_neg (by rw [h]; decide)]
/-- a field's link in the constant pool of the class own -/
def FL (own : String) (idx : Nat) (r : vw_C) (k : Nat) : Prop := Cond.fieldLink own idx r.1 (r.2.1 k).2.1 (r.2.1 k).2.2.1 ∈ gt ∧ (r.2.1 k).1 = r.1
section ER
variable {l : Launch} {G : LG} {M : MI} {PM : LPM} {Q : LO → HS → Prop} {pc : Nat} {lv : List (Nat × Value)} {st : List Value} {σ : HS} {mc ms : Nat}
theorem e_lv {lv' : List (Nat × Value)} (h : lsub lv lv') (k : Ex l G M PM pc lv' st σ mc ms) : Ex l G M PM pc lv st σ mc ms := fun p e s m args below meth c B ad n0 ad0 H locs ls cells slots hC he hw hS hv hP hL hc hs => (k p e s m args below meth c B ad n0 ad0 H locs ls cells slots hC he hw hS (lsub_has hv lv' h) (lsub_ok hP lv' h) hL hc hs)
theorem e_bg {mc' ms' : Nat} (h1 : mc' ≤ mc) (h2 : ms' ≤ ms) (k : Ex l G M PM pc lv st σ mc' ms') : Ex l G M PM pc lv st σ mc ms := fun p e s m args below meth c B ad n0 ad0 H locs ls cells slots hC he hw hS hv hP hL hc hs => k p e s m args below meth c B ad n0 ad0 H locs ls cells slots hC he hw hS hv hP hL (Nat.le_trans (Nat.add_le_add_left h1 _) hc) (Nat.le_trans (Nat.add_le_add_left h2 _) hs)
theorem e_pc {pc' : Nat} (h : pc = pc') (k : Ex l G M PM pc' lv st σ mc ms) : Ex l G M PM pc lv st σ mc ms := h ▸ k
theorem e_iconst {n : Int} {v : Int32} (hd : decode M.2.1 pc = .ok (.iconst n, 1)) (hx : Int32.ofInt n = v) (k : Ex l G M PM (pc + 1) lv (.int v :: st) σ mc ms) : Ex l G M PM pc lv st σ mc ms := fun p e s m args below meth c B ad n0 ad0 H locs ls cells slots hC he hw hS hv hP hL hc hs => lv_iconst hC.1.1 hC.1.2.1 hd hx (k p e s m args below meth c B ad n0 ad0 H locs ls cells slots hC he hw hS hv hP ⟨trivial, hL⟩ hc hs)
theorem e_bipush {n : Int} {v : Int32} (hd : decode M.2.1 pc = .ok (.bipush n, 2)) (hx : (Int8.ofInt n).toInt32 = v) (k : Ex l G M PM (pc + 2) lv (.int v :: st) σ mc ms) : Ex l G M PM pc lv st σ mc ms := fun p e s m args below meth c B ad n0 ad0 H locs ls cells slots hC he hw hS hv hP hL hc hs => lv_bipush hC.1.1 hC.1.2.1 hd hx (k p e s m args below meth c B ad n0 ad0 H locs ls cells slots hC he hw hS hv hP ⟨trivial, hL⟩ hc hs)
theorem e_sipush {n : Int} {v : Int32} (hd : decode M.2.1 pc = .ok (.sipush n, 3)) (hx : (Int16.ofInt n).toInt32 = v) (k : Ex l G M PM (pc + 3) lv (.int v :: st) σ mc ms) : Ex l G M PM pc lv st σ mc ms := fun p e s m args below meth c B ad n0 ad0 H locs ls cells slots hC he hw hS hv hP hL hc hs => lv_sipush hC.1.1 hC.1.2.1 hd hx (k p e s m args below meth c B ad n0 ad0 H locs ls cells slots hC he hw hS hv hP ⟨trivial, hL⟩ hc hs)
theorem e_lconst {n : Fin 2} {v : Int64} (hd : decode M.2.1 pc = .ok (.lconst n, 1)) (hx : Int64.ofNat (n : Nat) = v) (k : Ex l G M PM (pc + 1) lv (.long v :: st) σ mc ms) : Ex l G M PM pc lv st σ mc ms := fun p e s m args below meth c B ad n0 ad0 H locs ls cells slots hC he hw hS hv hP hL hc hs => lv_lconst hC.1.1 hC.1.2.1 hd hx (k p e s m args below meth c B ad n0 ad0 H locs ls cells slots hC he hw hS hv hP ⟨trivial, hL⟩ hc hs)
theorem e_null (hd : decode M.2.1 pc = .ok (.aconst_null, 1)) (k : Ex l G M PM (pc + 1) lv (.null :: st) σ mc ms) : Ex l G M PM pc lv st σ mc ms := fun p e s m args below meth c B ad n0 ad0 H locs ls cells slots hC he hw hS hv hP hL hc hs => lv_null hC.1.1 hC.1.2.1 hd (k p e s m args below meth c B ad n0 ad0 H locs ls cells slots hC he hw hS hv hP ⟨trivial, hL⟩ hc hs)
theorem e_ldc {idx : Nat} {v : Int32} (hd : decode M.2.1 pc = .ok (.ldc idx, 2)) (hx : Cond.constant M.1.cls idx v ∈ gt) (k : Ex l G M PM (pc + 2) lv (.int v :: st) σ mc ms) : Ex l G M PM pc lv st σ mc ms := fun p e s m args below meth c B ad n0 ad0 H locs ls cells slots hC he hw hS hv hP hL hc hs => W.ldc hC.1.1 hC.1.2.1 hC.1.2.2.2.1 (hC.1.2.2.2.2 _ hx) rfl hd (k p e s m args below meth c B ad n0 ad0 H locs ls cells slots hC he hw hS hv hP ⟨trivial, hL⟩ hc hs)
theorem e_ldc2 {idx : Nat} {v : Int64} (hd : decode M.2.1 pc = .ok (.ldc2_w idx, 3)) (hx : Cond.constantLong M.1.cls idx v ∈ gt) (k : Ex l G M PM (pc + 3) lv (.long v :: st) σ mc ms) : Ex l G M PM pc lv st σ mc ms := fun p e s m args below meth c B ad n0 ad0 H locs ls cells slots hC he hw hS hv hP hL hc hs => W.ldc2 hC.1.1 hC.1.2.1 hC.1.2.2.2.1 (hC.1.2.2.2.2 _ hx) rfl hd (k p e s m args below meth c B ad n0 ad0 H locs ls cells slots hC he hw hS hv hP ⟨trivial, hL⟩ hc hs)
theorem e_iload_n {k0 : Fin 4} {i : Nat} {x : Int32} (hd : decode M.2.1 pc = .ok (.iload_n k0, 1)) (hi : (k0 : Nat) = i) (hk : lv.lookup i = some (.int x)) (k : Ex l G M PM (pc + 1) lv (.int x :: st) σ mc ms) : Ex l G M PM pc lv st σ mc ms := fun p e s m args below meth c B ad n0 ad0 H locs ls cells slots hC he hw hS hv hP hL hc hs => lv_iload_n hC.1.1 hC.1.2.1 hd hi (trL_lk hv hk) (k p e s m args below meth c B ad n0 ad0 H locs ls cells slots hC he hw hS hv hP ⟨okP_lk hP hk, hL⟩ hc hs)
theorem e_iload {i : Nat} {x : Int32} (hd : decode M.2.1 pc = .ok (.iload i, 2)) (hk : lv.lookup i = some (.int x)) (k : Ex l G M PM (pc + 2) lv (.int x :: st) σ mc ms) : Ex l G M PM pc lv st σ mc ms := fun p e s m args below meth c B ad n0 ad0 H locs ls cells slots hC he hw hS hv hP hL hc hs => lv_iload hC.1.1 hC.1.2.1 hd (trL_lk hv hk) (k p e s m args below meth c B ad n0 ad0 H locs ls cells slots hC he hw hS hv hP ⟨okP_lk hP hk, hL⟩ hc hs)
theorem e_istore_n {k0 : Fin 4} {i : Nat} {x : Int32} {lv' : List (Nat × Value)} (hd : decode M.2.1 pc = .ok (.istore_n k0, 1)) (hi : (k0 : Nat) = i) (hi2 : i < M.2.2.1) (hl : lst i (.int x) lv = lv') (k : Ex l G M PM (pc + 1) lv' st σ mc ms) : Ex l G M PM pc lv (.int x :: st) σ mc ms := fun p e s m args below meth c B ad n0 ad0 H locs ls cells slots hC he hw hS hv hP hL hc hs => lv_istore_n hC.1.1 hC.1.2.1 hd hi hv hi2 (trL_st rfl) (fun ls9 hv9 => (k p e s m args below meth c B ad n0 ad0 H locs ls9 cells slots hC he hw hS (hl ▸ hv9) (hl ▸ ⟨hL.1, okP_fi hP⟩) hL.2 hc hs))
theorem e_istore {i : Nat} {x : Int32} {lv' : List (Nat × Value)} (hd : decode M.2.1 pc = .ok (.istore i, 2)) (hi2 : i < M.2.2.1) (hl : lst i (.int x) lv = lv') (k : Ex l G M PM (pc + 2) lv' st σ mc ms) : Ex l G M PM pc lv (.int x :: st) σ mc ms := fun p e s m args below meth c B ad n0 ad0 H locs ls cells slots hC he hw hS hv hP hL hc hs => lv_istore hC.1.1 hC.1.2.1 hd hv hi2 (trL_st rfl) (fun ls9 hv9 => (k p e s m args below meth c B ad n0 ad0 H locs ls9 cells slots hC he hw hS (hl ▸ hv9) (hl ▸ ⟨hL.1, okP_fi hP⟩) hL.2 hc hs))
theorem e_lload_n {k0 : Fin 4} {i : Nat} {x : Int64} (hd : decode M.2.1 pc = .ok (.lload_n k0, 1)) (hi : (k0 : Nat) = i) (hk : lv.lookup i = some (.long x)) (k : Ex l G M PM (pc + 1) lv (.long x :: st) σ mc ms) : Ex l G M PM pc lv st σ mc ms := fun p e s m args below meth c B ad n0 ad0 H locs ls cells slots hC he hw hS hv hP hL hc hs => lv_lload_n hC.1.1 hC.1.2.1 hd hi (trL_lk hv hk) (k p e s m args below meth c B ad n0 ad0 H locs ls cells slots hC he hw hS hv hP ⟨okP_lk hP hk, hL⟩ hc hs)
theorem e_lload {i : Nat} {x : Int64} (hd : decode M.2.1 pc = .ok (.lload i, 2)) (hk : lv.lookup i = some (.long x)) (k : Ex l G M PM (pc + 2) lv (.long x :: st) σ mc ms) : Ex l G M PM pc lv st σ mc ms := fun p e s m args below meth c B ad n0 ad0 H locs ls cells slots hC he hw hS hv hP hL hc hs => lv_lload hC.1.1 hC.1.2.1 hd (trL_lk hv hk) (k p e s m args below meth c B ad n0 ad0 H locs ls cells slots hC he hw hS hv hP ⟨okP_lk hP hk, hL⟩ hc hs)
theorem e_lstore_n {k0 : Fin 4} {i : Nat} {x : Int64} {lv' : List (Nat × Value)} (hd : decode M.2.1 pc = .ok (.lstore_n k0, 1)) (hi : (k0 : Nat) = i) (hi2 : i + 1 < M.2.2.1) (hl : lst2 i (.long x) lv = lv') (k : Ex l G M PM (pc + 1) lv' st σ mc ms) : Ex l G M PM pc lv (.long x :: st) σ mc ms := fun p e s m args below meth c B ad n0 ad0 H locs ls cells slots hC he hw hS hv hP hL hc hs => lv_lstore_n hC.1.1 hC.1.2.1 hd hi hv hi2 (trL_st2 rfl) (fun ls9 hv9 => (k p e s m args below meth c B ad n0 ad0 H locs ls9 cells slots hC he hw hS (hl ▸ hv9) (hl ▸ ⟨hL.1, okP_fi hP⟩) hL.2 hc hs))
theorem e_lstore {i : Nat} {x : Int64} {lv' : List (Nat × Value)} (hd : decode M.2.1 pc = .ok (.lstore i, 2)) (hi2 : i + 1 < M.2.2.1) (hl : lst2 i (.long x) lv = lv') (k : Ex l G M PM (pc + 2) lv' st σ mc ms) : Ex l G M PM pc lv (.long x :: st) σ mc ms := fun p e s m args below meth c B ad n0 ad0 H locs ls cells slots hC he hw hS hv hP hL hc hs => lv_lstore hC.1.1 hC.1.2.1 hd hv hi2 (trL_st2 rfl) (fun ls9 hv9 => (k p e s m args below meth c B ad n0 ad0 H locs ls9 cells slots hC he hw hS (hl ▸ hv9) (hl ▸ ⟨hL.1, okP_fi hP⟩) hL.2 hc hs))
theorem e_aload_n {k0 : Fin 4} {i : Nat} {x : Nat} (hd : decode M.2.1 pc = .ok (.aload_n k0, 1)) (hi : (k0 : Nat) = i) (hk : lv.lookup i = some (.ref x)) (k : Ex l G M PM (pc + 1) lv (.ref x :: st) σ mc ms) : Ex l G M PM pc lv st σ mc ms := fun p e s m args below meth c B ad n0 ad0 H locs ls cells slots hC he hw hS hv hP hL hc hs => lv_aload_n hC.1.1 hC.1.2.1 hd hi (trL_lk hv hk) (k p e s m args below meth c B ad n0 ad0 H locs ls cells slots hC he hw hS hv hP ⟨okP_lk hP hk, hL⟩ hc hs)
theorem e_aload {i : Nat} {x : Nat} (hd : decode M.2.1 pc = .ok (.aload i, 2)) (hk : lv.lookup i = some (.ref x)) (k : Ex l G M PM (pc + 2) lv (.ref x :: st) σ mc ms) : Ex l G M PM pc lv st σ mc ms := fun p e s m args below meth c B ad n0 ad0 H locs ls cells slots hC he hw hS hv hP hL hc hs => lv_aload hC.1.1 hC.1.2.1 hd (trL_lk hv hk) (k p e s m args below meth c B ad n0 ad0 H locs ls cells slots hC he hw hS hv hP ⟨okP_lk hP hk, hL⟩ hc hs)
theorem e_astore_n {k0 : Fin 4} {i : Nat} {x : Nat} {lv' : List (Nat × Value)} (hd : decode M.2.1 pc = .ok (.astore_n k0, 1)) (hi : (k0 : Nat) = i) (hi2 : i < M.2.2.1) (hl : lst i (.ref x) lv = lv') (k : Ex l G M PM (pc + 1) lv' st σ mc ms) : Ex l G M PM pc lv (.ref x :: st) σ mc ms := fun p e s m args below meth c B ad n0 ad0 H locs ls cells slots hC he hw hS hv hP hL hc hs => lv_astore_n hC.1.1 hC.1.2.1 hd hi hv hi2 (trL_st rfl) (fun ls9 hv9 => (k p e s m args below meth c B ad n0 ad0 H locs ls9 cells slots hC he hw hS (hl ▸ hv9) (hl ▸ ⟨hL.1, okP_fi hP⟩) hL.2 hc hs))
theorem e_astore {i : Nat} {x : Nat} {lv' : List (Nat × Value)} (hd : decode M.2.1 pc = .ok (.astore i, 2)) (hi2 : i < M.2.2.1) (hl : lst i (.ref x) lv = lv') (k : Ex l G M PM (pc + 2) lv' st σ mc ms) : Ex l G M PM pc lv (.ref x :: st) σ mc ms := fun p e s m args below meth c B ad n0 ad0 H locs ls cells slots hC he hw hS hv hP hL hc hs => lv_astore hC.1.1 hC.1.2.1 hd hv hi2 (trL_st rfl) (fun ls9 hv9 => (k p e s m args below meth c B ad n0 ad0 H locs ls9 cells slots hC he hw hS (hl ▸ hv9) (hl ▸ ⟨hL.1, okP_fi hP⟩) hL.2 hc hs))
theorem e_aload_nN {k0 : Fin 4} {i : Nat} (hd : decode M.2.1 pc = .ok (.aload_n k0, 1)) (hi : (k0 : Nat) = i) (hk : lv.lookup i = some .null) (k : Ex l G M PM (pc + 1) lv (.null :: st) σ mc ms) : Ex l G M PM pc lv st σ mc ms := fun p e s m args below meth c B ad n0 ad0 H locs ls cells slots hC he hw hS hv hP hL hc hs => lv_aload_nN hC.1.1 hC.1.2.1 hd hi (trL_lk hv hk) (k p e s m args below meth c B ad n0 ad0 H locs ls cells slots hC he hw hS hv hP ⟨trivial, hL⟩ hc hs)
theorem e_aloadN {i : Nat} (hd : decode M.2.1 pc = .ok (.aload i, 2)) (hk : lv.lookup i = some .null) (k : Ex l G M PM (pc + 2) lv (.null :: st) σ mc ms) : Ex l G M PM pc lv st σ mc ms := fun p e s m args below meth c B ad n0 ad0 H locs ls cells slots hC he hw hS hv hP hL hc hs => lv_aloadN hC.1.1 hC.1.2.1 hd (trL_lk hv hk) (k p e s m args below meth c B ad n0 ad0 H locs ls cells slots hC he hw hS hv hP ⟨trivial, hL⟩ hc hs)
theorem e_astore_nN {k0 : Fin 4} {i : Nat} {lv' : List (Nat × Value)} (hd : decode M.2.1 pc = .ok (.astore_n k0, 1)) (hi : (k0 : Nat) = i) (hi2 : i < M.2.2.1) (hl : lst i .null lv = lv') (k : Ex l G M PM (pc + 1) lv' st σ mc ms) : Ex l G M PM pc lv (.null :: st) σ mc ms := fun p e s m args below meth c B ad n0 ad0 H locs ls cells slots hC he hw hS hv hP hL hc hs => lv_astore_nN hC.1.1 hC.1.2.1 hd hi hv hi2 (trL_st rfl) (fun ls9 hv9 => (k p e s m args below meth c B ad n0 ad0 H locs ls9 cells slots hC he hw hS (hl ▸ hv9) (hl ▸ ⟨hL.1, okP_fi hP⟩) hL.2 hc hs))
theorem e_astoreN {i : Nat} {lv' : List (Nat × Value)} (hd : decode M.2.1 pc = .ok (.astore i, 2)) (hi2 : i < M.2.2.1) (hl : lst i .null lv = lv') (k : Ex l G M PM (pc + 2) lv' st σ mc ms) : Ex l G M PM pc lv (.null :: st) σ mc ms := fun p e s m args below meth c B ad n0 ad0 H locs ls cells slots hC he hw hS hv hP hL hc hs => lv_astoreN hC.1.1 hC.1.2.1 hd hv hi2 (trL_st rfl) (fun ls9 hv9 => (k p e s m args below meth c B ad n0 ad0 H locs ls9 cells slots hC he hw hS (hl ▸ hv9) (hl ▸ ⟨hL.1, okP_fi hP⟩) hL.2 hc hs))
theorem e_iinc {i : Nat} {n : Int} {x v : Int32} {lv' : List (Nat × Value)} (hd : decode M.2.1 pc = .ok (.iinc i n, 3)) (hk : lv.lookup i = some (.int x)) (hx : x + Int32.ofInt n = v) (hi2 : i < M.2.2.1) (hl : lst i (.int v) lv = lv') (k : Ex l G M PM (pc + 3) lv' st σ mc ms) : Ex l G M PM pc lv st σ mc ms := fun p e s m args below meth c B ad n0 ad0 H locs ls cells slots hC he hw hS hv hP hL hc hs => by
  have h9 : lv_has ls M.2.2.1 ((i, .int x) :: trL ad lv) := ⟨hv.1, hv.2.1, fun q hq => by
    rcases List.mem_cons.mp hq with z | z
    · rw [z]; exact trL_lk hv hk
    · exact hv.2.2 q z⟩
  refine lv_iinc hC.1.1 hC.1.2.1 hd h9 (k := 0) rfl hx hi2 rfl (fun ls9 hv9 => (k p e s m args below meth c B ad n0 ad0 H locs ls9 cells slots hC he hw hS ?_ (hl ▸ ⟨trivial, okP_fi hP⟩) hL hc hs))
  rw [← hl, ← trL_st rfl]
  refine ⟨hv9.1, hv9.2.1, fun q hq => hv9.2.2 q ?_⟩
  rcases List.mem_cons.mp hq with z | z
  · rw [z]; exact List.mem_cons_self
  · refine List.mem_cons_of_mem _ ?_
    have z2 := List.mem_filter.mp z
    exact List.mem_filter.mpr ⟨List.mem_cons_of_mem _ z2.1, z2.2⟩
theorem e_iadd {x y : Int32} (hd : decode M.2.1 pc = .ok (.iadd, 1)) (k : Ex l G M PM (pc + 1) lv (.int (x + y) :: st) σ mc ms) : Ex l G M PM pc lv (.int y :: .int x :: st) σ mc ms := fun p e s m args below meth c B ad n0 ad0 H locs ls cells slots hC he hw hS hv hP hL hc hs => lv_iadd hC.1.1 hC.1.2.1 hd (k p e s m args below meth c B ad n0 ad0 H locs ls cells slots hC he hw hS hv hP ⟨trivial, hL.2.2⟩ hc hs)
theorem e_isub {x y : Int32} (hd : decode M.2.1 pc = .ok (.isub, 1)) (k : Ex l G M PM (pc + 1) lv (.int (x - y) :: st) σ mc ms) : Ex l G M PM pc lv (.int y :: .int x :: st) σ mc ms := fun p e s m args below meth c B ad n0 ad0 H locs ls cells slots hC he hw hS hv hP hL hc hs => lv_isub hC.1.1 hC.1.2.1 hd (k p e s m args below meth c B ad n0 ad0 H locs ls cells slots hC he hw hS hv hP ⟨trivial, hL.2.2⟩ hc hs)
theorem e_imul {x y : Int32} (hd : decode M.2.1 pc = .ok (.imul, 1)) (k : Ex l G M PM (pc + 1) lv (.int (x * y) :: st) σ mc ms) : Ex l G M PM pc lv (.int y :: .int x :: st) σ mc ms := fun p e s m args below meth c B ad n0 ad0 H locs ls cells slots hC he hw hS hv hP hL hc hs => lv_imul hC.1.1 hC.1.2.1 hd (k p e s m args below meth c B ad n0 ad0 H locs ls cells slots hC he hw hS hv hP ⟨trivial, hL.2.2⟩ hc hs)
theorem e_iand {x y : Int32} (hd : decode M.2.1 pc = .ok (.iand, 1)) (k : Ex l G M PM (pc + 1) lv (.int (x &&& y) :: st) σ mc ms) : Ex l G M PM pc lv (.int y :: .int x :: st) σ mc ms := fun p e s m args below meth c B ad n0 ad0 H locs ls cells slots hC he hw hS hv hP hL hc hs => lv_iand hC.1.1 hC.1.2.1 hd (k p e s m args below meth c B ad n0 ad0 H locs ls cells slots hC he hw hS hv hP ⟨trivial, hL.2.2⟩ hc hs)
theorem e_ladd {x y : Int64} (hd : decode M.2.1 pc = .ok (.ladd, 1)) (k : Ex l G M PM (pc + 1) lv (.long (x + y) :: st) σ mc ms) : Ex l G M PM pc lv (.long y :: .long x :: st) σ mc ms := fun p e s m args below meth c B ad n0 ad0 H locs ls cells slots hC he hw hS hv hP hL hc hs => lv_ladd hC.1.1 hC.1.2.1 hd (k p e s m args below meth c B ad n0 ad0 H locs ls cells slots hC he hw hS hv hP ⟨trivial, hL.2.2⟩ hc hs)
theorem e_lsub {x y : Int64} (hd : decode M.2.1 pc = .ok (.lsub, 1)) (k : Ex l G M PM (pc + 1) lv (.long (x - y) :: st) σ mc ms) : Ex l G M PM pc lv (.long y :: .long x :: st) σ mc ms := fun p e s m args below meth c B ad n0 ad0 H locs ls cells slots hC he hw hS hv hP hL hc hs => lv_lsub hC.1.1 hC.1.2.1 hd (k p e s m args below meth c B ad n0 ad0 H locs ls cells slots hC he hw hS hv hP ⟨trivial, hL.2.2⟩ hc hs)
theorem e_land {x y : Int64} (hd : decode M.2.1 pc = .ok (.land, 1)) (k : Ex l G M PM (pc + 1) lv (.long (x &&& y) :: st) σ mc ms) : Ex l G M PM pc lv (.long y :: .long x :: st) σ mc ms := fun p e s m args below meth c B ad n0 ad0 H locs ls cells slots hC he hw hS hv hP hL hc hs => lv_land hC.1.1 hC.1.2.1 hd (k p e s m args below meth c B ad n0 ad0 H locs ls cells slots hC he hw hS hv hP ⟨trivial, hL.2.2⟩ hc hs)
theorem e_lor {x y : Int64} (hd : decode M.2.1 pc = .ok (.lor, 1)) (k : Ex l G M PM (pc + 1) lv (.long (x ||| y) :: st) σ mc ms) : Ex l G M PM pc lv (.long y :: .long x :: st) σ mc ms := fun p e s m args below meth c B ad n0 ad0 H locs ls cells slots hC he hw hS hv hP hL hc hs => lv_lor hC.1.1 hC.1.2.1 hd (k p e s m args below meth c B ad n0 ad0 H locs ls cells slots hC he hw hS hv hP ⟨trivial, hL.2.2⟩ hc hs)
theorem e_lxor {x y : Int64} (hd : decode M.2.1 pc = .ok (.lxor, 1)) (k : Ex l G M PM (pc + 1) lv (.long (x ^^^ y) :: st) σ mc ms) : Ex l G M PM pc lv (.long y :: .long x :: st) σ mc ms := fun p e s m args below meth c B ad n0 ad0 H locs ls cells slots hC he hw hS hv hP hL hc hs => lv_lxor hC.1.1 hC.1.2.1 hd (k p e s m args below meth c B ad n0 ad0 H locs ls cells slots hC he hw hS hv hP ⟨trivial, hL.2.2⟩ hc hs)
theorem e_idiv {x y : Int32} (hd : decode M.2.1 pc = .ok (.idiv, 1)) (hne : ¬ y = 0) (k : Ex l G M PM (pc + 1) lv (.int (x / y) :: st) σ mc ms) : Ex l G M PM pc lv (.int y :: .int x :: st) σ mc ms := fun p e s m args below meth c B ad n0 ad0 H locs ls cells slots hC he hw hS hv hP hL hc hs => lv_idiv hC.1.1 hC.1.2.1 hd hne (k p e s m args below meth c B ad n0 ad0 H locs ls cells slots hC he hw hS hv hP ⟨trivial, hL.2.2⟩ hc hs)
theorem e_irem {x y : Int32} (hd : decode M.2.1 pc = .ok (.irem, 1)) (hne : ¬ y = 0) (k : Ex l G M PM (pc + 1) lv (.int (x - x / y * y) :: st) σ mc ms) : Ex l G M PM pc lv (.int y :: .int x :: st) σ mc ms := fun p e s m args below meth c B ad n0 ad0 H locs ls cells slots hC he hw hS hv hP hL hc hs => lv_irem hC.1.1 hC.1.2.1 hd hne (k p e s m args below meth c B ad n0 ad0 H locs ls cells slots hC he hw hS hv hP ⟨trivial, hL.2.2⟩ hc hs)
theorem e_ldiv {x y : Int64} (hd : decode M.2.1 pc = .ok (.ldiv, 1)) (hne : ¬ y = 0) (k : Ex l G M PM (pc + 1) lv (.long (x / y) :: st) σ mc ms) : Ex l G M PM pc lv (.long y :: .long x :: st) σ mc ms := fun p e s m args below meth c B ad n0 ad0 H locs ls cells slots hC he hw hS hv hP hL hc hs => lv_ldiv hC.1.1 hC.1.2.1 hd hne (k p e s m args below meth c B ad n0 ad0 H locs ls cells slots hC he hw hS hv hP ⟨trivial, hL.2.2⟩ hc hs)
theorem e_lshl {x : Int64} {y : Int32} (hd : decode M.2.1 pc = .ok (.lshl, 1)) (k : Ex l G M PM (pc + 1) lv (.long (x <<< (y.toInt64 &&& 63)) :: st) σ mc ms) : Ex l G M PM pc lv (.int y :: .long x :: st) σ mc ms := fun p e s m args below meth c B ad n0 ad0 H locs ls cells slots hC he hw hS hv hP hL hc hs => t_lshl hC.1.1 hC.1.2.1 hd rfl (k p e s m args below meth c B ad n0 ad0 H locs ls cells slots hC he hw hS hv hP ⟨trivial, hL.2.2⟩ hc hs)
theorem e_i2l {x : Int32} (hd : decode M.2.1 pc = .ok (.i2l, 1)) (k : Ex l G M PM (pc + 1) lv (.long x.toInt64 :: st) σ mc ms) : Ex l G M PM pc lv (.int x :: st) σ mc ms := fun p e s m args below meth c B ad n0 ad0 H locs ls cells slots hC he hw hS hv hP hL hc hs => t_i2l hC.1.1 hC.1.2.1 hd rfl (k p e s m args below meth c B ad n0 ad0 H locs ls cells slots hC he hw hS hv hP ⟨trivial, hL.2⟩ hc hs)
theorem e_lcmp {x y : Int64} (hd : decode M.2.1 pc = .ok (.lcmp, 1)) (k : Ex l G M PM (pc + 1) lv (.int (lg_cmp x y) :: st) σ mc ms) : Ex l G M PM pc lv (.long y :: .long x :: st) σ mc ms := fun p e s m args below meth c B ad n0 ad0 H locs ls cells slots hC he hw hS hv hP hL hc hs => W.lcmp hC.1.1 hC.1.2.1 hd (k p e s m args below meth c B ad n0 ad0 H locs ls cells slots hC he hw hS hv hP ⟨trivial, hL.2.2⟩ hc hs)
theorem e_dup {va : Value} (hd : decode M.2.1 pc = .ok (.dup, 1)) (hva : va.category = 1) (k : Ex l G M PM (pc + 1) lv (va :: va :: st) σ mc ms) : Ex l G M PM pc lv (va :: st) σ mc ms := fun p e s m args below meth c B ad n0 ad0 H locs ls cells slots hC he hw hS hv hP hL hc hs => lv_dup hC.1.1 hC.1.2.1 hd ((trV_cat ad va).trans hva) (k p e s m args below meth c B ad n0 ad0 H locs ls cells slots hC he hw hS hv hP ⟨hL.1, hL⟩ hc hs)
theorem e_pop {va : Value} (hd : decode M.2.1 pc = .ok (.pop, 1)) (hva : va.category = 1) (k : Ex l G M PM (pc + 1) lv st σ mc ms) : Ex l G M PM pc lv (va :: st) σ mc ms := fun p e s m args below meth c B ad n0 ad0 H locs ls cells slots hC he hw hS hv hP hL hc hs => lv_pop hC.1.1 hC.1.2.1 hd ((trV_cat ad va).trans hva) (k p e s m args below meth c B ad n0 ad0 H locs ls cells slots hC he hw hS hv hP hL.2 hc hs)
theorem e_dup2 {va vb : Value} (hd : decode M.2.1 pc = .ok (.dup2, 1)) (hva : va.category = 1) (hvb : vb.category = 1) (k : Ex l G M PM (pc + 1) lv (va :: vb :: va :: vb :: st) σ mc ms) : Ex l G M PM pc lv (va :: vb :: st) σ mc ms := fun p e s m args below meth c B ad n0 ad0 H locs ls cells slots hC he hw hS hv hP hL hc hs => lv_dup2_11 hC.1.1 hC.1.2.1 hd ((trV_cat ad va).trans hva) ((trV_cat ad vb).trans hvb) (k p e s m args below meth c B ad n0 ad0 H locs ls cells slots hC he hw hS hv hP ⟨hL.1, hL.2.1, hL⟩ hc hs)
theorem e_ifeq {x : Int32} {off : Int} {tgt : Nat} (hd : decode M.2.1 pc = .ok (.ifCond .eq off, 3)) (ht : (pc : Int) + off = (tgt : Int)) (kt : (x = 0) → Ex l G M PM tgt lv st σ mc ms) (kf : (¬ x = 0) → Ex l G M PM (pc + 3) lv st σ mc ms) : Ex l G M PM pc lv (.int x :: st) σ mc ms := fun p e s m args below meth c B ad n0 ad0 H locs ls cells slots hC he hw hS hv hP hL hc hs => lv_if_eq hC.1.1 hC.1.2.1 hd ht (fun h => kt h p e s m args below meth c B ad n0 ad0 H locs ls cells slots hC he hw hS hv hP hL.2 hc hs) (fun h => kf h p e s m args below meth c B ad n0 ad0 H locs ls cells slots hC he hw hS hv hP hL.2 hc hs)
theorem e_icmpeq {x y : Int32} {off : Int} {tgt : Nat} (hd : decode M.2.1 pc = .ok (.if_icmp .eq off, 3)) (ht : (pc : Int) + off = (tgt : Int)) (kt : (x = y) → Ex l G M PM tgt lv st σ mc ms) (kf : (¬ x = y) → Ex l G M PM (pc + 3) lv st σ mc ms) : Ex l G M PM pc lv (.int y :: .int x :: st) σ mc ms := fun p e s m args below meth c B ad n0 ad0 H locs ls cells slots hC he hw hS hv hP hL hc hs => lv_icmp_eq hC.1.1 hC.1.2.1 hd ht (fun h => kt h p e s m args below meth c B ad n0 ad0 H locs ls cells slots hC he hw hS hv hP hL.2.2 hc hs) (fun h => kf h p e s m args below meth c B ad n0 ad0 H locs ls cells slots hC he hw hS hv hP hL.2.2 hc hs)
theorem e_ifne {x : Int32} {off : Int} {tgt : Nat} (hd : decode M.2.1 pc = .ok (.ifCond .ne off, 3)) (ht : (pc : Int) + off = (tgt : Int)) (kt : (¬ x = 0) → Ex l G M PM tgt lv st σ mc ms) (kf : (x = 0) → Ex l G M PM (pc + 3) lv st σ mc ms) : Ex l G M PM pc lv (.int x :: st) σ mc ms := fun p e s m args below meth c B ad n0 ad0 H locs ls cells slots hC he hw hS hv hP hL hc hs => lv_if_ne hC.1.1 hC.1.2.1 hd ht (fun h => kt h p e s m args below meth c B ad n0 ad0 H locs ls cells slots hC he hw hS hv hP hL.2 hc hs) (fun h => kf h p e s m args below meth c B ad n0 ad0 H locs ls cells slots hC he hw hS hv hP hL.2 hc hs)
theorem e_icmpne {x y : Int32} {off : Int} {tgt : Nat} (hd : decode M.2.1 pc = .ok (.if_icmp .ne off, 3)) (ht : (pc : Int) + off = (tgt : Int)) (kt : (¬ x = y) → Ex l G M PM tgt lv st σ mc ms) (kf : (x = y) → Ex l G M PM (pc + 3) lv st σ mc ms) : Ex l G M PM pc lv (.int y :: .int x :: st) σ mc ms := fun p e s m args below meth c B ad n0 ad0 H locs ls cells slots hC he hw hS hv hP hL hc hs => lv_icmp_ne hC.1.1 hC.1.2.1 hd ht (fun h => kt h p e s m args below meth c B ad n0 ad0 H locs ls cells slots hC he hw hS hv hP hL.2.2 hc hs) (fun h => kf h p e s m args below meth c B ad n0 ad0 H locs ls cells slots hC he hw hS hv hP hL.2.2 hc hs)
theorem e_iflt {x : Int32} {off : Int} {tgt : Nat} (hd : decode M.2.1 pc = .ok (.ifCond .lt off, 3)) (ht : (pc : Int) + off = (tgt : Int)) (kt : (x < 0) → Ex l G M PM tgt lv st σ mc ms) (kf : (¬ x < 0) → Ex l G M PM (pc + 3) lv st σ mc ms) : Ex l G M PM pc lv (.int x :: st) σ mc ms := fun p e s m args below meth c B ad n0 ad0 H locs ls cells slots hC he hw hS hv hP hL hc hs => lv_if_lt hC.1.1 hC.1.2.1 hd ht (fun h => kt h p e s m args below meth c B ad n0 ad0 H locs ls cells slots hC he hw hS hv hP hL.2 hc hs) (fun h => kf h p e s m args below meth c B ad n0 ad0 H locs ls cells slots hC he hw hS hv hP hL.2 hc hs)
theorem e_icmplt {x y : Int32} {off : Int} {tgt : Nat} (hd : decode M.2.1 pc = .ok (.if_icmp .lt off, 3)) (ht : (pc : Int) + off = (tgt : Int)) (kt : (x < y) → Ex l G M PM tgt lv st σ mc ms) (kf : (¬ x < y) → Ex l G M PM (pc + 3) lv st σ mc ms) : Ex l G M PM pc lv (.int y :: .int x :: st) σ mc ms := fun p e s m args below meth c B ad n0 ad0 H locs ls cells slots hC he hw hS hv hP hL hc hs => lv_icmp_lt hC.1.1 hC.1.2.1 hd ht (fun h => kt h p e s m args below meth c B ad n0 ad0 H locs ls cells slots hC he hw hS hv hP hL.2.2 hc hs) (fun h => kf h p e s m args below meth c B ad n0 ad0 H locs ls cells slots hC he hw hS hv hP hL.2.2 hc hs)
theorem e_ifge {x : Int32} {off : Int} {tgt : Nat} (hd : decode M.2.1 pc = .ok (.ifCond .ge off, 3)) (ht : (pc : Int) + off = (tgt : Int)) (kt : (0 ≤ x) → Ex l G M PM tgt lv st σ mc ms) (kf : (¬ 0 ≤ x) → Ex l G M PM (pc + 3) lv st σ mc ms) : Ex l G M PM pc lv (.int x :: st) σ mc ms := fun p e s m args below meth c B ad n0 ad0 H locs ls cells slots hC he hw hS hv hP hL hc hs => lv_if_ge hC.1.1 hC.1.2.1 hd ht (fun h => kt h p e s m args below meth c B ad n0 ad0 H locs ls cells slots hC he hw hS hv hP hL.2 hc hs) (fun h => kf h p e s m args below meth c B ad n0 ad0 H locs ls cells slots hC he hw hS hv hP hL.2 hc hs)
theorem e_icmpge {x y : Int32} {off : Int} {tgt : Nat} (hd : decode M.2.1 pc = .ok (.if_icmp .ge off, 3)) (ht : (pc : Int) + off = (tgt : Int)) (kt : (y ≤ x) → Ex l G M PM tgt lv st σ mc ms) (kf : (¬ y ≤ x) → Ex l G M PM (pc + 3) lv st σ mc ms) : Ex l G M PM pc lv (.int y :: .int x :: st) σ mc ms := fun p e s m args below meth c B ad n0 ad0 H locs ls cells slots hC he hw hS hv hP hL hc hs => lv_icmp_ge hC.1.1 hC.1.2.1 hd ht (fun h => kt h p e s m args below meth c B ad n0 ad0 H locs ls cells slots hC he hw hS hv hP hL.2.2 hc hs) (fun h => kf h p e s m args below meth c B ad n0 ad0 H locs ls cells slots hC he hw hS hv hP hL.2.2 hc hs)
theorem e_ifgt {x : Int32} {off : Int} {tgt : Nat} (hd : decode M.2.1 pc = .ok (.ifCond .gt off, 3)) (ht : (pc : Int) + off = (tgt : Int)) (kt : (0 < x) → Ex l G M PM tgt lv st σ mc ms) (kf : (¬ 0 < x) → Ex l G M PM (pc + 3) lv st σ mc ms) : Ex l G M PM pc lv (.int x :: st) σ mc ms := fun p e s m args below meth c B ad n0 ad0 H locs ls cells slots hC he hw hS hv hP hL hc hs => lv_if_gt hC.1.1 hC.1.2.1 hd ht (fun h => kt h p e s m args below meth c B ad n0 ad0 H locs ls cells slots hC he hw hS hv hP hL.2 hc hs) (fun h => kf h p e s m args below meth c B ad n0 ad0 H locs ls cells slots hC he hw hS hv hP hL.2 hc hs)
theorem e_icmpgt {x y : Int32} {off : Int} {tgt : Nat} (hd : decode M.2.1 pc = .ok (.if_icmp .gt off, 3)) (ht : (pc : Int) + off = (tgt : Int)) (kt : (y < x) → Ex l G M PM tgt lv st σ mc ms) (kf : (¬ y < x) → Ex l G M PM (pc + 3) lv st σ mc ms) : Ex l G M PM pc lv (.int y :: .int x :: st) σ mc ms := fun p e s m args below meth c B ad n0 ad0 H locs ls cells slots hC he hw hS hv hP hL hc hs => lv_icmp_gt hC.1.1 hC.1.2.1 hd ht (fun h => kt h p e s m args below meth c B ad n0 ad0 H locs ls cells slots hC he hw hS hv hP hL.2.2 hc hs) (fun h => kf h p e s m args below meth c B ad n0 ad0 H locs ls cells slots hC he hw hS hv hP hL.2.2 hc hs)
theorem e_ifle {x : Int32} {off : Int} {tgt : Nat} (hd : decode M.2.1 pc = .ok (.ifCond .le off, 3)) (ht : (pc : Int) + off = (tgt : Int)) (kt : (x ≤ 0) → Ex l G M PM tgt lv st σ mc ms) (kf : (¬ x ≤ 0) → Ex l G M PM (pc + 3) lv st σ mc ms) : Ex l G M PM pc lv (.int x :: st) σ mc ms := fun p e s m args below meth c B ad n0 ad0 H locs ls cells slots hC he hw hS hv hP hL hc hs => lv_if_le hC.1.1 hC.1.2.1 hd ht (fun h => kt h p e s m args below meth c B ad n0 ad0 H locs ls cells slots hC he hw hS hv hP hL.2 hc hs) (fun h => kf h p e s m args below meth c B ad n0 ad0 H locs ls cells slots hC he hw hS hv hP hL.2 hc hs)
theorem e_icmple {x y : Int32} {off : Int} {tgt : Nat} (hd : decode M.2.1 pc = .ok (.if_icmp .le off, 3)) (ht : (pc : Int) + off = (tgt : Int)) (kt : (x ≤ y) → Ex l G M PM tgt lv st σ mc ms) (kf : (¬ x ≤ y) → Ex l G M PM (pc + 3) lv st σ mc ms) : Ex l G M PM pc lv (.int y :: .int x :: st) σ mc ms := fun p e s m args below meth c B ad n0 ad0 H locs ls cells slots hC he hw hS hv hP hL hc hs => lv_icmp_le hC.1.1 hC.1.2.1 hd ht (fun h => kt h p e s m args below meth c B ad n0 ad0 H locs ls cells slots hC he hw hS hv hP hL.2.2 hc hs) (fun h => kf h p e s m args below meth c B ad n0 ad0 H locs ls cells slots hC he hw hS hv hP hL.2.2 hc hs)
theorem e_goto {off : Int} {tgt : Nat} (hd : decode M.2.1 pc = .ok (.goto off, 3)) (ht : (pc : Int) + off = (tgt : Int)) (k : Ex l G M PM tgt lv st σ mc ms) : Ex l G M PM pc lv st σ mc ms := fun p e s m args below meth c B ad n0 ad0 H locs ls cells slots hC he hw hS hv hP hL hc hs => lv_goto hC.1.1 hC.1.2.1 hd ht (k p e s m args below meth c B ad n0 ad0 H locs ls cells slots hC he hw hS hv hP hL hc hs)
theorem e_ifnull {x : Nat} {off : Int} (hd : decode M.2.1 pc = .ok (.ifnull off, 3)) (k : Ex l G M PM (pc + 3) lv st σ mc ms) : Ex l G M PM pc lv (.ref x :: st) σ mc ms := fun p e s m args below meth c B ad n0 ad0 H locs ls cells slots hC he hw hS hv hP hL hc hs => lv_ifnull hC.1.1 hC.1.2.1 hd (k p e s m args below meth c B ad n0 ad0 H locs ls cells slots hC he hw hS hv hP hL.2 hc hs)
theorem e_ifnullN {off : Int} {tgt : Nat} (hd : decode M.2.1 pc = .ok (.ifnull off, 3)) (ht : (pc : Int) + off = (tgt : Int)) (k : Ex l G M PM tgt lv st σ mc ms) : Ex l G M PM pc lv (.null :: st) σ mc ms := fun p e s m args below meth c B ad n0 ad0 H locs ls cells slots hC he hw hS hv hP hL hc hs => lv_ifnullN hC.1.1 hC.1.2.1 hd ht (k p e s m args below meth c B ad n0 ad0 H locs ls cells slots hC he hw hS hv hP hL.2 hc hs)
theorem e_ifnonnull {x : Nat} {off : Int} {tgt : Nat} (hd : decode M.2.1 pc = .ok (.ifnonnull off, 3)) (ht : (pc : Int) + off = (tgt : Int)) (k : Ex l G M PM tgt lv st σ mc ms) : Ex l G M PM pc lv (.ref x :: st) σ mc ms := fun p e s m args below meth c B ad n0 ad0 H locs ls cells slots hC he hw hS hv hP hL hc hs => lv_ifnonnull hC.1.1 hC.1.2.1 hd ht (k p e s m args below meth c B ad n0 ad0 H locs ls cells slots hC he hw hS hv hP hL.2 hc hs)
theorem e_ifnonnullN {off : Int} (hd : decode M.2.1 pc = .ok (.ifnonnull off, 3)) (k : Ex l G M PM (pc + 3) lv st σ mc ms) : Ex l G M PM pc lv (.null :: st) σ mc ms := fun p e s m args below meth c B ad n0 ad0 H locs ls cells slots hC he hw hS hv hP hL hc hs => lv_ifnonnullN hC.1.1 hC.1.2.1 hd (k p e s m args below meth c B ad n0 ad0 H locs ls cells slots hC he hw hS hv hP hL.2 hc hs)
end ER
end
section
section HR
variable {l : Launch} {G : LG} {M : MI} {PM : LPM} {Q : LO → HS → Prop} {pc : Nat} {lv : List (Nat × Value)} {st : List Value} {σ : HS} {mc ms : Nat}
variable {p : Program} {e : Env} {R : Room} {s : State} {m : MethodId} {args : Array Value} {below : List Frame} {meth : Method} {c : Code} {B : Nat} {ad n0 ad0 : Nat → Nat} {H : Heap} {locs : List Loc} {ls : Array Slot} {cells slots : Nat} {Qm : State → Prop} {rest : List Value}
theorem lay_in {q : Nat} {r : vw_C} (hc : lcl[q]? = some r) : ∀ w ∈ u_ws r.1 r.2.1 r.2.2, w ∈ gt := (lcl_ok q r hc).1
theorem get_core (hC : CX l G M p s m args meth c B) (hw : LW G B ad σ H) {q a k idx : Nat} {r : vw_C} (hp : al σ (q + 16 * a)) (hq : q < 7) (hc : lcl[q]? = some r) (hk : k < r.2.2) (hf : FL M.1.cls idx r k) (hd : decode M.2.1 pc = .ok (.getfield idx, 3))
    (kk : W p l e R s m args below meth c H locs cells slots Qm (F0 m (pc + 3) ls (fv ad σ q a k :: rest))) : W p l e R s m args below meth c H locs cells slots Qm (F0 m pc ls (.ref (ad (q + 16 * a)) :: rest)) := by
  obtain ⟨cell, g1, g2, g3, g4⟩ := hw.obj hp hq hc
  obtain ⟨⟨hx, hb, hml, hown, hts⟩, -, -, -, -, -, hK, -⟩ := hC
  obtain ⟨hS, hfc, kC, hkC, hkind⟩ := hK.1 q r hc
  obtain ⟨cf, kf, fi, f, hi, hsl⟩ := hS k hk
  refine W.getf hx hb hown (hts _ hf.1) (ref := r.1) (by rw [hf.2] at hi; exact hi) (u_facts hfc hkC (u_lays hts (lay_in hc) hk) hi).1 g1 (by rw [g3]; exact fun h => by cases h) (v := fv ad σ q a k) ?_ rfl rfl hd kk
  rw [hsl]
  exact g4 k hk
/-- what a write of a field needs of the state behind it -/
def wrt (ad : Nat → Nat) (σ σ' : HS) (q a k : Nat) (v : Value) : Prop := (∀ j, fv ad σ' q a j = if j = k then v else fv ad σ q a j) ∧ hn σ' = hn σ ∧ (∀ cA p', p' ≠ q + 16 * a → lc cA ad σ' p' = lc cA ad σ p') ∧ ∀ p1 k1 p2, al σ p1 → hR σ' (p1 % 16) (p1 / 16) k1 = some p2 → al σ p2
theorem put_fin (hw : LW G B ad σ H) (hS0 : va_S (fun q => B ≤ q) s.heap H locs) {q a k i : Nat} {r : vw_C} {v : Value} {σ' : HS} {H' : Heap} {cell : Cell} (hp : al σ (q + 16 * a)) (hq : q < 7) (hc : lcl[q]? = some r) (hk : k < r.2.2) (g2 : cell.cls = G.1.1 q) (g3 : cell.vm = .none) (g4 : ∀ k, k < r.2.2 → cell.slots[G.1.2 q k]? = some (fv ad σ q a k))
    (hap : ∀ x y, x < r.2.2 → y < r.2.2 → x ≠ y → G.1.2 q x ≠ G.1.2 q y) (hwr : wrt ad σ σ' q a k v) (e1 : H'[ad (q + 16 * a)]? = some (cell.setSlot (G.1.2 q k) v)) (e2 : H'.size = H.size) (e3 : ∀ x : Nat, x ≠ ad (q + 16 * a) → H'[x]? = H[x]?) :
    LW G B ad σ' H' ∧ va_S (fun q => B ≤ q) s.heap H' (locs ++ [⟨ad (q + 16 * a), i⟩]) := by
  refine ⟨hw.set hp hwr.2.1 e3 (LW.mkobj hq hc e1 g2 g3 (fun j hj => ?_)) (fun p' h => hwr.2.2.1 _ p' h) hwr.2.2.2, hS0.put e2 e3 (hw.1 _ hp).2⟩
  rw [t_set g4 hap hk v j hj, hwr.1 j]
  rfl
theorem put_core (hC : CX l G M p s m args meth c B) (hw : LW G B ad σ H) (hS0 : va_S (fun q => B ≤ q) s.heap H locs) {q a k idx : Nat} {r : vw_C} {v : Value} {σ' : HS} (hp : al σ (q + 16 * a)) (hq : q < 7) (hc : lcl[q]? = some r) (hk : k < r.2.2) (hf : FL M.1.cls idx r k) (hfin : (r.2.1 k).2.2.2 = false)
    (hnr : narrow (ttab q k) v = v) (hft : fits (ttab q k) v = true) (hwr : wrt ad σ σ' q a k v) (hd : decode M.2.1 pc = .ok (.putfield idx, 3))
    (kk : ∀ (H1 : Heap) (locs1 : List Loc), LW G B ad σ' H1 → va_S (fun q => B ≤ q) s.heap H1 locs1 → W p l e R s m args below meth c H1 locs1 cells slots Qm (F0 m (pc + 3) ls rest)) : W p l e R s m args below meth c H locs cells slots Qm (F0 m pc ls (v :: .ref (ad (q + 16 * a)) :: rest)) := by
  obtain ⟨cell, g1, g2, g3, g4⟩ := hw.obj hp hq hc
  obtain ⟨⟨hx, hb, hml, hown, hts⟩, -, -, -, -, -, hK, -⟩ := hC
  obtain ⟨hin, hty, hnm⟩ := lcl_ok q r hc
  have hap := va_apart (own := M.1.cls) hts hin (ttab q) hty hnm hK (ci := q) (C := r.1) (T := r.2.1) (N := r.2.2) hc
  obtain ⟨hS, hfc, kC, hkC, hkind⟩ := hK.1 q r hc
  obtain ⟨cf, kf, fi, f, hi, hsl⟩ := hS k hk
  have hlay := hts _ (hin _ (u_in_lay hk))
  unfold u_lay at hlay
  rw [if_neg (by rw [hfin]; decide)] at hlay
  have hst := (u_facts hfc hkC (u_lays hts hin hk) hi).1
  have h6 := u_store hfc hkC hkind hlay hi (hty k hk) hnr hft
  refine W.putK hx hb (f := f) (ref := r.1) ⟨hown, hts _ hf.1, ⟨cf, kf, fi, by rw [hf.2] at hi; exact hi⟩, hst⟩ (by rw [g2]; exact h6) g1 g3 (by rw [hsl]; exact k2_hasslot (g4 k hk)) rfl rfl hd fun H' e1 e2 e3 => ?_
  rw [hsl] at e1 ⊢
  obtain ⟨z1, z2⟩ := put_fin (i := G.1.2 q k) hw hS0 hp hq hc hk g2 g3 g4 hap hwr e1 e2 e3
  exact kk H' _ z1 z2
theorem putF_core (hC : CX l G M p s m args meth c B) (hw : LW G B ad σ H) (hS0 : va_S (fun q => B ≤ q) s.heap H locs) {q a k idx : Nat} {r : vw_C} {v : Value} {σ' : HS} (hp : al σ (q + 16 * a)) (hq : q < 7) (hc : lcl[q]? = some r) (hk : k < r.2.2) (hf : FL M.1.cls idx r k) (hfin : (r.2.1 k).2.2.2 = true) (hini : M.1.name = "<init>") (hdecl : r.1 = M.1.cls)
    (hnr : narrow (ttab q k) v = v) (hft : fits (ttab q k) v = true) (hwr : wrt ad σ σ' q a k v) (hd : decode M.2.1 pc = .ok (.putfield idx, 3))
    (kk : ∀ (H1 : Heap) (locs1 : List Loc), LW G B ad σ' H1 → va_S (fun q => B ≤ q) s.heap H1 locs1 → W p l e R s m args below meth c H1 locs1 cells slots Qm (F0 m (pc + 3) ls rest)) : W p l e R s m args below meth c H locs cells slots Qm (F0 m pc ls (v :: .ref (ad (q + 16 * a)) :: rest)) := by
  obtain ⟨cell, g1, g2, g3, g4⟩ := hw.obj hp hq hc
  obtain ⟨⟨hx, hb, hml, hown, hts⟩, -, -, hnme, -, -, hK, -⟩ := hC
  obtain ⟨hin, hty, hnm⟩ := lcl_ok q r hc
  have hap := va_apart (own := M.1.cls) hts hin (ttab q) hty hnm hK (ci := q) (C := r.1) (T := r.2.1) (N := r.2.2) hc
  obtain ⟨hS, hfc, kC, hkC, hkind⟩ := hK.1 q r hc
  obtain ⟨cf, kf, fi, f, hi, hsl⟩ := hS k hk
  have hlay := hts _ (hin _ (u_in_lay hk))
  unfold u_lay at hlay
  rw [if_pos hfin] at hlay
  have hst := (u_facts hfc hkC (u_lays hts hin hk) hi).1
  have hcf : m.cls = cf := by
    obtain ⟨_, _, c', _, _, _, -, -, hf', -, -, -, hown2, -⟩ := Cond.laysFinal_spec hlay
    have e1 : c' = cf := by have := hi.symm.trans hf'; simp at this; exact this.1.symm
    rw [hf.2, hdecl] at hown2
    rw [← e1]; exact Option.some.inj (hown.symm.trans hown2)
  have h6 := u_fits hfc hkC hkind (Or.inr hlay) hi (hty k hk) hnr hft
  refine W.putFinK hx hb hown (hts _ hf.1) (ref := r.1) (f := f) (by rw [hf.2] at hi; exact hi) hst hcf (hnme.trans hini) (by rw [g2]; exact h6) g1 g3 (by rw [hsl]; exact k2_hasslot (g4 k hk)) rfl rfl hd fun H' e1 e2 e3 => ?_
  rw [hsl] at e1 ⊢
  obtain ⟨z1, z2⟩ := put_fin (i := G.1.2 q k) hw hS0 hp hq hc hk g2 g3 g4 hap hwr e1 e2 e3
  exact kk H' _ z1 z2
theorem wrt_I {q a k : Nat} {v : Int32} (h : LW G B ad σ H) (h0 : fk q k = 0) : wrt ad σ (sI σ q a k v) q a k (.int v) := by
  refine ⟨fun j => ?_, rfl, fun cA p' hp => lc_sI hp, fun p1 k1 p2 h1 h2 => h.2.2.1 p1 k1 p2 h1 h2⟩
  by_cases e : j = k
  · subst e; rw [if_pos rfl, fv_I h0, I_sI, if_pos ⟨rfl, rfl, rfl⟩]
  · rw [if_neg e]; unfold fv; rw [I_sI, if_neg (show ¬ (q = q ∧ a = a ∧ j = k) from fun z => e z.2.2)]; rfl
theorem wrt_J {q a k : Nat} {v : Int64} (h : LW G B ad σ H) (h0 : fk q k = 1) : wrt ad σ (sJ σ q a k v) q a k (.long v) := by
  refine ⟨fun j => ?_, rfl, fun cA p' hp => lc_sJ hp, fun p1 k1 p2 h1 h2 => h.2.2.1 p1 k1 p2 h1 h2⟩
  by_cases e : j = k
  · subst e; rw [if_pos rfl, fv_J h0, J_sJ, if_pos ⟨rfl, rfl, rfl⟩]
  · rw [if_neg e]; unfold fv; rw [J_sJ, if_neg (show ¬ (q = q ∧ a = a ∧ j = k) from fun z => e z.2.2)]; rfl
theorem wrt_R {q a k : Nat} {v : Option Nat} (h : LW G B ad σ H) (h0 : fk q k = 2) (hv : ∀ x, v = some x → al σ x) : wrt ad σ (sR σ q a k v) q a k (va_rf (v.map ad)) := by
  refine ⟨fun j => ?_, rfl, fun cA p' hp => lc_sR hp, h.clR hv⟩
  by_cases e : j = k
  · subst e; rw [if_pos rfl, fv_R h0, R_sR, if_pos ⟨rfl, rfl, rfl⟩]
  · rw [if_neg e]; unfold fv; rw [R_sR, if_neg (show ¬ (q = q ∧ a = a ∧ j = k) from fun z => e z.2.2)]; rfl
end HR
theorem okL.eq {σ σ' : HS} {st : List Value} (h : okL σ st) (e : hn σ' = hn σ) : okL σ' st := okL.mono (fun q => by rw [e]; exact Nat.le_refl _) h
theorem okP.eq {σ σ' : HS} {st : List (Nat × Value)} (h : okP σ st) (e : hn σ' = hn σ) : okP σ' st := okP.mono (fun q => by rw [e]; exact Nat.le_refl _) h
section HR2
variable {l : Launch} {G : LG} {M : MI} {PM : LPM} {Q : LO → HS → Prop} {pc : Nat} {lv : List (Nat × Value)} {st : List Value} {σ : HS} {mc ms : Nat}
theorem e_getI {q a f idx : Nat} {r : vw_C} (hd : decode M.2.1 pc = .ok (.getfield idx, 3)) (hf : FL M.1.cls idx r f) (hc0 : lcl[q]? = some r) (hk0 : f < r.2.2 ∧ q < 7) (h0 : fk q f = 0) (k : Ex l G M PM (pc + 3) lv (.int (hI σ q a f) :: st) σ mc ms) : Ex l G M PM pc lv (.ref (q + 16 * a) :: st) σ mc ms := fun p e s m args below meth c B ad n0 ad0 H locs ls cells slots hC he hw hS hv hP hL hc hs => by
  have hp : al σ (q + 16 * a) := okR (Nat.lt_trans hk0.2 (by decide)) hL.1
  refine get_core hC hw hp hk0.2 hc0 hk0.1 hf hd ?_
  rw [fv_I h0]
  exact k p e s m args below meth c B ad n0 ad0 H locs ls cells slots hC he hw hS hv hP ⟨trivial, hL.2⟩ hc hs
theorem e_getJ {q a f idx : Nat} {r : vw_C} (hd : decode M.2.1 pc = .ok (.getfield idx, 3)) (hf : FL M.1.cls idx r f) (hc0 : lcl[q]? = some r) (hk0 : f < r.2.2 ∧ q < 7) (h0 : fk q f = 1) (k : Ex l G M PM (pc + 3) lv (.long (hJ σ q a f) :: st) σ mc ms) : Ex l G M PM pc lv (.ref (q + 16 * a) :: st) σ mc ms := fun p e s m args below meth c B ad n0 ad0 H locs ls cells slots hC he hw hS hv hP hL hc hs => by
  have hp : al σ (q + 16 * a) := okR (Nat.lt_trans hk0.2 (by decide)) hL.1
  refine get_core hC hw hp hk0.2 hc0 hk0.1 hf hd ?_
  rw [fv_J h0]
  exact k p e s m args below meth c B ad n0 ad0 H locs ls cells slots hC he hw hS hv hP ⟨trivial, hL.2⟩ hc hs
theorem e_getR {q a f idx : Nat} {r : vw_C} (hd : decode M.2.1 pc = .ok (.getfield idx, 3)) (hf : FL M.1.cls idx r f) (hc0 : lcl[q]? = some r) (hk0 : f < r.2.2 ∧ q < 7) {b : Nat} (h0 : fk q f = 2) (hr : hR σ q a f = some b) (k : Ex l G M PM (pc + 3) lv (.ref b :: st) σ mc ms) : Ex l G M PM pc lv (.ref (q + 16 * a) :: st) σ mc ms := fun p e s m args below meth c B ad n0 ad0 H locs ls cells slots hC he hw hS hv hP hL hc hs => by
  have hp : al σ (q + 16 * a) := okR (Nat.lt_trans hk0.2 (by decide)) hL.1
  have hq7 := hk0.2
  have hb : al σ b := by
    refine hw.2.2.1 (q + 16 * a) f b hp ?_
    rw [show (q + 16 * a) % 16 = q by omega, show (q + 16 * a) / 16 = a by omega]; exact hr
  refine get_core hC hw hp hk0.2 hc0 hk0.1 hf hd ?_
  rw [fv_R h0, hr]
  exact k p e s m args below meth c B ad n0 ad0 H locs ls cells slots hC he hw hS hv hP ⟨Or.inl hb, hL.2⟩ hc hs
theorem e_getN {q a f idx : Nat} {r : vw_C} (hd : decode M.2.1 pc = .ok (.getfield idx, 3)) (hf : FL M.1.cls idx r f) (hc0 : lcl[q]? = some r) (hk0 : f < r.2.2 ∧ q < 7) (h0 : fk q f = 2) (hr : hR σ q a f = none) (k : Ex l G M PM (pc + 3) lv (.null :: st) σ mc ms) : Ex l G M PM pc lv (.ref (q + 16 * a) :: st) σ mc ms := fun p e s m args below meth c B ad n0 ad0 H locs ls cells slots hC he hw hS hv hP hL hc hs => by
  have hp : al σ (q + 16 * a) := okR (Nat.lt_trans hk0.2 (by decide)) hL.1
  refine get_core hC hw hp hk0.2 hc0 hk0.1 hf hd ?_
  rw [fv_R h0, hr]
  exact k p e s m args below meth c B ad n0 ad0 H locs ls cells slots hC he hw hS hv hP ⟨trivial, hL.2⟩ hc hs
theorem e_putI {q a f idx : Nat} {r : vw_C} (hd : decode M.2.1 pc = .ok (.putfield idx, 3)) (hf : FL M.1.cls idx r f) (hc0 : lcl[q]? = some r) (hk0 : f < r.2.2 ∧ q < 7) {v : Int32} (hfin : (r.2.1 f).2.2.2 = false) (h0 : fk q f = 0) (ht : ttab q f = .int) (k : Ex l G M PM (pc + 3) lv st (sI σ q a f v) mc ms) : Ex l G M PM pc lv (.int v :: .ref (q + 16 * a) :: st) σ mc ms := fun p e s m args below meth c B ad n0 ad0 H locs ls cells slots hC he hw hS hv hP hL hc hs => by
  have hp : al σ (q + 16 * a) := okR (Nat.lt_trans hk0.2 (by decide)) hL.2.1
  exact put_core (σ' := sI σ q a f v) (v := .int v) hC hw hS hp hk0.2 hc0 hk0.1 hf hfin (by rw [ht]; rfl) (by rw [ht]; rfl) (wrt_I hw h0) hd (fun H1 locs1 hw1 hS1 => k p e s m args below meth c B ad n0 ad0 H1 locs1 ls cells slots hC he hw1 hS1 hv (okP.eq hP (by rfl)) (okL.eq hL.2.2 (by rfl)) hc hs)
theorem e_putZ {q a f idx : Nat} {r : vw_C} (hd : decode M.2.1 pc = .ok (.putfield idx, 3)) (hf : FL M.1.cls idx r f) (hc0 : lcl[q]? = some r) (hk0 : f < r.2.2 ∧ q < 7) {v : Int32} (hfin : (r.2.1 f).2.2.2 = false) (h0 : fk q f = 0) (ht : ttab q f = .boolean) (hz : v = 0 ∨ v = 1) (k : Ex l G M PM (pc + 3) lv st (sI σ q a f v) mc ms) : Ex l G M PM pc lv (.int v :: .ref (q + 16 * a) :: st) σ mc ms := fun p e s m args below meth c B ad n0 ad0 H locs ls cells slots hC he hw hS hv hP hL hc hs => by
  have hp : al σ (q + 16 * a) := okR (Nat.lt_trans hk0.2 (by decide)) hL.2.1
  exact put_core (σ' := sI σ q a f v) (v := .int v) hC hw hS hp hk0.2 hc0 hk0.1 hf hfin (by rw [ht]; exact nb_ok hz) (by rw [ht]; exact fb_ok hz) (wrt_I hw h0) hd (fun H1 locs1 hw1 hS1 => k p e s m args below meth c B ad n0 ad0 H1 locs1 ls cells slots hC he hw1 hS1 hv (okP.eq hP (by rfl)) (okL.eq hL.2.2 (by rfl)) hc hs)
theorem e_putJ {q a f idx : Nat} {r : vw_C} (hd : decode M.2.1 pc = .ok (.putfield idx, 3)) (hf : FL M.1.cls idx r f) (hc0 : lcl[q]? = some r) (hk0 : f < r.2.2 ∧ q < 7) {v : Int64} (hfin : (r.2.1 f).2.2.2 = false) (h0 : fk q f = 1) (ht : ttab q f = .long) (k : Ex l G M PM (pc + 3) lv st (sJ σ q a f v) mc ms) : Ex l G M PM pc lv (.long v :: .ref (q + 16 * a) :: st) σ mc ms := fun p e s m args below meth c B ad n0 ad0 H locs ls cells slots hC he hw hS hv hP hL hc hs => by
  have hp : al σ (q + 16 * a) := okR (Nat.lt_trans hk0.2 (by decide)) hL.2.1
  exact put_core (σ' := sJ σ q a f v) (v := .long v) hC hw hS hp hk0.2 hc0 hk0.1 hf hfin (by rw [ht]; rfl) (by rw [ht]; rfl) (wrt_J hw h0) hd (fun H1 locs1 hw1 hS1 => k p e s m args below meth c B ad n0 ad0 H1 locs1 ls cells slots hC he hw1 hS1 hv (okP.eq hP (by rfl)) (okL.eq hL.2.2 (by rfl)) hc hs)
theorem e_putR {q a f idx : Nat} {r : vw_C} (hd : decode M.2.1 pc = .ok (.putfield idx, 3)) (hf : FL M.1.cls idx r f) (hc0 : lcl[q]? = some r) (hk0 : f < r.2.2 ∧ q < 7) {b : Nat} (hb : ¬ b = 13) (hfin : (r.2.1 f).2.2.2 = false) (h0 : fk q f = 2) (ht : (∃ n, ttab q f = .object n) ∨ ∃ t, ttab q f = .array t) (k : Ex l G M PM (pc + 3) lv st (sR σ q a f (some b)) mc ms) : Ex l G M PM pc lv (.ref b :: .ref (q + 16 * a) :: st) σ mc ms := fun p e s m args below meth c B ad n0 ad0 H locs ls cells slots hC he hw hS hv hP hL hc hs => by
  have hp : al σ (q + 16 * a) := okR (Nat.lt_trans hk0.2 (by decide)) hL.2.1
  exact put_core (σ' := sR σ q a f (some b)) (v := trV ad (.ref b)) hC hw hS hp hk0.2 hc0 hk0.1 hf hfin (by rcases ht with ⟨n, h⟩ | ⟨n, h⟩ <;> rw [h] <;> rfl) (by rcases ht with ⟨n, h⟩ | ⟨n, h⟩ <;> rw [h] <;> rfl) (wrt_R hw h0 (fun x hx => by cases hx; exact hL.1.resolve_right hb)) hd (fun H1 locs1 hw1 hS1 => k p e s m args below meth c B ad n0 ad0 H1 locs1 ls cells slots hC he hw1 hS1 hv (okP.eq hP (by rfl)) (okL.eq hL.2.2 (by rfl)) hc hs)
theorem e_putN {q a f idx : Nat} {r : vw_C} (hd : decode M.2.1 pc = .ok (.putfield idx, 3)) (hf : FL M.1.cls idx r f) (hc0 : lcl[q]? = some r) (hk0 : f < r.2.2 ∧ q < 7)  (hfin : (r.2.1 f).2.2.2 = false) (h0 : fk q f = 2) (ht : (∃ n, ttab q f = .object n) ∨ ∃ t, ttab q f = .array t) (k : Ex l G M PM (pc + 3) lv st (sR σ q a f (none)) mc ms) : Ex l G M PM pc lv (.null :: .ref (q + 16 * a) :: st) σ mc ms := fun p e s m args below meth c B ad n0 ad0 H locs ls cells slots hC he hw hS hv hP hL hc hs => by
  have hp : al σ (q + 16 * a) := okR (Nat.lt_trans hk0.2 (by decide)) hL.2.1
  exact put_core (σ' := sR σ q a f (none)) (v := trV ad (.null)) hC hw hS hp hk0.2 hc0 hk0.1 hf hfin (by rcases ht with ⟨n, h⟩ | ⟨n, h⟩ <;> rw [h] <;> rfl) (by rcases ht with ⟨n, h⟩ | ⟨n, h⟩ <;> rw [h] <;> rfl) (wrt_R hw h0 (fun x hx => by cases hx)) hd (fun H1 locs1 hw1 hS1 => k p e s m args below meth c B ad n0 ad0 H1 locs1 ls cells slots hC he hw1 hS1 hv (okP.eq hP (by rfl)) (okL.eq hL.2.2 (by rfl)) hc hs)
theorem e_putIF {q a f idx : Nat} {r : vw_C} (hd : decode M.2.1 pc = .ok (.putfield idx, 3)) (hf : FL M.1.cls idx r f) (hc0 : lcl[q]? = some r) (hk0 : f < r.2.2 ∧ q < 7) {v : Int32} (hfin : (r.2.1 f).2.2.2 = true ∧ M.1.name = "<init>" ∧ r.1 = M.1.cls) (h0 : fk q f = 0) (ht : ttab q f = .int) (k : Ex l G M PM (pc + 3) lv st (sI σ q a f v) mc ms) : Ex l G M PM pc lv (.int v :: .ref (q + 16 * a) :: st) σ mc ms := fun p e s m args below meth c B ad n0 ad0 H locs ls cells slots hC he hw hS hv hP hL hc hs => by
  have hp : al σ (q + 16 * a) := okR (Nat.lt_trans hk0.2 (by decide)) hL.2.1
  exact putF_core (σ' := sI σ q a f v) (v := .int v) hC hw hS hp hk0.2 hc0 hk0.1 hf hfin.1 hfin.2.1 hfin.2.2 (by rw [ht]; rfl) (by rw [ht]; rfl) (wrt_I hw h0) hd (fun H1 locs1 hw1 hS1 => k p e s m args below meth c B ad n0 ad0 H1 locs1 ls cells slots hC he hw1 hS1 hv (okP.eq hP (by rfl)) (okL.eq hL.2.2 (by rfl)) hc hs)
theorem e_putZF {q a f idx : Nat} {r : vw_C} (hd : decode M.2.1 pc = .ok (.putfield idx, 3)) (hf : FL M.1.cls idx r f) (hc0 : lcl[q]? = some r) (hk0 : f < r.2.2 ∧ q < 7) {v : Int32} (hfin : (r.2.1 f).2.2.2 = true ∧ M.1.name = "<init>" ∧ r.1 = M.1.cls) (h0 : fk q f = 0) (ht : ttab q f = .boolean) (hz : v = 0 ∨ v = 1) (k : Ex l G M PM (pc + 3) lv st (sI σ q a f v) mc ms) : Ex l G M PM pc lv (.int v :: .ref (q + 16 * a) :: st) σ mc ms := fun p e s m args below meth c B ad n0 ad0 H locs ls cells slots hC he hw hS hv hP hL hc hs => by
  have hp : al σ (q + 16 * a) := okR (Nat.lt_trans hk0.2 (by decide)) hL.2.1
  exact putF_core (σ' := sI σ q a f v) (v := .int v) hC hw hS hp hk0.2 hc0 hk0.1 hf hfin.1 hfin.2.1 hfin.2.2 (by rw [ht]; exact nb_ok hz) (by rw [ht]; exact fb_ok hz) (wrt_I hw h0) hd (fun H1 locs1 hw1 hS1 => k p e s m args below meth c B ad n0 ad0 H1 locs1 ls cells slots hC he hw1 hS1 hv (okP.eq hP (by rfl)) (okL.eq hL.2.2 (by rfl)) hc hs)
theorem e_putJF {q a f idx : Nat} {r : vw_C} (hd : decode M.2.1 pc = .ok (.putfield idx, 3)) (hf : FL M.1.cls idx r f) (hc0 : lcl[q]? = some r) (hk0 : f < r.2.2 ∧ q < 7) {v : Int64} (hfin : (r.2.1 f).2.2.2 = true ∧ M.1.name = "<init>" ∧ r.1 = M.1.cls) (h0 : fk q f = 1) (ht : ttab q f = .long) (k : Ex l G M PM (pc + 3) lv st (sJ σ q a f v) mc ms) : Ex l G M PM pc lv (.long v :: .ref (q + 16 * a) :: st) σ mc ms := fun p e s m args below meth c B ad n0 ad0 H locs ls cells slots hC he hw hS hv hP hL hc hs => by
  have hp : al σ (q + 16 * a) := okR (Nat.lt_trans hk0.2 (by decide)) hL.2.1
  exact putF_core (σ' := sJ σ q a f v) (v := .long v) hC hw hS hp hk0.2 hc0 hk0.1 hf hfin.1 hfin.2.1 hfin.2.2 (by rw [ht]; rfl) (by rw [ht]; rfl) (wrt_J hw h0) hd (fun H1 locs1 hw1 hS1 => k p e s m args below meth c B ad n0 ad0 H1 locs1 ls cells slots hC he hw1 hS1 hv (okP.eq hP (by rfl)) (okL.eq hL.2.2 (by rfl)) hc hs)
theorem e_putRF {q a f idx : Nat} {r : vw_C} (hd : decode M.2.1 pc = .ok (.putfield idx, 3)) (hf : FL M.1.cls idx r f) (hc0 : lcl[q]? = some r) (hk0 : f < r.2.2 ∧ q < 7) {b : Nat} (hb : ¬ b = 13) (hfin : (r.2.1 f).2.2.2 = true ∧ M.1.name = "<init>" ∧ r.1 = M.1.cls) (h0 : fk q f = 2) (ht : (∃ n, ttab q f = .object n) ∨ ∃ t, ttab q f = .array t) (k : Ex l G M PM (pc + 3) lv st (sR σ q a f (some b)) mc ms) : Ex l G M PM pc lv (.ref b :: .ref (q + 16 * a) :: st) σ mc ms := fun p e s m args below meth c B ad n0 ad0 H locs ls cells slots hC he hw hS hv hP hL hc hs => by
  have hp : al σ (q + 16 * a) := okR (Nat.lt_trans hk0.2 (by decide)) hL.2.1
  exact putF_core (σ' := sR σ q a f (some b)) (v := trV ad (.ref b)) hC hw hS hp hk0.2 hc0 hk0.1 hf hfin.1 hfin.2.1 hfin.2.2 (by rcases ht with ⟨n, h⟩ | ⟨n, h⟩ <;> rw [h] <;> rfl) (by rcases ht with ⟨n, h⟩ | ⟨n, h⟩ <;> rw [h] <;> rfl) (wrt_R hw h0 (fun x hx => by cases hx; exact hL.1.resolve_right hb)) hd (fun H1 locs1 hw1 hS1 => k p e s m args below meth c B ad n0 ad0 H1 locs1 ls cells slots hC he hw1 hS1 hv (okP.eq hP (by rfl)) (okL.eq hL.2.2 (by rfl)) hc hs)
theorem e_putNF {q a f idx : Nat} {r : vw_C} (hd : decode M.2.1 pc = .ok (.putfield idx, 3)) (hf : FL M.1.cls idx r f) (hc0 : lcl[q]? = some r) (hk0 : f < r.2.2 ∧ q < 7)  (hfin : (r.2.1 f).2.2.2 = true ∧ M.1.name = "<init>" ∧ r.1 = M.1.cls) (h0 : fk q f = 2) (ht : (∃ n, ttab q f = .object n) ∨ ∃ t, ttab q f = .array t) (k : Ex l G M PM (pc + 3) lv st (sR σ q a f (none)) mc ms) : Ex l G M PM pc lv (.null :: .ref (q + 16 * a) :: st) σ mc ms := fun p e s m args below meth c B ad n0 ad0 H locs ls cells slots hC he hw hS hv hP hL hc hs => by
  have hp : al σ (q + 16 * a) := okR (Nat.lt_trans hk0.2 (by decide)) hL.2.1
  exact putF_core (σ' := sR σ q a f (none)) (v := trV ad (.null)) hC hw hS hp hk0.2 hc0 hk0.1 hf hfin.1 hfin.2.1 hfin.2.2 (by rcases ht with ⟨n, h⟩ | ⟨n, h⟩ <;> rw [h] <;> rfl) (by rcases ht with ⟨n, h⟩ | ⟨n, h⟩ <;> rw [h] <;> rfl) (wrt_R hw h0 (fun x hx => by cases hx)) hd (fun H1 locs1 hw1 hS1 => k p e s m args below meth c B ad n0 ad0 H1 locs1 ls cells slots hC he hw1 hS1 hv (okP.eq hP (by rfl)) (okL.eq hL.2.2 (by rfl)) hc hs)
theorem e_iald {a : Nat} {j : Int32} (hd : decode M.2.1 pc = .ok (.iaload, 1)) (hin : vp_in j (hl σ 7 a)) (k : Ex l G M PM (pc + 1) lv (.int (hI σ 7 a j.toNatClampNeg) :: st) σ mc ms) : Ex l G M PM pc lv (.int j :: .ref (7 + 16 * a) :: st) σ mc ms := fun p e s m args below meth c B ad n0 ad0 H locs ls cells slots hC he hw hS hv hP hL hc hs => by
  have hp : al σ (7 + 16 * a) := okR (by decide) hL.2.1
  have hlt : j.toNatClampNeg < hl σ 7 a := Nat.not_le.mp fun q => hin (Or.inr q)
  have hK := hC.2.2.2.2.2.2.1
  exact W.iald (v := .int (hI σ 7 a j.toNatClampNeg)) hC.1.1 hC.1.2.1 (hw.arI hp ⟨by decide, by decide⟩) ((hK.2 0 _ rfl).1 _ _) (fun q => by cases q) (by rw [arrV_size]; exact hin) (by rw [arrV_read _ _ hlt]) rfl rfl hd (k p e s m args below meth c B ad n0 ad0 H locs ls cells slots hC he hw hS hv hP ⟨trivial, hL.2.2⟩ hc hs)
theorem e_zald {a : Nat} {j : Int32} (hd : decode M.2.1 pc = .ok (.baload, 1)) (hin : vp_in j (hl σ 8 a)) (k : Ex l G M PM (pc + 1) lv (.int (hI σ 8 a j.toNatClampNeg) :: st) σ mc ms) : Ex l G M PM pc lv (.int j :: .ref (8 + 16 * a) :: st) σ mc ms := fun p e s m args below meth c B ad n0 ad0 H locs ls cells slots hC he hw hS hv hP hL hc hs => by
  have hp : al σ (8 + 16 * a) := okR (by decide) hL.2.1
  have hlt : j.toNatClampNeg < hl σ 8 a := Nat.not_le.mp fun q => hin (Or.inr q)
  have hK := hC.2.2.2.2.2.2.1
  exact W.zald (v := .int (hI σ 8 a j.toNatClampNeg)) hC.1.1 hC.1.2.1 (hw.arI hp ⟨by decide, by decide⟩) ((hK.2 1 _ rfl).1 _ _) (fun q => by cases q) (by rw [arrV_size]; exact hin) (by rw [arrV_read _ _ hlt]) rfl rfl hd (k p e s m args below meth c B ad n0 ad0 H locs ls cells slots hC he hw hS hv hP ⟨trivial, hL.2.2⟩ hc hs)
theorem e_lald {a : Nat} {j : Int32} (hd : decode M.2.1 pc = .ok (.laload, 1)) (hin : vp_in j (hl σ 9 a)) (k : Ex l G M PM (pc + 1) lv (.long (hJ σ 9 a j.toNatClampNeg) :: st) σ mc ms) : Ex l G M PM pc lv (.int j :: .ref (9 + 16 * a) :: st) σ mc ms := fun p e s m args below meth c B ad n0 ad0 H locs ls cells slots hC he hw hS hv hP hL hc hs => by
  have hp : al σ (9 + 16 * a) := okR (by decide) hL.2.1
  have hlt : j.toNatClampNeg < hl σ 9 a := Nat.not_le.mp fun q => hin (Or.inr q)
  have hK := hC.2.2.2.2.2.2.1
  exact W.lald (v := .long (hJ σ 9 a j.toNatClampNeg)) hC.1.1 hC.1.2.1 (hw.arJ hp) ((hK.2 2 _ rfl).1 _ _) (fun q => by cases q) (by rw [arrV_size]; exact hin) (by rw [arrV_read _ _ hlt]) rfl rfl hd (k p e s m args below meth c B ad n0 ad0 H locs ls cells slots hC he hw hS hv hP ⟨trivial, hL.2.2⟩ hc hs)
theorem e_aald {q a b : Nat} {C : String} {j : Int32} (hd : decode M.2.1 pc = .ok (.aaload, 1)) (hq : 10 ≤ q ∧ q < 13) (ht : (tyA G.2.1)[q - 7]? = some (G.2.1 (q - 7), .object C)) (hin : vp_in j (hl σ q a)) (hr : hR σ q a j.toNatClampNeg = some b) (k : Ex l G M PM (pc + 1) lv (.ref b :: st) σ mc ms) : Ex l G M PM pc lv (.int j :: .ref (q + 16 * a) :: st) σ mc ms := fun p e s m args below meth c B ad n0 ad0 H locs ls cells slots hC he hw hS hv hP hL hc hs => by
  have hp : al σ (q + 16 * a) := okR hq.2 hL.2.1
  have hlt : j.toNatClampNeg < hl σ q a := Nat.not_le.mp fun q => hin (Or.inr q)
  have hK := hC.2.2.2.2.2.2.1
  have hb : al σ b := by
    refine hw.2.2.1 (q + 16 * a) j.toNatClampNeg b hp ?_
    rw [show (q + 16 * a) % 16 = q by omega, show (q + 16 * a) / 16 = a by omega]; exact hr
  refine W.aald (v := va_rf ((hR σ q a j.toNatClampNeg).map ad)) (ty := .object C) hC.1.1 hC.1.2.1 (hw.arR hp hq) ((hK.2 (q - 7) _ ht).1 _ _) rfl (fun q => by cases q) (by rw [arrV_size]; exact hin) (by rw [arrV_read _ _ hlt]) rfl rfl hd ?_
  rw [hr]
  exact k p e s m args below meth c B ad n0 ad0 H locs ls cells slots hC he hw hS hv hP ⟨Or.inl hb, hL.2.2⟩ hc hs
theorem e_aaldN {q a : Nat} {C : String} {j : Int32} (hd : decode M.2.1 pc = .ok (.aaload, 1)) (hq : 10 ≤ q ∧ q < 13) (ht : (tyA G.2.1)[q - 7]? = some (G.2.1 (q - 7), .object C)) (hin : vp_in j (hl σ q a)) (hr : hR σ q a j.toNatClampNeg = none) (k : Ex l G M PM (pc + 1) lv (.null :: st) σ mc ms) : Ex l G M PM pc lv (.int j :: .ref (q + 16 * a) :: st) σ mc ms := fun p e s m args below meth c B ad n0 ad0 H locs ls cells slots hC he hw hS hv hP hL hc hs => by
  have hp : al σ (q + 16 * a) := okR hq.2 hL.2.1
  have hlt : j.toNatClampNeg < hl σ q a := Nat.not_le.mp fun q => hin (Or.inr q)
  have hK := hC.2.2.2.2.2.2.1
  refine W.aald (v := va_rf ((hR σ q a j.toNatClampNeg).map ad)) (ty := .object C) hC.1.1 hC.1.2.1 (hw.arR hp hq) ((hK.2 (q - 7) _ ht).1 _ _) rfl (fun q => by cases q) (by rw [arrV_size]; exact hin) (by rw [arrV_read _ _ hlt]) rfl rfl hd ?_
  rw [hr]
  exact k p e s m args below meth c B ad n0 ad0 H locs ls cells slots hC he hw hS hv hP ⟨trivial, hL.2.2⟩ hc hs
theorem e_alen {q a : Nat} {ty : FieldType} (hd : decode M.2.1 pc = .ok (.arraylength, 1)) (hq : 7 ≤ q ∧ q < 13) (ht : (tyA G.2.1)[q - 7]? = some (G.2.1 (q - 7), ty)) (k : Ex l G M PM (pc + 1) lv (.int (Int32.ofNat (hl σ q a)) :: st) σ mc ms) : Ex l G M PM pc lv (.ref (q + 16 * a) :: st) σ mc ms := fun p e s m args below meth c B ad n0 ad0 H locs ls cells slots hC he hw hS hv hP hL hc hs => by
  have hp : al σ (q + 16 * a) := okR hq.2 hL.1
  have hK := hC.2.2.2.2.2.2.1
  have hcell : ∃ f : Nat → Value, H[ad (q + 16 * a)]? = some (arrV (G.2.1 (q - 7)) (hl σ q a) f) := by
    by_cases h9 : q < 9
    · exact ⟨_, hw.arI hp ⟨hq.1, h9⟩⟩
    · by_cases h10 : q = 9
      · subst h10; exact ⟨_, hw.arJ hp⟩
      · exact ⟨_, hw.arR hp ⟨by omega, hq.2⟩⟩
  obtain ⟨f, hf⟩ := hcell
  exact W.alen (n := Int32.ofNat (hl σ q a)) hC.1.1 hC.1.2.1 hf ((hK.2 (q - 7) _ ht).1 _ _) (by rw [arrV_size]) rfl rfl hd (k p e s m args below meth c B ad n0 ad0 H locs ls cells slots hC he hw hS hv hP ⟨trivial, hL.2⟩ hc hs)
theorem updV_I {f : Nat → Int32} {k : Nat} {x : Int32} {g : Nat → Int32} (h : ∀ j, g j = if j = k then x else f j) : updV (fun j => Value.int (f j)) k (.int x) = fun j => Value.int (g j) := by
  funext j
  rw [h j]
  by_cases e : j = k
  · subst e; simp [updV]
  · simp [updV, e]
theorem updV_J {f : Nat → Int64} {k : Nat} {x : Int64} {g : Nat → Int64} (h : ∀ j, g j = if j = k then x else f j) : updV (fun j => Value.long (f j)) k (.long x) = fun j => Value.long (g j) := by
  funext j
  rw [h j]
  by_cases e : j = k
  · subst e; simp [updV]
  · simp [updV, e]
theorem updV_R {f : Nat → Option Nat} {k : Nat} {x : Option Nat} {g : Nat → Option Nat} (h : ∀ j, g j = if j = k then x else f j) : updV (fun j => va_rf (f j)) k (va_rf x) = fun j => va_rf (g j) := by
  funext j
  rw [h j]
  by_cases e : j = k
  · subst e; simp [updV]
  · simp [updV, e]
theorem e_iast {a : Nat} {j : Int32} {x : Int32} (hd : decode M.2.1 pc = .ok (.iastore, 1)) (hin : vp_in j (hl σ 7 a))  (k : Ex l G M PM (pc + 1) lv st (sI σ 7 a j.toNatClampNeg x) mc ms) : Ex l G M PM pc lv (.int x :: .int j :: .ref (7 + 16 * a) :: st) σ mc ms := fun p e s m args below meth c B ad n0 ad0 H locs ls cells slots hC he hw hS hv hP hL hc hs => by
  have hp : al σ (7 + 16 * a) := okR (by decide) hL.2.2.1
  have hK := hC.2.2.2.2.2.2.1
  refine W.iast hC.1.1 hC.1.2.1 (hw.arI hp ⟨by decide, by decide⟩) ((hK.2 0 _ rfl).1 _ _) (fun q => by cases q) (by rw [arrV_size]; exact hin) rfl rfl hd fun H1 e1 z oq => ?_
  rw [arrV_store] at e1
  have hw1 : LW G B ad (sI σ 7 a j.toNatClampNeg x) H1 := by
    refine hw.set hp rfl oq ?_ (fun p' h => lc_sI h) (fun p1 k1 p2 h1 h2 => hw.2.2.1 p1 k1 p2 h1 h2)
    rw [lc_arI ⟨by decide, by decide⟩]
    show H1[ad (7 + 16 * a)]? = some (vp_cell _ _)
    rw [e1, vp_cell_i, updV_I (g := hI (sI σ 7 a j.toNatClampNeg x) 7 a) (fun j2 => by rw [I_sI]; simp)]
    rfl
  exact k p e s m args below meth c B ad n0 ad0 H1 _ ls cells slots hC he hw1 (hS.put z oq (hw.1 _ hp).2) hv (okP.eq hP (by rfl)) (okL.eq hL.2.2.2 (by rfl)) hc hs
theorem e_zast {a : Nat} {j : Int32} {x : Int32} (hd : decode M.2.1 pc = .ok (.bastore, 1)) (hin : vp_in j (hl σ 8 a)) (hz : x = 0 ∨ x = 1) (k : Ex l G M PM (pc + 1) lv st (sI σ 8 a j.toNatClampNeg x) mc ms) : Ex l G M PM pc lv (.int x :: .int j :: .ref (8 + 16 * a) :: st) σ mc ms := fun p e s m args below meth c B ad n0 ad0 H locs ls cells slots hC he hw hS hv hP hL hc hs => by
  have hp : al σ (8 + 16 * a) := okR (by decide) hL.2.2.1
  have hK := hC.2.2.2.2.2.2.1
  refine W.zast hC.1.1 hC.1.2.1 (hw.arI hp ⟨by decide, by decide⟩) ((hK.2 1 _ rfl).1 _ _) (fun q => by cases q) (by rw [arrV_size]; exact hin) rfl rfl hd fun H1 e1 z oq => ?_
  rw [nb_ok hz] at e1
  rw [arrV_store] at e1
  have hw1 : LW G B ad (sI σ 8 a j.toNatClampNeg x) H1 := by
    refine hw.set hp rfl oq ?_ (fun p' h => lc_sI h) (fun p1 k1 p2 h1 h2 => hw.2.2.1 p1 k1 p2 h1 h2)
    rw [lc_arI ⟨by decide, by decide⟩]
    show H1[ad (8 + 16 * a)]? = some (vp_cell _ _)
    rw [e1, vp_cell_i, updV_I (g := hI (sI σ 8 a j.toNatClampNeg x) 8 a) (fun j2 => by rw [I_sI]; simp)]
    rfl
  exact k p e s m args below meth c B ad n0 ad0 H1 _ ls cells slots hC he hw1 (hS.put z oq (hw.1 _ hp).2) hv (okP.eq hP (by rfl)) (okL.eq hL.2.2.2 (by rfl)) hc hs
theorem e_last {a : Nat} {j : Int32} {x : Int64} (hd : decode M.2.1 pc = .ok (.lastore, 1)) (hin : vp_in j (hl σ 9 a))  (k : Ex l G M PM (pc + 1) lv st (sJ σ 9 a j.toNatClampNeg x) mc ms) : Ex l G M PM pc lv (.long x :: .int j :: .ref (9 + 16 * a) :: st) σ mc ms := fun p e s m args below meth c B ad n0 ad0 H locs ls cells slots hC he hw hS hv hP hL hc hs => by
  have hp : al σ (9 + 16 * a) := okR (by decide) hL.2.2.1
  have hK := hC.2.2.2.2.2.2.1
  refine W.last hC.1.1 hC.1.2.1 (hw.arJ hp) ((hK.2 2 _ rfl).1 _ _) (fun q => by cases q) (by rw [arrV_size]; exact hin) rfl rfl hd fun H1 e1 z oq => ?_
  rw [arrV_store] at e1
  have hw1 : LW G B ad (sJ σ 9 a j.toNatClampNeg x) H1 := by
    refine hw.set hp rfl oq ?_ (fun p' h => lc_sJ h) (fun p1 k1 p2 h1 h2 => hw.2.2.1 p1 k1 p2 h1 h2)
    rw [lc_arJ]
    show H1[ad (9 + 16 * a)]? = some (vp_cell _ _)
    rw [e1, vp_cell_l, updV_J (g := hJ (sJ σ 9 a j.toNatClampNeg x) 9 a) (fun j2 => by rw [J_sJ]; simp)]
    rfl
  exact k p e s m args below meth c B ad n0 ad0 H1 _ ls cells slots hC he hw1 (hS.put z oq (hw.1 _ hp).2) hv (okP.eq hP (by rfl)) (okL.eq hL.2.2.2 (by rfl)) hc hs
theorem e_aast {q a ci b : Nat} {r : vw_C} {j : Int32} (hd : decode M.2.1 pc = .ok (.aastore, 1)) (hq : 10 ≤ q ∧ q < 13) (hci : ci < 7) (hcr : lcl[ci]? = some r) (ht : (tyA G.2.1)[q - 7]? = some (G.2.1 (q - 7), .object r.1)) (hin : vp_in j (hl σ q a)) (k : Ex l G M PM (pc + 1) lv st (sR σ q a j.toNatClampNeg (some (ci + 16 * b))) mc ms) : Ex l G M PM pc lv (.ref (ci + 16 * b) :: .int j :: .ref (q + 16 * a) :: st) σ mc ms := fun p e s m args below meth c B ad n0 ad0 H locs ls cells slots hC he hw hS hv hP hL hc hs => by
  have hp : al σ (q + 16 * a) := okR hq.2 hL.2.2.1
  have hpb : al σ (ci + 16 * b) := okR (by omega) hL.1
  have hK := hC.2.2.2.2.2.2.1
  have hlt : j.toNatClampNeg < hl σ q a := Nat.not_le.mp fun q => hin (Or.inr q)
  have h0 : ¬ j < 0 := fun q => hin (Or.inl q)
  obtain ⟨cellV, g1, g2, g3, -⟩ := hw.obj hpb hci hcr
  have hcls := (hK.1 ci r hcr).2
  obtain ⟨kA, comp, k1, k2, k3, -⟩ := (hK.2 (q - 7) _ ht).2
  have hcomp : comp = G.1.1 ci := Option.some.inj (k3.symm.trans hcls.1)
  subst hcomp
  obtain ⟨kC, hkC, -⟩ := hcls.2
  refine W.aast hC.1.1 hC.1.2.1 (hw.arR hp hq) (fun q h => by cases h) (fun h => by cases h) k1 k2 rfl hkC ⟨h0, by rw [arrV_size]; exact hlt⟩ g1 (fun q h => by rw [g3] at h; cases h) (by rw [g2]; exact hkC) (by rw [g2]; exact va_assign hcls) rfl rfl hd fun H1 e1 z oq => ?_
  rw [arrV_store] at e1
  have hw1 : LW G B ad (sR σ q a j.toNatClampNeg (some (ci + 16 * b))) H1 := by
    refine hw.set hp rfl oq ?_ (fun p' h => lc_sR h) (hw.clR (fun x hx => by cases hx; exact hpb))
    rw [lc_arR hq]
    show H1[ad (q + 16 * a)]? = some (vp_cell _ _)
    rw [e1, vp_cell_q]
    congr 2
    exact updV_R (x := (some (ci + 16 * b)).map ad) (fun j2 => by
      show Option.map ad (hR (sR σ q a j.toNatClampNeg (some (ci + 16 * b))) q a j2) = _
      rw [R_sR]
      by_cases e : j2 = j.toNatClampNeg
      · simp [e]
      · simp [e])
  exact k p e s m args below meth c B ad n0 ad0 H1 _ ls cells slots hC he hw1 (hS.put z oq (hw.1 _ hp).2) hv (okP.eq hP (by rfl)) (okL.eq hL.2.2.2 (by rfl)) hc hs
theorem e_new {q idx : Nat} {r : vw_C} (hd : decode M.2.1 pc = .ok (.new idx, 3)) (hc0 : lcl[q]? = some r) (hq : q < 7) (hcl : Cond.classLink M.1.cls idx r.1 ∈ gt) (hins : Cond.instantiable r.1 r.2.2 ∈ gt) (hini : Cond.initialized r.1 ∈ gt) (k : Ex l G M PM (pc + 3) lv (.ref (q + 16 * hn σ q) :: st) (nw σ q 0) mc ms) : Ex l G M PM pc lv st σ (mc + 1) (ms + r.2.2) := fun p e s m args below meth c B ad n0 ad0 H locs ls cells slots hC he hw hS hv hP hL hc hs => by
  have hLr := hL
  have hK := hC.2.2.2.2.2.2.1
  have hts := hC.1.2.2.2.2
  have hKn := hK.1 q r hc0
  obtain ⟨hin, hty, hnm⟩ := lcl_ok q r hc0
  refine W.newcK hC.1.1 hC.1.2.1 hC.1.2.2.2.1 (hts _ hcl) (hts _ hins) (hts _ hini) rfl hd (by omega) (by omega) hKn.2.1 rfl fun H1 kC hkC e1 z1 o1 => ?_
  obtain ⟨ad2, hx2, hw2, had, hal⟩ := LW.new (n := 0) hw (show q < 13 by omega) rfl (Nat.le_trans hC.2.2.2.2.2.1 hS.1) o1 (fun ad' h9 => by
    obtain ⟨cell, c1, c2, c3, c4⟩ := u_born (ttab q) hts hin hKn hkC e1 hty
    refine LW.mkobj hq hc0 (by rw [h9]; exact c1) c2 c3 (fun k hk => ?_)
    rw [show cell.slots[G.1.2 q k]? = some (defaultValue (ttab q k)) from c4 k hk, dfl_ok q r hc0 k hk]
    unfold fv
    rw [I_nw, J_nw, R_nw, if_pos (show q = q ∧ hn σ q = hn σ q from ⟨rfl, rfl⟩), if_pos (show q = q ∧ hn σ q = hn σ q from ⟨rfl, rfl⟩), if_pos (show q = q ∧ hn σ q = hn σ q from ⟨rfl, rfl⟩)]
    rfl)
  have h13 : ad2 13 = ad 13 := hw2.2.2.2.trans hw.2.2.2.symm
  have hv2 : trL ad lv = trL ad2 lv := (trL_ext hx2 h13 hP).symm
  have hst2 : trS ad2 st = trS ad st := trS_ext hx2 h13 hL
  refine W.eq (g2 := F0 m (pc + 3) ls (trS ad2 (.ref (q + 16 * hn σ q) :: st))) ?_ (k p e s m args below meth c B ad2 n0 ad0 H1 locs ls (cells + 1) (slots + r.2.2) hC (he.trans hx2) hw2 ⟨Nat.le_trans hS.1 (by omega), fun x h1 h2 => (o1 x (Nat.lt_of_lt_of_le h1 hS.1)).trans (hS.2.1 x h1 h2), hS.2.2⟩ (hv2 ▸ hv) (okP.mono hx2.1 hP) ⟨Or.inl hal, okL.mono hx2.1 hLr⟩ (by omega) (by omega))
  show F0 m (pc + 3) ls (.ref H.size :: trS ad st) = F0 m (pc + 3) ls (.ref (ad2 (q + 16 * hn σ q)) :: trS ad2 st)
  rw [had, hst2]
theorem e_newai {n : Int32} {N : Nat} (hd : decode M.2.1 pc = .ok (.newarray .int, 2)) (hcl : Cond.arrayClass .int ∈ gt) (hn0 : ¬ n < 0) (hN : n.toNatClampNeg = N) (hby : N ≤ 60000000) (k : Ex l G M PM (pc + 2) lv (.ref (7 + 16 * hn σ 7) :: st) (nw σ 7 N) mc ms) : Ex l G M PM pc lv (.int n :: st) σ (mc + 1) (ms + N) := fun p e s m args below meth c B ad n0 ad0 H locs ls cells slots hC he hw hS hv hP hL hc hs => by
  have hLr := hL.2
  have hK := hC.2.2.2.2.2.2.1
  have hts := hC.1.2.2.2.2
  refine va_newaK hC.1.1 hC.1.2.1 (atype := .int) (hts _ hcl) rfl hd rfl hn0 hN (by show N * 4 ≤ _; omega) (by omega) (by omega) rfl fun H1 cA e1 z1 o1 hAr hNm => ?_
  have hcA : cA = G.2.1 0 := Option.some.inj (hNm.symm.trans (hK.2 0 _ rfl).2)
  subst hcA
  obtain ⟨ad2, hx2, hw2, had, hal⟩ := LW.new (n := N) (q := 7) hw (by decide) rfl (Nat.le_trans hC.2.2.2.2.2.1 hS.1) o1 (fun ad' h9 => by
    rw [lc_arI ⟨by decide, by decide⟩, h9, l_nw, if_pos ⟨rfl, rfl⟩, show hI (nw σ 7 N) 7 (hn σ 7) = fun _ => (0 : Int32) from funext fun j => by rw [I_nw, if_pos ⟨rfl, rfl⟩]]
    exact e1)
  have h13 : ad2 13 = ad 13 := hw2.2.2.2.trans hw.2.2.2.symm
  have hv2 : trL ad lv = trL ad2 lv := (trL_ext hx2 h13 hP).symm
  have hst2 : trS ad2 st = trS ad st := trS_ext hx2 h13 hLr
  refine W.eq (g2 := F0 m (pc + 2) ls (trS ad2 (.ref (7 + 16 * hn σ 7) :: st))) ?_ (k p e s m args below meth c B ad2 n0 ad0 H1 locs ls (cells + 1) (slots + N) hC (he.trans hx2) hw2 ⟨Nat.le_trans hS.1 (by omega), fun x h1 h2 => (o1 x (Nat.lt_of_lt_of_le h1 hS.1)).trans (hS.2.1 x h1 h2), hS.2.2⟩ (hv2 ▸ hv) (okP.mono hx2.1 hP) ⟨Or.inl hal, okL.mono hx2.1 hLr⟩ (by omega) (by omega))
  show F0 m (pc + 2) ls (.ref H.size :: trS ad st) = F0 m (pc + 2) ls (.ref (ad2 (7 + 16 * hn σ 7)) :: trS ad2 st)
  rw [had, hst2]
theorem e_newaz {n : Int32} {N : Nat} (hd : decode M.2.1 pc = .ok (.newarray .boolean, 2)) (hcl : Cond.arrayClass .boolean ∈ gt) (hn0 : ¬ n < 0) (hN : n.toNatClampNeg = N) (hby : N ≤ 60000000) (k : Ex l G M PM (pc + 2) lv (.ref (8 + 16 * hn σ 8) :: st) (nw σ 8 N) mc ms) : Ex l G M PM pc lv (.int n :: st) σ (mc + 1) (ms + N) := fun p e s m args below meth c B ad n0 ad0 H locs ls cells slots hC he hw hS hv hP hL hc hs => by
  have hLr := hL.2
  have hK := hC.2.2.2.2.2.2.1
  have hts := hC.1.2.2.2.2
  refine va_newaK hC.1.1 hC.1.2.1 (atype := .boolean) (hts _ hcl) rfl hd rfl hn0 hN (by show N * 1 ≤ _; omega) (by omega) (by omega) rfl fun H1 cA e1 z1 o1 hAr hNm => ?_
  have hcA : cA = G.2.1 1 := Option.some.inj (hNm.symm.trans (hK.2 1 _ rfl).2)
  subst hcA
  obtain ⟨ad2, hx2, hw2, had, hal⟩ := LW.new (n := N) (q := 8) hw (by decide) rfl (Nat.le_trans hC.2.2.2.2.2.1 hS.1) o1 (fun ad' h9 => by
    rw [lc_arI ⟨by decide, by decide⟩, h9, l_nw, if_pos ⟨rfl, rfl⟩, show hI (nw σ 8 N) 8 (hn σ 8) = fun _ => (0 : Int32) from funext fun j => by rw [I_nw, if_pos ⟨rfl, rfl⟩]]
    exact e1)
  have h13 : ad2 13 = ad 13 := hw2.2.2.2.trans hw.2.2.2.symm
  have hv2 : trL ad lv = trL ad2 lv := (trL_ext hx2 h13 hP).symm
  have hst2 : trS ad2 st = trS ad st := trS_ext hx2 h13 hLr
  refine W.eq (g2 := F0 m (pc + 2) ls (trS ad2 (.ref (8 + 16 * hn σ 8) :: st))) ?_ (k p e s m args below meth c B ad2 n0 ad0 H1 locs ls (cells + 1) (slots + N) hC (he.trans hx2) hw2 ⟨Nat.le_trans hS.1 (by omega), fun x h1 h2 => (o1 x (Nat.lt_of_lt_of_le h1 hS.1)).trans (hS.2.1 x h1 h2), hS.2.2⟩ (hv2 ▸ hv) (okP.mono hx2.1 hP) ⟨Or.inl hal, okL.mono hx2.1 hLr⟩ (by omega) (by omega))
  show F0 m (pc + 2) ls (.ref H.size :: trS ad st) = F0 m (pc + 2) ls (.ref (ad2 (8 + 16 * hn σ 8)) :: trS ad2 st)
  rw [had, hst2]
theorem e_newal {n : Int32} {N : Nat} (hd : decode M.2.1 pc = .ok (.newarray .long, 2)) (hcl : Cond.arrayClass .long ∈ gt) (hn0 : ¬ n < 0) (hN : n.toNatClampNeg = N) (hby : N ≤ 60000000) (k : Ex l G M PM (pc + 2) lv (.ref (9 + 16 * hn σ 9) :: st) (nw σ 9 N) mc ms) : Ex l G M PM pc lv (.int n :: st) σ (mc + 1) (ms + N) := fun p e s m args below meth c B ad n0 ad0 H locs ls cells slots hC he hw hS hv hP hL hc hs => by
  have hLr := hL.2
  have hK := hC.2.2.2.2.2.2.1
  have hts := hC.1.2.2.2.2
  refine va_newaK hC.1.1 hC.1.2.1 (atype := .long) (hts _ hcl) rfl hd rfl hn0 hN (by show N * 8 ≤ _; omega) (by omega) (by omega) rfl fun H1 cA e1 z1 o1 hAr hNm => ?_
  have hcA : cA = G.2.1 2 := Option.some.inj (hNm.symm.trans (hK.2 2 _ rfl).2)
  subst hcA
  obtain ⟨ad2, hx2, hw2, had, hal⟩ := LW.new (n := N) (q := 9) hw (by decide) rfl (Nat.le_trans hC.2.2.2.2.2.1 hS.1) o1 (fun ad' h9 => by
    rw [lc_arJ, h9, l_nw, if_pos ⟨rfl, rfl⟩, show hJ (nw σ 9 N) 9 (hn σ 9) = fun _ => (0 : Int64) from funext fun j => by rw [J_nw, if_pos ⟨rfl, rfl⟩]]
    exact e1)
  have h13 : ad2 13 = ad 13 := hw2.2.2.2.trans hw.2.2.2.symm
  have hv2 : trL ad lv = trL ad2 lv := (trL_ext hx2 h13 hP).symm
  have hst2 : trS ad2 st = trS ad st := trS_ext hx2 h13 hLr
  refine W.eq (g2 := F0 m (pc + 2) ls (trS ad2 (.ref (9 + 16 * hn σ 9) :: st))) ?_ (k p e s m args below meth c B ad2 n0 ad0 H1 locs ls (cells + 1) (slots + N) hC (he.trans hx2) hw2 ⟨Nat.le_trans hS.1 (by omega), fun x h1 h2 => (o1 x (Nat.lt_of_lt_of_le h1 hS.1)).trans (hS.2.1 x h1 h2), hS.2.2⟩ (hv2 ▸ hv) (okP.mono hx2.1 hP) ⟨Or.inl hal, okL.mono hx2.1 hLr⟩ (by omega) (by omega))
  show F0 m (pc + 2) ls (.ref H.size :: trS ad st) = F0 m (pc + 2) ls (.ref (ad2 (9 + 16 * hn σ 9)) :: trS ad2 st)
  rw [had, hst2]
theorem e_anew {q idx : Nat} {C : String} {n : Int32} {N : Nat} (hd : decode M.2.1 pc = .ok (.anewarray idx, 3)) (hq : 10 ≤ q ∧ q < 13) (ht : (tyA G.2.1)[q - 7]? = some (G.2.1 (q - 7), .object C)) (hcl : Cond.classLink M.1.cls idx C ∈ gt) (hov : C ∈ aoT) (hn0 : ¬ n < 0) (hN : n.toNatClampNeg = N) (hby : N ≤ 60000000) (k : Ex l G M PM (pc + 3) lv (.ref (q + 16 * hn σ q) :: st) (nw σ q N) mc ms) : Ex l G M PM pc lv (.int n :: st) σ (mc + 1) (ms + N) := fun p e s m args below meth c B ad n0 ad0 H locs ls cells slots hC he hw hS hv hP hL hc hs => by
  have hLr := hL.2
  have hK := hC.2.2.2.2.2.2.1
  have hts := hC.1.2.2.2.2
  subst hN
  refine W.anew hC.1.1 hC.1.2.1 hC.1.2.2.2.1 (hts _ hcl) (va_AO.use (hC.2.2.2.2.2.2.2.1.2.2.2.2 _ hov)) rfl hd rfl hn0 (by omega) (by omega) (by omega) fun cA kA comp f1 f2 f3 f4 => ?_
  obtain ⟨_, _, _, _, _, k4⟩ := (hK.2 (q - 7) _ ht).2
  have hcA : cA = G.2.1 (q - 7) := Option.some.inj (f1.symm.trans k4)
  subst hcA
  generalize hH1 : H.push ({ cls := G.2.1 (q - 7), slots := Array.replicate n.toNatClampNeg .null, vm := .none } : Cell) = H1
  have z1 : H1.size = H.size + 1 := by rw [← hH1, Array.size_push]
  have e1 : H1[H.size]? = some (arrV (G.2.1 (q - 7)) n.toNatClampNeg (fun _ => .null)) := by rw [← hH1, Array.getElem?_push_size, ← arrV_new]
  have o1 : ∀ x : Nat, x < H.size → H1[x]? = H[x]? := fun x hx => by rw [← hH1, Array.getElem?_push, if_neg (Nat.ne_of_lt hx)]
  obtain ⟨ad2, hx2, hw2, had, hal⟩ := LW.new (n := n.toNatClampNeg) (q := q) hw hq.2 rfl (Nat.le_trans hC.2.2.2.2.2.1 hS.1) o1 (fun ad' h9 => by
    rw [lc_arR hq, h9, l_nw, if_pos ⟨rfl, rfl⟩, show (fun k => (hR (nw σ q n.toNatClampNeg) q (hn σ q) k).map ad') = fun _ => none from funext fun j => by rw [R_nw, if_pos ⟨rfl, rfl⟩]; rfl]
    exact e1)
  have h13 : ad2 13 = ad 13 := hw2.2.2.2.trans hw.2.2.2.symm
  have hv2 : trL ad lv = trL ad2 lv := (trL_ext hx2 h13 hP).symm
  have hst2 : trS ad2 st = trS ad st := trS_ext hx2 h13 hLr
  refine W.eq (g2 := F0 m (pc + 3) ls (trS ad2 (.ref (q + 16 * hn σ q) :: st))) ?_ (k p e s m args below meth c B ad2 n0 ad0 H1 locs ls (cells + 1) (slots + n.toNatClampNeg) hC (he.trans hx2) hw2 ⟨Nat.le_trans hS.1 (by omega), fun x h1 h2 => (o1 x (Nat.lt_of_lt_of_le h1 hS.1)).trans (hS.2.1 x h1 h2), hS.2.2⟩ (hv2 ▸ hv) (okP.mono hx2.1 hP) ⟨Or.inl hal, okL.mono hx2.1 hLr⟩ (by omega) (by omega))
  show F0 m (pc + 3) ls (.ref H.size :: trS ad st) = F0 m (pc + 3) ls (.ref (ad2 (q + 16 * hn σ q)) :: trS ad2 st)
  rw [had, hst2]
theorem e_obji {x idx : Nat} (hd : decode M.2.1 pc = .ok (.invokespecial idx, 3)) (hlk : Cond.methodLink M.1.cls idx Lib.objectInit ∈ gt) (hR0 : 1 ≤ M.2.2.2.2.1.frames ∧ (st.map fun v => v.category).sum + 12 ≤ M.2.2.2.2.1.locals) (k : Ex l G M PM (pc + 3) lv st σ mc ms) : Ex l G M PM pc lv (.ref x :: st) σ mc ms := fun p e s m args below meth c B ad n0 ad0 H locs ls cells slots hC he hw hS hv hP hL hc hs => by
  have hts := hC.1.2.2.2.2
  have hcat : ((trS ad st).map fun v => v.category).sum = (st.map fun v => v.category).sum := by
    rw [List.map_map]; congr 1; exact List.map_congr_left (fun v _ => trV_cat ad v)
  refine W.objInit hC.1.1 hC.1.2.1 hC.1.2.2.2.1 (hts _ hlk) (hts _ obji_in.1) (hts _ obji_in.2) rfl (hv.1.trans hC.1.2.2.1.symm) rfl hd hR0.1 (by show 2 * 0 + _ + 12 ≤ _; rw [hcat]; omega) ?_
  exact k p e s m args below meth c B ad n0 ad0 H locs ls cells slots hC he hw hS hv hP hL.2 hc hs
theorem e_acmpne {x y : Nat} {off : Int} {tgt : Nat} (hd : decode M.2.1 pc = .ok (.if_acmp .ne off, 3)) (ht : (pc : Int) + off = (tgt : Int)) (hx9 : ¬ x = 13) (hy9 : ¬ y = 13) (kt : (¬ x = y) → Ex l G M PM tgt lv st σ mc ms) (kf : (x = y) → Ex l G M PM (pc + 3) lv st σ mc ms) : Ex l G M PM pc lv (.ref y :: .ref x :: st) σ mc ms := fun p e s m args below meth c B ad n0 ad0 H locs ls cells slots hC he hw hS hv hP hL hc hs => lv_acmp_ne (rx := some (ad x)) (ry := some (ad y)) hC.1.1 hC.1.2.1 hd ht (fun h => kt (fun z => h (by rw [z])) p e s m args below meth c B ad n0 ad0 H locs ls cells slots hC he hw hS hv hP hL.2.2 hc hs) (fun h => kf (hw.2.1 x y (hL.2.1.resolve_right hx9) (hL.1.resolve_right hy9) (Option.some.inj h)) p e s m args below meth c B ad n0 ad0 H locs ls cells slots hC he hw hS hv hP hL.2.2 hc hs)
theorem e_acmpeq {x y : Nat} {off : Int} {tgt : Nat} (hd : decode M.2.1 pc = .ok (.if_acmp .eq off, 3)) (ht : (pc : Int) + off = (tgt : Int)) (hx9 : ¬ x = 13) (hy9 : ¬ y = 13) (kt : (x = y) → Ex l G M PM tgt lv st σ mc ms) (kf : (¬ x = y) → Ex l G M PM (pc + 3) lv st σ mc ms) : Ex l G M PM pc lv (.ref y :: .ref x :: st) σ mc ms := fun p e s m args below meth c B ad n0 ad0 H locs ls cells slots hC he hw hS hv hP hL hc hs => lv_acmp_eq (rx := some (ad x)) (ry := some (ad y)) hC.1.1 hC.1.2.1 hd ht (fun h => kt (hw.2.1 x y (hL.2.1.resolve_right hx9) (hL.1.resolve_right hy9) (Option.some.inj h)) p e s m args below meth c B ad n0 ad0 H locs ls cells slots hC he hw hS hv hP hL.2.2 hc hs) (fun h => kf (fun z => h (by rw [z])) p e s m args below meth c B ad n0 ad0 H locs ls cells slots hC he hw hS hv hP hL.2.2 hc hs)
end HR2
end
section
section RR
variable {l : Launch} {G : LG} {M : MI} {PM : LPM} {Q : LO → HS → Prop} {pc : Nat} {lv : List (Nat × Value)} {st : List Value} {σ : HS} {mc ms : Nat}
theorem e_iret {x : Int32} (hd : decode M.2.1 pc = .ok (.ireturn, 1)) (hr : M.2.2.2.1 = some .int) (hq : Q (.inr (some (.int x))) σ) : Ex l G M (pmV G M Q) pc lv [.int x] σ mc ms := fun p e s m args below meth c B ad n0 ad0 H locs ls cells slots hC he hw hS hv hP hL hc hs => W.widen (k := M.2.2.2.2.1.cells) (n := M.2.2.2.2.1.slots) (Nat.le_trans (Nat.le_add_right _ _) hc) (Nat.le_trans (Nat.le_add_right _ _) hs) (vx_ret (W.iret hC.1.1 hC.1.2.1 (hC.2.1.trans hr) (fun t ht hW => ⟨⟨some (.int x), σ, ad, rfl, hq, by rw [ht]; exact hw, he, trivial⟩, hS.F ht⟩) hS.2.2 hd (hlocks := hC.2.2.1)))
theorem e_zret {x : Int32} (hd : decode M.2.1 pc = .ok (.ireturn, 1)) (hr : M.2.2.2.1 = some .boolean) (hz : x = 0 ∨ x = 1) (hq : Q (.inr (some (.int x))) σ) : Ex l G M (pmV G M Q) pc lv [.int x] σ mc ms := fun p e s m args below meth c B ad n0 ad0 H locs ls cells slots hC he hw hS hv hP hL hc hs => W.widen (k := M.2.2.2.2.1.cells) (n := M.2.2.2.2.1.slots) (Nat.le_trans (Nat.le_add_right _ _) hc) (Nat.le_trans (Nat.le_add_right _ _) hs) (vx_ret (W.zret hC.1.1 hC.1.2.1 (hC.2.1.trans hr) (nb_ok hz) (fun t ht hW => ⟨⟨some (.int x), σ, ad, rfl, hq, by rw [ht]; exact hw, he, trivial⟩, hS.F ht⟩) hS.2.2 hd (hlocks := hC.2.2.1)))
theorem e_lret {x : Int64} (hd : decode M.2.1 pc = .ok (.lreturn, 1)) (hr : M.2.2.2.1 = some .long) (hq : Q (.inr (some (.long x))) σ) : Ex l G M (pmV G M Q) pc lv [.long x] σ mc ms := fun p e s m args below meth c B ad n0 ad0 H locs ls cells slots hC he hw hS hv hP hL hc hs => W.widen (k := M.2.2.2.2.1.cells) (n := M.2.2.2.2.1.slots) (Nat.le_trans (Nat.le_add_right _ _) hc) (Nat.le_trans (Nat.le_add_right _ _) hs) (vx_ret (W.lret hC.1.1 hC.1.2.1 (hC.2.1.trans hr) (fun t ht hW => ⟨⟨some (.long x), σ, ad, rfl, hq, by rw [ht]; exact hw, he, trivial⟩, hS.F ht⟩) hS.2.2 hd (hlocks := hC.2.2.1)))
theorem e_vret (hd : decode M.2.1 pc = .ok (.return_, 1)) (hr : M.2.2.2.1 = none) (hq : Q (.inr (none)) σ) : Ex l G M (pmV G M Q) pc lv [] σ mc ms := fun p e s m args below meth c B ad n0 ad0 H locs ls cells slots hC he hw hS hv hP hL hc hs => W.widen (k := M.2.2.2.2.1.cells) (n := M.2.2.2.2.1.slots) (Nat.le_trans (Nat.le_add_right _ _) hc) (Nat.le_trans (Nat.le_add_right _ _) hs) (vx_ret (W.vret hC.1.1 hC.1.2.1 (hC.2.1.trans hr) (fun t ht hW => ⟨⟨none, σ, ad, rfl, hq, by rw [ht]; exact hw, he, trivial⟩, hS.F ht⟩) hS.2.2 hd (hlocks := hC.2.2.1)))
theorem e_aret {x : Nat} {rt : FieldType} (hd : decode M.2.1 pc = .ok (.areturn, 1)) (hr : M.2.2.2.1 = some rt) (hrt : (∃ n, rt = .object n) ∨ ∃ t, rt = .array t) (hq : Q (.inr (some (.ref x))) σ) : Ex l G M (pmV G M Q) pc lv [.ref x] σ mc ms := fun p e s m args below meth c B ad n0 ad0 H locs ls cells slots hC he hw hS hv hP hL hc hs => W.widen (k := M.2.2.2.2.1.cells) (n := M.2.2.2.2.1.slots) (Nat.le_trans (Nat.le_add_right _ _) hc) (Nat.le_trans (Nat.le_add_right _ _) hs) (vx_ret (W.aret hC.1.1 hC.1.2.1 (hC.2.1.trans hr) hrt (Or.inr ⟨_, rfl⟩) (fun t ht hW => ⟨⟨some (.ref x), σ, ad, rfl, hq, by rw [ht]; exact hw, he, hL.1⟩, hS.F ht⟩) hS.2.2 hd (hlocks := hC.2.2.1)))
theorem e_aretN {rt : FieldType} (hd : decode M.2.1 pc = .ok (.areturn, 1)) (hr : M.2.2.2.1 = some rt) (hrt : (∃ n, rt = .object n) ∨ ∃ t, rt = .array t) (hq : Q (.inr (some .null)) σ) : Ex l G M (pmV G M Q) pc lv [.null] σ mc ms := fun p e s m args below meth c B ad n0 ad0 H locs ls cells slots hC he hw hS hv hP hL hc hs => W.widen (k := M.2.2.2.2.1.cells) (n := M.2.2.2.2.1.slots) (Nat.le_trans (Nat.le_add_right _ _) hc) (Nat.le_trans (Nat.le_add_right _ _) hs) (vx_ret (W.aret hC.1.1 hC.1.2.1 (hC.2.1.trans hr) hrt (Or.inl rfl) (fun t ht hW => ⟨⟨some .null, σ, ad, rfl, hq, by rw [ht]; exact hw, he, trivial⟩, hS.F ht⟩) hS.2.2 hd (hlocks := hC.2.2.1)))
end RR
/-! contracts -/
def PcM (G : LG) (B : Nat) (ad : Nat → Nat) (av : List Value) (σ : HS) : Array Value → State → Prop := fun v U => v = (trS ad av).toArray ∧ LW G B ad σ U.heap ∧ okL σ av ∧ B ≤ U.heap.size ∧ va_K G.1 lcl (tyA G.2.1) U ∧ ZS B U
/-- the method, from any heap that holds σ, with these arguments, comes to an end as Q says -/
def Ct (l : Launch) (G : LG) (M : MI) (av : List Value) (σ : HS) (Q : LO → HS → Prop) : Prop :=
  ∀ (B : Nat) (ad : Nat → Nat), vx_Met l M.1 (wsM M) M.2.2.2.2.1 (PcM G B ad av σ) (QC G B (hn σ) ad Q) (XQ G B (hn σ) ad Q) M.2.2.2.2.1.cells M.2.2.2.2.1.slots (fun q => B ≤ q)
theorem lv_args_tr (ad : Nat → Nat) : ∀ (av : List Value) (i : Nat), lv_args i (trS ad av) = trL ad (lv_args i av)
  | [], _ => rfl
  | v :: r, i => by
    show (i, trV ad v) :: lv_args (if (trV ad v).category = 2 then i + 2 else i + 1) (trS ad r) = (i, trV ad v) :: trL ad (lv_args (if v.category = 2 then i + 2 else i + 1) r)
    rw [trV_cat, lv_args_tr ad r]
theorem lg_sl_tr (ad : Nat → Nat) (av : List Value) : (lg_sl (trS ad av)).length = (lg_sl av).length := by
  induction av with
  | nil => rfl
  | cons v r ih =>
    have e1 : ∀ (v : Value) (r : List Value), lg_sl (v :: r) = (if v.category = 2 then [Slot.val v, .second] else [.val v]) ++ lg_sl r := fun v r => by simp [lg_sl]
    show (lg_sl (trV ad v :: trS ad r)).length = _
    rw [e1, e1, List.length_append, List.length_append, ih, trV_cat]
    split <;> rfl
theorem okP_args {σ : HS} : ∀ {av : List Value} {i : Nat}, okL σ av → okP σ (lv_args i av)
  | [], _, _ => trivial
  | _ :: _, _, h => ⟨h.1, okP_args h.2⟩
theorem Ct.of {l : Launch} {G : LG} {M : MI} {av : List Value} {σ : HS} {Q : LO → HS → Prop} (hl0 : l.stackTraces = false) (hM : M.2.2.2.2.2 = some []) (hy : plainName M.1.cls = true) (hn0 : (lg_sl av).length ≤ M.2.2.1)
    (h : Ex l G M (pmV G M Q) 0 (lv_args 0 av) [] σ M.2.2.2.2.1.cells M.2.2.2.2.1.slots) : Ct l G M av σ Q := by
  intro B ad
  have hwc : wcM M = .code M.1 M.2.1 M.2.2.1 M.2.2.2.1 := by unfold wcM; rw [hM]
  refine vx_ofW (cc := M.2.1) (maxL := M.2.2.1) (ret := M.2.2.2.1) (ws' := gt) hy (by unfold wsM; rw [hwc]) ?_
  intro p e s m args below meth c s₁ Bd hml hexc hv0
  obtain ⟨rfl, hw, hok, hB, hK, hZ⟩ := hv0
  have hen := lv_entry (trS ad av) (n := M.2.2.1) (by rw [lg_sl_tr]; exact hn0)
  rw [lv_args_tr] at hen
  rw [lg_entry_eq]
  have hts : ∀ w ∈ gt, w.before (trS ad av).toArray s = true := fun w hw => atoms_spec (ws := wsM M) Bd.pre w (List.mem_cons_of_mem _ hw)
  have htab : ∀ hh, M.2.2.2.2.2 = some hh → c.exceptionTable.toList = tableOf hh := fun hh e9 => by
    rw [hM] at e9
    cases e9
    cases hx9 : c.exceptionTable.toList with
    | nil => rfl
    | cons a b => exact absurd (hexc a (by rw [hx9]; exact List.mem_cons_self)) id
  exact h p e s m _ below meth c B ad (hn σ) ad s.heap [] _ 0 0 ⟨⟨Bd.exec, Bd.bytes, hml, findClass_of_methodNamed Bd.named, hts⟩, Bd.returns, Bd.notSynchronized, (name_of_methodNamed Bd.named Bd.method).1, htab, hB, hK, hZ, hl0⟩ ext.rf hw va_S.rf hen (okP_args hok) trivial (by omega) (by omega)
theorem Ct.imp {l : Launch} {G : LG} {M : MI} {av : List Value} {σ : HS} {Q Q' : LO → HS → Prop} (h : Ct l G M av σ Q) (hQ : ∀ o τ, Q o τ → Q' o τ) : Ct l G M av σ Q' := by
  intro B ad
  refine MetFree.mono (h B ad) (fun _ _ z => z) (fun _ _ _ _ _ z => z) (fun a s o s' _ z => ?_)
  rcases z with ⟨⟨⟨v, σ', ad', z1, z2, z3⟩, z4⟩, z5⟩ | ⟨q, z0, E, ce, L, ⟨⟨k, σ', ad', z1, z2, z3⟩, z4⟩, z5⟩
  · exact Or.inl ⟨⟨⟨v, σ', ad', z1, hQ _ _ z2, z3⟩, z4⟩, z5⟩
  · exact Or.inr ⟨q, z0, E, ce, L, ⟨⟨k, σ', ad', z1, hQ _ _ z2, z3⟩, z4⟩, z5⟩
theorem PcM_blind {G : LG} {B : Nat} {ad : Nat → Nat} {av : List Value} {σ : HS} : FrameBlind (PcM G B ad av σ) := fun a U g mk h => by
  obtain ⟨h1, h2, h3, h4, h5, h6, h7, h8, h9, h10⟩ := h
  exact ⟨h1, h2, h3, h4, va_K.moved (u := U) (U := U.calling g mk a) (Vm.Alike.refl U.vm) h5, vx_Zq.moved (u := U) (U := U.calling g mk a) (Vm.Alike.refl U.vm) h6, vx_Zq.moved (u := U) (U := U.calling g mk a) (Vm.Alike.refl U.vm) h7, fun x hx => va_Nw.same (u := U) (U := U.calling g mk a) (nw_on (nstT_ok x hx)) rfl (h8 x hx), fun x hx => by obtain ⟨sa, hs⟩ := h9 x hx; exact ⟨sa, vk_R.same rfl hs⟩, fun C hC => (h10 C hC).moved (u := U) (U := U.calling g mk a) (Vm.Alike.refl U.vm)⟩
/-- what a call needs of the tables and of the room -/
def CB (M M2 : MI) (idx n : Nat) : Prop := Cond.methodLink M.1.cls idx M2.1 ∈ gt ∧ (M2.2.2.2.2.2 = some [] ∧ Cond.code M2.1 M2.2.1 M2.2.2.1 M2.2.2.2.1 ∈ gt ∧ Cond.initialized M2.1.cls ∈ gt) ∧ (M2.1.cls ≠ "java/lang/invoke/MethodHandle" ∧ M2.1.cls ≠ "java/lang/invoke/VarHandle" ∧ (parseMethodDescriptor M2.1.desc).map (fun d => d.parameters.length) = some n) ∧ (M2.2.2.2.2.1.frames + 1 ≤ M.2.2.2.2.1.frames ∧ 8 + (M2.2.2.1 + 11) + M2.2.2.2.2.1.locals ≤ M.2.2.2.2.1.locals)
section CR
variable {l : Launch} {G : LG} {M M2 : MI} {PM : LPM} {Q Q2 : LO → HS → Prop} {pc : Nat} {lv : List (Nat × Value)} {st : List Value} {σ : HS} {mc ms : Nat}
variable {p : Program} {e : Env} {R : Room} {s : State} {m : MethodId} {args : Array Value} {below : List Frame} {meth : Method} {c : Code} {B : Nat} {ad n0 ad0 : Nat → Nat} {H : Heap} {locs : List Loc} {ls : Array Slot} {cells slots : Nat} {Qm : State → Prop}
theorem gi_of {ws : List Cond} (h : ∀ w ∈ ws, w ∈ gt) : GoodIn gt ws := fun w hw => ⟨h w hw, good_of_word (gt_good w (h w hw))⟩
theorem ws_of (h : M2.2.2.2.2.2 = some []) : wsM M2 = .code M2.1 M2.2.1 M2.2.2.1 M2.2.2.2.1 :: gt := by
  unfold wsM wcM
  rw [h]
theorem CB.ws {idx n : Nat} (h : CB M M2 idx n) : ∀ w ∈ wsM M2, w ∈ gt := by
  intro w hw
  rw [ws_of h.2.1.1] at hw
  rcases List.mem_cons.mp hw with z | z
  · rw [z]; exact h.2.1.2.1
  · exact z
theorem CB.b {idx n : Nat} (h : CB M M2 idx n) (hC : CX l G M p s m args meth c B) : CallB M.2.2.2.2.1 s args M.1.cls idx M2.1 M2.2.1 M2.2.2.1 M2.2.2.2.1 (wsM M2) M2.2.2.2.2.1 M2.2.2.2.2.1.cells M2.2.2.2.2.1.slots n :=
  callB_of n hC.1.2.2.2.2 (gi_of h.ws) (ws_of h.2.1.1) rfl rfl (hC.1.2.2.2.2 _ h.2.1.2.2) (hC.1.2.2.2.2 _ h.1) h.2.2.1 h.2.2.2
theorem pre_core (hC : CX l G M p s m args meth c B) (hw : LW G B ad σ H) (hS : va_S (fun q => B ≤ q) s.heap H locs) {av : List Value} (hav : okL σ av) : PreS s H (PcM G B ad av σ) (trS ad av) :=
  ⟨PcM_blind, fun U hU hW => ⟨rfl, by rw [hU]; exact hw, hav, by rw [hU]; exact Nat.le_trans hC.2.2.2.2.2.1 hS.1, va_K.moved hW.alike hC.2.2.2.2.2.2.1, hC.2.2.2.2.2.2.2.1.call hS hU hW⟩⟩
theorem run_core {st0 : List Value} {a : Array Value} {mc2 ms2 : Nat} (hr : vx_Run p l e R s m args below meth c H locs cells slots mc2 ms2 (F0 m pc ls st0) (trS ad st) (QC G B (hn σ) ad Q2 a) (XQ G B (hn σ) ad Q2) (fun q => B ≤ q)) (hS : va_S (fun q => B ≤ q) s.heap H locs)
    (kx : ∀ (k : Nat) (ce : Cell) (q9 : Addr) (σ' : HS) (ad' : Nat → Nat) (H1 : Heap) (locs1 : List Loc), Q2 (.inl k) σ' → LW G B ad' σ' H1 → ext (hn σ) ad (hn σ') ad' → va_S (fun q => B ≤ q) s.heap H1 locs1 → H1[q9]? = some ce → ce.vm = .none → s.vm.findClass (xn k) = some ce.cls → vx_W p l e R s m args below meth c H1 locs1 (cells + mc2) (slots + ms2) Qm (F0 m pc ls (trS ad st)) q9)
    (kk : ∀ (v : Option Value) (σ' : HS) (ad' : Nat → Nat) (H1 : Heap) (locs1 : List Loc), Q2 (.inr v) σ' → LW G B ad' σ' H1 → ext (hn σ) ad (hn σ') ad' → okO σ' v → va_S (fun q => B ≤ q) s.heap H1 locs1 → W p l e R s m args below meth c H1 locs1 (cells + mc2) (slots + ms2) Qm (F0 m (pc + 3) ls ((v.map (trV ad')).toList ++ trS ad st))) : W p l e R s m args below meth c H locs cells slots Qm (F0 m pc ls st0) := by
  intro T hT X
  rcases hr T hT X with ⟨v, st₀, t, T', L, h0, X', hL, e1, e2, ⟨⟨w, σ', ad', hv, hq, hlw, he, hok⟩, hF⟩, st1⟩ | ⟨q, st₀, t, T', L, E, ce, h0, X', hL, e1, e2, ⟨⟨k, σ', ad', hE, hq, hlw, he⟩, hF⟩, hce, hcv, hcl, st1⟩
  · cases hv
    obtain ⟨k1, k2, k3⟩ := vx_keep h0 e1 hS (fun q _ h => h) (fun q h => h) hL hF
    obtain ⟨t2, a1, b1⟩ := kk w σ' ad' T'.heap (locs ++ L) hq (by rw [e1]; exact hlw) he hok k3 T' rfl X'
    exact ⟨t2, st1 t2 a1, b1⟩
  · subst hE
    obtain ⟨k1, k2, k3⟩ := vx_keep h0 e1 hS (fun q _ h => h) (fun q h => h) hL hF
    obtain ⟨t2, a1, b1⟩ := kx k ce q σ' ad' T'.heap (locs ++ L) hq (by rw [e1]; exact hlw) he k3 (by rw [e1]; exact hce) hcv hcl T' rfl X'
    exact ⟨t2, st1.trans a1, b1⟩
/-- behind a call: the caller goes on -/
theorem call_fin {mc2 ms2 mc' ms' : Nat} (hC : CX l G M p s m args meth c B) (he : ext n0 ad0 (hn σ) ad) (hw : LW G B ad σ H) (hv : lv_has ls M.2.2.1 (trL ad lv)) (hP : okP σ lv) (hL : okL σ st) (hc : cells + mc ≤ M.2.2.2.2.1.cells) (hs : slots + ms ≤ M.2.2.2.2.1.slots) (hb1 : mc' + mc2 ≤ mc) (hb2 : ms' + ms2 ≤ ms)
    {v : Option Value} {σ' : HS} (k : Ex l G M PM (pc + 3) lv (v.toList ++ st) σ' mc' ms') {ad' : Nat → Nat} {H1 : Heap} {locs1 : List Loc} (hw1 : LW G B ad' σ' H1) (hx : ext (hn σ) ad (hn σ') ad') (hok : okO σ' v) (hS1 : va_S (fun q => B ≤ q) s.heap H1 locs1) :
    W p l e M.2.2.2.2.1 s m args below meth c H1 locs1 (cells + mc2) (slots + ms2) (PM below args s B n0 ad0) (F0 m (pc + 3) ls ((v.map (trV ad')).toList ++ trS ad st)) := by
  have h13 : ad' 13 = ad 13 := hw1.2.2.2.trans hw.2.2.2.symm
  have hst : (v.map (trV ad')).toList ++ trS ad st = trS ad' (v.toList ++ st) := by
    rw [← trS_ext hx h13 hL]
    cases v <;> rfl
  rw [hst]
  have hL' : okL σ' (v.toList ++ st) := by
    cases v with
    | none => exact okL.mono hx.1 hL
    | some x => exact ⟨hok, okL.mono hx.1 hL⟩
  exact k p e s m args below meth c B ad' n0 ad0 H1 locs1 ls (cells + mc2) (slots + ms2) hC (he.trans hx) hw1 hS1 (trL_ext hx h13 hP ▸ hv) (okP.mono hx.1 hP) hL' (by omega) (by omega)
theorem cat_tr (ad : Nat → Nat) (st : List Value) : ((trS ad st).map fun v => v.category).sum = (st.map fun v => v.category).sum := by
  rw [List.map_map]; congr 1; exact List.map_congr_left (fun v _ => trV_cat ad v)
theorem rv_tr (ad : Nat → Nat) (As st : List Value) : trS ad (As.reverse ++ st) = (trS ad As).reverse ++ trS ad st := by
  show (As.reverse ++ st).map (trV ad) = (As.map (trV ad)).reverse ++ st.map (trV ad)
  rw [List.map_append, List.map_reverse]
theorem okL_app {σ : HS} : ∀ {a b : List Value}, okL σ (a ++ b) → okL σ a ∧ okL σ b
  | [], _, h => ⟨trivial, h⟩
  | _ :: _, _, h => ⟨⟨h.1, (okL_app h.2).1⟩, (okL_app h.2).2⟩
theorem okL_app2 {σ : HS} : ∀ {a b : List Value}, okL σ a → okL σ b → okL σ (a ++ b)
  | [], _, _, h => h
  | _ :: _, _, h, h' => ⟨h.1, okL_app2 h.2 h'⟩
theorem okL_rev {σ : HS} : ∀ {a : List Value}, okL σ a.reverse → okL σ a
  | [], _ => trivial
  | v :: r, h => by
    rw [List.reverse_cons] at h
    exact ⟨(okL_app h).2.1, okL_rev (okL_app h).1⟩
theorem met_of {lva : List Value} (h : Ct l G M2 lva σ Q2) (hno : ∀ k τ, ¬ Q2 (.inl k) τ) : Met l M2.1 (wsM M2) M2.2.2.2.2.1 (PcM G B ad lva σ) (QC G B (hn σ) ad Q2) M2.2.2.2.2.1.cells M2.2.2.2.2.1.slots (fun q => B ≤ q) := by
  refine MetFree.mono (h B ad) (fun _ _ z => z) (fun _ _ _ _ _ z => z) (fun a s o s' _ z => ?_)
  rcases z with z | ⟨q, z0, E, ce, L, ⟨⟨k, σ', ad', z1, z2, z3⟩, z4⟩, z5⟩
  · exact z
  · exact absurd z2 (hno _ _)
theorem vr_of {rest : List Value} {mc2 ms2 : Nat} {g : JFrame} {Qa : State → Outcome → State → Prop} {XC : String → State → State → Prop} {free : Addr → Prop} (h : va_Run p l e R s m args below meth c H locs cells slots mc2 ms2 g rest Qa free) : vx_Run p l e R s m args below meth c H locs cells slots mc2 ms2 g rest Qa XC free :=
  fun T hT X => Or.inl (h T hT X)
end CR
section CR2
variable {l : Launch} {G : LG} {M M2 : MI} {PM : LPM} {Q Q2 : LO → HS → Prop} {pc : Nat} {lv : List (Nat × Value)} {st : List Value} {σ : HS} {mc ms : Nat}
/-- a call that returns -/
theorem e_callV {q a idx n : Nat} {r : vw_C} {As : List Value} (mc' ms' : Nat) (hd : decode M.2.1 pc = .ok (.invokevirtual idx, 3)) (hcb : CB M M2 idx n) (hin : Cond.instanceMethod M2.1 ∈ gt ∧ Cond.selects M2.1.cls M2.1 M2.1 ∈ gt) (hc0 : lcl[q]? = some r) (hq7 : q < 7 ∧ r.1 = M2.1.cls) (hn1 : As.length = n) (hst8 : (st.map fun v => v.category).sum ≤ 8) (hb1 : mc' + M2.2.2.2.2.1.cells ≤ mc) (hb2 : ms' + M2.2.2.2.2.1.slots ≤ ms) (hct : Ct l G M2 (.ref (q + 16 * a) :: As) σ Q2) (hno : ∀ k τ, ¬ Q2 (.inl k) τ) (k : ∀ v σ', Q2 (.inr v) σ' → Ex l G M PM (pc + 3) lv (v.toList ++ st) σ' mc' ms') : Ex l G M PM pc lv (As.reverse ++ .ref (q + 16 * a) :: st) σ mc ms := fun p e s m args below meth c B ad n0 ad0 H locs ls cells slots hC he hw hS hv hP hL hc hs => by
  have hLa := okL_app hL
  have hLs : okL σ st := hLa.2.2
  have hAs : okL σ As := okL_rev hLa.1
  have hp : al σ (q + 16 * a) := okR (Nat.lt_trans hq7.1 (by decide)) hLa.2.1
  obtain ⟨cell, g1, g2, g3, -⟩ := hw.obj hp hq7.1 hc0
  have hpr := pre_core hC hw hS (av := .ref (q + 16 * a) :: As) ⟨Or.inl hp, hAs⟩
  have hcl : s.vm.findClass M2.1.cls = some cell.cls := by rw [g2, ← hq7.2]; exact (hC.2.2.2.2.2.2.1.1 q r hc0).2.1
  have hrun := vx_runV (l := l) (e := e) (below := below) (meth := meth) (locs := locs) (cells := cells) (slots := slots) (As := trS ad As) (rest := trS ad st) (g := F0 m pc ls (trS ad (As.reverse ++ .ref (q + 16 * a) :: st))) hC.1 (hct B ad) ⟨hcb.b hC, hC.1.2.2.2.2 _ hin.1, hC.1.2.2.2.2 _ hin.2⟩ (C := M2.1.cls) (b := ad (q + 16 * a)) ⟨hpr.1, ⟨cell, g1, by rw [g3]; rfl, hcl⟩, hpr.2⟩ rfl (by rw [List.length_map]; exact hn1) hv.1 (by rw [rv_tr]; rfl) (lv_room (by rw [cat_tr]; exact hst8)) hd ⟨by omega, by omega⟩
  exact run_core hrun hS (fun k _ _ τ _ _ _ hq _ _ _ _ _ _ => absurd hq (hno k τ)) (fun v σ2 ad2 H1 locs1 hq2 hw2 hx2 hok2 hS2 => call_fin hC he hw hv hP hLs hc hs hb1 hb2 (k v σ2 hq2) hw2 hx2 hok2 hS2)
/-- a call that may throw, where nothing is caught -/
theorem e_callVX {q a idx n : Nat} {r : vw_C} {As : List Value} (mc' ms' : Nat) (hd : decode M.2.1 pc = .ok (.invokevirtual idx, 3)) (hcb : CB M M2 idx n) (hin : Cond.instanceMethod M2.1 ∈ gt ∧ Cond.selects M2.1.cls M2.1 M2.1 ∈ gt) (hc0 : lcl[q]? = some r) (hq7 : q < 7 ∧ r.1 = M2.1.cls) (hn1 : As.length = n) (hst8 : (st.map fun v => v.category).sum ≤ 8) (hb1 : mc' + M2.2.2.2.2.1.cells ≤ mc) (hb2 : ms' + M2.2.2.2.2.1.slots ≤ ms) (hct : Ct l G M2 (.ref (q + 16 * a) :: As) σ Q2) (hM : M.2.2.2.2.2 = some []) (kx : ∀ k σ', Q2 (.inl k) σ' → Q (.inl k) σ') (k : ∀ v σ', Q2 (.inr v) σ' → Ex l G M (pmV G M Q) (pc + 3) lv (v.toList ++ st) σ' mc' ms') : Ex l G M (pmV G M Q) pc lv (As.reverse ++ .ref (q + 16 * a) :: st) σ mc ms := fun p e s m args below meth c B ad n0 ad0 H locs ls cells slots hC he hw hS hv hP hL hc hs => by
  have hLa := okL_app hL
  have hLs : okL σ st := hLa.2.2
  have hAs : okL σ As := okL_rev hLa.1
  have hp : al σ (q + 16 * a) := okR (Nat.lt_trans hq7.1 (by decide)) hLa.2.1
  obtain ⟨cell, g1, g2, g3, -⟩ := hw.obj hp hq7.1 hc0
  have hpr := pre_core hC hw hS (av := .ref (q + 16 * a) :: As) ⟨Or.inl hp, hAs⟩
  have hcl : s.vm.findClass M2.1.cls = some cell.cls := by rw [g2, ← hq7.2]; exact (hC.2.2.2.2.2.2.1.1 q r hc0).2.1
  have hrun := vx_runV (l := l) (e := e) (below := below) (meth := meth) (locs := locs) (cells := cells) (slots := slots) (As := trS ad As) (rest := trS ad st) (g := F0 m pc ls (trS ad (As.reverse ++ .ref (q + 16 * a) :: st))) hC.1 (hct B ad) ⟨hcb.b hC, hC.1.2.2.2.2 _ hin.1, hC.1.2.2.2.2 _ hin.2⟩ (C := M2.1.cls) (b := ad (q + 16 * a)) ⟨hpr.1, ⟨cell, g1, by rw [g3]; rfl, hcl⟩, hpr.2⟩ rfl (by rw [List.length_map]; exact hn1) hv.1 (by rw [rv_tr]; rfl) (lv_room (by rw [cat_tr]; exact hst8)) hd ⟨by omega, by omega⟩
  exact run_core hrun hS (fun k ce q9 σ2 ad2 H1 locs1 hq2 hw2 hx2 hS2 hce hcv hcl2 => vx_widen (k := M.2.2.2.2.1.cells) (n := M.2.2.2.2.1.slots) (by omega) (by omega) (vx_out (fun x hx => by rw [hC.2.2.2.2.1 _ hM] at hx; exact absurd hx List.not_mem_nil) hC.2.2.1 hce hcv hcl2 (fun t ht hW => ⟨⟨k, σ2, ad2, rfl, kx k σ2 hq2, by rw [ht]; exact hw2, he.trans hx2⟩, hS2.F ht⟩) hS2.2.2 (Nat.le_refl _) (Nat.le_refl _))) (fun v σ2 ad2 H1 locs1 hq2 hw2 hx2 hok2 hS2 => call_fin hC he hw hv hP hLs hc hs hb1 hb2 (k v σ2 hq2) hw2 hx2 hok2 hS2)
theorem e_callS {idx n : Nat} {As : List Value} (mc' ms' : Nat) (hd : decode M.2.1 pc = .ok (.invokestatic idx, 3)) (hcb : CB M M2 idx n) (hin : Cond.static M2.1 ∈ gt) (hn1 : As.length = n) (hst8 : (st.map fun v => v.category).sum ≤ 8) (hb1 : mc' + M2.2.2.2.2.1.cells ≤ mc) (hb2 : ms' + M2.2.2.2.2.1.slots ≤ ms) (hct : Ct l G M2 As σ Q2) (hno : ∀ k τ, ¬ Q2 (.inl k) τ) (k : ∀ v σ', Q2 (.inr v) σ' → Ex l G M PM (pc + 3) lv (v.toList ++ st) σ' mc' ms') : Ex l G M PM pc lv (As.reverse ++ st) σ mc ms := fun p e s m args below meth c B ad n0 ad0 H locs ls cells slots hC he hw hS hv hP hL hc hs => by
  have hLa := okL_app hL
  have hLs : okL σ st := hLa.2
  have hpr := pre_core hC hw hS (av := As) (okL_rev hLa.1)
  have hrun := vx_runS (l := l) (e := e) (below := below) (meth := meth) (locs := locs) (cells := cells) (slots := slots) (As := trS ad As) (rest := trS ad st) (g := F0 m pc ls (trS ad (As.reverse ++ st))) hC.1 (hct B ad) ⟨hcb.b hC, hC.1.2.2.2.2 _ hin⟩ hpr rfl (by rw [List.length_map]; exact hn1) hv.1 (by rw [rv_tr]) (lv_room (by rw [cat_tr]; exact hst8)) hd ⟨by omega, by omega⟩
  exact run_core hrun hS (fun k _ _ τ _ _ _ hq _ _ _ _ _ _ => absurd hq (hno k τ)) (fun v σ2 ad2 H1 locs1 hq2 hw2 hx2 hok2 hS2 => call_fin hC he hw hv hP hLs hc hs hb1 hb2 (k v σ2 hq2) hw2 hx2 hok2 hS2)
theorem e_callI {x idx n : Nat} {As : List Value} (mc' ms' : Nat) (hd : decode M.2.1 pc = .ok (.invokespecial idx, 3)) (hcb : CB M M2 idx n) (hin : Cond.instanceMethod M2.1 ∈ gt ∧ M2.1.name = "<init>" ∧ M2.2.2.2.1 = none) (hn1 : As.length = n) (hst8 : (st.map fun v => v.category).sum ≤ 8) (hb1 : mc' + M2.2.2.2.2.1.cells ≤ mc) (hb2 : ms' + M2.2.2.2.2.1.slots ≤ ms) (hct : Ct l G M2 (.ref x :: As) σ Q2) (hno : ∀ k τ, ¬ Q2 (.inl k) τ) (k : ∀ v σ', Q2 (.inr v) σ' → Ex l G M PM (pc + 3) lv (v.toList ++ st) σ' mc' ms') : Ex l G M PM pc lv (As.reverse ++ .ref x :: st) σ mc ms := fun p e s m args below meth c B ad n0 ad0 H locs ls cells slots hC he hw hS hv hP hL hc hs => by
  have hLa := okL_app hL
  have hLs : okL σ st := hLa.2.2
  have hpr := pre_core hC hw hS (av := .ref x :: As) ⟨hLa.2.1, okL_rev hLa.1⟩
  have hmet := met_of (B := B) (ad := ad) hct hno
  have hcw := hcb.b hC
  rw [hin.2.2] at hcw
  have hrun := va_runI (l := l) (e := e) (below := below) (meth := meth) (locs := locs) (cells := cells) (slots := slots) (As := trS ad As) (b := ad x) (rest := trS ad st) (g := F0 m pc ls (trS ad (As.reverse ++ .ref x :: st))) hC.1 hmet ⟨hcw, hin.2.1, hC.1.2.2.2.2 _ hin.1⟩ hpr rfl (by rw [List.length_map]; exact hn1) hv.1 (by rw [rv_tr]; rfl) (lv_room (by rw [cat_tr]; exact hst8)) hd ⟨by omega, by omega⟩
  exact run_core (vr_of hrun) hS (fun k _ _ τ _ _ _ hq _ _ _ _ _ _ => absurd hq (hno k τ)) (fun v σ2 ad2 H1 locs1 hq2 hw2 hx2 hok2 hS2 => call_fin hC he hw hv hP hLs hc hs hb1 hb2 (k v σ2 hq2) hw2 hx2 hok2 hS2)
theorem e_callIN {x idx n : Nat} {As : List Value} (mc' ms' : Nat) (hd : decode M.2.1 pc = .ok (.invokespecial idx, 3)) (hnst : ∃ host, Cond.methodLinkNest M.1.cls idx M2.1 host ∈ nstT) (hcb : (M2.2.2.2.2.2 = some [] ∧ Cond.code M2.1 M2.2.1 M2.2.2.1 M2.2.2.2.1 ∈ gt ∧ Cond.initialized M2.1.cls ∈ gt) ∧ (M2.1.cls ≠ "java/lang/invoke/MethodHandle" ∧ M2.1.cls ≠ "java/lang/invoke/VarHandle" ∧ (parseMethodDescriptor M2.1.desc).map (fun d => d.parameters.length) = some n) ∧ (M2.2.2.2.2.1.frames + 1 ≤ M.2.2.2.2.1.frames ∧ 8 + (M2.2.2.1 + 11) + M2.2.2.2.2.1.locals ≤ M.2.2.2.2.1.locals)) (hin : Cond.instanceMethod M2.1 ∈ gt ∧ M2.1.name = "<init>" ∧ M2.2.2.2.1 = none) (hn1 : As.length = n) (hst8 : (st.map fun v => v.category).sum ≤ 8) (hb1 : mc' + M2.2.2.2.2.1.cells ≤ mc) (hb2 : ms' + M2.2.2.2.2.1.slots ≤ ms) (hct : Ct l G M2 (.ref x :: As) σ Q2) (hno : ∀ k τ, ¬ Q2 (.inl k) τ) (k : ∀ v σ', Q2 (.inr v) σ' → Ex l G M PM (pc + 3) lv (v.toList ++ st) σ' mc' ms') : Ex l G M PM pc lv (As.reverse ++ .ref x :: st) σ mc ms := fun p e s m args below meth c B ad n0 ad0 H locs ls cells slots hC he hw hS hv hP hL hc hs => by
  have hLa := okL_app hL
  have hLs : okL σ st := hLa.2.2
  have hpr := pre_core hC hw hS (av := .ref x :: As) ⟨hLa.2.1, okL_rev hLa.1⟩
  have hmet := met_of (B := B) (ad := ad) hct hno
  obtain ⟨host, hnst⟩ := hnst
  have hws : ∀ w ∈ wsM M2, w ∈ gt := fun w hw => by
    rw [ws_of hcb.1.1] at hw
    rcases List.mem_cons.mp hw with z | z
    · rw [z]; exact hcb.1.2.1
    · exact z
  have hcw := va_cnB (own := M.1.cls) (host := host) (index := idx) (R := M.2.2.2.2.1) n hC.1.2.2.2.2 (gi_of hws) (ws_of hcb.1.1) rfl rfl (hC.2.2.2.2.2.2.2.1.2.2.1 _ hnst) (hC.1.2.2.2.2 _ hcb.1.2.2) hcb.2.1 hcb.2.2
  rw [hin.2.2] at hcw
  have hrun := va_runIN (l := l) (e := e) (below := below) (meth := meth) (locs := locs) (cells := cells) (slots := slots) (As := trS ad As) (b := ad x) (rest := trS ad st) (g := F0 m pc ls (trS ad (As.reverse ++ .ref x :: st))) hC.1 hmet ⟨hcw, hin.2.1, hC.1.2.2.2.2 _ hin.1⟩ hpr rfl (by rw [List.length_map]; exact hn1) hv.1 (by rw [rv_tr]; rfl) (lv_room (by rw [cat_tr]; exact hst8)) hd ⟨by omega, by omega⟩
  exact run_core (vr_of hrun) hS (fun k _ _ τ _ _ _ hq _ _ _ _ _ _ => absurd hq (hno k τ)) (fun v σ2 ad2 H1 locs1 hq2 hw2 hx2 hok2 hS2 => call_fin hC he hw hv hP hLs hc hs hb1 hb2 (k v σ2 hq2) hw2 hx2 hok2 hS2)
/-- a post that fixes the end -/
def qd (r : LO) (τ0 : HS) : LO → HS → Prop := fun o τ => o = r ∧ τ = τ0
theorem e_callVd {v : Option Value} {σ' : HS} {q a idx n : Nat} {r : vw_C} {As : List Value} (mc' ms' : Nat) (hd : decode M.2.1 pc = .ok (.invokevirtual idx, 3)) (hcb : CB M M2 idx n) (hin : Cond.instanceMethod M2.1 ∈ gt ∧ Cond.selects M2.1.cls M2.1 M2.1 ∈ gt) (hc0 : lcl[q]? = some r) (hq7 : q < 7 ∧ r.1 = M2.1.cls) (hn1 : As.length = n) (hst8 : (st.map fun v => v.category).sum ≤ 8) (hb1 : mc' + M2.2.2.2.2.1.cells ≤ mc) (hb2 : ms' + M2.2.2.2.2.1.slots ≤ ms) (hct : Ct l G M2 (.ref (q + 16 * a) :: As) σ (qd (.inr v) σ')) (k : Ex l G M PM (pc + 3) lv (v.toList ++ st) σ' mc' ms') : Ex l G M PM pc lv (As.reverse ++ .ref (q + 16 * a) :: st) σ mc ms := e_callV mc' ms' hd hcb hin hc0 hq7 hn1 hst8 hb1 hb2 hct (fun k τ h => by cases h.1) (fun w τ h => by obtain ⟨h1, h2⟩ := h; cases h1; subst h2; exact k)
theorem e_callSd {v : Option Value} {σ' : HS} {idx n : Nat} {As : List Value} (mc' ms' : Nat) (hd : decode M.2.1 pc = .ok (.invokestatic idx, 3)) (hcb : CB M M2 idx n) (hin : Cond.static M2.1 ∈ gt) (hn1 : As.length = n) (hst8 : (st.map fun v => v.category).sum ≤ 8) (hb1 : mc' + M2.2.2.2.2.1.cells ≤ mc) (hb2 : ms' + M2.2.2.2.2.1.slots ≤ ms) (hct : Ct l G M2 As σ (qd (.inr v) σ')) (k : Ex l G M PM (pc + 3) lv (v.toList ++ st) σ' mc' ms') : Ex l G M PM pc lv (As.reverse ++ st) σ mc ms := e_callS mc' ms' hd hcb hin hn1 hst8 hb1 hb2 hct (fun k τ h => by cases h.1) (fun w τ h => by obtain ⟨h1, h2⟩ := h; cases h1; subst h2; exact k)
theorem e_callId {v : Option Value} {σ' : HS} {x idx n : Nat} {As : List Value} (mc' ms' : Nat) (hd : decode M.2.1 pc = .ok (.invokespecial idx, 3)) (hcb : CB M M2 idx n) (hin : Cond.instanceMethod M2.1 ∈ gt ∧ M2.1.name = "<init>" ∧ M2.2.2.2.1 = none) (hn1 : As.length = n) (hst8 : (st.map fun v => v.category).sum ≤ 8) (hb1 : mc' + M2.2.2.2.2.1.cells ≤ mc) (hb2 : ms' + M2.2.2.2.2.1.slots ≤ ms) (hct : Ct l G M2 (.ref x :: As) σ (qd (.inr v) σ')) (k : Ex l G M PM (pc + 3) lv (v.toList ++ st) σ' mc' ms') : Ex l G M PM pc lv (As.reverse ++ .ref x :: st) σ mc ms := e_callI mc' ms' hd hcb hin hn1 hst8 hb1 hb2 hct (fun k τ h => by cases h.1) (fun w τ h => by obtain ⟨h1, h2⟩ := h; cases h1; subst h2; exact k)
theorem e_callINd {v : Option Value} {σ' : HS} {x idx n : Nat} {As : List Value} (mc' ms' : Nat) (hd : decode M.2.1 pc = .ok (.invokespecial idx, 3)) (hnst : ∃ host, Cond.methodLinkNest M.1.cls idx M2.1 host ∈ nstT) (hcb : (M2.2.2.2.2.2 = some [] ∧ Cond.code M2.1 M2.2.1 M2.2.2.1 M2.2.2.2.1 ∈ gt ∧ Cond.initialized M2.1.cls ∈ gt) ∧ (M2.1.cls ≠ "java/lang/invoke/MethodHandle" ∧ M2.1.cls ≠ "java/lang/invoke/VarHandle" ∧ (parseMethodDescriptor M2.1.desc).map (fun d => d.parameters.length) = some n) ∧ (M2.2.2.2.2.1.frames + 1 ≤ M.2.2.2.2.1.frames ∧ 8 + (M2.2.2.1 + 11) + M2.2.2.2.2.1.locals ≤ M.2.2.2.2.1.locals)) (hin : Cond.instanceMethod M2.1 ∈ gt ∧ M2.1.name = "<init>" ∧ M2.2.2.2.1 = none) (hn1 : As.length = n) (hst8 : (st.map fun v => v.category).sum ≤ 8) (hb1 : mc' + M2.2.2.2.2.1.cells ≤ mc) (hb2 : ms' + M2.2.2.2.2.1.slots ≤ ms) (hct : Ct l G M2 (.ref x :: As) σ (qd (.inr v) σ')) (k : Ex l G M PM (pc + 3) lv (v.toList ++ st) σ' mc' ms') : Ex l G M PM pc lv (As.reverse ++ .ref x :: st) σ mc ms := e_callIN mc' ms' hd hnst hcb hin hn1 hst8 hb1 hb2 hct (fun k τ h => by cases h.1) (fun w τ h => by obtain ⟨h1, h2⟩ := h; cases h1; subst h2; exact k)
theorem LW.kept {B : Nat} {ad : Nat → Nat} {H H1 : Heap} (h : LW G B ad σ H) (hk : ∀ q : Nat, q < H.size → H1[q]? = H[q]?) : LW G B ad σ H1 :=
  ⟨fun p hp => ⟨(h.1 p hp).1.kept (hk _ (h.1 p hp).1.lt), (h.1 p hp).2⟩, h.2⟩
/-- 'throw new E("text")' where nothing is caught -/
theorem e_throw {kx ik is ic : Nat} {text : String} {names : List String} (d0 : decode M.2.1 pc = .ok (.new ik, 3)) (d3 : decode M.2.1 (pc + 3) = .ok (.dup, 1)) (d4 : decode M.2.1 (pc + 4) = .ok (.ldc is, 2)) (d6 : decode M.2.1 (pc + 6) = .ok (.invokespecial ic, 3)) (d9 : decode M.2.1 (pc + 9) = .ok (.athrow, 1))
    (hk : Cond.classLink M.1.cls ik (xn kx) ∈ gt) (hini : Cond.initialized (xn kx) ∈ gt) (hstr : (M.1.cls, is, text) ∈ strT) (hfit : Bundle.fit (xn kx) = true ∧ ∀ n ∈ names, Bundle.fit n = true)
    (hat1 : ∀ w ∈ (vx_atS M.1.cls ic (xn kx) names).filter goodWord, w ∈ gt) (hat2 : ∀ w ∈ (vx_atS M.1.cls ic (xn kx) names).filter (fun w => !goodWord w), w ∈ nstT) (hgood : ∀ w ∈ Cond.classLink M.1.cls ik (xn kx) :: Cond.initialized (xn kx) :: vx_atS M.1.cls ic (xn kx) names, vx_ot w = true)
    (hRm : names.length + 3 < M.2.2.2.2.1.frames ∧ (st.map fun v => v.category).sum + (13 * (names.length + 1) + 43) ≤ M.2.2.2.2.1.locals) (hb : 1 ≤ mc ∧ 6 ≤ ms) (hM : M.2.2.2.2.2 = some []) (hq : Q (.inl kx) σ) : Ex l G M (pmV G M Q) pc lv st σ mc ms := fun p e s m args below meth c B ad n0 ad0 H locs ls cells slots hC he hw hS hv hP hL hc hs => by
  obtain ⟨⟨hx, hbb, hml, hown, hts⟩, hr9, hlk, hnm, htab, hB, hK, hZ, hl0⟩ := hC
  obtain ⟨sa, hsa⟩ := hZ.2.2.2.1 _ hstr
  refine vx_throwS (A := fun q => B ≤ q) hx hbb hl0 hown hfit.1 hfit.2 (hts _ hk) (hts _ hini) hsa (vx_hat (B := nstT) (fun w hw => hts w (hat1 w hw)) hat2 (fun w hw => va_Nw.use (nw_on (nstT_ok w hw)) (hZ.2.2.1 w hw))) hgood hZ.1 hZ.2.1 hS (hv.1.trans hml.symm) d0 d3 d4 d6 d9 (fun x hx => by rw [htab _ hM] at hx; exact absurd hx List.not_mem_nil) hRm.1 (by rw [cat_tr]; exact hRm.2) (by omega) (by omega) hlk (fun t hal hsz hkq => ⟨⟨kx, σ, ad, rfl, hq, hw.kept hkq, he⟩, ⟨Nat.le_trans hS.1 hsz, fun q h1 h2 => (hkq q (Nat.lt_of_lt_of_le h1 hS.1)).trans (hS.2.1 q h1 h2)⟩⟩) hS.2.2 (by omega) (by omega)
end CR2
end
section
def m_T_init : MI := (y_T_init, c_T_init, 1, none, { frames := 2, cells := 3, slots := 38, locals := 40 }, some [])
def m_R_init : MI := (y_R_init, c_R_init, 1, none, { frames := 1, cells := 0, slots := 0, locals := 20 }, some [])
def m_T_settle : MI := (y_T_settle, c_T_settle, 2, (some FieldType.int), { frames := 4, cells := 0, slots := 0, locals := 91 }, some [])
def m_T_playRound : MI := (y_T_playRound, c_T_playRound, 3, (some FieldType.int), { frames := 3, cells := 0, slots := 0, locals := 69 }, some [])
def m_T_hearAtPorts : MI := (y_T_hearAtPorts, c_T_hearAtPorts, 7, (some FieldType.int), { frames := 2, cells := 0, slots := 0, locals := 43 }, some [])
def m_P_findSender : MI := (y_P_findSender, c_P_findSender, 2, (some (FieldType.object "ClockTree$Port")), { frames := 1, cells := 0, slots := 0, locals := 21 }, some [])
def m_K_farFrom : MI := (y_K_farFrom, c_K_farFrom, 2, (some (FieldType.object "ClockTree$Port")), { frames := 0, cells := 0, slots := 0, locals := 0 }, some [])
def m_N_accepts : MI := (y_N_accepts, c_N_accepts, 2, (some FieldType.boolean), { frames := 0, cells := 0, slots := 0, locals := 0 }, some [])
def m_P_keep : MI := (y_P_keep, c_P_keep, 3, (some FieldType.boolean), { frames := 1, cells := 0, slots := 0, locals := 21 }, some [])
def m_D_tellsSameAs : MI := (y_D_tellsSameAs, c_D_tellsSameAs, 2, (some FieldType.boolean), { frames := 0, cells := 0, slots := 0, locals := 0 }, some [])
def m_D_setRootOf : MI := (y_D_setRootOf, c_D_setRootOf, 2, none, { frames := 0, cells := 0, slots := 0, locals := 0 }, some [])
def m_P_growOlder : MI := (y_P_growOlder, c_P_growOlder, 1, (some FieldType.boolean), { frames := 0, cells := 0, slots := 0, locals := 0 }, some [])
def m_N_findStates : MI := (y_N_findStates, c_N_findStates, 5, (some FieldType.boolean), { frames := 2, cells := 0, slots := 0, locals := 43 }, some [])
def m_N_findBest : MI := (y_N_findBest, c_N_findBest, 3, (some (FieldType.object "ClockTree$Dataset")), { frames := 1, cells := 0, slots := 0, locals := 21 }, some [])
def m_D_betterThan : MI := (y_D_betterThan, c_D_betterThan, 2, (some FieldType.boolean), { frames := 0, cells := 0, slots := 0, locals := 0 }, some [])
def m_P_tell : MI := (y_P_tell, c_P_tell, 3, none, { frames := 1, cells := 0, slots := 0, locals := 21 }, some [])
def m_P_findState : MI := (y_P_findState, c_P_findState, 2, (some FieldType.int), { frames := 1, cells := 0, slots := 0, locals := 21 }, some [])
def m_T_discipline : MI := (y_T_discipline, c_T_discipline, 6, (some FieldType.int), { frames := 4, cells := 0, slots := 0, locals := 106 }, some [])
def m_T_setsClock : MI := (y_T_setsClock, c_T_setsClock, 5, (some FieldType.boolean), { frames := 3, cells := 0, slots := 0, locals := 82 }, some [])
def m_T_openSlaveOf : MI := (y_T_openSlaveOf, c_T_openSlaveOf, 3, (some (FieldType.object "ClockTree$Port")), { frames := 0, cells := 0, slots := 0, locals := 0 }, some [])
def m_T_setClock : MI := (y_T_setClock, c_T_setClock, 9, (some FieldType.boolean), { frames := 2, cells := 0, slots := 0, locals := 54 }, some [])
def m_K_delayTo : MI := (y_K_delayTo, c_K_delayTo, 2, (some FieldType.int), { frames := 0, cells := 0, slots := 0, locals := 0 }, some [])
def m_K_delayFrom : MI := (y_K_delayFrom, c_K_delayFrom, 2, (some FieldType.int), { frames := 0, cells := 0, slots := 0, locals := 0 }, some [])
def m_R_noteTimes : MI := (y_R_noteTimes, c_R_noteTimes, 5, none, { frames := 1, cells := 0, slots := 0, locals := 26 }, some [])
def m_R_plus : MI := (y_R_plus, c_R_plus, 7, (some FieldType.long), { frames := 0, cells := 0, slots := 0, locals := 0 }, some [])
def m_R_noteClocks : MI := (y_R_noteClocks, c_R_noteClocks, 5, none, { frames := 1, cells := 0, slots := 0, locals := 26 }, some [])
def m_R_find : MI := (y_R_find, c_R_find, 9, none, { frames := 1, cells := 0, slots := 0, locals := 26 }, some [])
def m_R_minus : MI := (y_R_minus, c_R_minus, 7, (some FieldType.long), { frames := 0, cells := 0, slots := 0, locals := 0 }, some [])
def m_L_node : MI := (y_L_node, c_L_node, 9, (some FieldType.int), { frames := 7, cells := 16, slots := 120, locals := 117 }, some [(0, 16, 19, 13), (0, 16, 23, 15)])
def m_T_node : MI := (y_T_node, c_T_node, 8, (some FieldType.int), { frames := 6, cells := 16, slots := 120, locals := 90 }, some [])
def m_T_isWithin : MI := (y_T_isWithin, c_T_isWithin, 2, (some FieldType.boolean), { frames := 0, cells := 0, slots := 0, locals := 0 }, some [])
def m_T_hasIdentity : MI := (y_T_hasIdentity, c_T_hasIdentity, 3, (some FieldType.boolean), { frames := 0, cells := 0, slots := 0, locals := 0 }, some [])
def m_N_init : MI := (y_N_init, c_N_init, 5, none, { frames := 3, cells := 14, slots := 108, locals := 62 }, some [])
def m_D_init : MI := (y_D_init, c_D_init, 1, none, { frames := 1, cells := 0, slots := 0, locals := 20 }, some [])
def m_P_init : MI := (y_P_init, c_P_init, 3, none, { frames := 2, cells := 2, slots := 16, locals := 40 }, some [])
def m_D_setOwn : MI := (y_D_setOwn, c_D_setOwn, 5, none, { frames := 0, cells := 0, slots := 0, locals := 0 }, some [])
def m_L_link : MI := (y_L_link, c_L_link, 9, (some FieldType.int), { frames := 9, cells := 6, slots := 35, locals := 163 }, some [(0, 18, 21, 13), (0, 18, 25, 15)])
def m_T_link : MI := (y_T_link, c_T_link, 10, (some FieldType.int), { frames := 8, cells := 6, slots := 35, locals := 134 }, some [])
def m_T_portAt : MI := (y_T_portAt, c_T_portAt, 4, (some (FieldType.object "ClockTree$Port")), { frames := 7, cells := 2, slots := 12, locals := 111 }, some [])
def m_T_nodeAt : MI := (y_T_nodeAt, c_T_nodeAt, 2, (some (FieldType.object "ClockTree$Node")), { frames := 6, cells := 1, slots := 6, locals := 90 }, some [])
def m_K_init : MI := (y_K_init, c_K_init, 5, none, { frames := 1, cells := 0, slots := 0, locals := 20 }, some [])
def m_L_up : MI := (y_L_up, c_L_up, 4, (some FieldType.int), { frames := 7, cells := 1, slots := 6, locals := 112 }, some [(0, 6, 9, 13)])
def m_T_up : MI := (y_T_up, c_T_up, 3, none, { frames := 6, cells := 1, slots := 6, locals := 90 }, some [])
def m_L_priority : MI := (y_L_priority, c_L_priority, 4, (some FieldType.int), { frames := 8, cells := 2, slots := 12, locals := 134 }, some [(0, 6, 9, 13)])
def m_T_priority : MI := (y_T_priority, c_T_priority, 4, none, { frames := 7, cells := 2, slots := 12, locals := 111 }, some [])
def m_L_round : MI := (y_L_round, c_L_round, 4, (some FieldType.int), { frames := 7, cells := 1, slots := 6, locals := 114 }, some [(0, 9, 12, 13)])
def m_T_round : MI := (y_T_round, c_T_round, 4, (some FieldType.int), { frames := 6, cells := 1, slots := 6, locals := 91 }, some [])
def m_L_state : MI := (y_L_state, c_L_state, 5, (some FieldType.int), { frames := 9, cells := 2, slots := 12, locals := 156 }, some [(0, 10, 13, 13)])
def m_T_state : MI := (y_T_state, c_T_state, 3, (some FieldType.int), { frames := 8, cells := 2, slots := 12, locals := 134 }, some [])
def m_L_root : MI := (y_L_root, c_L_root, 4, (some FieldType.int), { frames := 8, cells := 1, slots := 6, locals := 132 }, some [(0, 9, 12, 13)])
def m_T_root : MI := (y_T_root, c_T_root, 2, (some FieldType.int), { frames := 7, cells := 1, slots := 6, locals := 111 }, some [])
def m_L_steps : MI := (y_L_steps, c_L_steps, 4, (some FieldType.int), { frames := 8, cells := 1, slots := 6, locals := 132 }, some [(0, 9, 12, 13)])
def m_T_steps : MI := (y_T_steps, c_T_steps, 2, (some FieldType.int), { frames := 7, cells := 1, slots := 6, locals := 111 }, some [])
def m_L_kept : MI := (y_L_kept, c_L_kept, 5, (some FieldType.int), { frames := 9, cells := 2, slots := 12, locals := 157 }, some [(0, 10, 13, 13)])
def m_T_kept : MI := (y_T_kept, c_T_kept, 4, (some FieldType.int), { frames := 8, cells := 2, slots := 12, locals := 134 }, some [])
def m_L_exchange : MI := (y_L_exchange, c_L_exchange, 8, (some FieldType.int), { frames := 8, cells := 2, slots := 12, locals := 138 }, some [(0, 14, 17, 13), (0, 14, 21, 15), (0, 14, 25, 50)])
def m_T_exchange : MI := (y_T_exchange, c_T_exchange, 8, (some FieldType.long), { frames := 7, cells := 2, slots := 12, locals := 111 }, some [])
def m_L_delay : MI := (y_L_delay, c_L_delay, 4, (some FieldType.int), { frames := 8, cells := 1, slots := 6, locals := 132 }, some [(0, 8, 11, 13)])
def m_T_delay : MI := (y_T_delay, c_T_delay, 2, (some FieldType.long), { frames := 7, cells := 1, slots := 6, locals := 111 }, some [])
def m_L_offset : MI := (y_L_offset, c_L_offset, 4, (some FieldType.int), { frames := 8, cells := 1, slots := 6, locals := 132 }, some [(0, 8, 11, 13)])
def m_T_offset : MI := (y_T_offset, c_T_offset, 2, (some FieldType.long), { frames := 7, cells := 1, slots := 6, locals := 111 }, some [])
def m_M_init : MI := (y_M_init, c_M_init, 2, none, { frames := 1, cells := 22, slots := 1406, locals := 20 }, some [])
def m_M_thrown : MI := (y_M_thrown, c_M_thrown, 1, (some FieldType.int), { frames := 0, cells := 0, slots := 0, locals := 0 }, some [])
def m_M_node : MI := (y_M_node, c_M_node, 9, (some FieldType.int), { frames := 4, cells := 0, slots := 0, locals := 89 }, some [])
def m_M_byteSized : MI := (y_M_byteSized, c_M_byteSized, 2, (some FieldType.boolean), { frames := 0, cells := 0, slots := 0, locals := 0 }, some [])
def m_M_findAll : MI := (y_M_findAll, c_M_findAll, 2, none, { frames := 3, cells := 0, slots := 0, locals := 68 }, some [])
def m_M_find : MI := (y_M_find, c_M_find, 4, none, { frames := 2, cells := 0, slots := 0, locals := 45 }, some [])
def m_M_ownOne : MI := (y_M_ownOne, c_M_ownOne, 3, none, { frames := 0, cells := 0, slots := 0, locals := 0 }, some [])
def m_M_keptOne : MI := (y_M_keptOne, c_M_keptOne, 3, none, { frames := 0, cells := 0, slots := 0, locals := 0 }, some [])
def m_M_turnRound : MI := (y_M_turnRound, c_M_turnRound, 2, none, { frames := 0, cells := 0, slots := 0, locals := 0 }, some [])
def m_M_better : MI := (y_M_better, c_M_better, 2, (some FieldType.boolean), { frames := 0, cells := 0, slots := 0, locals := 0 }, some [])
def m_M_toldOne : MI := (y_M_toldOne, c_M_toldOne, 4, none, { frames := 1, cells := 0, slots := 0, locals := 22 }, some [])
def m_M_link : MI := (y_M_link, c_M_link, 8, (some FieldType.int), { frames := 4, cells := 0, slots := 0, locals := 89 }, some [])
def m_M_noPort : MI := (y_M_noPort, c_M_noPort, 3, (some FieldType.boolean), { frames := 1, cells := 0, slots := 0, locals := 21 }, some [])
def m_M_noNode : MI := (y_M_noNode, c_M_noNode, 2, (some FieldType.boolean), { frames := 0, cells := 0, slots := 0, locals := 0 }, some [])
def m_M_noDelay : MI := (y_M_noDelay, c_M_noDelay, 2, (some FieldType.boolean), { frames := 0, cells := 0, slots := 0, locals := 0 }, some [])
def m_M_up : MI := (y_M_up, c_M_up, 3, none, { frames := 0, cells := 0, slots := 0, locals := 0 }, some [])
def m_M_priority : MI := (y_M_priority, c_M_priority, 3, none, { frames := 4, cells := 0, slots := 0, locals := 89 }, some [])
def m_M_round : MI := (y_M_round, c_M_round, 4, (some FieldType.int), { frames := 5, cells := 0, slots := 0, locals := 111 }, some [])
def m_M_pass : MI := (y_M_pass, c_M_pass, 3, (some FieldType.int), { frames := 4, cells := 0, slots := 0, locals := 89 }, some [])
def m_M_sendAll : MI := (y_M_sendAll, c_M_sendAll, 5, (some FieldType.int), { frames := 2, cells := 0, slots := 0, locals := 45 }, some [])
def m_M_across : MI := (y_M_across, c_M_across, 3, (some FieldType.int), { frames := 1, cells := 0, slots := 0, locals := 22 }, some [])
def m_M_endOf : MI := (y_M_endOf, c_M_endOf, 3, (some FieldType.int), { frames := 0, cells := 0, slots := 0, locals := 0 }, some [])
def m_M_hear : MI := (y_M_hear, c_M_hear, 4, none, { frames := 0, cells := 0, slots := 0, locals := 0 }, some [])
def m_M_settle : MI := (y_M_settle, c_M_settle, 3, (some FieldType.int), { frames := 5, cells := 0, slots := 0, locals := 111 }, some [])
def m_M_remember : MI := (y_M_remember, c_M_remember, 2, none, { frames := 0, cells := 0, slots := 0, locals := 0 }, some [])
def m_M_isAsBefore : MI := (y_M_isAsBefore, c_M_isAsBefore, 4, (some FieldType.boolean), { frames := 0, cells := 0, slots := 0, locals := 0 }, some [])
def m_M_state : MI := (y_M_state, c_M_state, 3, (some FieldType.int), { frames := 2, cells := 0, slots := 0, locals := 43 }, some [])
def m_M_root : MI := (y_M_root, c_M_root, 2, (some FieldType.int), { frames := 1, cells := 0, slots := 0, locals := 21 }, some [])
def m_M_steps : MI := (y_M_steps, c_M_steps, 2, (some FieldType.int), { frames := 1, cells := 0, slots := 0, locals := 21 }, some [])
def m_M_stepsOf : MI := (y_M_stepsOf, c_M_stepsOf, 2, (some FieldType.int), { frames := 0, cells := 0, slots := 0, locals := 0 }, some [])
def m_M_kept : MI := (y_M_kept, c_M_kept, 4, (some FieldType.int), { frames := 2, cells := 0, slots := 0, locals := 43 }, some [])
def m_M_exchange : MI := (y_M_exchange, c_M_exchange, 6, (some FieldType.long), { frames := 3, cells := 0, slots := 0, locals := 96 }, some [])
def m_M_noRest : MI := (y_M_noRest, c_M_noRest, 2, (some FieldType.boolean), { frames := 0, cells := 0, slots := 0, locals := 0 }, some [])
def m_M_canSwap : MI := (y_M_canSwap, c_M_canSwap, 2, (some FieldType.boolean), { frames := 0, cells := 0, slots := 0, locals := 0 }, some [])
def m_M_swap : MI := (y_M_swap, c_M_swap, 33, none, { frames := 2, cells := 0, slots := 0, locals := 44 }, some [])
def m_M_sum : MI := (y_M_sum, c_M_sum, 7, (some FieldType.long), { frames := 0, cells := 0, slots := 0, locals := 0 }, some [])
def m_M_difference : MI := (y_M_difference, c_M_difference, 7, (some FieldType.long), { frames := 0, cells := 0, slots := 0, locals := 0 }, some [])
def m_M_delay : MI := (y_M_delay, c_M_delay, 2, (some FieldType.long), { frames := 1, cells := 0, slots := 0, locals := 21 }, some [])
def m_M_offset : MI := (y_M_offset, c_M_offset, 2, (some FieldType.long), { frames := 1, cells := 0, slots := 0, locals := 21 }, some [])
def m_M_discipline : MI := (y_M_discipline, c_M_discipline, 6, (some FieldType.int), { frames := 3, cells := 0, slots := 0, locals := 96 }, some [])
theorem k_T_init : (m_T_init.2.2.2.2.2 = some [] ∧ Cond.code m_T_init.1 m_T_init.2.1 m_T_init.2.2.1 m_T_init.2.2.2.1 ∈ gt ∧ Cond.initialized m_T_init.1.cls ∈ gt) ∧ (m_T_init.1.cls ≠ "java/lang/invoke/MethodHandle" ∧ m_T_init.1.cls ≠ "java/lang/invoke/VarHandle" ∧ (parseMethodDescriptor m_T_init.1.desc).map (fun d => d.parameters.length) = some 0) := ⟨⟨rfl, by decide +kernel, by decide +kernel⟩, by decide +kernel⟩
theorem k_R_init : (m_R_init.2.2.2.2.2 = some [] ∧ Cond.code m_R_init.1 m_R_init.2.1 m_R_init.2.2.1 m_R_init.2.2.2.1 ∈ gt ∧ Cond.initialized m_R_init.1.cls ∈ gt) ∧ (m_R_init.1.cls ≠ "java/lang/invoke/MethodHandle" ∧ m_R_init.1.cls ≠ "java/lang/invoke/VarHandle" ∧ (parseMethodDescriptor m_R_init.1.desc).map (fun d => d.parameters.length) = some 0) := ⟨⟨rfl, by decide +kernel, by decide +kernel⟩, by decide +kernel⟩
theorem k_T_settle : (m_T_settle.2.2.2.2.2 = some [] ∧ Cond.code m_T_settle.1 m_T_settle.2.1 m_T_settle.2.2.1 m_T_settle.2.2.2.1 ∈ gt ∧ Cond.initialized m_T_settle.1.cls ∈ gt) ∧ (m_T_settle.1.cls ≠ "java/lang/invoke/MethodHandle" ∧ m_T_settle.1.cls ≠ "java/lang/invoke/VarHandle" ∧ (parseMethodDescriptor m_T_settle.1.desc).map (fun d => d.parameters.length) = some 0) := ⟨⟨rfl, by decide +kernel, by decide +kernel⟩, by decide +kernel⟩
theorem k_T_playRound : (m_T_playRound.2.2.2.2.2 = some [] ∧ Cond.code m_T_playRound.1 m_T_playRound.2.1 m_T_playRound.2.2.1 m_T_playRound.2.2.2.1 ∈ gt ∧ Cond.initialized m_T_playRound.1.cls ∈ gt) ∧ (m_T_playRound.1.cls ≠ "java/lang/invoke/MethodHandle" ∧ m_T_playRound.1.cls ≠ "java/lang/invoke/VarHandle" ∧ (parseMethodDescriptor m_T_playRound.1.desc).map (fun d => d.parameters.length) = some 0) := ⟨⟨rfl, by decide +kernel, by decide +kernel⟩, by decide +kernel⟩
theorem k_T_hearAtPorts : (m_T_hearAtPorts.2.2.2.2.2 = some [] ∧ Cond.code m_T_hearAtPorts.1 m_T_hearAtPorts.2.1 m_T_hearAtPorts.2.2.1 m_T_hearAtPorts.2.2.2.1 ∈ gt ∧ Cond.initialized m_T_hearAtPorts.1.cls ∈ gt) ∧ (m_T_hearAtPorts.1.cls ≠ "java/lang/invoke/MethodHandle" ∧ m_T_hearAtPorts.1.cls ≠ "java/lang/invoke/VarHandle" ∧ (parseMethodDescriptor m_T_hearAtPorts.1.desc).map (fun d => d.parameters.length) = some 1) := ⟨⟨rfl, by decide +kernel, by decide +kernel⟩, by decide +kernel⟩
theorem k_P_findSender : (m_P_findSender.2.2.2.2.2 = some [] ∧ Cond.code m_P_findSender.1 m_P_findSender.2.1 m_P_findSender.2.2.1 m_P_findSender.2.2.2.1 ∈ gt ∧ Cond.initialized m_P_findSender.1.cls ∈ gt) ∧ (m_P_findSender.1.cls ≠ "java/lang/invoke/MethodHandle" ∧ m_P_findSender.1.cls ≠ "java/lang/invoke/VarHandle" ∧ (parseMethodDescriptor m_P_findSender.1.desc).map (fun d => d.parameters.length) = some 0) := ⟨⟨rfl, by decide +kernel, by decide +kernel⟩, by decide +kernel⟩
theorem k_K_farFrom : (m_K_farFrom.2.2.2.2.2 = some [] ∧ Cond.code m_K_farFrom.1 m_K_farFrom.2.1 m_K_farFrom.2.2.1 m_K_farFrom.2.2.2.1 ∈ gt ∧ Cond.initialized m_K_farFrom.1.cls ∈ gt) ∧ (m_K_farFrom.1.cls ≠ "java/lang/invoke/MethodHandle" ∧ m_K_farFrom.1.cls ≠ "java/lang/invoke/VarHandle" ∧ (parseMethodDescriptor m_K_farFrom.1.desc).map (fun d => d.parameters.length) = some 1) := ⟨⟨rfl, by decide +kernel, by decide +kernel⟩, by decide +kernel⟩
theorem k_N_accepts : (m_N_accepts.2.2.2.2.2 = some [] ∧ Cond.code m_N_accepts.1 m_N_accepts.2.1 m_N_accepts.2.2.1 m_N_accepts.2.2.2.1 ∈ gt ∧ Cond.initialized m_N_accepts.1.cls ∈ gt) ∧ (m_N_accepts.1.cls ≠ "java/lang/invoke/MethodHandle" ∧ m_N_accepts.1.cls ≠ "java/lang/invoke/VarHandle" ∧ (parseMethodDescriptor m_N_accepts.1.desc).map (fun d => d.parameters.length) = some 1) := ⟨⟨rfl, by decide +kernel, by decide +kernel⟩, by decide +kernel⟩
theorem k_P_keep : (m_P_keep.2.2.2.2.2 = some [] ∧ Cond.code m_P_keep.1 m_P_keep.2.1 m_P_keep.2.2.1 m_P_keep.2.2.2.1 ∈ gt ∧ Cond.initialized m_P_keep.1.cls ∈ gt) ∧ (m_P_keep.1.cls ≠ "java/lang/invoke/MethodHandle" ∧ m_P_keep.1.cls ≠ "java/lang/invoke/VarHandle" ∧ (parseMethodDescriptor m_P_keep.1.desc).map (fun d => d.parameters.length) = some 1) := ⟨⟨rfl, by decide +kernel, by decide +kernel⟩, by decide +kernel⟩
theorem k_D_tellsSameAs : (m_D_tellsSameAs.2.2.2.2.2 = some [] ∧ Cond.code m_D_tellsSameAs.1 m_D_tellsSameAs.2.1 m_D_tellsSameAs.2.2.1 m_D_tellsSameAs.2.2.2.1 ∈ gt ∧ Cond.initialized m_D_tellsSameAs.1.cls ∈ gt) ∧ (m_D_tellsSameAs.1.cls ≠ "java/lang/invoke/MethodHandle" ∧ m_D_tellsSameAs.1.cls ≠ "java/lang/invoke/VarHandle" ∧ (parseMethodDescriptor m_D_tellsSameAs.1.desc).map (fun d => d.parameters.length) = some 1) := ⟨⟨rfl, by decide +kernel, by decide +kernel⟩, by decide +kernel⟩
theorem k_D_setRootOf : (m_D_setRootOf.2.2.2.2.2 = some [] ∧ Cond.code m_D_setRootOf.1 m_D_setRootOf.2.1 m_D_setRootOf.2.2.1 m_D_setRootOf.2.2.2.1 ∈ gt ∧ Cond.initialized m_D_setRootOf.1.cls ∈ gt) ∧ (m_D_setRootOf.1.cls ≠ "java/lang/invoke/MethodHandle" ∧ m_D_setRootOf.1.cls ≠ "java/lang/invoke/VarHandle" ∧ (parseMethodDescriptor m_D_setRootOf.1.desc).map (fun d => d.parameters.length) = some 1) := ⟨⟨rfl, by decide +kernel, by decide +kernel⟩, by decide +kernel⟩
theorem k_P_growOlder : (m_P_growOlder.2.2.2.2.2 = some [] ∧ Cond.code m_P_growOlder.1 m_P_growOlder.2.1 m_P_growOlder.2.2.1 m_P_growOlder.2.2.2.1 ∈ gt ∧ Cond.initialized m_P_growOlder.1.cls ∈ gt) ∧ (m_P_growOlder.1.cls ≠ "java/lang/invoke/MethodHandle" ∧ m_P_growOlder.1.cls ≠ "java/lang/invoke/VarHandle" ∧ (parseMethodDescriptor m_P_growOlder.1.desc).map (fun d => d.parameters.length) = some 0) := ⟨⟨rfl, by decide +kernel, by decide +kernel⟩, by decide +kernel⟩
theorem k_N_findStates : (m_N_findStates.2.2.2.2.2 = some [] ∧ Cond.code m_N_findStates.1 m_N_findStates.2.1 m_N_findStates.2.2.1 m_N_findStates.2.2.2.1 ∈ gt ∧ Cond.initialized m_N_findStates.1.cls ∈ gt) ∧ (m_N_findStates.1.cls ≠ "java/lang/invoke/MethodHandle" ∧ m_N_findStates.1.cls ≠ "java/lang/invoke/VarHandle" ∧ (parseMethodDescriptor m_N_findStates.1.desc).map (fun d => d.parameters.length) = some 0) := ⟨⟨rfl, by decide +kernel, by decide +kernel⟩, by decide +kernel⟩
theorem k_N_findBest : (m_N_findBest.2.2.2.2.2 = some [] ∧ Cond.code m_N_findBest.1 m_N_findBest.2.1 m_N_findBest.2.2.1 m_N_findBest.2.2.2.1 ∈ gt ∧ Cond.initialized m_N_findBest.1.cls ∈ gt) ∧ (m_N_findBest.1.cls ≠ "java/lang/invoke/MethodHandle" ∧ m_N_findBest.1.cls ≠ "java/lang/invoke/VarHandle" ∧ (parseMethodDescriptor m_N_findBest.1.desc).map (fun d => d.parameters.length) = some 0) := ⟨⟨rfl, by decide +kernel, by decide +kernel⟩, by decide +kernel⟩
theorem k_D_betterThan : (m_D_betterThan.2.2.2.2.2 = some [] ∧ Cond.code m_D_betterThan.1 m_D_betterThan.2.1 m_D_betterThan.2.2.1 m_D_betterThan.2.2.2.1 ∈ gt ∧ Cond.initialized m_D_betterThan.1.cls ∈ gt) ∧ (m_D_betterThan.1.cls ≠ "java/lang/invoke/MethodHandle" ∧ m_D_betterThan.1.cls ≠ "java/lang/invoke/VarHandle" ∧ (parseMethodDescriptor m_D_betterThan.1.desc).map (fun d => d.parameters.length) = some 1) := ⟨⟨rfl, by decide +kernel, by decide +kernel⟩, by decide +kernel⟩
theorem k_P_tell : (m_P_tell.2.2.2.2.2 = some [] ∧ Cond.code m_P_tell.1 m_P_tell.2.1 m_P_tell.2.2.1 m_P_tell.2.2.2.1 ∈ gt ∧ Cond.initialized m_P_tell.1.cls ∈ gt) ∧ (m_P_tell.1.cls ≠ "java/lang/invoke/MethodHandle" ∧ m_P_tell.1.cls ≠ "java/lang/invoke/VarHandle" ∧ (parseMethodDescriptor m_P_tell.1.desc).map (fun d => d.parameters.length) = some 2) := ⟨⟨rfl, by decide +kernel, by decide +kernel⟩, by decide +kernel⟩
theorem k_P_findState : (m_P_findState.2.2.2.2.2 = some [] ∧ Cond.code m_P_findState.1 m_P_findState.2.1 m_P_findState.2.2.1 m_P_findState.2.2.2.1 ∈ gt ∧ Cond.initialized m_P_findState.1.cls ∈ gt) ∧ (m_P_findState.1.cls ≠ "java/lang/invoke/MethodHandle" ∧ m_P_findState.1.cls ≠ "java/lang/invoke/VarHandle" ∧ (parseMethodDescriptor m_P_findState.1.desc).map (fun d => d.parameters.length) = some 1) := ⟨⟨rfl, by decide +kernel, by decide +kernel⟩, by decide +kernel⟩
theorem k_T_discipline : (m_T_discipline.2.2.2.2.2 = some [] ∧ Cond.code m_T_discipline.1 m_T_discipline.2.1 m_T_discipline.2.2.1 m_T_discipline.2.2.2.1 ∈ gt ∧ Cond.initialized m_T_discipline.1.cls ∈ gt) ∧ (m_T_discipline.1.cls ≠ "java/lang/invoke/MethodHandle" ∧ m_T_discipline.1.cls ≠ "java/lang/invoke/VarHandle" ∧ (parseMethodDescriptor m_T_discipline.1.desc).map (fun d => d.parameters.length) = some 1) := ⟨⟨rfl, by decide +kernel, by decide +kernel⟩, by decide +kernel⟩
theorem k_T_setsClock : (m_T_setsClock.2.2.2.2.2 = some [] ∧ Cond.code m_T_setsClock.1 m_T_setsClock.2.1 m_T_setsClock.2.2.1 m_T_setsClock.2.2.2.1 ∈ gt ∧ Cond.initialized m_T_setsClock.1.cls ∈ gt) ∧ (m_T_setsClock.1.cls ≠ "java/lang/invoke/MethodHandle" ∧ m_T_setsClock.1.cls ≠ "java/lang/invoke/VarHandle" ∧ (parseMethodDescriptor m_T_setsClock.1.desc).map (fun d => d.parameters.length) = some 2) := ⟨⟨rfl, by decide +kernel, by decide +kernel⟩, by decide +kernel⟩
theorem k_T_openSlaveOf : (m_T_openSlaveOf.2.2.2.2.2 = some [] ∧ Cond.code m_T_openSlaveOf.1 m_T_openSlaveOf.2.1 m_T_openSlaveOf.2.2.1 m_T_openSlaveOf.2.2.2.1 ∈ gt ∧ Cond.initialized m_T_openSlaveOf.1.cls ∈ gt) ∧ (m_T_openSlaveOf.1.cls ≠ "java/lang/invoke/MethodHandle" ∧ m_T_openSlaveOf.1.cls ≠ "java/lang/invoke/VarHandle" ∧ (parseMethodDescriptor m_T_openSlaveOf.1.desc).map (fun d => d.parameters.length) = some 1) := ⟨⟨rfl, by decide +kernel, by decide +kernel⟩, by decide +kernel⟩
theorem k_T_setClock : (m_T_setClock.2.2.2.2.2 = some [] ∧ Cond.code m_T_setClock.1 m_T_setClock.2.1 m_T_setClock.2.2.1 m_T_setClock.2.2.2.1 ∈ gt ∧ Cond.initialized m_T_setClock.1.cls ∈ gt) ∧ (m_T_setClock.1.cls ≠ "java/lang/invoke/MethodHandle" ∧ m_T_setClock.1.cls ≠ "java/lang/invoke/VarHandle" ∧ (parseMethodDescriptor m_T_setClock.1.desc).map (fun d => d.parameters.length) = some 5) := ⟨⟨rfl, by decide +kernel, by decide +kernel⟩, by decide +kernel⟩
theorem k_K_delayTo : (m_K_delayTo.2.2.2.2.2 = some [] ∧ Cond.code m_K_delayTo.1 m_K_delayTo.2.1 m_K_delayTo.2.2.1 m_K_delayTo.2.2.2.1 ∈ gt ∧ Cond.initialized m_K_delayTo.1.cls ∈ gt) ∧ (m_K_delayTo.1.cls ≠ "java/lang/invoke/MethodHandle" ∧ m_K_delayTo.1.cls ≠ "java/lang/invoke/VarHandle" ∧ (parseMethodDescriptor m_K_delayTo.1.desc).map (fun d => d.parameters.length) = some 1) := ⟨⟨rfl, by decide +kernel, by decide +kernel⟩, by decide +kernel⟩
theorem k_K_delayFrom : (m_K_delayFrom.2.2.2.2.2 = some [] ∧ Cond.code m_K_delayFrom.1 m_K_delayFrom.2.1 m_K_delayFrom.2.2.1 m_K_delayFrom.2.2.2.1 ∈ gt ∧ Cond.initialized m_K_delayFrom.1.cls ∈ gt) ∧ (m_K_delayFrom.1.cls ≠ "java/lang/invoke/MethodHandle" ∧ m_K_delayFrom.1.cls ≠ "java/lang/invoke/VarHandle" ∧ (parseMethodDescriptor m_K_delayFrom.1.desc).map (fun d => d.parameters.length) = some 1) := ⟨⟨rfl, by decide +kernel, by decide +kernel⟩, by decide +kernel⟩
theorem k_R_noteTimes : (m_R_noteTimes.2.2.2.2.2 = some [] ∧ Cond.code m_R_noteTimes.1 m_R_noteTimes.2.1 m_R_noteTimes.2.2.1 m_R_noteTimes.2.2.2.1 ∈ gt ∧ Cond.initialized m_R_noteTimes.1.cls ∈ gt) ∧ (m_R_noteTimes.1.cls ≠ "java/lang/invoke/MethodHandle" ∧ m_R_noteTimes.1.cls ≠ "java/lang/invoke/VarHandle" ∧ (parseMethodDescriptor m_R_noteTimes.1.desc).map (fun d => d.parameters.length) = some 3) := ⟨⟨rfl, by decide +kernel, by decide +kernel⟩, by decide +kernel⟩
theorem k_R_plus : (m_R_plus.2.2.2.2.2 = some [] ∧ Cond.code m_R_plus.1 m_R_plus.2.1 m_R_plus.2.2.1 m_R_plus.2.2.2.1 ∈ gt ∧ Cond.initialized m_R_plus.1.cls ∈ gt) ∧ (m_R_plus.1.cls ≠ "java/lang/invoke/MethodHandle" ∧ m_R_plus.1.cls ≠ "java/lang/invoke/VarHandle" ∧ (parseMethodDescriptor m_R_plus.1.desc).map (fun d => d.parameters.length) = some 2) := ⟨⟨rfl, by decide +kernel, by decide +kernel⟩, by decide +kernel⟩
theorem k_R_noteClocks : (m_R_noteClocks.2.2.2.2.2 = some [] ∧ Cond.code m_R_noteClocks.1 m_R_noteClocks.2.1 m_R_noteClocks.2.2.1 m_R_noteClocks.2.2.2.1 ∈ gt ∧ Cond.initialized m_R_noteClocks.1.cls ∈ gt) ∧ (m_R_noteClocks.1.cls ≠ "java/lang/invoke/MethodHandle" ∧ m_R_noteClocks.1.cls ≠ "java/lang/invoke/VarHandle" ∧ (parseMethodDescriptor m_R_noteClocks.1.desc).map (fun d => d.parameters.length) = some 2) := ⟨⟨rfl, by decide +kernel, by decide +kernel⟩, by decide +kernel⟩
theorem k_R_find : (m_R_find.2.2.2.2.2 = some [] ∧ Cond.code m_R_find.1 m_R_find.2.1 m_R_find.2.2.1 m_R_find.2.2.2.1 ∈ gt ∧ Cond.initialized m_R_find.1.cls ∈ gt) ∧ (m_R_find.1.cls ≠ "java/lang/invoke/MethodHandle" ∧ m_R_find.1.cls ≠ "java/lang/invoke/VarHandle" ∧ (parseMethodDescriptor m_R_find.1.desc).map (fun d => d.parameters.length) = some 3) := ⟨⟨rfl, by decide +kernel, by decide +kernel⟩, by decide +kernel⟩
theorem k_R_minus : (m_R_minus.2.2.2.2.2 = some [] ∧ Cond.code m_R_minus.1 m_R_minus.2.1 m_R_minus.2.2.1 m_R_minus.2.2.2.1 ∈ gt ∧ Cond.initialized m_R_minus.1.cls ∈ gt) ∧ (m_R_minus.1.cls ≠ "java/lang/invoke/MethodHandle" ∧ m_R_minus.1.cls ≠ "java/lang/invoke/VarHandle" ∧ (parseMethodDescriptor m_R_minus.1.desc).map (fun d => d.parameters.length) = some 2) := ⟨⟨rfl, by decide +kernel, by decide +kernel⟩, by decide +kernel⟩
theorem k_T_node : (m_T_node.2.2.2.2.2 = some [] ∧ Cond.code m_T_node.1 m_T_node.2.1 m_T_node.2.2.1 m_T_node.2.2.2.1 ∈ gt ∧ Cond.initialized m_T_node.1.cls ∈ gt) ∧ (m_T_node.1.cls ≠ "java/lang/invoke/MethodHandle" ∧ m_T_node.1.cls ≠ "java/lang/invoke/VarHandle" ∧ (parseMethodDescriptor m_T_node.1.desc).map (fun d => d.parameters.length) = some 5) := ⟨⟨rfl, by decide +kernel, by decide +kernel⟩, by decide +kernel⟩
theorem k_T_isWithin : (m_T_isWithin.2.2.2.2.2 = some [] ∧ Cond.code m_T_isWithin.1 m_T_isWithin.2.1 m_T_isWithin.2.2.1 m_T_isWithin.2.2.2.1 ∈ gt ∧ Cond.initialized m_T_isWithin.1.cls ∈ gt) ∧ (m_T_isWithin.1.cls ≠ "java/lang/invoke/MethodHandle" ∧ m_T_isWithin.1.cls ≠ "java/lang/invoke/VarHandle" ∧ (parseMethodDescriptor m_T_isWithin.1.desc).map (fun d => d.parameters.length) = some 2) := ⟨⟨rfl, by decide +kernel, by decide +kernel⟩, by decide +kernel⟩
theorem k_T_hasIdentity : (m_T_hasIdentity.2.2.2.2.2 = some [] ∧ Cond.code m_T_hasIdentity.1 m_T_hasIdentity.2.1 m_T_hasIdentity.2.2.1 m_T_hasIdentity.2.2.2.1 ∈ gt ∧ Cond.initialized m_T_hasIdentity.1.cls ∈ gt) ∧ (m_T_hasIdentity.1.cls ≠ "java/lang/invoke/MethodHandle" ∧ m_T_hasIdentity.1.cls ≠ "java/lang/invoke/VarHandle" ∧ (parseMethodDescriptor m_T_hasIdentity.1.desc).map (fun d => d.parameters.length) = some 1) := ⟨⟨rfl, by decide +kernel, by decide +kernel⟩, by decide +kernel⟩
theorem k_N_init : (m_N_init.2.2.2.2.2 = some [] ∧ Cond.code m_N_init.1 m_N_init.2.1 m_N_init.2.2.1 m_N_init.2.2.2.1 ∈ gt ∧ Cond.initialized m_N_init.1.cls ∈ gt) ∧ (m_N_init.1.cls ≠ "java/lang/invoke/MethodHandle" ∧ m_N_init.1.cls ≠ "java/lang/invoke/VarHandle" ∧ (parseMethodDescriptor m_N_init.1.desc).map (fun d => d.parameters.length) = some 2) := ⟨⟨rfl, by decide +kernel, by decide +kernel⟩, by decide +kernel⟩
theorem k_D_init : (m_D_init.2.2.2.2.2 = some [] ∧ Cond.code m_D_init.1 m_D_init.2.1 m_D_init.2.2.1 m_D_init.2.2.2.1 ∈ gt ∧ Cond.initialized m_D_init.1.cls ∈ gt) ∧ (m_D_init.1.cls ≠ "java/lang/invoke/MethodHandle" ∧ m_D_init.1.cls ≠ "java/lang/invoke/VarHandle" ∧ (parseMethodDescriptor m_D_init.1.desc).map (fun d => d.parameters.length) = some 0) := ⟨⟨rfl, by decide +kernel, by decide +kernel⟩, by decide +kernel⟩
theorem k_P_init : (m_P_init.2.2.2.2.2 = some [] ∧ Cond.code m_P_init.1 m_P_init.2.1 m_P_init.2.2.1 m_P_init.2.2.2.1 ∈ gt ∧ Cond.initialized m_P_init.1.cls ∈ gt) ∧ (m_P_init.1.cls ≠ "java/lang/invoke/MethodHandle" ∧ m_P_init.1.cls ≠ "java/lang/invoke/VarHandle" ∧ (parseMethodDescriptor m_P_init.1.desc).map (fun d => d.parameters.length) = some 2) := ⟨⟨rfl, by decide +kernel, by decide +kernel⟩, by decide +kernel⟩
theorem k_D_setOwn : (m_D_setOwn.2.2.2.2.2 = some [] ∧ Cond.code m_D_setOwn.1 m_D_setOwn.2.1 m_D_setOwn.2.2.1 m_D_setOwn.2.2.2.1 ∈ gt ∧ Cond.initialized m_D_setOwn.1.cls ∈ gt) ∧ (m_D_setOwn.1.cls ≠ "java/lang/invoke/MethodHandle" ∧ m_D_setOwn.1.cls ≠ "java/lang/invoke/VarHandle" ∧ (parseMethodDescriptor m_D_setOwn.1.desc).map (fun d => d.parameters.length) = some 4) := ⟨⟨rfl, by decide +kernel, by decide +kernel⟩, by decide +kernel⟩
theorem k_T_link : (m_T_link.2.2.2.2.2 = some [] ∧ Cond.code m_T_link.1 m_T_link.2.1 m_T_link.2.2.1 m_T_link.2.2.2.1 ∈ gt ∧ Cond.initialized m_T_link.1.cls ∈ gt) ∧ (m_T_link.1.cls ≠ "java/lang/invoke/MethodHandle" ∧ m_T_link.1.cls ≠ "java/lang/invoke/VarHandle" ∧ (parseMethodDescriptor m_T_link.1.desc).map (fun d => d.parameters.length) = some 6) := ⟨⟨rfl, by decide +kernel, by decide +kernel⟩, by decide +kernel⟩
theorem k_T_portAt : (m_T_portAt.2.2.2.2.2 = some [] ∧ Cond.code m_T_portAt.1 m_T_portAt.2.1 m_T_portAt.2.2.1 m_T_portAt.2.2.2.1 ∈ gt ∧ Cond.initialized m_T_portAt.1.cls ∈ gt) ∧ (m_T_portAt.1.cls ≠ "java/lang/invoke/MethodHandle" ∧ m_T_portAt.1.cls ≠ "java/lang/invoke/VarHandle" ∧ (parseMethodDescriptor m_T_portAt.1.desc).map (fun d => d.parameters.length) = some 2) := ⟨⟨rfl, by decide +kernel, by decide +kernel⟩, by decide +kernel⟩
theorem k_T_nodeAt : (m_T_nodeAt.2.2.2.2.2 = some [] ∧ Cond.code m_T_nodeAt.1 m_T_nodeAt.2.1 m_T_nodeAt.2.2.1 m_T_nodeAt.2.2.2.1 ∈ gt ∧ Cond.initialized m_T_nodeAt.1.cls ∈ gt) ∧ (m_T_nodeAt.1.cls ≠ "java/lang/invoke/MethodHandle" ∧ m_T_nodeAt.1.cls ≠ "java/lang/invoke/VarHandle" ∧ (parseMethodDescriptor m_T_nodeAt.1.desc).map (fun d => d.parameters.length) = some 1) := ⟨⟨rfl, by decide +kernel, by decide +kernel⟩, by decide +kernel⟩
theorem k_K_init : (m_K_init.2.2.2.2.2 = some [] ∧ Cond.code m_K_init.1 m_K_init.2.1 m_K_init.2.2.1 m_K_init.2.2.2.1 ∈ gt ∧ Cond.initialized m_K_init.1.cls ∈ gt) ∧ (m_K_init.1.cls ≠ "java/lang/invoke/MethodHandle" ∧ m_K_init.1.cls ≠ "java/lang/invoke/VarHandle" ∧ (parseMethodDescriptor m_K_init.1.desc).map (fun d => d.parameters.length) = some 4) := ⟨⟨rfl, by decide +kernel, by decide +kernel⟩, by decide +kernel⟩
theorem k_T_up : (m_T_up.2.2.2.2.2 = some [] ∧ Cond.code m_T_up.1 m_T_up.2.1 m_T_up.2.2.1 m_T_up.2.2.2.1 ∈ gt ∧ Cond.initialized m_T_up.1.cls ∈ gt) ∧ (m_T_up.1.cls ≠ "java/lang/invoke/MethodHandle" ∧ m_T_up.1.cls ≠ "java/lang/invoke/VarHandle" ∧ (parseMethodDescriptor m_T_up.1.desc).map (fun d => d.parameters.length) = some 2) := ⟨⟨rfl, by decide +kernel, by decide +kernel⟩, by decide +kernel⟩
theorem k_T_priority : (m_T_priority.2.2.2.2.2 = some [] ∧ Cond.code m_T_priority.1 m_T_priority.2.1 m_T_priority.2.2.1 m_T_priority.2.2.2.1 ∈ gt ∧ Cond.initialized m_T_priority.1.cls ∈ gt) ∧ (m_T_priority.1.cls ≠ "java/lang/invoke/MethodHandle" ∧ m_T_priority.1.cls ≠ "java/lang/invoke/VarHandle" ∧ (parseMethodDescriptor m_T_priority.1.desc).map (fun d => d.parameters.length) = some 2) := ⟨⟨rfl, by decide +kernel, by decide +kernel⟩, by decide +kernel⟩
theorem k_T_round : (m_T_round.2.2.2.2.2 = some [] ∧ Cond.code m_T_round.1 m_T_round.2.1 m_T_round.2.2.1 m_T_round.2.2.2.1 ∈ gt ∧ Cond.initialized m_T_round.1.cls ∈ gt) ∧ (m_T_round.1.cls ≠ "java/lang/invoke/MethodHandle" ∧ m_T_round.1.cls ≠ "java/lang/invoke/VarHandle" ∧ (parseMethodDescriptor m_T_round.1.desc).map (fun d => d.parameters.length) = some 1) := ⟨⟨rfl, by decide +kernel, by decide +kernel⟩, by decide +kernel⟩
theorem k_T_state : (m_T_state.2.2.2.2.2 = some [] ∧ Cond.code m_T_state.1 m_T_state.2.1 m_T_state.2.2.1 m_T_state.2.2.2.1 ∈ gt ∧ Cond.initialized m_T_state.1.cls ∈ gt) ∧ (m_T_state.1.cls ≠ "java/lang/invoke/MethodHandle" ∧ m_T_state.1.cls ≠ "java/lang/invoke/VarHandle" ∧ (parseMethodDescriptor m_T_state.1.desc).map (fun d => d.parameters.length) = some 2) := ⟨⟨rfl, by decide +kernel, by decide +kernel⟩, by decide +kernel⟩
theorem k_T_root : (m_T_root.2.2.2.2.2 = some [] ∧ Cond.code m_T_root.1 m_T_root.2.1 m_T_root.2.2.1 m_T_root.2.2.2.1 ∈ gt ∧ Cond.initialized m_T_root.1.cls ∈ gt) ∧ (m_T_root.1.cls ≠ "java/lang/invoke/MethodHandle" ∧ m_T_root.1.cls ≠ "java/lang/invoke/VarHandle" ∧ (parseMethodDescriptor m_T_root.1.desc).map (fun d => d.parameters.length) = some 1) := ⟨⟨rfl, by decide +kernel, by decide +kernel⟩, by decide +kernel⟩
theorem k_T_steps : (m_T_steps.2.2.2.2.2 = some [] ∧ Cond.code m_T_steps.1 m_T_steps.2.1 m_T_steps.2.2.1 m_T_steps.2.2.2.1 ∈ gt ∧ Cond.initialized m_T_steps.1.cls ∈ gt) ∧ (m_T_steps.1.cls ≠ "java/lang/invoke/MethodHandle" ∧ m_T_steps.1.cls ≠ "java/lang/invoke/VarHandle" ∧ (parseMethodDescriptor m_T_steps.1.desc).map (fun d => d.parameters.length) = some 1) := ⟨⟨rfl, by decide +kernel, by decide +kernel⟩, by decide +kernel⟩
theorem k_T_kept : (m_T_kept.2.2.2.2.2 = some [] ∧ Cond.code m_T_kept.1 m_T_kept.2.1 m_T_kept.2.2.1 m_T_kept.2.2.2.1 ∈ gt ∧ Cond.initialized m_T_kept.1.cls ∈ gt) ∧ (m_T_kept.1.cls ≠ "java/lang/invoke/MethodHandle" ∧ m_T_kept.1.cls ≠ "java/lang/invoke/VarHandle" ∧ (parseMethodDescriptor m_T_kept.1.desc).map (fun d => d.parameters.length) = some 2) := ⟨⟨rfl, by decide +kernel, by decide +kernel⟩, by decide +kernel⟩
theorem k_T_exchange : (m_T_exchange.2.2.2.2.2 = some [] ∧ Cond.code m_T_exchange.1 m_T_exchange.2.1 m_T_exchange.2.2.1 m_T_exchange.2.2.2.1 ∈ gt ∧ Cond.initialized m_T_exchange.1.cls ∈ gt) ∧ (m_T_exchange.1.cls ≠ "java/lang/invoke/MethodHandle" ∧ m_T_exchange.1.cls ≠ "java/lang/invoke/VarHandle" ∧ (parseMethodDescriptor m_T_exchange.1.desc).map (fun d => d.parameters.length) = some 4) := ⟨⟨rfl, by decide +kernel, by decide +kernel⟩, by decide +kernel⟩
theorem k_T_delay : (m_T_delay.2.2.2.2.2 = some [] ∧ Cond.code m_T_delay.1 m_T_delay.2.1 m_T_delay.2.2.1 m_T_delay.2.2.2.1 ∈ gt ∧ Cond.initialized m_T_delay.1.cls ∈ gt) ∧ (m_T_delay.1.cls ≠ "java/lang/invoke/MethodHandle" ∧ m_T_delay.1.cls ≠ "java/lang/invoke/VarHandle" ∧ (parseMethodDescriptor m_T_delay.1.desc).map (fun d => d.parameters.length) = some 1) := ⟨⟨rfl, by decide +kernel, by decide +kernel⟩, by decide +kernel⟩
theorem k_T_offset : (m_T_offset.2.2.2.2.2 = some [] ∧ Cond.code m_T_offset.1 m_T_offset.2.1 m_T_offset.2.2.1 m_T_offset.2.2.2.1 ∈ gt ∧ Cond.initialized m_T_offset.1.cls ∈ gt) ∧ (m_T_offset.1.cls ≠ "java/lang/invoke/MethodHandle" ∧ m_T_offset.1.cls ≠ "java/lang/invoke/VarHandle" ∧ (parseMethodDescriptor m_T_offset.1.desc).map (fun d => d.parameters.length) = some 1) := ⟨⟨rfl, by decide +kernel, by decide +kernel⟩, by decide +kernel⟩
theorem k_M_init : (m_M_init.2.2.2.2.2 = some [] ∧ Cond.code m_M_init.1 m_M_init.2.1 m_M_init.2.2.1 m_M_init.2.2.2.1 ∈ gt ∧ Cond.initialized m_M_init.1.cls ∈ gt) ∧ (m_M_init.1.cls ≠ "java/lang/invoke/MethodHandle" ∧ m_M_init.1.cls ≠ "java/lang/invoke/VarHandle" ∧ (parseMethodDescriptor m_M_init.1.desc).map (fun d => d.parameters.length) = some 0) := ⟨⟨rfl, by decide +kernel, by decide +kernel⟩, by decide +kernel⟩
theorem k_M_thrown : (m_M_thrown.2.2.2.2.2 = some [] ∧ Cond.code m_M_thrown.1 m_M_thrown.2.1 m_M_thrown.2.2.1 m_M_thrown.2.2.2.1 ∈ gt ∧ Cond.initialized m_M_thrown.1.cls ∈ gt) ∧ (m_M_thrown.1.cls ≠ "java/lang/invoke/MethodHandle" ∧ m_M_thrown.1.cls ≠ "java/lang/invoke/VarHandle" ∧ (parseMethodDescriptor m_M_thrown.1.desc).map (fun d => d.parameters.length) = some 0) := ⟨⟨rfl, by decide +kernel, by decide +kernel⟩, by decide +kernel⟩
theorem k_M_node : (m_M_node.2.2.2.2.2 = some [] ∧ Cond.code m_M_node.1 m_M_node.2.1 m_M_node.2.2.1 m_M_node.2.2.2.1 ∈ gt ∧ Cond.initialized m_M_node.1.cls ∈ gt) ∧ (m_M_node.1.cls ≠ "java/lang/invoke/MethodHandle" ∧ m_M_node.1.cls ≠ "java/lang/invoke/VarHandle" ∧ (parseMethodDescriptor m_M_node.1.desc).map (fun d => d.parameters.length) = some 5) := ⟨⟨rfl, by decide +kernel, by decide +kernel⟩, by decide +kernel⟩
theorem k_M_byteSized : (m_M_byteSized.2.2.2.2.2 = some [] ∧ Cond.code m_M_byteSized.1 m_M_byteSized.2.1 m_M_byteSized.2.2.1 m_M_byteSized.2.2.2.1 ∈ gt ∧ Cond.initialized m_M_byteSized.1.cls ∈ gt) ∧ (m_M_byteSized.1.cls ≠ "java/lang/invoke/MethodHandle" ∧ m_M_byteSized.1.cls ≠ "java/lang/invoke/VarHandle" ∧ (parseMethodDescriptor m_M_byteSized.1.desc).map (fun d => d.parameters.length) = some 1) := ⟨⟨rfl, by decide +kernel, by decide +kernel⟩, by decide +kernel⟩
theorem k_M_findAll : (m_M_findAll.2.2.2.2.2 = some [] ∧ Cond.code m_M_findAll.1 m_M_findAll.2.1 m_M_findAll.2.2.1 m_M_findAll.2.2.2.1 ∈ gt ∧ Cond.initialized m_M_findAll.1.cls ∈ gt) ∧ (m_M_findAll.1.cls ≠ "java/lang/invoke/MethodHandle" ∧ m_M_findAll.1.cls ≠ "java/lang/invoke/VarHandle" ∧ (parseMethodDescriptor m_M_findAll.1.desc).map (fun d => d.parameters.length) = some 0) := ⟨⟨rfl, by decide +kernel, by decide +kernel⟩, by decide +kernel⟩
theorem k_M_find : (m_M_find.2.2.2.2.2 = some [] ∧ Cond.code m_M_find.1 m_M_find.2.1 m_M_find.2.2.1 m_M_find.2.2.2.1 ∈ gt ∧ Cond.initialized m_M_find.1.cls ∈ gt) ∧ (m_M_find.1.cls ≠ "java/lang/invoke/MethodHandle" ∧ m_M_find.1.cls ≠ "java/lang/invoke/VarHandle" ∧ (parseMethodDescriptor m_M_find.1.desc).map (fun d => d.parameters.length) = some 1) := ⟨⟨rfl, by decide +kernel, by decide +kernel⟩, by decide +kernel⟩
theorem k_M_ownOne : (m_M_ownOne.2.2.2.2.2 = some [] ∧ Cond.code m_M_ownOne.1 m_M_ownOne.2.1 m_M_ownOne.2.2.1 m_M_ownOne.2.2.2.1 ∈ gt ∧ Cond.initialized m_M_ownOne.1.cls ∈ gt) ∧ (m_M_ownOne.1.cls ≠ "java/lang/invoke/MethodHandle" ∧ m_M_ownOne.1.cls ≠ "java/lang/invoke/VarHandle" ∧ (parseMethodDescriptor m_M_ownOne.1.desc).map (fun d => d.parameters.length) = some 2) := ⟨⟨rfl, by decide +kernel, by decide +kernel⟩, by decide +kernel⟩
theorem k_M_keptOne : (m_M_keptOne.2.2.2.2.2 = some [] ∧ Cond.code m_M_keptOne.1 m_M_keptOne.2.1 m_M_keptOne.2.2.1 m_M_keptOne.2.2.2.1 ∈ gt ∧ Cond.initialized m_M_keptOne.1.cls ∈ gt) ∧ (m_M_keptOne.1.cls ≠ "java/lang/invoke/MethodHandle" ∧ m_M_keptOne.1.cls ≠ "java/lang/invoke/VarHandle" ∧ (parseMethodDescriptor m_M_keptOne.1.desc).map (fun d => d.parameters.length) = some 1) := ⟨⟨rfl, by decide +kernel, by decide +kernel⟩, by decide +kernel⟩
theorem k_M_turnRound : (m_M_turnRound.2.2.2.2.2 = some [] ∧ Cond.code m_M_turnRound.1 m_M_turnRound.2.1 m_M_turnRound.2.2.1 m_M_turnRound.2.2.2.1 ∈ gt ∧ Cond.initialized m_M_turnRound.1.cls ∈ gt) ∧ (m_M_turnRound.1.cls ≠ "java/lang/invoke/MethodHandle" ∧ m_M_turnRound.1.cls ≠ "java/lang/invoke/VarHandle" ∧ (parseMethodDescriptor m_M_turnRound.1.desc).map (fun d => d.parameters.length) = some 0) := ⟨⟨rfl, by decide +kernel, by decide +kernel⟩, by decide +kernel⟩
theorem k_M_better : (m_M_better.2.2.2.2.2 = some [] ∧ Cond.code m_M_better.1 m_M_better.2.1 m_M_better.2.2.1 m_M_better.2.2.2.1 ∈ gt ∧ Cond.initialized m_M_better.1.cls ∈ gt) ∧ (m_M_better.1.cls ≠ "java/lang/invoke/MethodHandle" ∧ m_M_better.1.cls ≠ "java/lang/invoke/VarHandle" ∧ (parseMethodDescriptor m_M_better.1.desc).map (fun d => d.parameters.length) = some 0) := ⟨⟨rfl, by decide +kernel, by decide +kernel⟩, by decide +kernel⟩
theorem k_M_toldOne : (m_M_toldOne.2.2.2.2.2 = some [] ∧ Cond.code m_M_toldOne.1 m_M_toldOne.2.1 m_M_toldOne.2.2.1 m_M_toldOne.2.2.2.1 ∈ gt ∧ Cond.initialized m_M_toldOne.1.cls ∈ gt) ∧ (m_M_toldOne.1.cls ≠ "java/lang/invoke/MethodHandle" ∧ m_M_toldOne.1.cls ≠ "java/lang/invoke/VarHandle" ∧ (parseMethodDescriptor m_M_toldOne.1.desc).map (fun d => d.parameters.length) = some 1) := ⟨⟨rfl, by decide +kernel, by decide +kernel⟩, by decide +kernel⟩
theorem k_M_link : (m_M_link.2.2.2.2.2 = some [] ∧ Cond.code m_M_link.1 m_M_link.2.1 m_M_link.2.2.1 m_M_link.2.2.2.1 ∈ gt ∧ Cond.initialized m_M_link.1.cls ∈ gt) ∧ (m_M_link.1.cls ≠ "java/lang/invoke/MethodHandle" ∧ m_M_link.1.cls ≠ "java/lang/invoke/VarHandle" ∧ (parseMethodDescriptor m_M_link.1.desc).map (fun d => d.parameters.length) = some 6) := ⟨⟨rfl, by decide +kernel, by decide +kernel⟩, by decide +kernel⟩
theorem k_M_noPort : (m_M_noPort.2.2.2.2.2 = some [] ∧ Cond.code m_M_noPort.1 m_M_noPort.2.1 m_M_noPort.2.2.1 m_M_noPort.2.2.2.1 ∈ gt ∧ Cond.initialized m_M_noPort.1.cls ∈ gt) ∧ (m_M_noPort.1.cls ≠ "java/lang/invoke/MethodHandle" ∧ m_M_noPort.1.cls ≠ "java/lang/invoke/VarHandle" ∧ (parseMethodDescriptor m_M_noPort.1.desc).map (fun d => d.parameters.length) = some 2) := ⟨⟨rfl, by decide +kernel, by decide +kernel⟩, by decide +kernel⟩
theorem k_M_noNode : (m_M_noNode.2.2.2.2.2 = some [] ∧ Cond.code m_M_noNode.1 m_M_noNode.2.1 m_M_noNode.2.2.1 m_M_noNode.2.2.2.1 ∈ gt ∧ Cond.initialized m_M_noNode.1.cls ∈ gt) ∧ (m_M_noNode.1.cls ≠ "java/lang/invoke/MethodHandle" ∧ m_M_noNode.1.cls ≠ "java/lang/invoke/VarHandle" ∧ (parseMethodDescriptor m_M_noNode.1.desc).map (fun d => d.parameters.length) = some 1) := ⟨⟨rfl, by decide +kernel, by decide +kernel⟩, by decide +kernel⟩
theorem k_M_noDelay : (m_M_noDelay.2.2.2.2.2 = some [] ∧ Cond.code m_M_noDelay.1 m_M_noDelay.2.1 m_M_noDelay.2.2.1 m_M_noDelay.2.2.2.1 ∈ gt ∧ Cond.initialized m_M_noDelay.1.cls ∈ gt) ∧ (m_M_noDelay.1.cls ≠ "java/lang/invoke/MethodHandle" ∧ m_M_noDelay.1.cls ≠ "java/lang/invoke/VarHandle" ∧ (parseMethodDescriptor m_M_noDelay.1.desc).map (fun d => d.parameters.length) = some 1) := ⟨⟨rfl, by decide +kernel, by decide +kernel⟩, by decide +kernel⟩
theorem k_M_up : (m_M_up.2.2.2.2.2 = some [] ∧ Cond.code m_M_up.1 m_M_up.2.1 m_M_up.2.2.1 m_M_up.2.2.2.1 ∈ gt ∧ Cond.initialized m_M_up.1.cls ∈ gt) ∧ (m_M_up.1.cls ≠ "java/lang/invoke/MethodHandle" ∧ m_M_up.1.cls ≠ "java/lang/invoke/VarHandle" ∧ (parseMethodDescriptor m_M_up.1.desc).map (fun d => d.parameters.length) = some 2) := ⟨⟨rfl, by decide +kernel, by decide +kernel⟩, by decide +kernel⟩
theorem k_M_priority : (m_M_priority.2.2.2.2.2 = some [] ∧ Cond.code m_M_priority.1 m_M_priority.2.1 m_M_priority.2.2.1 m_M_priority.2.2.2.1 ∈ gt ∧ Cond.initialized m_M_priority.1.cls ∈ gt) ∧ (m_M_priority.1.cls ≠ "java/lang/invoke/MethodHandle" ∧ m_M_priority.1.cls ≠ "java/lang/invoke/VarHandle" ∧ (parseMethodDescriptor m_M_priority.1.desc).map (fun d => d.parameters.length) = some 2) := ⟨⟨rfl, by decide +kernel, by decide +kernel⟩, by decide +kernel⟩
theorem k_M_round : (m_M_round.2.2.2.2.2 = some [] ∧ Cond.code m_M_round.1 m_M_round.2.1 m_M_round.2.2.1 m_M_round.2.2.2.1 ∈ gt ∧ Cond.initialized m_M_round.1.cls ∈ gt) ∧ (m_M_round.1.cls ≠ "java/lang/invoke/MethodHandle" ∧ m_M_round.1.cls ≠ "java/lang/invoke/VarHandle" ∧ (parseMethodDescriptor m_M_round.1.desc).map (fun d => d.parameters.length) = some 1) := ⟨⟨rfl, by decide +kernel, by decide +kernel⟩, by decide +kernel⟩
theorem k_M_pass : (m_M_pass.2.2.2.2.2 = some [] ∧ Cond.code m_M_pass.1 m_M_pass.2.1 m_M_pass.2.2.1 m_M_pass.2.2.2.1 ∈ gt ∧ Cond.initialized m_M_pass.1.cls ∈ gt) ∧ (m_M_pass.1.cls ≠ "java/lang/invoke/MethodHandle" ∧ m_M_pass.1.cls ≠ "java/lang/invoke/VarHandle" ∧ (parseMethodDescriptor m_M_pass.1.desc).map (fun d => d.parameters.length) = some 0) := ⟨⟨rfl, by decide +kernel, by decide +kernel⟩, by decide +kernel⟩
theorem k_M_sendAll : (m_M_sendAll.2.2.2.2.2 = some [] ∧ Cond.code m_M_sendAll.1 m_M_sendAll.2.1 m_M_sendAll.2.2.1 m_M_sendAll.2.2.2.1 ∈ gt ∧ Cond.initialized m_M_sendAll.1.cls ∈ gt) ∧ (m_M_sendAll.1.cls ≠ "java/lang/invoke/MethodHandle" ∧ m_M_sendAll.1.cls ≠ "java/lang/invoke/VarHandle" ∧ (parseMethodDescriptor m_M_sendAll.1.desc).map (fun d => d.parameters.length) = some 0) := ⟨⟨rfl, by decide +kernel, by decide +kernel⟩, by decide +kernel⟩
theorem k_M_across : (m_M_across.2.2.2.2.2 = some [] ∧ Cond.code m_M_across.1 m_M_across.2.1 m_M_across.2.2.1 m_M_across.2.2.2.1 ∈ gt ∧ Cond.initialized m_M_across.1.cls ∈ gt) ∧ (m_M_across.1.cls ≠ "java/lang/invoke/MethodHandle" ∧ m_M_across.1.cls ≠ "java/lang/invoke/VarHandle" ∧ (parseMethodDescriptor m_M_across.1.desc).map (fun d => d.parameters.length) = some 1) := ⟨⟨rfl, by decide +kernel, by decide +kernel⟩, by decide +kernel⟩
theorem k_M_endOf : (m_M_endOf.2.2.2.2.2 = some [] ∧ Cond.code m_M_endOf.1 m_M_endOf.2.1 m_M_endOf.2.2.1 m_M_endOf.2.2.2.1 ∈ gt ∧ Cond.initialized m_M_endOf.1.cls ∈ gt) ∧ (m_M_endOf.1.cls ≠ "java/lang/invoke/MethodHandle" ∧ m_M_endOf.1.cls ≠ "java/lang/invoke/VarHandle" ∧ (parseMethodDescriptor m_M_endOf.1.desc).map (fun d => d.parameters.length) = some 1) := ⟨⟨rfl, by decide +kernel, by decide +kernel⟩, by decide +kernel⟩
theorem k_M_hear : (m_M_hear.2.2.2.2.2 = some [] ∧ Cond.code m_M_hear.1 m_M_hear.2.1 m_M_hear.2.2.1 m_M_hear.2.2.2.1 ∈ gt ∧ Cond.initialized m_M_hear.1.cls ∈ gt) ∧ (m_M_hear.1.cls ≠ "java/lang/invoke/MethodHandle" ∧ m_M_hear.1.cls ≠ "java/lang/invoke/VarHandle" ∧ (parseMethodDescriptor m_M_hear.1.desc).map (fun d => d.parameters.length) = some 1) := ⟨⟨rfl, by decide +kernel, by decide +kernel⟩, by decide +kernel⟩
theorem k_M_settle : (m_M_settle.2.2.2.2.2 = some [] ∧ Cond.code m_M_settle.1 m_M_settle.2.1 m_M_settle.2.2.1 m_M_settle.2.2.2.1 ∈ gt ∧ Cond.initialized m_M_settle.1.cls ∈ gt) ∧ (m_M_settle.1.cls ≠ "java/lang/invoke/MethodHandle" ∧ m_M_settle.1.cls ≠ "java/lang/invoke/VarHandle" ∧ (parseMethodDescriptor m_M_settle.1.desc).map (fun d => d.parameters.length) = some 0) := ⟨⟨rfl, by decide +kernel, by decide +kernel⟩, by decide +kernel⟩
theorem k_M_remember : (m_M_remember.2.2.2.2.2 = some [] ∧ Cond.code m_M_remember.1 m_M_remember.2.1 m_M_remember.2.2.1 m_M_remember.2.2.2.1 ∈ gt ∧ Cond.initialized m_M_remember.1.cls ∈ gt) ∧ (m_M_remember.1.cls ≠ "java/lang/invoke/MethodHandle" ∧ m_M_remember.1.cls ≠ "java/lang/invoke/VarHandle" ∧ (parseMethodDescriptor m_M_remember.1.desc).map (fun d => d.parameters.length) = some 0) := ⟨⟨rfl, by decide +kernel, by decide +kernel⟩, by decide +kernel⟩
theorem k_M_isAsBefore : (m_M_isAsBefore.2.2.2.2.2 = some [] ∧ Cond.code m_M_isAsBefore.1 m_M_isAsBefore.2.1 m_M_isAsBefore.2.2.1 m_M_isAsBefore.2.2.2.1 ∈ gt ∧ Cond.initialized m_M_isAsBefore.1.cls ∈ gt) ∧ (m_M_isAsBefore.1.cls ≠ "java/lang/invoke/MethodHandle" ∧ m_M_isAsBefore.1.cls ≠ "java/lang/invoke/VarHandle" ∧ (parseMethodDescriptor m_M_isAsBefore.1.desc).map (fun d => d.parameters.length) = some 0) := ⟨⟨rfl, by decide +kernel, by decide +kernel⟩, by decide +kernel⟩
theorem k_M_state : (m_M_state.2.2.2.2.2 = some [] ∧ Cond.code m_M_state.1 m_M_state.2.1 m_M_state.2.2.1 m_M_state.2.2.2.1 ∈ gt ∧ Cond.initialized m_M_state.1.cls ∈ gt) ∧ (m_M_state.1.cls ≠ "java/lang/invoke/MethodHandle" ∧ m_M_state.1.cls ≠ "java/lang/invoke/VarHandle" ∧ (parseMethodDescriptor m_M_state.1.desc).map (fun d => d.parameters.length) = some 2) := ⟨⟨rfl, by decide +kernel, by decide +kernel⟩, by decide +kernel⟩
theorem k_M_root : (m_M_root.2.2.2.2.2 = some [] ∧ Cond.code m_M_root.1 m_M_root.2.1 m_M_root.2.2.1 m_M_root.2.2.2.1 ∈ gt ∧ Cond.initialized m_M_root.1.cls ∈ gt) ∧ (m_M_root.1.cls ≠ "java/lang/invoke/MethodHandle" ∧ m_M_root.1.cls ≠ "java/lang/invoke/VarHandle" ∧ (parseMethodDescriptor m_M_root.1.desc).map (fun d => d.parameters.length) = some 1) := ⟨⟨rfl, by decide +kernel, by decide +kernel⟩, by decide +kernel⟩
theorem k_M_steps : (m_M_steps.2.2.2.2.2 = some [] ∧ Cond.code m_M_steps.1 m_M_steps.2.1 m_M_steps.2.2.1 m_M_steps.2.2.2.1 ∈ gt ∧ Cond.initialized m_M_steps.1.cls ∈ gt) ∧ (m_M_steps.1.cls ≠ "java/lang/invoke/MethodHandle" ∧ m_M_steps.1.cls ≠ "java/lang/invoke/VarHandle" ∧ (parseMethodDescriptor m_M_steps.1.desc).map (fun d => d.parameters.length) = some 1) := ⟨⟨rfl, by decide +kernel, by decide +kernel⟩, by decide +kernel⟩
theorem k_M_stepsOf : (m_M_stepsOf.2.2.2.2.2 = some [] ∧ Cond.code m_M_stepsOf.1 m_M_stepsOf.2.1 m_M_stepsOf.2.2.1 m_M_stepsOf.2.2.2.1 ∈ gt ∧ Cond.initialized m_M_stepsOf.1.cls ∈ gt) ∧ (m_M_stepsOf.1.cls ≠ "java/lang/invoke/MethodHandle" ∧ m_M_stepsOf.1.cls ≠ "java/lang/invoke/VarHandle" ∧ (parseMethodDescriptor m_M_stepsOf.1.desc).map (fun d => d.parameters.length) = some 1) := ⟨⟨rfl, by decide +kernel, by decide +kernel⟩, by decide +kernel⟩
theorem k_M_kept : (m_M_kept.2.2.2.2.2 = some [] ∧ Cond.code m_M_kept.1 m_M_kept.2.1 m_M_kept.2.2.1 m_M_kept.2.2.2.1 ∈ gt ∧ Cond.initialized m_M_kept.1.cls ∈ gt) ∧ (m_M_kept.1.cls ≠ "java/lang/invoke/MethodHandle" ∧ m_M_kept.1.cls ≠ "java/lang/invoke/VarHandle" ∧ (parseMethodDescriptor m_M_kept.1.desc).map (fun d => d.parameters.length) = some 2) := ⟨⟨rfl, by decide +kernel, by decide +kernel⟩, by decide +kernel⟩
theorem k_M_exchange : (m_M_exchange.2.2.2.2.2 = some [] ∧ Cond.code m_M_exchange.1 m_M_exchange.2.1 m_M_exchange.2.2.1 m_M_exchange.2.2.2.1 ∈ gt ∧ Cond.initialized m_M_exchange.1.cls ∈ gt) ∧ (m_M_exchange.1.cls ≠ "java/lang/invoke/MethodHandle" ∧ m_M_exchange.1.cls ≠ "java/lang/invoke/VarHandle" ∧ (parseMethodDescriptor m_M_exchange.1.desc).map (fun d => d.parameters.length) = some 4) := ⟨⟨rfl, by decide +kernel, by decide +kernel⟩, by decide +kernel⟩
theorem k_M_noRest : (m_M_noRest.2.2.2.2.2 = some [] ∧ Cond.code m_M_noRest.1 m_M_noRest.2.1 m_M_noRest.2.2.1 m_M_noRest.2.2.2.1 ∈ gt ∧ Cond.initialized m_M_noRest.1.cls ∈ gt) ∧ (m_M_noRest.1.cls ≠ "java/lang/invoke/MethodHandle" ∧ m_M_noRest.1.cls ≠ "java/lang/invoke/VarHandle" ∧ (parseMethodDescriptor m_M_noRest.1.desc).map (fun d => d.parameters.length) = some 1) := ⟨⟨rfl, by decide +kernel, by decide +kernel⟩, by decide +kernel⟩
theorem k_M_canSwap : (m_M_canSwap.2.2.2.2.2 = some [] ∧ Cond.code m_M_canSwap.1 m_M_canSwap.2.1 m_M_canSwap.2.2.1 m_M_canSwap.2.2.2.1 ∈ gt ∧ Cond.initialized m_M_canSwap.1.cls ∈ gt) ∧ (m_M_canSwap.1.cls ≠ "java/lang/invoke/MethodHandle" ∧ m_M_canSwap.1.cls ≠ "java/lang/invoke/VarHandle" ∧ (parseMethodDescriptor m_M_canSwap.1.desc).map (fun d => d.parameters.length) = some 1) := ⟨⟨rfl, by decide +kernel, by decide +kernel⟩, by decide +kernel⟩
theorem k_M_swap : (m_M_swap.2.2.2.2.2 = some [] ∧ Cond.code m_M_swap.1 m_M_swap.2.1 m_M_swap.2.2.1 m_M_swap.2.2.2.1 ∈ gt ∧ Cond.initialized m_M_swap.1.cls ∈ gt) ∧ (m_M_swap.1.cls ≠ "java/lang/invoke/MethodHandle" ∧ m_M_swap.1.cls ≠ "java/lang/invoke/VarHandle" ∧ (parseMethodDescriptor m_M_swap.1.desc).map (fun d => d.parameters.length) = some 4) := ⟨⟨rfl, by decide +kernel, by decide +kernel⟩, by decide +kernel⟩
theorem k_M_sum : (m_M_sum.2.2.2.2.2 = some [] ∧ Cond.code m_M_sum.1 m_M_sum.2.1 m_M_sum.2.2.1 m_M_sum.2.2.2.1 ∈ gt ∧ Cond.initialized m_M_sum.1.cls ∈ gt) ∧ (m_M_sum.1.cls ≠ "java/lang/invoke/MethodHandle" ∧ m_M_sum.1.cls ≠ "java/lang/invoke/VarHandle" ∧ (parseMethodDescriptor m_M_sum.1.desc).map (fun d => d.parameters.length) = some 2) := ⟨⟨rfl, by decide +kernel, by decide +kernel⟩, by decide +kernel⟩
theorem k_M_difference : (m_M_difference.2.2.2.2.2 = some [] ∧ Cond.code m_M_difference.1 m_M_difference.2.1 m_M_difference.2.2.1 m_M_difference.2.2.2.1 ∈ gt ∧ Cond.initialized m_M_difference.1.cls ∈ gt) ∧ (m_M_difference.1.cls ≠ "java/lang/invoke/MethodHandle" ∧ m_M_difference.1.cls ≠ "java/lang/invoke/VarHandle" ∧ (parseMethodDescriptor m_M_difference.1.desc).map (fun d => d.parameters.length) = some 2) := ⟨⟨rfl, by decide +kernel, by decide +kernel⟩, by decide +kernel⟩
theorem k_M_delay : (m_M_delay.2.2.2.2.2 = some [] ∧ Cond.code m_M_delay.1 m_M_delay.2.1 m_M_delay.2.2.1 m_M_delay.2.2.2.1 ∈ gt ∧ Cond.initialized m_M_delay.1.cls ∈ gt) ∧ (m_M_delay.1.cls ≠ "java/lang/invoke/MethodHandle" ∧ m_M_delay.1.cls ≠ "java/lang/invoke/VarHandle" ∧ (parseMethodDescriptor m_M_delay.1.desc).map (fun d => d.parameters.length) = some 1) := ⟨⟨rfl, by decide +kernel, by decide +kernel⟩, by decide +kernel⟩
theorem k_M_offset : (m_M_offset.2.2.2.2.2 = some [] ∧ Cond.code m_M_offset.1 m_M_offset.2.1 m_M_offset.2.2.1 m_M_offset.2.2.2.1 ∈ gt ∧ Cond.initialized m_M_offset.1.cls ∈ gt) ∧ (m_M_offset.1.cls ≠ "java/lang/invoke/MethodHandle" ∧ m_M_offset.1.cls ≠ "java/lang/invoke/VarHandle" ∧ (parseMethodDescriptor m_M_offset.1.desc).map (fun d => d.parameters.length) = some 1) := ⟨⟨rfl, by decide +kernel, by decide +kernel⟩, by decide +kernel⟩
theorem k_M_discipline : (m_M_discipline.2.2.2.2.2 = some [] ∧ Cond.code m_M_discipline.1 m_M_discipline.2.1 m_M_discipline.2.2.1 m_M_discipline.2.2.2.1 ∈ gt ∧ Cond.initialized m_M_discipline.1.cls ∈ gt) ∧ (m_M_discipline.1.cls ≠ "java/lang/invoke/MethodHandle" ∧ m_M_discipline.1.cls ≠ "java/lang/invoke/VarHandle" ∧ (parseMethodDescriptor m_M_discipline.1.desc).map (fun d => d.parameters.length) = some 1) := ⟨⟨rfl, by decide +kernel, by decide +kernel⟩, by decide +kernel⟩
theorem ol_T_1 : Cond.methodLink R_T 1 Lib.objectInit ∈ gt := by decide +kernel
theorem ii_R_init : Cond.instanceMethod m_R_init.1 ∈ gt ∧ m_R_init.1.name = "<init>" ∧ m_R_init.2.2.2.1 = none := ⟨by decide +kernel, rfl, rfl⟩
theorem nl_T_23 : ∃ host, Cond.methodLinkNest R_T 23 m_R_init.1 host ∈ nstT := ⟨"ClockTree", by decide +kernel⟩
theorem ol_R_3 : Cond.methodLink R_R 3 Lib.objectInit ∈ gt := by decide +kernel
theorem iv_T_playRound : Cond.instanceMethod m_T_playRound.1 ∈ gt ∧ Cond.selects m_T_playRound.1.cls m_T_playRound.1 m_T_playRound.1 ∈ gt := by decide +kernel
theorem ml_T_119 : Cond.methodLink R_T 119 m_T_playRound.1 ∈ gt := by decide +kernel
theorem cb_T_settle_119 : CB m_T_settle m_T_playRound 119 0 := ⟨ml_T_119, k_T_playRound.1, k_T_playRound.2, by decide⟩
theorem iv_T_hearAtPorts : Cond.instanceMethod m_T_hearAtPorts.1 ∈ gt ∧ Cond.selects m_T_hearAtPorts.1.cls m_T_hearAtPorts.1 m_T_hearAtPorts.1 ∈ gt := by decide +kernel
theorem ml_T_181 : Cond.methodLink R_T 181 m_T_hearAtPorts.1 ∈ gt := by decide +kernel
theorem cb_T_playRound_181 : CB m_T_playRound m_T_hearAtPorts 181 1 := ⟨ml_T_181, k_T_hearAtPorts.1, k_T_hearAtPorts.2, by decide⟩
theorem iv_N_findStates : Cond.instanceMethod m_N_findStates.1 ∈ gt ∧ Cond.selects m_N_findStates.1.cls m_N_findStates.1 m_N_findStates.1 ∈ gt := by decide +kernel
theorem ml_T_74 : Cond.methodLink R_T 74 m_N_findStates.1 ∈ gt := by decide +kernel
theorem cb_T_playRound_74 : CB m_T_playRound m_N_findStates 74 0 := ⟨ml_T_74, k_N_findStates.1, k_N_findStates.2, by decide⟩
theorem iv_P_findSender : Cond.instanceMethod m_P_findSender.1 ∈ gt ∧ Cond.selects m_P_findSender.1.cls m_P_findSender.1 m_P_findSender.1 ∈ gt := by decide +kernel
theorem ml_T_185 : Cond.methodLink R_T 185 m_P_findSender.1 ∈ gt := by decide +kernel
theorem cb_T_hearAtPorts_185 : CB m_T_hearAtPorts m_P_findSender 185 0 := ⟨ml_T_185, k_P_findSender.1, k_P_findSender.2, by decide⟩
theorem iv_N_accepts : Cond.instanceMethod m_N_accepts.1 ∈ gt ∧ Cond.selects m_N_accepts.1.cls m_N_accepts.1 m_N_accepts.1 ∈ gt := by decide +kernel
theorem ml_T_192 : Cond.methodLink R_T 192 m_N_accepts.1 ∈ gt := by decide +kernel
theorem cb_T_hearAtPorts_192 : CB m_T_hearAtPorts m_N_accepts 192 1 := ⟨ml_T_192, k_N_accepts.1, k_N_accepts.2, by decide⟩
theorem iv_P_keep : Cond.instanceMethod m_P_keep.1 ∈ gt ∧ Cond.selects m_P_keep.1.cls m_P_keep.1 m_P_keep.1 ∈ gt := by decide +kernel
theorem ml_T_196 : Cond.methodLink R_T 196 m_P_keep.1 ∈ gt := by decide +kernel
theorem cb_T_hearAtPorts_196 : CB m_T_hearAtPorts m_P_keep 196 1 := ⟨ml_T_196, k_P_keep.1, k_P_keep.2, by decide⟩
theorem iv_P_growOlder : Cond.instanceMethod m_P_growOlder.1 ∈ gt ∧ Cond.selects m_P_growOlder.1.cls m_P_growOlder.1 m_P_growOlder.1 ∈ gt := by decide +kernel
theorem ml_T_199 : Cond.methodLink R_T 199 m_P_growOlder.1 ∈ gt := by decide +kernel
theorem cb_T_hearAtPorts_199 : CB m_T_hearAtPorts m_P_growOlder 199 0 := ⟨ml_T_199, k_P_growOlder.1, k_P_growOlder.2, by decide⟩
theorem iv_K_farFrom : Cond.instanceMethod m_K_farFrom.1 ∈ gt ∧ Cond.selects m_K_farFrom.1.cls m_K_farFrom.1 m_K_farFrom.1 ∈ gt := by decide +kernel
theorem ml_P_47 : Cond.methodLink R_P 47 m_K_farFrom.1 ∈ gt := by decide +kernel
theorem cb_P_findSender_47 : CB m_P_findSender m_K_farFrom 47 1 := ⟨ml_P_47, k_K_farFrom.1, k_K_farFrom.2, by decide⟩
theorem iv_D_tellsSameAs : Cond.instanceMethod m_D_tellsSameAs.1 ∈ gt ∧ Cond.selects m_D_tellsSameAs.1.cls m_D_tellsSameAs.1 m_D_tellsSameAs.1 ∈ gt := by decide +kernel
theorem ml_P_51 : Cond.methodLink R_P 51 m_D_tellsSameAs.1 ∈ gt := by decide +kernel
theorem cb_P_keep_51 : CB m_P_keep m_D_tellsSameAs 51 1 := ⟨ml_P_51, k_D_tellsSameAs.1, k_D_tellsSameAs.2, by decide⟩
theorem iv_D_setRootOf : Cond.instanceMethod m_D_setRootOf.1 ∈ gt ∧ Cond.selects m_D_setRootOf.1.cls m_D_setRootOf.1 m_D_setRootOf.1 ∈ gt := by decide +kernel
theorem ml_P_55 : Cond.methodLink R_P 55 m_D_setRootOf.1 ∈ gt := by decide +kernel
theorem cb_P_keep_55 : CB m_P_keep m_D_setRootOf 55 1 := ⟨ml_P_55, k_D_setRootOf.1, k_D_setRootOf.2, by decide⟩
theorem iv_N_findBest : Cond.instanceMethod m_N_findBest.1 ∈ gt ∧ Cond.selects m_N_findBest.1.cls m_N_findBest.1 m_N_findBest.1 ∈ gt := by decide +kernel
theorem ml_N_49 : Cond.methodLink R_N 49 m_N_findBest.1 ∈ gt := by decide +kernel
theorem cb_N_findStates_49 : CB m_N_findStates m_N_findBest 49 0 := ⟨ml_N_49, k_N_findBest.1, k_N_findBest.2, by decide⟩
theorem iv_P_tell : Cond.instanceMethod m_P_tell.1 ∈ gt ∧ Cond.selects m_P_tell.1.cls m_P_tell.1 m_P_tell.1 ∈ gt := by decide +kernel
theorem ml_N_53 : Cond.methodLink R_N 53 m_P_tell.1 ∈ gt := by decide +kernel
theorem cb_N_findStates_53 : CB m_N_findStates m_P_tell 53 2 := ⟨ml_N_53, k_P_tell.1, k_P_tell.2, by decide⟩
theorem iv_P_findState : Cond.instanceMethod m_P_findState.1 ∈ gt ∧ Cond.selects m_P_findState.1.cls m_P_findState.1 m_P_findState.1 ∈ gt := by decide +kernel
theorem ml_N_57 : Cond.methodLink R_N 57 m_P_findState.1 ∈ gt := by decide +kernel
theorem cb_N_findStates_57 : CB m_N_findStates m_P_findState 57 1 := ⟨ml_N_57, k_P_findState.1, k_P_findState.2, by decide⟩
theorem iv_D_betterThan : Cond.instanceMethod m_D_betterThan.1 ∈ gt ∧ Cond.selects m_D_betterThan.1.cls m_D_betterThan.1 m_D_betterThan.1 ∈ gt := by decide +kernel
theorem ml_N_71 : Cond.methodLink R_N 71 m_D_betterThan.1 ∈ gt := by decide +kernel
theorem cb_N_findBest_71 : CB m_N_findBest m_D_betterThan 71 1 := ⟨ml_N_71, k_D_betterThan.1, k_D_betterThan.2, by decide⟩
theorem cb_P_tell_55 : CB m_P_tell m_D_setRootOf 55 1 := ⟨ml_P_55, k_D_setRootOf.1, k_D_setRootOf.2, by decide⟩
theorem ml_P_74 : Cond.methodLink R_P 74 m_D_betterThan.1 ∈ gt := by decide +kernel
theorem cb_P_findState_74 : CB m_P_findState m_D_betterThan 74 1 := ⟨ml_P_74, k_D_betterThan.1, k_D_betterThan.2, by decide⟩
theorem iv_T_setsClock : Cond.instanceMethod m_T_setsClock.1 ∈ gt ∧ Cond.selects m_T_setsClock.1.cls m_T_setsClock.1 m_T_setsClock.1 ∈ gt := by decide +kernel
theorem ml_T_169 : Cond.methodLink R_T 169 m_T_setsClock.1 ∈ gt := by decide +kernel
theorem cb_T_discipline_169 : CB m_T_discipline m_T_setsClock 169 2 := ⟨ml_T_169, k_T_setsClock.1, k_T_setsClock.2, by decide⟩
theorem is_T_openSlaveOf : Cond.static m_T_openSlaveOf.1 ∈ gt := by decide +kernel
theorem ml_T_144 : Cond.methodLink R_T 144 m_T_openSlaveOf.1 ∈ gt := by decide +kernel
theorem cb_T_setsClock_144 : CB m_T_setsClock m_T_openSlaveOf 144 1 := ⟨ml_T_144, k_T_openSlaveOf.1, k_T_openSlaveOf.2, by decide⟩
theorem iv_T_setClock : Cond.instanceMethod m_T_setClock.1 ∈ gt ∧ Cond.selects m_T_setClock.1.cls m_T_setClock.1 m_T_setClock.1 ∈ gt := by decide +kernel
theorem ml_T_150 : Cond.methodLink R_T 150 m_T_setClock.1 ∈ gt := by decide +kernel
theorem cb_T_setsClock_150 : CB m_T_setsClock m_T_setClock 150 5 := ⟨ml_T_150, k_T_setClock.1, k_T_setClock.2, by decide⟩
theorem ml_T_205 : Cond.methodLink R_T 205 m_K_farFrom.1 ∈ gt := by decide +kernel
theorem cb_T_setClock_205 : CB m_T_setClock m_K_farFrom 205 1 := ⟨ml_T_205, k_K_farFrom.1, k_K_farFrom.2, by decide⟩
theorem iv_K_delayTo : Cond.instanceMethod m_K_delayTo.1 ∈ gt ∧ Cond.selects m_K_delayTo.1.cls m_K_delayTo.1 m_K_delayTo.1 ∈ gt := by decide +kernel
theorem ml_T_212 : Cond.methodLink R_T 212 m_K_delayTo.1 ∈ gt := by decide +kernel
theorem cb_T_setClock_212 : CB m_T_setClock m_K_delayTo 212 1 := ⟨ml_T_212, k_K_delayTo.1, k_K_delayTo.2, by decide⟩
theorem iv_K_delayFrom : Cond.instanceMethod m_K_delayFrom.1 ∈ gt ∧ Cond.selects m_K_delayFrom.1.cls m_K_delayFrom.1 m_K_delayFrom.1 ∈ gt := by decide +kernel
theorem ml_T_216 : Cond.methodLink R_T 216 m_K_delayFrom.1 ∈ gt := by decide +kernel
theorem cb_T_setClock_216 : CB m_T_setClock m_K_delayFrom 216 1 := ⟨ml_T_216, k_K_delayFrom.1, k_K_delayFrom.2, by decide⟩
theorem iv_R_noteTimes : Cond.instanceMethod m_R_noteTimes.1 ∈ gt ∧ Cond.selects m_R_noteTimes.1.cls m_R_noteTimes.1 m_R_noteTimes.1 ∈ gt := by decide +kernel
theorem ml_T_219 : Cond.methodLink R_T 219 m_R_noteTimes.1 ∈ gt := by decide +kernel
theorem cb_T_setClock_219 : CB m_T_setClock m_R_noteTimes 219 3 := ⟨ml_T_219, k_R_noteTimes.1, k_R_noteTimes.2, by decide⟩
theorem iv_R_noteClocks : Cond.instanceMethod m_R_noteClocks.1 ∈ gt ∧ Cond.selects m_R_noteClocks.1.cls m_R_noteClocks.1 m_R_noteClocks.1 ∈ gt := by decide +kernel
theorem ml_T_223 : Cond.methodLink R_T 223 m_R_noteClocks.1 ∈ gt := by decide +kernel
theorem cb_T_setClock_223 : CB m_T_setClock m_R_noteClocks 223 2 := ⟨ml_T_223, k_R_noteClocks.1, k_R_noteClocks.2, by decide⟩
theorem iv_R_find : Cond.instanceMethod m_R_find.1 ∈ gt ∧ Cond.selects m_R_find.1.cls m_R_find.1 m_R_find.1 ∈ gt := by decide +kernel
theorem ml_T_227 : Cond.methodLink R_T 227 m_R_find.1 ∈ gt := by decide +kernel
theorem cb_T_setClock_227 : CB m_T_setClock m_R_find 227 3 := ⟨ml_T_227, k_R_find.1, k_R_find.2, by decide⟩
theorem iv_R_plus : Cond.instanceMethod m_R_plus.1 ∈ gt ∧ Cond.selects m_R_plus.1.cls m_R_plus.1 m_R_plus.1 ∈ gt := by decide +kernel
theorem ml_R_19 : Cond.methodLink R_R 19 m_R_plus.1 ∈ gt := by decide +kernel
theorem cb_R_noteTimes_19 : CB m_R_noteTimes m_R_plus 19 2 := ⟨ml_R_19, k_R_plus.1, k_R_plus.2, by decide⟩
theorem cb_R_noteClocks_19 : CB m_R_noteClocks m_R_plus 19 2 := ⟨ml_R_19, k_R_plus.1, k_R_plus.2, by decide⟩
theorem iv_R_minus : Cond.instanceMethod m_R_minus.1 ∈ gt ∧ Cond.selects m_R_minus.1.cls m_R_minus.1 m_R_minus.1 ∈ gt := by decide +kernel
theorem ml_R_46 : Cond.methodLink R_R 46 m_R_minus.1 ∈ gt := by decide +kernel
theorem cb_R_find_46 : CB m_R_find m_R_minus 46 2 := ⟨ml_R_46, k_R_minus.1, k_R_minus.2, by decide⟩
theorem cb_R_find_19 : CB m_R_find m_R_plus 19 2 := ⟨ml_R_19, k_R_plus.1, k_R_plus.2, by decide⟩
theorem iv_T_node : Cond.instanceMethod m_T_node.1 ∈ gt ∧ Cond.selects m_T_node.1.cls m_T_node.1 m_T_node.1 ∈ gt := by decide +kernel
theorem ml_L_7 : Cond.methodLink R_L 7 m_T_node.1 ∈ gt := by decide +kernel
theorem cb_L_node_7 : CB m_L_node m_T_node 7 5 := ⟨ml_L_7, k_T_node.1, k_T_node.2, by decide⟩
theorem is_T_isWithin : Cond.static m_T_isWithin.1 ∈ gt := by decide +kernel
theorem ml_T_39 : Cond.methodLink R_T 39 m_T_isWithin.1 ∈ gt := by decide +kernel
theorem cb_T_node_39 : CB m_T_node m_T_isWithin 39 2 := ⟨ml_T_39, k_T_isWithin.1, k_T_isWithin.2, by decide⟩
theorem iv_T_hasIdentity : Cond.instanceMethod m_T_hasIdentity.1 ∈ gt ∧ Cond.selects m_T_hasIdentity.1.cls m_T_hasIdentity.1 m_T_hasIdentity.1 ∈ gt := by decide +kernel
theorem ml_T_50 : Cond.methodLink R_T 50 m_T_hasIdentity.1 ∈ gt := by decide +kernel
theorem cb_T_node_50 : CB m_T_node m_T_hasIdentity 50 1 := ⟨ml_T_50, k_T_hasIdentity.1, k_T_hasIdentity.2, by decide⟩
theorem ii_N_init : Cond.instanceMethod m_N_init.1 ∈ gt ∧ m_N_init.1.name = "<init>" ∧ m_N_init.2.2.2.1 = none := ⟨by decide +kernel, rfl, rfl⟩
theorem ml_T_61 : Cond.methodLink R_T 61 m_N_init.1 ∈ gt := by decide +kernel
theorem cb_T_node_61 : CB m_T_node m_N_init 61 2 := ⟨ml_T_61, k_N_init.1, k_N_init.2, by decide⟩
theorem iv_D_setOwn : Cond.instanceMethod m_D_setOwn.1 ∈ gt ∧ Cond.selects m_D_setOwn.1.cls m_D_setOwn.1 m_D_setOwn.1 ∈ gt := by decide +kernel
theorem ml_T_68 : Cond.methodLink R_T 68 m_D_setOwn.1 ∈ gt := by decide +kernel
theorem cb_T_node_68 : CB m_T_node m_D_setOwn 68 4 := ⟨ml_T_68, k_D_setOwn.1, k_D_setOwn.2, by decide⟩
theorem cb_T_node_74 : CB m_T_node m_N_findStates 74 0 := ⟨ml_T_74, k_N_findStates.1, k_N_findStates.2, by decide⟩
theorem ol_N_3 : Cond.methodLink R_N 3 Lib.objectInit ∈ gt := by decide +kernel
theorem ii_D_init : Cond.instanceMethod m_D_init.1 ∈ gt ∧ m_D_init.1.name = "<init>" ∧ m_D_init.2.2.2.1 = none := ⟨by decide +kernel, rfl, rfl⟩
theorem nl_N_26 : ∃ host, Cond.methodLinkNest R_N 26 m_D_init.1 host ∈ nstT := ⟨"ClockTree", by decide +kernel⟩
theorem ii_P_init : Cond.instanceMethod m_P_init.1 ∈ gt ∧ m_P_init.1.name = "<init>" ∧ m_P_init.2.2.2.1 = none := ⟨by decide +kernel, rfl, rfl⟩
theorem ml_N_40 : Cond.methodLink R_N 40 m_P_init.1 ∈ gt := by decide +kernel
theorem cb_N_init_40 : CB m_N_init m_P_init 40 2 := ⟨ml_N_40, k_P_init.1, k_P_init.2, by decide⟩
theorem ol_D_3 : Cond.methodLink R_D 3 Lib.objectInit ∈ gt := by decide +kernel
theorem ol_P_3 : Cond.methodLink R_P 3 Lib.objectInit ∈ gt := by decide +kernel
theorem nl_P_20 : ∃ host, Cond.methodLinkNest R_P 20 m_D_init.1 host ∈ nstT := ⟨"ClockTree", by decide +kernel⟩
theorem iv_T_link : Cond.instanceMethod m_T_link.1 ∈ gt ∧ Cond.selects m_T_link.1.cls m_T_link.1 m_T_link.1 ∈ gt := by decide +kernel
theorem ml_L_17 : Cond.methodLink R_L 17 m_T_link.1 ∈ gt := by decide +kernel
theorem cb_L_link_17 : CB m_L_link m_T_link 17 6 := ⟨ml_L_17, k_T_link.1, k_T_link.2, by decide⟩
theorem iv_T_portAt : Cond.instanceMethod m_T_portAt.1 ∈ gt ∧ Cond.selects m_T_portAt.1.cls m_T_portAt.1 m_T_portAt.1 ∈ gt := by decide +kernel
theorem ml_T_81 : Cond.methodLink R_T 81 m_T_portAt.1 ∈ gt := by decide +kernel
theorem cb_T_link_81 : CB m_T_link m_T_portAt 81 2 := ⟨ml_T_81, k_T_portAt.1, k_T_portAt.2, by decide⟩
theorem cb_T_link_39 : CB m_T_link m_T_isWithin 39 2 := ⟨ml_T_39, k_T_isWithin.1, k_T_isWithin.2, by decide⟩
theorem ii_K_init : Cond.instanceMethod m_K_init.1 ∈ gt ∧ m_K_init.1.name = "<init>" ∧ m_K_init.2.2.2.1 = none := ⟨by decide +kernel, rfl, rfl⟩
theorem ml_T_100 : Cond.methodLink R_T 100 m_K_init.1 ∈ gt := by decide +kernel
theorem cb_T_link_100 : CB m_T_link m_K_init 100 4 := ⟨ml_T_100, k_K_init.1, k_K_init.2, by decide⟩
theorem cb_T_link_74 : CB m_T_link m_N_findStates 74 0 := ⟨ml_T_74, k_N_findStates.1, k_N_findStates.2, by decide⟩
theorem iv_T_nodeAt : Cond.instanceMethod m_T_nodeAt.1 ∈ gt ∧ Cond.selects m_T_nodeAt.1.cls m_T_nodeAt.1 m_T_nodeAt.1 ∈ gt := by decide +kernel
theorem ml_T_108 : Cond.methodLink R_T 108 m_T_nodeAt.1 ∈ gt := by decide +kernel
theorem cb_T_portAt_108 : CB m_T_portAt m_T_nodeAt 108 1 := ⟨ml_T_108, k_T_nodeAt.1, k_T_nodeAt.2, by decide⟩
theorem ol_K_1 : Cond.methodLink R_K 1 Lib.objectInit ∈ gt := by decide +kernel
theorem iv_T_up : Cond.instanceMethod m_T_up.1 ∈ gt ∧ Cond.selects m_T_up.1.cls m_T_up.1 m_T_up.1 ∈ gt := by decide +kernel
theorem ml_L_21 : Cond.methodLink R_L 21 m_T_up.1 ∈ gt := by decide +kernel
theorem cb_L_up_21 : CB m_L_up m_T_up 21 2 := ⟨ml_L_21, k_T_up.1, k_T_up.2, by decide⟩
theorem iv_T_priority : Cond.instanceMethod m_T_priority.1 ∈ gt ∧ Cond.selects m_T_priority.1.cls m_T_priority.1 m_T_priority.1 ∈ gt := by decide +kernel
theorem ml_L_25 : Cond.methodLink R_L 25 m_T_priority.1 ∈ gt := by decide +kernel
theorem cb_L_priority_25 : CB m_L_priority m_T_priority 25 2 := ⟨ml_L_25, k_T_priority.1, k_T_priority.2, by decide⟩
theorem cb_T_priority_108 : CB m_T_priority m_T_nodeAt 108 1 := ⟨ml_T_108, k_T_nodeAt.1, k_T_nodeAt.2, by decide⟩
theorem cb_T_priority_39 : CB m_T_priority m_T_isWithin 39 2 := ⟨ml_T_39, k_T_isWithin.1, k_T_isWithin.2, by decide⟩
theorem cb_T_priority_74 : CB m_T_priority m_N_findStates 74 0 := ⟨ml_T_74, k_N_findStates.1, k_N_findStates.2, by decide⟩
theorem iv_T_round : Cond.instanceMethod m_T_round.1 ∈ gt ∧ Cond.selects m_T_round.1.cls m_T_round.1 m_T_round.1 ∈ gt := by decide +kernel
theorem ml_L_29 : Cond.methodLink R_L 29 m_T_round.1 ∈ gt := by decide +kernel
theorem cb_L_round_29 : CB m_L_round m_T_round 29 1 := ⟨ml_L_29, k_T_round.1, k_T_round.2, by decide⟩
theorem cb_T_round_119 : CB m_T_round m_T_playRound 119 0 := ⟨ml_T_119, k_T_playRound.1, k_T_playRound.2, by decide⟩
theorem iv_T_state : Cond.instanceMethod m_T_state.1 ∈ gt ∧ Cond.selects m_T_state.1.cls m_T_state.1 m_T_state.1 ∈ gt := by decide +kernel
theorem ml_L_33 : Cond.methodLink R_L 33 m_T_state.1 ∈ gt := by decide +kernel
theorem cb_L_state_33 : CB m_L_state m_T_state 33 2 := ⟨ml_L_33, k_T_state.1, k_T_state.2, by decide⟩
theorem cb_T_state_81 : CB m_T_state m_T_portAt 81 2 := ⟨ml_T_81, k_T_portAt.1, k_T_portAt.2, by decide⟩
theorem iv_T_root : Cond.instanceMethod m_T_root.1 ∈ gt ∧ Cond.selects m_T_root.1.cls m_T_root.1 m_T_root.1 ∈ gt := by decide +kernel
theorem ml_L_37 : Cond.methodLink R_L 37 m_T_root.1 ∈ gt := by decide +kernel
theorem cb_L_root_37 : CB m_L_root m_T_root 37 1 := ⟨ml_L_37, k_T_root.1, k_T_root.2, by decide⟩
theorem cb_T_root_108 : CB m_T_root m_T_nodeAt 108 1 := ⟨ml_T_108, k_T_nodeAt.1, k_T_nodeAt.2, by decide⟩
theorem iv_T_steps : Cond.instanceMethod m_T_steps.1 ∈ gt ∧ Cond.selects m_T_steps.1.cls m_T_steps.1 m_T_steps.1 ∈ gt := by decide +kernel
theorem ml_L_40 : Cond.methodLink R_L 40 m_T_steps.1 ∈ gt := by decide +kernel
theorem cb_L_steps_40 : CB m_L_steps m_T_steps 40 1 := ⟨ml_L_40, k_T_steps.1, k_T_steps.2, by decide⟩
theorem cb_T_steps_108 : CB m_T_steps m_T_nodeAt 108 1 := ⟨ml_T_108, k_T_nodeAt.1, k_T_nodeAt.2, by decide⟩
theorem iv_T_kept : Cond.instanceMethod m_T_kept.1 ∈ gt ∧ Cond.selects m_T_kept.1.cls m_T_kept.1 m_T_kept.1 ∈ gt := by decide +kernel
theorem ml_L_43 : Cond.methodLink R_L 43 m_T_kept.1 ∈ gt := by decide +kernel
theorem cb_L_kept_43 : CB m_L_kept m_T_kept 43 2 := ⟨ml_L_43, k_T_kept.1, k_T_kept.2, by decide⟩
theorem cb_T_kept_81 : CB m_T_kept m_T_portAt 81 2 := ⟨ml_T_81, k_T_portAt.1, k_T_portAt.2, by decide⟩
theorem iv_T_exchange : Cond.instanceMethod m_T_exchange.1 ∈ gt ∧ Cond.selects m_T_exchange.1.cls m_T_exchange.1 m_T_exchange.1 ∈ gt := by decide +kernel
theorem ml_L_46 : Cond.methodLink R_L 46 m_T_exchange.1 ∈ gt := by decide +kernel
theorem cb_L_exchange_46 : CB m_L_exchange m_T_exchange 46 4 := ⟨ml_L_46, k_T_exchange.1, k_T_exchange.2, by decide⟩
theorem cb_T_exchange_108 : CB m_T_exchange m_T_nodeAt 108 1 := ⟨ml_T_108, k_T_nodeAt.1, k_T_nodeAt.2, by decide⟩
theorem cb_T_exchange_39 : CB m_T_exchange m_T_isWithin 39 2 := ⟨ml_T_39, k_T_isWithin.1, k_T_isWithin.2, by decide⟩
theorem cb_T_exchange_144 : CB m_T_exchange m_T_openSlaveOf 144 1 := ⟨ml_T_144, k_T_openSlaveOf.1, k_T_openSlaveOf.2, by decide⟩
theorem cb_T_exchange_150 : CB m_T_exchange m_T_setClock 150 5 := ⟨ml_T_150, k_T_setClock.1, k_T_setClock.2, by decide⟩
theorem iv_T_delay : Cond.instanceMethod m_T_delay.1 ∈ gt ∧ Cond.selects m_T_delay.1.cls m_T_delay.1 m_T_delay.1 ∈ gt := by decide +kernel
theorem ml_L_52 : Cond.methodLink R_L 52 m_T_delay.1 ∈ gt := by decide +kernel
theorem cb_L_delay_52 : CB m_L_delay m_T_delay 52 1 := ⟨ml_L_52, k_T_delay.1, k_T_delay.2, by decide⟩
theorem cb_T_delay_108 : CB m_T_delay m_T_nodeAt 108 1 := ⟨ml_T_108, k_T_nodeAt.1, k_T_nodeAt.2, by decide⟩
theorem iv_T_offset : Cond.instanceMethod m_T_offset.1 ∈ gt ∧ Cond.selects m_T_offset.1.cls m_T_offset.1 m_T_offset.1 ∈ gt := by decide +kernel
theorem ml_L_56 : Cond.methodLink R_L 56 m_T_offset.1 ∈ gt := by decide +kernel
theorem cb_L_offset_56 : CB m_L_offset m_T_offset 56 1 := ⟨ml_L_56, k_T_offset.1, k_T_offset.2, by decide⟩
theorem cb_T_offset_108 : CB m_T_offset m_T_nodeAt 108 1 := ⟨ml_T_108, k_T_nodeAt.1, k_T_nodeAt.2, by decide⟩
theorem ol_M_1 : Cond.methodLink R_M 1 Lib.objectInit ∈ gt := by decide +kernel
theorem iv_M_byteSized : Cond.instanceMethod m_M_byteSized.1 ∈ gt ∧ Cond.selects m_M_byteSized.1.cls m_M_byteSized.1 m_M_byteSized.1 ∈ gt := by decide +kernel
theorem ml_M_106 : Cond.methodLink R_M 106 m_M_byteSized.1 ∈ gt := by decide +kernel
theorem cb_M_node_106 : CB m_M_node m_M_byteSized 106 1 := ⟨ml_M_106, k_M_byteSized.1, k_M_byteSized.2, by decide⟩
theorem iv_M_findAll : Cond.instanceMethod m_M_findAll.1 ∈ gt ∧ Cond.selects m_M_findAll.1.cls m_M_findAll.1 m_M_findAll.1 ∈ gt := by decide +kernel
theorem ml_M_112 : Cond.methodLink R_M 112 m_M_findAll.1 ∈ gt := by decide +kernel
theorem cb_M_node_112 : CB m_M_node m_M_findAll 112 0 := ⟨ml_M_112, k_M_findAll.1, k_M_findAll.2, by decide⟩
theorem iv_M_find : Cond.instanceMethod m_M_find.1 ∈ gt ∧ Cond.selects m_M_find.1.cls m_M_find.1 m_M_find.1 ∈ gt := by decide +kernel
theorem ml_M_103 : Cond.methodLink R_M 103 m_M_find.1 ∈ gt := by decide +kernel
theorem cb_M_findAll_103 : CB m_M_findAll m_M_find 103 1 := ⟨ml_M_103, k_M_find.1, k_M_find.2, by decide⟩
theorem iv_M_ownOne : Cond.instanceMethod m_M_ownOne.1 ∈ gt ∧ Cond.selects m_M_ownOne.1.cls m_M_ownOne.1 m_M_ownOne.1 ∈ gt := by decide +kernel
theorem ml_M_82 : Cond.methodLink R_M 82 m_M_ownOne.1 ∈ gt := by decide +kernel
theorem cb_M_find_82 : CB m_M_find m_M_ownOne 82 2 := ⟨ml_M_82, k_M_ownOne.1, k_M_ownOne.2, by decide⟩
theorem iv_M_keptOne : Cond.instanceMethod m_M_keptOne.1 ∈ gt ∧ Cond.selects m_M_keptOne.1.cls m_M_keptOne.1 m_M_keptOne.1 ∈ gt := by decide +kernel
theorem ml_M_86 : Cond.methodLink R_M 86 m_M_keptOne.1 ∈ gt := by decide +kernel
theorem cb_M_find_86 : CB m_M_find m_M_keptOne 86 1 := ⟨ml_M_86, k_M_keptOne.1, k_M_keptOne.2, by decide⟩
theorem iv_M_turnRound : Cond.instanceMethod m_M_turnRound.1 ∈ gt ∧ Cond.selects m_M_turnRound.1.cls m_M_turnRound.1 m_M_turnRound.1 ∈ gt := by decide +kernel
theorem ml_M_90 : Cond.methodLink R_M 90 m_M_turnRound.1 ∈ gt := by decide +kernel
theorem cb_M_find_90 : CB m_M_find m_M_turnRound 90 0 := ⟨ml_M_90, k_M_turnRound.1, k_M_turnRound.2, by decide⟩
theorem iv_M_better : Cond.instanceMethod m_M_better.1 ∈ gt ∧ Cond.selects m_M_better.1.cls m_M_better.1 m_M_better.1 ∈ gt := by decide +kernel
theorem ml_M_93 : Cond.methodLink R_M 93 m_M_better.1 ∈ gt := by decide +kernel
theorem cb_M_find_93 : CB m_M_find m_M_better 93 0 := ⟨ml_M_93, k_M_better.1, k_M_better.2, by decide⟩
theorem iv_M_toldOne : Cond.instanceMethod m_M_toldOne.1 ∈ gt ∧ Cond.selects m_M_toldOne.1.cls m_M_toldOne.1 m_M_toldOne.1 ∈ gt := by decide +kernel
theorem ml_M_97 : Cond.methodLink R_M 97 m_M_toldOne.1 ∈ gt := by decide +kernel
theorem cb_M_find_97 : CB m_M_find m_M_toldOne 97 1 := ⟨ml_M_97, k_M_toldOne.1, k_M_toldOne.2, by decide⟩
theorem cb_M_toldOne_82 : CB m_M_toldOne m_M_ownOne 82 2 := ⟨ml_M_82, k_M_ownOne.1, k_M_ownOne.2, by decide⟩
theorem cb_M_toldOne_86 : CB m_M_toldOne m_M_keptOne 86 1 := ⟨ml_M_86, k_M_keptOne.1, k_M_keptOne.2, by decide⟩
theorem iv_M_noPort : Cond.instanceMethod m_M_noPort.1 ∈ gt ∧ Cond.selects m_M_noPort.1.cls m_M_noPort.1 m_M_noPort.1 ∈ gt := by decide +kernel
theorem ml_M_119 : Cond.methodLink R_M 119 m_M_noPort.1 ∈ gt := by decide +kernel
theorem cb_M_link_119 : CB m_M_link m_M_noPort 119 2 := ⟨ml_M_119, k_M_noPort.1, k_M_noPort.2, by decide⟩
theorem iv_M_noDelay : Cond.instanceMethod m_M_noDelay.1 ∈ gt ∧ Cond.selects m_M_noDelay.1.cls m_M_noDelay.1 m_M_noDelay.1 ∈ gt := by decide +kernel
theorem ml_M_123 : Cond.methodLink R_M 123 m_M_noDelay.1 ∈ gt := by decide +kernel
theorem cb_M_link_123 : CB m_M_link m_M_noDelay 123 1 := ⟨ml_M_123, k_M_noDelay.1, k_M_noDelay.2, by decide⟩
theorem cb_M_link_112 : CB m_M_link m_M_findAll 112 0 := ⟨ml_M_112, k_M_findAll.1, k_M_findAll.2, by decide⟩
theorem iv_M_noNode : Cond.instanceMethod m_M_noNode.1 ∈ gt ∧ Cond.selects m_M_noNode.1.cls m_M_noNode.1 m_M_noNode.1 ∈ gt := by decide +kernel
theorem ml_M_115 : Cond.methodLink R_M 115 m_M_noNode.1 ∈ gt := by decide +kernel
theorem cb_M_noPort_115 : CB m_M_noPort m_M_noNode 115 1 := ⟨ml_M_115, k_M_noNode.1, k_M_noNode.2, by decide⟩
theorem cb_M_priority_115 : CB m_M_priority m_M_noNode 115 1 := ⟨ml_M_115, k_M_noNode.1, k_M_noNode.2, by decide⟩
theorem cb_M_priority_106 : CB m_M_priority m_M_byteSized 106 1 := ⟨ml_M_106, k_M_byteSized.1, k_M_byteSized.2, by decide⟩
theorem cb_M_priority_112 : CB m_M_priority m_M_findAll 112 0 := ⟨ml_M_112, k_M_findAll.1, k_M_findAll.2, by decide⟩
theorem iv_M_pass : Cond.instanceMethod m_M_pass.1 ∈ gt ∧ Cond.selects m_M_pass.1.cls m_M_pass.1 m_M_pass.1 ∈ gt := by decide +kernel
theorem ml_M_143 : Cond.methodLink R_M 143 m_M_pass.1 ∈ gt := by decide +kernel
theorem cb_M_round_143 : CB m_M_round m_M_pass 143 0 := ⟨ml_M_143, k_M_pass.1, k_M_pass.2, by decide⟩
theorem iv_M_sendAll : Cond.instanceMethod m_M_sendAll.1 ∈ gt ∧ Cond.selects m_M_sendAll.1.cls m_M_sendAll.1 m_M_sendAll.1 ∈ gt := by decide +kernel
theorem ml_M_136 : Cond.methodLink R_M 136 m_M_sendAll.1 ∈ gt := by decide +kernel
theorem cb_M_pass_136 : CB m_M_pass m_M_sendAll 136 0 := ⟨ml_M_136, k_M_sendAll.1, k_M_sendAll.2, by decide⟩
theorem iv_M_hear : Cond.instanceMethod m_M_hear.1 ∈ gt ∧ Cond.selects m_M_hear.1.cls m_M_hear.1 m_M_hear.1 ∈ gt := by decide +kernel
theorem ml_M_140 : Cond.methodLink R_M 140 m_M_hear.1 ∈ gt := by decide +kernel
theorem cb_M_pass_140 : CB m_M_pass m_M_hear 140 1 := ⟨ml_M_140, k_M_hear.1, k_M_hear.2, by decide⟩
theorem cb_M_pass_112 : CB m_M_pass m_M_findAll 112 0 := ⟨ml_M_112, k_M_findAll.1, k_M_findAll.2, by decide⟩
theorem iv_M_across : Cond.instanceMethod m_M_across.1 ∈ gt ∧ Cond.selects m_M_across.1.cls m_M_across.1 m_M_across.1 ∈ gt := by decide +kernel
theorem ml_M_133 : Cond.methodLink R_M 133 m_M_across.1 ∈ gt := by decide +kernel
theorem cb_M_sendAll_133 : CB m_M_sendAll m_M_across 133 1 := ⟨ml_M_133, k_M_across.1, k_M_across.2, by decide⟩
theorem cb_M_sendAll_97 : CB m_M_sendAll m_M_toldOne 97 1 := ⟨ml_M_97, k_M_toldOne.1, k_M_toldOne.2, by decide⟩
theorem iv_M_endOf : Cond.instanceMethod m_M_endOf.1 ∈ gt ∧ Cond.selects m_M_endOf.1.cls m_M_endOf.1 m_M_endOf.1 ∈ gt := by decide +kernel
theorem ml_M_129 : Cond.methodLink R_M 129 m_M_endOf.1 ∈ gt := by decide +kernel
theorem cb_M_across_129 : CB m_M_across m_M_endOf 129 1 := ⟨ml_M_129, k_M_endOf.1, k_M_endOf.2, by decide⟩
theorem iv_M_remember : Cond.instanceMethod m_M_remember.1 ∈ gt ∧ Cond.selects m_M_remember.1.cls m_M_remember.1 m_M_remember.1 ∈ gt := by decide +kernel
theorem ml_M_146 : Cond.methodLink R_M 146 m_M_remember.1 ∈ gt := by decide +kernel
theorem cb_M_settle_146 : CB m_M_settle m_M_remember 146 0 := ⟨ml_M_146, k_M_remember.1, k_M_remember.2, by decide⟩
theorem cb_M_settle_143 : CB m_M_settle m_M_pass 143 0 := ⟨ml_M_143, k_M_pass.1, k_M_pass.2, by decide⟩
theorem iv_M_isAsBefore : Cond.instanceMethod m_M_isAsBefore.1 ∈ gt ∧ Cond.selects m_M_isAsBefore.1.cls m_M_isAsBefore.1 m_M_isAsBefore.1 ∈ gt := by decide +kernel
theorem ml_M_149 : Cond.methodLink R_M 149 m_M_isAsBefore.1 ∈ gt := by decide +kernel
theorem cb_M_settle_149 : CB m_M_settle m_M_isAsBefore 149 0 := ⟨ml_M_149, k_M_isAsBefore.1, k_M_isAsBefore.2, by decide⟩
theorem cb_M_state_119 : CB m_M_state m_M_noPort 119 2 := ⟨ml_M_119, k_M_noPort.1, k_M_noPort.2, by decide⟩
theorem cb_M_root_115 : CB m_M_root m_M_noNode 115 1 := ⟨ml_M_115, k_M_noNode.1, k_M_noNode.2, by decide⟩
theorem cb_M_steps_115 : CB m_M_steps m_M_noNode 115 1 := ⟨ml_M_115, k_M_noNode.1, k_M_noNode.2, by decide⟩
theorem iv_M_stepsOf : Cond.instanceMethod m_M_stepsOf.1 ∈ gt ∧ Cond.selects m_M_stepsOf.1.cls m_M_stepsOf.1 m_M_stepsOf.1 ∈ gt := by decide +kernel
theorem ml_M_152 : Cond.methodLink R_M 152 m_M_stepsOf.1 ∈ gt := by decide +kernel
theorem cb_M_steps_152 : CB m_M_steps m_M_stepsOf 152 1 := ⟨ml_M_152, k_M_stepsOf.1, k_M_stepsOf.2, by decide⟩
theorem cb_M_kept_119 : CB m_M_kept m_M_noPort 119 2 := ⟨ml_M_119, k_M_noPort.1, k_M_noPort.2, by decide⟩
theorem cb_M_exchange_115 : CB m_M_exchange m_M_noNode 115 1 := ⟨ml_M_115, k_M_noNode.1, k_M_noNode.2, by decide⟩
theorem iv_M_noRest : Cond.instanceMethod m_M_noRest.1 ∈ gt ∧ Cond.selects m_M_noRest.1.cls m_M_noRest.1 m_M_noRest.1 ∈ gt := by decide +kernel
theorem ml_M_178 : Cond.methodLink R_M 178 m_M_noRest.1 ∈ gt := by decide +kernel
theorem cb_M_exchange_178 : CB m_M_exchange m_M_noRest 178 1 := ⟨ml_M_178, k_M_noRest.1, k_M_noRest.2, by decide⟩
theorem iv_M_canSwap : Cond.instanceMethod m_M_canSwap.1 ∈ gt ∧ Cond.selects m_M_canSwap.1.cls m_M_canSwap.1 m_M_canSwap.1 ∈ gt := by decide +kernel
theorem ml_M_181 : Cond.methodLink R_M 181 m_M_canSwap.1 ∈ gt := by decide +kernel
theorem cb_M_exchange_181 : CB m_M_exchange m_M_canSwap 181 1 := ⟨ml_M_181, k_M_canSwap.1, k_M_canSwap.2, by decide⟩
theorem iv_M_swap : Cond.instanceMethod m_M_swap.1 ∈ gt ∧ Cond.selects m_M_swap.1.cls m_M_swap.1 m_M_swap.1 ∈ gt := by decide +kernel
theorem ml_M_184 : Cond.methodLink R_M 184 m_M_swap.1 ∈ gt := by decide +kernel
theorem cb_M_exchange_184 : CB m_M_exchange m_M_swap 184 4 := ⟨ml_M_184, k_M_swap.1, k_M_swap.2, by decide⟩
theorem cb_M_swap_129 : CB m_M_swap m_M_endOf 129 1 := ⟨ml_M_129, k_M_endOf.1, k_M_endOf.2, by decide⟩
theorem cb_M_swap_133 : CB m_M_swap m_M_across 133 1 := ⟨ml_M_133, k_M_across.1, k_M_across.2, by decide⟩
theorem iv_M_sum : Cond.instanceMethod m_M_sum.1 ∈ gt ∧ Cond.selects m_M_sum.1.cls m_M_sum.1 m_M_sum.1 ∈ gt := by decide +kernel
theorem ml_M_159 : Cond.methodLink R_M 159 m_M_sum.1 ∈ gt := by decide +kernel
theorem cb_M_swap_159 : CB m_M_swap m_M_sum 159 2 := ⟨ml_M_159, k_M_sum.1, k_M_sum.2, by decide⟩
theorem iv_M_difference : Cond.instanceMethod m_M_difference.1 ∈ gt ∧ Cond.selects m_M_difference.1.cls m_M_difference.1 m_M_difference.1 ∈ gt := by decide +kernel
theorem ml_M_165 : Cond.methodLink R_M 165 m_M_difference.1 ∈ gt := by decide +kernel
theorem cb_M_swap_165 : CB m_M_swap m_M_difference 165 2 := ⟨ml_M_165, k_M_difference.1, k_M_difference.2, by decide⟩
theorem cb_M_delay_115 : CB m_M_delay m_M_noNode 115 1 := ⟨ml_M_115, k_M_noNode.1, k_M_noNode.2, by decide⟩
theorem cb_M_offset_115 : CB m_M_offset m_M_noNode 115 1 := ⟨ml_M_115, k_M_noNode.1, k_M_noNode.2, by decide⟩
theorem cb_M_discipline_181 : CB m_M_discipline m_M_canSwap 181 1 := ⟨ml_M_181, k_M_canSwap.1, k_M_canSwap.2, by decide⟩
theorem cb_M_discipline_152 : CB m_M_discipline m_M_stepsOf 152 1 := ⟨ml_M_152, k_M_stepsOf.1, k_M_stepsOf.2, by decide⟩
theorem cb_M_discipline_184 : CB m_M_discipline m_M_swap 184 4 := ⟨ml_M_184, k_M_swap.1, k_M_swap.2, by decide⟩
theorem fl_T_11 : FL R_T 11 (R_T, F_T, 6) 0 := ⟨by decide +kernel, rfl⟩
theorem fl_T_17 : FL R_T 17 (R_T, F_T, 6) 1 := ⟨by decide +kernel, rfl⟩
theorem fl_T_24 : FL R_T 24 (R_T, F_T, 6) 2 := ⟨by decide +kernel, rfl⟩
theorem fl_T_28 : FL R_T 28 (R_T, F_T, 6) 3 := ⟨by decide +kernel, rfl⟩
theorem fl_T_32 : FL R_T 32 (R_T, F_T, 6) 4 := ⟨by decide +kernel, rfl⟩
theorem fl_T_35 : FL R_T 35 (R_T, F_T, 6) 5 := ⟨by decide +kernel, rfl⟩
theorem fl_T_177 : FL R_T 177 (R_N, F_N, 6) 2 := ⟨by decide +kernel, rfl⟩
theorem fl_T_189 : FL R_T 189 (R_P, F_P, 8) 3 := ⟨by decide +kernel, rfl⟩
theorem fl_P_38 : FL R_P 38 (R_P, F_P, 8) 7 := ⟨by decide +kernel, rfl⟩
theorem fl_P_42 : FL R_P 42 (R_K, F_K, 5) 4 := ⟨by decide +kernel, rfl⟩
theorem fl_P_35 : FL R_P 35 (R_P, F_P, 8) 6 := ⟨by decide +kernel, rfl⟩
theorem fl_K_7 : FL R_K 7 (R_K, F_K, 5) 0 := ⟨by decide +kernel, rfl⟩
theorem fl_K_13 : FL R_K 13 (R_K, F_K, 5) 1 := ⟨by decide +kernel, rfl⟩
theorem fl_N_43 : FL R_N 43 (R_D, F_D, 8) 4 := ⟨by decide +kernel, rfl⟩
theorem fl_N_46 : FL R_N 46 (R_D, F_D, 8) 3 := ⟨by decide +kernel, rfl⟩
theorem fl_N_27 : FL R_N 27 (R_N, F_N, 6) 1 := ⟨by decide +kernel, rfl⟩
theorem fl_P_28 : FL R_P 28 (R_P, F_P, 8) 4 := ⟨by decide +kernel, rfl⟩
theorem fl_P_21 : FL R_P 21 (R_P, F_P, 8) 2 := ⟨by decide +kernel, rfl⟩
theorem fl_P_59 : FL R_P 59 (R_D, F_D, 8) 4 := ⟨by decide +kernel, rfl⟩
theorem fl_P_62 : FL R_P 62 (R_D, F_D, 8) 5 := ⟨by decide +kernel, rfl⟩
theorem fl_P_65 : FL R_P 65 (R_D, F_D, 8) 6 := ⟨by decide +kernel, rfl⟩
theorem fl_P_15 : FL R_P 15 (R_P, F_P, 8) 1 := ⟨by decide +kernel, rfl⟩
theorem fl_P_68 : FL R_P 68 (R_D, F_D, 8) 7 := ⟨by decide +kernel, rfl⟩
theorem fl_P_32 : FL R_P 32 (R_P, F_P, 8) 5 := ⟨by decide +kernel, rfl⟩
theorem fl_D_9 : FL R_D 9 (R_D, F_D, 8) 0 := ⟨by decide +kernel, rfl⟩
theorem fl_D_15 : FL R_D 15 (R_D, F_D, 8) 1 := ⟨by decide +kernel, rfl⟩
theorem fl_D_18 : FL R_D 18 (R_D, F_D, 8) 2 := ⟨by decide +kernel, rfl⟩
theorem fl_D_21 : FL R_D 21 (R_D, F_D, 8) 3 := ⟨by decide +kernel, rfl⟩
theorem fl_D_24 : FL R_D 24 (R_D, F_D, 8) 4 := ⟨by decide +kernel, rfl⟩
theorem fl_D_27 : FL R_D 27 (R_D, F_D, 8) 5 := ⟨by decide +kernel, rfl⟩
theorem fl_D_30 : FL R_D 30 (R_D, F_D, 8) 6 := ⟨by decide +kernel, rfl⟩
theorem fl_N_31 : FL R_N 31 (R_N, F_N, 6) 3 := ⟨by decide +kernel, rfl⟩
theorem fl_N_36 : FL R_N 36 (R_N, F_N, 6) 2 := ⟨by decide +kernel, rfl⟩
theorem fl_N_61 : FL R_N 61 (R_P, F_P, 8) 6 := ⟨by decide +kernel, rfl⟩
theorem fl_N_64 : FL R_N 64 (R_P, F_P, 8) 4 := ⟨by decide +kernel, rfl⟩
theorem fl_N_68 : FL R_N 68 (R_P, F_P, 8) 2 := ⟨by decide +kernel, rfl⟩
theorem fl_D_33 : FL R_D 33 (R_D, F_D, 8) 7 := ⟨by decide +kernel, rfl⟩
theorem fl_P_25 : FL R_P 25 (R_P, F_P, 8) 3 := ⟨by decide +kernel, rfl⟩
theorem fl_P_71 : FL R_P 71 (R_D, F_D, 8) 3 := ⟨by decide +kernel, rfl⟩
theorem fl_T_126 : FL R_T 126 (R_N, F_N, 6) 3 := ⟨by decide +kernel, rfl⟩
theorem fl_T_132 : FL R_T 132 (R_D, F_D, 8) 4 := ⟨by decide +kernel, rfl⟩
theorem fl_T_202 : FL R_T 202 (R_D, F_D, 8) 7 := ⟨by decide +kernel, rfl⟩
theorem fl_T_92 : FL R_T 92 (R_P, F_P, 8) 7 := ⟨by decide +kernel, rfl⟩
theorem fl_T_105 : FL R_T 105 (R_K, F_K, 5) 4 := ⟨by decide +kernel, rfl⟩
theorem fl_T_209 : FL R_T 209 (R_P, F_P, 8) 0 := ⟨by decide +kernel, rfl⟩
theorem fl_T_166 : FL R_T 166 (R_N, F_N, 6) 4 := ⟨by decide +kernel, rfl⟩
theorem fl_T_230 : FL R_T 230 (R_R, F_R, 12) 0 := ⟨by decide +kernel, rfl⟩
theorem fl_T_233 : FL R_T 233 (R_R, F_R, 12) 3 := ⟨by decide +kernel, rfl⟩
theorem fl_T_236 : FL R_T 236 (R_R, F_R, 12) 2 := ⟨by decide +kernel, rfl⟩
theorem fl_T_163 : FL R_T 163 (R_N, F_N, 6) 5 := ⟨by decide +kernel, rfl⟩
theorem fl_K_20 : FL R_K 20 (R_K, F_K, 5) 3 := ⟨by decide +kernel, rfl⟩
theorem fl_K_16 : FL R_K 16 (R_K, F_K, 5) 2 := ⟨by decide +kernel, rfl⟩
theorem fl_R_9 : FL R_R 9 (R_R, F_R, 12) 0 := ⟨by decide +kernel, rfl⟩
theorem fl_R_15 : FL R_R 15 (R_R, F_R, 12) 4 := ⟨by decide +kernel, rfl⟩
theorem fl_R_23 : FL R_R 23 (R_R, F_R, 12) 5 := ⟨by decide +kernel, rfl⟩
theorem fl_R_28 : FL R_R 28 (R_R, F_R, 12) 6 := ⟨by decide +kernel, rfl⟩
theorem fl_R_31 : FL R_R 31 (R_R, F_R, 12) 7 := ⟨by decide +kernel, rfl⟩
theorem fl_R_34 : FL R_R 34 (R_R, F_R, 12) 8 := ⟨by decide +kernel, rfl⟩
theorem fl_R_37 : FL R_R 37 (R_R, F_R, 12) 9 := ⟨by decide +kernel, rfl⟩
theorem fl_R_40 : FL R_R 40 (R_R, F_R, 12) 10 := ⟨by decide +kernel, rfl⟩
theorem fl_R_43 : FL R_R 43 (R_R, F_R, 12) 11 := ⟨by decide +kernel, rfl⟩
theorem fl_R_51 : FL R_R 51 (R_R, F_R, 12) 1 := ⟨by decide +kernel, rfl⟩
theorem fl_R_54 : FL R_R 54 (R_R, F_R, 12) 2 := ⟨by decide +kernel, rfl⟩
theorem fl_R_57 : FL R_R 57 (R_R, F_R, 12) 3 := ⟨by decide +kernel, rfl⟩
theorem fl_T_64 : FL R_T 64 (R_N, F_N, 6) 1 := ⟨by decide +kernel, rfl⟩
theorem fl_T_78 : FL R_T 78 (R_N, F_N, 6) 0 := ⟨by decide +kernel, rfl⟩
theorem fl_T_129 : FL R_T 129 (R_D, F_D, 8) 3 := ⟨by decide +kernel, rfl⟩
theorem fl_N_9 : FL R_N 9 (R_N, F_N, 6) 0 := ⟨by decide +kernel, rfl⟩
theorem fl_N_15 : FL R_N 15 (R_N, F_N, 6) 4 := ⟨by decide +kernel, rfl⟩
theorem fl_N_21 : FL R_N 21 (R_N, F_N, 6) 5 := ⟨by decide +kernel, rfl⟩
theorem fl_P_9 : FL R_P 9 (R_P, F_P, 8) 0 := ⟨by decide +kernel, rfl⟩
theorem fl_K_23 : FL R_K 23 (R_K, F_K, 5) 4 := ⟨by decide +kernel, rfl⟩
theorem fl_T_114 : FL R_T 114 (R_D, F_D, 8) 0 := ⟨by decide +kernel, rfl⟩
theorem fl_T_123 : FL R_T 123 (R_P, F_P, 8) 6 := ⟨by decide +kernel, rfl⟩
theorem fl_T_135 : FL R_T 135 (R_P, F_P, 8) 4 := ⟨by decide +kernel, rfl⟩
theorem fl_T_138 : FL R_T 138 (R_P, F_P, 8) 2 := ⟨by decide +kernel, rfl⟩
theorem fl_T_159 : FL R_T 159 (R_R, F_R, 12) 1 := ⟨by decide +kernel, rfl⟩
theorem fl_M_7 : FL R_M 7 (R_M, F_M, 28) 2 := ⟨by decide +kernel, rfl⟩
theorem fl_M_13 : FL R_M 13 (R_M, F_M, 28) 3 := ⟨by decide +kernel, rfl⟩
theorem fl_M_16 : FL R_M 16 (R_M, F_M, 28) 4 := ⟨by decide +kernel, rfl⟩
theorem fl_M_19 : FL R_M 19 (R_M, F_M, 28) 5 := ⟨by decide +kernel, rfl⟩
theorem fl_M_22 : FL R_M 22 (R_M, F_M, 28) 6 := ⟨by decide +kernel, rfl⟩
theorem fl_M_26 : FL R_M 26 (R_M, F_M, 28) 7 := ⟨by decide +kernel, rfl⟩
theorem fl_M_29 : FL R_M 29 (R_M, F_M, 28) 9 := ⟨by decide +kernel, rfl⟩
theorem fl_M_32 : FL R_M 32 (R_M, F_M, 28) 10 := ⟨by decide +kernel, rfl⟩
theorem fl_M_35 : FL R_M 35 (R_M, F_M, 28) 11 := ⟨by decide +kernel, rfl⟩
theorem fl_M_39 : FL R_M 39 (R_M, F_M, 28) 12 := ⟨by decide +kernel, rfl⟩
theorem fl_M_42 : FL R_M 42 (R_M, F_M, 28) 13 := ⟨by decide +kernel, rfl⟩
theorem fl_M_45 : FL R_M 45 (R_M, F_M, 28) 14 := ⟨by decide +kernel, rfl⟩
theorem fl_M_48 : FL R_M 48 (R_M, F_M, 28) 15 := ⟨by decide +kernel, rfl⟩
theorem fl_M_51 : FL R_M 51 (R_M, F_M, 28) 16 := ⟨by decide +kernel, rfl⟩
theorem fl_M_54 : FL R_M 54 (R_M, F_M, 28) 17 := ⟨by decide +kernel, rfl⟩
theorem fl_M_57 : FL R_M 57 (R_M, F_M, 28) 18 := ⟨by decide +kernel, rfl⟩
theorem fl_M_60 : FL R_M 60 (R_M, F_M, 28) 19 := ⟨by decide +kernel, rfl⟩
theorem fl_M_63 : FL R_M 63 (R_M, F_M, 28) 20 := ⟨by decide +kernel, rfl⟩
theorem fl_M_66 : FL R_M 66 (R_M, F_M, 28) 21 := ⟨by decide +kernel, rfl⟩
theorem fl_M_69 : FL R_M 69 (R_M, F_M, 28) 22 := ⟨by decide +kernel, rfl⟩
theorem fl_M_72 : FL R_M 72 (R_M, F_M, 28) 23 := ⟨by decide +kernel, rfl⟩
theorem fl_M_75 : FL R_M 75 (R_M, F_M, 28) 24 := ⟨by decide +kernel, rfl⟩
theorem fl_M_78 : FL R_M 78 (R_M, F_M, 28) 0 := ⟨by decide +kernel, rfl⟩
theorem fl_M_100 : FL R_M 100 (R_M, F_M, 28) 1 := ⟨by decide +kernel, rfl⟩
theorem fl_M_126 : FL R_M 126 (R_M, F_M, 28) 8 := ⟨by decide +kernel, rfl⟩
theorem fl_M_155 : FL R_M 155 (R_M, F_M, 28) 25 := ⟨by decide +kernel, rfl⟩
theorem fl_M_170 : FL R_M 170 (R_M, F_M, 28) 26 := ⟨by decide +kernel, rfl⟩
theorem fl_M_174 : FL R_M 174 (R_M, F_M, 28) 27 := ⟨by decide +kernel, rfl⟩
theorem cl_L_8 : Cond.classLink R_L 8 R_T ∈ gt := by decide +kernel
theorem cl_T_9 : Cond.classLink R_T 9 R_N ∈ gt := by decide +kernel
theorem cl_T_15 : Cond.classLink R_T 15 R_K ∈ gt := by decide +kernel
theorem cl_T_21 : Cond.classLink R_T 21 R_R ∈ gt := by decide +kernel
theorem kc_R_26 : Cond.constantLong R_R 26 (1000) ∈ gt := by decide +kernel
theorem kc_R_49 : Cond.constantLong R_R 49 (2) ∈ gt := by decide +kernel
theorem cl_L_13 : Cond.classLink R_L 13 "java/lang/IllegalArgumentException" ∈ gt := by decide +kernel
theorem cl_L_15 : Cond.classLink R_L 15 "java/lang/IllegalStateException" ∈ gt := by decide +kernel
theorem cl_T_43 : Cond.classLink R_T 43 "java/lang/IllegalArgumentException" ∈ gt := by decide +kernel
theorem cl_T_56 : Cond.classLink R_T 56 "java/lang/IllegalStateException" ∈ gt := by decide +kernel
theorem kc_N_19 : Cond.constantLong R_N 19 (-1) ∈ gt := by decide +kernel
theorem cl_N_24 : Cond.classLink R_N 24 R_D ∈ gt := by decide +kernel
theorem cl_N_34 : Cond.classLink R_N 34 R_P ∈ gt := by decide +kernel
theorem cl_P_18 : Cond.classLink R_P 18 R_D ∈ gt := by decide +kernel
theorem kc_T_87 : Cond.constant R_T 87 (1000000000) ∈ gt := by decide +kernel
theorem cl_L_50 : Cond.classLink R_L 50 "java/lang/ArithmeticException" ∈ gt := by decide +kernel
theorem kc_T_141 : Cond.constant R_T 141 (1000000) ∈ gt := by decide +kernel
theorem cl_T_154 : Cond.classLink R_T 154 "java/lang/ArithmeticException" ∈ gt := by decide +kernel
theorem cl_L_60 : Cond.classLink R_L 60 R_M ∈ gt := by decide +kernel
theorem kc_M_110 : Cond.constantLong R_M 110 (-1) ∈ gt := by decide +kernel
theorem kc_M_118 : Cond.constant R_M 118 (1000000000) ∈ gt := by decide +kernel
theorem kc_M_177 : Cond.constant R_M 177 (1000000) ∈ gt := by decide +kernel
theorem kc_M_163 : Cond.constantLong R_M 163 (1000) ∈ gt := by decide +kernel
theorem kc_M_168 : Cond.constantLong R_M 168 (2) ∈ gt := by decide +kernel
theorem kc_L_63 : Cond.constantLong R_L 63 (4294967295) ∈ gt := by decide +kernel
theorem ki_D : Cond.instantiable R_D 8 ∈ gt ∧ Cond.initialized R_D ∈ gt := by decide +kernel
theorem ki_P : Cond.instantiable R_P 8 ∈ gt ∧ Cond.initialized R_P ∈ gt := by decide +kernel
theorem ki_N : Cond.instantiable R_N 6 ∈ gt ∧ Cond.initialized R_N ∈ gt := by decide +kernel
theorem ki_K : Cond.instantiable R_K 5 ∈ gt ∧ Cond.initialized R_K ∈ gt := by decide +kernel
theorem ki_R : Cond.instantiable R_R 12 ∈ gt ∧ Cond.initialized R_R ∈ gt := by decide +kernel
theorem ki_T : Cond.instantiable R_T 6 ∈ gt ∧ Cond.initialized R_T ∈ gt := by decide +kernel
theorem ki_M : Cond.instantiable R_M 28 ∈ gt ∧ Cond.initialized R_M ∈ gt := by decide +kernel
theorem ac_in : Cond.arrayClass .int ∈ gt ∧ Cond.arrayClass .boolean ∈ gt ∧ Cond.arrayClass .long ∈ gt := by decide +kernel
end
section
theorem d_R_init_0 : decode c_R_init 0 = .ok (.aload_n 0, 1) := by decide +kernel
theorem d_R_init_1 : decode c_R_init 1 = .ok (.invokespecial 3, 3) := by decide +kernel
theorem d_R_init_4 : decode c_R_init 4 = .ok (.return_, 1) := by decide +kernel
theorem d_P_findSender_0 : decode c_P_findSender 0 = .ok (.aload_n 0, 1) := by decide +kernel
theorem d_P_findSender_1 : decode c_P_findSender 1 = .ok (.getfield 38, 3) := by decide +kernel
theorem d_P_findSender_4 : decode c_P_findSender 4 = .ok (.ifnull 13, 3) := by decide +kernel
theorem d_P_findSender_7 : decode c_P_findSender 7 = .ok (.aload_n 0, 1) := by decide +kernel
theorem d_P_findSender_8 : decode c_P_findSender 8 = .ok (.getfield 38, 3) := by decide +kernel
theorem d_P_findSender_11 : decode c_P_findSender 11 = .ok (.getfield 42, 3) := by decide +kernel
theorem d_P_findSender_14 : decode c_P_findSender 14 = .ok (.ifCond .ne 5, 3) := by decide +kernel
theorem d_P_findSender_17 : decode c_P_findSender 17 = .ok (.aconst_null, 1) := by decide +kernel
theorem d_P_findSender_18 : decode c_P_findSender 18 = .ok (.areturn, 1) := by decide +kernel
theorem d_P_findSender_19 : decode c_P_findSender 19 = .ok (.aload_n 0, 1) := by decide +kernel
theorem d_P_findSender_20 : decode c_P_findSender 20 = .ok (.getfield 38, 3) := by decide +kernel
theorem d_P_findSender_23 : decode c_P_findSender 23 = .ok (.aload_n 0, 1) := by decide +kernel
theorem d_P_findSender_24 : decode c_P_findSender 24 = .ok (.invokevirtual 47, 3) := by decide +kernel
theorem d_P_findSender_27 : decode c_P_findSender 27 = .ok (.astore_n 1, 1) := by decide +kernel
theorem d_P_findSender_28 : decode c_P_findSender 28 = .ok (.aload_n 1, 1) := by decide +kernel
theorem d_P_findSender_29 : decode c_P_findSender 29 = .ok (.getfield 35, 3) := by decide +kernel
theorem d_P_findSender_32 : decode c_P_findSender 32 = .ok (.iconst 1, 1) := by decide +kernel
theorem d_P_findSender_33 : decode c_P_findSender 33 = .ok (.if_icmp .ne 7, 3) := by decide +kernel
theorem d_P_findSender_36 : decode c_P_findSender 36 = .ok (.aload_n 1, 1) := by decide +kernel
theorem d_P_findSender_37 : decode c_P_findSender 37 = .ok (.goto 4, 3) := by decide +kernel
theorem d_P_findSender_40 : decode c_P_findSender 40 = .ok (.aconst_null, 1) := by decide +kernel
theorem d_P_findSender_41 : decode c_P_findSender 41 = .ok (.areturn, 1) := by decide +kernel
theorem d_K_farFrom_0 : decode c_K_farFrom 0 = .ok (.aload_n 1, 1) := by decide +kernel
theorem d_K_farFrom_1 : decode c_K_farFrom 1 = .ok (.aload_n 0, 1) := by decide +kernel
theorem d_K_farFrom_2 : decode c_K_farFrom 2 = .ok (.getfield 7, 3) := by decide +kernel
theorem d_K_farFrom_5 : decode c_K_farFrom 5 = .ok (.if_acmp .ne 10, 3) := by decide +kernel
theorem d_K_farFrom_8 : decode c_K_farFrom 8 = .ok (.aload_n 0, 1) := by decide +kernel
theorem d_K_farFrom_9 : decode c_K_farFrom 9 = .ok (.getfield 13, 3) := by decide +kernel
theorem d_K_farFrom_12 : decode c_K_farFrom 12 = .ok (.goto 7, 3) := by decide +kernel
theorem d_K_farFrom_15 : decode c_K_farFrom 15 = .ok (.aload_n 0, 1) := by decide +kernel
theorem d_K_farFrom_16 : decode c_K_farFrom 16 = .ok (.getfield 7, 3) := by decide +kernel
theorem d_K_farFrom_19 : decode c_K_farFrom 19 = .ok (.areturn, 1) := by decide +kernel
theorem d_P_keep_0 : decode c_P_keep 0 = .ok (.aload_n 0, 1) := by decide +kernel
theorem d_P_keep_1 : decode c_P_keep 1 = .ok (.getfield 28, 3) := by decide +kernel
theorem d_P_keep_4 : decode c_P_keep 4 = .ok (.ifCond .eq 14, 3) := by decide +kernel
theorem d_P_keep_7 : decode c_P_keep 7 = .ok (.aload_n 0, 1) := by decide +kernel
theorem d_P_keep_8 : decode c_P_keep 8 = .ok (.getfield 21, 3) := by decide +kernel
theorem d_P_keep_11 : decode c_P_keep 11 = .ok (.aload_n 1, 1) := by decide +kernel
theorem d_P_keep_12 : decode c_P_keep 12 = .ok (.invokevirtual 51, 3) := by decide +kernel
theorem d_P_keep_15 : decode c_P_keep 15 = .ok (.ifCond .ne 7, 3) := by decide +kernel
theorem d_P_keep_18 : decode c_P_keep 18 = .ok (.iconst 1, 1) := by decide +kernel
theorem d_P_keep_19 : decode c_P_keep 19 = .ok (.goto 4, 3) := by decide +kernel
theorem d_P_keep_22 : decode c_P_keep 22 = .ok (.iconst 0, 1) := by decide +kernel
theorem d_P_keep_23 : decode c_P_keep 23 = .ok (.istore_n 2, 1) := by decide +kernel
theorem d_P_keep_24 : decode c_P_keep 24 = .ok (.aload_n 0, 1) := by decide +kernel
theorem d_P_keep_25 : decode c_P_keep 25 = .ok (.getfield 21, 3) := by decide +kernel
theorem d_P_keep_28 : decode c_P_keep 28 = .ok (.aload_n 1, 1) := by decide +kernel
theorem d_P_keep_29 : decode c_P_keep 29 = .ok (.invokevirtual 55, 3) := by decide +kernel
theorem d_P_keep_32 : decode c_P_keep 32 = .ok (.aload_n 0, 1) := by decide +kernel
theorem d_P_keep_33 : decode c_P_keep 33 = .ok (.getfield 21, 3) := by decide +kernel
theorem d_P_keep_36 : decode c_P_keep 36 = .ok (.aload_n 1, 1) := by decide +kernel
theorem d_P_keep_37 : decode c_P_keep 37 = .ok (.getfield 59, 3) := by decide +kernel
theorem d_P_keep_40 : decode c_P_keep 40 = .ok (.putfield 59, 3) := by decide +kernel
theorem d_P_keep_43 : decode c_P_keep 43 = .ok (.aload_n 0, 1) := by decide +kernel
theorem d_P_keep_44 : decode c_P_keep 44 = .ok (.getfield 21, 3) := by decide +kernel
theorem d_P_keep_47 : decode c_P_keep 47 = .ok (.aload_n 1, 1) := by decide +kernel
theorem d_P_keep_48 : decode c_P_keep 48 = .ok (.getfield 62, 3) := by decide +kernel
theorem d_P_keep_51 : decode c_P_keep 51 = .ok (.putfield 62, 3) := by decide +kernel
theorem d_P_keep_54 : decode c_P_keep 54 = .ok (.aload_n 0, 1) := by decide +kernel
theorem d_P_keep_55 : decode c_P_keep 55 = .ok (.getfield 21, 3) := by decide +kernel
theorem d_P_keep_58 : decode c_P_keep 58 = .ok (.aload_n 1, 1) := by decide +kernel
theorem d_P_keep_59 : decode c_P_keep 59 = .ok (.getfield 65, 3) := by decide +kernel
theorem d_P_keep_62 : decode c_P_keep 62 = .ok (.putfield 65, 3) := by decide +kernel
theorem d_P_keep_65 : decode c_P_keep 65 = .ok (.aload_n 0, 1) := by decide +kernel
theorem d_P_keep_66 : decode c_P_keep 66 = .ok (.getfield 21, 3) := by decide +kernel
theorem d_P_keep_69 : decode c_P_keep 69 = .ok (.aload_n 0, 1) := by decide +kernel
theorem d_P_keep_70 : decode c_P_keep 70 = .ok (.getfield 15, 3) := by decide +kernel
theorem d_P_keep_73 : decode c_P_keep 73 = .ok (.putfield 68, 3) := by decide +kernel
theorem d_P_keep_76 : decode c_P_keep 76 = .ok (.aload_n 0, 1) := by decide +kernel
theorem d_P_keep_77 : decode c_P_keep 77 = .ok (.iconst 1, 1) := by decide +kernel
theorem d_P_keep_78 : decode c_P_keep 78 = .ok (.putfield 28, 3) := by decide +kernel
theorem d_P_keep_81 : decode c_P_keep 81 = .ok (.aload_n 0, 1) := by decide +kernel
theorem d_P_keep_82 : decode c_P_keep 82 = .ok (.iconst 0, 1) := by decide +kernel
theorem d_P_keep_83 : decode c_P_keep 83 = .ok (.putfield 32, 3) := by decide +kernel
theorem d_P_keep_86 : decode c_P_keep 86 = .ok (.iload_n 2, 1) := by decide +kernel
theorem d_P_keep_87 : decode c_P_keep 87 = .ok (.ireturn, 1) := by decide +kernel
theorem d_D_tellsSameAs_0 : decode c_D_tellsSameAs 0 = .ok (.aload_n 0, 1) := by decide +kernel
theorem d_D_tellsSameAs_1 : decode c_D_tellsSameAs 1 = .ok (.getfield 9, 3) := by decide +kernel
theorem d_D_tellsSameAs_4 : decode c_D_tellsSameAs 4 = .ok (.aload_n 1, 1) := by decide +kernel
theorem d_D_tellsSameAs_5 : decode c_D_tellsSameAs 5 = .ok (.getfield 9, 3) := by decide +kernel
theorem d_D_tellsSameAs_8 : decode c_D_tellsSameAs 8 = .ok (.if_icmp .ne 73, 3) := by decide +kernel
theorem d_D_tellsSameAs_11 : decode c_D_tellsSameAs 11 = .ok (.aload_n 0, 1) := by decide +kernel
theorem d_D_tellsSameAs_12 : decode c_D_tellsSameAs 12 = .ok (.getfield 15, 3) := by decide +kernel
theorem d_D_tellsSameAs_15 : decode c_D_tellsSameAs 15 = .ok (.aload_n 1, 1) := by decide +kernel
theorem d_D_tellsSameAs_16 : decode c_D_tellsSameAs 16 = .ok (.getfield 15, 3) := by decide +kernel
theorem d_D_tellsSameAs_19 : decode c_D_tellsSameAs 19 = .ok (.if_icmp .ne 62, 3) := by decide +kernel
theorem d_D_tellsSameAs_22 : decode c_D_tellsSameAs 22 = .ok (.aload_n 0, 1) := by decide +kernel
theorem d_D_tellsSameAs_23 : decode c_D_tellsSameAs 23 = .ok (.getfield 18, 3) := by decide +kernel
theorem d_D_tellsSameAs_26 : decode c_D_tellsSameAs 26 = .ok (.aload_n 1, 1) := by decide +kernel
theorem d_D_tellsSameAs_27 : decode c_D_tellsSameAs 27 = .ok (.getfield 18, 3) := by decide +kernel
theorem d_D_tellsSameAs_30 : decode c_D_tellsSameAs 30 = .ok (.if_icmp .ne 51, 3) := by decide +kernel
theorem d_D_tellsSameAs_33 : decode c_D_tellsSameAs 33 = .ok (.aload_n 0, 1) := by decide +kernel
theorem d_D_tellsSameAs_34 : decode c_D_tellsSameAs 34 = .ok (.getfield 21, 3) := by decide +kernel
theorem d_D_tellsSameAs_37 : decode c_D_tellsSameAs 37 = .ok (.aload_n 1, 1) := by decide +kernel
theorem d_D_tellsSameAs_38 : decode c_D_tellsSameAs 38 = .ok (.getfield 21, 3) := by decide +kernel
theorem d_D_tellsSameAs_41 : decode c_D_tellsSameAs 41 = .ok (.if_icmp .ne 40, 3) := by decide +kernel
theorem d_D_tellsSameAs_44 : decode c_D_tellsSameAs 44 = .ok (.aload_n 0, 1) := by decide +kernel
theorem d_D_tellsSameAs_45 : decode c_D_tellsSameAs 45 = .ok (.getfield 24, 3) := by decide +kernel
theorem d_D_tellsSameAs_48 : decode c_D_tellsSameAs 48 = .ok (.aload_n 1, 1) := by decide +kernel
theorem d_D_tellsSameAs_49 : decode c_D_tellsSameAs 49 = .ok (.getfield 24, 3) := by decide +kernel
theorem d_D_tellsSameAs_52 : decode c_D_tellsSameAs 52 = .ok (.if_icmp .ne 29, 3) := by decide +kernel
theorem d_D_tellsSameAs_55 : decode c_D_tellsSameAs 55 = .ok (.aload_n 0, 1) := by decide +kernel
theorem d_D_tellsSameAs_56 : decode c_D_tellsSameAs 56 = .ok (.getfield 27, 3) := by decide +kernel
theorem d_D_tellsSameAs_59 : decode c_D_tellsSameAs 59 = .ok (.aload_n 1, 1) := by decide +kernel
theorem d_D_tellsSameAs_60 : decode c_D_tellsSameAs 60 = .ok (.getfield 27, 3) := by decide +kernel
theorem d_D_tellsSameAs_63 : decode c_D_tellsSameAs 63 = .ok (.if_icmp .ne 18, 3) := by decide +kernel
theorem d_D_tellsSameAs_66 : decode c_D_tellsSameAs 66 = .ok (.aload_n 0, 1) := by decide +kernel
theorem d_D_tellsSameAs_67 : decode c_D_tellsSameAs 67 = .ok (.getfield 30, 3) := by decide +kernel
theorem d_D_tellsSameAs_70 : decode c_D_tellsSameAs 70 = .ok (.aload_n 1, 1) := by decide +kernel
theorem d_D_tellsSameAs_71 : decode c_D_tellsSameAs 71 = .ok (.getfield 30, 3) := by decide +kernel
theorem d_D_tellsSameAs_74 : decode c_D_tellsSameAs 74 = .ok (.if_icmp .ne 7, 3) := by decide +kernel
theorem d_D_tellsSameAs_77 : decode c_D_tellsSameAs 77 = .ok (.iconst 1, 1) := by decide +kernel
theorem d_D_tellsSameAs_78 : decode c_D_tellsSameAs 78 = .ok (.goto 4, 3) := by decide +kernel
theorem d_D_tellsSameAs_81 : decode c_D_tellsSameAs 81 = .ok (.iconst 0, 1) := by decide +kernel
theorem d_D_tellsSameAs_82 : decode c_D_tellsSameAs 82 = .ok (.ireturn, 1) := by decide +kernel
theorem d_D_setRootOf_0 : decode c_D_setRootOf 0 = .ok (.aload_n 0, 1) := by decide +kernel
theorem d_D_setRootOf_1 : decode c_D_setRootOf 1 = .ok (.aload_n 1, 1) := by decide +kernel
theorem d_D_setRootOf_2 : decode c_D_setRootOf 2 = .ok (.getfield 9, 3) := by decide +kernel
theorem d_D_setRootOf_5 : decode c_D_setRootOf 5 = .ok (.putfield 9, 3) := by decide +kernel
theorem d_D_setRootOf_8 : decode c_D_setRootOf 8 = .ok (.aload_n 0, 1) := by decide +kernel
theorem d_D_setRootOf_9 : decode c_D_setRootOf 9 = .ok (.aload_n 1, 1) := by decide +kernel
theorem d_D_setRootOf_10 : decode c_D_setRootOf 10 = .ok (.getfield 15, 3) := by decide +kernel
theorem d_D_setRootOf_13 : decode c_D_setRootOf 13 = .ok (.putfield 15, 3) := by decide +kernel
theorem d_D_setRootOf_16 : decode c_D_setRootOf 16 = .ok (.aload_n 0, 1) := by decide +kernel
theorem d_D_setRootOf_17 : decode c_D_setRootOf 17 = .ok (.aload_n 1, 1) := by decide +kernel
theorem d_D_setRootOf_18 : decode c_D_setRootOf 18 = .ok (.getfield 18, 3) := by decide +kernel
theorem d_D_setRootOf_21 : decode c_D_setRootOf 21 = .ok (.putfield 18, 3) := by decide +kernel
theorem d_D_setRootOf_24 : decode c_D_setRootOf 24 = .ok (.aload_n 0, 1) := by decide +kernel
theorem d_D_setRootOf_25 : decode c_D_setRootOf 25 = .ok (.aload_n 1, 1) := by decide +kernel
theorem d_D_setRootOf_26 : decode c_D_setRootOf 26 = .ok (.getfield 21, 3) := by decide +kernel
theorem d_D_setRootOf_29 : decode c_D_setRootOf 29 = .ok (.putfield 21, 3) := by decide +kernel
theorem d_D_setRootOf_32 : decode c_D_setRootOf 32 = .ok (.return_, 1) := by decide +kernel
theorem d_P_growOlder_0 : decode c_P_growOlder 0 = .ok (.aload_n 0, 1) := by decide +kernel
theorem d_P_growOlder_1 : decode c_P_growOlder 1 = .ok (.getfield 28, 3) := by decide +kernel
theorem d_P_growOlder_4 : decode c_P_growOlder 4 = .ok (.ifCond .ne 5, 3) := by decide +kernel
theorem d_P_growOlder_7 : decode c_P_growOlder 7 = .ok (.iconst 0, 1) := by decide +kernel
theorem d_P_growOlder_8 : decode c_P_growOlder 8 = .ok (.ireturn, 1) := by decide +kernel
theorem d_P_growOlder_9 : decode c_P_growOlder 9 = .ok (.aload_n 0, 1) := by decide +kernel
theorem d_P_growOlder_10 : decode c_P_growOlder 10 = .ok (.dup, 1) := by decide +kernel
theorem d_P_growOlder_11 : decode c_P_growOlder 11 = .ok (.getfield 32, 3) := by decide +kernel
theorem d_P_growOlder_14 : decode c_P_growOlder 14 = .ok (.iconst 1, 1) := by decide +kernel
theorem d_P_growOlder_15 : decode c_P_growOlder 15 = .ok (.iadd, 1) := by decide +kernel
theorem d_P_growOlder_16 : decode c_P_growOlder 16 = .ok (.putfield 32, 3) := by decide +kernel
theorem d_P_growOlder_19 : decode c_P_growOlder 19 = .ok (.aload_n 0, 1) := by decide +kernel
theorem d_P_growOlder_20 : decode c_P_growOlder 20 = .ok (.getfield 32, 3) := by decide +kernel
theorem d_P_growOlder_23 : decode c_P_growOlder 23 = .ok (.iconst 3, 1) := by decide +kernel
theorem d_P_growOlder_24 : decode c_P_growOlder 24 = .ok (.if_icmp .ge 5, 3) := by decide +kernel
theorem d_P_growOlder_27 : decode c_P_growOlder 27 = .ok (.iconst 0, 1) := by decide +kernel
theorem d_P_growOlder_28 : decode c_P_growOlder 28 = .ok (.ireturn, 1) := by decide +kernel
theorem d_P_growOlder_29 : decode c_P_growOlder 29 = .ok (.aload_n 0, 1) := by decide +kernel
theorem d_P_growOlder_30 : decode c_P_growOlder 30 = .ok (.iconst 0, 1) := by decide +kernel
theorem d_P_growOlder_31 : decode c_P_growOlder 31 = .ok (.putfield 28, 3) := by decide +kernel
theorem d_P_growOlder_34 : decode c_P_growOlder 34 = .ok (.iconst 1, 1) := by decide +kernel
theorem d_P_growOlder_35 : decode c_P_growOlder 35 = .ok (.ireturn, 1) := by decide +kernel
theorem d_D_betterThan_0 : decode c_D_betterThan 0 = .ok (.aload_n 0, 1) := by decide +kernel
theorem d_D_betterThan_1 : decode c_D_betterThan 1 = .ok (.getfield 9, 3) := by decide +kernel
theorem d_D_betterThan_4 : decode c_D_betterThan 4 = .ok (.aload_n 1, 1) := by decide +kernel
theorem d_D_betterThan_5 : decode c_D_betterThan 5 = .ok (.getfield 9, 3) := by decide +kernel
theorem d_D_betterThan_8 : decode c_D_betterThan 8 = .ok (.if_icmp .eq 20, 3) := by decide +kernel
theorem d_D_betterThan_11 : decode c_D_betterThan 11 = .ok (.aload_n 0, 1) := by decide +kernel
theorem d_D_betterThan_12 : decode c_D_betterThan 12 = .ok (.getfield 9, 3) := by decide +kernel
theorem d_D_betterThan_15 : decode c_D_betterThan 15 = .ok (.aload_n 1, 1) := by decide +kernel
theorem d_D_betterThan_16 : decode c_D_betterThan 16 = .ok (.getfield 9, 3) := by decide +kernel
theorem d_D_betterThan_19 : decode c_D_betterThan 19 = .ok (.if_icmp .ge 7, 3) := by decide +kernel
theorem d_D_betterThan_22 : decode c_D_betterThan 22 = .ok (.iconst 1, 1) := by decide +kernel
theorem d_D_betterThan_23 : decode c_D_betterThan 23 = .ok (.goto 4, 3) := by decide +kernel
theorem d_D_betterThan_26 : decode c_D_betterThan 26 = .ok (.iconst 0, 1) := by decide +kernel
theorem d_D_betterThan_27 : decode c_D_betterThan 27 = .ok (.ireturn, 1) := by decide +kernel
theorem d_D_betterThan_28 : decode c_D_betterThan 28 = .ok (.aload_n 0, 1) := by decide +kernel
theorem d_D_betterThan_29 : decode c_D_betterThan 29 = .ok (.getfield 15, 3) := by decide +kernel
theorem d_D_betterThan_32 : decode c_D_betterThan 32 = .ok (.aload_n 1, 1) := by decide +kernel
theorem d_D_betterThan_33 : decode c_D_betterThan 33 = .ok (.getfield 15, 3) := by decide +kernel
theorem d_D_betterThan_36 : decode c_D_betterThan 36 = .ok (.if_icmp .eq 20, 3) := by decide +kernel
theorem d_D_betterThan_39 : decode c_D_betterThan 39 = .ok (.aload_n 0, 1) := by decide +kernel
theorem d_D_betterThan_40 : decode c_D_betterThan 40 = .ok (.getfield 15, 3) := by decide +kernel
theorem d_D_betterThan_43 : decode c_D_betterThan 43 = .ok (.aload_n 1, 1) := by decide +kernel
theorem d_D_betterThan_44 : decode c_D_betterThan 44 = .ok (.getfield 15, 3) := by decide +kernel
theorem d_D_betterThan_47 : decode c_D_betterThan 47 = .ok (.if_icmp .ge 7, 3) := by decide +kernel
theorem d_D_betterThan_50 : decode c_D_betterThan 50 = .ok (.iconst 1, 1) := by decide +kernel
theorem d_D_betterThan_51 : decode c_D_betterThan 51 = .ok (.goto 4, 3) := by decide +kernel
theorem d_D_betterThan_54 : decode c_D_betterThan 54 = .ok (.iconst 0, 1) := by decide +kernel
theorem d_D_betterThan_55 : decode c_D_betterThan 55 = .ok (.ireturn, 1) := by decide +kernel
theorem d_D_betterThan_56 : decode c_D_betterThan 56 = .ok (.aload_n 0, 1) := by decide +kernel
theorem d_D_betterThan_57 : decode c_D_betterThan 57 = .ok (.getfield 18, 3) := by decide +kernel
theorem d_D_betterThan_60 : decode c_D_betterThan 60 = .ok (.aload_n 1, 1) := by decide +kernel
theorem d_D_betterThan_61 : decode c_D_betterThan 61 = .ok (.getfield 18, 3) := by decide +kernel
theorem d_D_betterThan_64 : decode c_D_betterThan 64 = .ok (.if_icmp .eq 20, 3) := by decide +kernel
theorem d_D_betterThan_67 : decode c_D_betterThan 67 = .ok (.aload_n 0, 1) := by decide +kernel
theorem d_D_betterThan_68 : decode c_D_betterThan 68 = .ok (.getfield 18, 3) := by decide +kernel
theorem d_D_betterThan_71 : decode c_D_betterThan 71 = .ok (.aload_n 1, 1) := by decide +kernel
theorem d_D_betterThan_72 : decode c_D_betterThan 72 = .ok (.getfield 18, 3) := by decide +kernel
theorem d_D_betterThan_75 : decode c_D_betterThan 75 = .ok (.if_icmp .ge 7, 3) := by decide +kernel
theorem d_D_betterThan_78 : decode c_D_betterThan 78 = .ok (.iconst 1, 1) := by decide +kernel
theorem d_D_betterThan_79 : decode c_D_betterThan 79 = .ok (.goto 4, 3) := by decide +kernel
theorem d_D_betterThan_82 : decode c_D_betterThan 82 = .ok (.iconst 0, 1) := by decide +kernel
theorem d_D_betterThan_83 : decode c_D_betterThan 83 = .ok (.ireturn, 1) := by decide +kernel
theorem d_D_betterThan_84 : decode c_D_betterThan 84 = .ok (.aload_n 0, 1) := by decide +kernel
theorem d_D_betterThan_85 : decode c_D_betterThan 85 = .ok (.getfield 21, 3) := by decide +kernel
theorem d_D_betterThan_88 : decode c_D_betterThan 88 = .ok (.aload_n 1, 1) := by decide +kernel
theorem d_D_betterThan_89 : decode c_D_betterThan 89 = .ok (.getfield 21, 3) := by decide +kernel
theorem d_D_betterThan_92 : decode c_D_betterThan 92 = .ok (.if_icmp .eq 20, 3) := by decide +kernel
theorem d_D_betterThan_95 : decode c_D_betterThan 95 = .ok (.aload_n 0, 1) := by decide +kernel
theorem d_D_betterThan_96 : decode c_D_betterThan 96 = .ok (.getfield 21, 3) := by decide +kernel
theorem d_D_betterThan_99 : decode c_D_betterThan 99 = .ok (.aload_n 1, 1) := by decide +kernel
theorem d_D_betterThan_100 : decode c_D_betterThan 100 = .ok (.getfield 21, 3) := by decide +kernel
theorem d_D_betterThan_103 : decode c_D_betterThan 103 = .ok (.if_icmp .ge 7, 3) := by decide +kernel
theorem d_D_betterThan_106 : decode c_D_betterThan 106 = .ok (.iconst 1, 1) := by decide +kernel
theorem d_D_betterThan_107 : decode c_D_betterThan 107 = .ok (.goto 4, 3) := by decide +kernel
theorem d_D_betterThan_110 : decode c_D_betterThan 110 = .ok (.iconst 0, 1) := by decide +kernel
theorem d_D_betterThan_111 : decode c_D_betterThan 111 = .ok (.ireturn, 1) := by decide +kernel
theorem d_D_betterThan_112 : decode c_D_betterThan 112 = .ok (.aload_n 0, 1) := by decide +kernel
theorem d_D_betterThan_113 : decode c_D_betterThan 113 = .ok (.getfield 24, 3) := by decide +kernel
theorem d_D_betterThan_116 : decode c_D_betterThan 116 = .ok (.aload_n 1, 1) := by decide +kernel
theorem d_D_betterThan_117 : decode c_D_betterThan 117 = .ok (.getfield 24, 3) := by decide +kernel
theorem d_D_betterThan_120 : decode c_D_betterThan 120 = .ok (.if_icmp .eq 20, 3) := by decide +kernel
theorem d_D_betterThan_123 : decode c_D_betterThan 123 = .ok (.aload_n 0, 1) := by decide +kernel
theorem d_D_betterThan_124 : decode c_D_betterThan 124 = .ok (.getfield 24, 3) := by decide +kernel
theorem d_D_betterThan_127 : decode c_D_betterThan 127 = .ok (.aload_n 1, 1) := by decide +kernel
theorem d_D_betterThan_128 : decode c_D_betterThan 128 = .ok (.getfield 24, 3) := by decide +kernel
theorem d_D_betterThan_131 : decode c_D_betterThan 131 = .ok (.if_icmp .ge 7, 3) := by decide +kernel
theorem d_D_betterThan_134 : decode c_D_betterThan 134 = .ok (.iconst 1, 1) := by decide +kernel
theorem d_D_betterThan_135 : decode c_D_betterThan 135 = .ok (.goto 4, 3) := by decide +kernel
theorem d_D_betterThan_138 : decode c_D_betterThan 138 = .ok (.iconst 0, 1) := by decide +kernel
theorem d_D_betterThan_139 : decode c_D_betterThan 139 = .ok (.ireturn, 1) := by decide +kernel
theorem d_D_betterThan_140 : decode c_D_betterThan 140 = .ok (.aload_n 0, 1) := by decide +kernel
theorem d_D_betterThan_141 : decode c_D_betterThan 141 = .ok (.getfield 27, 3) := by decide +kernel
theorem d_D_betterThan_144 : decode c_D_betterThan 144 = .ok (.aload_n 1, 1) := by decide +kernel
theorem d_D_betterThan_145 : decode c_D_betterThan 145 = .ok (.getfield 27, 3) := by decide +kernel
theorem d_D_betterThan_148 : decode c_D_betterThan 148 = .ok (.if_icmp .eq 20, 3) := by decide +kernel
theorem d_D_betterThan_151 : decode c_D_betterThan 151 = .ok (.aload_n 0, 1) := by decide +kernel
theorem d_D_betterThan_152 : decode c_D_betterThan 152 = .ok (.getfield 27, 3) := by decide +kernel
theorem d_D_betterThan_155 : decode c_D_betterThan 155 = .ok (.aload_n 1, 1) := by decide +kernel
theorem d_D_betterThan_156 : decode c_D_betterThan 156 = .ok (.getfield 27, 3) := by decide +kernel
theorem d_D_betterThan_159 : decode c_D_betterThan 159 = .ok (.if_icmp .ge 7, 3) := by decide +kernel
theorem d_D_betterThan_162 : decode c_D_betterThan 162 = .ok (.iconst 1, 1) := by decide +kernel
theorem d_D_betterThan_163 : decode c_D_betterThan 163 = .ok (.goto 4, 3) := by decide +kernel
theorem d_D_betterThan_166 : decode c_D_betterThan 166 = .ok (.iconst 0, 1) := by decide +kernel
theorem d_D_betterThan_167 : decode c_D_betterThan 167 = .ok (.ireturn, 1) := by decide +kernel
theorem d_D_betterThan_168 : decode c_D_betterThan 168 = .ok (.aload_n 0, 1) := by decide +kernel
theorem d_D_betterThan_169 : decode c_D_betterThan 169 = .ok (.getfield 30, 3) := by decide +kernel
theorem d_D_betterThan_172 : decode c_D_betterThan 172 = .ok (.aload_n 1, 1) := by decide +kernel
theorem d_D_betterThan_173 : decode c_D_betterThan 173 = .ok (.getfield 30, 3) := by decide +kernel
theorem d_D_betterThan_176 : decode c_D_betterThan 176 = .ok (.if_icmp .eq 20, 3) := by decide +kernel
theorem d_D_betterThan_179 : decode c_D_betterThan 179 = .ok (.aload_n 0, 1) := by decide +kernel
theorem d_D_betterThan_180 : decode c_D_betterThan 180 = .ok (.getfield 30, 3) := by decide +kernel
theorem d_D_betterThan_183 : decode c_D_betterThan 183 = .ok (.aload_n 1, 1) := by decide +kernel
theorem d_D_betterThan_184 : decode c_D_betterThan 184 = .ok (.getfield 30, 3) := by decide +kernel
theorem d_D_betterThan_187 : decode c_D_betterThan 187 = .ok (.if_icmp .ge 7, 3) := by decide +kernel
theorem d_D_betterThan_190 : decode c_D_betterThan 190 = .ok (.iconst 1, 1) := by decide +kernel
theorem d_D_betterThan_191 : decode c_D_betterThan 191 = .ok (.goto 4, 3) := by decide +kernel
theorem d_D_betterThan_194 : decode c_D_betterThan 194 = .ok (.iconst 0, 1) := by decide +kernel
theorem d_D_betterThan_195 : decode c_D_betterThan 195 = .ok (.ireturn, 1) := by decide +kernel
theorem d_D_betterThan_196 : decode c_D_betterThan 196 = .ok (.aload_n 0, 1) := by decide +kernel
theorem d_D_betterThan_197 : decode c_D_betterThan 197 = .ok (.getfield 33, 3) := by decide +kernel
theorem d_D_betterThan_200 : decode c_D_betterThan 200 = .ok (.aload_n 1, 1) := by decide +kernel
theorem d_D_betterThan_201 : decode c_D_betterThan 201 = .ok (.getfield 33, 3) := by decide +kernel
theorem d_D_betterThan_204 : decode c_D_betterThan 204 = .ok (.if_icmp .ge 7, 3) := by decide +kernel
theorem d_D_betterThan_207 : decode c_D_betterThan 207 = .ok (.iconst 1, 1) := by decide +kernel
theorem d_D_betterThan_208 : decode c_D_betterThan 208 = .ok (.goto 4, 3) := by decide +kernel
theorem d_D_betterThan_211 : decode c_D_betterThan 211 = .ok (.iconst 0, 1) := by decide +kernel
theorem d_D_betterThan_212 : decode c_D_betterThan 212 = .ok (.ireturn, 1) := by decide +kernel
theorem d_P_tell_0 : decode c_P_tell 0 = .ok (.aload_n 0, 1) := by decide +kernel
theorem d_P_tell_1 : decode c_P_tell 1 = .ok (.getfield 25, 3) := by decide +kernel
theorem d_P_tell_4 : decode c_P_tell 4 = .ok (.aload_n 1, 1) := by decide +kernel
theorem d_P_tell_5 : decode c_P_tell 5 = .ok (.invokevirtual 55, 3) := by decide +kernel
theorem d_P_tell_8 : decode c_P_tell 8 = .ok (.aload_n 0, 1) := by decide +kernel
theorem d_P_tell_9 : decode c_P_tell 9 = .ok (.getfield 25, 3) := by decide +kernel
theorem d_P_tell_12 : decode c_P_tell 12 = .ok (.aload_n 1, 1) := by decide +kernel
theorem d_P_tell_13 : decode c_P_tell 13 = .ok (.aload_n 2, 1) := by decide +kernel
theorem d_P_tell_14 : decode c_P_tell 14 = .ok (.if_acmp .ne 7, 3) := by decide +kernel
theorem d_P_tell_17 : decode c_P_tell 17 = .ok (.iconst 0, 1) := by decide +kernel
theorem d_P_tell_18 : decode c_P_tell 18 = .ok (.goto 9, 3) := by decide +kernel
theorem d_P_tell_21 : decode c_P_tell 21 = .ok (.aload_n 1, 1) := by decide +kernel
theorem d_P_tell_22 : decode c_P_tell 22 = .ok (.getfield 59, 3) := by decide +kernel
theorem d_P_tell_25 : decode c_P_tell 25 = .ok (.iconst 1, 1) := by decide +kernel
theorem d_P_tell_26 : decode c_P_tell 26 = .ok (.iadd, 1) := by decide +kernel
theorem d_P_tell_27 : decode c_P_tell 27 = .ok (.putfield 59, 3) := by decide +kernel
theorem d_P_tell_30 : decode c_P_tell 30 = .ok (.aload_n 0, 1) := by decide +kernel
theorem d_P_tell_31 : decode c_P_tell 31 = .ok (.getfield 25, 3) := by decide +kernel
theorem d_P_tell_34 : decode c_P_tell 34 = .ok (.aload_n 2, 1) := by decide +kernel
theorem d_P_tell_35 : decode c_P_tell 35 = .ok (.getfield 71, 3) := by decide +kernel
theorem d_P_tell_38 : decode c_P_tell 38 = .ok (.putfield 62, 3) := by decide +kernel
theorem d_P_tell_41 : decode c_P_tell 41 = .ok (.aload_n 0, 1) := by decide +kernel
theorem d_P_tell_42 : decode c_P_tell 42 = .ok (.getfield 25, 3) := by decide +kernel
theorem d_P_tell_45 : decode c_P_tell 45 = .ok (.aload_n 0, 1) := by decide +kernel
theorem d_P_tell_46 : decode c_P_tell 46 = .ok (.getfield 15, 3) := by decide +kernel
theorem d_P_tell_49 : decode c_P_tell 49 = .ok (.putfield 65, 3) := by decide +kernel
theorem d_P_tell_52 : decode c_P_tell 52 = .ok (.aload_n 0, 1) := by decide +kernel
theorem d_P_tell_53 : decode c_P_tell 53 = .ok (.getfield 25, 3) := by decide +kernel
theorem d_P_tell_56 : decode c_P_tell 56 = .ok (.aload_n 0, 1) := by decide +kernel
theorem d_P_tell_57 : decode c_P_tell 57 = .ok (.getfield 15, 3) := by decide +kernel
theorem d_P_tell_60 : decode c_P_tell 60 = .ok (.putfield 68, 3) := by decide +kernel
theorem d_P_tell_63 : decode c_P_tell 63 = .ok (.return_, 1) := by decide +kernel
theorem d_P_findState_0 : decode c_P_findState 0 = .ok (.aload_n 0, 1) := by decide +kernel
theorem d_P_findState_1 : decode c_P_findState 1 = .ok (.getfield 38, 3) := by decide +kernel
theorem d_P_findState_4 : decode c_P_findState 4 = .ok (.ifnonnull 5, 3) := by decide +kernel
theorem d_P_findState_7 : decode c_P_findState 7 = .ok (.iconst 0, 1) := by decide +kernel
theorem d_P_findState_8 : decode c_P_findState 8 = .ok (.ireturn, 1) := by decide +kernel
theorem d_P_findState_9 : decode c_P_findState 9 = .ok (.aload_n 1, 1) := by decide +kernel
theorem d_P_findState_10 : decode c_P_findState 10 = .ok (.aload_n 0, 1) := by decide +kernel
theorem d_P_findState_11 : decode c_P_findState 11 = .ok (.getfield 21, 3) := by decide +kernel
theorem d_P_findState_14 : decode c_P_findState 14 = .ok (.if_acmp .ne 5, 3) := by decide +kernel
theorem d_P_findState_17 : decode c_P_findState 17 = .ok (.iconst 2, 1) := by decide +kernel
theorem d_P_findState_18 : decode c_P_findState 18 = .ok (.ireturn, 1) := by decide +kernel
theorem d_P_findState_19 : decode c_P_findState 19 = .ok (.aload_n 0, 1) := by decide +kernel
theorem d_P_findState_20 : decode c_P_findState 20 = .ok (.getfield 28, 3) := by decide +kernel
theorem d_P_findState_23 : decode c_P_findState 23 = .ok (.ifCond .eq 21, 3) := by decide +kernel
theorem d_P_findState_26 : decode c_P_findState 26 = .ok (.aload_n 0, 1) := by decide +kernel
theorem d_P_findState_27 : decode c_P_findState 27 = .ok (.getfield 21, 3) := by decide +kernel
theorem d_P_findState_30 : decode c_P_findState 30 = .ok (.aload_n 0, 1) := by decide +kernel
theorem d_P_findState_31 : decode c_P_findState 31 = .ok (.getfield 25, 3) := by decide +kernel
theorem d_P_findState_34 : decode c_P_findState 34 = .ok (.invokevirtual 74, 3) := by decide +kernel
theorem d_P_findState_37 : decode c_P_findState 37 = .ok (.ifCond .eq 7, 3) := by decide +kernel
theorem d_P_findState_40 : decode c_P_findState 40 = .ok (.iconst 3, 1) := by decide +kernel
theorem d_P_findState_41 : decode c_P_findState 41 = .ok (.goto 4, 3) := by decide +kernel
theorem d_P_findState_44 : decode c_P_findState 44 = .ok (.iconst 1, 1) := by decide +kernel
theorem d_P_findState_45 : decode c_P_findState 45 = .ok (.ireturn, 1) := by decide +kernel
theorem d_K_delayTo_0 : decode c_K_delayTo 0 = .ok (.aload_n 1, 1) := by decide +kernel
theorem d_K_delayTo_1 : decode c_K_delayTo 1 = .ok (.aload_n 0, 1) := by decide +kernel
theorem d_K_delayTo_2 : decode c_K_delayTo 2 = .ok (.getfield 7, 3) := by decide +kernel
theorem d_K_delayTo_5 : decode c_K_delayTo 5 = .ok (.if_acmp .ne 10, 3) := by decide +kernel
theorem d_K_delayTo_8 : decode c_K_delayTo 8 = .ok (.aload_n 0, 1) := by decide +kernel
theorem d_K_delayTo_9 : decode c_K_delayTo 9 = .ok (.getfield 20, 3) := by decide +kernel
theorem d_K_delayTo_12 : decode c_K_delayTo 12 = .ok (.goto 7, 3) := by decide +kernel
theorem d_K_delayTo_15 : decode c_K_delayTo 15 = .ok (.aload_n 0, 1) := by decide +kernel
theorem d_K_delayTo_16 : decode c_K_delayTo 16 = .ok (.getfield 16, 3) := by decide +kernel
theorem d_K_delayTo_19 : decode c_K_delayTo 19 = .ok (.ireturn, 1) := by decide +kernel
theorem d_K_delayFrom_0 : decode c_K_delayFrom 0 = .ok (.aload_n 1, 1) := by decide +kernel
theorem d_K_delayFrom_1 : decode c_K_delayFrom 1 = .ok (.aload_n 0, 1) := by decide +kernel
theorem d_K_delayFrom_2 : decode c_K_delayFrom 2 = .ok (.getfield 7, 3) := by decide +kernel
theorem d_K_delayFrom_5 : decode c_K_delayFrom 5 = .ok (.if_acmp .ne 10, 3) := by decide +kernel
theorem d_K_delayFrom_8 : decode c_K_delayFrom 8 = .ok (.aload_n 0, 1) := by decide +kernel
theorem d_K_delayFrom_9 : decode c_K_delayFrom 9 = .ok (.getfield 16, 3) := by decide +kernel
theorem d_K_delayFrom_12 : decode c_K_delayFrom 12 = .ok (.goto 7, 3) := by decide +kernel
theorem d_K_delayFrom_15 : decode c_K_delayFrom 15 = .ok (.aload_n 0, 1) := by decide +kernel
theorem d_K_delayFrom_16 : decode c_K_delayFrom 16 = .ok (.getfield 20, 3) := by decide +kernel
theorem d_K_delayFrom_19 : decode c_K_delayFrom 19 = .ok (.ireturn, 1) := by decide +kernel
theorem d_R_noteTimes_0 : decode c_R_noteTimes 0 = .ok (.aload_n 0, 1) := by decide +kernel
theorem d_R_noteTimes_1 : decode c_R_noteTimes 1 = .ok (.iconst 0, 1) := by decide +kernel
theorem d_R_noteTimes_2 : decode c_R_noteTimes 2 = .ok (.putfield 9, 3) := by decide +kernel
theorem d_R_noteTimes_5 : decode c_R_noteTimes 5 = .ok (.aload_n 0, 1) := by decide +kernel
theorem d_R_noteTimes_6 : decode c_R_noteTimes 6 = .ok (.lload_n 1, 1) := by decide +kernel
theorem d_R_noteTimes_7 : decode c_R_noteTimes 7 = .ok (.putfield 15, 3) := by decide +kernel
theorem d_R_noteTimes_10 : decode c_R_noteTimes 10 = .ok (.aload_n 0, 1) := by decide +kernel
theorem d_R_noteTimes_11 : decode c_R_noteTimes 11 = .ok (.aload_n 0, 1) := by decide +kernel
theorem d_R_noteTimes_12 : decode c_R_noteTimes 12 = .ok (.aload_n 0, 1) := by decide +kernel
theorem d_R_noteTimes_13 : decode c_R_noteTimes 13 = .ok (.getfield 15, 3) := by decide +kernel
theorem d_R_noteTimes_16 : decode c_R_noteTimes 16 = .ok (.iload_n 3, 1) := by decide +kernel
theorem d_R_noteTimes_17 : decode c_R_noteTimes 17 = .ok (.i2l, 1) := by decide +kernel
theorem d_R_noteTimes_18 : decode c_R_noteTimes 18 = .ok (.invokevirtual 19, 3) := by decide +kernel
theorem d_R_noteTimes_21 : decode c_R_noteTimes 21 = .ok (.putfield 23, 3) := by decide +kernel
theorem d_R_noteTimes_24 : decode c_R_noteTimes 24 = .ok (.aload_n 0, 1) := by decide +kernel
theorem d_R_noteTimes_25 : decode c_R_noteTimes 25 = .ok (.aload_n 0, 1) := by decide +kernel
theorem d_R_noteTimes_26 : decode c_R_noteTimes 26 = .ok (.aload_n 0, 1) := by decide +kernel
theorem d_R_noteTimes_27 : decode c_R_noteTimes 27 = .ok (.getfield 23, 3) := by decide +kernel
theorem d_R_noteTimes_30 : decode c_R_noteTimes 30 = .ok (.ldc2_w 26, 3) := by decide +kernel
theorem d_R_noteTimes_33 : decode c_R_noteTimes 33 = .ok (.invokevirtual 19, 3) := by decide +kernel
theorem d_R_noteTimes_36 : decode c_R_noteTimes 36 = .ok (.putfield 28, 3) := by decide +kernel
theorem d_R_noteTimes_39 : decode c_R_noteTimes 39 = .ok (.aload_n 0, 1) := by decide +kernel
theorem d_R_noteTimes_40 : decode c_R_noteTimes 40 = .ok (.aload_n 0, 1) := by decide +kernel
theorem d_R_noteTimes_41 : decode c_R_noteTimes 41 = .ok (.aload_n 0, 1) := by decide +kernel
theorem d_R_noteTimes_42 : decode c_R_noteTimes 42 = .ok (.getfield 28, 3) := by decide +kernel
theorem d_R_noteTimes_45 : decode c_R_noteTimes 45 = .ok (.iload 4, 2) := by decide +kernel
theorem d_R_noteTimes_47 : decode c_R_noteTimes 47 = .ok (.i2l, 1) := by decide +kernel
theorem d_R_noteTimes_48 : decode c_R_noteTimes 48 = .ok (.invokevirtual 19, 3) := by decide +kernel
theorem d_R_noteTimes_51 : decode c_R_noteTimes 51 = .ok (.putfield 31, 3) := by decide +kernel
theorem d_R_noteTimes_54 : decode c_R_noteTimes 54 = .ok (.return_, 1) := by decide +kernel
theorem d_R_plus_0 : decode c_R_plus 0 = .ok (.lload_n 1, 1) := by decide +kernel
theorem d_R_plus_1 : decode c_R_plus 1 = .ok (.lload_n 3, 1) := by decide +kernel
theorem d_R_plus_2 : decode c_R_plus 2 = .ok (.ladd, 1) := by decide +kernel
theorem d_R_plus_3 : decode c_R_plus 3 = .ok (.lstore 5, 2) := by decide +kernel
theorem d_R_plus_5 : decode c_R_plus 5 = .ok (.lload_n 1, 1) := by decide +kernel
theorem d_R_plus_6 : decode c_R_plus 6 = .ok (.lload 5, 2) := by decide +kernel
theorem d_R_plus_8 : decode c_R_plus 8 = .ok (.lxor, 1) := by decide +kernel
theorem d_R_plus_9 : decode c_R_plus 9 = .ok (.lload_n 3, 1) := by decide +kernel
theorem d_R_plus_10 : decode c_R_plus 10 = .ok (.lload 5, 2) := by decide +kernel
theorem d_R_plus_12 : decode c_R_plus 12 = .ok (.lxor, 1) := by decide +kernel
theorem d_R_plus_13 : decode c_R_plus 13 = .ok (.land, 1) := by decide +kernel
theorem d_R_plus_14 : decode c_R_plus 14 = .ok (.lconst 0, 1) := by decide +kernel
theorem d_R_plus_15 : decode c_R_plus 15 = .ok (.lcmp, 1) := by decide +kernel
theorem d_R_plus_16 : decode c_R_plus 16 = .ok (.ifCond .ge 8, 3) := by decide +kernel
theorem d_R_plus_19 : decode c_R_plus 19 = .ok (.aload_n 0, 1) := by decide +kernel
theorem d_R_plus_20 : decode c_R_plus 20 = .ok (.iconst 1, 1) := by decide +kernel
theorem d_R_plus_21 : decode c_R_plus 21 = .ok (.putfield 9, 3) := by decide +kernel
theorem d_R_plus_24 : decode c_R_plus 24 = .ok (.lload 5, 2) := by decide +kernel
theorem d_R_plus_26 : decode c_R_plus 26 = .ok (.lreturn, 1) := by decide +kernel
theorem d_R_noteClocks_0 : decode c_R_noteClocks 0 = .ok (.aload_n 0, 1) := by decide +kernel
theorem d_R_noteClocks_1 : decode c_R_noteClocks 1 = .ok (.aload_n 0, 1) := by decide +kernel
theorem d_R_noteClocks_2 : decode c_R_noteClocks 2 = .ok (.aload_n 0, 1) := by decide +kernel
theorem d_R_noteClocks_3 : decode c_R_noteClocks 3 = .ok (.getfield 15, 3) := by decide +kernel
theorem d_R_noteClocks_6 : decode c_R_noteClocks 6 = .ok (.lload_n 1, 1) := by decide +kernel
theorem d_R_noteClocks_7 : decode c_R_noteClocks 7 = .ok (.invokevirtual 19, 3) := by decide +kernel
theorem d_R_noteClocks_10 : decode c_R_noteClocks 10 = .ok (.putfield 34, 3) := by decide +kernel
theorem d_R_noteClocks_13 : decode c_R_noteClocks 13 = .ok (.aload_n 0, 1) := by decide +kernel
theorem d_R_noteClocks_14 : decode c_R_noteClocks 14 = .ok (.aload_n 0, 1) := by decide +kernel
theorem d_R_noteClocks_15 : decode c_R_noteClocks 15 = .ok (.aload_n 0, 1) := by decide +kernel
theorem d_R_noteClocks_16 : decode c_R_noteClocks 16 = .ok (.getfield 23, 3) := by decide +kernel
theorem d_R_noteClocks_19 : decode c_R_noteClocks 19 = .ok (.lload_n 3, 1) := by decide +kernel
theorem d_R_noteClocks_20 : decode c_R_noteClocks 20 = .ok (.invokevirtual 19, 3) := by decide +kernel
theorem d_R_noteClocks_23 : decode c_R_noteClocks 23 = .ok (.putfield 37, 3) := by decide +kernel
theorem d_R_noteClocks_26 : decode c_R_noteClocks 26 = .ok (.aload_n 0, 1) := by decide +kernel
theorem d_R_noteClocks_27 : decode c_R_noteClocks 27 = .ok (.aload_n 0, 1) := by decide +kernel
theorem d_R_noteClocks_28 : decode c_R_noteClocks 28 = .ok (.aload_n 0, 1) := by decide +kernel
theorem d_R_noteClocks_29 : decode c_R_noteClocks 29 = .ok (.getfield 28, 3) := by decide +kernel
theorem d_R_noteClocks_32 : decode c_R_noteClocks 32 = .ok (.lload_n 3, 1) := by decide +kernel
theorem d_R_noteClocks_33 : decode c_R_noteClocks 33 = .ok (.invokevirtual 19, 3) := by decide +kernel
theorem d_R_noteClocks_36 : decode c_R_noteClocks 36 = .ok (.putfield 40, 3) := by decide +kernel
theorem d_R_noteClocks_39 : decode c_R_noteClocks 39 = .ok (.aload_n 0, 1) := by decide +kernel
theorem d_R_noteClocks_40 : decode c_R_noteClocks 40 = .ok (.aload_n 0, 1) := by decide +kernel
theorem d_R_noteClocks_41 : decode c_R_noteClocks 41 = .ok (.aload_n 0, 1) := by decide +kernel
theorem d_R_noteClocks_42 : decode c_R_noteClocks 42 = .ok (.getfield 31, 3) := by decide +kernel
theorem d_R_noteClocks_45 : decode c_R_noteClocks 45 = .ok (.lload_n 1, 1) := by decide +kernel
theorem d_R_noteClocks_46 : decode c_R_noteClocks 46 = .ok (.invokevirtual 19, 3) := by decide +kernel
theorem d_R_noteClocks_49 : decode c_R_noteClocks 49 = .ok (.putfield 43, 3) := by decide +kernel
theorem d_R_noteClocks_52 : decode c_R_noteClocks 52 = .ok (.return_, 1) := by decide +kernel
theorem d_R_find_0 : decode c_R_find 0 = .ok (.aload_n 0, 1) := by decide +kernel
theorem d_R_find_1 : decode c_R_find 1 = .ok (.aload_n 0, 1) := by decide +kernel
theorem d_R_find_2 : decode c_R_find 2 = .ok (.aload_n 0, 1) := by decide +kernel
theorem d_R_find_3 : decode c_R_find 3 = .ok (.getfield 37, 3) := by decide +kernel
theorem d_R_find_6 : decode c_R_find 6 = .ok (.aload_n 0, 1) := by decide +kernel
theorem d_R_find_7 : decode c_R_find 7 = .ok (.getfield 34, 3) := by decide +kernel
theorem d_R_find_10 : decode c_R_find 10 = .ok (.invokevirtual 46, 3) := by decide +kernel
theorem d_R_find_13 : decode c_R_find 13 = .ok (.iload_n 3, 1) := by decide +kernel
theorem d_R_find_14 : decode c_R_find 14 = .ok (.i2l, 1) := by decide +kernel
theorem d_R_find_15 : decode c_R_find 15 = .ok (.invokevirtual 46, 3) := by decide +kernel
theorem d_R_find_18 : decode c_R_find 18 = .ok (.lstore 5, 2) := by decide +kernel
theorem d_R_find_20 : decode c_R_find 20 = .ok (.aload_n 0, 1) := by decide +kernel
theorem d_R_find_21 : decode c_R_find 21 = .ok (.aload_n 0, 1) := by decide +kernel
theorem d_R_find_22 : decode c_R_find 22 = .ok (.aload_n 0, 1) := by decide +kernel
theorem d_R_find_23 : decode c_R_find 23 = .ok (.getfield 43, 3) := by decide +kernel
theorem d_R_find_26 : decode c_R_find 26 = .ok (.aload_n 0, 1) := by decide +kernel
theorem d_R_find_27 : decode c_R_find 27 = .ok (.getfield 40, 3) := by decide +kernel
theorem d_R_find_30 : decode c_R_find 30 = .ok (.invokevirtual 46, 3) := by decide +kernel
theorem d_R_find_33 : decode c_R_find 33 = .ok (.iload 4, 2) := by decide +kernel
theorem d_R_find_35 : decode c_R_find 35 = .ok (.i2l, 1) := by decide +kernel
theorem d_R_find_36 : decode c_R_find 36 = .ok (.invokevirtual 46, 3) := by decide +kernel
theorem d_R_find_39 : decode c_R_find 39 = .ok (.lstore 7, 2) := by decide +kernel
theorem d_R_find_41 : decode c_R_find 41 = .ok (.aload_n 0, 1) := by decide +kernel
theorem d_R_find_42 : decode c_R_find 42 = .ok (.aload_n 0, 1) := by decide +kernel
theorem d_R_find_43 : decode c_R_find 43 = .ok (.lload 5, 2) := by decide +kernel
theorem d_R_find_45 : decode c_R_find 45 = .ok (.lload 7, 2) := by decide +kernel
theorem d_R_find_47 : decode c_R_find 47 = .ok (.invokevirtual 46, 3) := by decide +kernel
theorem d_R_find_50 : decode c_R_find 50 = .ok (.ldc2_w 49, 3) := by decide +kernel
theorem d_R_find_53 : decode c_R_find 53 = .ok (.ldiv, 1) := by decide +kernel
theorem d_R_find_54 : decode c_R_find 54 = .ok (.putfield 51, 3) := by decide +kernel
theorem d_R_find_57 : decode c_R_find 57 = .ok (.aload_n 0, 1) := by decide +kernel
theorem d_R_find_58 : decode c_R_find 58 = .ok (.aload_n 0, 1) := by decide +kernel
theorem d_R_find_59 : decode c_R_find 59 = .ok (.lload 5, 2) := by decide +kernel
theorem d_R_find_61 : decode c_R_find 61 = .ok (.lload 7, 2) := by decide +kernel
theorem d_R_find_63 : decode c_R_find 63 = .ok (.invokevirtual 19, 3) := by decide +kernel
theorem d_R_find_66 : decode c_R_find 66 = .ok (.ldc2_w 49, 3) := by decide +kernel
theorem d_R_find_69 : decode c_R_find 69 = .ok (.ldiv, 1) := by decide +kernel
theorem d_R_find_70 : decode c_R_find 70 = .ok (.putfield 54, 3) := by decide +kernel
theorem d_R_find_73 : decode c_R_find 73 = .ok (.aload_n 0, 1) := by decide +kernel
theorem d_R_find_74 : decode c_R_find 74 = .ok (.aload_n 0, 1) := by decide +kernel
theorem d_R_find_75 : decode c_R_find 75 = .ok (.lload_n 1, 1) := by decide +kernel
theorem d_R_find_76 : decode c_R_find 76 = .ok (.aload_n 0, 1) := by decide +kernel
theorem d_R_find_77 : decode c_R_find 77 = .ok (.getfield 51, 3) := by decide +kernel
theorem d_R_find_80 : decode c_R_find 80 = .ok (.invokevirtual 46, 3) := by decide +kernel
theorem d_R_find_83 : decode c_R_find 83 = .ok (.putfield 57, 3) := by decide +kernel
theorem d_R_find_86 : decode c_R_find 86 = .ok (.return_, 1) := by decide +kernel
theorem d_R_minus_0 : decode c_R_minus 0 = .ok (.lload_n 1, 1) := by decide +kernel
theorem d_R_minus_1 : decode c_R_minus 1 = .ok (.lload_n 3, 1) := by decide +kernel
theorem d_R_minus_2 : decode c_R_minus 2 = .ok (.lsub, 1) := by decide +kernel
theorem d_R_minus_3 : decode c_R_minus 3 = .ok (.lstore 5, 2) := by decide +kernel
theorem d_R_minus_5 : decode c_R_minus 5 = .ok (.lload_n 1, 1) := by decide +kernel
theorem d_R_minus_6 : decode c_R_minus 6 = .ok (.lload_n 3, 1) := by decide +kernel
theorem d_R_minus_7 : decode c_R_minus 7 = .ok (.lxor, 1) := by decide +kernel
theorem d_R_minus_8 : decode c_R_minus 8 = .ok (.lload_n 1, 1) := by decide +kernel
theorem d_R_minus_9 : decode c_R_minus 9 = .ok (.lload 5, 2) := by decide +kernel
theorem d_R_minus_11 : decode c_R_minus 11 = .ok (.lxor, 1) := by decide +kernel
theorem d_R_minus_12 : decode c_R_minus 12 = .ok (.land, 1) := by decide +kernel
theorem d_R_minus_13 : decode c_R_minus 13 = .ok (.lconst 0, 1) := by decide +kernel
theorem d_R_minus_14 : decode c_R_minus 14 = .ok (.lcmp, 1) := by decide +kernel
theorem d_R_minus_15 : decode c_R_minus 15 = .ok (.ifCond .ge 8, 3) := by decide +kernel
theorem d_R_minus_18 : decode c_R_minus 18 = .ok (.aload_n 0, 1) := by decide +kernel
theorem d_R_minus_19 : decode c_R_minus 19 = .ok (.iconst 1, 1) := by decide +kernel
theorem d_R_minus_20 : decode c_R_minus 20 = .ok (.putfield 9, 3) := by decide +kernel
theorem d_R_minus_23 : decode c_R_minus 23 = .ok (.lload 5, 2) := by decide +kernel
theorem d_R_minus_25 : decode c_R_minus 25 = .ok (.lreturn, 1) := by decide +kernel
theorem d_D_init_0 : decode c_D_init 0 = .ok (.aload_n 0, 1) := by decide +kernel
theorem d_D_init_1 : decode c_D_init 1 = .ok (.invokespecial 3, 3) := by decide +kernel
theorem d_D_init_4 : decode c_D_init 4 = .ok (.return_, 1) := by decide +kernel
theorem d_P_init_0 : decode c_P_init 0 = .ok (.aload_n 0, 1) := by decide +kernel
theorem d_P_init_1 : decode c_P_init 1 = .ok (.invokespecial 3, 3) := by decide +kernel
theorem d_P_init_4 : decode c_P_init 4 = .ok (.aload_n 0, 1) := by decide +kernel
theorem d_P_init_5 : decode c_P_init 5 = .ok (.iload_n 1, 1) := by decide +kernel
theorem d_P_init_6 : decode c_P_init 6 = .ok (.putfield 9, 3) := by decide +kernel
theorem d_P_init_9 : decode c_P_init 9 = .ok (.aload_n 0, 1) := by decide +kernel
theorem d_P_init_10 : decode c_P_init 10 = .ok (.iload_n 2, 1) := by decide +kernel
theorem d_P_init_11 : decode c_P_init 11 = .ok (.putfield 15, 3) := by decide +kernel
theorem d_P_init_14 : decode c_P_init 14 = .ok (.aload_n 0, 1) := by decide +kernel
theorem d_P_init_15 : decode c_P_init 15 = .ok (.new 18, 3) := by decide +kernel
theorem d_P_init_18 : decode c_P_init 18 = .ok (.dup, 1) := by decide +kernel
theorem d_P_init_19 : decode c_P_init 19 = .ok (.invokespecial 20, 3) := by decide +kernel
theorem d_P_init_22 : decode c_P_init 22 = .ok (.putfield 21, 3) := by decide +kernel
theorem d_P_init_25 : decode c_P_init 25 = .ok (.aload_n 0, 1) := by decide +kernel
theorem d_P_init_26 : decode c_P_init 26 = .ok (.new 18, 3) := by decide +kernel
theorem d_P_init_29 : decode c_P_init 29 = .ok (.dup, 1) := by decide +kernel
theorem d_P_init_30 : decode c_P_init 30 = .ok (.invokespecial 20, 3) := by decide +kernel
theorem d_P_init_33 : decode c_P_init 33 = .ok (.putfield 25, 3) := by decide +kernel
theorem d_P_init_36 : decode c_P_init 36 = .ok (.aload_n 0, 1) := by decide +kernel
theorem d_P_init_37 : decode c_P_init 37 = .ok (.iconst 0, 1) := by decide +kernel
theorem d_P_init_38 : decode c_P_init 38 = .ok (.putfield 28, 3) := by decide +kernel
theorem d_P_init_41 : decode c_P_init 41 = .ok (.aload_n 0, 1) := by decide +kernel
theorem d_P_init_42 : decode c_P_init 42 = .ok (.iconst 0, 1) := by decide +kernel
theorem d_P_init_43 : decode c_P_init 43 = .ok (.putfield 32, 3) := by decide +kernel
theorem d_P_init_46 : decode c_P_init 46 = .ok (.aload_n 0, 1) := by decide +kernel
theorem d_P_init_47 : decode c_P_init 47 = .ok (.iconst 0, 1) := by decide +kernel
theorem d_P_init_48 : decode c_P_init 48 = .ok (.putfield 35, 3) := by decide +kernel
theorem d_P_init_51 : decode c_P_init 51 = .ok (.aload_n 0, 1) := by decide +kernel
theorem d_P_init_52 : decode c_P_init 52 = .ok (.aconst_null, 1) := by decide +kernel
theorem d_P_init_53 : decode c_P_init 53 = .ok (.putfield 38, 3) := by decide +kernel
theorem d_P_init_56 : decode c_P_init 56 = .ok (.return_, 1) := by decide +kernel
theorem d_D_setOwn_0 : decode c_D_setOwn 0 = .ok (.aload_n 0, 1) := by decide +kernel
theorem d_D_setOwn_1 : decode c_D_setOwn 1 = .ok (.iload_n 2, 1) := by decide +kernel
theorem d_D_setOwn_2 : decode c_D_setOwn 2 = .ok (.putfield 9, 3) := by decide +kernel
theorem d_D_setOwn_5 : decode c_D_setOwn 5 = .ok (.aload_n 0, 1) := by decide +kernel
theorem d_D_setOwn_6 : decode c_D_setOwn 6 = .ok (.iload_n 3, 1) := by decide +kernel
theorem d_D_setOwn_7 : decode c_D_setOwn 7 = .ok (.putfield 15, 3) := by decide +kernel
theorem d_D_setOwn_10 : decode c_D_setOwn 10 = .ok (.aload_n 0, 1) := by decide +kernel
theorem d_D_setOwn_11 : decode c_D_setOwn 11 = .ok (.iload 4, 2) := by decide +kernel
theorem d_D_setOwn_13 : decode c_D_setOwn 13 = .ok (.putfield 18, 3) := by decide +kernel
theorem d_D_setOwn_16 : decode c_D_setOwn 16 = .ok (.aload_n 0, 1) := by decide +kernel
theorem d_D_setOwn_17 : decode c_D_setOwn 17 = .ok (.iload_n 1, 1) := by decide +kernel
theorem d_D_setOwn_18 : decode c_D_setOwn 18 = .ok (.putfield 21, 3) := by decide +kernel
theorem d_D_setOwn_21 : decode c_D_setOwn 21 = .ok (.aload_n 0, 1) := by decide +kernel
theorem d_D_setOwn_22 : decode c_D_setOwn 22 = .ok (.iconst 0, 1) := by decide +kernel
theorem d_D_setOwn_23 : decode c_D_setOwn 23 = .ok (.putfield 24, 3) := by decide +kernel
theorem d_D_setOwn_26 : decode c_D_setOwn 26 = .ok (.aload_n 0, 1) := by decide +kernel
theorem d_D_setOwn_27 : decode c_D_setOwn 27 = .ok (.iload_n 1, 1) := by decide +kernel
theorem d_D_setOwn_28 : decode c_D_setOwn 28 = .ok (.putfield 27, 3) := by decide +kernel
theorem d_D_setOwn_31 : decode c_D_setOwn 31 = .ok (.aload_n 0, 1) := by decide +kernel
theorem d_D_setOwn_32 : decode c_D_setOwn 32 = .ok (.iconst (-1), 1) := by decide +kernel
theorem d_D_setOwn_33 : decode c_D_setOwn 33 = .ok (.putfield 30, 3) := by decide +kernel
theorem d_D_setOwn_36 : decode c_D_setOwn 36 = .ok (.aload_n 0, 1) := by decide +kernel
theorem d_D_setOwn_37 : decode c_D_setOwn 37 = .ok (.iconst (-1), 1) := by decide +kernel
theorem d_D_setOwn_38 : decode c_D_setOwn 38 = .ok (.putfield 33, 3) := by decide +kernel
theorem d_D_setOwn_41 : decode c_D_setOwn 41 = .ok (.return_, 1) := by decide +kernel
theorem d_K_init_0 : decode c_K_init 0 = .ok (.aload_n 0, 1) := by decide +kernel
theorem d_K_init_1 : decode c_K_init 1 = .ok (.invokespecial 1, 3) := by decide +kernel
theorem d_K_init_4 : decode c_K_init 4 = .ok (.aload_n 0, 1) := by decide +kernel
theorem d_K_init_5 : decode c_K_init 5 = .ok (.aload_n 1, 1) := by decide +kernel
theorem d_K_init_6 : decode c_K_init 6 = .ok (.putfield 7, 3) := by decide +kernel
theorem d_K_init_9 : decode c_K_init 9 = .ok (.aload_n 0, 1) := by decide +kernel
theorem d_K_init_10 : decode c_K_init 10 = .ok (.aload_n 2, 1) := by decide +kernel
theorem d_K_init_11 : decode c_K_init 11 = .ok (.putfield 13, 3) := by decide +kernel
theorem d_K_init_14 : decode c_K_init 14 = .ok (.aload_n 0, 1) := by decide +kernel
theorem d_K_init_15 : decode c_K_init 15 = .ok (.iload_n 3, 1) := by decide +kernel
theorem d_K_init_16 : decode c_K_init 16 = .ok (.putfield 16, 3) := by decide +kernel
theorem d_K_init_19 : decode c_K_init 19 = .ok (.aload_n 0, 1) := by decide +kernel
theorem d_K_init_20 : decode c_K_init 20 = .ok (.iload 4, 2) := by decide +kernel
theorem d_K_init_22 : decode c_K_init 22 = .ok (.putfield 20, 3) := by decide +kernel
theorem d_K_init_25 : decode c_K_init 25 = .ok (.aload_n 0, 1) := by decide +kernel
theorem d_K_init_26 : decode c_K_init 26 = .ok (.iconst 1, 1) := by decide +kernel
theorem d_K_init_27 : decode c_K_init 27 = .ok (.putfield 23, 3) := by decide +kernel
theorem d_K_init_30 : decode c_K_init 30 = .ok (.return_, 1) := by decide +kernel
end
section
theorem d_T_init_0 : decode c_T_init 0 = .ok (.aload_n 0, 1) := by decide +kernel
theorem d_T_init_1 : decode c_T_init 1 = .ok (.invokespecial 1, 3) := by decide +kernel
theorem d_T_init_4 : decode c_T_init 4 = .ok (.aload_n 0, 1) := by decide +kernel
theorem d_T_init_5 : decode c_T_init 5 = .ok (.bipush 10, 2) := by decide +kernel
theorem d_T_init_7 : decode c_T_init 7 = .ok (.anewarray 9, 3) := by decide +kernel
theorem d_T_init_10 : decode c_T_init 10 = .ok (.putfield 11, 3) := by decide +kernel
theorem d_T_init_13 : decode c_T_init 13 = .ok (.aload_n 0, 1) := by decide +kernel
theorem d_T_init_14 : decode c_T_init 14 = .ok (.bipush 16, 2) := by decide +kernel
theorem d_T_init_16 : decode c_T_init 16 = .ok (.anewarray 15, 3) := by decide +kernel
theorem d_T_init_19 : decode c_T_init 19 = .ok (.putfield 17, 3) := by decide +kernel
theorem d_T_init_22 : decode c_T_init 22 = .ok (.aload_n 0, 1) := by decide +kernel
theorem d_T_init_23 : decode c_T_init 23 = .ok (.new 21, 3) := by decide +kernel
theorem d_T_init_26 : decode c_T_init 26 = .ok (.dup, 1) := by decide +kernel
theorem d_T_init_27 : decode c_T_init 27 = .ok (.invokespecial 23, 3) := by decide +kernel
theorem d_T_init_30 : decode c_T_init 30 = .ok (.putfield 24, 3) := by decide +kernel
theorem d_T_init_33 : decode c_T_init 33 = .ok (.aload_n 0, 1) := by decide +kernel
theorem d_T_init_34 : decode c_T_init 34 = .ok (.iconst 0, 1) := by decide +kernel
theorem d_T_init_35 : decode c_T_init 35 = .ok (.putfield 28, 3) := by decide +kernel
theorem d_T_init_38 : decode c_T_init 38 = .ok (.aload_n 0, 1) := by decide +kernel
theorem d_T_init_39 : decode c_T_init 39 = .ok (.iconst 0, 1) := by decide +kernel
theorem d_T_init_40 : decode c_T_init 40 = .ok (.putfield 32, 3) := by decide +kernel
theorem d_T_init_43 : decode c_T_init 43 = .ok (.aload_n 0, 1) := by decide +kernel
theorem d_T_init_44 : decode c_T_init 44 = .ok (.iconst 0, 1) := by decide +kernel
theorem d_T_init_45 : decode c_T_init 45 = .ok (.putfield 35, 3) := by decide +kernel
theorem d_T_init_48 : decode c_T_init 48 = .ok (.return_, 1) := by decide +kernel
theorem d_T_settle_0 : decode c_T_settle 0 = .ok (.iconst 0, 1) := by decide +kernel
theorem d_T_settle_1 : decode c_T_settle 1 = .ok (.istore_n 1, 1) := by decide +kernel
theorem d_T_settle_2 : decode c_T_settle 2 = .ok (.aload_n 0, 1) := by decide +kernel
theorem d_T_settle_3 : decode c_T_settle 3 = .ok (.invokevirtual 119, 3) := by decide +kernel
theorem d_T_settle_6 : decode c_T_settle 6 = .ok (.pop, 1) := by decide +kernel
theorem d_T_settle_7 : decode c_T_settle 7 = .ok (.iinc 1 1, 3) := by decide +kernel
theorem d_T_settle_10 : decode c_T_settle 10 = .ok (.aload_n 0, 1) := by decide +kernel
theorem d_T_settle_11 : decode c_T_settle 11 = .ok (.getfield 35, 3) := by decide +kernel
theorem d_T_settle_14 : decode c_T_settle 14 = .ok (.ifCond .eq 9, 3) := by decide +kernel
theorem d_T_settle_17 : decode c_T_settle 17 = .ok (.iload_n 1, 1) := by decide +kernel
theorem d_T_settle_18 : decode c_T_settle 18 = .ok (.bipush 60, 2) := by decide +kernel
theorem d_T_settle_20 : decode c_T_settle 20 = .ok (.if_icmp .lt (-18), 3) := by decide +kernel
theorem d_T_settle_23 : decode c_T_settle 23 = .ok (.iload_n 1, 1) := by decide +kernel
theorem d_T_settle_24 : decode c_T_settle 24 = .ok (.ireturn, 1) := by decide +kernel
theorem d_T_playRound_0 : decode c_T_playRound 0 = .ok (.aload_n 0, 1) := by decide +kernel
theorem d_T_playRound_1 : decode c_T_playRound 1 = .ok (.iconst 0, 1) := by decide +kernel
theorem d_T_playRound_2 : decode c_T_playRound 2 = .ok (.putfield 35, 3) := by decide +kernel
theorem d_T_playRound_5 : decode c_T_playRound 5 = .ok (.iconst 0, 1) := by decide +kernel
theorem d_T_playRound_6 : decode c_T_playRound 6 = .ok (.istore_n 1, 1) := by decide +kernel
theorem d_T_playRound_7 : decode c_T_playRound 7 = .ok (.iconst 0, 1) := by decide +kernel
theorem d_T_playRound_8 : decode c_T_playRound 8 = .ok (.istore_n 2, 1) := by decide +kernel
theorem d_T_playRound_9 : decode c_T_playRound 9 = .ok (.iload_n 2, 1) := by decide +kernel
theorem d_T_playRound_10 : decode c_T_playRound 10 = .ok (.aload_n 0, 1) := by decide +kernel
theorem d_T_playRound_11 : decode c_T_playRound 11 = .ok (.getfield 28, 3) := by decide +kernel
theorem d_T_playRound_14 : decode c_T_playRound 14 = .ok (.if_icmp .ge 22, 3) := by decide +kernel
theorem d_T_playRound_17 : decode c_T_playRound 17 = .ok (.iload_n 1, 1) := by decide +kernel
theorem d_T_playRound_18 : decode c_T_playRound 18 = .ok (.aload_n 0, 1) := by decide +kernel
theorem d_T_playRound_19 : decode c_T_playRound 19 = .ok (.aload_n 0, 1) := by decide +kernel
theorem d_T_playRound_20 : decode c_T_playRound 20 = .ok (.getfield 11, 3) := by decide +kernel
theorem d_T_playRound_23 : decode c_T_playRound 23 = .ok (.iload_n 2, 1) := by decide +kernel
theorem d_T_playRound_24 : decode c_T_playRound 24 = .ok (.aaload, 1) := by decide +kernel
theorem d_T_playRound_25 : decode c_T_playRound 25 = .ok (.invokevirtual 181, 3) := by decide +kernel
theorem d_T_playRound_28 : decode c_T_playRound 28 = .ok (.iadd, 1) := by decide +kernel
theorem d_T_playRound_29 : decode c_T_playRound 29 = .ok (.istore_n 1, 1) := by decide +kernel
theorem d_T_playRound_30 : decode c_T_playRound 30 = .ok (.iinc 2 1, 3) := by decide +kernel
theorem d_T_playRound_33 : decode c_T_playRound 33 = .ok (.goto (-24), 3) := by decide +kernel
theorem d_T_playRound_36 : decode c_T_playRound 36 = .ok (.iconst 0, 1) := by decide +kernel
theorem d_T_playRound_37 : decode c_T_playRound 37 = .ok (.istore_n 2, 1) := by decide +kernel
theorem d_T_playRound_38 : decode c_T_playRound 38 = .ok (.iload_n 2, 1) := by decide +kernel
theorem d_T_playRound_39 : decode c_T_playRound 39 = .ok (.aload_n 0, 1) := by decide +kernel
theorem d_T_playRound_40 : decode c_T_playRound 40 = .ok (.getfield 28, 3) := by decide +kernel
theorem d_T_playRound_43 : decode c_T_playRound 43 = .ok (.if_icmp .ge 26, 3) := by decide +kernel
theorem d_T_playRound_46 : decode c_T_playRound 46 = .ok (.aload_n 0, 1) := by decide +kernel
theorem d_T_playRound_47 : decode c_T_playRound 47 = .ok (.getfield 11, 3) := by decide +kernel
theorem d_T_playRound_50 : decode c_T_playRound 50 = .ok (.iload_n 2, 1) := by decide +kernel
theorem d_T_playRound_51 : decode c_T_playRound 51 = .ok (.aaload, 1) := by decide +kernel
theorem d_T_playRound_52 : decode c_T_playRound 52 = .ok (.invokevirtual 74, 3) := by decide +kernel
theorem d_T_playRound_55 : decode c_T_playRound 55 = .ok (.ifCond .eq 8, 3) := by decide +kernel
theorem d_T_playRound_58 : decode c_T_playRound 58 = .ok (.aload_n 0, 1) := by decide +kernel
theorem d_T_playRound_59 : decode c_T_playRound 59 = .ok (.iconst 1, 1) := by decide +kernel
theorem d_T_playRound_60 : decode c_T_playRound 60 = .ok (.putfield 35, 3) := by decide +kernel
theorem d_T_playRound_63 : decode c_T_playRound 63 = .ok (.iinc 2 1, 3) := by decide +kernel
theorem d_T_playRound_66 : decode c_T_playRound 66 = .ok (.goto (-28), 3) := by decide +kernel
theorem d_T_playRound_69 : decode c_T_playRound 69 = .ok (.iload_n 1, 1) := by decide +kernel
theorem d_T_playRound_70 : decode c_T_playRound 70 = .ok (.ireturn, 1) := by decide +kernel
theorem d_T_hearAtPorts_0 : decode c_T_hearAtPorts 0 = .ok (.iconst 0, 1) := by decide +kernel
theorem d_T_hearAtPorts_1 : decode c_T_hearAtPorts 1 = .ok (.istore_n 2, 1) := by decide +kernel
theorem d_T_hearAtPorts_2 : decode c_T_hearAtPorts 2 = .ok (.iconst 0, 1) := by decide +kernel
theorem d_T_hearAtPorts_3 : decode c_T_hearAtPorts 3 = .ok (.istore_n 3, 1) := by decide +kernel
theorem d_T_hearAtPorts_4 : decode c_T_hearAtPorts 4 = .ok (.iload_n 3, 1) := by decide +kernel
theorem d_T_hearAtPorts_5 : decode c_T_hearAtPorts 5 = .ok (.iconst 4, 1) := by decide +kernel
theorem d_T_hearAtPorts_6 : decode c_T_hearAtPorts 6 = .ok (.if_icmp .ge 81, 3) := by decide +kernel
theorem d_T_hearAtPorts_9 : decode c_T_hearAtPorts 9 = .ok (.aload_n 1, 1) := by decide +kernel
theorem d_T_hearAtPorts_10 : decode c_T_hearAtPorts 10 = .ok (.getfield 177, 3) := by decide +kernel
theorem d_T_hearAtPorts_13 : decode c_T_hearAtPorts 13 = .ok (.iload_n 3, 1) := by decide +kernel
theorem d_T_hearAtPorts_14 : decode c_T_hearAtPorts 14 = .ok (.aaload, 1) := by decide +kernel
theorem d_T_hearAtPorts_15 : decode c_T_hearAtPorts 15 = .ok (.astore 4, 2) := by decide +kernel
theorem d_T_hearAtPorts_17 : decode c_T_hearAtPorts 17 = .ok (.aload 4, 2) := by decide +kernel
theorem d_T_hearAtPorts_19 : decode c_T_hearAtPorts 19 = .ok (.invokevirtual 185, 3) := by decide +kernel
theorem d_T_hearAtPorts_22 : decode c_T_hearAtPorts 22 = .ok (.astore 5, 2) := by decide +kernel
theorem d_T_hearAtPorts_24 : decode c_T_hearAtPorts 24 = .ok (.aload 5, 2) := by decide +kernel
theorem d_T_hearAtPorts_26 : decode c_T_hearAtPorts 26 = .ok (.ifnull 6, 3) := by decide +kernel
theorem d_T_hearAtPorts_29 : decode c_T_hearAtPorts 29 = .ok (.iinc 2 1, 3) := by decide +kernel
theorem d_T_hearAtPorts_32 : decode c_T_hearAtPorts 32 = .ok (.aload 5, 2) := by decide +kernel
theorem d_T_hearAtPorts_34 : decode c_T_hearAtPorts 34 = .ok (.ifnull 30, 3) := by decide +kernel
theorem d_T_hearAtPorts_37 : decode c_T_hearAtPorts 37 = .ok (.aload_n 1, 1) := by decide +kernel
theorem d_T_hearAtPorts_38 : decode c_T_hearAtPorts 38 = .ok (.aload 5, 2) := by decide +kernel
theorem d_T_hearAtPorts_40 : decode c_T_hearAtPorts 40 = .ok (.getfield 189, 3) := by decide +kernel
theorem d_T_hearAtPorts_43 : decode c_T_hearAtPorts 43 = .ok (.invokevirtual 192, 3) := by decide +kernel
theorem d_T_hearAtPorts_46 : decode c_T_hearAtPorts 46 = .ok (.ifCond .eq 18, 3) := by decide +kernel
theorem d_T_hearAtPorts_49 : decode c_T_hearAtPorts 49 = .ok (.aload 4, 2) := by decide +kernel
theorem d_T_hearAtPorts_51 : decode c_T_hearAtPorts 51 = .ok (.aload 5, 2) := by decide +kernel
theorem d_T_hearAtPorts_53 : decode c_T_hearAtPorts 53 = .ok (.getfield 189, 3) := by decide +kernel
theorem d_T_hearAtPorts_56 : decode c_T_hearAtPorts 56 = .ok (.invokevirtual 196, 3) := by decide +kernel
theorem d_T_hearAtPorts_59 : decode c_T_hearAtPorts 59 = .ok (.istore 6, 2) := by decide +kernel
theorem d_T_hearAtPorts_61 : decode c_T_hearAtPorts 61 = .ok (.goto 10, 3) := by decide +kernel
theorem d_T_hearAtPorts_64 : decode c_T_hearAtPorts 64 = .ok (.aload 4, 2) := by decide +kernel
theorem d_T_hearAtPorts_66 : decode c_T_hearAtPorts 66 = .ok (.invokevirtual 199, 3) := by decide +kernel
theorem d_T_hearAtPorts_69 : decode c_T_hearAtPorts 69 = .ok (.istore 6, 2) := by decide +kernel
theorem d_T_hearAtPorts_71 : decode c_T_hearAtPorts 71 = .ok (.iload 6, 2) := by decide +kernel
theorem d_T_hearAtPorts_73 : decode c_T_hearAtPorts 73 = .ok (.ifCond .eq 8, 3) := by decide +kernel
theorem d_T_hearAtPorts_76 : decode c_T_hearAtPorts 76 = .ok (.aload_n 0, 1) := by decide +kernel
theorem d_T_hearAtPorts_77 : decode c_T_hearAtPorts 77 = .ok (.iconst 1, 1) := by decide +kernel
theorem d_T_hearAtPorts_78 : decode c_T_hearAtPorts 78 = .ok (.putfield 35, 3) := by decide +kernel
theorem d_T_hearAtPorts_81 : decode c_T_hearAtPorts 81 = .ok (.iinc 3 1, 3) := by decide +kernel
theorem d_T_hearAtPorts_84 : decode c_T_hearAtPorts 84 = .ok (.goto (-80), 3) := by decide +kernel
theorem d_T_hearAtPorts_87 : decode c_T_hearAtPorts 87 = .ok (.iload_n 2, 1) := by decide +kernel
theorem d_T_hearAtPorts_88 : decode c_T_hearAtPorts 88 = .ok (.ireturn, 1) := by decide +kernel
theorem d_N_accepts_0 : decode c_N_accepts 0 = .ok (.aload_n 1, 1) := by decide +kernel
theorem d_N_accepts_1 : decode c_N_accepts 1 = .ok (.getfield 43, 3) := by decide +kernel
theorem d_N_accepts_4 : decode c_N_accepts 4 = .ok (.bipush 15, 2) := by decide +kernel
theorem d_N_accepts_6 : decode c_N_accepts 6 = .ok (.if_icmp .ge 21, 3) := by decide +kernel
theorem d_N_accepts_9 : decode c_N_accepts 9 = .ok (.aload_n 1, 1) := by decide +kernel
theorem d_N_accepts_10 : decode c_N_accepts 10 = .ok (.getfield 46, 3) := by decide +kernel
theorem d_N_accepts_13 : decode c_N_accepts 13 = .ok (.aload_n 0, 1) := by decide +kernel
theorem d_N_accepts_14 : decode c_N_accepts 14 = .ok (.getfield 27, 3) := by decide +kernel
theorem d_N_accepts_17 : decode c_N_accepts 17 = .ok (.getfield 46, 3) := by decide +kernel
theorem d_N_accepts_20 : decode c_N_accepts 20 = .ok (.if_icmp .eq 7, 3) := by decide +kernel
theorem d_N_accepts_23 : decode c_N_accepts 23 = .ok (.iconst 1, 1) := by decide +kernel
theorem d_N_accepts_24 : decode c_N_accepts 24 = .ok (.goto 4, 3) := by decide +kernel
theorem d_N_accepts_27 : decode c_N_accepts 27 = .ok (.iconst 0, 1) := by decide +kernel
theorem d_N_accepts_28 : decode c_N_accepts 28 = .ok (.ireturn, 1) := by decide +kernel
theorem d_N_findStates_0 : decode c_N_findStates 0 = .ok (.aload_n 0, 1) := by decide +kernel
theorem d_N_findStates_1 : decode c_N_findStates 1 = .ok (.aload_n 0, 1) := by decide +kernel
theorem d_N_findStates_2 : decode c_N_findStates 2 = .ok (.invokevirtual 49, 3) := by decide +kernel
theorem d_N_findStates_5 : decode c_N_findStates 5 = .ok (.putfield 31, 3) := by decide +kernel
theorem d_N_findStates_8 : decode c_N_findStates 8 = .ok (.iconst 0, 1) := by decide +kernel
theorem d_N_findStates_9 : decode c_N_findStates 9 = .ok (.istore_n 1, 1) := by decide +kernel
theorem d_N_findStates_10 : decode c_N_findStates 10 = .ok (.iconst 0, 1) := by decide +kernel
theorem d_N_findStates_11 : decode c_N_findStates 11 = .ok (.istore_n 2, 1) := by decide +kernel
theorem d_N_findStates_12 : decode c_N_findStates 12 = .ok (.iload_n 2, 1) := by decide +kernel
theorem d_N_findStates_13 : decode c_N_findStates 13 = .ok (.iconst 4, 1) := by decide +kernel
theorem d_N_findStates_14 : decode c_N_findStates 14 = .ok (.if_icmp .ge 55, 3) := by decide +kernel
theorem d_N_findStates_17 : decode c_N_findStates 17 = .ok (.aload_n 0, 1) := by decide +kernel
theorem d_N_findStates_18 : decode c_N_findStates 18 = .ok (.getfield 36, 3) := by decide +kernel
theorem d_N_findStates_21 : decode c_N_findStates 21 = .ok (.iload_n 2, 1) := by decide +kernel
theorem d_N_findStates_22 : decode c_N_findStates 22 = .ok (.aaload, 1) := by decide +kernel
theorem d_N_findStates_23 : decode c_N_findStates 23 = .ok (.astore_n 3, 1) := by decide +kernel
theorem d_N_findStates_24 : decode c_N_findStates 24 = .ok (.aload_n 3, 1) := by decide +kernel
theorem d_N_findStates_25 : decode c_N_findStates 25 = .ok (.aload_n 0, 1) := by decide +kernel
theorem d_N_findStates_26 : decode c_N_findStates 26 = .ok (.getfield 31, 3) := by decide +kernel
theorem d_N_findStates_29 : decode c_N_findStates 29 = .ok (.aload_n 0, 1) := by decide +kernel
theorem d_N_findStates_30 : decode c_N_findStates 30 = .ok (.getfield 27, 3) := by decide +kernel
theorem d_N_findStates_33 : decode c_N_findStates 33 = .ok (.invokevirtual 53, 3) := by decide +kernel
theorem d_N_findStates_36 : decode c_N_findStates 36 = .ok (.aload_n 3, 1) := by decide +kernel
theorem d_N_findStates_37 : decode c_N_findStates 37 = .ok (.aload_n 0, 1) := by decide +kernel
theorem d_N_findStates_38 : decode c_N_findStates 38 = .ok (.getfield 31, 3) := by decide +kernel
theorem d_N_findStates_41 : decode c_N_findStates 41 = .ok (.invokevirtual 57, 3) := by decide +kernel
theorem d_N_findStates_44 : decode c_N_findStates 44 = .ok (.istore 4, 2) := by decide +kernel
theorem d_N_findStates_46 : decode c_N_findStates 46 = .ok (.iload 4, 2) := by decide +kernel
theorem d_N_findStates_48 : decode c_N_findStates 48 = .ok (.aload_n 3, 1) := by decide +kernel
theorem d_N_findStates_49 : decode c_N_findStates 49 = .ok (.getfield 61, 3) := by decide +kernel
theorem d_N_findStates_52 : decode c_N_findStates 52 = .ok (.if_icmp .eq 5, 3) := by decide +kernel
theorem d_N_findStates_55 : decode c_N_findStates 55 = .ok (.iconst 1, 1) := by decide +kernel
theorem d_N_findStates_56 : decode c_N_findStates 56 = .ok (.istore_n 1, 1) := by decide +kernel
theorem d_N_findStates_57 : decode c_N_findStates 57 = .ok (.aload_n 3, 1) := by decide +kernel
theorem d_N_findStates_58 : decode c_N_findStates 58 = .ok (.iload 4, 2) := by decide +kernel
theorem d_N_findStates_60 : decode c_N_findStates 60 = .ok (.putfield 61, 3) := by decide +kernel
theorem d_N_findStates_63 : decode c_N_findStates 63 = .ok (.iinc 2 1, 3) := by decide +kernel
theorem d_N_findStates_66 : decode c_N_findStates 66 = .ok (.goto (-54), 3) := by decide +kernel
theorem d_N_findStates_69 : decode c_N_findStates 69 = .ok (.iload_n 1, 1) := by decide +kernel
theorem d_N_findStates_70 : decode c_N_findStates 70 = .ok (.ireturn, 1) := by decide +kernel
theorem d_N_findBest_0 : decode c_N_findBest 0 = .ok (.aload_n 0, 1) := by decide +kernel
theorem d_N_findBest_1 : decode c_N_findBest 1 = .ok (.getfield 27, 3) := by decide +kernel
theorem d_N_findBest_4 : decode c_N_findBest 4 = .ok (.astore_n 1, 1) := by decide +kernel
theorem d_N_findBest_5 : decode c_N_findBest 5 = .ok (.iconst 0, 1) := by decide +kernel
theorem d_N_findBest_6 : decode c_N_findBest 6 = .ok (.istore_n 2, 1) := by decide +kernel
theorem d_N_findBest_7 : decode c_N_findBest 7 = .ok (.iload_n 2, 1) := by decide +kernel
theorem d_N_findBest_8 : decode c_N_findBest 8 = .ok (.iconst 4, 1) := by decide +kernel
theorem d_N_findBest_9 : decode c_N_findBest 9 = .ok (.if_icmp .ge 47, 3) := by decide +kernel
theorem d_N_findBest_12 : decode c_N_findBest 12 = .ok (.aload_n 0, 1) := by decide +kernel
theorem d_N_findBest_13 : decode c_N_findBest 13 = .ok (.getfield 36, 3) := by decide +kernel
theorem d_N_findBest_16 : decode c_N_findBest 16 = .ok (.iload_n 2, 1) := by decide +kernel
theorem d_N_findBest_17 : decode c_N_findBest 17 = .ok (.aaload, 1) := by decide +kernel
theorem d_N_findBest_18 : decode c_N_findBest 18 = .ok (.getfield 64, 3) := by decide +kernel
theorem d_N_findBest_21 : decode c_N_findBest 21 = .ok (.ifCond .eq 29, 3) := by decide +kernel
theorem d_N_findBest_24 : decode c_N_findBest 24 = .ok (.aload_n 0, 1) := by decide +kernel
theorem d_N_findBest_25 : decode c_N_findBest 25 = .ok (.getfield 36, 3) := by decide +kernel
theorem d_N_findBest_28 : decode c_N_findBest 28 = .ok (.iload_n 2, 1) := by decide +kernel
theorem d_N_findBest_29 : decode c_N_findBest 29 = .ok (.aaload, 1) := by decide +kernel
theorem d_N_findBest_30 : decode c_N_findBest 30 = .ok (.getfield 68, 3) := by decide +kernel
theorem d_N_findBest_33 : decode c_N_findBest 33 = .ok (.aload_n 1, 1) := by decide +kernel
theorem d_N_findBest_34 : decode c_N_findBest 34 = .ok (.invokevirtual 71, 3) := by decide +kernel
theorem d_N_findBest_37 : decode c_N_findBest 37 = .ok (.ifCond .eq 13, 3) := by decide +kernel
theorem d_N_findBest_40 : decode c_N_findBest 40 = .ok (.aload_n 0, 1) := by decide +kernel
theorem d_N_findBest_41 : decode c_N_findBest 41 = .ok (.getfield 36, 3) := by decide +kernel
theorem d_N_findBest_44 : decode c_N_findBest 44 = .ok (.iload_n 2, 1) := by decide +kernel
theorem d_N_findBest_45 : decode c_N_findBest 45 = .ok (.aaload, 1) := by decide +kernel
theorem d_N_findBest_46 : decode c_N_findBest 46 = .ok (.getfield 68, 3) := by decide +kernel
theorem d_N_findBest_49 : decode c_N_findBest 49 = .ok (.astore_n 1, 1) := by decide +kernel
theorem d_N_findBest_50 : decode c_N_findBest 50 = .ok (.iinc 2 1, 3) := by decide +kernel
theorem d_N_findBest_53 : decode c_N_findBest 53 = .ok (.goto (-46), 3) := by decide +kernel
theorem d_N_findBest_56 : decode c_N_findBest 56 = .ok (.aload_n 1, 1) := by decide +kernel
theorem d_N_findBest_57 : decode c_N_findBest 57 = .ok (.areturn, 1) := by decide +kernel
theorem d_T_discipline_0 : decode c_T_discipline 0 = .ok (.iconst 0, 1) := by decide +kernel
theorem d_T_discipline_1 : decode c_T_discipline 1 = .ok (.istore_n 3, 1) := by decide +kernel
theorem d_T_discipline_2 : decode c_T_discipline 2 = .ok (.iconst 0, 1) := by decide +kernel
theorem d_T_discipline_3 : decode c_T_discipline 3 = .ok (.istore 4, 2) := by decide +kernel
theorem d_T_discipline_5 : decode c_T_discipline 5 = .ok (.iload 4, 2) := by decide +kernel
theorem d_T_discipline_7 : decode c_T_discipline 7 = .ok (.bipush 15, 2) := by decide +kernel
theorem d_T_discipline_9 : decode c_T_discipline 9 = .ok (.if_icmp .ge 63, 3) := by decide +kernel
theorem d_T_discipline_12 : decode c_T_discipline 12 = .ok (.iconst 0, 1) := by decide +kernel
theorem d_T_discipline_13 : decode c_T_discipline 13 = .ok (.istore 5, 2) := by decide +kernel
theorem d_T_discipline_15 : decode c_T_discipline 15 = .ok (.iload 5, 2) := by decide +kernel
theorem d_T_discipline_17 : decode c_T_discipline 17 = .ok (.aload_n 0, 1) := by decide +kernel
theorem d_T_discipline_18 : decode c_T_discipline 18 = .ok (.getfield 28, 3) := by decide +kernel
theorem d_T_discipline_21 : decode c_T_discipline 21 = .ok (.if_icmp .ge 45, 3) := by decide +kernel
theorem d_T_discipline_24 : decode c_T_discipline 24 = .ok (.aload_n 0, 1) := by decide +kernel
theorem d_T_discipline_25 : decode c_T_discipline 25 = .ok (.getfield 11, 3) := by decide +kernel
theorem d_T_discipline_28 : decode c_T_discipline 28 = .ok (.iload 5, 2) := by decide +kernel
theorem d_T_discipline_30 : decode c_T_discipline 30 = .ok (.aaload, 1) := by decide +kernel
theorem d_T_discipline_31 : decode c_T_discipline 31 = .ok (.getfield 126, 3) := by decide +kernel
theorem d_T_discipline_34 : decode c_T_discipline 34 = .ok (.getfield 132, 3) := by decide +kernel
theorem d_T_discipline_37 : decode c_T_discipline 37 = .ok (.iload 4, 2) := by decide +kernel
theorem d_T_discipline_39 : decode c_T_discipline 39 = .ok (.if_icmp .ne 21, 3) := by decide +kernel
theorem d_T_discipline_42 : decode c_T_discipline 42 = .ok (.aload_n 0, 1) := by decide +kernel
theorem d_T_discipline_43 : decode c_T_discipline 43 = .ok (.aload_n 0, 1) := by decide +kernel
theorem d_T_discipline_44 : decode c_T_discipline 44 = .ok (.getfield 11, 3) := by decide +kernel
theorem d_T_discipline_47 : decode c_T_discipline 47 = .ok (.iload 5, 2) := by decide +kernel
theorem d_T_discipline_49 : decode c_T_discipline 49 = .ok (.aaload, 1) := by decide +kernel
theorem d_T_discipline_50 : decode c_T_discipline 50 = .ok (.lload_n 1, 1) := by decide +kernel
theorem d_T_discipline_51 : decode c_T_discipline 51 = .ok (.invokevirtual 169, 3) := by decide +kernel
theorem d_T_discipline_54 : decode c_T_discipline 54 = .ok (.ifCond .eq 6, 3) := by decide +kernel
theorem d_T_discipline_57 : decode c_T_discipline 57 = .ok (.iinc 3 1, 3) := by decide +kernel
theorem d_T_discipline_60 : decode c_T_discipline 60 = .ok (.iinc 5 1, 3) := by decide +kernel
theorem d_T_discipline_63 : decode c_T_discipline 63 = .ok (.goto (-48), 3) := by decide +kernel
theorem d_T_discipline_66 : decode c_T_discipline 66 = .ok (.iinc 4 1, 3) := by decide +kernel
theorem d_T_discipline_69 : decode c_T_discipline 69 = .ok (.goto (-64), 3) := by decide +kernel
theorem d_T_discipline_72 : decode c_T_discipline 72 = .ok (.iload_n 3, 1) := by decide +kernel
theorem d_T_discipline_73 : decode c_T_discipline 73 = .ok (.ireturn, 1) := by decide +kernel
theorem d_T_setsClock_0 : decode c_T_setsClock 0 = .ok (.aload_n 1, 1) := by decide +kernel
theorem d_T_setsClock_1 : decode c_T_setsClock 1 = .ok (.invokestatic 144, 3) := by decide +kernel
theorem d_T_setsClock_4 : decode c_T_setsClock 4 = .ok (.astore 4, 2) := by decide +kernel
theorem d_T_setsClock_6 : decode c_T_setsClock 6 = .ok (.aload 4, 2) := by decide +kernel
theorem d_T_setsClock_8 : decode c_T_setsClock 8 = .ok (.ifnull 20, 3) := by decide +kernel
theorem d_T_setsClock_11 : decode c_T_setsClock 11 = .ok (.aload_n 0, 1) := by decide +kernel
theorem d_T_setsClock_12 : decode c_T_setsClock 12 = .ok (.aload_n 1, 1) := by decide +kernel
theorem d_T_setsClock_13 : decode c_T_setsClock 13 = .ok (.aload 4, 2) := by decide +kernel
theorem d_T_setsClock_15 : decode c_T_setsClock 15 = .ok (.lload_n 2, 1) := by decide +kernel
theorem d_T_setsClock_16 : decode c_T_setsClock 16 = .ok (.iconst 0, 1) := by decide +kernel
theorem d_T_setsClock_17 : decode c_T_setsClock 17 = .ok (.iconst 0, 1) := by decide +kernel
theorem d_T_setsClock_18 : decode c_T_setsClock 18 = .ok (.invokevirtual 150, 3) := by decide +kernel
theorem d_T_setsClock_21 : decode c_T_setsClock 21 = .ok (.ifCond .eq 7, 3) := by decide +kernel
theorem d_T_setsClock_24 : decode c_T_setsClock 24 = .ok (.iconst 1, 1) := by decide +kernel
theorem d_T_setsClock_25 : decode c_T_setsClock 25 = .ok (.goto 4, 3) := by decide +kernel
theorem d_T_setsClock_28 : decode c_T_setsClock 28 = .ok (.iconst 0, 1) := by decide +kernel
theorem d_T_setsClock_29 : decode c_T_setsClock 29 = .ok (.ireturn, 1) := by decide +kernel
theorem d_T_openSlaveOf_0 : decode c_T_openSlaveOf 0 = .ok (.aload_n 0, 1) := by decide +kernel
theorem d_T_openSlaveOf_1 : decode c_T_openSlaveOf 1 = .ok (.getfield 126, 3) := by decide +kernel
theorem d_T_openSlaveOf_4 : decode c_T_openSlaveOf 4 = .ok (.getfield 202, 3) := by decide +kernel
theorem d_T_openSlaveOf_7 : decode c_T_openSlaveOf 7 = .ok (.istore_n 1, 1) := by decide +kernel
theorem d_T_openSlaveOf_8 : decode c_T_openSlaveOf 8 = .ok (.iload_n 1, 1) := by decide +kernel
theorem d_T_openSlaveOf_9 : decode c_T_openSlaveOf 9 = .ok (.ifCond .lt 8, 3) := by decide +kernel
theorem d_T_openSlaveOf_12 : decode c_T_openSlaveOf 12 = .ok (.iload_n 1, 1) := by decide +kernel
theorem d_T_openSlaveOf_13 : decode c_T_openSlaveOf 13 = .ok (.iconst 4, 1) := by decide +kernel
theorem d_T_openSlaveOf_14 : decode c_T_openSlaveOf 14 = .ok (.if_icmp .lt 5, 3) := by decide +kernel
theorem d_T_openSlaveOf_17 : decode c_T_openSlaveOf 17 = .ok (.aconst_null, 1) := by decide +kernel
theorem d_T_openSlaveOf_18 : decode c_T_openSlaveOf 18 = .ok (.areturn, 1) := by decide +kernel
theorem d_T_openSlaveOf_19 : decode c_T_openSlaveOf 19 = .ok (.aload_n 0, 1) := by decide +kernel
theorem d_T_openSlaveOf_20 : decode c_T_openSlaveOf 20 = .ok (.getfield 177, 3) := by decide +kernel
theorem d_T_openSlaveOf_23 : decode c_T_openSlaveOf 23 = .ok (.iload_n 1, 1) := by decide +kernel
theorem d_T_openSlaveOf_24 : decode c_T_openSlaveOf 24 = .ok (.aaload, 1) := by decide +kernel
theorem d_T_openSlaveOf_25 : decode c_T_openSlaveOf 25 = .ok (.astore_n 2, 1) := by decide +kernel
theorem d_T_openSlaveOf_26 : decode c_T_openSlaveOf 26 = .ok (.aload_n 2, 1) := by decide +kernel
theorem d_T_openSlaveOf_27 : decode c_T_openSlaveOf 27 = .ok (.getfield 92, 3) := by decide +kernel
theorem d_T_openSlaveOf_30 : decode c_T_openSlaveOf 30 = .ok (.ifnull 17, 3) := by decide +kernel
theorem d_T_openSlaveOf_33 : decode c_T_openSlaveOf 33 = .ok (.aload_n 2, 1) := by decide +kernel
theorem d_T_openSlaveOf_34 : decode c_T_openSlaveOf 34 = .ok (.getfield 92, 3) := by decide +kernel
theorem d_T_openSlaveOf_37 : decode c_T_openSlaveOf 37 = .ok (.getfield 105, 3) := by decide +kernel
theorem d_T_openSlaveOf_40 : decode c_T_openSlaveOf 40 = .ok (.ifCond .eq 7, 3) := by decide +kernel
theorem d_T_openSlaveOf_43 : decode c_T_openSlaveOf 43 = .ok (.aload_n 2, 1) := by decide +kernel
theorem d_T_openSlaveOf_44 : decode c_T_openSlaveOf 44 = .ok (.goto 4, 3) := by decide +kernel
theorem d_T_openSlaveOf_47 : decode c_T_openSlaveOf 47 = .ok (.aconst_null, 1) := by decide +kernel
theorem d_T_openSlaveOf_48 : decode c_T_openSlaveOf 48 = .ok (.areturn, 1) := by decide +kernel
theorem d_T_setClock_0 : decode c_T_setClock 0 = .ok (.aload_n 2, 1) := by decide +kernel
theorem d_T_setClock_1 : decode c_T_setClock 1 = .ok (.getfield 92, 3) := by decide +kernel
theorem d_T_setClock_4 : decode c_T_setClock 4 = .ok (.astore 7, 2) := by decide +kernel
theorem d_T_setClock_6 : decode c_T_setClock 6 = .ok (.aload_n 0, 1) := by decide +kernel
theorem d_T_setClock_7 : decode c_T_setClock 7 = .ok (.getfield 11, 3) := by decide +kernel
theorem d_T_setClock_10 : decode c_T_setClock 10 = .ok (.aload 7, 2) := by decide +kernel
theorem d_T_setClock_12 : decode c_T_setClock 12 = .ok (.aload_n 2, 1) := by decide +kernel
theorem d_T_setClock_13 : decode c_T_setClock 13 = .ok (.invokevirtual 205, 3) := by decide +kernel
theorem d_T_setClock_16 : decode c_T_setClock 16 = .ok (.getfield 209, 3) := by decide +kernel
theorem d_T_setClock_19 : decode c_T_setClock 19 = .ok (.aaload, 1) := by decide +kernel
theorem d_T_setClock_20 : decode c_T_setClock 20 = .ok (.astore 8, 2) := by decide +kernel
theorem d_T_setClock_22 : decode c_T_setClock 22 = .ok (.aload_n 0, 1) := by decide +kernel
theorem d_T_setClock_23 : decode c_T_setClock 23 = .ok (.getfield 24, 3) := by decide +kernel
theorem d_T_setClock_26 : decode c_T_setClock 26 = .ok (.lload_n 3, 1) := by decide +kernel
theorem d_T_setClock_27 : decode c_T_setClock 27 = .ok (.aload 7, 2) := by decide +kernel
theorem d_T_setClock_29 : decode c_T_setClock 29 = .ok (.aload_n 2, 1) := by decide +kernel
theorem d_T_setClock_30 : decode c_T_setClock 30 = .ok (.invokevirtual 212, 3) := by decide +kernel
theorem d_T_setClock_33 : decode c_T_setClock 33 = .ok (.iload 5, 2) := by decide +kernel
theorem d_T_setClock_35 : decode c_T_setClock 35 = .ok (.iadd, 1) := by decide +kernel
theorem d_T_setClock_36 : decode c_T_setClock 36 = .ok (.aload 7, 2) := by decide +kernel
theorem d_T_setClock_38 : decode c_T_setClock 38 = .ok (.aload_n 2, 1) := by decide +kernel
theorem d_T_setClock_39 : decode c_T_setClock 39 = .ok (.invokevirtual 216, 3) := by decide +kernel
theorem d_T_setClock_42 : decode c_T_setClock 42 = .ok (.iload 6, 2) := by decide +kernel
theorem d_T_setClock_44 : decode c_T_setClock 44 = .ok (.iadd, 1) := by decide +kernel
theorem d_T_setClock_45 : decode c_T_setClock 45 = .ok (.invokevirtual 219, 3) := by decide +kernel
theorem d_T_setClock_48 : decode c_T_setClock 48 = .ok (.aload_n 0, 1) := by decide +kernel
theorem d_T_setClock_49 : decode c_T_setClock 49 = .ok (.getfield 24, 3) := by decide +kernel
theorem d_T_setClock_52 : decode c_T_setClock 52 = .ok (.aload 8, 2) := by decide +kernel
theorem d_T_setClock_54 : decode c_T_setClock 54 = .ok (.getfield 166, 3) := by decide +kernel
theorem d_T_setClock_57 : decode c_T_setClock 57 = .ok (.aload_n 1, 1) := by decide +kernel
theorem d_T_setClock_58 : decode c_T_setClock 58 = .ok (.getfield 166, 3) := by decide +kernel
theorem d_T_setClock_61 : decode c_T_setClock 61 = .ok (.invokevirtual 223, 3) := by decide +kernel
theorem d_T_setClock_64 : decode c_T_setClock 64 = .ok (.aload_n 0, 1) := by decide +kernel
theorem d_T_setClock_65 : decode c_T_setClock 65 = .ok (.getfield 24, 3) := by decide +kernel
theorem d_T_setClock_68 : decode c_T_setClock 68 = .ok (.aload_n 1, 1) := by decide +kernel
theorem d_T_setClock_69 : decode c_T_setClock 69 = .ok (.getfield 166, 3) := by decide +kernel
theorem d_T_setClock_72 : decode c_T_setClock 72 = .ok (.iload 5, 2) := by decide +kernel
theorem d_T_setClock_74 : decode c_T_setClock 74 = .ok (.iload 6, 2) := by decide +kernel
theorem d_T_setClock_76 : decode c_T_setClock 76 = .ok (.invokevirtual 227, 3) := by decide +kernel
theorem d_T_setClock_79 : decode c_T_setClock 79 = .ok (.aload_n 0, 1) := by decide +kernel
theorem d_T_setClock_80 : decode c_T_setClock 80 = .ok (.getfield 24, 3) := by decide +kernel
theorem d_T_setClock_83 : decode c_T_setClock 83 = .ok (.getfield 230, 3) := by decide +kernel
theorem d_T_setClock_86 : decode c_T_setClock 86 = .ok (.ifCond .eq 5, 3) := by decide +kernel
theorem d_T_setClock_89 : decode c_T_setClock 89 = .ok (.iconst 0, 1) := by decide +kernel
theorem d_T_setClock_90 : decode c_T_setClock 90 = .ok (.ireturn, 1) := by decide +kernel
theorem d_T_setClock_91 : decode c_T_setClock 91 = .ok (.aload_n 1, 1) := by decide +kernel
theorem d_T_setClock_92 : decode c_T_setClock 92 = .ok (.aload_n 0, 1) := by decide +kernel
theorem d_T_setClock_93 : decode c_T_setClock 93 = .ok (.getfield 24, 3) := by decide +kernel
theorem d_T_setClock_96 : decode c_T_setClock 96 = .ok (.getfield 233, 3) := by decide +kernel
theorem d_T_setClock_99 : decode c_T_setClock 99 = .ok (.putfield 166, 3) := by decide +kernel
theorem d_T_setClock_102 : decode c_T_setClock 102 = .ok (.aload_n 1, 1) := by decide +kernel
theorem d_T_setClock_103 : decode c_T_setClock 103 = .ok (.aload_n 0, 1) := by decide +kernel
theorem d_T_setClock_104 : decode c_T_setClock 104 = .ok (.getfield 24, 3) := by decide +kernel
theorem d_T_setClock_107 : decode c_T_setClock 107 = .ok (.getfield 236, 3) := by decide +kernel
theorem d_T_setClock_110 : decode c_T_setClock 110 = .ok (.putfield 163, 3) := by decide +kernel
theorem d_T_setClock_113 : decode c_T_setClock 113 = .ok (.iconst 1, 1) := by decide +kernel
theorem d_T_setClock_114 : decode c_T_setClock 114 = .ok (.ireturn, 1) := by decide +kernel
theorem d_T_node_0 : decode c_T_node 0 = .ok (.iload_n 1, 1) := by decide +kernel
theorem d_T_node_1 : decode c_T_node 1 = .ok (.sipush 9999, 3) := by decide +kernel
theorem d_T_node_4 : decode c_T_node 4 = .ok (.invokestatic 39, 3) := by decide +kernel
theorem d_T_node_7 : decode c_T_node 7 = .ok (.ifCond .eq 34, 3) := by decide +kernel
theorem d_T_node_10 : decode c_T_node 10 = .ok (.iload_n 2, 1) := by decide +kernel
theorem d_T_node_11 : decode c_T_node 11 = .ok (.sipush 255, 3) := by decide +kernel
theorem d_T_node_14 : decode c_T_node 14 = .ok (.invokestatic 39, 3) := by decide +kernel
theorem d_T_node_17 : decode c_T_node 17 = .ok (.ifCond .eq 24, 3) := by decide +kernel
theorem d_T_node_20 : decode c_T_node 20 = .ok (.iload_n 3, 1) := by decide +kernel
theorem d_T_node_21 : decode c_T_node 21 = .ok (.sipush 255, 3) := by decide +kernel
theorem d_T_node_24 : decode c_T_node 24 = .ok (.invokestatic 39, 3) := by decide +kernel
theorem d_T_node_27 : decode c_T_node 27 = .ok (.ifCond .eq 14, 3) := by decide +kernel
theorem d_T_node_30 : decode c_T_node 30 = .ok (.iload 4, 2) := by decide +kernel
theorem d_T_node_32 : decode c_T_node 32 = .ok (.sipush 255, 3) := by decide +kernel
theorem d_T_node_35 : decode c_T_node 35 = .ok (.invokestatic 39, 3) := by decide +kernel
theorem d_T_node_38 : decode c_T_node 38 = .ok (.ifCond .ne 13, 3) := by decide +kernel
theorem d_T_node_41 : decode c_T_node 41 = .ok (.new 43, 3) := by decide +kernel
theorem d_T_node_44 : decode c_T_node 44 = .ok (.dup, 1) := by decide +kernel
theorem d_T_node_45 : decode c_T_node 45 = .ok (.ldc 45, 2) := by decide +kernel
theorem d_T_node_47 : decode c_T_node 47 = .ok (.invokespecial 47, 3) := by decide +kernel
theorem d_T_node_50 : decode c_T_node 50 = .ok (.athrow, 1) := by decide +kernel
theorem d_T_node_51 : decode c_T_node 51 = .ok (.aload_n 0, 1) := by decide +kernel
theorem d_T_node_52 : decode c_T_node 52 = .ok (.iload_n 1, 1) := by decide +kernel
theorem d_T_node_53 : decode c_T_node 53 = .ok (.invokevirtual 50, 3) := by decide +kernel
theorem d_T_node_56 : decode c_T_node 56 = .ok (.ifCond .eq 13, 3) := by decide +kernel
theorem d_T_node_59 : decode c_T_node 59 = .ok (.new 43, 3) := by decide +kernel
theorem d_T_node_62 : decode c_T_node 62 = .ok (.dup, 1) := by decide +kernel
theorem d_T_node_63 : decode c_T_node 63 = .ok (.ldc 54, 2) := by decide +kernel
theorem d_T_node_65 : decode c_T_node 65 = .ok (.invokespecial 47, 3) := by decide +kernel
theorem d_T_node_68 : decode c_T_node 68 = .ok (.athrow, 1) := by decide +kernel
theorem d_T_node_69 : decode c_T_node 69 = .ok (.aload_n 0, 1) := by decide +kernel
theorem d_T_node_70 : decode c_T_node 70 = .ok (.getfield 28, 3) := by decide +kernel
theorem d_T_node_73 : decode c_T_node 73 = .ok (.bipush 10, 2) := by decide +kernel
theorem d_T_node_75 : decode c_T_node 75 = .ok (.if_icmp .lt 13, 3) := by decide +kernel
theorem d_T_node_78 : decode c_T_node 78 = .ok (.new 56, 3) := by decide +kernel
theorem d_T_node_81 : decode c_T_node 81 = .ok (.dup, 1) := by decide +kernel
theorem d_T_node_82 : decode c_T_node 82 = .ok (.ldc 58, 2) := by decide +kernel
theorem d_T_node_84 : decode c_T_node 84 = .ok (.invokespecial 60, 3) := by decide +kernel
theorem d_T_node_87 : decode c_T_node 87 = .ok (.athrow, 1) := by decide +kernel
theorem d_T_node_88 : decode c_T_node 88 = .ok (.new 9, 3) := by decide +kernel
theorem d_T_node_91 : decode c_T_node 91 = .ok (.dup, 1) := by decide +kernel
theorem d_T_node_92 : decode c_T_node 92 = .ok (.aload_n 0, 1) := by decide +kernel
theorem d_T_node_93 : decode c_T_node 93 = .ok (.getfield 28, 3) := by decide +kernel
theorem d_T_node_96 : decode c_T_node 96 = .ok (.lload 5, 2) := by decide +kernel
theorem d_T_node_98 : decode c_T_node 98 = .ok (.invokespecial 61, 3) := by decide +kernel
theorem d_T_node_101 : decode c_T_node 101 = .ok (.astore 7, 2) := by decide +kernel
theorem d_T_node_103 : decode c_T_node 103 = .ok (.aload 7, 2) := by decide +kernel
theorem d_T_node_105 : decode c_T_node 105 = .ok (.getfield 64, 3) := by decide +kernel
theorem d_T_node_108 : decode c_T_node 108 = .ok (.iload_n 1, 1) := by decide +kernel
theorem d_T_node_109 : decode c_T_node 109 = .ok (.iload_n 2, 1) := by decide +kernel
theorem d_T_node_110 : decode c_T_node 110 = .ok (.iload_n 3, 1) := by decide +kernel
theorem d_T_node_111 : decode c_T_node 111 = .ok (.iload 4, 2) := by decide +kernel
theorem d_T_node_113 : decode c_T_node 113 = .ok (.invokevirtual 68, 3) := by decide +kernel
theorem d_T_node_116 : decode c_T_node 116 = .ok (.aload 7, 2) := by decide +kernel
theorem d_T_node_118 : decode c_T_node 118 = .ok (.invokevirtual 74, 3) := by decide +kernel
theorem d_T_node_121 : decode c_T_node 121 = .ok (.pop, 1) := by decide +kernel
theorem d_T_node_122 : decode c_T_node 122 = .ok (.aload_n 0, 1) := by decide +kernel
theorem d_T_node_123 : decode c_T_node 123 = .ok (.getfield 11, 3) := by decide +kernel
theorem d_T_node_126 : decode c_T_node 126 = .ok (.aload_n 0, 1) := by decide +kernel
theorem d_T_node_127 : decode c_T_node 127 = .ok (.getfield 28, 3) := by decide +kernel
theorem d_T_node_130 : decode c_T_node 130 = .ok (.aload 7, 2) := by decide +kernel
theorem d_T_node_132 : decode c_T_node 132 = .ok (.aastore, 1) := by decide +kernel
theorem d_T_node_133 : decode c_T_node 133 = .ok (.aload_n 0, 1) := by decide +kernel
theorem d_T_node_134 : decode c_T_node 134 = .ok (.dup, 1) := by decide +kernel
theorem d_T_node_135 : decode c_T_node 135 = .ok (.getfield 28, 3) := by decide +kernel
theorem d_T_node_138 : decode c_T_node 138 = .ok (.iconst 1, 1) := by decide +kernel
theorem d_T_node_139 : decode c_T_node 139 = .ok (.iadd, 1) := by decide +kernel
theorem d_T_node_140 : decode c_T_node 140 = .ok (.putfield 28, 3) := by decide +kernel
theorem d_T_node_143 : decode c_T_node 143 = .ok (.aload 7, 2) := by decide +kernel
theorem d_T_node_145 : decode c_T_node 145 = .ok (.getfield 78, 3) := by decide +kernel
theorem d_T_node_148 : decode c_T_node 148 = .ok (.ireturn, 1) := by decide +kernel
theorem d_T_isWithin_0 : decode c_T_isWithin 0 = .ok (.iload_n 0, 1) := by decide +kernel
theorem d_T_isWithin_1 : decode c_T_isWithin 1 = .ok (.ifCond .lt 12, 3) := by decide +kernel
theorem d_T_isWithin_4 : decode c_T_isWithin 4 = .ok (.iload_n 0, 1) := by decide +kernel
theorem d_T_isWithin_5 : decode c_T_isWithin 5 = .ok (.iload_n 1, 1) := by decide +kernel
theorem d_T_isWithin_6 : decode c_T_isWithin 6 = .ok (.if_icmp .gt 7, 3) := by decide +kernel
theorem d_T_isWithin_9 : decode c_T_isWithin 9 = .ok (.iconst 1, 1) := by decide +kernel
theorem d_T_isWithin_10 : decode c_T_isWithin 10 = .ok (.goto 4, 3) := by decide +kernel
theorem d_T_isWithin_13 : decode c_T_isWithin 13 = .ok (.iconst 0, 1) := by decide +kernel
theorem d_T_isWithin_14 : decode c_T_isWithin 14 = .ok (.ireturn, 1) := by decide +kernel
theorem d_T_hasIdentity_0 : decode c_T_hasIdentity 0 = .ok (.iconst 0, 1) := by decide +kernel
theorem d_T_hasIdentity_1 : decode c_T_hasIdentity 1 = .ok (.istore_n 2, 1) := by decide +kernel
theorem d_T_hasIdentity_2 : decode c_T_hasIdentity 2 = .ok (.iload_n 2, 1) := by decide +kernel
theorem d_T_hasIdentity_3 : decode c_T_hasIdentity 3 = .ok (.aload_n 0, 1) := by decide +kernel
theorem d_T_hasIdentity_4 : decode c_T_hasIdentity 4 = .ok (.getfield 28, 3) := by decide +kernel
theorem d_T_hasIdentity_7 : decode c_T_hasIdentity 7 = .ok (.if_icmp .ge 27, 3) := by decide +kernel
theorem d_T_hasIdentity_10 : decode c_T_hasIdentity 10 = .ok (.aload_n 0, 1) := by decide +kernel
theorem d_T_hasIdentity_11 : decode c_T_hasIdentity 11 = .ok (.getfield 11, 3) := by decide +kernel
theorem d_T_hasIdentity_14 : decode c_T_hasIdentity 14 = .ok (.iload_n 2, 1) := by decide +kernel
theorem d_T_hasIdentity_15 : decode c_T_hasIdentity 15 = .ok (.aaload, 1) := by decide +kernel
theorem d_T_hasIdentity_16 : decode c_T_hasIdentity 16 = .ok (.getfield 64, 3) := by decide +kernel
theorem d_T_hasIdentity_19 : decode c_T_hasIdentity 19 = .ok (.getfield 129, 3) := by decide +kernel
theorem d_T_hasIdentity_22 : decode c_T_hasIdentity 22 = .ok (.iload_n 1, 1) := by decide +kernel
theorem d_T_hasIdentity_23 : decode c_T_hasIdentity 23 = .ok (.if_icmp .ne 5, 3) := by decide +kernel
theorem d_T_hasIdentity_26 : decode c_T_hasIdentity 26 = .ok (.iconst 1, 1) := by decide +kernel
theorem d_T_hasIdentity_27 : decode c_T_hasIdentity 27 = .ok (.ireturn, 1) := by decide +kernel
theorem d_T_hasIdentity_28 : decode c_T_hasIdentity 28 = .ok (.iinc 2 1, 3) := by decide +kernel
theorem d_T_hasIdentity_31 : decode c_T_hasIdentity 31 = .ok (.goto (-29), 3) := by decide +kernel
theorem d_T_hasIdentity_34 : decode c_T_hasIdentity 34 = .ok (.iconst 0, 1) := by decide +kernel
theorem d_T_hasIdentity_35 : decode c_T_hasIdentity 35 = .ok (.ireturn, 1) := by decide +kernel
theorem d_N_init_0 : decode c_N_init 0 = .ok (.aload_n 0, 1) := by decide +kernel
theorem d_N_init_1 : decode c_N_init 1 = .ok (.invokespecial 3, 3) := by decide +kernel
theorem d_N_init_4 : decode c_N_init 4 = .ok (.aload_n 0, 1) := by decide +kernel
theorem d_N_init_5 : decode c_N_init 5 = .ok (.iload_n 1, 1) := by decide +kernel
theorem d_N_init_6 : decode c_N_init 6 = .ok (.putfield 9, 3) := by decide +kernel
theorem d_N_init_9 : decode c_N_init 9 = .ok (.aload_n 0, 1) := by decide +kernel
theorem d_N_init_10 : decode c_N_init 10 = .ok (.lload_n 2, 1) := by decide +kernel
theorem d_N_init_11 : decode c_N_init 11 = .ok (.putfield 15, 3) := by decide +kernel
theorem d_N_init_14 : decode c_N_init 14 = .ok (.aload_n 0, 1) := by decide +kernel
theorem d_N_init_15 : decode c_N_init 15 = .ok (.ldc2_w 19, 3) := by decide +kernel
theorem d_N_init_18 : decode c_N_init 18 = .ok (.putfield 21, 3) := by decide +kernel
theorem d_N_init_21 : decode c_N_init 21 = .ok (.aload_n 0, 1) := by decide +kernel
theorem d_N_init_22 : decode c_N_init 22 = .ok (.new 24, 3) := by decide +kernel
theorem d_N_init_25 : decode c_N_init 25 = .ok (.dup, 1) := by decide +kernel
theorem d_N_init_26 : decode c_N_init 26 = .ok (.invokespecial 26, 3) := by decide +kernel
theorem d_N_init_29 : decode c_N_init 29 = .ok (.putfield 27, 3) := by decide +kernel
theorem d_N_init_32 : decode c_N_init 32 = .ok (.aload_n 0, 1) := by decide +kernel
theorem d_N_init_33 : decode c_N_init 33 = .ok (.aload_n 0, 1) := by decide +kernel
theorem d_N_init_34 : decode c_N_init 34 = .ok (.getfield 27, 3) := by decide +kernel
theorem d_N_init_37 : decode c_N_init 37 = .ok (.putfield 31, 3) := by decide +kernel
theorem d_N_init_40 : decode c_N_init 40 = .ok (.aload_n 0, 1) := by decide +kernel
theorem d_N_init_41 : decode c_N_init 41 = .ok (.iconst 4, 1) := by decide +kernel
theorem d_N_init_42 : decode c_N_init 42 = .ok (.anewarray 34, 3) := by decide +kernel
theorem d_N_init_45 : decode c_N_init 45 = .ok (.putfield 36, 3) := by decide +kernel
theorem d_N_init_48 : decode c_N_init 48 = .ok (.iconst 0, 1) := by decide +kernel
theorem d_N_init_49 : decode c_N_init 49 = .ok (.istore 4, 2) := by decide +kernel
theorem d_N_init_51 : decode c_N_init 51 = .ok (.iload 4, 2) := by decide +kernel
theorem d_N_init_53 : decode c_N_init 53 = .ok (.iconst 4, 1) := by decide +kernel
theorem d_N_init_54 : decode c_N_init 54 = .ok (.if_icmp .ge 26, 3) := by decide +kernel
theorem d_N_init_57 : decode c_N_init 57 = .ok (.aload_n 0, 1) := by decide +kernel
theorem d_N_init_58 : decode c_N_init 58 = .ok (.getfield 36, 3) := by decide +kernel
theorem d_N_init_61 : decode c_N_init 61 = .ok (.iload 4, 2) := by decide +kernel
theorem d_N_init_63 : decode c_N_init 63 = .ok (.new 34, 3) := by decide +kernel
theorem d_N_init_66 : decode c_N_init 66 = .ok (.dup, 1) := by decide +kernel
theorem d_N_init_67 : decode c_N_init 67 = .ok (.iload_n 1, 1) := by decide +kernel
theorem d_N_init_68 : decode c_N_init 68 = .ok (.iload 4, 2) := by decide +kernel
theorem d_N_init_70 : decode c_N_init 70 = .ok (.invokespecial 40, 3) := by decide +kernel
theorem d_N_init_73 : decode c_N_init 73 = .ok (.aastore, 1) := by decide +kernel
theorem d_N_init_74 : decode c_N_init 74 = .ok (.iinc 4 1, 3) := by decide +kernel
theorem d_N_init_77 : decode c_N_init 77 = .ok (.goto (-26), 3) := by decide +kernel
theorem d_N_init_80 : decode c_N_init 80 = .ok (.return_, 1) := by decide +kernel
theorem d_T_link_0 : decode c_T_link 0 = .ok (.aload_n 0, 1) := by decide +kernel
theorem d_T_link_1 : decode c_T_link 1 = .ok (.iload_n 1, 1) := by decide +kernel
theorem d_T_link_2 : decode c_T_link 2 = .ok (.iload_n 2, 1) := by decide +kernel
theorem d_T_link_3 : decode c_T_link 3 = .ok (.invokevirtual 81, 3) := by decide +kernel
theorem d_T_link_6 : decode c_T_link 6 = .ok (.astore 7, 2) := by decide +kernel
theorem d_T_link_8 : decode c_T_link 8 = .ok (.aload_n 0, 1) := by decide +kernel
theorem d_T_link_9 : decode c_T_link 9 = .ok (.iload_n 3, 1) := by decide +kernel
theorem d_T_link_10 : decode c_T_link 10 = .ok (.iload 4, 2) := by decide +kernel
theorem d_T_link_12 : decode c_T_link 12 = .ok (.invokevirtual 81, 3) := by decide +kernel
theorem d_T_link_15 : decode c_T_link 15 = .ok (.astore 8, 2) := by decide +kernel
theorem d_T_link_17 : decode c_T_link 17 = .ok (.iload_n 1, 1) := by decide +kernel
theorem d_T_link_18 : decode c_T_link 18 = .ok (.iload_n 3, 1) := by decide +kernel
theorem d_T_link_19 : decode c_T_link 19 = .ok (.if_icmp .ne 13, 3) := by decide +kernel
theorem d_T_link_22 : decode c_T_link 22 = .ok (.new 43, 3) := by decide +kernel
theorem d_T_link_25 : decode c_T_link 25 = .ok (.dup, 1) := by decide +kernel
theorem d_T_link_26 : decode c_T_link 26 = .ok (.ldc 85, 2) := by decide +kernel
theorem d_T_link_28 : decode c_T_link 28 = .ok (.invokespecial 47, 3) := by decide +kernel
theorem d_T_link_31 : decode c_T_link 31 = .ok (.athrow, 1) := by decide +kernel
theorem d_T_link_32 : decode c_T_link 32 = .ok (.iload 5, 2) := by decide +kernel
theorem d_T_link_34 : decode c_T_link 34 = .ok (.ldc 87, 2) := by decide +kernel
theorem d_T_link_36 : decode c_T_link 36 = .ok (.invokestatic 39, 3) := by decide +kernel
theorem d_T_link_39 : decode c_T_link 39 = .ok (.ifCond .eq 13, 3) := by decide +kernel
theorem d_T_link_42 : decode c_T_link 42 = .ok (.iload 6, 2) := by decide +kernel
theorem d_T_link_44 : decode c_T_link 44 = .ok (.ldc 87, 2) := by decide +kernel
theorem d_T_link_46 : decode c_T_link 46 = .ok (.invokestatic 39, 3) := by decide +kernel
theorem d_T_link_49 : decode c_T_link 49 = .ok (.ifCond .ne 13, 3) := by decide +kernel
theorem d_T_link_52 : decode c_T_link 52 = .ok (.new 43, 3) := by decide +kernel
theorem d_T_link_55 : decode c_T_link 55 = .ok (.dup, 1) := by decide +kernel
theorem d_T_link_56 : decode c_T_link 56 = .ok (.ldc 88, 2) := by decide +kernel
theorem d_T_link_58 : decode c_T_link 58 = .ok (.invokespecial 47, 3) := by decide +kernel
theorem d_T_link_61 : decode c_T_link 61 = .ok (.athrow, 1) := by decide +kernel
theorem d_T_link_62 : decode c_T_link 62 = .ok (.aload_n 0, 1) := by decide +kernel
theorem d_T_link_63 : decode c_T_link 63 = .ok (.getfield 32, 3) := by decide +kernel
theorem d_T_link_66 : decode c_T_link 66 = .ok (.bipush 16, 2) := by decide +kernel
theorem d_T_link_68 : decode c_T_link 68 = .ok (.if_icmp .lt 13, 3) := by decide +kernel
theorem d_T_link_71 : decode c_T_link 71 = .ok (.new 56, 3) := by decide +kernel
theorem d_T_link_74 : decode c_T_link 74 = .ok (.dup, 1) := by decide +kernel
theorem d_T_link_75 : decode c_T_link 75 = .ok (.ldc 90, 2) := by decide +kernel
theorem d_T_link_77 : decode c_T_link 77 = .ok (.invokespecial 60, 3) := by decide +kernel
theorem d_T_link_80 : decode c_T_link 80 = .ok (.athrow, 1) := by decide +kernel
theorem d_T_link_81 : decode c_T_link 81 = .ok (.aload 7, 2) := by decide +kernel
theorem d_T_link_83 : decode c_T_link 83 = .ok (.getfield 92, 3) := by decide +kernel
theorem d_T_link_86 : decode c_T_link 86 = .ok (.ifnonnull 11, 3) := by decide +kernel
theorem d_T_link_89 : decode c_T_link 89 = .ok (.aload 8, 2) := by decide +kernel
theorem d_T_link_91 : decode c_T_link 91 = .ok (.getfield 92, 3) := by decide +kernel
theorem d_T_link_94 : decode c_T_link 94 = .ok (.ifnull 13, 3) := by decide +kernel
theorem d_T_link_97 : decode c_T_link 97 = .ok (.new 56, 3) := by decide +kernel
theorem d_T_link_100 : decode c_T_link 100 = .ok (.dup, 1) := by decide +kernel
theorem d_T_link_101 : decode c_T_link 101 = .ok (.ldc 98, 2) := by decide +kernel
theorem d_T_link_103 : decode c_T_link 103 = .ok (.invokespecial 60, 3) := by decide +kernel
theorem d_T_link_106 : decode c_T_link 106 = .ok (.athrow, 1) := by decide +kernel
theorem d_T_link_107 : decode c_T_link 107 = .ok (.new 15, 3) := by decide +kernel
theorem d_T_link_110 : decode c_T_link 110 = .ok (.dup, 1) := by decide +kernel
theorem d_T_link_111 : decode c_T_link 111 = .ok (.aload 7, 2) := by decide +kernel
theorem d_T_link_113 : decode c_T_link 113 = .ok (.aload 8, 2) := by decide +kernel
theorem d_T_link_115 : decode c_T_link 115 = .ok (.iload 5, 2) := by decide +kernel
theorem d_T_link_117 : decode c_T_link 117 = .ok (.iload 6, 2) := by decide +kernel
theorem d_T_link_119 : decode c_T_link 119 = .ok (.invokespecial 100, 3) := by decide +kernel
theorem d_T_link_122 : decode c_T_link 122 = .ok (.astore 9, 2) := by decide +kernel
theorem d_T_link_124 : decode c_T_link 124 = .ok (.aload 7, 2) := by decide +kernel
theorem d_T_link_126 : decode c_T_link 126 = .ok (.aload 9, 2) := by decide +kernel
theorem d_T_link_128 : decode c_T_link 128 = .ok (.putfield 92, 3) := by decide +kernel
theorem d_T_link_131 : decode c_T_link 131 = .ok (.aload 8, 2) := by decide +kernel
theorem d_T_link_133 : decode c_T_link 133 = .ok (.aload 9, 2) := by decide +kernel
theorem d_T_link_135 : decode c_T_link 135 = .ok (.putfield 92, 3) := by decide +kernel
theorem d_T_link_138 : decode c_T_link 138 = .ok (.aload_n 0, 1) := by decide +kernel
theorem d_T_link_139 : decode c_T_link 139 = .ok (.getfield 11, 3) := by decide +kernel
theorem d_T_link_142 : decode c_T_link 142 = .ok (.iload_n 1, 1) := by decide +kernel
theorem d_T_link_143 : decode c_T_link 143 = .ok (.aaload, 1) := by decide +kernel
theorem d_T_link_144 : decode c_T_link 144 = .ok (.invokevirtual 74, 3) := by decide +kernel
theorem d_T_link_147 : decode c_T_link 147 = .ok (.pop, 1) := by decide +kernel
theorem d_T_link_148 : decode c_T_link 148 = .ok (.aload_n 0, 1) := by decide +kernel
theorem d_T_link_149 : decode c_T_link 149 = .ok (.getfield 11, 3) := by decide +kernel
theorem d_T_link_152 : decode c_T_link 152 = .ok (.iload_n 3, 1) := by decide +kernel
theorem d_T_link_153 : decode c_T_link 153 = .ok (.aaload, 1) := by decide +kernel
theorem d_T_link_154 : decode c_T_link 154 = .ok (.invokevirtual 74, 3) := by decide +kernel
theorem d_T_link_157 : decode c_T_link 157 = .ok (.pop, 1) := by decide +kernel
theorem d_T_link_158 : decode c_T_link 158 = .ok (.aload_n 0, 1) := by decide +kernel
theorem d_T_link_159 : decode c_T_link 159 = .ok (.getfield 17, 3) := by decide +kernel
theorem d_T_link_162 : decode c_T_link 162 = .ok (.aload_n 0, 1) := by decide +kernel
theorem d_T_link_163 : decode c_T_link 163 = .ok (.getfield 32, 3) := by decide +kernel
theorem d_T_link_166 : decode c_T_link 166 = .ok (.aload 9, 2) := by decide +kernel
theorem d_T_link_168 : decode c_T_link 168 = .ok (.aastore, 1) := by decide +kernel
theorem d_T_link_169 : decode c_T_link 169 = .ok (.aload_n 0, 1) := by decide +kernel
theorem d_T_link_170 : decode c_T_link 170 = .ok (.dup, 1) := by decide +kernel
theorem d_T_link_171 : decode c_T_link 171 = .ok (.getfield 32, 3) := by decide +kernel
theorem d_T_link_174 : decode c_T_link 174 = .ok (.iconst 1, 1) := by decide +kernel
theorem d_T_link_175 : decode c_T_link 175 = .ok (.iadd, 1) := by decide +kernel
theorem d_T_link_176 : decode c_T_link 176 = .ok (.putfield 32, 3) := by decide +kernel
theorem d_T_link_179 : decode c_T_link 179 = .ok (.aload_n 0, 1) := by decide +kernel
theorem d_T_link_180 : decode c_T_link 180 = .ok (.getfield 32, 3) := by decide +kernel
theorem d_T_link_183 : decode c_T_link 183 = .ok (.iconst 1, 1) := by decide +kernel
theorem d_T_link_184 : decode c_T_link 184 = .ok (.isub, 1) := by decide +kernel
theorem d_T_link_185 : decode c_T_link 185 = .ok (.ireturn, 1) := by decide +kernel
theorem d_T_portAt_0 : decode c_T_portAt 0 = .ok (.aload_n 0, 1) := by decide +kernel
theorem d_T_portAt_1 : decode c_T_portAt 1 = .ok (.iload_n 1, 1) := by decide +kernel
theorem d_T_portAt_2 : decode c_T_portAt 2 = .ok (.invokevirtual 108, 3) := by decide +kernel
theorem d_T_portAt_5 : decode c_T_portAt 5 = .ok (.astore_n 3, 1) := by decide +kernel
theorem d_T_portAt_6 : decode c_T_portAt 6 = .ok (.iload_n 2, 1) := by decide +kernel
theorem d_T_portAt_7 : decode c_T_portAt 7 = .ok (.ifCond .lt 8, 3) := by decide +kernel
theorem d_T_portAt_10 : decode c_T_portAt 10 = .ok (.iload_n 2, 1) := by decide +kernel
theorem d_T_portAt_11 : decode c_T_portAt 11 = .ok (.iconst 4, 1) := by decide +kernel
theorem d_T_portAt_12 : decode c_T_portAt 12 = .ok (.if_icmp .lt 13, 3) := by decide +kernel
theorem d_T_portAt_15 : decode c_T_portAt 15 = .ok (.new 43, 3) := by decide +kernel
theorem d_T_portAt_18 : decode c_T_portAt 18 = .ok (.dup, 1) := by decide +kernel
theorem d_T_portAt_19 : decode c_T_portAt 19 = .ok (.ldc 175, 2) := by decide +kernel
theorem d_T_portAt_21 : decode c_T_portAt 21 = .ok (.invokespecial 47, 3) := by decide +kernel
theorem d_T_portAt_24 : decode c_T_portAt 24 = .ok (.athrow, 1) := by decide +kernel
theorem d_T_portAt_25 : decode c_T_portAt 25 = .ok (.aload_n 3, 1) := by decide +kernel
theorem d_T_portAt_26 : decode c_T_portAt 26 = .ok (.getfield 177, 3) := by decide +kernel
theorem d_T_portAt_29 : decode c_T_portAt 29 = .ok (.iload_n 2, 1) := by decide +kernel
theorem d_T_portAt_30 : decode c_T_portAt 30 = .ok (.aaload, 1) := by decide +kernel
theorem d_T_portAt_31 : decode c_T_portAt 31 = .ok (.areturn, 1) := by decide +kernel
theorem d_T_nodeAt_0 : decode c_T_nodeAt 0 = .ok (.iload_n 1, 1) := by decide +kernel
theorem d_T_nodeAt_1 : decode c_T_nodeAt 1 = .ok (.ifCond .lt 11, 3) := by decide +kernel
theorem d_T_nodeAt_4 : decode c_T_nodeAt 4 = .ok (.iload_n 1, 1) := by decide +kernel
theorem d_T_nodeAt_5 : decode c_T_nodeAt 5 = .ok (.aload_n 0, 1) := by decide +kernel
theorem d_T_nodeAt_6 : decode c_T_nodeAt 6 = .ok (.getfield 28, 3) := by decide +kernel
theorem d_T_nodeAt_9 : decode c_T_nodeAt 9 = .ok (.if_icmp .lt 13, 3) := by decide +kernel
theorem d_T_nodeAt_12 : decode c_T_nodeAt 12 = .ok (.new 43, 3) := by decide +kernel
theorem d_T_nodeAt_15 : decode c_T_nodeAt 15 = .ok (.dup, 1) := by decide +kernel
theorem d_T_nodeAt_16 : decode c_T_nodeAt 16 = .ok (.ldc 173, 2) := by decide +kernel
theorem d_T_nodeAt_18 : decode c_T_nodeAt 18 = .ok (.invokespecial 47, 3) := by decide +kernel
theorem d_T_nodeAt_21 : decode c_T_nodeAt 21 = .ok (.athrow, 1) := by decide +kernel
theorem d_T_nodeAt_22 : decode c_T_nodeAt 22 = .ok (.aload_n 0, 1) := by decide +kernel
theorem d_T_nodeAt_23 : decode c_T_nodeAt 23 = .ok (.getfield 11, 3) := by decide +kernel
theorem d_T_nodeAt_26 : decode c_T_nodeAt 26 = .ok (.iload_n 1, 1) := by decide +kernel
theorem d_T_nodeAt_27 : decode c_T_nodeAt 27 = .ok (.aaload, 1) := by decide +kernel
theorem d_T_nodeAt_28 : decode c_T_nodeAt 28 = .ok (.areturn, 1) := by decide +kernel
theorem d_T_up_0 : decode c_T_up 0 = .ok (.iload_n 1, 1) := by decide +kernel
theorem d_T_up_1 : decode c_T_up 1 = .ok (.ifCond .lt 11, 3) := by decide +kernel
theorem d_T_up_4 : decode c_T_up 4 = .ok (.iload_n 1, 1) := by decide +kernel
theorem d_T_up_5 : decode c_T_up 5 = .ok (.aload_n 0, 1) := by decide +kernel
theorem d_T_up_6 : decode c_T_up 6 = .ok (.getfield 32, 3) := by decide +kernel
theorem d_T_up_9 : decode c_T_up 9 = .ok (.if_icmp .lt 13, 3) := by decide +kernel
theorem d_T_up_12 : decode c_T_up 12 = .ok (.new 43, 3) := by decide +kernel
theorem d_T_up_15 : decode c_T_up 15 = .ok (.dup, 1) := by decide +kernel
theorem d_T_up_16 : decode c_T_up 16 = .ok (.ldc 103, 2) := by decide +kernel
theorem d_T_up_18 : decode c_T_up 18 = .ok (.invokespecial 47, 3) := by decide +kernel
theorem d_T_up_21 : decode c_T_up 21 = .ok (.athrow, 1) := by decide +kernel
theorem d_T_up_22 : decode c_T_up 22 = .ok (.aload_n 0, 1) := by decide +kernel
theorem d_T_up_23 : decode c_T_up 23 = .ok (.getfield 17, 3) := by decide +kernel
theorem d_T_up_26 : decode c_T_up 26 = .ok (.iload_n 1, 1) := by decide +kernel
theorem d_T_up_27 : decode c_T_up 27 = .ok (.aaload, 1) := by decide +kernel
theorem d_T_up_28 : decode c_T_up 28 = .ok (.iload_n 2, 1) := by decide +kernel
theorem d_T_up_29 : decode c_T_up 29 = .ok (.putfield 105, 3) := by decide +kernel
theorem d_T_up_32 : decode c_T_up 32 = .ok (.return_, 1) := by decide +kernel
theorem d_T_priority_0 : decode c_T_priority 0 = .ok (.aload_n 0, 1) := by decide +kernel
theorem d_T_priority_1 : decode c_T_priority 1 = .ok (.iload_n 1, 1) := by decide +kernel
theorem d_T_priority_2 : decode c_T_priority 2 = .ok (.invokevirtual 108, 3) := by decide +kernel
theorem d_T_priority_5 : decode c_T_priority 5 = .ok (.astore_n 3, 1) := by decide +kernel
theorem d_T_priority_6 : decode c_T_priority 6 = .ok (.iload_n 2, 1) := by decide +kernel
theorem d_T_priority_7 : decode c_T_priority 7 = .ok (.sipush 255, 3) := by decide +kernel
theorem d_T_priority_10 : decode c_T_priority 10 = .ok (.invokestatic 39, 3) := by decide +kernel
theorem d_T_priority_13 : decode c_T_priority 13 = .ok (.ifCond .ne 13, 3) := by decide +kernel
theorem d_T_priority_16 : decode c_T_priority 16 = .ok (.new 43, 3) := by decide +kernel
theorem d_T_priority_19 : decode c_T_priority 19 = .ok (.dup, 1) := by decide +kernel
theorem d_T_priority_20 : decode c_T_priority 20 = .ok (.ldc 112, 2) := by decide +kernel
theorem d_T_priority_22 : decode c_T_priority 22 = .ok (.invokespecial 47, 3) := by decide +kernel
theorem d_T_priority_25 : decode c_T_priority 25 = .ok (.athrow, 1) := by decide +kernel
theorem d_T_priority_26 : decode c_T_priority 26 = .ok (.aload_n 3, 1) := by decide +kernel
theorem d_T_priority_27 : decode c_T_priority 27 = .ok (.getfield 64, 3) := by decide +kernel
theorem d_T_priority_30 : decode c_T_priority 30 = .ok (.iload_n 2, 1) := by decide +kernel
theorem d_T_priority_31 : decode c_T_priority 31 = .ok (.putfield 114, 3) := by decide +kernel
theorem d_T_priority_34 : decode c_T_priority 34 = .ok (.aload_n 3, 1) := by decide +kernel
theorem d_T_priority_35 : decode c_T_priority 35 = .ok (.invokevirtual 74, 3) := by decide +kernel
theorem d_T_priority_38 : decode c_T_priority 38 = .ok (.pop, 1) := by decide +kernel
theorem d_T_priority_39 : decode c_T_priority 39 = .ok (.return_, 1) := by decide +kernel
theorem d_T_round_0 : decode c_T_round 0 = .ok (.iload_n 1, 1) := by decide +kernel
theorem d_T_round_1 : decode c_T_round 1 = .ok (.iconst 1, 1) := by decide +kernel
theorem d_T_round_2 : decode c_T_round 2 = .ok (.if_icmp .lt 9, 3) := by decide +kernel
theorem d_T_round_5 : decode c_T_round 5 = .ok (.iload_n 1, 1) := by decide +kernel
theorem d_T_round_6 : decode c_T_round 6 = .ok (.bipush 50, 2) := by decide +kernel
theorem d_T_round_8 : decode c_T_round 8 = .ok (.if_icmp .le 13, 3) := by decide +kernel
theorem d_T_round_11 : decode c_T_round 11 = .ok (.new 43, 3) := by decide +kernel
theorem d_T_round_14 : decode c_T_round 14 = .ok (.dup, 1) := by decide +kernel
theorem d_T_round_15 : decode c_T_round 15 = .ok (.ldc 117, 2) := by decide +kernel
theorem d_T_round_17 : decode c_T_round 17 = .ok (.invokespecial 47, 3) := by decide +kernel
theorem d_T_round_20 : decode c_T_round 20 = .ok (.athrow, 1) := by decide +kernel
theorem d_T_round_21 : decode c_T_round 21 = .ok (.iconst 0, 1) := by decide +kernel
theorem d_T_round_22 : decode c_T_round 22 = .ok (.istore_n 2, 1) := by decide +kernel
theorem d_T_round_23 : decode c_T_round 23 = .ok (.iconst 0, 1) := by decide +kernel
theorem d_T_round_24 : decode c_T_round 24 = .ok (.istore_n 3, 1) := by decide +kernel
theorem d_T_round_25 : decode c_T_round 25 = .ok (.iload_n 3, 1) := by decide +kernel
theorem d_T_round_26 : decode c_T_round 26 = .ok (.iload_n 1, 1) := by decide +kernel
theorem d_T_round_27 : decode c_T_round 27 = .ok (.if_icmp .ge 16, 3) := by decide +kernel
theorem d_T_round_30 : decode c_T_round 30 = .ok (.iload_n 2, 1) := by decide +kernel
theorem d_T_round_31 : decode c_T_round 31 = .ok (.aload_n 0, 1) := by decide +kernel
theorem d_T_round_32 : decode c_T_round 32 = .ok (.invokevirtual 119, 3) := by decide +kernel
theorem d_T_round_35 : decode c_T_round 35 = .ok (.iadd, 1) := by decide +kernel
theorem d_T_round_36 : decode c_T_round 36 = .ok (.istore_n 2, 1) := by decide +kernel
theorem d_T_round_37 : decode c_T_round 37 = .ok (.iinc 3 1, 3) := by decide +kernel
theorem d_T_round_40 : decode c_T_round 40 = .ok (.goto (-15), 3) := by decide +kernel
theorem d_T_round_43 : decode c_T_round 43 = .ok (.iload_n 2, 1) := by decide +kernel
theorem d_T_round_44 : decode c_T_round 44 = .ok (.ireturn, 1) := by decide +kernel
theorem d_T_state_0 : decode c_T_state 0 = .ok (.aload_n 0, 1) := by decide +kernel
theorem d_T_state_1 : decode c_T_state 1 = .ok (.iload_n 1, 1) := by decide +kernel
theorem d_T_state_2 : decode c_T_state 2 = .ok (.iload_n 2, 1) := by decide +kernel
theorem d_T_state_3 : decode c_T_state 3 = .ok (.invokevirtual 81, 3) := by decide +kernel
theorem d_T_state_6 : decode c_T_state 6 = .ok (.getfield 123, 3) := by decide +kernel
theorem d_T_state_9 : decode c_T_state 9 = .ok (.ireturn, 1) := by decide +kernel
theorem d_T_root_0 : decode c_T_root 0 = .ok (.aload_n 0, 1) := by decide +kernel
theorem d_T_root_1 : decode c_T_root 1 = .ok (.iload_n 1, 1) := by decide +kernel
theorem d_T_root_2 : decode c_T_root 2 = .ok (.invokevirtual 108, 3) := by decide +kernel
theorem d_T_root_5 : decode c_T_root 5 = .ok (.getfield 126, 3) := by decide +kernel
theorem d_T_root_8 : decode c_T_root 8 = .ok (.getfield 129, 3) := by decide +kernel
theorem d_T_root_11 : decode c_T_root 11 = .ok (.ireturn, 1) := by decide +kernel
theorem d_T_steps_0 : decode c_T_steps 0 = .ok (.aload_n 0, 1) := by decide +kernel
theorem d_T_steps_1 : decode c_T_steps 1 = .ok (.iload_n 1, 1) := by decide +kernel
theorem d_T_steps_2 : decode c_T_steps 2 = .ok (.invokevirtual 108, 3) := by decide +kernel
theorem d_T_steps_5 : decode c_T_steps 5 = .ok (.getfield 126, 3) := by decide +kernel
theorem d_T_steps_8 : decode c_T_steps 8 = .ok (.getfield 132, 3) := by decide +kernel
theorem d_T_steps_11 : decode c_T_steps 11 = .ok (.ireturn, 1) := by decide +kernel
theorem d_T_kept_0 : decode c_T_kept 0 = .ok (.aload_n 0, 1) := by decide +kernel
theorem d_T_kept_1 : decode c_T_kept 1 = .ok (.iload_n 1, 1) := by decide +kernel
theorem d_T_kept_2 : decode c_T_kept 2 = .ok (.iload_n 2, 1) := by decide +kernel
theorem d_T_kept_3 : decode c_T_kept 3 = .ok (.invokevirtual 81, 3) := by decide +kernel
theorem d_T_kept_6 : decode c_T_kept 6 = .ok (.astore_n 3, 1) := by decide +kernel
theorem d_T_kept_7 : decode c_T_kept 7 = .ok (.aload_n 3, 1) := by decide +kernel
theorem d_T_kept_8 : decode c_T_kept 8 = .ok (.getfield 135, 3) := by decide +kernel
theorem d_T_kept_11 : decode c_T_kept 11 = .ok (.ifCond .ne 5, 3) := by decide +kernel
theorem d_T_kept_14 : decode c_T_kept 14 = .ok (.iconst (-1), 1) := by decide +kernel
theorem d_T_kept_15 : decode c_T_kept 15 = .ok (.ireturn, 1) := by decide +kernel
theorem d_T_kept_16 : decode c_T_kept 16 = .ok (.sipush 10000, 3) := by decide +kernel
theorem d_T_kept_19 : decode c_T_kept 19 = .ok (.aload_n 3, 1) := by decide +kernel
theorem d_T_kept_20 : decode c_T_kept 20 = .ok (.getfield 138, 3) := by decide +kernel
theorem d_T_kept_23 : decode c_T_kept 23 = .ok (.getfield 132, 3) := by decide +kernel
theorem d_T_kept_26 : decode c_T_kept 26 = .ok (.imul, 1) := by decide +kernel
theorem d_T_kept_27 : decode c_T_kept 27 = .ok (.aload_n 3, 1) := by decide +kernel
theorem d_T_kept_28 : decode c_T_kept 28 = .ok (.getfield 138, 3) := by decide +kernel
theorem d_T_kept_31 : decode c_T_kept 31 = .ok (.getfield 129, 3) := by decide +kernel
theorem d_T_kept_34 : decode c_T_kept 34 = .ok (.iadd, 1) := by decide +kernel
theorem d_T_kept_35 : decode c_T_kept 35 = .ok (.ireturn, 1) := by decide +kernel
theorem d_T_exchange_0 : decode c_T_exchange 0 = .ok (.aload_n 0, 1) := by decide +kernel
theorem d_T_exchange_1 : decode c_T_exchange 1 = .ok (.iload_n 1, 1) := by decide +kernel
theorem d_T_exchange_2 : decode c_T_exchange 2 = .ok (.invokevirtual 108, 3) := by decide +kernel
theorem d_T_exchange_5 : decode c_T_exchange 5 = .ok (.astore 6, 2) := by decide +kernel
theorem d_T_exchange_7 : decode c_T_exchange 7 = .ok (.iload 4, 2) := by decide +kernel
theorem d_T_exchange_9 : decode c_T_exchange 9 = .ok (.ldc 141, 2) := by decide +kernel
theorem d_T_exchange_11 : decode c_T_exchange 11 = .ok (.invokestatic 39, 3) := by decide +kernel
theorem d_T_exchange_14 : decode c_T_exchange 14 = .ok (.ifCond .eq 13, 3) := by decide +kernel
theorem d_T_exchange_17 : decode c_T_exchange 17 = .ok (.iload 5, 2) := by decide +kernel
theorem d_T_exchange_19 : decode c_T_exchange 19 = .ok (.ldc 141, 2) := by decide +kernel
theorem d_T_exchange_21 : decode c_T_exchange 21 = .ok (.invokestatic 39, 3) := by decide +kernel
theorem d_T_exchange_24 : decode c_T_exchange 24 = .ok (.ifCond .ne 13, 3) := by decide +kernel
theorem d_T_exchange_27 : decode c_T_exchange 27 = .ok (.new 43, 3) := by decide +kernel
theorem d_T_exchange_30 : decode c_T_exchange 30 = .ok (.dup, 1) := by decide +kernel
theorem d_T_exchange_31 : decode c_T_exchange 31 = .ok (.ldc 142, 2) := by decide +kernel
theorem d_T_exchange_33 : decode c_T_exchange 33 = .ok (.invokespecial 47, 3) := by decide +kernel
theorem d_T_exchange_36 : decode c_T_exchange 36 = .ok (.athrow, 1) := by decide +kernel
theorem d_T_exchange_37 : decode c_T_exchange 37 = .ok (.aload 6, 2) := by decide +kernel
theorem d_T_exchange_39 : decode c_T_exchange 39 = .ok (.invokestatic 144, 3) := by decide +kernel
theorem d_T_exchange_42 : decode c_T_exchange 42 = .ok (.astore 7, 2) := by decide +kernel
theorem d_T_exchange_44 : decode c_T_exchange 44 = .ok (.aload 7, 2) := by decide +kernel
theorem d_T_exchange_46 : decode c_T_exchange 46 = .ok (.ifnonnull 13, 3) := by decide +kernel
theorem d_T_exchange_49 : decode c_T_exchange 49 = .ok (.new 56, 3) := by decide +kernel
theorem d_T_exchange_52 : decode c_T_exchange 52 = .ok (.dup, 1) := by decide +kernel
theorem d_T_exchange_53 : decode c_T_exchange 53 = .ok (.ldc 148, 2) := by decide +kernel
theorem d_T_exchange_55 : decode c_T_exchange 55 = .ok (.invokespecial 60, 3) := by decide +kernel
theorem d_T_exchange_58 : decode c_T_exchange 58 = .ok (.athrow, 1) := by decide +kernel
theorem d_T_exchange_59 : decode c_T_exchange 59 = .ok (.aload_n 0, 1) := by decide +kernel
theorem d_T_exchange_60 : decode c_T_exchange 60 = .ok (.aload 6, 2) := by decide +kernel
theorem d_T_exchange_62 : decode c_T_exchange 62 = .ok (.aload 7, 2) := by decide +kernel
theorem d_T_exchange_64 : decode c_T_exchange 64 = .ok (.lload_n 2, 1) := by decide +kernel
theorem d_T_exchange_65 : decode c_T_exchange 65 = .ok (.iload 4, 2) := by decide +kernel
theorem d_T_exchange_67 : decode c_T_exchange 67 = .ok (.iload 5, 2) := by decide +kernel
theorem d_T_exchange_69 : decode c_T_exchange 69 = .ok (.invokevirtual 150, 3) := by decide +kernel
theorem d_T_exchange_72 : decode c_T_exchange 72 = .ok (.ifCond .ne 13, 3) := by decide +kernel
theorem d_T_exchange_75 : decode c_T_exchange 75 = .ok (.new 154, 3) := by decide +kernel
theorem d_T_exchange_78 : decode c_T_exchange 78 = .ok (.dup, 1) := by decide +kernel
theorem d_T_exchange_79 : decode c_T_exchange 79 = .ok (.ldc 156, 2) := by decide +kernel
theorem d_T_exchange_81 : decode c_T_exchange 81 = .ok (.invokespecial 158, 3) := by decide +kernel
theorem d_T_exchange_84 : decode c_T_exchange 84 = .ok (.athrow, 1) := by decide +kernel
theorem d_T_exchange_85 : decode c_T_exchange 85 = .ok (.aload_n 0, 1) := by decide +kernel
theorem d_T_exchange_86 : decode c_T_exchange 86 = .ok (.getfield 24, 3) := by decide +kernel
theorem d_T_exchange_89 : decode c_T_exchange 89 = .ok (.getfield 159, 3) := by decide +kernel
theorem d_T_exchange_92 : decode c_T_exchange 92 = .ok (.lreturn, 1) := by decide +kernel
theorem d_T_delay_0 : decode c_T_delay 0 = .ok (.aload_n 0, 1) := by decide +kernel
theorem d_T_delay_1 : decode c_T_delay 1 = .ok (.iload_n 1, 1) := by decide +kernel
theorem d_T_delay_2 : decode c_T_delay 2 = .ok (.invokevirtual 108, 3) := by decide +kernel
theorem d_T_delay_5 : decode c_T_delay 5 = .ok (.getfield 163, 3) := by decide +kernel
theorem d_T_delay_8 : decode c_T_delay 8 = .ok (.lreturn, 1) := by decide +kernel
theorem d_T_offset_0 : decode c_T_offset 0 = .ok (.aload_n 0, 1) := by decide +kernel
theorem d_T_offset_1 : decode c_T_offset 1 = .ok (.iload_n 1, 1) := by decide +kernel
theorem d_T_offset_2 : decode c_T_offset 2 = .ok (.invokevirtual 108, 3) := by decide +kernel
theorem d_T_offset_5 : decode c_T_offset 5 = .ok (.getfield 166, 3) := by decide +kernel
theorem d_T_offset_8 : decode c_T_offset 8 = .ok (.lreturn, 1) := by decide +kernel
end
section
theorem d_M_init_0 : decode c_M_init 0 = .ok (.aload_n 0, 1) := by decide +kernel
theorem d_M_init_1 : decode c_M_init 1 = .ok (.invokespecial 1, 3) := by decide +kernel
theorem d_M_init_4 : decode c_M_init 4 = .ok (.aload_n 0, 1) := by decide +kernel
theorem d_M_init_5 : decode c_M_init 5 = .ok (.bipush 10, 2) := by decide +kernel
theorem d_M_init_7 : decode c_M_init 7 = .ok (.newarray .int, 2) := by decide +kernel
theorem d_M_init_9 : decode c_M_init 9 = .ok (.putfield 7, 3) := by decide +kernel
theorem d_M_init_12 : decode c_M_init 12 = .ok (.aload_n 0, 1) := by decide +kernel
theorem d_M_init_13 : decode c_M_init 13 = .ok (.bipush 10, 2) := by decide +kernel
theorem d_M_init_15 : decode c_M_init 15 = .ok (.newarray .int, 2) := by decide +kernel
theorem d_M_init_17 : decode c_M_init 17 = .ok (.putfield 13, 3) := by decide +kernel
theorem d_M_init_20 : decode c_M_init 20 = .ok (.aload_n 0, 1) := by decide +kernel
theorem d_M_init_21 : decode c_M_init 21 = .ok (.bipush 10, 2) := by decide +kernel
theorem d_M_init_23 : decode c_M_init 23 = .ok (.newarray .int, 2) := by decide +kernel
theorem d_M_init_25 : decode c_M_init 25 = .ok (.putfield 16, 3) := by decide +kernel
theorem d_M_init_28 : decode c_M_init 28 = .ok (.aload_n 0, 1) := by decide +kernel
theorem d_M_init_29 : decode c_M_init 29 = .ok (.bipush 10, 2) := by decide +kernel
theorem d_M_init_31 : decode c_M_init 31 = .ok (.newarray .int, 2) := by decide +kernel
theorem d_M_init_33 : decode c_M_init 33 = .ok (.putfield 19, 3) := by decide +kernel
theorem d_M_init_36 : decode c_M_init 36 = .ok (.aload_n 0, 1) := by decide +kernel
theorem d_M_init_37 : decode c_M_init 37 = .ok (.bipush 10, 2) := by decide +kernel
theorem d_M_init_39 : decode c_M_init 39 = .ok (.newarray .long, 2) := by decide +kernel
theorem d_M_init_41 : decode c_M_init 41 = .ok (.putfield 22, 3) := by decide +kernel
theorem d_M_init_44 : decode c_M_init 44 = .ok (.aload_n 0, 1) := by decide +kernel
theorem d_M_init_45 : decode c_M_init 45 = .ok (.bipush 10, 2) := by decide +kernel
theorem d_M_init_47 : decode c_M_init 47 = .ok (.newarray .long, 2) := by decide +kernel
theorem d_M_init_49 : decode c_M_init 49 = .ok (.putfield 26, 3) := by decide +kernel
theorem d_M_init_52 : decode c_M_init 52 = .ok (.aload_n 0, 1) := by decide +kernel
theorem d_M_init_53 : decode c_M_init 53 = .ok (.bipush 32, 2) := by decide +kernel
theorem d_M_init_55 : decode c_M_init 55 = .ok (.newarray .int, 2) := by decide +kernel
theorem d_M_init_57 : decode c_M_init 57 = .ok (.putfield 29, 3) := by decide +kernel
theorem d_M_init_60 : decode c_M_init 60 = .ok (.aload_n 0, 1) := by decide +kernel
theorem d_M_init_61 : decode c_M_init 61 = .ok (.bipush 32, 2) := by decide +kernel
theorem d_M_init_63 : decode c_M_init 63 = .ok (.newarray .int, 2) := by decide +kernel
theorem d_M_init_65 : decode c_M_init 65 = .ok (.putfield 32, 3) := by decide +kernel
theorem d_M_init_68 : decode c_M_init 68 = .ok (.aload_n 0, 1) := by decide +kernel
theorem d_M_init_69 : decode c_M_init 69 = .ok (.bipush 16, 2) := by decide +kernel
theorem d_M_init_71 : decode c_M_init 71 = .ok (.newarray .boolean, 2) := by decide +kernel
theorem d_M_init_73 : decode c_M_init 73 = .ok (.putfield 35, 3) := by decide +kernel
theorem d_M_init_76 : decode c_M_init 76 = .ok (.aload_n 0, 1) := by decide +kernel
theorem d_M_init_77 : decode c_M_init 77 = .ok (.bipush 40, 2) := by decide +kernel
theorem d_M_init_79 : decode c_M_init 79 = .ok (.newarray .int, 2) := by decide +kernel
theorem d_M_init_81 : decode c_M_init 81 = .ok (.putfield 39, 3) := by decide +kernel
theorem d_M_init_84 : decode c_M_init 84 = .ok (.aload_n 0, 1) := by decide +kernel
theorem d_M_init_85 : decode c_M_init 85 = .ok (.bipush 40, 2) := by decide +kernel
theorem d_M_init_87 : decode c_M_init 87 = .ok (.newarray .int, 2) := by decide +kernel
theorem d_M_init_89 : decode c_M_init 89 = .ok (.putfield 42, 3) := by decide +kernel
theorem d_M_init_92 : decode c_M_init 92 = .ok (.aload_n 0, 1) := by decide +kernel
theorem d_M_init_93 : decode c_M_init 93 = .ok (.bipush 40, 2) := by decide +kernel
theorem d_M_init_95 : decode c_M_init 95 = .ok (.newarray .boolean, 2) := by decide +kernel
theorem d_M_init_97 : decode c_M_init 97 = .ok (.putfield 45, 3) := by decide +kernel
theorem d_M_init_100 : decode c_M_init 100 = .ok (.aload_n 0, 1) := by decide +kernel
theorem d_M_init_101 : decode c_M_init 101 = .ok (.bipush 40, 2) := by decide +kernel
theorem d_M_init_103 : decode c_M_init 103 = .ok (.newarray .int, 2) := by decide +kernel
theorem d_M_init_105 : decode c_M_init 105 = .ok (.putfield 48, 3) := by decide +kernel
theorem d_M_init_108 : decode c_M_init 108 = .ok (.aload_n 0, 1) := by decide +kernel
theorem d_M_init_109 : decode c_M_init 109 = .ok (.sipush 320, 3) := by decide +kernel
theorem d_M_init_112 : decode c_M_init 112 = .ok (.newarray .int, 2) := by decide +kernel
theorem d_M_init_114 : decode c_M_init 114 = .ok (.putfield 51, 3) := by decide +kernel
theorem d_M_init_117 : decode c_M_init 117 = .ok (.aload_n 0, 1) := by decide +kernel
theorem d_M_init_118 : decode c_M_init 118 = .ok (.bipush 40, 2) := by decide +kernel
theorem d_M_init_120 : decode c_M_init 120 = .ok (.newarray .boolean, 2) := by decide +kernel
theorem d_M_init_122 : decode c_M_init 122 = .ok (.putfield 54, 3) := by decide +kernel
theorem d_M_init_125 : decode c_M_init 125 = .ok (.aload_n 0, 1) := by decide +kernel
theorem d_M_init_126 : decode c_M_init 126 = .ok (.sipush 320, 3) := by decide +kernel
theorem d_M_init_129 : decode c_M_init 129 = .ok (.newarray .int, 2) := by decide +kernel
theorem d_M_init_131 : decode c_M_init 131 = .ok (.putfield 57, 3) := by decide +kernel
theorem d_M_init_134 : decode c_M_init 134 = .ok (.aload_n 0, 1) := by decide +kernel
theorem d_M_init_135 : decode c_M_init 135 = .ok (.bipush 40, 2) := by decide +kernel
theorem d_M_init_137 : decode c_M_init 137 = .ok (.newarray .boolean, 2) := by decide +kernel
theorem d_M_init_139 : decode c_M_init 139 = .ok (.putfield 60, 3) := by decide +kernel
theorem d_M_init_142 : decode c_M_init 142 = .ok (.aload_n 0, 1) := by decide +kernel
theorem d_M_init_143 : decode c_M_init 143 = .ok (.sipush 320, 3) := by decide +kernel
theorem d_M_init_146 : decode c_M_init 146 = .ok (.newarray .int, 2) := by decide +kernel
theorem d_M_init_148 : decode c_M_init 148 = .ok (.putfield 63, 3) := by decide +kernel
theorem d_M_init_151 : decode c_M_init 151 = .ok (.aload_n 0, 1) := by decide +kernel
theorem d_M_init_152 : decode c_M_init 152 = .ok (.bipush 40, 2) := by decide +kernel
theorem d_M_init_154 : decode c_M_init 154 = .ok (.newarray .int, 2) := by decide +kernel
theorem d_M_init_156 : decode c_M_init 156 = .ok (.putfield 66, 3) := by decide +kernel
theorem d_M_init_159 : decode c_M_init 159 = .ok (.aload_n 0, 1) := by decide +kernel
theorem d_M_init_160 : decode c_M_init 160 = .ok (.bipush 10, 2) := by decide +kernel
theorem d_M_init_162 : decode c_M_init 162 = .ok (.newarray .int, 2) := by decide +kernel
theorem d_M_init_164 : decode c_M_init 164 = .ok (.putfield 69, 3) := by decide +kernel
theorem d_M_init_167 : decode c_M_init 167 = .ok (.aload_n 0, 1) := by decide +kernel
theorem d_M_init_168 : decode c_M_init 168 = .ok (.bipush 8, 2) := by decide +kernel
theorem d_M_init_170 : decode c_M_init 170 = .ok (.newarray .int, 2) := by decide +kernel
theorem d_M_init_172 : decode c_M_init 172 = .ok (.putfield 72, 3) := by decide +kernel
theorem d_M_init_175 : decode c_M_init 175 = .ok (.aload_n 0, 1) := by decide +kernel
theorem d_M_init_176 : decode c_M_init 176 = .ok (.bipush 8, 2) := by decide +kernel
theorem d_M_init_178 : decode c_M_init 178 = .ok (.newarray .int, 2) := by decide +kernel
theorem d_M_init_180 : decode c_M_init 180 = .ok (.putfield 75, 3) := by decide +kernel
theorem d_M_init_183 : decode c_M_init 183 = .ok (.iconst 0, 1) := by decide +kernel
theorem d_M_init_184 : decode c_M_init 184 = .ok (.istore_n 1, 1) := by decide +kernel
theorem d_M_init_185 : decode c_M_init 185 = .ok (.iload_n 1, 1) := by decide +kernel
theorem d_M_init_186 : decode c_M_init 186 = .ok (.bipush 40, 2) := by decide +kernel
theorem d_M_init_188 : decode c_M_init 188 = .ok (.if_icmp .ge 16, 3) := by decide +kernel
theorem d_M_init_191 : decode c_M_init 191 = .ok (.aload_n 0, 1) := by decide +kernel
theorem d_M_init_192 : decode c_M_init 192 = .ok (.getfield 39, 3) := by decide +kernel
theorem d_M_init_195 : decode c_M_init 195 = .ok (.iload_n 1, 1) := by decide +kernel
theorem d_M_init_196 : decode c_M_init 196 = .ok (.iconst (-1), 1) := by decide +kernel
theorem d_M_init_197 : decode c_M_init 197 = .ok (.iastore, 1) := by decide +kernel
theorem d_M_init_198 : decode c_M_init 198 = .ok (.iinc 1 1, 3) := by decide +kernel
theorem d_M_init_201 : decode c_M_init 201 = .ok (.goto (-16), 3) := by decide +kernel
theorem d_M_init_204 : decode c_M_init 204 = .ok (.return_, 1) := by decide +kernel
theorem d_M_thrown_0 : decode c_M_thrown 0 = .ok (.aload_n 0, 1) := by decide +kernel
theorem d_M_thrown_1 : decode c_M_thrown 1 = .ok (.getfield 78, 3) := by decide +kernel
theorem d_M_thrown_4 : decode c_M_thrown 4 = .ok (.ireturn, 1) := by decide +kernel
theorem d_M_node_0 : decode c_M_node 0 = .ok (.iload_n 1, 1) := by decide +kernel
theorem d_M_node_1 : decode c_M_node 1 = .ok (.ifCond .lt 35, 3) := by decide +kernel
theorem d_M_node_4 : decode c_M_node 4 = .ok (.iload_n 1, 1) := by decide +kernel
theorem d_M_node_5 : decode c_M_node 5 = .ok (.sipush 9999, 3) := by decide +kernel
theorem d_M_node_8 : decode c_M_node 8 = .ok (.if_icmp .gt 28, 3) := by decide +kernel
theorem d_M_node_11 : decode c_M_node 11 = .ok (.aload_n 0, 1) := by decide +kernel
theorem d_M_node_12 : decode c_M_node 12 = .ok (.iload_n 2, 1) := by decide +kernel
theorem d_M_node_13 : decode c_M_node 13 = .ok (.invokevirtual 106, 3) := by decide +kernel
theorem d_M_node_16 : decode c_M_node 16 = .ok (.ifCond .eq 20, 3) := by decide +kernel
theorem d_M_node_19 : decode c_M_node 19 = .ok (.aload_n 0, 1) := by decide +kernel
theorem d_M_node_20 : decode c_M_node 20 = .ok (.iload_n 3, 1) := by decide +kernel
theorem d_M_node_21 : decode c_M_node 21 = .ok (.invokevirtual 106, 3) := by decide +kernel
theorem d_M_node_24 : decode c_M_node 24 = .ok (.ifCond .eq 12, 3) := by decide +kernel
theorem d_M_node_27 : decode c_M_node 27 = .ok (.aload_n 0, 1) := by decide +kernel
theorem d_M_node_28 : decode c_M_node 28 = .ok (.iload 4, 2) := by decide +kernel
theorem d_M_node_30 : decode c_M_node 30 = .ok (.invokevirtual 106, 3) := by decide +kernel
theorem d_M_node_33 : decode c_M_node 33 = .ok (.ifCond .ne 7, 3) := by decide +kernel
theorem d_M_node_36 : decode c_M_node 36 = .ok (.iconst 1, 1) := by decide +kernel
theorem d_M_node_37 : decode c_M_node 37 = .ok (.goto 4, 3) := by decide +kernel
theorem d_M_node_40 : decode c_M_node 40 = .ok (.iconst 0, 1) := by decide +kernel
theorem d_M_node_41 : decode c_M_node 41 = .ok (.istore 7, 2) := by decide +kernel
theorem d_M_node_43 : decode c_M_node 43 = .ok (.iconst 0, 1) := by decide +kernel
theorem d_M_node_44 : decode c_M_node 44 = .ok (.istore 8, 2) := by decide +kernel
theorem d_M_node_46 : decode c_M_node 46 = .ok (.iload 8, 2) := by decide +kernel
theorem d_M_node_48 : decode c_M_node 48 = .ok (.aload_n 0, 1) := by decide +kernel
theorem d_M_node_49 : decode c_M_node 49 = .ok (.getfield 100, 3) := by decide +kernel
theorem d_M_node_52 : decode c_M_node 52 = .ok (.if_icmp .ge 32, 3) := by decide +kernel
theorem d_M_node_55 : decode c_M_node 55 = .ok (.iload 7, 2) := by decide +kernel
theorem d_M_node_57 : decode c_M_node 57 = .ok (.ifCond .ne 14, 3) := by decide +kernel
theorem d_M_node_60 : decode c_M_node 60 = .ok (.aload_n 0, 1) := by decide +kernel
theorem d_M_node_61 : decode c_M_node 61 = .ok (.getfield 7, 3) := by decide +kernel
theorem d_M_node_64 : decode c_M_node 64 = .ok (.iload 8, 2) := by decide +kernel
theorem d_M_node_66 : decode c_M_node 66 = .ok (.iaload, 1) := by decide +kernel
theorem d_M_node_67 : decode c_M_node 67 = .ok (.iload_n 1, 1) := by decide +kernel
theorem d_M_node_68 : decode c_M_node 68 = .ok (.if_icmp .ne 7, 3) := by decide +kernel
theorem d_M_node_71 : decode c_M_node 71 = .ok (.iconst 1, 1) := by decide +kernel
theorem d_M_node_72 : decode c_M_node 72 = .ok (.goto 4, 3) := by decide +kernel
theorem d_M_node_75 : decode c_M_node 75 = .ok (.iconst 0, 1) := by decide +kernel
theorem d_M_node_76 : decode c_M_node 76 = .ok (.istore 7, 2) := by decide +kernel
theorem d_M_node_78 : decode c_M_node 78 = .ok (.iinc 8 1, 3) := by decide +kernel
theorem d_M_node_81 : decode c_M_node 81 = .ok (.goto (-35), 3) := by decide +kernel
theorem d_M_node_84 : decode c_M_node 84 = .ok (.aload_n 0, 1) := by decide +kernel
theorem d_M_node_85 : decode c_M_node 85 = .ok (.iload 7, 2) := by decide +kernel
theorem d_M_node_87 : decode c_M_node 87 = .ok (.ifCond .eq 7, 3) := by decide +kernel
theorem d_M_node_90 : decode c_M_node 90 = .ok (.iconst 1, 1) := by decide +kernel
theorem d_M_node_91 : decode c_M_node 91 = .ok (.goto 17, 3) := by decide +kernel
theorem d_M_node_94 : decode c_M_node 94 = .ok (.aload_n 0, 1) := by decide +kernel
theorem d_M_node_95 : decode c_M_node 95 = .ok (.getfield 100, 3) := by decide +kernel
theorem d_M_node_98 : decode c_M_node 98 = .ok (.bipush 10, 2) := by decide +kernel
theorem d_M_node_100 : decode c_M_node 100 = .ok (.if_icmp .ne 7, 3) := by decide +kernel
theorem d_M_node_103 : decode c_M_node 103 = .ok (.iconst 2, 1) := by decide +kernel
theorem d_M_node_104 : decode c_M_node 104 = .ok (.goto 4, 3) := by decide +kernel
theorem d_M_node_107 : decode c_M_node 107 = .ok (.iconst 0, 1) := by decide +kernel
theorem d_M_node_108 : decode c_M_node 108 = .ok (.putfield 78, 3) := by decide +kernel
theorem d_M_node_111 : decode c_M_node 111 = .ok (.aload_n 0, 1) := by decide +kernel
theorem d_M_node_112 : decode c_M_node 112 = .ok (.getfield 78, 3) := by decide +kernel
theorem d_M_node_115 : decode c_M_node 115 = .ok (.ifCond .eq 5, 3) := by decide +kernel
theorem d_M_node_118 : decode c_M_node 118 = .ok (.iconst 0, 1) := by decide +kernel
theorem d_M_node_119 : decode c_M_node 119 = .ok (.ireturn, 1) := by decide +kernel
theorem d_M_node_120 : decode c_M_node 120 = .ok (.aload_n 0, 1) := by decide +kernel
theorem d_M_node_121 : decode c_M_node 121 = .ok (.getfield 7, 3) := by decide +kernel
theorem d_M_node_124 : decode c_M_node 124 = .ok (.aload_n 0, 1) := by decide +kernel
theorem d_M_node_125 : decode c_M_node 125 = .ok (.getfield 100, 3) := by decide +kernel
theorem d_M_node_128 : decode c_M_node 128 = .ok (.iload_n 1, 1) := by decide +kernel
theorem d_M_node_129 : decode c_M_node 129 = .ok (.iastore, 1) := by decide +kernel
theorem d_M_node_130 : decode c_M_node 130 = .ok (.aload_n 0, 1) := by decide +kernel
theorem d_M_node_131 : decode c_M_node 131 = .ok (.getfield 13, 3) := by decide +kernel
theorem d_M_node_134 : decode c_M_node 134 = .ok (.aload_n 0, 1) := by decide +kernel
theorem d_M_node_135 : decode c_M_node 135 = .ok (.getfield 100, 3) := by decide +kernel
theorem d_M_node_138 : decode c_M_node 138 = .ok (.iload_n 2, 1) := by decide +kernel
theorem d_M_node_139 : decode c_M_node 139 = .ok (.iastore, 1) := by decide +kernel
theorem d_M_node_140 : decode c_M_node 140 = .ok (.aload_n 0, 1) := by decide +kernel
theorem d_M_node_141 : decode c_M_node 141 = .ok (.getfield 16, 3) := by decide +kernel
theorem d_M_node_144 : decode c_M_node 144 = .ok (.aload_n 0, 1) := by decide +kernel
theorem d_M_node_145 : decode c_M_node 145 = .ok (.getfield 100, 3) := by decide +kernel
theorem d_M_node_148 : decode c_M_node 148 = .ok (.iload_n 3, 1) := by decide +kernel
theorem d_M_node_149 : decode c_M_node 149 = .ok (.iastore, 1) := by decide +kernel
theorem d_M_node_150 : decode c_M_node 150 = .ok (.aload_n 0, 1) := by decide +kernel
theorem d_M_node_151 : decode c_M_node 151 = .ok (.getfield 19, 3) := by decide +kernel
theorem d_M_node_154 : decode c_M_node 154 = .ok (.aload_n 0, 1) := by decide +kernel
theorem d_M_node_155 : decode c_M_node 155 = .ok (.getfield 100, 3) := by decide +kernel
theorem d_M_node_158 : decode c_M_node 158 = .ok (.iload 4, 2) := by decide +kernel
theorem d_M_node_160 : decode c_M_node 160 = .ok (.iastore, 1) := by decide +kernel
theorem d_M_node_161 : decode c_M_node 161 = .ok (.aload_n 0, 1) := by decide +kernel
theorem d_M_node_162 : decode c_M_node 162 = .ok (.getfield 22, 3) := by decide +kernel
theorem d_M_node_165 : decode c_M_node 165 = .ok (.aload_n 0, 1) := by decide +kernel
theorem d_M_node_166 : decode c_M_node 166 = .ok (.getfield 100, 3) := by decide +kernel
theorem d_M_node_169 : decode c_M_node 169 = .ok (.lload 5, 2) := by decide +kernel
theorem d_M_node_171 : decode c_M_node 171 = .ok (.lastore, 1) := by decide +kernel
theorem d_M_node_172 : decode c_M_node 172 = .ok (.aload_n 0, 1) := by decide +kernel
theorem d_M_node_173 : decode c_M_node 173 = .ok (.getfield 26, 3) := by decide +kernel
theorem d_M_node_176 : decode c_M_node 176 = .ok (.aload_n 0, 1) := by decide +kernel
theorem d_M_node_177 : decode c_M_node 177 = .ok (.getfield 100, 3) := by decide +kernel
theorem d_M_node_180 : decode c_M_node 180 = .ok (.ldc2_w 110, 3) := by decide +kernel
theorem d_M_node_183 : decode c_M_node 183 = .ok (.lastore, 1) := by decide +kernel
theorem d_M_node_184 : decode c_M_node 184 = .ok (.aload_n 0, 1) := by decide +kernel
theorem d_M_node_185 : decode c_M_node 185 = .ok (.dup, 1) := by decide +kernel
theorem d_M_node_186 : decode c_M_node 186 = .ok (.getfield 100, 3) := by decide +kernel
theorem d_M_node_189 : decode c_M_node 189 = .ok (.iconst 1, 1) := by decide +kernel
theorem d_M_node_190 : decode c_M_node 190 = .ok (.iadd, 1) := by decide +kernel
theorem d_M_node_191 : decode c_M_node 191 = .ok (.putfield 100, 3) := by decide +kernel
theorem d_M_node_194 : decode c_M_node 194 = .ok (.aload_n 0, 1) := by decide +kernel
theorem d_M_node_195 : decode c_M_node 195 = .ok (.invokevirtual 112, 3) := by decide +kernel
theorem d_M_node_198 : decode c_M_node 198 = .ok (.aload_n 0, 1) := by decide +kernel
theorem d_M_node_199 : decode c_M_node 199 = .ok (.getfield 100, 3) := by decide +kernel
theorem d_M_node_202 : decode c_M_node 202 = .ok (.iconst 1, 1) := by decide +kernel
theorem d_M_node_203 : decode c_M_node 203 = .ok (.isub, 1) := by decide +kernel
theorem d_M_node_204 : decode c_M_node 204 = .ok (.ireturn, 1) := by decide +kernel
theorem d_M_byteSized_0 : decode c_M_byteSized 0 = .ok (.iload_n 1, 1) := by decide +kernel
theorem d_M_byteSized_1 : decode c_M_byteSized 1 = .ok (.ifCond .lt 14, 3) := by decide +kernel
theorem d_M_byteSized_4 : decode c_M_byteSized 4 = .ok (.iload_n 1, 1) := by decide +kernel
theorem d_M_byteSized_5 : decode c_M_byteSized 5 = .ok (.sipush 255, 3) := by decide +kernel
theorem d_M_byteSized_8 : decode c_M_byteSized 8 = .ok (.if_icmp .gt 7, 3) := by decide +kernel
theorem d_M_byteSized_11 : decode c_M_byteSized 11 = .ok (.iconst 1, 1) := by decide +kernel
theorem d_M_byteSized_12 : decode c_M_byteSized 12 = .ok (.goto 4, 3) := by decide +kernel
theorem d_M_byteSized_15 : decode c_M_byteSized 15 = .ok (.iconst 0, 1) := by decide +kernel
theorem d_M_byteSized_16 : decode c_M_byteSized 16 = .ok (.ireturn, 1) := by decide +kernel
theorem d_M_findAll_0 : decode c_M_findAll 0 = .ok (.iconst 0, 1) := by decide +kernel
theorem d_M_findAll_1 : decode c_M_findAll 1 = .ok (.istore_n 1, 1) := by decide +kernel
theorem d_M_findAll_2 : decode c_M_findAll 2 = .ok (.iload_n 1, 1) := by decide +kernel
theorem d_M_findAll_3 : decode c_M_findAll 3 = .ok (.aload_n 0, 1) := by decide +kernel
theorem d_M_findAll_4 : decode c_M_findAll 4 = .ok (.getfield 100, 3) := by decide +kernel
theorem d_M_findAll_7 : decode c_M_findAll 7 = .ok (.if_icmp .ge 14, 3) := by decide +kernel
theorem d_M_findAll_10 : decode c_M_findAll 10 = .ok (.aload_n 0, 1) := by decide +kernel
theorem d_M_findAll_11 : decode c_M_findAll 11 = .ok (.iload_n 1, 1) := by decide +kernel
theorem d_M_findAll_12 : decode c_M_findAll 12 = .ok (.invokevirtual 103, 3) := by decide +kernel
theorem d_M_findAll_15 : decode c_M_findAll 15 = .ok (.iinc 1 1, 3) := by decide +kernel
theorem d_M_findAll_18 : decode c_M_findAll 18 = .ok (.goto (-16), 3) := by decide +kernel
theorem d_M_findAll_21 : decode c_M_findAll 21 = .ok (.return_, 1) := by decide +kernel
theorem d_M_find_0 : decode c_M_find 0 = .ok (.iconst (-1), 1) := by decide +kernel
theorem d_M_find_1 : decode c_M_find 1 = .ok (.istore_n 2, 1) := by decide +kernel
theorem d_M_find_2 : decode c_M_find 2 = .ok (.iconst 4, 1) := by decide +kernel
theorem d_M_find_3 : decode c_M_find 3 = .ok (.iload_n 1, 1) := by decide +kernel
theorem d_M_find_4 : decode c_M_find 4 = .ok (.imul, 1) := by decide +kernel
theorem d_M_find_5 : decode c_M_find 5 = .ok (.istore_n 3, 1) := by decide +kernel
theorem d_M_find_6 : decode c_M_find 6 = .ok (.iload_n 3, 1) := by decide +kernel
theorem d_M_find_7 : decode c_M_find 7 = .ok (.iconst 4, 1) := by decide +kernel
theorem d_M_find_8 : decode c_M_find 8 = .ok (.iload_n 1, 1) := by decide +kernel
theorem d_M_find_9 : decode c_M_find 9 = .ok (.imul, 1) := by decide +kernel
theorem d_M_find_10 : decode c_M_find 10 = .ok (.iconst 4, 1) := by decide +kernel
theorem d_M_find_11 : decode c_M_find 11 = .ok (.iadd, 1) := by decide +kernel
theorem d_M_find_12 : decode c_M_find 12 = .ok (.if_icmp .ge 58, 3) := by decide +kernel
theorem d_M_find_15 : decode c_M_find 15 = .ok (.aload_n 0, 1) := by decide +kernel
theorem d_M_find_16 : decode c_M_find 16 = .ok (.getfield 45, 3) := by decide +kernel
theorem d_M_find_19 : decode c_M_find 19 = .ok (.iload_n 3, 1) := by decide +kernel
theorem d_M_find_20 : decode c_M_find 20 = .ok (.baload, 1) := by decide +kernel
theorem d_M_find_21 : decode c_M_find 21 = .ok (.ifCond .eq 43, 3) := by decide +kernel
theorem d_M_find_24 : decode c_M_find 24 = .ok (.iload_n 2, 1) := by decide +kernel
theorem d_M_find_25 : decode c_M_find 25 = .ok (.ifCond .ge 12, 3) := by decide +kernel
theorem d_M_find_28 : decode c_M_find 28 = .ok (.aload_n 0, 1) := by decide +kernel
theorem d_M_find_29 : decode c_M_find 29 = .ok (.iload_n 1, 1) := by decide +kernel
theorem d_M_find_30 : decode c_M_find 30 = .ok (.iconst (-1), 1) := by decide +kernel
theorem d_M_find_31 : decode c_M_find 31 = .ok (.invokevirtual 82, 3) := by decide +kernel
theorem d_M_find_34 : decode c_M_find 34 = .ok (.goto 8, 3) := by decide +kernel
theorem d_M_find_37 : decode c_M_find 37 = .ok (.aload_n 0, 1) := by decide +kernel
theorem d_M_find_38 : decode c_M_find 38 = .ok (.iload_n 2, 1) := by decide +kernel
theorem d_M_find_39 : decode c_M_find 39 = .ok (.invokevirtual 86, 3) := by decide +kernel
theorem d_M_find_42 : decode c_M_find 42 = .ok (.aload_n 0, 1) := by decide +kernel
theorem d_M_find_43 : decode c_M_find 43 = .ok (.invokevirtual 90, 3) := by decide +kernel
theorem d_M_find_46 : decode c_M_find 46 = .ok (.aload_n 0, 1) := by decide +kernel
theorem d_M_find_47 : decode c_M_find 47 = .ok (.iload_n 3, 1) := by decide +kernel
theorem d_M_find_48 : decode c_M_find 48 = .ok (.invokevirtual 86, 3) := by decide +kernel
theorem d_M_find_51 : decode c_M_find 51 = .ok (.aload_n 0, 1) := by decide +kernel
theorem d_M_find_52 : decode c_M_find 52 = .ok (.invokevirtual 93, 3) := by decide +kernel
theorem d_M_find_55 : decode c_M_find 55 = .ok (.ifCond .eq 7, 3) := by decide +kernel
theorem d_M_find_58 : decode c_M_find 58 = .ok (.iload_n 3, 1) := by decide +kernel
theorem d_M_find_59 : decode c_M_find 59 = .ok (.goto 4, 3) := by decide +kernel
theorem d_M_find_62 : decode c_M_find 62 = .ok (.iload_n 2, 1) := by decide +kernel
theorem d_M_find_63 : decode c_M_find 63 = .ok (.istore_n 2, 1) := by decide +kernel
theorem d_M_find_64 : decode c_M_find 64 = .ok (.iinc 3 1, 3) := by decide +kernel
theorem d_M_find_67 : decode c_M_find 67 = .ok (.goto (-61), 3) := by decide +kernel
theorem d_M_find_70 : decode c_M_find 70 = .ok (.aload_n 0, 1) := by decide +kernel
theorem d_M_find_71 : decode c_M_find 71 = .ok (.getfield 69, 3) := by decide +kernel
theorem d_M_find_74 : decode c_M_find 74 = .ok (.iload_n 1, 1) := by decide +kernel
theorem d_M_find_75 : decode c_M_find 75 = .ok (.iload_n 2, 1) := by decide +kernel
theorem d_M_find_76 : decode c_M_find 76 = .ok (.iastore, 1) := by decide +kernel
theorem d_M_find_77 : decode c_M_find 77 = .ok (.iconst 4, 1) := by decide +kernel
theorem d_M_find_78 : decode c_M_find 78 = .ok (.iload_n 1, 1) := by decide +kernel
theorem d_M_find_79 : decode c_M_find 79 = .ok (.imul, 1) := by decide +kernel
theorem d_M_find_80 : decode c_M_find 80 = .ok (.istore_n 3, 1) := by decide +kernel
theorem d_M_find_81 : decode c_M_find 81 = .ok (.iload_n 3, 1) := by decide +kernel
theorem d_M_find_82 : decode c_M_find 82 = .ok (.iconst 4, 1) := by decide +kernel
theorem d_M_find_83 : decode c_M_find 83 = .ok (.iload_n 1, 1) := by decide +kernel
theorem d_M_find_84 : decode c_M_find 84 = .ok (.imul, 1) := by decide +kernel
theorem d_M_find_85 : decode c_M_find 85 = .ok (.iconst 4, 1) := by decide +kernel
theorem d_M_find_86 : decode c_M_find 86 = .ok (.iadd, 1) := by decide +kernel
theorem d_M_find_87 : decode c_M_find 87 = .ok (.if_icmp .ge 72, 3) := by decide +kernel
theorem d_M_find_90 : decode c_M_find 90 = .ok (.aload_n 0, 1) := by decide +kernel
theorem d_M_find_91 : decode c_M_find 91 = .ok (.iload_n 3, 1) := by decide +kernel
theorem d_M_find_92 : decode c_M_find 92 = .ok (.invokevirtual 97, 3) := by decide +kernel
theorem d_M_find_95 : decode c_M_find 95 = .ok (.aload_n 0, 1) := by decide +kernel
theorem d_M_find_96 : decode c_M_find 96 = .ok (.invokevirtual 90, 3) := by decide +kernel
theorem d_M_find_99 : decode c_M_find 99 = .ok (.aload_n 0, 1) := by decide +kernel
theorem d_M_find_100 : decode c_M_find 100 = .ok (.iload_n 3, 1) := by decide +kernel
theorem d_M_find_101 : decode c_M_find 101 = .ok (.invokevirtual 86, 3) := by decide +kernel
theorem d_M_find_104 : decode c_M_find 104 = .ok (.aload_n 0, 1) := by decide +kernel
theorem d_M_find_105 : decode c_M_find 105 = .ok (.getfield 42, 3) := by decide +kernel
theorem d_M_find_108 : decode c_M_find 108 = .ok (.iload_n 3, 1) := by decide +kernel
theorem d_M_find_109 : decode c_M_find 109 = .ok (.aload_n 0, 1) := by decide +kernel
theorem d_M_find_110 : decode c_M_find 110 = .ok (.getfield 39, 3) := by decide +kernel
theorem d_M_find_113 : decode c_M_find 113 = .ok (.iload_n 3, 1) := by decide +kernel
theorem d_M_find_114 : decode c_M_find 114 = .ok (.iaload, 1) := by decide +kernel
theorem d_M_find_115 : decode c_M_find 115 = .ok (.ifCond .ge 7, 3) := by decide +kernel
theorem d_M_find_118 : decode c_M_find 118 = .ok (.iconst 0, 1) := by decide +kernel
theorem d_M_find_119 : decode c_M_find 119 = .ok (.goto 33, 3) := by decide +kernel
theorem d_M_find_122 : decode c_M_find 122 = .ok (.iload_n 3, 1) := by decide +kernel
theorem d_M_find_123 : decode c_M_find 123 = .ok (.iload_n 2, 1) := by decide +kernel
theorem d_M_find_124 : decode c_M_find 124 = .ok (.if_icmp .ne 7, 3) := by decide +kernel
theorem d_M_find_127 : decode c_M_find 127 = .ok (.iconst 2, 1) := by decide +kernel
theorem d_M_find_128 : decode c_M_find 128 = .ok (.goto 24, 3) := by decide +kernel
theorem d_M_find_131 : decode c_M_find 131 = .ok (.aload_n 0, 1) := by decide +kernel
theorem d_M_find_132 : decode c_M_find 132 = .ok (.getfield 45, 3) := by decide +kernel
theorem d_M_find_135 : decode c_M_find 135 = .ok (.iload_n 3, 1) := by decide +kernel
theorem d_M_find_136 : decode c_M_find 136 = .ok (.baload, 1) := by decide +kernel
theorem d_M_find_137 : decode c_M_find 137 = .ok (.ifCond .eq 14, 3) := by decide +kernel
theorem d_M_find_140 : decode c_M_find 140 = .ok (.aload_n 0, 1) := by decide +kernel
theorem d_M_find_141 : decode c_M_find 141 = .ok (.invokevirtual 93, 3) := by decide +kernel
theorem d_M_find_144 : decode c_M_find 144 = .ok (.ifCond .eq 7, 3) := by decide +kernel
theorem d_M_find_147 : decode c_M_find 147 = .ok (.iconst 3, 1) := by decide +kernel
theorem d_M_find_148 : decode c_M_find 148 = .ok (.goto 4, 3) := by decide +kernel
theorem d_M_find_151 : decode c_M_find 151 = .ok (.iconst 1, 1) := by decide +kernel
theorem d_M_find_152 : decode c_M_find 152 = .ok (.iastore, 1) := by decide +kernel
theorem d_M_find_153 : decode c_M_find 153 = .ok (.iinc 3 1, 3) := by decide +kernel
theorem d_M_find_156 : decode c_M_find 156 = .ok (.goto (-75), 3) := by decide +kernel
theorem d_M_find_159 : decode c_M_find 159 = .ok (.return_, 1) := by decide +kernel
theorem d_M_ownOne_0 : decode c_M_ownOne 0 = .ok (.aload_n 0, 1) := by decide +kernel
theorem d_M_ownOne_1 : decode c_M_ownOne 1 = .ok (.getfield 72, 3) := by decide +kernel
theorem d_M_ownOne_4 : decode c_M_ownOne 4 = .ok (.iconst 0, 1) := by decide +kernel
theorem d_M_ownOne_5 : decode c_M_ownOne 5 = .ok (.aload_n 0, 1) := by decide +kernel
theorem d_M_ownOne_6 : decode c_M_ownOne 6 = .ok (.getfield 13, 3) := by decide +kernel
theorem d_M_ownOne_9 : decode c_M_ownOne 9 = .ok (.iload_n 1, 1) := by decide +kernel
theorem d_M_ownOne_10 : decode c_M_ownOne 10 = .ok (.iaload, 1) := by decide +kernel
theorem d_M_ownOne_11 : decode c_M_ownOne 11 = .ok (.iastore, 1) := by decide +kernel
theorem d_M_ownOne_12 : decode c_M_ownOne 12 = .ok (.aload_n 0, 1) := by decide +kernel
theorem d_M_ownOne_13 : decode c_M_ownOne 13 = .ok (.getfield 72, 3) := by decide +kernel
theorem d_M_ownOne_16 : decode c_M_ownOne 16 = .ok (.iconst 1, 1) := by decide +kernel
theorem d_M_ownOne_17 : decode c_M_ownOne 17 = .ok (.aload_n 0, 1) := by decide +kernel
theorem d_M_ownOne_18 : decode c_M_ownOne 18 = .ok (.getfield 16, 3) := by decide +kernel
theorem d_M_ownOne_21 : decode c_M_ownOne 21 = .ok (.iload_n 1, 1) := by decide +kernel
theorem d_M_ownOne_22 : decode c_M_ownOne 22 = .ok (.iaload, 1) := by decide +kernel
theorem d_M_ownOne_23 : decode c_M_ownOne 23 = .ok (.iastore, 1) := by decide +kernel
theorem d_M_ownOne_24 : decode c_M_ownOne 24 = .ok (.aload_n 0, 1) := by decide +kernel
theorem d_M_ownOne_25 : decode c_M_ownOne 25 = .ok (.getfield 72, 3) := by decide +kernel
theorem d_M_ownOne_28 : decode c_M_ownOne 28 = .ok (.iconst 2, 1) := by decide +kernel
theorem d_M_ownOne_29 : decode c_M_ownOne 29 = .ok (.aload_n 0, 1) := by decide +kernel
theorem d_M_ownOne_30 : decode c_M_ownOne 30 = .ok (.getfield 19, 3) := by decide +kernel
theorem d_M_ownOne_33 : decode c_M_ownOne 33 = .ok (.iload_n 1, 1) := by decide +kernel
theorem d_M_ownOne_34 : decode c_M_ownOne 34 = .ok (.iaload, 1) := by decide +kernel
theorem d_M_ownOne_35 : decode c_M_ownOne 35 = .ok (.iastore, 1) := by decide +kernel
theorem d_M_ownOne_36 : decode c_M_ownOne 36 = .ok (.aload_n 0, 1) := by decide +kernel
theorem d_M_ownOne_37 : decode c_M_ownOne 37 = .ok (.getfield 72, 3) := by decide +kernel
theorem d_M_ownOne_40 : decode c_M_ownOne 40 = .ok (.iconst 3, 1) := by decide +kernel
theorem d_M_ownOne_41 : decode c_M_ownOne 41 = .ok (.aload_n 0, 1) := by decide +kernel
theorem d_M_ownOne_42 : decode c_M_ownOne 42 = .ok (.getfield 7, 3) := by decide +kernel
theorem d_M_ownOne_45 : decode c_M_ownOne 45 = .ok (.iload_n 1, 1) := by decide +kernel
theorem d_M_ownOne_46 : decode c_M_ownOne 46 = .ok (.iaload, 1) := by decide +kernel
theorem d_M_ownOne_47 : decode c_M_ownOne 47 = .ok (.iastore, 1) := by decide +kernel
theorem d_M_ownOne_48 : decode c_M_ownOne 48 = .ok (.aload_n 0, 1) := by decide +kernel
theorem d_M_ownOne_49 : decode c_M_ownOne 49 = .ok (.getfield 72, 3) := by decide +kernel
theorem d_M_ownOne_52 : decode c_M_ownOne 52 = .ok (.iconst 4, 1) := by decide +kernel
theorem d_M_ownOne_53 : decode c_M_ownOne 53 = .ok (.iconst 0, 1) := by decide +kernel
theorem d_M_ownOne_54 : decode c_M_ownOne 54 = .ok (.iastore, 1) := by decide +kernel
theorem d_M_ownOne_55 : decode c_M_ownOne 55 = .ok (.aload_n 0, 1) := by decide +kernel
theorem d_M_ownOne_56 : decode c_M_ownOne 56 = .ok (.getfield 72, 3) := by decide +kernel
theorem d_M_ownOne_59 : decode c_M_ownOne 59 = .ok (.iconst 5, 1) := by decide +kernel
theorem d_M_ownOne_60 : decode c_M_ownOne 60 = .ok (.aload_n 0, 1) := by decide +kernel
theorem d_M_ownOne_61 : decode c_M_ownOne 61 = .ok (.getfield 7, 3) := by decide +kernel
theorem d_M_ownOne_64 : decode c_M_ownOne 64 = .ok (.iload_n 1, 1) := by decide +kernel
theorem d_M_ownOne_65 : decode c_M_ownOne 65 = .ok (.iaload, 1) := by decide +kernel
theorem d_M_ownOne_66 : decode c_M_ownOne 66 = .ok (.iastore, 1) := by decide +kernel
theorem d_M_ownOne_67 : decode c_M_ownOne 67 = .ok (.aload_n 0, 1) := by decide +kernel
theorem d_M_ownOne_68 : decode c_M_ownOne 68 = .ok (.getfield 72, 3) := by decide +kernel
theorem d_M_ownOne_71 : decode c_M_ownOne 71 = .ok (.bipush 6, 2) := by decide +kernel
theorem d_M_ownOne_73 : decode c_M_ownOne 73 = .ok (.iload_n 2, 1) := by decide +kernel
theorem d_M_ownOne_74 : decode c_M_ownOne 74 = .ok (.iastore, 1) := by decide +kernel
theorem d_M_ownOne_75 : decode c_M_ownOne 75 = .ok (.aload_n 0, 1) := by decide +kernel
theorem d_M_ownOne_76 : decode c_M_ownOne 76 = .ok (.getfield 72, 3) := by decide +kernel
theorem d_M_ownOne_79 : decode c_M_ownOne 79 = .ok (.bipush 7, 2) := by decide +kernel
theorem d_M_ownOne_81 : decode c_M_ownOne 81 = .ok (.iload_n 2, 1) := by decide +kernel
theorem d_M_ownOne_82 : decode c_M_ownOne 82 = .ok (.iastore, 1) := by decide +kernel
theorem d_M_ownOne_83 : decode c_M_ownOne 83 = .ok (.return_, 1) := by decide +kernel
theorem d_M_keptOne_0 : decode c_M_keptOne 0 = .ok (.iconst 0, 1) := by decide +kernel
theorem d_M_keptOne_1 : decode c_M_keptOne 1 = .ok (.istore_n 2, 1) := by decide +kernel
theorem d_M_keptOne_2 : decode c_M_keptOne 2 = .ok (.iload_n 2, 1) := by decide +kernel
theorem d_M_keptOne_3 : decode c_M_keptOne 3 = .ok (.bipush 8, 2) := by decide +kernel
theorem d_M_keptOne_5 : decode c_M_keptOne 5 = .ok (.if_icmp .ge 26, 3) := by decide +kernel
theorem d_M_keptOne_8 : decode c_M_keptOne 8 = .ok (.aload_n 0, 1) := by decide +kernel
theorem d_M_keptOne_9 : decode c_M_keptOne 9 = .ok (.getfield 72, 3) := by decide +kernel
theorem d_M_keptOne_12 : decode c_M_keptOne 12 = .ok (.iload_n 2, 1) := by decide +kernel
theorem d_M_keptOne_13 : decode c_M_keptOne 13 = .ok (.aload_n 0, 1) := by decide +kernel
theorem d_M_keptOne_14 : decode c_M_keptOne 14 = .ok (.getfield 51, 3) := by decide +kernel
theorem d_M_keptOne_17 : decode c_M_keptOne 17 = .ok (.bipush 8, 2) := by decide +kernel
theorem d_M_keptOne_19 : decode c_M_keptOne 19 = .ok (.iload_n 1, 1) := by decide +kernel
theorem d_M_keptOne_20 : decode c_M_keptOne 20 = .ok (.imul, 1) := by decide +kernel
theorem d_M_keptOne_21 : decode c_M_keptOne 21 = .ok (.iload_n 2, 1) := by decide +kernel
theorem d_M_keptOne_22 : decode c_M_keptOne 22 = .ok (.iadd, 1) := by decide +kernel
theorem d_M_keptOne_23 : decode c_M_keptOne 23 = .ok (.iaload, 1) := by decide +kernel
theorem d_M_keptOne_24 : decode c_M_keptOne 24 = .ok (.iastore, 1) := by decide +kernel
theorem d_M_keptOne_25 : decode c_M_keptOne 25 = .ok (.iinc 2 1, 3) := by decide +kernel
theorem d_M_keptOne_28 : decode c_M_keptOne 28 = .ok (.goto (-26), 3) := by decide +kernel
theorem d_M_keptOne_31 : decode c_M_keptOne 31 = .ok (.return_, 1) := by decide +kernel
theorem d_M_turnRound_0 : decode c_M_turnRound 0 = .ok (.iconst 0, 1) := by decide +kernel
theorem d_M_turnRound_1 : decode c_M_turnRound 1 = .ok (.istore_n 1, 1) := by decide +kernel
theorem d_M_turnRound_2 : decode c_M_turnRound 2 = .ok (.iload_n 1, 1) := by decide +kernel
theorem d_M_turnRound_3 : decode c_M_turnRound 3 = .ok (.bipush 8, 2) := by decide +kernel
theorem d_M_turnRound_5 : decode c_M_turnRound 5 = .ok (.if_icmp .ge 21, 3) := by decide +kernel
theorem d_M_turnRound_8 : decode c_M_turnRound 8 = .ok (.aload_n 0, 1) := by decide +kernel
theorem d_M_turnRound_9 : decode c_M_turnRound 9 = .ok (.getfield 75, 3) := by decide +kernel
theorem d_M_turnRound_12 : decode c_M_turnRound 12 = .ok (.iload_n 1, 1) := by decide +kernel
theorem d_M_turnRound_13 : decode c_M_turnRound 13 = .ok (.aload_n 0, 1) := by decide +kernel
theorem d_M_turnRound_14 : decode c_M_turnRound 14 = .ok (.getfield 72, 3) := by decide +kernel
theorem d_M_turnRound_17 : decode c_M_turnRound 17 = .ok (.iload_n 1, 1) := by decide +kernel
theorem d_M_turnRound_18 : decode c_M_turnRound 18 = .ok (.iaload, 1) := by decide +kernel
theorem d_M_turnRound_19 : decode c_M_turnRound 19 = .ok (.iastore, 1) := by decide +kernel
theorem d_M_turnRound_20 : decode c_M_turnRound 20 = .ok (.iinc 1 1, 3) := by decide +kernel
theorem d_M_turnRound_23 : decode c_M_turnRound 23 = .ok (.goto (-21), 3) := by decide +kernel
theorem d_M_turnRound_26 : decode c_M_turnRound 26 = .ok (.return_, 1) := by decide +kernel
theorem d_M_better_0 : decode c_M_better 0 = .ok (.iconst 0, 1) := by decide +kernel
theorem d_M_better_1 : decode c_M_better 1 = .ok (.istore_n 1, 1) := by decide +kernel
theorem d_M_better_2 : decode c_M_better 2 = .ok (.iload_n 1, 1) := by decide +kernel
theorem d_M_better_3 : decode c_M_better 3 = .ok (.bipush 8, 2) := by decide +kernel
theorem d_M_better_5 : decode c_M_better 5 = .ok (.if_icmp .ge 45, 3) := by decide +kernel
theorem d_M_better_8 : decode c_M_better 8 = .ok (.aload_n 0, 1) := by decide +kernel
theorem d_M_better_9 : decode c_M_better 9 = .ok (.getfield 72, 3) := by decide +kernel
theorem d_M_better_12 : decode c_M_better 12 = .ok (.iload_n 1, 1) := by decide +kernel
theorem d_M_better_13 : decode c_M_better 13 = .ok (.iaload, 1) := by decide +kernel
theorem d_M_better_14 : decode c_M_better 14 = .ok (.aload_n 0, 1) := by decide +kernel
theorem d_M_better_15 : decode c_M_better 15 = .ok (.getfield 75, 3) := by decide +kernel
theorem d_M_better_18 : decode c_M_better 18 = .ok (.iload_n 1, 1) := by decide +kernel
theorem d_M_better_19 : decode c_M_better 19 = .ok (.iaload, 1) := by decide +kernel
theorem d_M_better_20 : decode c_M_better 20 = .ok (.if_icmp .eq 24, 3) := by decide +kernel
theorem d_M_better_23 : decode c_M_better 23 = .ok (.aload_n 0, 1) := by decide +kernel
theorem d_M_better_24 : decode c_M_better 24 = .ok (.getfield 72, 3) := by decide +kernel
theorem d_M_better_27 : decode c_M_better 27 = .ok (.iload_n 1, 1) := by decide +kernel
theorem d_M_better_28 : decode c_M_better 28 = .ok (.iaload, 1) := by decide +kernel
theorem d_M_better_29 : decode c_M_better 29 = .ok (.aload_n 0, 1) := by decide +kernel
theorem d_M_better_30 : decode c_M_better 30 = .ok (.getfield 75, 3) := by decide +kernel
theorem d_M_better_33 : decode c_M_better 33 = .ok (.iload_n 1, 1) := by decide +kernel
theorem d_M_better_34 : decode c_M_better 34 = .ok (.iaload, 1) := by decide +kernel
theorem d_M_better_35 : decode c_M_better 35 = .ok (.if_icmp .ge 7, 3) := by decide +kernel
theorem d_M_better_38 : decode c_M_better 38 = .ok (.iconst 1, 1) := by decide +kernel
theorem d_M_better_39 : decode c_M_better 39 = .ok (.goto 4, 3) := by decide +kernel
theorem d_M_better_42 : decode c_M_better 42 = .ok (.iconst 0, 1) := by decide +kernel
theorem d_M_better_43 : decode c_M_better 43 = .ok (.ireturn, 1) := by decide +kernel
theorem d_M_better_44 : decode c_M_better 44 = .ok (.iinc 1 1, 3) := by decide +kernel
theorem d_M_better_47 : decode c_M_better 47 = .ok (.goto (-45), 3) := by decide +kernel
theorem d_M_better_50 : decode c_M_better 50 = .ok (.iconst 0, 1) := by decide +kernel
theorem d_M_better_51 : decode c_M_better 51 = .ok (.ireturn, 1) := by decide +kernel
theorem d_M_toldOne_0 : decode c_M_toldOne 0 = .ok (.iload_n 1, 1) := by decide +kernel
theorem d_M_toldOne_1 : decode c_M_toldOne 1 = .ok (.iconst 4, 1) := by decide +kernel
theorem d_M_toldOne_2 : decode c_M_toldOne 2 = .ok (.idiv, 1) := by decide +kernel
theorem d_M_toldOne_3 : decode c_M_toldOne 3 = .ok (.istore_n 2, 1) := by decide +kernel
theorem d_M_toldOne_4 : decode c_M_toldOne 4 = .ok (.aload_n 0, 1) := by decide +kernel
theorem d_M_toldOne_5 : decode c_M_toldOne 5 = .ok (.getfield 69, 3) := by decide +kernel
theorem d_M_toldOne_8 : decode c_M_toldOne 8 = .ok (.iload_n 2, 1) := by decide +kernel
theorem d_M_toldOne_9 : decode c_M_toldOne 9 = .ok (.iaload, 1) := by decide +kernel
theorem d_M_toldOne_10 : decode c_M_toldOne 10 = .ok (.istore_n 3, 1) := by decide +kernel
theorem d_M_toldOne_11 : decode c_M_toldOne 11 = .ok (.iload_n 3, 1) := by decide +kernel
theorem d_M_toldOne_12 : decode c_M_toldOne 12 = .ok (.ifCond .ge 14, 3) := by decide +kernel
theorem d_M_toldOne_15 : decode c_M_toldOne 15 = .ok (.aload_n 0, 1) := by decide +kernel
theorem d_M_toldOne_16 : decode c_M_toldOne 16 = .ok (.iload_n 2, 1) := by decide +kernel
theorem d_M_toldOne_17 : decode c_M_toldOne 17 = .ok (.iload_n 1, 1) := by decide +kernel
theorem d_M_toldOne_18 : decode c_M_toldOne 18 = .ok (.iconst 4, 1) := by decide +kernel
theorem d_M_toldOne_19 : decode c_M_toldOne 19 = .ok (.irem, 1) := by decide +kernel
theorem d_M_toldOne_20 : decode c_M_toldOne 20 = .ok (.invokevirtual 82, 3) := by decide +kernel
theorem d_M_toldOne_23 : decode c_M_toldOne 23 = .ok (.goto 54, 3) := by decide +kernel
theorem d_M_toldOne_26 : decode c_M_toldOne 26 = .ok (.aload_n 0, 1) := by decide +kernel
theorem d_M_toldOne_27 : decode c_M_toldOne 27 = .ok (.iload_n 3, 1) := by decide +kernel
theorem d_M_toldOne_28 : decode c_M_toldOne 28 = .ok (.invokevirtual 86, 3) := by decide +kernel
theorem d_M_toldOne_31 : decode c_M_toldOne 31 = .ok (.aload_n 0, 1) := by decide +kernel
theorem d_M_toldOne_32 : decode c_M_toldOne 32 = .ok (.getfield 72, 3) := by decide +kernel
theorem d_M_toldOne_35 : decode c_M_toldOne 35 = .ok (.iconst 4, 1) := by decide +kernel
theorem d_M_toldOne_36 : decode c_M_toldOne 36 = .ok (.aload_n 0, 1) := by decide +kernel
theorem d_M_toldOne_37 : decode c_M_toldOne 37 = .ok (.getfield 72, 3) := by decide +kernel
theorem d_M_toldOne_40 : decode c_M_toldOne 40 = .ok (.iconst 4, 1) := by decide +kernel
theorem d_M_toldOne_41 : decode c_M_toldOne 41 = .ok (.iaload, 1) := by decide +kernel
theorem d_M_toldOne_42 : decode c_M_toldOne 42 = .ok (.iconst 1, 1) := by decide +kernel
theorem d_M_toldOne_43 : decode c_M_toldOne 43 = .ok (.iadd, 1) := by decide +kernel
theorem d_M_toldOne_44 : decode c_M_toldOne 44 = .ok (.iastore, 1) := by decide +kernel
theorem d_M_toldOne_45 : decode c_M_toldOne 45 = .ok (.aload_n 0, 1) := by decide +kernel
theorem d_M_toldOne_46 : decode c_M_toldOne 46 = .ok (.getfield 72, 3) := by decide +kernel
theorem d_M_toldOne_49 : decode c_M_toldOne 49 = .ok (.iconst 5, 1) := by decide +kernel
theorem d_M_toldOne_50 : decode c_M_toldOne 50 = .ok (.aload_n 0, 1) := by decide +kernel
theorem d_M_toldOne_51 : decode c_M_toldOne 51 = .ok (.getfield 7, 3) := by decide +kernel
theorem d_M_toldOne_54 : decode c_M_toldOne 54 = .ok (.iload_n 2, 1) := by decide +kernel
theorem d_M_toldOne_55 : decode c_M_toldOne 55 = .ok (.iaload, 1) := by decide +kernel
theorem d_M_toldOne_56 : decode c_M_toldOne 56 = .ok (.iastore, 1) := by decide +kernel
theorem d_M_toldOne_57 : decode c_M_toldOne 57 = .ok (.aload_n 0, 1) := by decide +kernel
theorem d_M_toldOne_58 : decode c_M_toldOne 58 = .ok (.getfield 72, 3) := by decide +kernel
theorem d_M_toldOne_61 : decode c_M_toldOne 61 = .ok (.bipush 6, 2) := by decide +kernel
theorem d_M_toldOne_63 : decode c_M_toldOne 63 = .ok (.iload_n 1, 1) := by decide +kernel
theorem d_M_toldOne_64 : decode c_M_toldOne 64 = .ok (.iconst 4, 1) := by decide +kernel
theorem d_M_toldOne_65 : decode c_M_toldOne 65 = .ok (.irem, 1) := by decide +kernel
theorem d_M_toldOne_66 : decode c_M_toldOne 66 = .ok (.iastore, 1) := by decide +kernel
theorem d_M_toldOne_67 : decode c_M_toldOne 67 = .ok (.aload_n 0, 1) := by decide +kernel
theorem d_M_toldOne_68 : decode c_M_toldOne 68 = .ok (.getfield 72, 3) := by decide +kernel
theorem d_M_toldOne_71 : decode c_M_toldOne 71 = .ok (.bipush 7, 2) := by decide +kernel
theorem d_M_toldOne_73 : decode c_M_toldOne 73 = .ok (.iload_n 1, 1) := by decide +kernel
theorem d_M_toldOne_74 : decode c_M_toldOne 74 = .ok (.iconst 4, 1) := by decide +kernel
theorem d_M_toldOne_75 : decode c_M_toldOne 75 = .ok (.irem, 1) := by decide +kernel
theorem d_M_toldOne_76 : decode c_M_toldOne 76 = .ok (.iastore, 1) := by decide +kernel
theorem d_M_toldOne_77 : decode c_M_toldOne 77 = .ok (.return_, 1) := by decide +kernel
theorem d_M_link_0 : decode c_M_link 0 = .ok (.aload_n 0, 1) := by decide +kernel
theorem d_M_link_1 : decode c_M_link 1 = .ok (.iload_n 1, 1) := by decide +kernel
theorem d_M_link_2 : decode c_M_link 2 = .ok (.iload_n 2, 1) := by decide +kernel
theorem d_M_link_3 : decode c_M_link 3 = .ok (.invokevirtual 119, 3) := by decide +kernel
theorem d_M_link_6 : decode c_M_link 6 = .ok (.ifCond .ne 36, 3) := by decide +kernel
theorem d_M_link_9 : decode c_M_link 9 = .ok (.aload_n 0, 1) := by decide +kernel
theorem d_M_link_10 : decode c_M_link 10 = .ok (.iload_n 3, 1) := by decide +kernel
theorem d_M_link_11 : decode c_M_link 11 = .ok (.iload 4, 2) := by decide +kernel
theorem d_M_link_13 : decode c_M_link 13 = .ok (.invokevirtual 119, 3) := by decide +kernel
theorem d_M_link_16 : decode c_M_link 16 = .ok (.ifCond .ne 26, 3) := by decide +kernel
theorem d_M_link_19 : decode c_M_link 19 = .ok (.iload_n 1, 1) := by decide +kernel
theorem d_M_link_20 : decode c_M_link 20 = .ok (.iload_n 3, 1) := by decide +kernel
theorem d_M_link_21 : decode c_M_link 21 = .ok (.if_icmp .eq 21, 3) := by decide +kernel
theorem d_M_link_24 : decode c_M_link 24 = .ok (.aload_n 0, 1) := by decide +kernel
theorem d_M_link_25 : decode c_M_link 25 = .ok (.iload 5, 2) := by decide +kernel
theorem d_M_link_27 : decode c_M_link 27 = .ok (.invokevirtual 123, 3) := by decide +kernel
theorem d_M_link_30 : decode c_M_link 30 = .ok (.ifCond .ne 12, 3) := by decide +kernel
theorem d_M_link_33 : decode c_M_link 33 = .ok (.aload_n 0, 1) := by decide +kernel
theorem d_M_link_34 : decode c_M_link 34 = .ok (.iload 6, 2) := by decide +kernel
theorem d_M_link_36 : decode c_M_link 36 = .ok (.invokevirtual 123, 3) := by decide +kernel
theorem d_M_link_39 : decode c_M_link 39 = .ok (.ifCond .eq 7, 3) := by decide +kernel
theorem d_M_link_42 : decode c_M_link 42 = .ok (.iconst 1, 1) := by decide +kernel
theorem d_M_link_43 : decode c_M_link 43 = .ok (.goto 4, 3) := by decide +kernel
theorem d_M_link_46 : decode c_M_link 46 = .ok (.iconst 0, 1) := by decide +kernel
theorem d_M_link_47 : decode c_M_link 47 = .ok (.istore 7, 2) := by decide +kernel
theorem d_M_link_49 : decode c_M_link 49 = .ok (.aload_n 0, 1) := by decide +kernel
theorem d_M_link_50 : decode c_M_link 50 = .ok (.iload 7, 2) := by decide +kernel
theorem d_M_link_52 : decode c_M_link 52 = .ok (.ifCond .eq 7, 3) := by decide +kernel
theorem d_M_link_55 : decode c_M_link 55 = .ok (.iconst 1, 1) := by decide +kernel
theorem d_M_link_56 : decode c_M_link 56 = .ok (.goto 44, 3) := by decide +kernel
theorem d_M_link_59 : decode c_M_link 59 = .ok (.aload_n 0, 1) := by decide +kernel
theorem d_M_link_60 : decode c_M_link 60 = .ok (.getfield 126, 3) := by decide +kernel
theorem d_M_link_63 : decode c_M_link 63 = .ok (.bipush 16, 2) := by decide +kernel
theorem d_M_link_65 : decode c_M_link 65 = .ok (.if_icmp .eq 30, 3) := by decide +kernel
theorem d_M_link_68 : decode c_M_link 68 = .ok (.aload_n 0, 1) := by decide +kernel
theorem d_M_link_69 : decode c_M_link 69 = .ok (.getfield 39, 3) := by decide +kernel
theorem d_M_link_72 : decode c_M_link 72 = .ok (.iconst 4, 1) := by decide +kernel
theorem d_M_link_73 : decode c_M_link 73 = .ok (.iload_n 1, 1) := by decide +kernel
theorem d_M_link_74 : decode c_M_link 74 = .ok (.imul, 1) := by decide +kernel
theorem d_M_link_75 : decode c_M_link 75 = .ok (.iload_n 2, 1) := by decide +kernel
theorem d_M_link_76 : decode c_M_link 76 = .ok (.iadd, 1) := by decide +kernel
theorem d_M_link_77 : decode c_M_link 77 = .ok (.iaload, 1) := by decide +kernel
theorem d_M_link_78 : decode c_M_link 78 = .ok (.ifCond .ge 17, 3) := by decide +kernel
theorem d_M_link_81 : decode c_M_link 81 = .ok (.aload_n 0, 1) := by decide +kernel
theorem d_M_link_82 : decode c_M_link 82 = .ok (.getfield 39, 3) := by decide +kernel
theorem d_M_link_85 : decode c_M_link 85 = .ok (.iconst 4, 1) := by decide +kernel
theorem d_M_link_86 : decode c_M_link 86 = .ok (.iload_n 3, 1) := by decide +kernel
theorem d_M_link_87 : decode c_M_link 87 = .ok (.imul, 1) := by decide +kernel
theorem d_M_link_88 : decode c_M_link 88 = .ok (.iload 4, 2) := by decide +kernel
theorem d_M_link_90 : decode c_M_link 90 = .ok (.iadd, 1) := by decide +kernel
theorem d_M_link_91 : decode c_M_link 91 = .ok (.iaload, 1) := by decide +kernel
theorem d_M_link_92 : decode c_M_link 92 = .ok (.ifCond .lt 7, 3) := by decide +kernel
theorem d_M_link_95 : decode c_M_link 95 = .ok (.iconst 2, 1) := by decide +kernel
theorem d_M_link_96 : decode c_M_link 96 = .ok (.goto 4, 3) := by decide +kernel
theorem d_M_link_99 : decode c_M_link 99 = .ok (.iconst 0, 1) := by decide +kernel
theorem d_M_link_100 : decode c_M_link 100 = .ok (.putfield 78, 3) := by decide +kernel
theorem d_M_link_103 : decode c_M_link 103 = .ok (.aload_n 0, 1) := by decide +kernel
theorem d_M_link_104 : decode c_M_link 104 = .ok (.getfield 78, 3) := by decide +kernel
theorem d_M_link_107 : decode c_M_link 107 = .ok (.ifCond .eq 5, 3) := by decide +kernel
theorem d_M_link_110 : decode c_M_link 110 = .ok (.iconst 0, 1) := by decide +kernel
theorem d_M_link_111 : decode c_M_link 111 = .ok (.ireturn, 1) := by decide +kernel
theorem d_M_link_112 : decode c_M_link 112 = .ok (.aload_n 0, 1) := by decide +kernel
theorem d_M_link_113 : decode c_M_link 113 = .ok (.getfield 29, 3) := by decide +kernel
theorem d_M_link_116 : decode c_M_link 116 = .ok (.iconst 2, 1) := by decide +kernel
theorem d_M_link_117 : decode c_M_link 117 = .ok (.aload_n 0, 1) := by decide +kernel
theorem d_M_link_118 : decode c_M_link 118 = .ok (.getfield 126, 3) := by decide +kernel
theorem d_M_link_121 : decode c_M_link 121 = .ok (.imul, 1) := by decide +kernel
theorem d_M_link_122 : decode c_M_link 122 = .ok (.iconst 4, 1) := by decide +kernel
theorem d_M_link_123 : decode c_M_link 123 = .ok (.iload_n 1, 1) := by decide +kernel
theorem d_M_link_124 : decode c_M_link 124 = .ok (.imul, 1) := by decide +kernel
theorem d_M_link_125 : decode c_M_link 125 = .ok (.iload_n 2, 1) := by decide +kernel
theorem d_M_link_126 : decode c_M_link 126 = .ok (.iadd, 1) := by decide +kernel
theorem d_M_link_127 : decode c_M_link 127 = .ok (.iastore, 1) := by decide +kernel
theorem d_M_link_128 : decode c_M_link 128 = .ok (.aload_n 0, 1) := by decide +kernel
theorem d_M_link_129 : decode c_M_link 129 = .ok (.getfield 29, 3) := by decide +kernel
theorem d_M_link_132 : decode c_M_link 132 = .ok (.iconst 2, 1) := by decide +kernel
theorem d_M_link_133 : decode c_M_link 133 = .ok (.aload_n 0, 1) := by decide +kernel
theorem d_M_link_134 : decode c_M_link 134 = .ok (.getfield 126, 3) := by decide +kernel
theorem d_M_link_137 : decode c_M_link 137 = .ok (.imul, 1) := by decide +kernel
theorem d_M_link_138 : decode c_M_link 138 = .ok (.iconst 1, 1) := by decide +kernel
theorem d_M_link_139 : decode c_M_link 139 = .ok (.iadd, 1) := by decide +kernel
theorem d_M_link_140 : decode c_M_link 140 = .ok (.iconst 4, 1) := by decide +kernel
theorem d_M_link_141 : decode c_M_link 141 = .ok (.iload_n 3, 1) := by decide +kernel
theorem d_M_link_142 : decode c_M_link 142 = .ok (.imul, 1) := by decide +kernel
theorem d_M_link_143 : decode c_M_link 143 = .ok (.iload 4, 2) := by decide +kernel
theorem d_M_link_145 : decode c_M_link 145 = .ok (.iadd, 1) := by decide +kernel
theorem d_M_link_146 : decode c_M_link 146 = .ok (.iastore, 1) := by decide +kernel
theorem d_M_link_147 : decode c_M_link 147 = .ok (.aload_n 0, 1) := by decide +kernel
theorem d_M_link_148 : decode c_M_link 148 = .ok (.getfield 32, 3) := by decide +kernel
theorem d_M_link_151 : decode c_M_link 151 = .ok (.iconst 2, 1) := by decide +kernel
theorem d_M_link_152 : decode c_M_link 152 = .ok (.aload_n 0, 1) := by decide +kernel
theorem d_M_link_153 : decode c_M_link 153 = .ok (.getfield 126, 3) := by decide +kernel
theorem d_M_link_156 : decode c_M_link 156 = .ok (.imul, 1) := by decide +kernel
theorem d_M_link_157 : decode c_M_link 157 = .ok (.iload 5, 2) := by decide +kernel
theorem d_M_link_159 : decode c_M_link 159 = .ok (.iastore, 1) := by decide +kernel
theorem d_M_link_160 : decode c_M_link 160 = .ok (.aload_n 0, 1) := by decide +kernel
theorem d_M_link_161 : decode c_M_link 161 = .ok (.getfield 32, 3) := by decide +kernel
theorem d_M_link_164 : decode c_M_link 164 = .ok (.iconst 2, 1) := by decide +kernel
theorem d_M_link_165 : decode c_M_link 165 = .ok (.aload_n 0, 1) := by decide +kernel
theorem d_M_link_166 : decode c_M_link 166 = .ok (.getfield 126, 3) := by decide +kernel
theorem d_M_link_169 : decode c_M_link 169 = .ok (.imul, 1) := by decide +kernel
theorem d_M_link_170 : decode c_M_link 170 = .ok (.iconst 1, 1) := by decide +kernel
theorem d_M_link_171 : decode c_M_link 171 = .ok (.iadd, 1) := by decide +kernel
theorem d_M_link_172 : decode c_M_link 172 = .ok (.iload 6, 2) := by decide +kernel
theorem d_M_link_174 : decode c_M_link 174 = .ok (.iastore, 1) := by decide +kernel
theorem d_M_link_175 : decode c_M_link 175 = .ok (.aload_n 0, 1) := by decide +kernel
theorem d_M_link_176 : decode c_M_link 176 = .ok (.getfield 35, 3) := by decide +kernel
theorem d_M_link_179 : decode c_M_link 179 = .ok (.aload_n 0, 1) := by decide +kernel
theorem d_M_link_180 : decode c_M_link 180 = .ok (.getfield 126, 3) := by decide +kernel
theorem d_M_link_183 : decode c_M_link 183 = .ok (.iconst 1, 1) := by decide +kernel
theorem d_M_link_184 : decode c_M_link 184 = .ok (.bastore, 1) := by decide +kernel
theorem d_M_link_185 : decode c_M_link 185 = .ok (.aload_n 0, 1) := by decide +kernel
theorem d_M_link_186 : decode c_M_link 186 = .ok (.getfield 39, 3) := by decide +kernel
theorem d_M_link_189 : decode c_M_link 189 = .ok (.iconst 4, 1) := by decide +kernel
theorem d_M_link_190 : decode c_M_link 190 = .ok (.iload_n 1, 1) := by decide +kernel
theorem d_M_link_191 : decode c_M_link 191 = .ok (.imul, 1) := by decide +kernel
theorem d_M_link_192 : decode c_M_link 192 = .ok (.iload_n 2, 1) := by decide +kernel
theorem d_M_link_193 : decode c_M_link 193 = .ok (.iadd, 1) := by decide +kernel
theorem d_M_link_194 : decode c_M_link 194 = .ok (.aload_n 0, 1) := by decide +kernel
theorem d_M_link_195 : decode c_M_link 195 = .ok (.getfield 126, 3) := by decide +kernel
theorem d_M_link_198 : decode c_M_link 198 = .ok (.iastore, 1) := by decide +kernel
theorem d_M_link_199 : decode c_M_link 199 = .ok (.aload_n 0, 1) := by decide +kernel
theorem d_M_link_200 : decode c_M_link 200 = .ok (.getfield 39, 3) := by decide +kernel
theorem d_M_link_203 : decode c_M_link 203 = .ok (.iconst 4, 1) := by decide +kernel
theorem d_M_link_204 : decode c_M_link 204 = .ok (.iload_n 3, 1) := by decide +kernel
theorem d_M_link_205 : decode c_M_link 205 = .ok (.imul, 1) := by decide +kernel
theorem d_M_link_206 : decode c_M_link 206 = .ok (.iload 4, 2) := by decide +kernel
theorem d_M_link_208 : decode c_M_link 208 = .ok (.iadd, 1) := by decide +kernel
theorem d_M_link_209 : decode c_M_link 209 = .ok (.aload_n 0, 1) := by decide +kernel
theorem d_M_link_210 : decode c_M_link 210 = .ok (.getfield 126, 3) := by decide +kernel
theorem d_M_link_213 : decode c_M_link 213 = .ok (.iastore, 1) := by decide +kernel
theorem d_M_link_214 : decode c_M_link 214 = .ok (.aload_n 0, 1) := by decide +kernel
theorem d_M_link_215 : decode c_M_link 215 = .ok (.dup, 1) := by decide +kernel
theorem d_M_link_216 : decode c_M_link 216 = .ok (.getfield 126, 3) := by decide +kernel
theorem d_M_link_219 : decode c_M_link 219 = .ok (.iconst 1, 1) := by decide +kernel
theorem d_M_link_220 : decode c_M_link 220 = .ok (.iadd, 1) := by decide +kernel
theorem d_M_link_221 : decode c_M_link 221 = .ok (.putfield 126, 3) := by decide +kernel
theorem d_M_link_224 : decode c_M_link 224 = .ok (.aload_n 0, 1) := by decide +kernel
theorem d_M_link_225 : decode c_M_link 225 = .ok (.invokevirtual 112, 3) := by decide +kernel
theorem d_M_link_228 : decode c_M_link 228 = .ok (.aload_n 0, 1) := by decide +kernel
theorem d_M_link_229 : decode c_M_link 229 = .ok (.getfield 126, 3) := by decide +kernel
theorem d_M_link_232 : decode c_M_link 232 = .ok (.iconst 1, 1) := by decide +kernel
theorem d_M_link_233 : decode c_M_link 233 = .ok (.isub, 1) := by decide +kernel
theorem d_M_link_234 : decode c_M_link 234 = .ok (.ireturn, 1) := by decide +kernel
theorem d_M_noPort_0 : decode c_M_noPort 0 = .ok (.aload_n 0, 1) := by decide +kernel
theorem d_M_noPort_1 : decode c_M_noPort 1 = .ok (.iload_n 1, 1) := by decide +kernel
theorem d_M_noPort_2 : decode c_M_noPort 2 = .ok (.invokevirtual 115, 3) := by decide +kernel
theorem d_M_noPort_5 : decode c_M_noPort 5 = .ok (.ifCond .ne 12, 3) := by decide +kernel
theorem d_M_noPort_8 : decode c_M_noPort 8 = .ok (.iload_n 2, 1) := by decide +kernel
theorem d_M_noPort_9 : decode c_M_noPort 9 = .ok (.ifCond .lt 8, 3) := by decide +kernel
theorem d_M_noPort_12 : decode c_M_noPort 12 = .ok (.iload_n 2, 1) := by decide +kernel
theorem d_M_noPort_13 : decode c_M_noPort 13 = .ok (.iconst 3, 1) := by decide +kernel
theorem d_M_noPort_14 : decode c_M_noPort 14 = .ok (.if_icmp .le 7, 3) := by decide +kernel
theorem d_M_noPort_17 : decode c_M_noPort 17 = .ok (.iconst 1, 1) := by decide +kernel
theorem d_M_noPort_18 : decode c_M_noPort 18 = .ok (.goto 4, 3) := by decide +kernel
theorem d_M_noPort_21 : decode c_M_noPort 21 = .ok (.iconst 0, 1) := by decide +kernel
theorem d_M_noPort_22 : decode c_M_noPort 22 = .ok (.ireturn, 1) := by decide +kernel
theorem d_M_noNode_0 : decode c_M_noNode 0 = .ok (.iload_n 1, 1) := by decide +kernel
theorem d_M_noNode_1 : decode c_M_noNode 1 = .ok (.ifCond .lt 11, 3) := by decide +kernel
theorem d_M_noNode_4 : decode c_M_noNode 4 = .ok (.iload_n 1, 1) := by decide +kernel
theorem d_M_noNode_5 : decode c_M_noNode 5 = .ok (.aload_n 0, 1) := by decide +kernel
theorem d_M_noNode_6 : decode c_M_noNode 6 = .ok (.getfield 100, 3) := by decide +kernel
theorem d_M_noNode_9 : decode c_M_noNode 9 = .ok (.if_icmp .lt 7, 3) := by decide +kernel
theorem d_M_noNode_12 : decode c_M_noNode 12 = .ok (.iconst 1, 1) := by decide +kernel
theorem d_M_noNode_13 : decode c_M_noNode 13 = .ok (.goto 4, 3) := by decide +kernel
theorem d_M_noNode_16 : decode c_M_noNode 16 = .ok (.iconst 0, 1) := by decide +kernel
theorem d_M_noNode_17 : decode c_M_noNode 17 = .ok (.ireturn, 1) := by decide +kernel
theorem d_M_noDelay_0 : decode c_M_noDelay 0 = .ok (.iload_n 1, 1) := by decide +kernel
theorem d_M_noDelay_1 : decode c_M_noDelay 1 = .ok (.ifCond .lt 9, 3) := by decide +kernel
theorem d_M_noDelay_4 : decode c_M_noDelay 4 = .ok (.iload_n 1, 1) := by decide +kernel
theorem d_M_noDelay_5 : decode c_M_noDelay 5 = .ok (.ldc 118, 2) := by decide +kernel
theorem d_M_noDelay_7 : decode c_M_noDelay 7 = .ok (.if_icmp .le 7, 3) := by decide +kernel
theorem d_M_noDelay_10 : decode c_M_noDelay 10 = .ok (.iconst 1, 1) := by decide +kernel
theorem d_M_noDelay_11 : decode c_M_noDelay 11 = .ok (.goto 4, 3) := by decide +kernel
theorem d_M_noDelay_14 : decode c_M_noDelay 14 = .ok (.iconst 0, 1) := by decide +kernel
theorem d_M_noDelay_15 : decode c_M_noDelay 15 = .ok (.ireturn, 1) := by decide +kernel
theorem d_M_up_0 : decode c_M_up 0 = .ok (.aload_n 0, 1) := by decide +kernel
theorem d_M_up_1 : decode c_M_up 1 = .ok (.iload_n 1, 1) := by decide +kernel
theorem d_M_up_2 : decode c_M_up 2 = .ok (.ifCond .lt 11, 3) := by decide +kernel
theorem d_M_up_5 : decode c_M_up 5 = .ok (.iload_n 1, 1) := by decide +kernel
theorem d_M_up_6 : decode c_M_up 6 = .ok (.aload_n 0, 1) := by decide +kernel
theorem d_M_up_7 : decode c_M_up 7 = .ok (.getfield 126, 3) := by decide +kernel
theorem d_M_up_10 : decode c_M_up 10 = .ok (.if_icmp .lt 7, 3) := by decide +kernel
theorem d_M_up_13 : decode c_M_up 13 = .ok (.iconst 1, 1) := by decide +kernel
theorem d_M_up_14 : decode c_M_up 14 = .ok (.goto 4, 3) := by decide +kernel
theorem d_M_up_17 : decode c_M_up 17 = .ok (.iconst 0, 1) := by decide +kernel
theorem d_M_up_18 : decode c_M_up 18 = .ok (.putfield 78, 3) := by decide +kernel
theorem d_M_up_21 : decode c_M_up 21 = .ok (.aload_n 0, 1) := by decide +kernel
theorem d_M_up_22 : decode c_M_up 22 = .ok (.getfield 78, 3) := by decide +kernel
theorem d_M_up_25 : decode c_M_up 25 = .ok (.ifCond .ne 10, 3) := by decide +kernel
theorem d_M_up_28 : decode c_M_up 28 = .ok (.aload_n 0, 1) := by decide +kernel
theorem d_M_up_29 : decode c_M_up 29 = .ok (.getfield 35, 3) := by decide +kernel
theorem d_M_up_32 : decode c_M_up 32 = .ok (.iload_n 1, 1) := by decide +kernel
theorem d_M_up_33 : decode c_M_up 33 = .ok (.iload_n 2, 1) := by decide +kernel
theorem d_M_up_34 : decode c_M_up 34 = .ok (.bastore, 1) := by decide +kernel
theorem d_M_up_35 : decode c_M_up 35 = .ok (.return_, 1) := by decide +kernel
theorem d_M_priority_0 : decode c_M_priority 0 = .ok (.aload_n 0, 1) := by decide +kernel
theorem d_M_priority_1 : decode c_M_priority 1 = .ok (.aload_n 0, 1) := by decide +kernel
theorem d_M_priority_2 : decode c_M_priority 2 = .ok (.iload_n 1, 1) := by decide +kernel
theorem d_M_priority_3 : decode c_M_priority 3 = .ok (.invokevirtual 115, 3) := by decide +kernel
theorem d_M_priority_6 : decode c_M_priority 6 = .ok (.ifCond .ne 11, 3) := by decide +kernel
theorem d_M_priority_9 : decode c_M_priority 9 = .ok (.aload_n 0, 1) := by decide +kernel
theorem d_M_priority_10 : decode c_M_priority 10 = .ok (.iload_n 2, 1) := by decide +kernel
theorem d_M_priority_11 : decode c_M_priority 11 = .ok (.invokevirtual 106, 3) := by decide +kernel
theorem d_M_priority_14 : decode c_M_priority 14 = .ok (.ifCond .ne 7, 3) := by decide +kernel
theorem d_M_priority_17 : decode c_M_priority 17 = .ok (.iconst 1, 1) := by decide +kernel
theorem d_M_priority_18 : decode c_M_priority 18 = .ok (.goto 4, 3) := by decide +kernel
theorem d_M_priority_21 : decode c_M_priority 21 = .ok (.iconst 0, 1) := by decide +kernel
theorem d_M_priority_22 : decode c_M_priority 22 = .ok (.putfield 78, 3) := by decide +kernel
theorem d_M_priority_25 : decode c_M_priority 25 = .ok (.aload_n 0, 1) := by decide +kernel
theorem d_M_priority_26 : decode c_M_priority 26 = .ok (.getfield 78, 3) := by decide +kernel
theorem d_M_priority_29 : decode c_M_priority 29 = .ok (.ifCond .ne 14, 3) := by decide +kernel
theorem d_M_priority_32 : decode c_M_priority 32 = .ok (.aload_n 0, 1) := by decide +kernel
theorem d_M_priority_33 : decode c_M_priority 33 = .ok (.getfield 13, 3) := by decide +kernel
theorem d_M_priority_36 : decode c_M_priority 36 = .ok (.iload_n 1, 1) := by decide +kernel
theorem d_M_priority_37 : decode c_M_priority 37 = .ok (.iload_n 2, 1) := by decide +kernel
theorem d_M_priority_38 : decode c_M_priority 38 = .ok (.iastore, 1) := by decide +kernel
theorem d_M_priority_39 : decode c_M_priority 39 = .ok (.aload_n 0, 1) := by decide +kernel
theorem d_M_priority_40 : decode c_M_priority 40 = .ok (.invokevirtual 112, 3) := by decide +kernel
theorem d_M_priority_43 : decode c_M_priority 43 = .ok (.return_, 1) := by decide +kernel
theorem d_M_round_0 : decode c_M_round 0 = .ok (.aload_n 0, 1) := by decide +kernel
theorem d_M_round_1 : decode c_M_round 1 = .ok (.iload_n 1, 1) := by decide +kernel
theorem d_M_round_2 : decode c_M_round 2 = .ok (.iconst 1, 1) := by decide +kernel
theorem d_M_round_3 : decode c_M_round 3 = .ok (.if_icmp .lt 9, 3) := by decide +kernel
theorem d_M_round_6 : decode c_M_round 6 = .ok (.iload_n 1, 1) := by decide +kernel
theorem d_M_round_7 : decode c_M_round 7 = .ok (.bipush 50, 2) := by decide +kernel
theorem d_M_round_9 : decode c_M_round 9 = .ok (.if_icmp .le 7, 3) := by decide +kernel
theorem d_M_round_12 : decode c_M_round 12 = .ok (.iconst 1, 1) := by decide +kernel
theorem d_M_round_13 : decode c_M_round 13 = .ok (.goto 4, 3) := by decide +kernel
theorem d_M_round_16 : decode c_M_round 16 = .ok (.iconst 0, 1) := by decide +kernel
theorem d_M_round_17 : decode c_M_round 17 = .ok (.putfield 78, 3) := by decide +kernel
theorem d_M_round_20 : decode c_M_round 20 = .ok (.iconst 0, 1) := by decide +kernel
theorem d_M_round_21 : decode c_M_round 21 = .ok (.istore_n 2, 1) := by decide +kernel
theorem d_M_round_22 : decode c_M_round 22 = .ok (.iconst 0, 1) := by decide +kernel
theorem d_M_round_23 : decode c_M_round 23 = .ok (.istore_n 3, 1) := by decide +kernel
theorem d_M_round_24 : decode c_M_round 24 = .ok (.iload_n 3, 1) := by decide +kernel
theorem d_M_round_25 : decode c_M_round 25 = .ok (.iload_n 1, 1) := by decide +kernel
theorem d_M_round_26 : decode c_M_round 26 = .ok (.if_icmp .ge 23, 3) := by decide +kernel
theorem d_M_round_29 : decode c_M_round 29 = .ok (.aload_n 0, 1) := by decide +kernel
theorem d_M_round_30 : decode c_M_round 30 = .ok (.getfield 78, 3) := by decide +kernel
theorem d_M_round_33 : decode c_M_round 33 = .ok (.ifCond .ne 16, 3) := by decide +kernel
theorem d_M_round_36 : decode c_M_round 36 = .ok (.iload_n 2, 1) := by decide +kernel
theorem d_M_round_37 : decode c_M_round 37 = .ok (.aload_n 0, 1) := by decide +kernel
theorem d_M_round_38 : decode c_M_round 38 = .ok (.invokevirtual 143, 3) := by decide +kernel
theorem d_M_round_41 : decode c_M_round 41 = .ok (.iadd, 1) := by decide +kernel
theorem d_M_round_42 : decode c_M_round 42 = .ok (.istore_n 2, 1) := by decide +kernel
theorem d_M_round_43 : decode c_M_round 43 = .ok (.iinc 3 1, 3) := by decide +kernel
theorem d_M_round_46 : decode c_M_round 46 = .ok (.goto (-22), 3) := by decide +kernel
theorem d_M_round_49 : decode c_M_round 49 = .ok (.iload_n 2, 1) := by decide +kernel
theorem d_M_round_50 : decode c_M_round 50 = .ok (.ireturn, 1) := by decide +kernel
theorem d_M_pass_0 : decode c_M_pass 0 = .ok (.aload_n 0, 1) := by decide +kernel
theorem d_M_pass_1 : decode c_M_pass 1 = .ok (.invokevirtual 136, 3) := by decide +kernel
theorem d_M_pass_4 : decode c_M_pass 4 = .ok (.istore_n 1, 1) := by decide +kernel
theorem d_M_pass_5 : decode c_M_pass 5 = .ok (.iconst 0, 1) := by decide +kernel
theorem d_M_pass_6 : decode c_M_pass 6 = .ok (.istore_n 2, 1) := by decide +kernel
theorem d_M_pass_7 : decode c_M_pass 7 = .ok (.iload_n 2, 1) := by decide +kernel
theorem d_M_pass_8 : decode c_M_pass 8 = .ok (.iconst 4, 1) := by decide +kernel
theorem d_M_pass_9 : decode c_M_pass 9 = .ok (.aload_n 0, 1) := by decide +kernel
theorem d_M_pass_10 : decode c_M_pass 10 = .ok (.getfield 100, 3) := by decide +kernel
theorem d_M_pass_13 : decode c_M_pass 13 = .ok (.imul, 1) := by decide +kernel
theorem d_M_pass_14 : decode c_M_pass 14 = .ok (.if_icmp .ge 14, 3) := by decide +kernel
theorem d_M_pass_17 : decode c_M_pass 17 = .ok (.aload_n 0, 1) := by decide +kernel
theorem d_M_pass_18 : decode c_M_pass 18 = .ok (.iload_n 2, 1) := by decide +kernel
theorem d_M_pass_19 : decode c_M_pass 19 = .ok (.invokevirtual 140, 3) := by decide +kernel
theorem d_M_pass_22 : decode c_M_pass 22 = .ok (.iinc 2 1, 3) := by decide +kernel
theorem d_M_pass_25 : decode c_M_pass 25 = .ok (.goto (-18), 3) := by decide +kernel
theorem d_M_pass_28 : decode c_M_pass 28 = .ok (.aload_n 0, 1) := by decide +kernel
theorem d_M_pass_29 : decode c_M_pass 29 = .ok (.invokevirtual 112, 3) := by decide +kernel
theorem d_M_pass_32 : decode c_M_pass 32 = .ok (.iload_n 1, 1) := by decide +kernel
theorem d_M_pass_33 : decode c_M_pass 33 = .ok (.ireturn, 1) := by decide +kernel
theorem d_M_sendAll_0 : decode c_M_sendAll 0 = .ok (.iconst 0, 1) := by decide +kernel
theorem d_M_sendAll_1 : decode c_M_sendAll 1 = .ok (.istore_n 1, 1) := by decide +kernel
theorem d_M_sendAll_2 : decode c_M_sendAll 2 = .ok (.iconst 0, 1) := by decide +kernel
theorem d_M_sendAll_3 : decode c_M_sendAll 3 = .ok (.istore_n 2, 1) := by decide +kernel
theorem d_M_sendAll_4 : decode c_M_sendAll 4 = .ok (.iload_n 2, 1) := by decide +kernel
theorem d_M_sendAll_5 : decode c_M_sendAll 5 = .ok (.bipush 40, 2) := by decide +kernel
theorem d_M_sendAll_7 : decode c_M_sendAll 7 = .ok (.if_icmp .ge 16, 3) := by decide +kernel
theorem d_M_sendAll_10 : decode c_M_sendAll 10 = .ok (.aload_n 0, 1) := by decide +kernel
theorem d_M_sendAll_11 : decode c_M_sendAll 11 = .ok (.getfield 54, 3) := by decide +kernel
theorem d_M_sendAll_14 : decode c_M_sendAll 14 = .ok (.iload_n 2, 1) := by decide +kernel
theorem d_M_sendAll_15 : decode c_M_sendAll 15 = .ok (.iconst 0, 1) := by decide +kernel
theorem d_M_sendAll_16 : decode c_M_sendAll 16 = .ok (.bastore, 1) := by decide +kernel
theorem d_M_sendAll_17 : decode c_M_sendAll 17 = .ok (.iinc 2 1, 3) := by decide +kernel
theorem d_M_sendAll_20 : decode c_M_sendAll 20 = .ok (.goto (-16), 3) := by decide +kernel
theorem d_M_sendAll_23 : decode c_M_sendAll 23 = .ok (.iconst 0, 1) := by decide +kernel
theorem d_M_sendAll_24 : decode c_M_sendAll 24 = .ok (.istore_n 2, 1) := by decide +kernel
theorem d_M_sendAll_25 : decode c_M_sendAll 25 = .ok (.iload_n 2, 1) := by decide +kernel
theorem d_M_sendAll_26 : decode c_M_sendAll 26 = .ok (.iconst 4, 1) := by decide +kernel
theorem d_M_sendAll_27 : decode c_M_sendAll 27 = .ok (.aload_n 0, 1) := by decide +kernel
theorem d_M_sendAll_28 : decode c_M_sendAll 28 = .ok (.getfield 100, 3) := by decide +kernel
theorem d_M_sendAll_31 : decode c_M_sendAll 31 = .ok (.imul, 1) := by decide +kernel
theorem d_M_sendAll_32 : decode c_M_sendAll 32 = .ok (.if_icmp .ge 104, 3) := by decide +kernel
theorem d_M_sendAll_35 : decode c_M_sendAll 35 = .ok (.aload_n 0, 1) := by decide +kernel
theorem d_M_sendAll_36 : decode c_M_sendAll 36 = .ok (.getfield 42, 3) := by decide +kernel
theorem d_M_sendAll_39 : decode c_M_sendAll 39 = .ok (.iload_n 2, 1) := by decide +kernel
theorem d_M_sendAll_40 : decode c_M_sendAll 40 = .ok (.iaload, 1) := by decide +kernel
theorem d_M_sendAll_41 : decode c_M_sendAll 41 = .ok (.iconst 1, 1) := by decide +kernel
theorem d_M_sendAll_42 : decode c_M_sendAll 42 = .ok (.if_icmp .ne 88, 3) := by decide +kernel
theorem d_M_sendAll_45 : decode c_M_sendAll 45 = .ok (.aload_n 0, 1) := by decide +kernel
theorem d_M_sendAll_46 : decode c_M_sendAll 46 = .ok (.getfield 35, 3) := by decide +kernel
theorem d_M_sendAll_49 : decode c_M_sendAll 49 = .ok (.aload_n 0, 1) := by decide +kernel
theorem d_M_sendAll_50 : decode c_M_sendAll 50 = .ok (.getfield 39, 3) := by decide +kernel
theorem d_M_sendAll_53 : decode c_M_sendAll 53 = .ok (.iload_n 2, 1) := by decide +kernel
theorem d_M_sendAll_54 : decode c_M_sendAll 54 = .ok (.iaload, 1) := by decide +kernel
theorem d_M_sendAll_55 : decode c_M_sendAll 55 = .ok (.baload, 1) := by decide +kernel
theorem d_M_sendAll_56 : decode c_M_sendAll 56 = .ok (.ifCond .eq 74, 3) := by decide +kernel
theorem d_M_sendAll_59 : decode c_M_sendAll 59 = .ok (.aload_n 0, 1) := by decide +kernel
theorem d_M_sendAll_60 : decode c_M_sendAll 60 = .ok (.iload_n 2, 1) := by decide +kernel
theorem d_M_sendAll_61 : decode c_M_sendAll 61 = .ok (.invokevirtual 133, 3) := by decide +kernel
theorem d_M_sendAll_64 : decode c_M_sendAll 64 = .ok (.istore_n 3, 1) := by decide +kernel
theorem d_M_sendAll_65 : decode c_M_sendAll 65 = .ok (.aload_n 0, 1) := by decide +kernel
theorem d_M_sendAll_66 : decode c_M_sendAll 66 = .ok (.iload_n 2, 1) := by decide +kernel
theorem d_M_sendAll_67 : decode c_M_sendAll 67 = .ok (.invokevirtual 97, 3) := by decide +kernel
theorem d_M_sendAll_70 : decode c_M_sendAll 70 = .ok (.iconst 0, 1) := by decide +kernel
theorem d_M_sendAll_71 : decode c_M_sendAll 71 = .ok (.istore 4, 2) := by decide +kernel
theorem d_M_sendAll_73 : decode c_M_sendAll 73 = .ok (.iload 4, 2) := by decide +kernel
theorem d_M_sendAll_75 : decode c_M_sendAll 75 = .ok (.bipush 7, 2) := by decide +kernel
theorem d_M_sendAll_77 : decode c_M_sendAll 77 = .ok (.if_icmp .ge 28, 3) := by decide +kernel
theorem d_M_sendAll_80 : decode c_M_sendAll 80 = .ok (.aload_n 0, 1) := by decide +kernel
theorem d_M_sendAll_81 : decode c_M_sendAll 81 = .ok (.getfield 57, 3) := by decide +kernel
theorem d_M_sendAll_84 : decode c_M_sendAll 84 = .ok (.bipush 8, 2) := by decide +kernel
theorem d_M_sendAll_86 : decode c_M_sendAll 86 = .ok (.iload_n 3, 1) := by decide +kernel
theorem d_M_sendAll_87 : decode c_M_sendAll 87 = .ok (.imul, 1) := by decide +kernel
theorem d_M_sendAll_88 : decode c_M_sendAll 88 = .ok (.iload 4, 2) := by decide +kernel
theorem d_M_sendAll_90 : decode c_M_sendAll 90 = .ok (.iadd, 1) := by decide +kernel
theorem d_M_sendAll_91 : decode c_M_sendAll 91 = .ok (.aload_n 0, 1) := by decide +kernel
theorem d_M_sendAll_92 : decode c_M_sendAll 92 = .ok (.getfield 72, 3) := by decide +kernel
theorem d_M_sendAll_95 : decode c_M_sendAll 95 = .ok (.iload 4, 2) := by decide +kernel
theorem d_M_sendAll_97 : decode c_M_sendAll 97 = .ok (.iaload, 1) := by decide +kernel
theorem d_M_sendAll_98 : decode c_M_sendAll 98 = .ok (.iastore, 1) := by decide +kernel
theorem d_M_sendAll_99 : decode c_M_sendAll 99 = .ok (.iinc 4 1, 3) := by decide +kernel
theorem d_M_sendAll_102 : decode c_M_sendAll 102 = .ok (.goto (-29), 3) := by decide +kernel
theorem d_M_sendAll_105 : decode c_M_sendAll 105 = .ok (.aload_n 0, 1) := by decide +kernel
theorem d_M_sendAll_106 : decode c_M_sendAll 106 = .ok (.getfield 57, 3) := by decide +kernel
theorem d_M_sendAll_109 : decode c_M_sendAll 109 = .ok (.bipush 8, 2) := by decide +kernel
theorem d_M_sendAll_111 : decode c_M_sendAll 111 = .ok (.iload_n 3, 1) := by decide +kernel
theorem d_M_sendAll_112 : decode c_M_sendAll 112 = .ok (.imul, 1) := by decide +kernel
theorem d_M_sendAll_113 : decode c_M_sendAll 113 = .ok (.bipush 7, 2) := by decide +kernel
theorem d_M_sendAll_115 : decode c_M_sendAll 115 = .ok (.iadd, 1) := by decide +kernel
theorem d_M_sendAll_116 : decode c_M_sendAll 116 = .ok (.iload_n 3, 1) := by decide +kernel
theorem d_M_sendAll_117 : decode c_M_sendAll 117 = .ok (.iconst 4, 1) := by decide +kernel
theorem d_M_sendAll_118 : decode c_M_sendAll 118 = .ok (.irem, 1) := by decide +kernel
theorem d_M_sendAll_119 : decode c_M_sendAll 119 = .ok (.iastore, 1) := by decide +kernel
theorem d_M_sendAll_120 : decode c_M_sendAll 120 = .ok (.aload_n 0, 1) := by decide +kernel
theorem d_M_sendAll_121 : decode c_M_sendAll 121 = .ok (.getfield 54, 3) := by decide +kernel
theorem d_M_sendAll_124 : decode c_M_sendAll 124 = .ok (.iload_n 3, 1) := by decide +kernel
theorem d_M_sendAll_125 : decode c_M_sendAll 125 = .ok (.iconst 1, 1) := by decide +kernel
theorem d_M_sendAll_126 : decode c_M_sendAll 126 = .ok (.bastore, 1) := by decide +kernel
theorem d_M_sendAll_127 : decode c_M_sendAll 127 = .ok (.iinc 1 1, 3) := by decide +kernel
theorem d_M_sendAll_130 : decode c_M_sendAll 130 = .ok (.iinc 2 1, 3) := by decide +kernel
theorem d_M_sendAll_133 : decode c_M_sendAll 133 = .ok (.goto (-108), 3) := by decide +kernel
theorem d_M_sendAll_136 : decode c_M_sendAll 136 = .ok (.iload_n 1, 1) := by decide +kernel
theorem d_M_sendAll_137 : decode c_M_sendAll 137 = .ok (.ireturn, 1) := by decide +kernel
theorem d_M_across_0 : decode c_M_across 0 = .ok (.aload_n 0, 1) := by decide +kernel
theorem d_M_across_1 : decode c_M_across 1 = .ok (.iload_n 1, 1) := by decide +kernel
theorem d_M_across_2 : decode c_M_across 2 = .ok (.invokevirtual 129, 3) := by decide +kernel
theorem d_M_across_5 : decode c_M_across 5 = .ok (.istore_n 2, 1) := by decide +kernel
theorem d_M_across_6 : decode c_M_across 6 = .ok (.aload_n 0, 1) := by decide +kernel
theorem d_M_across_7 : decode c_M_across 7 = .ok (.getfield 29, 3) := by decide +kernel
theorem d_M_across_10 : decode c_M_across 10 = .ok (.iload_n 2, 1) := by decide +kernel
theorem d_M_across_11 : decode c_M_across 11 = .ok (.iconst 2, 1) := by decide +kernel
theorem d_M_across_12 : decode c_M_across 12 = .ok (.irem, 1) := by decide +kernel
theorem d_M_across_13 : decode c_M_across 13 = .ok (.ifCond .ne 9, 3) := by decide +kernel
theorem d_M_across_16 : decode c_M_across 16 = .ok (.iload_n 2, 1) := by decide +kernel
theorem d_M_across_17 : decode c_M_across 17 = .ok (.iconst 1, 1) := by decide +kernel
theorem d_M_across_18 : decode c_M_across 18 = .ok (.iadd, 1) := by decide +kernel
theorem d_M_across_19 : decode c_M_across 19 = .ok (.goto 6, 3) := by decide +kernel
theorem d_M_across_22 : decode c_M_across 22 = .ok (.iload_n 2, 1) := by decide +kernel
theorem d_M_across_23 : decode c_M_across 23 = .ok (.iconst 1, 1) := by decide +kernel
theorem d_M_across_24 : decode c_M_across 24 = .ok (.isub, 1) := by decide +kernel
theorem d_M_across_25 : decode c_M_across 25 = .ok (.iaload, 1) := by decide +kernel
theorem d_M_across_26 : decode c_M_across 26 = .ok (.ireturn, 1) := by decide +kernel
theorem d_M_endOf_0 : decode c_M_endOf 0 = .ok (.aload_n 0, 1) := by decide +kernel
theorem d_M_endOf_1 : decode c_M_endOf 1 = .ok (.getfield 39, 3) := by decide +kernel
theorem d_M_endOf_4 : decode c_M_endOf 4 = .ok (.iload_n 1, 1) := by decide +kernel
theorem d_M_endOf_5 : decode c_M_endOf 5 = .ok (.iaload, 1) := by decide +kernel
theorem d_M_endOf_6 : decode c_M_endOf 6 = .ok (.istore_n 2, 1) := by decide +kernel
theorem d_M_endOf_7 : decode c_M_endOf 7 = .ok (.aload_n 0, 1) := by decide +kernel
theorem d_M_endOf_8 : decode c_M_endOf 8 = .ok (.getfield 29, 3) := by decide +kernel
theorem d_M_endOf_11 : decode c_M_endOf 11 = .ok (.iconst 2, 1) := by decide +kernel
theorem d_M_endOf_12 : decode c_M_endOf 12 = .ok (.iload_n 2, 1) := by decide +kernel
theorem d_M_endOf_13 : decode c_M_endOf 13 = .ok (.imul, 1) := by decide +kernel
theorem d_M_endOf_14 : decode c_M_endOf 14 = .ok (.iaload, 1) := by decide +kernel
theorem d_M_endOf_15 : decode c_M_endOf 15 = .ok (.iload_n 1, 1) := by decide +kernel
theorem d_M_endOf_16 : decode c_M_endOf 16 = .ok (.if_icmp .ne 9, 3) := by decide +kernel
theorem d_M_endOf_19 : decode c_M_endOf 19 = .ok (.iconst 2, 1) := by decide +kernel
theorem d_M_endOf_20 : decode c_M_endOf 20 = .ok (.iload_n 2, 1) := by decide +kernel
theorem d_M_endOf_21 : decode c_M_endOf 21 = .ok (.imul, 1) := by decide +kernel
theorem d_M_endOf_22 : decode c_M_endOf 22 = .ok (.goto 8, 3) := by decide +kernel
theorem d_M_endOf_25 : decode c_M_endOf 25 = .ok (.iconst 2, 1) := by decide +kernel
theorem d_M_endOf_26 : decode c_M_endOf 26 = .ok (.iload_n 2, 1) := by decide +kernel
theorem d_M_endOf_27 : decode c_M_endOf 27 = .ok (.imul, 1) := by decide +kernel
theorem d_M_endOf_28 : decode c_M_endOf 28 = .ok (.iconst 1, 1) := by decide +kernel
theorem d_M_endOf_29 : decode c_M_endOf 29 = .ok (.iadd, 1) := by decide +kernel
theorem d_M_endOf_30 : decode c_M_endOf 30 = .ok (.ireturn, 1) := by decide +kernel
theorem d_M_hear_0 : decode c_M_hear 0 = .ok (.aload_n 0, 1) := by decide +kernel
theorem d_M_hear_1 : decode c_M_hear 1 = .ok (.getfield 54, 3) := by decide +kernel
theorem d_M_hear_4 : decode c_M_hear 4 = .ok (.iload_n 1, 1) := by decide +kernel
theorem d_M_hear_5 : decode c_M_hear 5 = .ok (.baload, 1) := by decide +kernel
theorem d_M_hear_6 : decode c_M_hear 6 = .ok (.ifCond .eq 45, 3) := by decide +kernel
theorem d_M_hear_9 : decode c_M_hear 9 = .ok (.aload_n 0, 1) := by decide +kernel
theorem d_M_hear_10 : decode c_M_hear 10 = .ok (.getfield 57, 3) := by decide +kernel
theorem d_M_hear_13 : decode c_M_hear 13 = .ok (.bipush 8, 2) := by decide +kernel
theorem d_M_hear_15 : decode c_M_hear 15 = .ok (.iload_n 1, 1) := by decide +kernel
theorem d_M_hear_16 : decode c_M_hear 16 = .ok (.imul, 1) := by decide +kernel
theorem d_M_hear_17 : decode c_M_hear 17 = .ok (.iconst 4, 1) := by decide +kernel
theorem d_M_hear_18 : decode c_M_hear 18 = .ok (.iadd, 1) := by decide +kernel
theorem d_M_hear_19 : decode c_M_hear 19 = .ok (.iaload, 1) := by decide +kernel
theorem d_M_hear_20 : decode c_M_hear 20 = .ok (.bipush 15, 2) := by decide +kernel
theorem d_M_hear_22 : decode c_M_hear 22 = .ok (.if_icmp .eq 29, 3) := by decide +kernel
theorem d_M_hear_25 : decode c_M_hear 25 = .ok (.aload_n 0, 1) := by decide +kernel
theorem d_M_hear_26 : decode c_M_hear 26 = .ok (.getfield 57, 3) := by decide +kernel
theorem d_M_hear_29 : decode c_M_hear 29 = .ok (.bipush 8, 2) := by decide +kernel
theorem d_M_hear_31 : decode c_M_hear 31 = .ok (.iload_n 1, 1) := by decide +kernel
theorem d_M_hear_32 : decode c_M_hear 32 = .ok (.imul, 1) := by decide +kernel
theorem d_M_hear_33 : decode c_M_hear 33 = .ok (.iconst 3, 1) := by decide +kernel
theorem d_M_hear_34 : decode c_M_hear 34 = .ok (.iadd, 1) := by decide +kernel
theorem d_M_hear_35 : decode c_M_hear 35 = .ok (.iaload, 1) := by decide +kernel
theorem d_M_hear_36 : decode c_M_hear 36 = .ok (.aload_n 0, 1) := by decide +kernel
theorem d_M_hear_37 : decode c_M_hear 37 = .ok (.getfield 7, 3) := by decide +kernel
theorem d_M_hear_40 : decode c_M_hear 40 = .ok (.iload_n 1, 1) := by decide +kernel
theorem d_M_hear_41 : decode c_M_hear 41 = .ok (.iconst 4, 1) := by decide +kernel
theorem d_M_hear_42 : decode c_M_hear 42 = .ok (.idiv, 1) := by decide +kernel
theorem d_M_hear_43 : decode c_M_hear 43 = .ok (.iaload, 1) := by decide +kernel
theorem d_M_hear_44 : decode c_M_hear 44 = .ok (.if_icmp .eq 7, 3) := by decide +kernel
theorem d_M_hear_47 : decode c_M_hear 47 = .ok (.iconst 1, 1) := by decide +kernel
theorem d_M_hear_48 : decode c_M_hear 48 = .ok (.goto 4, 3) := by decide +kernel
theorem d_M_hear_51 : decode c_M_hear 51 = .ok (.iconst 0, 1) := by decide +kernel
theorem d_M_hear_52 : decode c_M_hear 52 = .ok (.istore_n 2, 1) := by decide +kernel
theorem d_M_hear_53 : decode c_M_hear 53 = .ok (.iload_n 2, 1) := by decide +kernel
theorem d_M_hear_54 : decode c_M_hear 54 = .ok (.ifCond .eq 56, 3) := by decide +kernel
theorem d_M_hear_57 : decode c_M_hear 57 = .ok (.aload_n 0, 1) := by decide +kernel
theorem d_M_hear_58 : decode c_M_hear 58 = .ok (.getfield 45, 3) := by decide +kernel
theorem d_M_hear_61 : decode c_M_hear 61 = .ok (.iload_n 1, 1) := by decide +kernel
theorem d_M_hear_62 : decode c_M_hear 62 = .ok (.iconst 1, 1) := by decide +kernel
theorem d_M_hear_63 : decode c_M_hear 63 = .ok (.bastore, 1) := by decide +kernel
theorem d_M_hear_64 : decode c_M_hear 64 = .ok (.aload_n 0, 1) := by decide +kernel
theorem d_M_hear_65 : decode c_M_hear 65 = .ok (.getfield 48, 3) := by decide +kernel
theorem d_M_hear_68 : decode c_M_hear 68 = .ok (.iload_n 1, 1) := by decide +kernel
theorem d_M_hear_69 : decode c_M_hear 69 = .ok (.iconst 0, 1) := by decide +kernel
theorem d_M_hear_70 : decode c_M_hear 70 = .ok (.iastore, 1) := by decide +kernel
theorem d_M_hear_71 : decode c_M_hear 71 = .ok (.iconst 0, 1) := by decide +kernel
theorem d_M_hear_72 : decode c_M_hear 72 = .ok (.istore_n 3, 1) := by decide +kernel
theorem d_M_hear_73 : decode c_M_hear 73 = .ok (.iload_n 3, 1) := by decide +kernel
theorem d_M_hear_74 : decode c_M_hear 74 = .ok (.bipush 8, 2) := by decide +kernel
theorem d_M_hear_76 : decode c_M_hear 76 = .ok (.if_icmp .ge 31, 3) := by decide +kernel
theorem d_M_hear_79 : decode c_M_hear 79 = .ok (.aload_n 0, 1) := by decide +kernel
theorem d_M_hear_80 : decode c_M_hear 80 = .ok (.getfield 51, 3) := by decide +kernel
theorem d_M_hear_83 : decode c_M_hear 83 = .ok (.bipush 8, 2) := by decide +kernel
theorem d_M_hear_85 : decode c_M_hear 85 = .ok (.iload_n 1, 1) := by decide +kernel
theorem d_M_hear_86 : decode c_M_hear 86 = .ok (.imul, 1) := by decide +kernel
theorem d_M_hear_87 : decode c_M_hear 87 = .ok (.iload_n 3, 1) := by decide +kernel
theorem d_M_hear_88 : decode c_M_hear 88 = .ok (.iadd, 1) := by decide +kernel
theorem d_M_hear_89 : decode c_M_hear 89 = .ok (.aload_n 0, 1) := by decide +kernel
theorem d_M_hear_90 : decode c_M_hear 90 = .ok (.getfield 57, 3) := by decide +kernel
theorem d_M_hear_93 : decode c_M_hear 93 = .ok (.bipush 8, 2) := by decide +kernel
theorem d_M_hear_95 : decode c_M_hear 95 = .ok (.iload_n 1, 1) := by decide +kernel
theorem d_M_hear_96 : decode c_M_hear 96 = .ok (.imul, 1) := by decide +kernel
theorem d_M_hear_97 : decode c_M_hear 97 = .ok (.iload_n 3, 1) := by decide +kernel
theorem d_M_hear_98 : decode c_M_hear 98 = .ok (.iadd, 1) := by decide +kernel
theorem d_M_hear_99 : decode c_M_hear 99 = .ok (.iaload, 1) := by decide +kernel
theorem d_M_hear_100 : decode c_M_hear 100 = .ok (.iastore, 1) := by decide +kernel
theorem d_M_hear_101 : decode c_M_hear 101 = .ok (.iinc 3 1, 3) := by decide +kernel
theorem d_M_hear_104 : decode c_M_hear 104 = .ok (.goto (-31), 3) := by decide +kernel
theorem d_M_hear_107 : decode c_M_hear 107 = .ok (.goto 43, 3) := by decide +kernel
theorem d_M_hear_110 : decode c_M_hear 110 = .ok (.aload_n 0, 1) := by decide +kernel
theorem d_M_hear_111 : decode c_M_hear 111 = .ok (.getfield 45, 3) := by decide +kernel
theorem d_M_hear_114 : decode c_M_hear 114 = .ok (.iload_n 1, 1) := by decide +kernel
theorem d_M_hear_115 : decode c_M_hear 115 = .ok (.baload, 1) := by decide +kernel
theorem d_M_hear_116 : decode c_M_hear 116 = .ok (.ifCond .eq 34, 3) := by decide +kernel
theorem d_M_hear_119 : decode c_M_hear 119 = .ok (.aload_n 0, 1) := by decide +kernel
theorem d_M_hear_120 : decode c_M_hear 120 = .ok (.getfield 48, 3) := by decide +kernel
theorem d_M_hear_123 : decode c_M_hear 123 = .ok (.iload_n 1, 1) := by decide +kernel
theorem d_M_hear_124 : decode c_M_hear 124 = .ok (.dup2, 1) := by decide +kernel
theorem d_M_hear_125 : decode c_M_hear 125 = .ok (.iaload, 1) := by decide +kernel
theorem d_M_hear_126 : decode c_M_hear 126 = .ok (.iconst 1, 1) := by decide +kernel
theorem d_M_hear_127 : decode c_M_hear 127 = .ok (.iadd, 1) := by decide +kernel
theorem d_M_hear_128 : decode c_M_hear 128 = .ok (.iastore, 1) := by decide +kernel
theorem d_M_hear_129 : decode c_M_hear 129 = .ok (.aload_n 0, 1) := by decide +kernel
theorem d_M_hear_130 : decode c_M_hear 130 = .ok (.getfield 45, 3) := by decide +kernel
theorem d_M_hear_133 : decode c_M_hear 133 = .ok (.iload_n 1, 1) := by decide +kernel
theorem d_M_hear_134 : decode c_M_hear 134 = .ok (.aload_n 0, 1) := by decide +kernel
theorem d_M_hear_135 : decode c_M_hear 135 = .ok (.getfield 48, 3) := by decide +kernel
theorem d_M_hear_138 : decode c_M_hear 138 = .ok (.iload_n 1, 1) := by decide +kernel
theorem d_M_hear_139 : decode c_M_hear 139 = .ok (.iaload, 1) := by decide +kernel
theorem d_M_hear_140 : decode c_M_hear 140 = .ok (.iconst 3, 1) := by decide +kernel
theorem d_M_hear_141 : decode c_M_hear 141 = .ok (.if_icmp .ge 7, 3) := by decide +kernel
theorem d_M_hear_144 : decode c_M_hear 144 = .ok (.iconst 1, 1) := by decide +kernel
theorem d_M_hear_145 : decode c_M_hear 145 = .ok (.goto 4, 3) := by decide +kernel
theorem d_M_hear_148 : decode c_M_hear 148 = .ok (.iconst 0, 1) := by decide +kernel
theorem d_M_hear_149 : decode c_M_hear 149 = .ok (.bastore, 1) := by decide +kernel
theorem d_M_hear_150 : decode c_M_hear 150 = .ok (.return_, 1) := by decide +kernel
theorem d_M_settle_0 : decode c_M_settle 0 = .ok (.aload_n 0, 1) := by decide +kernel
theorem d_M_settle_1 : decode c_M_settle 1 = .ok (.iconst 0, 1) := by decide +kernel
theorem d_M_settle_2 : decode c_M_settle 2 = .ok (.putfield 78, 3) := by decide +kernel
theorem d_M_settle_5 : decode c_M_settle 5 = .ok (.iconst 1, 1) := by decide +kernel
theorem d_M_settle_6 : decode c_M_settle 6 = .ok (.istore_n 1, 1) := by decide +kernel
theorem d_M_settle_7 : decode c_M_settle 7 = .ok (.iload_n 1, 1) := by decide +kernel
theorem d_M_settle_8 : decode c_M_settle 8 = .ok (.bipush 60, 2) := by decide +kernel
theorem d_M_settle_10 : decode c_M_settle 10 = .ok (.if_icmp .gt 27, 3) := by decide +kernel
theorem d_M_settle_13 : decode c_M_settle 13 = .ok (.aload_n 0, 1) := by decide +kernel
theorem d_M_settle_14 : decode c_M_settle 14 = .ok (.invokevirtual 146, 3) := by decide +kernel
theorem d_M_settle_17 : decode c_M_settle 17 = .ok (.aload_n 0, 1) := by decide +kernel
theorem d_M_settle_18 : decode c_M_settle 18 = .ok (.invokevirtual 143, 3) := by decide +kernel
theorem d_M_settle_21 : decode c_M_settle 21 = .ok (.istore_n 2, 1) := by decide +kernel
theorem d_M_settle_22 : decode c_M_settle 22 = .ok (.aload_n 0, 1) := by decide +kernel
theorem d_M_settle_23 : decode c_M_settle 23 = .ok (.invokevirtual 149, 3) := by decide +kernel
theorem d_M_settle_26 : decode c_M_settle 26 = .ok (.ifCond .eq 5, 3) := by decide +kernel
theorem d_M_settle_29 : decode c_M_settle 29 = .ok (.iload_n 1, 1) := by decide +kernel
theorem d_M_settle_30 : decode c_M_settle 30 = .ok (.ireturn, 1) := by decide +kernel
theorem d_M_settle_31 : decode c_M_settle 31 = .ok (.iinc 1 1, 3) := by decide +kernel
theorem d_M_settle_34 : decode c_M_settle 34 = .ok (.goto (-27), 3) := by decide +kernel
theorem d_M_settle_37 : decode c_M_settle 37 = .ok (.bipush 60, 2) := by decide +kernel
theorem d_M_settle_39 : decode c_M_settle 39 = .ok (.ireturn, 1) := by decide +kernel
theorem d_M_remember_0 : decode c_M_remember 0 = .ok (.iconst 0, 1) := by decide +kernel
theorem d_M_remember_1 : decode c_M_remember 1 = .ok (.istore_n 1, 1) := by decide +kernel
theorem d_M_remember_2 : decode c_M_remember 2 = .ok (.iload_n 1, 1) := by decide +kernel
theorem d_M_remember_3 : decode c_M_remember 3 = .ok (.bipush 40, 2) := by decide +kernel
theorem d_M_remember_5 : decode c_M_remember 5 = .ok (.if_icmp .ge 33, 3) := by decide +kernel
theorem d_M_remember_8 : decode c_M_remember 8 = .ok (.aload_n 0, 1) := by decide +kernel
theorem d_M_remember_9 : decode c_M_remember 9 = .ok (.getfield 60, 3) := by decide +kernel
theorem d_M_remember_12 : decode c_M_remember 12 = .ok (.iload_n 1, 1) := by decide +kernel
theorem d_M_remember_13 : decode c_M_remember 13 = .ok (.aload_n 0, 1) := by decide +kernel
theorem d_M_remember_14 : decode c_M_remember 14 = .ok (.getfield 45, 3) := by decide +kernel
theorem d_M_remember_17 : decode c_M_remember 17 = .ok (.iload_n 1, 1) := by decide +kernel
theorem d_M_remember_18 : decode c_M_remember 18 = .ok (.baload, 1) := by decide +kernel
theorem d_M_remember_19 : decode c_M_remember 19 = .ok (.bastore, 1) := by decide +kernel
theorem d_M_remember_20 : decode c_M_remember 20 = .ok (.aload_n 0, 1) := by decide +kernel
theorem d_M_remember_21 : decode c_M_remember 21 = .ok (.getfield 66, 3) := by decide +kernel
theorem d_M_remember_24 : decode c_M_remember 24 = .ok (.iload_n 1, 1) := by decide +kernel
theorem d_M_remember_25 : decode c_M_remember 25 = .ok (.aload_n 0, 1) := by decide +kernel
theorem d_M_remember_26 : decode c_M_remember 26 = .ok (.getfield 42, 3) := by decide +kernel
theorem d_M_remember_29 : decode c_M_remember 29 = .ok (.iload_n 1, 1) := by decide +kernel
theorem d_M_remember_30 : decode c_M_remember 30 = .ok (.iaload, 1) := by decide +kernel
theorem d_M_remember_31 : decode c_M_remember 31 = .ok (.iastore, 1) := by decide +kernel
theorem d_M_remember_32 : decode c_M_remember 32 = .ok (.iinc 1 1, 3) := by decide +kernel
theorem d_M_remember_35 : decode c_M_remember 35 = .ok (.goto (-33), 3) := by decide +kernel
theorem d_M_remember_38 : decode c_M_remember 38 = .ok (.iconst 0, 1) := by decide +kernel
theorem d_M_remember_39 : decode c_M_remember 39 = .ok (.istore_n 1, 1) := by decide +kernel
theorem d_M_remember_40 : decode c_M_remember 40 = .ok (.iload_n 1, 1) := by decide +kernel
theorem d_M_remember_41 : decode c_M_remember 41 = .ok (.sipush 320, 3) := by decide +kernel
theorem d_M_remember_44 : decode c_M_remember 44 = .ok (.if_icmp .ge 21, 3) := by decide +kernel
theorem d_M_remember_47 : decode c_M_remember 47 = .ok (.aload_n 0, 1) := by decide +kernel
theorem d_M_remember_48 : decode c_M_remember 48 = .ok (.getfield 63, 3) := by decide +kernel
theorem d_M_remember_51 : decode c_M_remember 51 = .ok (.iload_n 1, 1) := by decide +kernel
theorem d_M_remember_52 : decode c_M_remember 52 = .ok (.aload_n 0, 1) := by decide +kernel
theorem d_M_remember_53 : decode c_M_remember 53 = .ok (.getfield 51, 3) := by decide +kernel
theorem d_M_remember_56 : decode c_M_remember 56 = .ok (.iload_n 1, 1) := by decide +kernel
theorem d_M_remember_57 : decode c_M_remember 57 = .ok (.iaload, 1) := by decide +kernel
theorem d_M_remember_58 : decode c_M_remember 58 = .ok (.iastore, 1) := by decide +kernel
theorem d_M_remember_59 : decode c_M_remember 59 = .ok (.iinc 1 1, 3) := by decide +kernel
theorem d_M_remember_62 : decode c_M_remember 62 = .ok (.goto (-22), 3) := by decide +kernel
theorem d_M_remember_65 : decode c_M_remember 65 = .ok (.return_, 1) := by decide +kernel
theorem d_M_isAsBefore_0 : decode c_M_isAsBefore 0 = .ok (.iconst 1, 1) := by decide +kernel
theorem d_M_isAsBefore_1 : decode c_M_isAsBefore 1 = .ok (.istore_n 1, 1) := by decide +kernel
theorem d_M_isAsBefore_2 : decode c_M_isAsBefore 2 = .ok (.iconst 0, 1) := by decide +kernel
theorem d_M_isAsBefore_3 : decode c_M_isAsBefore 3 = .ok (.istore_n 2, 1) := by decide +kernel
theorem d_M_isAsBefore_4 : decode c_M_isAsBefore 4 = .ok (.iload_n 2, 1) := by decide +kernel
theorem d_M_isAsBefore_5 : decode c_M_isAsBefore 5 = .ok (.bipush 40, 2) := by decide +kernel
theorem d_M_isAsBefore_7 : decode c_M_isAsBefore 7 = .ok (.if_icmp .ge 107, 3) := by decide +kernel
theorem d_M_isAsBefore_10 : decode c_M_isAsBefore 10 = .ok (.iload_n 1, 1) := by decide +kernel
theorem d_M_isAsBefore_11 : decode c_M_isAsBefore 11 = .ok (.ifCond .eq 37, 3) := by decide +kernel
theorem d_M_isAsBefore_14 : decode c_M_isAsBefore 14 = .ok (.aload_n 0, 1) := by decide +kernel
theorem d_M_isAsBefore_15 : decode c_M_isAsBefore 15 = .ok (.getfield 60, 3) := by decide +kernel
theorem d_M_isAsBefore_18 : decode c_M_isAsBefore 18 = .ok (.iload_n 2, 1) := by decide +kernel
theorem d_M_isAsBefore_19 : decode c_M_isAsBefore 19 = .ok (.baload, 1) := by decide +kernel
theorem d_M_isAsBefore_20 : decode c_M_isAsBefore 20 = .ok (.aload_n 0, 1) := by decide +kernel
theorem d_M_isAsBefore_21 : decode c_M_isAsBefore 21 = .ok (.getfield 45, 3) := by decide +kernel
theorem d_M_isAsBefore_24 : decode c_M_isAsBefore 24 = .ok (.iload_n 2, 1) := by decide +kernel
theorem d_M_isAsBefore_25 : decode c_M_isAsBefore 25 = .ok (.baload, 1) := by decide +kernel
theorem d_M_isAsBefore_26 : decode c_M_isAsBefore 26 = .ok (.if_icmp .ne 22, 3) := by decide +kernel
theorem d_M_isAsBefore_29 : decode c_M_isAsBefore 29 = .ok (.aload_n 0, 1) := by decide +kernel
theorem d_M_isAsBefore_30 : decode c_M_isAsBefore 30 = .ok (.getfield 66, 3) := by decide +kernel
theorem d_M_isAsBefore_33 : decode c_M_isAsBefore 33 = .ok (.iload_n 2, 1) := by decide +kernel
theorem d_M_isAsBefore_34 : decode c_M_isAsBefore 34 = .ok (.iaload, 1) := by decide +kernel
theorem d_M_isAsBefore_35 : decode c_M_isAsBefore 35 = .ok (.aload_n 0, 1) := by decide +kernel
theorem d_M_isAsBefore_36 : decode c_M_isAsBefore 36 = .ok (.getfield 42, 3) := by decide +kernel
theorem d_M_isAsBefore_39 : decode c_M_isAsBefore 39 = .ok (.iload_n 2, 1) := by decide +kernel
theorem d_M_isAsBefore_40 : decode c_M_isAsBefore 40 = .ok (.iaload, 1) := by decide +kernel
theorem d_M_isAsBefore_41 : decode c_M_isAsBefore 41 = .ok (.if_icmp .ne 7, 3) := by decide +kernel
theorem d_M_isAsBefore_44 : decode c_M_isAsBefore 44 = .ok (.iconst 1, 1) := by decide +kernel
theorem d_M_isAsBefore_45 : decode c_M_isAsBefore 45 = .ok (.goto 4, 3) := by decide +kernel
theorem d_M_isAsBefore_48 : decode c_M_isAsBefore 48 = .ok (.iconst 0, 1) := by decide +kernel
theorem d_M_isAsBefore_49 : decode c_M_isAsBefore 49 = .ok (.istore_n 1, 1) := by decide +kernel
theorem d_M_isAsBefore_50 : decode c_M_isAsBefore 50 = .ok (.iconst 0, 1) := by decide +kernel
theorem d_M_isAsBefore_51 : decode c_M_isAsBefore 51 = .ok (.istore_n 3, 1) := by decide +kernel
theorem d_M_isAsBefore_52 : decode c_M_isAsBefore 52 = .ok (.iload_n 3, 1) := by decide +kernel
theorem d_M_isAsBefore_53 : decode c_M_isAsBefore 53 = .ok (.bipush 8, 2) := by decide +kernel
theorem d_M_isAsBefore_55 : decode c_M_isAsBefore 55 = .ok (.if_icmp .ge 53, 3) := by decide +kernel
theorem d_M_isAsBefore_58 : decode c_M_isAsBefore 58 = .ok (.aload_n 0, 1) := by decide +kernel
theorem d_M_isAsBefore_59 : decode c_M_isAsBefore 59 = .ok (.getfield 45, 3) := by decide +kernel
theorem d_M_isAsBefore_62 : decode c_M_isAsBefore 62 = .ok (.iload_n 2, 1) := by decide +kernel
theorem d_M_isAsBefore_63 : decode c_M_isAsBefore 63 = .ok (.baload, 1) := by decide +kernel
theorem d_M_isAsBefore_64 : decode c_M_isAsBefore 64 = .ok (.ifCond .eq 44, 3) := by decide +kernel
theorem d_M_isAsBefore_67 : decode c_M_isAsBefore 67 = .ok (.iload_n 1, 1) := by decide +kernel
theorem d_M_isAsBefore_68 : decode c_M_isAsBefore 68 = .ok (.ifCond .eq 32, 3) := by decide +kernel
theorem d_M_isAsBefore_71 : decode c_M_isAsBefore 71 = .ok (.aload_n 0, 1) := by decide +kernel
theorem d_M_isAsBefore_72 : decode c_M_isAsBefore 72 = .ok (.getfield 63, 3) := by decide +kernel
theorem d_M_isAsBefore_75 : decode c_M_isAsBefore 75 = .ok (.bipush 8, 2) := by decide +kernel
theorem d_M_isAsBefore_77 : decode c_M_isAsBefore 77 = .ok (.iload_n 2, 1) := by decide +kernel
theorem d_M_isAsBefore_78 : decode c_M_isAsBefore 78 = .ok (.imul, 1) := by decide +kernel
theorem d_M_isAsBefore_79 : decode c_M_isAsBefore 79 = .ok (.iload_n 3, 1) := by decide +kernel
theorem d_M_isAsBefore_80 : decode c_M_isAsBefore 80 = .ok (.iadd, 1) := by decide +kernel
theorem d_M_isAsBefore_81 : decode c_M_isAsBefore 81 = .ok (.iaload, 1) := by decide +kernel
theorem d_M_isAsBefore_82 : decode c_M_isAsBefore 82 = .ok (.aload_n 0, 1) := by decide +kernel
theorem d_M_isAsBefore_83 : decode c_M_isAsBefore 83 = .ok (.getfield 51, 3) := by decide +kernel
theorem d_M_isAsBefore_86 : decode c_M_isAsBefore 86 = .ok (.bipush 8, 2) := by decide +kernel
theorem d_M_isAsBefore_88 : decode c_M_isAsBefore 88 = .ok (.iload_n 2, 1) := by decide +kernel
theorem d_M_isAsBefore_89 : decode c_M_isAsBefore 89 = .ok (.imul, 1) := by decide +kernel
theorem d_M_isAsBefore_90 : decode c_M_isAsBefore 90 = .ok (.iload_n 3, 1) := by decide +kernel
theorem d_M_isAsBefore_91 : decode c_M_isAsBefore 91 = .ok (.iadd, 1) := by decide +kernel
theorem d_M_isAsBefore_92 : decode c_M_isAsBefore 92 = .ok (.iaload, 1) := by decide +kernel
theorem d_M_isAsBefore_93 : decode c_M_isAsBefore 93 = .ok (.if_icmp .ne 7, 3) := by decide +kernel
theorem d_M_isAsBefore_96 : decode c_M_isAsBefore 96 = .ok (.iconst 1, 1) := by decide +kernel
theorem d_M_isAsBefore_97 : decode c_M_isAsBefore 97 = .ok (.goto 4, 3) := by decide +kernel
theorem d_M_isAsBefore_100 : decode c_M_isAsBefore 100 = .ok (.iconst 0, 1) := by decide +kernel
theorem d_M_isAsBefore_101 : decode c_M_isAsBefore 101 = .ok (.istore_n 1, 1) := by decide +kernel
theorem d_M_isAsBefore_102 : decode c_M_isAsBefore 102 = .ok (.iinc 3 1, 3) := by decide +kernel
theorem d_M_isAsBefore_105 : decode c_M_isAsBefore 105 = .ok (.goto (-53), 3) := by decide +kernel
theorem d_M_isAsBefore_108 : decode c_M_isAsBefore 108 = .ok (.iinc 2 1, 3) := by decide +kernel
theorem d_M_isAsBefore_111 : decode c_M_isAsBefore 111 = .ok (.goto (-107), 3) := by decide +kernel
theorem d_M_isAsBefore_114 : decode c_M_isAsBefore 114 = .ok (.iload_n 1, 1) := by decide +kernel
theorem d_M_isAsBefore_115 : decode c_M_isAsBefore 115 = .ok (.ireturn, 1) := by decide +kernel
theorem d_M_state_0 : decode c_M_state 0 = .ok (.aload_n 0, 1) := by decide +kernel
theorem d_M_state_1 : decode c_M_state 1 = .ok (.aload_n 0, 1) := by decide +kernel
theorem d_M_state_2 : decode c_M_state 2 = .ok (.iload_n 1, 1) := by decide +kernel
theorem d_M_state_3 : decode c_M_state 3 = .ok (.iload_n 2, 1) := by decide +kernel
theorem d_M_state_4 : decode c_M_state 4 = .ok (.invokevirtual 119, 3) := by decide +kernel
theorem d_M_state_7 : decode c_M_state 7 = .ok (.ifCond .eq 7, 3) := by decide +kernel
theorem d_M_state_10 : decode c_M_state 10 = .ok (.iconst 1, 1) := by decide +kernel
theorem d_M_state_11 : decode c_M_state 11 = .ok (.goto 4, 3) := by decide +kernel
theorem d_M_state_14 : decode c_M_state 14 = .ok (.iconst 0, 1) := by decide +kernel
theorem d_M_state_15 : decode c_M_state 15 = .ok (.putfield 78, 3) := by decide +kernel
theorem d_M_state_18 : decode c_M_state 18 = .ok (.aload_n 0, 1) := by decide +kernel
theorem d_M_state_19 : decode c_M_state 19 = .ok (.getfield 78, 3) := by decide +kernel
theorem d_M_state_22 : decode c_M_state 22 = .ok (.ifCond .ne 16, 3) := by decide +kernel
theorem d_M_state_25 : decode c_M_state 25 = .ok (.aload_n 0, 1) := by decide +kernel
theorem d_M_state_26 : decode c_M_state 26 = .ok (.getfield 42, 3) := by decide +kernel
theorem d_M_state_29 : decode c_M_state 29 = .ok (.iconst 4, 1) := by decide +kernel
theorem d_M_state_30 : decode c_M_state 30 = .ok (.iload_n 1, 1) := by decide +kernel
theorem d_M_state_31 : decode c_M_state 31 = .ok (.imul, 1) := by decide +kernel
theorem d_M_state_32 : decode c_M_state 32 = .ok (.iload_n 2, 1) := by decide +kernel
theorem d_M_state_33 : decode c_M_state 33 = .ok (.iadd, 1) := by decide +kernel
theorem d_M_state_34 : decode c_M_state 34 = .ok (.iaload, 1) := by decide +kernel
theorem d_M_state_35 : decode c_M_state 35 = .ok (.goto 4, 3) := by decide +kernel
theorem d_M_state_38 : decode c_M_state 38 = .ok (.iconst 0, 1) := by decide +kernel
theorem d_M_state_39 : decode c_M_state 39 = .ok (.ireturn, 1) := by decide +kernel
theorem d_M_root_0 : decode c_M_root 0 = .ok (.aload_n 0, 1) := by decide +kernel
theorem d_M_root_1 : decode c_M_root 1 = .ok (.aload_n 0, 1) := by decide +kernel
theorem d_M_root_2 : decode c_M_root 2 = .ok (.iload_n 1, 1) := by decide +kernel
theorem d_M_root_3 : decode c_M_root 3 = .ok (.invokevirtual 115, 3) := by decide +kernel
theorem d_M_root_6 : decode c_M_root 6 = .ok (.ifCond .eq 7, 3) := by decide +kernel
theorem d_M_root_9 : decode c_M_root 9 = .ok (.iconst 1, 1) := by decide +kernel
theorem d_M_root_10 : decode c_M_root 10 = .ok (.goto 4, 3) := by decide +kernel
theorem d_M_root_13 : decode c_M_root 13 = .ok (.iconst 0, 1) := by decide +kernel
theorem d_M_root_14 : decode c_M_root 14 = .ok (.putfield 78, 3) := by decide +kernel
theorem d_M_root_17 : decode c_M_root 17 = .ok (.aload_n 0, 1) := by decide +kernel
theorem d_M_root_18 : decode c_M_root 18 = .ok (.getfield 78, 3) := by decide +kernel
theorem d_M_root_21 : decode c_M_root 21 = .ok (.ifCond .eq 7, 3) := by decide +kernel
theorem d_M_root_24 : decode c_M_root 24 = .ok (.iconst 0, 1) := by decide +kernel
theorem d_M_root_25 : decode c_M_root 25 = .ok (.goto 37, 3) := by decide +kernel
theorem d_M_root_28 : decode c_M_root 28 = .ok (.aload_n 0, 1) := by decide +kernel
theorem d_M_root_29 : decode c_M_root 29 = .ok (.getfield 69, 3) := by decide +kernel
theorem d_M_root_32 : decode c_M_root 32 = .ok (.iload_n 1, 1) := by decide +kernel
theorem d_M_root_33 : decode c_M_root 33 = .ok (.iaload, 1) := by decide +kernel
theorem d_M_root_34 : decode c_M_root 34 = .ok (.ifCond .ge 12, 3) := by decide +kernel
theorem d_M_root_37 : decode c_M_root 37 = .ok (.aload_n 0, 1) := by decide +kernel
theorem d_M_root_38 : decode c_M_root 38 = .ok (.getfield 7, 3) := by decide +kernel
theorem d_M_root_41 : decode c_M_root 41 = .ok (.iload_n 1, 1) := by decide +kernel
theorem d_M_root_42 : decode c_M_root 42 = .ok (.iaload, 1) := by decide +kernel
theorem d_M_root_43 : decode c_M_root 43 = .ok (.goto 19, 3) := by decide +kernel
theorem d_M_root_46 : decode c_M_root 46 = .ok (.aload_n 0, 1) := by decide +kernel
theorem d_M_root_47 : decode c_M_root 47 = .ok (.getfield 51, 3) := by decide +kernel
theorem d_M_root_50 : decode c_M_root 50 = .ok (.bipush 8, 2) := by decide +kernel
theorem d_M_root_52 : decode c_M_root 52 = .ok (.aload_n 0, 1) := by decide +kernel
theorem d_M_root_53 : decode c_M_root 53 = .ok (.getfield 69, 3) := by decide +kernel
theorem d_M_root_56 : decode c_M_root 56 = .ok (.iload_n 1, 1) := by decide +kernel
theorem d_M_root_57 : decode c_M_root 57 = .ok (.iaload, 1) := by decide +kernel
theorem d_M_root_58 : decode c_M_root 58 = .ok (.imul, 1) := by decide +kernel
theorem d_M_root_59 : decode c_M_root 59 = .ok (.iconst 3, 1) := by decide +kernel
theorem d_M_root_60 : decode c_M_root 60 = .ok (.iadd, 1) := by decide +kernel
theorem d_M_root_61 : decode c_M_root 61 = .ok (.iaload, 1) := by decide +kernel
theorem d_M_root_62 : decode c_M_root 62 = .ok (.ireturn, 1) := by decide +kernel
theorem d_M_steps_0 : decode c_M_steps 0 = .ok (.aload_n 0, 1) := by decide +kernel
theorem d_M_steps_1 : decode c_M_steps 1 = .ok (.aload_n 0, 1) := by decide +kernel
theorem d_M_steps_2 : decode c_M_steps 2 = .ok (.iload_n 1, 1) := by decide +kernel
theorem d_M_steps_3 : decode c_M_steps 3 = .ok (.invokevirtual 115, 3) := by decide +kernel
theorem d_M_steps_6 : decode c_M_steps 6 = .ok (.ifCond .eq 7, 3) := by decide +kernel
theorem d_M_steps_9 : decode c_M_steps 9 = .ok (.iconst 1, 1) := by decide +kernel
theorem d_M_steps_10 : decode c_M_steps 10 = .ok (.goto 4, 3) := by decide +kernel
theorem d_M_steps_13 : decode c_M_steps 13 = .ok (.iconst 0, 1) := by decide +kernel
theorem d_M_steps_14 : decode c_M_steps 14 = .ok (.putfield 78, 3) := by decide +kernel
theorem d_M_steps_17 : decode c_M_steps 17 = .ok (.aload_n 0, 1) := by decide +kernel
theorem d_M_steps_18 : decode c_M_steps 18 = .ok (.getfield 78, 3) := by decide +kernel
theorem d_M_steps_21 : decode c_M_steps 21 = .ok (.ifCond .eq 7, 3) := by decide +kernel
theorem d_M_steps_24 : decode c_M_steps 24 = .ok (.iconst 0, 1) := by decide +kernel
theorem d_M_steps_25 : decode c_M_steps 25 = .ok (.goto 8, 3) := by decide +kernel
theorem d_M_steps_28 : decode c_M_steps 28 = .ok (.aload_n 0, 1) := by decide +kernel
theorem d_M_steps_29 : decode c_M_steps 29 = .ok (.iload_n 1, 1) := by decide +kernel
theorem d_M_steps_30 : decode c_M_steps 30 = .ok (.invokevirtual 152, 3) := by decide +kernel
theorem d_M_steps_33 : decode c_M_steps 33 = .ok (.ireturn, 1) := by decide +kernel
theorem d_M_stepsOf_0 : decode c_M_stepsOf 0 = .ok (.aload_n 0, 1) := by decide +kernel
theorem d_M_stepsOf_1 : decode c_M_stepsOf 1 = .ok (.getfield 69, 3) := by decide +kernel
theorem d_M_stepsOf_4 : decode c_M_stepsOf 4 = .ok (.iload_n 1, 1) := by decide +kernel
theorem d_M_stepsOf_5 : decode c_M_stepsOf 5 = .ok (.iaload, 1) := by decide +kernel
theorem d_M_stepsOf_6 : decode c_M_stepsOf 6 = .ok (.ifCond .ge 7, 3) := by decide +kernel
theorem d_M_stepsOf_9 : decode c_M_stepsOf 9 = .ok (.iconst 0, 1) := by decide +kernel
theorem d_M_stepsOf_10 : decode c_M_stepsOf 10 = .ok (.goto 19, 3) := by decide +kernel
theorem d_M_stepsOf_13 : decode c_M_stepsOf 13 = .ok (.aload_n 0, 1) := by decide +kernel
theorem d_M_stepsOf_14 : decode c_M_stepsOf 14 = .ok (.getfield 51, 3) := by decide +kernel
theorem d_M_stepsOf_17 : decode c_M_stepsOf 17 = .ok (.bipush 8, 2) := by decide +kernel
theorem d_M_stepsOf_19 : decode c_M_stepsOf 19 = .ok (.aload_n 0, 1) := by decide +kernel
theorem d_M_stepsOf_20 : decode c_M_stepsOf 20 = .ok (.getfield 69, 3) := by decide +kernel
theorem d_M_stepsOf_23 : decode c_M_stepsOf 23 = .ok (.iload_n 1, 1) := by decide +kernel
theorem d_M_stepsOf_24 : decode c_M_stepsOf 24 = .ok (.iaload, 1) := by decide +kernel
theorem d_M_stepsOf_25 : decode c_M_stepsOf 25 = .ok (.imul, 1) := by decide +kernel
theorem d_M_stepsOf_26 : decode c_M_stepsOf 26 = .ok (.iconst 4, 1) := by decide +kernel
theorem d_M_stepsOf_27 : decode c_M_stepsOf 27 = .ok (.iadd, 1) := by decide +kernel
theorem d_M_stepsOf_28 : decode c_M_stepsOf 28 = .ok (.iaload, 1) := by decide +kernel
theorem d_M_stepsOf_29 : decode c_M_stepsOf 29 = .ok (.ireturn, 1) := by decide +kernel
theorem d_M_kept_0 : decode c_M_kept 0 = .ok (.aload_n 0, 1) := by decide +kernel
theorem d_M_kept_1 : decode c_M_kept 1 = .ok (.aload_n 0, 1) := by decide +kernel
theorem d_M_kept_2 : decode c_M_kept 2 = .ok (.iload_n 1, 1) := by decide +kernel
theorem d_M_kept_3 : decode c_M_kept 3 = .ok (.iload_n 2, 1) := by decide +kernel
theorem d_M_kept_4 : decode c_M_kept 4 = .ok (.invokevirtual 119, 3) := by decide +kernel
theorem d_M_kept_7 : decode c_M_kept 7 = .ok (.ifCond .eq 7, 3) := by decide +kernel
theorem d_M_kept_10 : decode c_M_kept 10 = .ok (.iconst 1, 1) := by decide +kernel
theorem d_M_kept_11 : decode c_M_kept 11 = .ok (.goto 4, 3) := by decide +kernel
theorem d_M_kept_14 : decode c_M_kept 14 = .ok (.iconst 0, 1) := by decide +kernel
theorem d_M_kept_15 : decode c_M_kept 15 = .ok (.putfield 78, 3) := by decide +kernel
theorem d_M_kept_18 : decode c_M_kept 18 = .ok (.aload_n 0, 1) := by decide +kernel
theorem d_M_kept_19 : decode c_M_kept 19 = .ok (.getfield 78, 3) := by decide +kernel
theorem d_M_kept_22 : decode c_M_kept 22 = .ok (.ifCond .eq 5, 3) := by decide +kernel
theorem d_M_kept_25 : decode c_M_kept 25 = .ok (.iconst 0, 1) := by decide +kernel
theorem d_M_kept_26 : decode c_M_kept 26 = .ok (.ireturn, 1) := by decide +kernel
theorem d_M_kept_27 : decode c_M_kept 27 = .ok (.iconst 4, 1) := by decide +kernel
theorem d_M_kept_28 : decode c_M_kept 28 = .ok (.iload_n 1, 1) := by decide +kernel
theorem d_M_kept_29 : decode c_M_kept 29 = .ok (.imul, 1) := by decide +kernel
theorem d_M_kept_30 : decode c_M_kept 30 = .ok (.iload_n 2, 1) := by decide +kernel
theorem d_M_kept_31 : decode c_M_kept 31 = .ok (.iadd, 1) := by decide +kernel
theorem d_M_kept_32 : decode c_M_kept 32 = .ok (.istore_n 3, 1) := by decide +kernel
theorem d_M_kept_33 : decode c_M_kept 33 = .ok (.aload_n 0, 1) := by decide +kernel
theorem d_M_kept_34 : decode c_M_kept 34 = .ok (.getfield 45, 3) := by decide +kernel
theorem d_M_kept_37 : decode c_M_kept 37 = .ok (.iload_n 3, 1) := by decide +kernel
theorem d_M_kept_38 : decode c_M_kept 38 = .ok (.baload, 1) := by decide +kernel
theorem d_M_kept_39 : decode c_M_kept 39 = .ok (.ifCond .eq 33, 3) := by decide +kernel
theorem d_M_kept_42 : decode c_M_kept 42 = .ok (.sipush 10000, 3) := by decide +kernel
theorem d_M_kept_45 : decode c_M_kept 45 = .ok (.aload_n 0, 1) := by decide +kernel
theorem d_M_kept_46 : decode c_M_kept 46 = .ok (.getfield 51, 3) := by decide +kernel
theorem d_M_kept_49 : decode c_M_kept 49 = .ok (.bipush 8, 2) := by decide +kernel
theorem d_M_kept_51 : decode c_M_kept 51 = .ok (.iload_n 3, 1) := by decide +kernel
theorem d_M_kept_52 : decode c_M_kept 52 = .ok (.imul, 1) := by decide +kernel
theorem d_M_kept_53 : decode c_M_kept 53 = .ok (.iconst 4, 1) := by decide +kernel
theorem d_M_kept_54 : decode c_M_kept 54 = .ok (.iadd, 1) := by decide +kernel
theorem d_M_kept_55 : decode c_M_kept 55 = .ok (.iaload, 1) := by decide +kernel
theorem d_M_kept_56 : decode c_M_kept 56 = .ok (.imul, 1) := by decide +kernel
theorem d_M_kept_57 : decode c_M_kept 57 = .ok (.aload_n 0, 1) := by decide +kernel
theorem d_M_kept_58 : decode c_M_kept 58 = .ok (.getfield 51, 3) := by decide +kernel
theorem d_M_kept_61 : decode c_M_kept 61 = .ok (.bipush 8, 2) := by decide +kernel
theorem d_M_kept_63 : decode c_M_kept 63 = .ok (.iload_n 3, 1) := by decide +kernel
theorem d_M_kept_64 : decode c_M_kept 64 = .ok (.imul, 1) := by decide +kernel
theorem d_M_kept_65 : decode c_M_kept 65 = .ok (.iconst 3, 1) := by decide +kernel
theorem d_M_kept_66 : decode c_M_kept 66 = .ok (.iadd, 1) := by decide +kernel
theorem d_M_kept_67 : decode c_M_kept 67 = .ok (.iaload, 1) := by decide +kernel
theorem d_M_kept_68 : decode c_M_kept 68 = .ok (.iadd, 1) := by decide +kernel
theorem d_M_kept_69 : decode c_M_kept 69 = .ok (.goto 4, 3) := by decide +kernel
theorem d_M_kept_72 : decode c_M_kept 72 = .ok (.iconst (-1), 1) := by decide +kernel
theorem d_M_kept_73 : decode c_M_kept 73 = .ok (.ireturn, 1) := by decide +kernel
theorem d_M_exchange_0 : decode c_M_exchange 0 = .ok (.aload_n 0, 1) := by decide +kernel
theorem d_M_exchange_1 : decode c_M_exchange 1 = .ok (.aload_n 0, 1) := by decide +kernel
theorem d_M_exchange_2 : decode c_M_exchange 2 = .ok (.iload_n 1, 1) := by decide +kernel
theorem d_M_exchange_3 : decode c_M_exchange 3 = .ok (.invokevirtual 115, 3) := by decide +kernel
theorem d_M_exchange_6 : decode c_M_exchange 6 = .ok (.ifCond .ne 21, 3) := by decide +kernel
theorem d_M_exchange_9 : decode c_M_exchange 9 = .ok (.aload_n 0, 1) := by decide +kernel
theorem d_M_exchange_10 : decode c_M_exchange 10 = .ok (.iload 4, 2) := by decide +kernel
theorem d_M_exchange_12 : decode c_M_exchange 12 = .ok (.invokevirtual 178, 3) := by decide +kernel
theorem d_M_exchange_15 : decode c_M_exchange 15 = .ok (.ifCond .ne 12, 3) := by decide +kernel
theorem d_M_exchange_18 : decode c_M_exchange 18 = .ok (.aload_n 0, 1) := by decide +kernel
theorem d_M_exchange_19 : decode c_M_exchange 19 = .ok (.iload 5, 2) := by decide +kernel
theorem d_M_exchange_21 : decode c_M_exchange 21 = .ok (.invokevirtual 178, 3) := by decide +kernel
theorem d_M_exchange_24 : decode c_M_exchange 24 = .ok (.ifCond .eq 7, 3) := by decide +kernel
theorem d_M_exchange_27 : decode c_M_exchange 27 = .ok (.iconst 1, 1) := by decide +kernel
theorem d_M_exchange_28 : decode c_M_exchange 28 = .ok (.goto 4, 3) := by decide +kernel
theorem d_M_exchange_31 : decode c_M_exchange 31 = .ok (.iconst 0, 1) := by decide +kernel
theorem d_M_exchange_32 : decode c_M_exchange 32 = .ok (.putfield 78, 3) := by decide +kernel
theorem d_M_exchange_35 : decode c_M_exchange 35 = .ok (.aload_n 0, 1) := by decide +kernel
theorem d_M_exchange_36 : decode c_M_exchange 36 = .ok (.getfield 78, 3) := by decide +kernel
theorem d_M_exchange_39 : decode c_M_exchange 39 = .ok (.ifCond .eq 5, 3) := by decide +kernel
theorem d_M_exchange_42 : decode c_M_exchange 42 = .ok (.lconst 0, 1) := by decide +kernel
theorem d_M_exchange_43 : decode c_M_exchange 43 = .ok (.lreturn, 1) := by decide +kernel
theorem d_M_exchange_44 : decode c_M_exchange 44 = .ok (.aload_n 0, 1) := by decide +kernel
theorem d_M_exchange_45 : decode c_M_exchange 45 = .ok (.aload_n 0, 1) := by decide +kernel
theorem d_M_exchange_46 : decode c_M_exchange 46 = .ok (.iload_n 1, 1) := by decide +kernel
theorem d_M_exchange_47 : decode c_M_exchange 47 = .ok (.invokevirtual 181, 3) := by decide +kernel
theorem d_M_exchange_50 : decode c_M_exchange 50 = .ok (.ifCond .eq 7, 3) := by decide +kernel
theorem d_M_exchange_53 : decode c_M_exchange 53 = .ok (.iconst 0, 1) := by decide +kernel
theorem d_M_exchange_54 : decode c_M_exchange 54 = .ok (.goto 4, 3) := by decide +kernel
theorem d_M_exchange_57 : decode c_M_exchange 57 = .ok (.iconst 2, 1) := by decide +kernel
theorem d_M_exchange_58 : decode c_M_exchange 58 = .ok (.putfield 78, 3) := by decide +kernel
theorem d_M_exchange_61 : decode c_M_exchange 61 = .ok (.aload_n 0, 1) := by decide +kernel
theorem d_M_exchange_62 : decode c_M_exchange 62 = .ok (.getfield 78, 3) := by decide +kernel
theorem d_M_exchange_65 : decode c_M_exchange 65 = .ok (.ifCond .eq 5, 3) := by decide +kernel
theorem d_M_exchange_68 : decode c_M_exchange 68 = .ok (.lconst 0, 1) := by decide +kernel
theorem d_M_exchange_69 : decode c_M_exchange 69 = .ok (.lreturn, 1) := by decide +kernel
theorem d_M_exchange_70 : decode c_M_exchange 70 = .ok (.aload_n 0, 1) := by decide +kernel
theorem d_M_exchange_71 : decode c_M_exchange 71 = .ok (.iload_n 1, 1) := by decide +kernel
theorem d_M_exchange_72 : decode c_M_exchange 72 = .ok (.lload_n 2, 1) := by decide +kernel
theorem d_M_exchange_73 : decode c_M_exchange 73 = .ok (.iload 4, 2) := by decide +kernel
theorem d_M_exchange_75 : decode c_M_exchange 75 = .ok (.iload 5, 2) := by decide +kernel
theorem d_M_exchange_77 : decode c_M_exchange 77 = .ok (.invokevirtual 184, 3) := by decide +kernel
theorem d_M_exchange_80 : decode c_M_exchange 80 = .ok (.aload_n 0, 1) := by decide +kernel
theorem d_M_exchange_81 : decode c_M_exchange 81 = .ok (.aload_n 0, 1) := by decide +kernel
theorem d_M_exchange_82 : decode c_M_exchange 82 = .ok (.getfield 155, 3) := by decide +kernel
theorem d_M_exchange_85 : decode c_M_exchange 85 = .ok (.ifCond .eq 7, 3) := by decide +kernel
theorem d_M_exchange_88 : decode c_M_exchange 88 = .ok (.iconst 3, 1) := by decide +kernel
theorem d_M_exchange_89 : decode c_M_exchange 89 = .ok (.goto 4, 3) := by decide +kernel
theorem d_M_exchange_92 : decode c_M_exchange 92 = .ok (.iconst 0, 1) := by decide +kernel
theorem d_M_exchange_93 : decode c_M_exchange 93 = .ok (.putfield 78, 3) := by decide +kernel
theorem d_M_exchange_96 : decode c_M_exchange 96 = .ok (.aload_n 0, 1) := by decide +kernel
theorem d_M_exchange_97 : decode c_M_exchange 97 = .ok (.getfield 155, 3) := by decide +kernel
theorem d_M_exchange_100 : decode c_M_exchange 100 = .ok (.ifCond .eq 7, 3) := by decide +kernel
theorem d_M_exchange_103 : decode c_M_exchange 103 = .ok (.lconst 0, 1) := by decide +kernel
theorem d_M_exchange_104 : decode c_M_exchange 104 = .ok (.goto 7, 3) := by decide +kernel
theorem d_M_exchange_107 : decode c_M_exchange 107 = .ok (.aload_n 0, 1) := by decide +kernel
theorem d_M_exchange_108 : decode c_M_exchange 108 = .ok (.getfield 170, 3) := by decide +kernel
theorem d_M_exchange_111 : decode c_M_exchange 111 = .ok (.lreturn, 1) := by decide +kernel
theorem d_M_noRest_0 : decode c_M_noRest 0 = .ok (.iload_n 1, 1) := by decide +kernel
theorem d_M_noRest_1 : decode c_M_noRest 1 = .ok (.ifCond .lt 9, 3) := by decide +kernel
theorem d_M_noRest_4 : decode c_M_noRest 4 = .ok (.iload_n 1, 1) := by decide +kernel
theorem d_M_noRest_5 : decode c_M_noRest 5 = .ok (.ldc 177, 2) := by decide +kernel
theorem d_M_noRest_7 : decode c_M_noRest 7 = .ok (.if_icmp .le 7, 3) := by decide +kernel
theorem d_M_noRest_10 : decode c_M_noRest 10 = .ok (.iconst 1, 1) := by decide +kernel
theorem d_M_noRest_11 : decode c_M_noRest 11 = .ok (.goto 4, 3) := by decide +kernel
theorem d_M_noRest_14 : decode c_M_noRest 14 = .ok (.iconst 0, 1) := by decide +kernel
theorem d_M_noRest_15 : decode c_M_noRest 15 = .ok (.ireturn, 1) := by decide +kernel
theorem d_M_canSwap_0 : decode c_M_canSwap 0 = .ok (.aload_n 0, 1) := by decide +kernel
theorem d_M_canSwap_1 : decode c_M_canSwap 1 = .ok (.getfield 69, 3) := by decide +kernel
theorem d_M_canSwap_4 : decode c_M_canSwap 4 = .ok (.iload_n 1, 1) := by decide +kernel
theorem d_M_canSwap_5 : decode c_M_canSwap 5 = .ok (.iaload, 1) := by decide +kernel
theorem d_M_canSwap_6 : decode c_M_canSwap 6 = .ok (.ifCond .lt 41, 3) := by decide +kernel
theorem d_M_canSwap_9 : decode c_M_canSwap 9 = .ok (.aload_n 0, 1) := by decide +kernel
theorem d_M_canSwap_10 : decode c_M_canSwap 10 = .ok (.getfield 42, 3) := by decide +kernel
theorem d_M_canSwap_13 : decode c_M_canSwap 13 = .ok (.aload_n 0, 1) := by decide +kernel
theorem d_M_canSwap_14 : decode c_M_canSwap 14 = .ok (.getfield 69, 3) := by decide +kernel
theorem d_M_canSwap_17 : decode c_M_canSwap 17 = .ok (.iload_n 1, 1) := by decide +kernel
theorem d_M_canSwap_18 : decode c_M_canSwap 18 = .ok (.iaload, 1) := by decide +kernel
theorem d_M_canSwap_19 : decode c_M_canSwap 19 = .ok (.iaload, 1) := by decide +kernel
theorem d_M_canSwap_20 : decode c_M_canSwap 20 = .ok (.iconst 2, 1) := by decide +kernel
theorem d_M_canSwap_21 : decode c_M_canSwap 21 = .ok (.if_icmp .ne 26, 3) := by decide +kernel
theorem d_M_canSwap_24 : decode c_M_canSwap 24 = .ok (.aload_n 0, 1) := by decide +kernel
theorem d_M_canSwap_25 : decode c_M_canSwap 25 = .ok (.getfield 35, 3) := by decide +kernel
theorem d_M_canSwap_28 : decode c_M_canSwap 28 = .ok (.aload_n 0, 1) := by decide +kernel
theorem d_M_canSwap_29 : decode c_M_canSwap 29 = .ok (.getfield 39, 3) := by decide +kernel
theorem d_M_canSwap_32 : decode c_M_canSwap 32 = .ok (.aload_n 0, 1) := by decide +kernel
theorem d_M_canSwap_33 : decode c_M_canSwap 33 = .ok (.getfield 69, 3) := by decide +kernel
theorem d_M_canSwap_36 : decode c_M_canSwap 36 = .ok (.iload_n 1, 1) := by decide +kernel
theorem d_M_canSwap_37 : decode c_M_canSwap 37 = .ok (.iaload, 1) := by decide +kernel
theorem d_M_canSwap_38 : decode c_M_canSwap 38 = .ok (.iaload, 1) := by decide +kernel
theorem d_M_canSwap_39 : decode c_M_canSwap 39 = .ok (.baload, 1) := by decide +kernel
theorem d_M_canSwap_40 : decode c_M_canSwap 40 = .ok (.ifCond .eq 7, 3) := by decide +kernel
theorem d_M_canSwap_43 : decode c_M_canSwap 43 = .ok (.iconst 1, 1) := by decide +kernel
theorem d_M_canSwap_44 : decode c_M_canSwap 44 = .ok (.goto 4, 3) := by decide +kernel
theorem d_M_canSwap_47 : decode c_M_canSwap 47 = .ok (.iconst 0, 1) := by decide +kernel
theorem d_M_canSwap_48 : decode c_M_canSwap 48 = .ok (.ireturn, 1) := by decide +kernel
theorem d_M_swap_0 : decode c_M_swap 0 = .ok (.aload_n 0, 1) := by decide +kernel
theorem d_M_swap_1 : decode c_M_swap 1 = .ok (.iconst 0, 1) := by decide +kernel
theorem d_M_swap_2 : decode c_M_swap 2 = .ok (.putfield 155, 3) := by decide +kernel
theorem d_M_swap_5 : decode c_M_swap 5 = .ok (.aload_n 0, 1) := by decide +kernel
theorem d_M_swap_6 : decode c_M_swap 6 = .ok (.aload_n 0, 1) := by decide +kernel
theorem d_M_swap_7 : decode c_M_swap 7 = .ok (.getfield 69, 3) := by decide +kernel
theorem d_M_swap_10 : decode c_M_swap 10 = .ok (.iload_n 1, 1) := by decide +kernel
theorem d_M_swap_11 : decode c_M_swap 11 = .ok (.iaload, 1) := by decide +kernel
theorem d_M_swap_12 : decode c_M_swap 12 = .ok (.invokevirtual 129, 3) := by decide +kernel
theorem d_M_swap_15 : decode c_M_swap 15 = .ok (.istore 6, 2) := by decide +kernel
theorem d_M_swap_17 : decode c_M_swap 17 = .ok (.aload_n 0, 1) := by decide +kernel
theorem d_M_swap_18 : decode c_M_swap 18 = .ok (.getfield 32, 3) := by decide +kernel
theorem d_M_swap_21 : decode c_M_swap 21 = .ok (.iload 6, 2) := by decide +kernel
theorem d_M_swap_23 : decode c_M_swap 23 = .ok (.iaload, 1) := by decide +kernel
theorem d_M_swap_24 : decode c_M_swap 24 = .ok (.istore 7, 2) := by decide +kernel
theorem d_M_swap_26 : decode c_M_swap 26 = .ok (.aload_n 0, 1) := by decide +kernel
theorem d_M_swap_27 : decode c_M_swap 27 = .ok (.getfield 32, 3) := by decide +kernel
theorem d_M_swap_30 : decode c_M_swap 30 = .ok (.iload 6, 2) := by decide +kernel
theorem d_M_swap_32 : decode c_M_swap 32 = .ok (.iconst 2, 1) := by decide +kernel
theorem d_M_swap_33 : decode c_M_swap 33 = .ok (.irem, 1) := by decide +kernel
theorem d_M_swap_34 : decode c_M_swap 34 = .ok (.ifCond .ne 10, 3) := by decide +kernel
theorem d_M_swap_37 : decode c_M_swap 37 = .ok (.iload 6, 2) := by decide +kernel
theorem d_M_swap_39 : decode c_M_swap 39 = .ok (.iconst 1, 1) := by decide +kernel
theorem d_M_swap_40 : decode c_M_swap 40 = .ok (.iadd, 1) := by decide +kernel
theorem d_M_swap_41 : decode c_M_swap 41 = .ok (.goto 7, 3) := by decide +kernel
theorem d_M_swap_44 : decode c_M_swap 44 = .ok (.iload 6, 2) := by decide +kernel
theorem d_M_swap_46 : decode c_M_swap 46 = .ok (.iconst 1, 1) := by decide +kernel
theorem d_M_swap_47 : decode c_M_swap 47 = .ok (.isub, 1) := by decide +kernel
theorem d_M_swap_48 : decode c_M_swap 48 = .ok (.iaload, 1) := by decide +kernel
theorem d_M_swap_49 : decode c_M_swap 49 = .ok (.istore 8, 2) := by decide +kernel
theorem d_M_swap_51 : decode c_M_swap 51 = .ok (.aload_n 0, 1) := by decide +kernel
theorem d_M_swap_52 : decode c_M_swap 52 = .ok (.getfield 22, 3) := by decide +kernel
theorem d_M_swap_55 : decode c_M_swap 55 = .ok (.iload_n 1, 1) := by decide +kernel
theorem d_M_swap_56 : decode c_M_swap 56 = .ok (.laload, 1) := by decide +kernel
theorem d_M_swap_57 : decode c_M_swap 57 = .ok (.lstore 9, 2) := by decide +kernel
theorem d_M_swap_59 : decode c_M_swap 59 = .ok (.aload_n 0, 1) := by decide +kernel
theorem d_M_swap_60 : decode c_M_swap 60 = .ok (.getfield 22, 3) := by decide +kernel
theorem d_M_swap_63 : decode c_M_swap 63 = .ok (.aload_n 0, 1) := by decide +kernel
theorem d_M_swap_64 : decode c_M_swap 64 = .ok (.aload_n 0, 1) := by decide +kernel
theorem d_M_swap_65 : decode c_M_swap 65 = .ok (.getfield 69, 3) := by decide +kernel
theorem d_M_swap_68 : decode c_M_swap 68 = .ok (.iload_n 1, 1) := by decide +kernel
theorem d_M_swap_69 : decode c_M_swap 69 = .ok (.iaload, 1) := by decide +kernel
theorem d_M_swap_70 : decode c_M_swap 70 = .ok (.invokevirtual 133, 3) := by decide +kernel
theorem d_M_swap_73 : decode c_M_swap 73 = .ok (.iconst 4, 1) := by decide +kernel
theorem d_M_swap_74 : decode c_M_swap 74 = .ok (.idiv, 1) := by decide +kernel
theorem d_M_swap_75 : decode c_M_swap 75 = .ok (.laload, 1) := by decide +kernel
theorem d_M_swap_76 : decode c_M_swap 76 = .ok (.lstore 11, 2) := by decide +kernel
theorem d_M_swap_78 : decode c_M_swap 78 = .ok (.aload_n 0, 1) := by decide +kernel
theorem d_M_swap_79 : decode c_M_swap 79 = .ok (.aload_n 0, 1) := by decide +kernel
theorem d_M_swap_80 : decode c_M_swap 80 = .ok (.lload_n 2, 1) := by decide +kernel
theorem d_M_swap_81 : decode c_M_swap 81 = .ok (.iload 8, 2) := by decide +kernel
theorem d_M_swap_83 : decode c_M_swap 83 = .ok (.i2l, 1) := by decide +kernel
theorem d_M_swap_84 : decode c_M_swap 84 = .ok (.invokevirtual 159, 3) := by decide +kernel
theorem d_M_swap_87 : decode c_M_swap 87 = .ok (.iload 4, 2) := by decide +kernel
theorem d_M_swap_89 : decode c_M_swap 89 = .ok (.i2l, 1) := by decide +kernel
theorem d_M_swap_90 : decode c_M_swap 90 = .ok (.invokevirtual 159, 3) := by decide +kernel
theorem d_M_swap_93 : decode c_M_swap 93 = .ok (.lstore 13, 2) := by decide +kernel
theorem d_M_swap_95 : decode c_M_swap 95 = .ok (.aload_n 0, 1) := by decide +kernel
theorem d_M_swap_96 : decode c_M_swap 96 = .ok (.lload 13, 2) := by decide +kernel
theorem d_M_swap_98 : decode c_M_swap 98 = .ok (.ldc2_w 163, 3) := by decide +kernel
theorem d_M_swap_101 : decode c_M_swap 101 = .ok (.invokevirtual 159, 3) := by decide +kernel
theorem d_M_swap_104 : decode c_M_swap 104 = .ok (.lstore 15, 2) := by decide +kernel
theorem d_M_swap_106 : decode c_M_swap 106 = .ok (.aload_n 0, 1) := by decide +kernel
theorem d_M_swap_107 : decode c_M_swap 107 = .ok (.aload_n 0, 1) := by decide +kernel
theorem d_M_swap_108 : decode c_M_swap 108 = .ok (.lload 15, 2) := by decide +kernel
theorem d_M_swap_110 : decode c_M_swap 110 = .ok (.iload 7, 2) := by decide +kernel
theorem d_M_swap_112 : decode c_M_swap 112 = .ok (.i2l, 1) := by decide +kernel
theorem d_M_swap_113 : decode c_M_swap 113 = .ok (.invokevirtual 159, 3) := by decide +kernel
theorem d_M_swap_116 : decode c_M_swap 116 = .ok (.iload 5, 2) := by decide +kernel
theorem d_M_swap_118 : decode c_M_swap 118 = .ok (.i2l, 1) := by decide +kernel
theorem d_M_swap_119 : decode c_M_swap 119 = .ok (.invokevirtual 159, 3) := by decide +kernel
theorem d_M_swap_122 : decode c_M_swap 122 = .ok (.lstore 17, 2) := by decide +kernel
theorem d_M_swap_124 : decode c_M_swap 124 = .ok (.aload_n 0, 1) := by decide +kernel
theorem d_M_swap_125 : decode c_M_swap 125 = .ok (.lload_n 2, 1) := by decide +kernel
theorem d_M_swap_126 : decode c_M_swap 126 = .ok (.lload 11, 2) := by decide +kernel
theorem d_M_swap_128 : decode c_M_swap 128 = .ok (.invokevirtual 159, 3) := by decide +kernel
theorem d_M_swap_131 : decode c_M_swap 131 = .ok (.lstore 19, 2) := by decide +kernel
theorem d_M_swap_133 : decode c_M_swap 133 = .ok (.aload_n 0, 1) := by decide +kernel
theorem d_M_swap_134 : decode c_M_swap 134 = .ok (.lload 13, 2) := by decide +kernel
theorem d_M_swap_136 : decode c_M_swap 136 = .ok (.lload 9, 2) := by decide +kernel
theorem d_M_swap_138 : decode c_M_swap 138 = .ok (.invokevirtual 159, 3) := by decide +kernel
theorem d_M_swap_141 : decode c_M_swap 141 = .ok (.lstore 21, 2) := by decide +kernel
theorem d_M_swap_143 : decode c_M_swap 143 = .ok (.aload_n 0, 1) := by decide +kernel
theorem d_M_swap_144 : decode c_M_swap 144 = .ok (.lload 15, 2) := by decide +kernel
theorem d_M_swap_146 : decode c_M_swap 146 = .ok (.lload 9, 2) := by decide +kernel
theorem d_M_swap_148 : decode c_M_swap 148 = .ok (.invokevirtual 159, 3) := by decide +kernel
theorem d_M_swap_151 : decode c_M_swap 151 = .ok (.lstore 23, 2) := by decide +kernel
theorem d_M_swap_153 : decode c_M_swap 153 = .ok (.aload_n 0, 1) := by decide +kernel
theorem d_M_swap_154 : decode c_M_swap 154 = .ok (.lload 17, 2) := by decide +kernel
theorem d_M_swap_156 : decode c_M_swap 156 = .ok (.lload 11, 2) := by decide +kernel
theorem d_M_swap_158 : decode c_M_swap 158 = .ok (.invokevirtual 159, 3) := by decide +kernel
theorem d_M_swap_161 : decode c_M_swap 161 = .ok (.lstore 25, 2) := by decide +kernel
theorem d_M_swap_163 : decode c_M_swap 163 = .ok (.aload_n 0, 1) := by decide +kernel
theorem d_M_swap_164 : decode c_M_swap 164 = .ok (.aload_n 0, 1) := by decide +kernel
theorem d_M_swap_165 : decode c_M_swap 165 = .ok (.lload 21, 2) := by decide +kernel
theorem d_M_swap_167 : decode c_M_swap 167 = .ok (.lload 19, 2) := by decide +kernel
theorem d_M_swap_169 : decode c_M_swap 169 = .ok (.invokevirtual 165, 3) := by decide +kernel
theorem d_M_swap_172 : decode c_M_swap 172 = .ok (.iload 4, 2) := by decide +kernel
theorem d_M_swap_174 : decode c_M_swap 174 = .ok (.i2l, 1) := by decide +kernel
theorem d_M_swap_175 : decode c_M_swap 175 = .ok (.invokevirtual 165, 3) := by decide +kernel
theorem d_M_swap_178 : decode c_M_swap 178 = .ok (.lstore 27, 2) := by decide +kernel
theorem d_M_swap_180 : decode c_M_swap 180 = .ok (.aload_n 0, 1) := by decide +kernel
theorem d_M_swap_181 : decode c_M_swap 181 = .ok (.aload_n 0, 1) := by decide +kernel
theorem d_M_swap_182 : decode c_M_swap 182 = .ok (.lload 25, 2) := by decide +kernel
theorem d_M_swap_184 : decode c_M_swap 184 = .ok (.lload 23, 2) := by decide +kernel
theorem d_M_swap_186 : decode c_M_swap 186 = .ok (.invokevirtual 165, 3) := by decide +kernel
theorem d_M_swap_189 : decode c_M_swap 189 = .ok (.iload 5, 2) := by decide +kernel
theorem d_M_swap_191 : decode c_M_swap 191 = .ok (.i2l, 1) := by decide +kernel
theorem d_M_swap_192 : decode c_M_swap 192 = .ok (.invokevirtual 165, 3) := by decide +kernel
theorem d_M_swap_195 : decode c_M_swap 195 = .ok (.lstore 29, 2) := by decide +kernel
theorem d_M_swap_197 : decode c_M_swap 197 = .ok (.aload_n 0, 1) := by decide +kernel
theorem d_M_swap_198 : decode c_M_swap 198 = .ok (.aload_n 0, 1) := by decide +kernel
theorem d_M_swap_199 : decode c_M_swap 199 = .ok (.lload 27, 2) := by decide +kernel
theorem d_M_swap_201 : decode c_M_swap 201 = .ok (.lload 29, 2) := by decide +kernel
theorem d_M_swap_203 : decode c_M_swap 203 = .ok (.invokevirtual 165, 3) := by decide +kernel
theorem d_M_swap_206 : decode c_M_swap 206 = .ok (.ldc2_w 168, 3) := by decide +kernel
theorem d_M_swap_209 : decode c_M_swap 209 = .ok (.ldiv, 1) := by decide +kernel
theorem d_M_swap_210 : decode c_M_swap 210 = .ok (.putfield 170, 3) := by decide +kernel
theorem d_M_swap_213 : decode c_M_swap 213 = .ok (.aload_n 0, 1) := by decide +kernel
theorem d_M_swap_214 : decode c_M_swap 214 = .ok (.aload_n 0, 1) := by decide +kernel
theorem d_M_swap_215 : decode c_M_swap 215 = .ok (.lload 27, 2) := by decide +kernel
theorem d_M_swap_217 : decode c_M_swap 217 = .ok (.lload 29, 2) := by decide +kernel
theorem d_M_swap_219 : decode c_M_swap 219 = .ok (.invokevirtual 159, 3) := by decide +kernel
theorem d_M_swap_222 : decode c_M_swap 222 = .ok (.ldc2_w 168, 3) := by decide +kernel
theorem d_M_swap_225 : decode c_M_swap 225 = .ok (.ldiv, 1) := by decide +kernel
theorem d_M_swap_226 : decode c_M_swap 226 = .ok (.putfield 174, 3) := by decide +kernel
theorem d_M_swap_229 : decode c_M_swap 229 = .ok (.aload_n 0, 1) := by decide +kernel
theorem d_M_swap_230 : decode c_M_swap 230 = .ok (.lload 9, 2) := by decide +kernel
theorem d_M_swap_232 : decode c_M_swap 232 = .ok (.aload_n 0, 1) := by decide +kernel
theorem d_M_swap_233 : decode c_M_swap 233 = .ok (.getfield 170, 3) := by decide +kernel
theorem d_M_swap_236 : decode c_M_swap 236 = .ok (.invokevirtual 165, 3) := by decide +kernel
theorem d_M_swap_239 : decode c_M_swap 239 = .ok (.lstore 31, 2) := by decide +kernel
theorem d_M_swap_241 : decode c_M_swap 241 = .ok (.aload_n 0, 1) := by decide +kernel
theorem d_M_swap_242 : decode c_M_swap 242 = .ok (.getfield 155, 3) := by decide +kernel
theorem d_M_swap_245 : decode c_M_swap 245 = .ok (.ifCond .ne 21, 3) := by decide +kernel
theorem d_M_swap_248 : decode c_M_swap 248 = .ok (.aload_n 0, 1) := by decide +kernel
theorem d_M_swap_249 : decode c_M_swap 249 = .ok (.getfield 22, 3) := by decide +kernel
theorem d_M_swap_252 : decode c_M_swap 252 = .ok (.iload_n 1, 1) := by decide +kernel
theorem d_M_swap_253 : decode c_M_swap 253 = .ok (.lload 31, 2) := by decide +kernel
theorem d_M_swap_255 : decode c_M_swap 255 = .ok (.lastore, 1) := by decide +kernel
theorem d_M_swap_256 : decode c_M_swap 256 = .ok (.aload_n 0, 1) := by decide +kernel
theorem d_M_swap_257 : decode c_M_swap 257 = .ok (.getfield 26, 3) := by decide +kernel
theorem d_M_swap_260 : decode c_M_swap 260 = .ok (.iload_n 1, 1) := by decide +kernel
theorem d_M_swap_261 : decode c_M_swap 261 = .ok (.aload_n 0, 1) := by decide +kernel
theorem d_M_swap_262 : decode c_M_swap 262 = .ok (.getfield 174, 3) := by decide +kernel
theorem d_M_swap_265 : decode c_M_swap 265 = .ok (.lastore, 1) := by decide +kernel
theorem d_M_swap_266 : decode c_M_swap 266 = .ok (.return_, 1) := by decide +kernel
theorem d_M_sum_0 : decode c_M_sum 0 = .ok (.lload_n 1, 1) := by decide +kernel
theorem d_M_sum_1 : decode c_M_sum 1 = .ok (.lload_n 3, 1) := by decide +kernel
theorem d_M_sum_2 : decode c_M_sum 2 = .ok (.ladd, 1) := by decide +kernel
theorem d_M_sum_3 : decode c_M_sum 3 = .ok (.lstore 5, 2) := by decide +kernel
theorem d_M_sum_5 : decode c_M_sum 5 = .ok (.aload_n 0, 1) := by decide +kernel
theorem d_M_sum_6 : decode c_M_sum 6 = .ok (.aload_n 0, 1) := by decide +kernel
theorem d_M_sum_7 : decode c_M_sum 7 = .ok (.getfield 155, 3) := by decide +kernel
theorem d_M_sum_10 : decode c_M_sum 10 = .ok (.ifCond .ne 54, 3) := by decide +kernel
theorem d_M_sum_13 : decode c_M_sum 13 = .ok (.lload_n 1, 1) := by decide +kernel
theorem d_M_sum_14 : decode c_M_sum 14 = .ok (.lconst 0, 1) := by decide +kernel
theorem d_M_sum_15 : decode c_M_sum 15 = .ok (.lcmp, 1) := by decide +kernel
theorem d_M_sum_16 : decode c_M_sum 16 = .ok (.ifCond .ge 7, 3) := by decide +kernel
theorem d_M_sum_19 : decode c_M_sum 19 = .ok (.iconst 1, 1) := by decide +kernel
theorem d_M_sum_20 : decode c_M_sum 20 = .ok (.goto 4, 3) := by decide +kernel
theorem d_M_sum_23 : decode c_M_sum 23 = .ok (.iconst 0, 1) := by decide +kernel
theorem d_M_sum_24 : decode c_M_sum 24 = .ok (.lload_n 3, 1) := by decide +kernel
theorem d_M_sum_25 : decode c_M_sum 25 = .ok (.lconst 0, 1) := by decide +kernel
theorem d_M_sum_26 : decode c_M_sum 26 = .ok (.lcmp, 1) := by decide +kernel
theorem d_M_sum_27 : decode c_M_sum 27 = .ok (.ifCond .ge 7, 3) := by decide +kernel
theorem d_M_sum_30 : decode c_M_sum 30 = .ok (.iconst 1, 1) := by decide +kernel
theorem d_M_sum_31 : decode c_M_sum 31 = .ok (.goto 4, 3) := by decide +kernel
theorem d_M_sum_34 : decode c_M_sum 34 = .ok (.iconst 0, 1) := by decide +kernel
theorem d_M_sum_35 : decode c_M_sum 35 = .ok (.if_icmp .ne 33, 3) := by decide +kernel
theorem d_M_sum_38 : decode c_M_sum 38 = .ok (.lload 5, 2) := by decide +kernel
theorem d_M_sum_40 : decode c_M_sum 40 = .ok (.lconst 0, 1) := by decide +kernel
theorem d_M_sum_41 : decode c_M_sum 41 = .ok (.lcmp, 1) := by decide +kernel
theorem d_M_sum_42 : decode c_M_sum 42 = .ok (.ifCond .ge 7, 3) := by decide +kernel
theorem d_M_sum_45 : decode c_M_sum 45 = .ok (.iconst 1, 1) := by decide +kernel
theorem d_M_sum_46 : decode c_M_sum 46 = .ok (.goto 4, 3) := by decide +kernel
theorem d_M_sum_49 : decode c_M_sum 49 = .ok (.iconst 0, 1) := by decide +kernel
theorem d_M_sum_50 : decode c_M_sum 50 = .ok (.lload_n 1, 1) := by decide +kernel
theorem d_M_sum_51 : decode c_M_sum 51 = .ok (.lconst 0, 1) := by decide +kernel
theorem d_M_sum_52 : decode c_M_sum 52 = .ok (.lcmp, 1) := by decide +kernel
theorem d_M_sum_53 : decode c_M_sum 53 = .ok (.ifCond .ge 7, 3) := by decide +kernel
theorem d_M_sum_56 : decode c_M_sum 56 = .ok (.iconst 1, 1) := by decide +kernel
theorem d_M_sum_57 : decode c_M_sum 57 = .ok (.goto 4, 3) := by decide +kernel
theorem d_M_sum_60 : decode c_M_sum 60 = .ok (.iconst 0, 1) := by decide +kernel
theorem d_M_sum_61 : decode c_M_sum 61 = .ok (.if_icmp .eq 7, 3) := by decide +kernel
theorem d_M_sum_64 : decode c_M_sum 64 = .ok (.iconst 1, 1) := by decide +kernel
theorem d_M_sum_65 : decode c_M_sum 65 = .ok (.goto 4, 3) := by decide +kernel
theorem d_M_sum_68 : decode c_M_sum 68 = .ok (.iconst 0, 1) := by decide +kernel
theorem d_M_sum_69 : decode c_M_sum 69 = .ok (.putfield 155, 3) := by decide +kernel
theorem d_M_sum_72 : decode c_M_sum 72 = .ok (.lload 5, 2) := by decide +kernel
theorem d_M_sum_74 : decode c_M_sum 74 = .ok (.lreturn, 1) := by decide +kernel
theorem d_M_difference_0 : decode c_M_difference 0 = .ok (.lload_n 1, 1) := by decide +kernel
theorem d_M_difference_1 : decode c_M_difference 1 = .ok (.lload_n 3, 1) := by decide +kernel
theorem d_M_difference_2 : decode c_M_difference 2 = .ok (.lsub, 1) := by decide +kernel
theorem d_M_difference_3 : decode c_M_difference 3 = .ok (.lstore 5, 2) := by decide +kernel
theorem d_M_difference_5 : decode c_M_difference 5 = .ok (.aload_n 0, 1) := by decide +kernel
theorem d_M_difference_6 : decode c_M_difference 6 = .ok (.aload_n 0, 1) := by decide +kernel
theorem d_M_difference_7 : decode c_M_difference 7 = .ok (.getfield 155, 3) := by decide +kernel
theorem d_M_difference_10 : decode c_M_difference 10 = .ok (.ifCond .ne 54, 3) := by decide +kernel
theorem d_M_difference_13 : decode c_M_difference 13 = .ok (.lload_n 1, 1) := by decide +kernel
theorem d_M_difference_14 : decode c_M_difference 14 = .ok (.lconst 0, 1) := by decide +kernel
theorem d_M_difference_15 : decode c_M_difference 15 = .ok (.lcmp, 1) := by decide +kernel
theorem d_M_difference_16 : decode c_M_difference 16 = .ok (.ifCond .ge 7, 3) := by decide +kernel
theorem d_M_difference_19 : decode c_M_difference 19 = .ok (.iconst 1, 1) := by decide +kernel
theorem d_M_difference_20 : decode c_M_difference 20 = .ok (.goto 4, 3) := by decide +kernel
theorem d_M_difference_23 : decode c_M_difference 23 = .ok (.iconst 0, 1) := by decide +kernel
theorem d_M_difference_24 : decode c_M_difference 24 = .ok (.lload_n 3, 1) := by decide +kernel
theorem d_M_difference_25 : decode c_M_difference 25 = .ok (.lconst 0, 1) := by decide +kernel
theorem d_M_difference_26 : decode c_M_difference 26 = .ok (.lcmp, 1) := by decide +kernel
theorem d_M_difference_27 : decode c_M_difference 27 = .ok (.ifCond .ge 7, 3) := by decide +kernel
theorem d_M_difference_30 : decode c_M_difference 30 = .ok (.iconst 1, 1) := by decide +kernel
theorem d_M_difference_31 : decode c_M_difference 31 = .ok (.goto 4, 3) := by decide +kernel
theorem d_M_difference_34 : decode c_M_difference 34 = .ok (.iconst 0, 1) := by decide +kernel
theorem d_M_difference_35 : decode c_M_difference 35 = .ok (.if_icmp .eq 33, 3) := by decide +kernel
theorem d_M_difference_38 : decode c_M_difference 38 = .ok (.lload 5, 2) := by decide +kernel
theorem d_M_difference_40 : decode c_M_difference 40 = .ok (.lconst 0, 1) := by decide +kernel
theorem d_M_difference_41 : decode c_M_difference 41 = .ok (.lcmp, 1) := by decide +kernel
theorem d_M_difference_42 : decode c_M_difference 42 = .ok (.ifCond .ge 7, 3) := by decide +kernel
theorem d_M_difference_45 : decode c_M_difference 45 = .ok (.iconst 1, 1) := by decide +kernel
theorem d_M_difference_46 : decode c_M_difference 46 = .ok (.goto 4, 3) := by decide +kernel
theorem d_M_difference_49 : decode c_M_difference 49 = .ok (.iconst 0, 1) := by decide +kernel
theorem d_M_difference_50 : decode c_M_difference 50 = .ok (.lload_n 1, 1) := by decide +kernel
theorem d_M_difference_51 : decode c_M_difference 51 = .ok (.lconst 0, 1) := by decide +kernel
theorem d_M_difference_52 : decode c_M_difference 52 = .ok (.lcmp, 1) := by decide +kernel
theorem d_M_difference_53 : decode c_M_difference 53 = .ok (.ifCond .ge 7, 3) := by decide +kernel
theorem d_M_difference_56 : decode c_M_difference 56 = .ok (.iconst 1, 1) := by decide +kernel
theorem d_M_difference_57 : decode c_M_difference 57 = .ok (.goto 4, 3) := by decide +kernel
theorem d_M_difference_60 : decode c_M_difference 60 = .ok (.iconst 0, 1) := by decide +kernel
theorem d_M_difference_61 : decode c_M_difference 61 = .ok (.if_icmp .eq 7, 3) := by decide +kernel
theorem d_M_difference_64 : decode c_M_difference 64 = .ok (.iconst 1, 1) := by decide +kernel
theorem d_M_difference_65 : decode c_M_difference 65 = .ok (.goto 4, 3) := by decide +kernel
theorem d_M_difference_68 : decode c_M_difference 68 = .ok (.iconst 0, 1) := by decide +kernel
theorem d_M_difference_69 : decode c_M_difference 69 = .ok (.putfield 155, 3) := by decide +kernel
theorem d_M_difference_72 : decode c_M_difference 72 = .ok (.lload 5, 2) := by decide +kernel
theorem d_M_difference_74 : decode c_M_difference 74 = .ok (.lreturn, 1) := by decide +kernel
theorem d_M_delay_0 : decode c_M_delay 0 = .ok (.aload_n 0, 1) := by decide +kernel
theorem d_M_delay_1 : decode c_M_delay 1 = .ok (.aload_n 0, 1) := by decide +kernel
theorem d_M_delay_2 : decode c_M_delay 2 = .ok (.iload_n 1, 1) := by decide +kernel
theorem d_M_delay_3 : decode c_M_delay 3 = .ok (.invokevirtual 115, 3) := by decide +kernel
theorem d_M_delay_6 : decode c_M_delay 6 = .ok (.ifCond .eq 7, 3) := by decide +kernel
theorem d_M_delay_9 : decode c_M_delay 9 = .ok (.iconst 1, 1) := by decide +kernel
theorem d_M_delay_10 : decode c_M_delay 10 = .ok (.goto 4, 3) := by decide +kernel
theorem d_M_delay_13 : decode c_M_delay 13 = .ok (.iconst 0, 1) := by decide +kernel
theorem d_M_delay_14 : decode c_M_delay 14 = .ok (.putfield 78, 3) := by decide +kernel
theorem d_M_delay_17 : decode c_M_delay 17 = .ok (.aload_n 0, 1) := by decide +kernel
theorem d_M_delay_18 : decode c_M_delay 18 = .ok (.getfield 78, 3) := by decide +kernel
theorem d_M_delay_21 : decode c_M_delay 21 = .ok (.ifCond .ne 12, 3) := by decide +kernel
theorem d_M_delay_24 : decode c_M_delay 24 = .ok (.aload_n 0, 1) := by decide +kernel
theorem d_M_delay_25 : decode c_M_delay 25 = .ok (.getfield 26, 3) := by decide +kernel
theorem d_M_delay_28 : decode c_M_delay 28 = .ok (.iload_n 1, 1) := by decide +kernel
theorem d_M_delay_29 : decode c_M_delay 29 = .ok (.laload, 1) := by decide +kernel
theorem d_M_delay_30 : decode c_M_delay 30 = .ok (.goto 4, 3) := by decide +kernel
theorem d_M_delay_33 : decode c_M_delay 33 = .ok (.lconst 0, 1) := by decide +kernel
theorem d_M_delay_34 : decode c_M_delay 34 = .ok (.lreturn, 1) := by decide +kernel
theorem d_M_offset_0 : decode c_M_offset 0 = .ok (.aload_n 0, 1) := by decide +kernel
theorem d_M_offset_1 : decode c_M_offset 1 = .ok (.aload_n 0, 1) := by decide +kernel
theorem d_M_offset_2 : decode c_M_offset 2 = .ok (.iload_n 1, 1) := by decide +kernel
theorem d_M_offset_3 : decode c_M_offset 3 = .ok (.invokevirtual 115, 3) := by decide +kernel
theorem d_M_offset_6 : decode c_M_offset 6 = .ok (.ifCond .eq 7, 3) := by decide +kernel
theorem d_M_offset_9 : decode c_M_offset 9 = .ok (.iconst 1, 1) := by decide +kernel
theorem d_M_offset_10 : decode c_M_offset 10 = .ok (.goto 4, 3) := by decide +kernel
theorem d_M_offset_13 : decode c_M_offset 13 = .ok (.iconst 0, 1) := by decide +kernel
theorem d_M_offset_14 : decode c_M_offset 14 = .ok (.putfield 78, 3) := by decide +kernel
theorem d_M_offset_17 : decode c_M_offset 17 = .ok (.aload_n 0, 1) := by decide +kernel
theorem d_M_offset_18 : decode c_M_offset 18 = .ok (.getfield 78, 3) := by decide +kernel
theorem d_M_offset_21 : decode c_M_offset 21 = .ok (.ifCond .ne 12, 3) := by decide +kernel
theorem d_M_offset_24 : decode c_M_offset 24 = .ok (.aload_n 0, 1) := by decide +kernel
theorem d_M_offset_25 : decode c_M_offset 25 = .ok (.getfield 22, 3) := by decide +kernel
theorem d_M_offset_28 : decode c_M_offset 28 = .ok (.iload_n 1, 1) := by decide +kernel
theorem d_M_offset_29 : decode c_M_offset 29 = .ok (.laload, 1) := by decide +kernel
theorem d_M_offset_30 : decode c_M_offset 30 = .ok (.goto 4, 3) := by decide +kernel
theorem d_M_offset_33 : decode c_M_offset 33 = .ok (.lconst 0, 1) := by decide +kernel
theorem d_M_offset_34 : decode c_M_offset 34 = .ok (.lreturn, 1) := by decide +kernel
theorem d_M_discipline_0 : decode c_M_discipline 0 = .ok (.aload_n 0, 1) := by decide +kernel
theorem d_M_discipline_1 : decode c_M_discipline 1 = .ok (.iconst 0, 1) := by decide +kernel
theorem d_M_discipline_2 : decode c_M_discipline 2 = .ok (.putfield 78, 3) := by decide +kernel
theorem d_M_discipline_5 : decode c_M_discipline 5 = .ok (.iconst 0, 1) := by decide +kernel
theorem d_M_discipline_6 : decode c_M_discipline 6 = .ok (.istore_n 3, 1) := by decide +kernel
theorem d_M_discipline_7 : decode c_M_discipline 7 = .ok (.iconst 0, 1) := by decide +kernel
theorem d_M_discipline_8 : decode c_M_discipline 8 = .ok (.istore 4, 2) := by decide +kernel
theorem d_M_discipline_10 : decode c_M_discipline 10 = .ok (.iload 4, 2) := by decide +kernel
theorem d_M_discipline_12 : decode c_M_discipline 12 = .ok (.bipush 16, 2) := by decide +kernel
theorem d_M_discipline_14 : decode c_M_discipline 14 = .ok (.if_icmp .ge 71, 3) := by decide +kernel
theorem d_M_discipline_17 : decode c_M_discipline 17 = .ok (.iconst 0, 1) := by decide +kernel
theorem d_M_discipline_18 : decode c_M_discipline 18 = .ok (.istore 5, 2) := by decide +kernel
theorem d_M_discipline_20 : decode c_M_discipline 20 = .ok (.iload 5, 2) := by decide +kernel
theorem d_M_discipline_22 : decode c_M_discipline 22 = .ok (.aload_n 0, 1) := by decide +kernel
theorem d_M_discipline_23 : decode c_M_discipline 23 = .ok (.getfield 100, 3) := by decide +kernel
theorem d_M_discipline_26 : decode c_M_discipline 26 = .ok (.if_icmp .ge 53, 3) := by decide +kernel
theorem d_M_discipline_29 : decode c_M_discipline 29 = .ok (.aload_n 0, 1) := by decide +kernel
theorem d_M_discipline_30 : decode c_M_discipline 30 = .ok (.iload 5, 2) := by decide +kernel
theorem d_M_discipline_32 : decode c_M_discipline 32 = .ok (.invokevirtual 181, 3) := by decide +kernel
theorem d_M_discipline_35 : decode c_M_discipline 35 = .ok (.ifCond .eq 38, 3) := by decide +kernel
theorem d_M_discipline_38 : decode c_M_discipline 38 = .ok (.aload_n 0, 1) := by decide +kernel
theorem d_M_discipline_39 : decode c_M_discipline 39 = .ok (.iload 5, 2) := by decide +kernel
theorem d_M_discipline_41 : decode c_M_discipline 41 = .ok (.invokevirtual 152, 3) := by decide +kernel
theorem d_M_discipline_44 : decode c_M_discipline 44 = .ok (.iload 4, 2) := by decide +kernel
theorem d_M_discipline_46 : decode c_M_discipline 46 = .ok (.if_icmp .ne 27, 3) := by decide +kernel
theorem d_M_discipline_49 : decode c_M_discipline 49 = .ok (.aload_n 0, 1) := by decide +kernel
theorem d_M_discipline_50 : decode c_M_discipline 50 = .ok (.iload 5, 2) := by decide +kernel
theorem d_M_discipline_52 : decode c_M_discipline 52 = .ok (.lload_n 1, 1) := by decide +kernel
theorem d_M_discipline_53 : decode c_M_discipline 53 = .ok (.iconst 0, 1) := by decide +kernel
theorem d_M_discipline_54 : decode c_M_discipline 54 = .ok (.iconst 0, 1) := by decide +kernel
theorem d_M_discipline_55 : decode c_M_discipline 55 = .ok (.invokevirtual 184, 3) := by decide +kernel
theorem d_M_discipline_58 : decode c_M_discipline 58 = .ok (.iload_n 3, 1) := by decide +kernel
theorem d_M_discipline_59 : decode c_M_discipline 59 = .ok (.aload_n 0, 1) := by decide +kernel
theorem d_M_discipline_60 : decode c_M_discipline 60 = .ok (.getfield 155, 3) := by decide +kernel
theorem d_M_discipline_63 : decode c_M_discipline 63 = .ok (.ifCond .eq 7, 3) := by decide +kernel
theorem d_M_discipline_66 : decode c_M_discipline 66 = .ok (.iconst 0, 1) := by decide +kernel
theorem d_M_discipline_67 : decode c_M_discipline 67 = .ok (.goto 4, 3) := by decide +kernel
theorem d_M_discipline_70 : decode c_M_discipline 70 = .ok (.iconst 1, 1) := by decide +kernel
theorem d_M_discipline_71 : decode c_M_discipline 71 = .ok (.iadd, 1) := by decide +kernel
theorem d_M_discipline_72 : decode c_M_discipline 72 = .ok (.istore_n 3, 1) := by decide +kernel
theorem d_M_discipline_73 : decode c_M_discipline 73 = .ok (.iinc 5 1, 3) := by decide +kernel
theorem d_M_discipline_76 : decode c_M_discipline 76 = .ok (.goto (-56), 3) := by decide +kernel
theorem d_M_discipline_79 : decode c_M_discipline 79 = .ok (.iinc 4 1, 3) := by decide +kernel
theorem d_M_discipline_82 : decode c_M_discipline 82 = .ok (.goto (-72), 3) := by decide +kernel
theorem d_M_discipline_85 : decode c_M_discipline 85 = .ok (.iload_n 3, 1) := by decide +kernel
theorem d_M_discipline_86 : decode c_M_discipline 86 = .ok (.ireturn, 1) := by decide +kernel
end
section
theorem d_L_node_0 : decode c_L_node 0 = .ok (.aload 7, 2) := by decide +kernel
theorem d_L_node_2 : decode c_L_node 2 = .ok (.iconst 0, 1) := by decide +kernel
theorem d_L_node_3 : decode c_L_node 3 = .ok (.aload_n 0, 1) := by decide +kernel
theorem d_L_node_4 : decode c_L_node 4 = .ok (.iload_n 1, 1) := by decide +kernel
theorem d_L_node_5 : decode c_L_node 5 = .ok (.iload_n 2, 1) := by decide +kernel
theorem d_L_node_6 : decode c_L_node 6 = .ok (.iload_n 3, 1) := by decide +kernel
theorem d_L_node_7 : decode c_L_node 7 = .ok (.iload 4, 2) := by decide +kernel
theorem d_L_node_9 : decode c_L_node 9 = .ok (.lload 5, 2) := by decide +kernel
theorem d_L_node_11 : decode c_L_node 11 = .ok (.invokevirtual 7, 3) := by decide +kernel
theorem d_L_node_14 : decode c_L_node 14 = .ok (.i2l, 1) := by decide +kernel
theorem d_L_node_15 : decode c_L_node 15 = .ok (.lastore, 1) := by decide +kernel
theorem d_L_node_16 : decode c_L_node 16 = .ok (.goto 11, 3) := by decide +kernel
theorem d_L_node_19 : decode c_L_node 19 = .ok (.astore 8, 2) := by decide +kernel
theorem d_L_node_21 : decode c_L_node 21 = .ok (.iconst 1, 1) := by decide +kernel
theorem d_L_node_22 : decode c_L_node 22 = .ok (.ireturn, 1) := by decide +kernel
theorem d_L_node_23 : decode c_L_node 23 = .ok (.astore 8, 2) := by decide +kernel
theorem d_L_node_25 : decode c_L_node 25 = .ok (.iconst 2, 1) := by decide +kernel
theorem d_L_node_26 : decode c_L_node 26 = .ok (.ireturn, 1) := by decide +kernel
theorem d_L_node_27 : decode c_L_node 27 = .ok (.iconst 0, 1) := by decide +kernel
theorem d_L_node_28 : decode c_L_node 28 = .ok (.ireturn, 1) := by decide +kernel
theorem d_L_link_0 : decode c_L_link 0 = .ok (.aload 7, 2) := by decide +kernel
theorem d_L_link_2 : decode c_L_link 2 = .ok (.iconst 0, 1) := by decide +kernel
theorem d_L_link_3 : decode c_L_link 3 = .ok (.aload_n 0, 1) := by decide +kernel
theorem d_L_link_4 : decode c_L_link 4 = .ok (.iload_n 1, 1) := by decide +kernel
theorem d_L_link_5 : decode c_L_link 5 = .ok (.iload_n 2, 1) := by decide +kernel
theorem d_L_link_6 : decode c_L_link 6 = .ok (.iload_n 3, 1) := by decide +kernel
theorem d_L_link_7 : decode c_L_link 7 = .ok (.iload 4, 2) := by decide +kernel
theorem d_L_link_9 : decode c_L_link 9 = .ok (.iload 5, 2) := by decide +kernel
theorem d_L_link_11 : decode c_L_link 11 = .ok (.iload 6, 2) := by decide +kernel
theorem d_L_link_13 : decode c_L_link 13 = .ok (.invokevirtual 17, 3) := by decide +kernel
theorem d_L_link_16 : decode c_L_link 16 = .ok (.i2l, 1) := by decide +kernel
theorem d_L_link_17 : decode c_L_link 17 = .ok (.lastore, 1) := by decide +kernel
theorem d_L_link_18 : decode c_L_link 18 = .ok (.goto 11, 3) := by decide +kernel
theorem d_L_link_21 : decode c_L_link 21 = .ok (.astore 8, 2) := by decide +kernel
theorem d_L_link_23 : decode c_L_link 23 = .ok (.iconst 1, 1) := by decide +kernel
theorem d_L_link_24 : decode c_L_link 24 = .ok (.ireturn, 1) := by decide +kernel
theorem d_L_link_25 : decode c_L_link 25 = .ok (.astore 8, 2) := by decide +kernel
theorem d_L_link_27 : decode c_L_link 27 = .ok (.iconst 2, 1) := by decide +kernel
theorem d_L_link_28 : decode c_L_link 28 = .ok (.ireturn, 1) := by decide +kernel
theorem d_L_link_29 : decode c_L_link 29 = .ok (.iconst 0, 1) := by decide +kernel
theorem d_L_link_30 : decode c_L_link 30 = .ok (.ireturn, 1) := by decide +kernel
theorem d_L_up_0 : decode c_L_up 0 = .ok (.aload_n 0, 1) := by decide +kernel
theorem d_L_up_1 : decode c_L_up 1 = .ok (.iload_n 1, 1) := by decide +kernel
theorem d_L_up_2 : decode c_L_up 2 = .ok (.iload_n 2, 1) := by decide +kernel
theorem d_L_up_3 : decode c_L_up 3 = .ok (.invokevirtual 21, 3) := by decide +kernel
theorem d_L_up_6 : decode c_L_up 6 = .ok (.goto 6, 3) := by decide +kernel
theorem d_L_up_9 : decode c_L_up 9 = .ok (.astore_n 3, 1) := by decide +kernel
theorem d_L_up_10 : decode c_L_up 10 = .ok (.iconst 1, 1) := by decide +kernel
theorem d_L_up_11 : decode c_L_up 11 = .ok (.ireturn, 1) := by decide +kernel
theorem d_L_up_12 : decode c_L_up 12 = .ok (.iconst 0, 1) := by decide +kernel
theorem d_L_up_13 : decode c_L_up 13 = .ok (.ireturn, 1) := by decide +kernel
theorem d_L_priority_0 : decode c_L_priority 0 = .ok (.aload_n 0, 1) := by decide +kernel
theorem d_L_priority_1 : decode c_L_priority 1 = .ok (.iload_n 1, 1) := by decide +kernel
theorem d_L_priority_2 : decode c_L_priority 2 = .ok (.iload_n 2, 1) := by decide +kernel
theorem d_L_priority_3 : decode c_L_priority 3 = .ok (.invokevirtual 25, 3) := by decide +kernel
theorem d_L_priority_6 : decode c_L_priority 6 = .ok (.goto 6, 3) := by decide +kernel
theorem d_L_priority_9 : decode c_L_priority 9 = .ok (.astore_n 3, 1) := by decide +kernel
theorem d_L_priority_10 : decode c_L_priority 10 = .ok (.iconst 1, 1) := by decide +kernel
theorem d_L_priority_11 : decode c_L_priority 11 = .ok (.ireturn, 1) := by decide +kernel
theorem d_L_priority_12 : decode c_L_priority 12 = .ok (.iconst 0, 1) := by decide +kernel
theorem d_L_priority_13 : decode c_L_priority 13 = .ok (.ireturn, 1) := by decide +kernel
theorem d_L_round_0 : decode c_L_round 0 = .ok (.aload_n 2, 1) := by decide +kernel
theorem d_L_round_1 : decode c_L_round 1 = .ok (.iconst 0, 1) := by decide +kernel
theorem d_L_round_2 : decode c_L_round 2 = .ok (.aload_n 0, 1) := by decide +kernel
theorem d_L_round_3 : decode c_L_round 3 = .ok (.iload_n 1, 1) := by decide +kernel
theorem d_L_round_4 : decode c_L_round 4 = .ok (.invokevirtual 29, 3) := by decide +kernel
theorem d_L_round_7 : decode c_L_round 7 = .ok (.i2l, 1) := by decide +kernel
theorem d_L_round_8 : decode c_L_round 8 = .ok (.lastore, 1) := by decide +kernel
theorem d_L_round_9 : decode c_L_round 9 = .ok (.goto 6, 3) := by decide +kernel
theorem d_L_round_12 : decode c_L_round 12 = .ok (.astore_n 3, 1) := by decide +kernel
theorem d_L_round_13 : decode c_L_round 13 = .ok (.iconst 1, 1) := by decide +kernel
theorem d_L_round_14 : decode c_L_round 14 = .ok (.ireturn, 1) := by decide +kernel
theorem d_L_round_15 : decode c_L_round 15 = .ok (.iconst 0, 1) := by decide +kernel
theorem d_L_round_16 : decode c_L_round 16 = .ok (.ireturn, 1) := by decide +kernel
theorem d_L_state_0 : decode c_L_state 0 = .ok (.aload_n 3, 1) := by decide +kernel
theorem d_L_state_1 : decode c_L_state 1 = .ok (.iconst 0, 1) := by decide +kernel
theorem d_L_state_2 : decode c_L_state 2 = .ok (.aload_n 0, 1) := by decide +kernel
theorem d_L_state_3 : decode c_L_state 3 = .ok (.iload_n 1, 1) := by decide +kernel
theorem d_L_state_4 : decode c_L_state 4 = .ok (.iload_n 2, 1) := by decide +kernel
theorem d_L_state_5 : decode c_L_state 5 = .ok (.invokevirtual 33, 3) := by decide +kernel
theorem d_L_state_8 : decode c_L_state 8 = .ok (.i2l, 1) := by decide +kernel
theorem d_L_state_9 : decode c_L_state 9 = .ok (.lastore, 1) := by decide +kernel
theorem d_L_state_10 : decode c_L_state 10 = .ok (.goto 7, 3) := by decide +kernel
theorem d_L_state_13 : decode c_L_state 13 = .ok (.astore 4, 2) := by decide +kernel
theorem d_L_state_15 : decode c_L_state 15 = .ok (.iconst 1, 1) := by decide +kernel
theorem d_L_state_16 : decode c_L_state 16 = .ok (.ireturn, 1) := by decide +kernel
theorem d_L_state_17 : decode c_L_state 17 = .ok (.iconst 0, 1) := by decide +kernel
theorem d_L_state_18 : decode c_L_state 18 = .ok (.ireturn, 1) := by decide +kernel
theorem d_L_root_0 : decode c_L_root 0 = .ok (.aload_n 2, 1) := by decide +kernel
theorem d_L_root_1 : decode c_L_root 1 = .ok (.iconst 0, 1) := by decide +kernel
theorem d_L_root_2 : decode c_L_root 2 = .ok (.aload_n 0, 1) := by decide +kernel
theorem d_L_root_3 : decode c_L_root 3 = .ok (.iload_n 1, 1) := by decide +kernel
theorem d_L_root_4 : decode c_L_root 4 = .ok (.invokevirtual 37, 3) := by decide +kernel
theorem d_L_root_7 : decode c_L_root 7 = .ok (.i2l, 1) := by decide +kernel
theorem d_L_root_8 : decode c_L_root 8 = .ok (.lastore, 1) := by decide +kernel
theorem d_L_root_9 : decode c_L_root 9 = .ok (.goto 6, 3) := by decide +kernel
theorem d_L_root_12 : decode c_L_root 12 = .ok (.astore_n 3, 1) := by decide +kernel
theorem d_L_root_13 : decode c_L_root 13 = .ok (.iconst 1, 1) := by decide +kernel
theorem d_L_root_14 : decode c_L_root 14 = .ok (.ireturn, 1) := by decide +kernel
theorem d_L_root_15 : decode c_L_root 15 = .ok (.iconst 0, 1) := by decide +kernel
theorem d_L_root_16 : decode c_L_root 16 = .ok (.ireturn, 1) := by decide +kernel
theorem d_L_steps_0 : decode c_L_steps 0 = .ok (.aload_n 2, 1) := by decide +kernel
theorem d_L_steps_1 : decode c_L_steps 1 = .ok (.iconst 0, 1) := by decide +kernel
theorem d_L_steps_2 : decode c_L_steps 2 = .ok (.aload_n 0, 1) := by decide +kernel
theorem d_L_steps_3 : decode c_L_steps 3 = .ok (.iload_n 1, 1) := by decide +kernel
theorem d_L_steps_4 : decode c_L_steps 4 = .ok (.invokevirtual 40, 3) := by decide +kernel
theorem d_L_steps_7 : decode c_L_steps 7 = .ok (.i2l, 1) := by decide +kernel
theorem d_L_steps_8 : decode c_L_steps 8 = .ok (.lastore, 1) := by decide +kernel
theorem d_L_steps_9 : decode c_L_steps 9 = .ok (.goto 6, 3) := by decide +kernel
theorem d_L_steps_12 : decode c_L_steps 12 = .ok (.astore_n 3, 1) := by decide +kernel
theorem d_L_steps_13 : decode c_L_steps 13 = .ok (.iconst 1, 1) := by decide +kernel
theorem d_L_steps_14 : decode c_L_steps 14 = .ok (.ireturn, 1) := by decide +kernel
theorem d_L_steps_15 : decode c_L_steps 15 = .ok (.iconst 0, 1) := by decide +kernel
theorem d_L_steps_16 : decode c_L_steps 16 = .ok (.ireturn, 1) := by decide +kernel
theorem d_L_kept_0 : decode c_L_kept 0 = .ok (.aload_n 3, 1) := by decide +kernel
theorem d_L_kept_1 : decode c_L_kept 1 = .ok (.iconst 0, 1) := by decide +kernel
theorem d_L_kept_2 : decode c_L_kept 2 = .ok (.aload_n 0, 1) := by decide +kernel
theorem d_L_kept_3 : decode c_L_kept 3 = .ok (.iload_n 1, 1) := by decide +kernel
theorem d_L_kept_4 : decode c_L_kept 4 = .ok (.iload_n 2, 1) := by decide +kernel
theorem d_L_kept_5 : decode c_L_kept 5 = .ok (.invokevirtual 43, 3) := by decide +kernel
theorem d_L_kept_8 : decode c_L_kept 8 = .ok (.i2l, 1) := by decide +kernel
theorem d_L_kept_9 : decode c_L_kept 9 = .ok (.lastore, 1) := by decide +kernel
theorem d_L_kept_10 : decode c_L_kept 10 = .ok (.goto 7, 3) := by decide +kernel
theorem d_L_kept_13 : decode c_L_kept 13 = .ok (.astore 4, 2) := by decide +kernel
theorem d_L_kept_15 : decode c_L_kept 15 = .ok (.iconst 1, 1) := by decide +kernel
theorem d_L_kept_16 : decode c_L_kept 16 = .ok (.ireturn, 1) := by decide +kernel
theorem d_L_kept_17 : decode c_L_kept 17 = .ok (.iconst 0, 1) := by decide +kernel
theorem d_L_kept_18 : decode c_L_kept 18 = .ok (.ireturn, 1) := by decide +kernel
theorem d_L_exchange_0 : decode c_L_exchange 0 = .ok (.aload 6, 2) := by decide +kernel
theorem d_L_exchange_2 : decode c_L_exchange 2 = .ok (.iconst 0, 1) := by decide +kernel
theorem d_L_exchange_3 : decode c_L_exchange 3 = .ok (.aload_n 0, 1) := by decide +kernel
theorem d_L_exchange_4 : decode c_L_exchange 4 = .ok (.iload_n 1, 1) := by decide +kernel
theorem d_L_exchange_5 : decode c_L_exchange 5 = .ok (.lload_n 2, 1) := by decide +kernel
theorem d_L_exchange_6 : decode c_L_exchange 6 = .ok (.iload 4, 2) := by decide +kernel
theorem d_L_exchange_8 : decode c_L_exchange 8 = .ok (.iload 5, 2) := by decide +kernel
theorem d_L_exchange_10 : decode c_L_exchange 10 = .ok (.invokevirtual 46, 3) := by decide +kernel
theorem d_L_exchange_13 : decode c_L_exchange 13 = .ok (.lastore, 1) := by decide +kernel
theorem d_L_exchange_14 : decode c_L_exchange 14 = .ok (.goto 15, 3) := by decide +kernel
theorem d_L_exchange_17 : decode c_L_exchange 17 = .ok (.astore 7, 2) := by decide +kernel
theorem d_L_exchange_19 : decode c_L_exchange 19 = .ok (.iconst 1, 1) := by decide +kernel
theorem d_L_exchange_20 : decode c_L_exchange 20 = .ok (.ireturn, 1) := by decide +kernel
theorem d_L_exchange_21 : decode c_L_exchange 21 = .ok (.astore 7, 2) := by decide +kernel
theorem d_L_exchange_23 : decode c_L_exchange 23 = .ok (.iconst 2, 1) := by decide +kernel
theorem d_L_exchange_24 : decode c_L_exchange 24 = .ok (.ireturn, 1) := by decide +kernel
theorem d_L_exchange_25 : decode c_L_exchange 25 = .ok (.astore 7, 2) := by decide +kernel
theorem d_L_exchange_27 : decode c_L_exchange 27 = .ok (.iconst 3, 1) := by decide +kernel
theorem d_L_exchange_28 : decode c_L_exchange 28 = .ok (.ireturn, 1) := by decide +kernel
theorem d_L_exchange_29 : decode c_L_exchange 29 = .ok (.iconst 0, 1) := by decide +kernel
theorem d_L_exchange_30 : decode c_L_exchange 30 = .ok (.ireturn, 1) := by decide +kernel
theorem d_L_delay_0 : decode c_L_delay 0 = .ok (.aload_n 2, 1) := by decide +kernel
theorem d_L_delay_1 : decode c_L_delay 1 = .ok (.iconst 0, 1) := by decide +kernel
theorem d_L_delay_2 : decode c_L_delay 2 = .ok (.aload_n 0, 1) := by decide +kernel
theorem d_L_delay_3 : decode c_L_delay 3 = .ok (.iload_n 1, 1) := by decide +kernel
theorem d_L_delay_4 : decode c_L_delay 4 = .ok (.invokevirtual 52, 3) := by decide +kernel
theorem d_L_delay_7 : decode c_L_delay 7 = .ok (.lastore, 1) := by decide +kernel
theorem d_L_delay_8 : decode c_L_delay 8 = .ok (.goto 6, 3) := by decide +kernel
theorem d_L_delay_11 : decode c_L_delay 11 = .ok (.astore_n 3, 1) := by decide +kernel
theorem d_L_delay_12 : decode c_L_delay 12 = .ok (.iconst 1, 1) := by decide +kernel
theorem d_L_delay_13 : decode c_L_delay 13 = .ok (.ireturn, 1) := by decide +kernel
theorem d_L_delay_14 : decode c_L_delay 14 = .ok (.iconst 0, 1) := by decide +kernel
theorem d_L_delay_15 : decode c_L_delay 15 = .ok (.ireturn, 1) := by decide +kernel
theorem d_L_offset_0 : decode c_L_offset 0 = .ok (.aload_n 2, 1) := by decide +kernel
theorem d_L_offset_1 : decode c_L_offset 1 = .ok (.iconst 0, 1) := by decide +kernel
theorem d_L_offset_2 : decode c_L_offset 2 = .ok (.aload_n 0, 1) := by decide +kernel
theorem d_L_offset_3 : decode c_L_offset 3 = .ok (.iload_n 1, 1) := by decide +kernel
theorem d_L_offset_4 : decode c_L_offset 4 = .ok (.invokevirtual 56, 3) := by decide +kernel
theorem d_L_offset_7 : decode c_L_offset 7 = .ok (.lastore, 1) := by decide +kernel
theorem d_L_offset_8 : decode c_L_offset 8 = .ok (.goto 6, 3) := by decide +kernel
theorem d_L_offset_11 : decode c_L_offset 11 = .ok (.astore_n 3, 1) := by decide +kernel
theorem d_L_offset_12 : decode c_L_offset 12 = .ok (.iconst 1, 1) := by decide +kernel
theorem d_L_offset_13 : decode c_L_offset 13 = .ok (.ireturn, 1) := by decide +kernel
theorem d_L_offset_14 : decode c_L_offset 14 = .ok (.iconst 0, 1) := by decide +kernel
theorem d_L_offset_15 : decode c_L_offset 15 = .ok (.ireturn, 1) := by decide +kernel
end
section
section FR
variable {l : Launch} {G : LG} {M : MI} {PM : LPM} {pc : Nat} {lv : List (Nat × Value)} {st : List Value} {σ : HS} {mc ms a : Nat}
theorem p_T_11 {b : Nat} (hb : ¬ b = 13) (hM : M.1.cls = R_T) (hF : M.1.name = "<init>") (hd : decode M.2.1 pc = .ok (.putfield 11, 3)) (k : Ex l G M PM (pc + 3) lv st (sR σ 5 a 0 (some b)) mc ms) : Ex l G M PM pc lv (.ref b :: .ref (5 + 16 * a) :: st) σ mc ms := e_putRF (q := 5) (f := 0) hd (by rw [hM]; exact fl_T_11) rfl ⟨by decide, by decide⟩ hb ⟨rfl, hF, hM.symm⟩ rfl (Or.inr ⟨_, rfl⟩) k
theorem p_T_11N  (hM : M.1.cls = R_T) (hF : M.1.name = "<init>") (hd : decode M.2.1 pc = .ok (.putfield 11, 3)) (k : Ex l G M PM (pc + 3) lv st (sR σ 5 a 0 none) mc ms) : Ex l G M PM pc lv (.null :: .ref (5 + 16 * a) :: st) σ mc ms := e_putNF (q := 5) (f := 0) hd (by rw [hM]; exact fl_T_11) rfl ⟨by decide, by decide⟩ ⟨rfl, hF, hM.symm⟩ rfl (Or.inr ⟨_, rfl⟩) k
theorem p_T_17 {b : Nat} (hb : ¬ b = 13) (hM : M.1.cls = R_T) (hF : M.1.name = "<init>") (hd : decode M.2.1 pc = .ok (.putfield 17, 3)) (k : Ex l G M PM (pc + 3) lv st (sR σ 5 a 1 (some b)) mc ms) : Ex l G M PM pc lv (.ref b :: .ref (5 + 16 * a) :: st) σ mc ms := e_putRF (q := 5) (f := 1) hd (by rw [hM]; exact fl_T_17) rfl ⟨by decide, by decide⟩ hb ⟨rfl, hF, hM.symm⟩ rfl (Or.inr ⟨_, rfl⟩) k
theorem p_T_17N  (hM : M.1.cls = R_T) (hF : M.1.name = "<init>") (hd : decode M.2.1 pc = .ok (.putfield 17, 3)) (k : Ex l G M PM (pc + 3) lv st (sR σ 5 a 1 none) mc ms) : Ex l G M PM pc lv (.null :: .ref (5 + 16 * a) :: st) σ mc ms := e_putNF (q := 5) (f := 1) hd (by rw [hM]; exact fl_T_17) rfl ⟨by decide, by decide⟩ ⟨rfl, hF, hM.symm⟩ rfl (Or.inr ⟨_, rfl⟩) k
theorem p_T_24 {b : Nat} (hb : ¬ b = 13) (hM : M.1.cls = R_T) (hF : M.1.name = "<init>") (hd : decode M.2.1 pc = .ok (.putfield 24, 3)) (k : Ex l G M PM (pc + 3) lv st (sR σ 5 a 2 (some b)) mc ms) : Ex l G M PM pc lv (.ref b :: .ref (5 + 16 * a) :: st) σ mc ms := e_putRF (q := 5) (f := 2) hd (by rw [hM]; exact fl_T_24) rfl ⟨by decide, by decide⟩ hb ⟨rfl, hF, hM.symm⟩ rfl (Or.inl ⟨_, rfl⟩) k
theorem p_T_24N  (hM : M.1.cls = R_T) (hF : M.1.name = "<init>") (hd : decode M.2.1 pc = .ok (.putfield 24, 3)) (k : Ex l G M PM (pc + 3) lv st (sR σ 5 a 2 none) mc ms) : Ex l G M PM pc lv (.null :: .ref (5 + 16 * a) :: st) σ mc ms := e_putNF (q := 5) (f := 2) hd (by rw [hM]; exact fl_T_24) rfl ⟨by decide, by decide⟩ ⟨rfl, hF, hM.symm⟩ rfl (Or.inl ⟨_, rfl⟩) k
theorem p_T_28 {v : Int32} (hM : M.1.cls = R_T)  (hd : decode M.2.1 pc = .ok (.putfield 28, 3)) (k : Ex l G M PM (pc + 3) lv st (sI σ 5 a 3 v) mc ms) : Ex l G M PM pc lv (.int v :: .ref (5 + 16 * a) :: st) σ mc ms := e_putI (q := 5) (f := 3) hd (by rw [hM]; exact fl_T_28) rfl ⟨by decide, by decide⟩ rfl rfl rfl k
theorem p_T_32 {v : Int32} (hM : M.1.cls = R_T)  (hd : decode M.2.1 pc = .ok (.putfield 32, 3)) (k : Ex l G M PM (pc + 3) lv st (sI σ 5 a 4 v) mc ms) : Ex l G M PM pc lv (.int v :: .ref (5 + 16 * a) :: st) σ mc ms := e_putI (q := 5) (f := 4) hd (by rw [hM]; exact fl_T_32) rfl ⟨by decide, by decide⟩ rfl rfl rfl k
theorem p_T_35 {v : Int32} (hz : v = 0 ∨ v = 1) (hM : M.1.cls = R_T)  (hd : decode M.2.1 pc = .ok (.putfield 35, 3)) (k : Ex l G M PM (pc + 3) lv st (sI σ 5 a 5 v) mc ms) : Ex l G M PM pc lv (.int v :: .ref (5 + 16 * a) :: st) σ mc ms := e_putZ (q := 5) (f := 5) hd (by rw [hM]; exact fl_T_35) rfl ⟨by decide, by decide⟩ rfl rfl rfl hz k
theorem g_T_35 (hM : M.1.cls = R_T) (hd : decode M.2.1 pc = .ok (.getfield 35, 3)) (k : Ex l G M PM (pc + 3) lv (.int (hI σ 5 a 5) :: st) σ mc ms) : Ex l G M PM pc lv (.ref (5 + 16 * a) :: st) σ mc ms := e_getI (q := 5) (f := 5) hd (by rw [hM]; exact fl_T_35) rfl ⟨by decide, by decide⟩ rfl k
theorem g_T_28 (hM : M.1.cls = R_T) (hd : decode M.2.1 pc = .ok (.getfield 28, 3)) (k : Ex l G M PM (pc + 3) lv (.int (hI σ 5 a 3) :: st) σ mc ms) : Ex l G M PM pc lv (.ref (5 + 16 * a) :: st) σ mc ms := e_getI (q := 5) (f := 3) hd (by rw [hM]; exact fl_T_28) rfl ⟨by decide, by decide⟩ rfl k
theorem g_T_11 {b : Nat} (hM : M.1.cls = R_T) (hd : decode M.2.1 pc = .ok (.getfield 11, 3)) (hr : hR σ 5 a 0 = some b) (k : Ex l G M PM (pc + 3) lv (.ref b :: st) σ mc ms) : Ex l G M PM pc lv (.ref (5 + 16 * a) :: st) σ mc ms := e_getR (q := 5) (f := 0) hd (by rw [hM]; exact fl_T_11) rfl ⟨by decide, by decide⟩ rfl hr k
theorem g_T_11N (hM : M.1.cls = R_T) (hd : decode M.2.1 pc = .ok (.getfield 11, 3)) (hr : hR σ 5 a 0 = none) (k : Ex l G M PM (pc + 3) lv (.null :: st) σ mc ms) : Ex l G M PM pc lv (.ref (5 + 16 * a) :: st) σ mc ms := e_getN (q := 5) (f := 0) hd (by rw [hM]; exact fl_T_11) rfl ⟨by decide, by decide⟩ rfl hr k
theorem g_T_177 {b : Nat} (hM : M.1.cls = R_T) (hd : decode M.2.1 pc = .ok (.getfield 177, 3)) (hr : hR σ 2 a 2 = some b) (k : Ex l G M PM (pc + 3) lv (.ref b :: st) σ mc ms) : Ex l G M PM pc lv (.ref (2 + 16 * a) :: st) σ mc ms := e_getR (q := 2) (f := 2) hd (by rw [hM]; exact fl_T_177) rfl ⟨by decide, by decide⟩ rfl hr k
theorem g_T_177N (hM : M.1.cls = R_T) (hd : decode M.2.1 pc = .ok (.getfield 177, 3)) (hr : hR σ 2 a 2 = none) (k : Ex l G M PM (pc + 3) lv (.null :: st) σ mc ms) : Ex l G M PM pc lv (.ref (2 + 16 * a) :: st) σ mc ms := e_getN (q := 2) (f := 2) hd (by rw [hM]; exact fl_T_177) rfl ⟨by decide, by decide⟩ rfl hr k
theorem g_T_189 {b : Nat} (hM : M.1.cls = R_T) (hd : decode M.2.1 pc = .ok (.getfield 189, 3)) (hr : hR σ 1 a 3 = some b) (k : Ex l G M PM (pc + 3) lv (.ref b :: st) σ mc ms) : Ex l G M PM pc lv (.ref (1 + 16 * a) :: st) σ mc ms := e_getR (q := 1) (f := 3) hd (by rw [hM]; exact fl_T_189) rfl ⟨by decide, by decide⟩ rfl hr k
theorem g_T_189N (hM : M.1.cls = R_T) (hd : decode M.2.1 pc = .ok (.getfield 189, 3)) (hr : hR σ 1 a 3 = none) (k : Ex l G M PM (pc + 3) lv (.null :: st) σ mc ms) : Ex l G M PM pc lv (.ref (1 + 16 * a) :: st) σ mc ms := e_getN (q := 1) (f := 3) hd (by rw [hM]; exact fl_T_189) rfl ⟨by decide, by decide⟩ rfl hr k
theorem g_P_38 {b : Nat} (hM : M.1.cls = R_P) (hd : decode M.2.1 pc = .ok (.getfield 38, 3)) (hr : hR σ 1 a 7 = some b) (k : Ex l G M PM (pc + 3) lv (.ref b :: st) σ mc ms) : Ex l G M PM pc lv (.ref (1 + 16 * a) :: st) σ mc ms := e_getR (q := 1) (f := 7) hd (by rw [hM]; exact fl_P_38) rfl ⟨by decide, by decide⟩ rfl hr k
theorem g_P_38N (hM : M.1.cls = R_P) (hd : decode M.2.1 pc = .ok (.getfield 38, 3)) (hr : hR σ 1 a 7 = none) (k : Ex l G M PM (pc + 3) lv (.null :: st) σ mc ms) : Ex l G M PM pc lv (.ref (1 + 16 * a) :: st) σ mc ms := e_getN (q := 1) (f := 7) hd (by rw [hM]; exact fl_P_38) rfl ⟨by decide, by decide⟩ rfl hr k
theorem g_P_42 (hM : M.1.cls = R_P) (hd : decode M.2.1 pc = .ok (.getfield 42, 3)) (k : Ex l G M PM (pc + 3) lv (.int (hI σ 3 a 4) :: st) σ mc ms) : Ex l G M PM pc lv (.ref (3 + 16 * a) :: st) σ mc ms := e_getI (q := 3) (f := 4) hd (by rw [hM]; exact fl_P_42) rfl ⟨by decide, by decide⟩ rfl k
theorem g_P_35 (hM : M.1.cls = R_P) (hd : decode M.2.1 pc = .ok (.getfield 35, 3)) (k : Ex l G M PM (pc + 3) lv (.int (hI σ 1 a 6) :: st) σ mc ms) : Ex l G M PM pc lv (.ref (1 + 16 * a) :: st) σ mc ms := e_getI (q := 1) (f := 6) hd (by rw [hM]; exact fl_P_35) rfl ⟨by decide, by decide⟩ rfl k
theorem g_K_7 {b : Nat} (hM : M.1.cls = R_K) (hd : decode M.2.1 pc = .ok (.getfield 7, 3)) (hr : hR σ 3 a 0 = some b) (k : Ex l G M PM (pc + 3) lv (.ref b :: st) σ mc ms) : Ex l G M PM pc lv (.ref (3 + 16 * a) :: st) σ mc ms := e_getR (q := 3) (f := 0) hd (by rw [hM]; exact fl_K_7) rfl ⟨by decide, by decide⟩ rfl hr k
theorem g_K_7N (hM : M.1.cls = R_K) (hd : decode M.2.1 pc = .ok (.getfield 7, 3)) (hr : hR σ 3 a 0 = none) (k : Ex l G M PM (pc + 3) lv (.null :: st) σ mc ms) : Ex l G M PM pc lv (.ref (3 + 16 * a) :: st) σ mc ms := e_getN (q := 3) (f := 0) hd (by rw [hM]; exact fl_K_7) rfl ⟨by decide, by decide⟩ rfl hr k
theorem g_K_13 {b : Nat} (hM : M.1.cls = R_K) (hd : decode M.2.1 pc = .ok (.getfield 13, 3)) (hr : hR σ 3 a 1 = some b) (k : Ex l G M PM (pc + 3) lv (.ref b :: st) σ mc ms) : Ex l G M PM pc lv (.ref (3 + 16 * a) :: st) σ mc ms := e_getR (q := 3) (f := 1) hd (by rw [hM]; exact fl_K_13) rfl ⟨by decide, by decide⟩ rfl hr k
theorem g_K_13N (hM : M.1.cls = R_K) (hd : decode M.2.1 pc = .ok (.getfield 13, 3)) (hr : hR σ 3 a 1 = none) (k : Ex l G M PM (pc + 3) lv (.null :: st) σ mc ms) : Ex l G M PM pc lv (.ref (3 + 16 * a) :: st) σ mc ms := e_getN (q := 3) (f := 1) hd (by rw [hM]; exact fl_K_13) rfl ⟨by decide, by decide⟩ rfl hr k
theorem g_N_43 (hM : M.1.cls = R_N) (hd : decode M.2.1 pc = .ok (.getfield 43, 3)) (k : Ex l G M PM (pc + 3) lv (.int (hI σ 0 a 4) :: st) σ mc ms) : Ex l G M PM pc lv (.ref (0 + 16 * a) :: st) σ mc ms := e_getI (q := 0) (f := 4) hd (by rw [hM]; exact fl_N_43) rfl ⟨by decide, by decide⟩ rfl k
theorem g_N_46 (hM : M.1.cls = R_N) (hd : decode M.2.1 pc = .ok (.getfield 46, 3)) (k : Ex l G M PM (pc + 3) lv (.int (hI σ 0 a 3) :: st) σ mc ms) : Ex l G M PM pc lv (.ref (0 + 16 * a) :: st) σ mc ms := e_getI (q := 0) (f := 3) hd (by rw [hM]; exact fl_N_46) rfl ⟨by decide, by decide⟩ rfl k
theorem g_N_27 {b : Nat} (hM : M.1.cls = R_N) (hd : decode M.2.1 pc = .ok (.getfield 27, 3)) (hr : hR σ 2 a 1 = some b) (k : Ex l G M PM (pc + 3) lv (.ref b :: st) σ mc ms) : Ex l G M PM pc lv (.ref (2 + 16 * a) :: st) σ mc ms := e_getR (q := 2) (f := 1) hd (by rw [hM]; exact fl_N_27) rfl ⟨by decide, by decide⟩ rfl hr k
theorem g_N_27N (hM : M.1.cls = R_N) (hd : decode M.2.1 pc = .ok (.getfield 27, 3)) (hr : hR σ 2 a 1 = none) (k : Ex l G M PM (pc + 3) lv (.null :: st) σ mc ms) : Ex l G M PM pc lv (.ref (2 + 16 * a) :: st) σ mc ms := e_getN (q := 2) (f := 1) hd (by rw [hM]; exact fl_N_27) rfl ⟨by decide, by decide⟩ rfl hr k
theorem g_P_28 (hM : M.1.cls = R_P) (hd : decode M.2.1 pc = .ok (.getfield 28, 3)) (k : Ex l G M PM (pc + 3) lv (.int (hI σ 1 a 4) :: st) σ mc ms) : Ex l G M PM pc lv (.ref (1 + 16 * a) :: st) σ mc ms := e_getI (q := 1) (f := 4) hd (by rw [hM]; exact fl_P_28) rfl ⟨by decide, by decide⟩ rfl k
theorem g_P_21 {b : Nat} (hM : M.1.cls = R_P) (hd : decode M.2.1 pc = .ok (.getfield 21, 3)) (hr : hR σ 1 a 2 = some b) (k : Ex l G M PM (pc + 3) lv (.ref b :: st) σ mc ms) : Ex l G M PM pc lv (.ref (1 + 16 * a) :: st) σ mc ms := e_getR (q := 1) (f := 2) hd (by rw [hM]; exact fl_P_21) rfl ⟨by decide, by decide⟩ rfl hr k
theorem g_P_21N (hM : M.1.cls = R_P) (hd : decode M.2.1 pc = .ok (.getfield 21, 3)) (hr : hR σ 1 a 2 = none) (k : Ex l G M PM (pc + 3) lv (.null :: st) σ mc ms) : Ex l G M PM pc lv (.ref (1 + 16 * a) :: st) σ mc ms := e_getN (q := 1) (f := 2) hd (by rw [hM]; exact fl_P_21) rfl ⟨by decide, by decide⟩ rfl hr k
theorem g_P_59 (hM : M.1.cls = R_P) (hd : decode M.2.1 pc = .ok (.getfield 59, 3)) (k : Ex l G M PM (pc + 3) lv (.int (hI σ 0 a 4) :: st) σ mc ms) : Ex l G M PM pc lv (.ref (0 + 16 * a) :: st) σ mc ms := e_getI (q := 0) (f := 4) hd (by rw [hM]; exact fl_P_59) rfl ⟨by decide, by decide⟩ rfl k
theorem p_P_59 {v : Int32} (hM : M.1.cls = R_P)  (hd : decode M.2.1 pc = .ok (.putfield 59, 3)) (k : Ex l G M PM (pc + 3) lv st (sI σ 0 a 4 v) mc ms) : Ex l G M PM pc lv (.int v :: .ref (0 + 16 * a) :: st) σ mc ms := e_putI (q := 0) (f := 4) hd (by rw [hM]; exact fl_P_59) rfl ⟨by decide, by decide⟩ rfl rfl rfl k
theorem g_P_62 (hM : M.1.cls = R_P) (hd : decode M.2.1 pc = .ok (.getfield 62, 3)) (k : Ex l G M PM (pc + 3) lv (.int (hI σ 0 a 5) :: st) σ mc ms) : Ex l G M PM pc lv (.ref (0 + 16 * a) :: st) σ mc ms := e_getI (q := 0) (f := 5) hd (by rw [hM]; exact fl_P_62) rfl ⟨by decide, by decide⟩ rfl k
theorem p_P_62 {v : Int32} (hM : M.1.cls = R_P)  (hd : decode M.2.1 pc = .ok (.putfield 62, 3)) (k : Ex l G M PM (pc + 3) lv st (sI σ 0 a 5 v) mc ms) : Ex l G M PM pc lv (.int v :: .ref (0 + 16 * a) :: st) σ mc ms := e_putI (q := 0) (f := 5) hd (by rw [hM]; exact fl_P_62) rfl ⟨by decide, by decide⟩ rfl rfl rfl k
theorem g_P_65 (hM : M.1.cls = R_P) (hd : decode M.2.1 pc = .ok (.getfield 65, 3)) (k : Ex l G M PM (pc + 3) lv (.int (hI σ 0 a 6) :: st) σ mc ms) : Ex l G M PM pc lv (.ref (0 + 16 * a) :: st) σ mc ms := e_getI (q := 0) (f := 6) hd (by rw [hM]; exact fl_P_65) rfl ⟨by decide, by decide⟩ rfl k
theorem p_P_65 {v : Int32} (hM : M.1.cls = R_P)  (hd : decode M.2.1 pc = .ok (.putfield 65, 3)) (k : Ex l G M PM (pc + 3) lv st (sI σ 0 a 6 v) mc ms) : Ex l G M PM pc lv (.int v :: .ref (0 + 16 * a) :: st) σ mc ms := e_putI (q := 0) (f := 6) hd (by rw [hM]; exact fl_P_65) rfl ⟨by decide, by decide⟩ rfl rfl rfl k
theorem g_P_15 (hM : M.1.cls = R_P) (hd : decode M.2.1 pc = .ok (.getfield 15, 3)) (k : Ex l G M PM (pc + 3) lv (.int (hI σ 1 a 1) :: st) σ mc ms) : Ex l G M PM pc lv (.ref (1 + 16 * a) :: st) σ mc ms := e_getI (q := 1) (f := 1) hd (by rw [hM]; exact fl_P_15) rfl ⟨by decide, by decide⟩ rfl k
theorem p_P_68 {v : Int32} (hM : M.1.cls = R_P)  (hd : decode M.2.1 pc = .ok (.putfield 68, 3)) (k : Ex l G M PM (pc + 3) lv st (sI σ 0 a 7 v) mc ms) : Ex l G M PM pc lv (.int v :: .ref (0 + 16 * a) :: st) σ mc ms := e_putI (q := 0) (f := 7) hd (by rw [hM]; exact fl_P_68) rfl ⟨by decide, by decide⟩ rfl rfl rfl k
theorem p_P_28 {v : Int32} (hz : v = 0 ∨ v = 1) (hM : M.1.cls = R_P)  (hd : decode M.2.1 pc = .ok (.putfield 28, 3)) (k : Ex l G M PM (pc + 3) lv st (sI σ 1 a 4 v) mc ms) : Ex l G M PM pc lv (.int v :: .ref (1 + 16 * a) :: st) σ mc ms := e_putZ (q := 1) (f := 4) hd (by rw [hM]; exact fl_P_28) rfl ⟨by decide, by decide⟩ rfl rfl rfl hz k
theorem p_P_32 {v : Int32} (hM : M.1.cls = R_P)  (hd : decode M.2.1 pc = .ok (.putfield 32, 3)) (k : Ex l G M PM (pc + 3) lv st (sI σ 1 a 5 v) mc ms) : Ex l G M PM pc lv (.int v :: .ref (1 + 16 * a) :: st) σ mc ms := e_putI (q := 1) (f := 5) hd (by rw [hM]; exact fl_P_32) rfl ⟨by decide, by decide⟩ rfl rfl rfl k
theorem g_D_9 (hM : M.1.cls = R_D) (hd : decode M.2.1 pc = .ok (.getfield 9, 3)) (k : Ex l G M PM (pc + 3) lv (.int (hI σ 0 a 0) :: st) σ mc ms) : Ex l G M PM pc lv (.ref (0 + 16 * a) :: st) σ mc ms := e_getI (q := 0) (f := 0) hd (by rw [hM]; exact fl_D_9) rfl ⟨by decide, by decide⟩ rfl k
theorem g_D_15 (hM : M.1.cls = R_D) (hd : decode M.2.1 pc = .ok (.getfield 15, 3)) (k : Ex l G M PM (pc + 3) lv (.int (hI σ 0 a 1) :: st) σ mc ms) : Ex l G M PM pc lv (.ref (0 + 16 * a) :: st) σ mc ms := e_getI (q := 0) (f := 1) hd (by rw [hM]; exact fl_D_15) rfl ⟨by decide, by decide⟩ rfl k
theorem g_D_18 (hM : M.1.cls = R_D) (hd : decode M.2.1 pc = .ok (.getfield 18, 3)) (k : Ex l G M PM (pc + 3) lv (.int (hI σ 0 a 2) :: st) σ mc ms) : Ex l G M PM pc lv (.ref (0 + 16 * a) :: st) σ mc ms := e_getI (q := 0) (f := 2) hd (by rw [hM]; exact fl_D_18) rfl ⟨by decide, by decide⟩ rfl k
theorem g_D_21 (hM : M.1.cls = R_D) (hd : decode M.2.1 pc = .ok (.getfield 21, 3)) (k : Ex l G M PM (pc + 3) lv (.int (hI σ 0 a 3) :: st) σ mc ms) : Ex l G M PM pc lv (.ref (0 + 16 * a) :: st) σ mc ms := e_getI (q := 0) (f := 3) hd (by rw [hM]; exact fl_D_21) rfl ⟨by decide, by decide⟩ rfl k
theorem g_D_24 (hM : M.1.cls = R_D) (hd : decode M.2.1 pc = .ok (.getfield 24, 3)) (k : Ex l G M PM (pc + 3) lv (.int (hI σ 0 a 4) :: st) σ mc ms) : Ex l G M PM pc lv (.ref (0 + 16 * a) :: st) σ mc ms := e_getI (q := 0) (f := 4) hd (by rw [hM]; exact fl_D_24) rfl ⟨by decide, by decide⟩ rfl k
theorem g_D_27 (hM : M.1.cls = R_D) (hd : decode M.2.1 pc = .ok (.getfield 27, 3)) (k : Ex l G M PM (pc + 3) lv (.int (hI σ 0 a 5) :: st) σ mc ms) : Ex l G M PM pc lv (.ref (0 + 16 * a) :: st) σ mc ms := e_getI (q := 0) (f := 5) hd (by rw [hM]; exact fl_D_27) rfl ⟨by decide, by decide⟩ rfl k
theorem g_D_30 (hM : M.1.cls = R_D) (hd : decode M.2.1 pc = .ok (.getfield 30, 3)) (k : Ex l G M PM (pc + 3) lv (.int (hI σ 0 a 6) :: st) σ mc ms) : Ex l G M PM pc lv (.ref (0 + 16 * a) :: st) σ mc ms := e_getI (q := 0) (f := 6) hd (by rw [hM]; exact fl_D_30) rfl ⟨by decide, by decide⟩ rfl k
theorem p_D_9 {v : Int32} (hM : M.1.cls = R_D)  (hd : decode M.2.1 pc = .ok (.putfield 9, 3)) (k : Ex l G M PM (pc + 3) lv st (sI σ 0 a 0 v) mc ms) : Ex l G M PM pc lv (.int v :: .ref (0 + 16 * a) :: st) σ mc ms := e_putI (q := 0) (f := 0) hd (by rw [hM]; exact fl_D_9) rfl ⟨by decide, by decide⟩ rfl rfl rfl k
theorem p_D_15 {v : Int32} (hM : M.1.cls = R_D)  (hd : decode M.2.1 pc = .ok (.putfield 15, 3)) (k : Ex l G M PM (pc + 3) lv st (sI σ 0 a 1 v) mc ms) : Ex l G M PM pc lv (.int v :: .ref (0 + 16 * a) :: st) σ mc ms := e_putI (q := 0) (f := 1) hd (by rw [hM]; exact fl_D_15) rfl ⟨by decide, by decide⟩ rfl rfl rfl k
theorem p_D_18 {v : Int32} (hM : M.1.cls = R_D)  (hd : decode M.2.1 pc = .ok (.putfield 18, 3)) (k : Ex l G M PM (pc + 3) lv st (sI σ 0 a 2 v) mc ms) : Ex l G M PM pc lv (.int v :: .ref (0 + 16 * a) :: st) σ mc ms := e_putI (q := 0) (f := 2) hd (by rw [hM]; exact fl_D_18) rfl ⟨by decide, by decide⟩ rfl rfl rfl k
theorem p_D_21 {v : Int32} (hM : M.1.cls = R_D)  (hd : decode M.2.1 pc = .ok (.putfield 21, 3)) (k : Ex l G M PM (pc + 3) lv st (sI σ 0 a 3 v) mc ms) : Ex l G M PM pc lv (.int v :: .ref (0 + 16 * a) :: st) σ mc ms := e_putI (q := 0) (f := 3) hd (by rw [hM]; exact fl_D_21) rfl ⟨by decide, by decide⟩ rfl rfl rfl k
theorem g_P_32 (hM : M.1.cls = R_P) (hd : decode M.2.1 pc = .ok (.getfield 32, 3)) (k : Ex l G M PM (pc + 3) lv (.int (hI σ 1 a 5) :: st) σ mc ms) : Ex l G M PM pc lv (.ref (1 + 16 * a) :: st) σ mc ms := e_getI (q := 1) (f := 5) hd (by rw [hM]; exact fl_P_32) rfl ⟨by decide, by decide⟩ rfl k
theorem p_N_31 {b : Nat} (hb : ¬ b = 13) (hM : M.1.cls = R_N)  (hd : decode M.2.1 pc = .ok (.putfield 31, 3)) (k : Ex l G M PM (pc + 3) lv st (sR σ 2 a 3 (some b)) mc ms) : Ex l G M PM pc lv (.ref b :: .ref (2 + 16 * a) :: st) σ mc ms := e_putR (q := 2) (f := 3) hd (by rw [hM]; exact fl_N_31) rfl ⟨by decide, by decide⟩ hb rfl rfl (Or.inl ⟨_, rfl⟩) k
theorem p_N_31N  (hM : M.1.cls = R_N)  (hd : decode M.2.1 pc = .ok (.putfield 31, 3)) (k : Ex l G M PM (pc + 3) lv st (sR σ 2 a 3 none) mc ms) : Ex l G M PM pc lv (.null :: .ref (2 + 16 * a) :: st) σ mc ms := e_putN (q := 2) (f := 3) hd (by rw [hM]; exact fl_N_31) rfl ⟨by decide, by decide⟩ rfl rfl (Or.inl ⟨_, rfl⟩) k
theorem g_N_36 {b : Nat} (hM : M.1.cls = R_N) (hd : decode M.2.1 pc = .ok (.getfield 36, 3)) (hr : hR σ 2 a 2 = some b) (k : Ex l G M PM (pc + 3) lv (.ref b :: st) σ mc ms) : Ex l G M PM pc lv (.ref (2 + 16 * a) :: st) σ mc ms := e_getR (q := 2) (f := 2) hd (by rw [hM]; exact fl_N_36) rfl ⟨by decide, by decide⟩ rfl hr k
theorem g_N_36N (hM : M.1.cls = R_N) (hd : decode M.2.1 pc = .ok (.getfield 36, 3)) (hr : hR σ 2 a 2 = none) (k : Ex l G M PM (pc + 3) lv (.null :: st) σ mc ms) : Ex l G M PM pc lv (.ref (2 + 16 * a) :: st) σ mc ms := e_getN (q := 2) (f := 2) hd (by rw [hM]; exact fl_N_36) rfl ⟨by decide, by decide⟩ rfl hr k
theorem g_N_31 {b : Nat} (hM : M.1.cls = R_N) (hd : decode M.2.1 pc = .ok (.getfield 31, 3)) (hr : hR σ 2 a 3 = some b) (k : Ex l G M PM (pc + 3) lv (.ref b :: st) σ mc ms) : Ex l G M PM pc lv (.ref (2 + 16 * a) :: st) σ mc ms := e_getR (q := 2) (f := 3) hd (by rw [hM]; exact fl_N_31) rfl ⟨by decide, by decide⟩ rfl hr k
theorem g_N_31N (hM : M.1.cls = R_N) (hd : decode M.2.1 pc = .ok (.getfield 31, 3)) (hr : hR σ 2 a 3 = none) (k : Ex l G M PM (pc + 3) lv (.null :: st) σ mc ms) : Ex l G M PM pc lv (.ref (2 + 16 * a) :: st) σ mc ms := e_getN (q := 2) (f := 3) hd (by rw [hM]; exact fl_N_31) rfl ⟨by decide, by decide⟩ rfl hr k
theorem g_N_61 (hM : M.1.cls = R_N) (hd : decode M.2.1 pc = .ok (.getfield 61, 3)) (k : Ex l G M PM (pc + 3) lv (.int (hI σ 1 a 6) :: st) σ mc ms) : Ex l G M PM pc lv (.ref (1 + 16 * a) :: st) σ mc ms := e_getI (q := 1) (f := 6) hd (by rw [hM]; exact fl_N_61) rfl ⟨by decide, by decide⟩ rfl k
theorem p_N_61 {v : Int32} (hM : M.1.cls = R_N)  (hd : decode M.2.1 pc = .ok (.putfield 61, 3)) (k : Ex l G M PM (pc + 3) lv st (sI σ 1 a 6 v) mc ms) : Ex l G M PM pc lv (.int v :: .ref (1 + 16 * a) :: st) σ mc ms := e_putI (q := 1) (f := 6) hd (by rw [hM]; exact fl_N_61) rfl ⟨by decide, by decide⟩ rfl rfl rfl k
theorem g_N_64 (hM : M.1.cls = R_N) (hd : decode M.2.1 pc = .ok (.getfield 64, 3)) (k : Ex l G M PM (pc + 3) lv (.int (hI σ 1 a 4) :: st) σ mc ms) : Ex l G M PM pc lv (.ref (1 + 16 * a) :: st) σ mc ms := e_getI (q := 1) (f := 4) hd (by rw [hM]; exact fl_N_64) rfl ⟨by decide, by decide⟩ rfl k
theorem g_N_68 {b : Nat} (hM : M.1.cls = R_N) (hd : decode M.2.1 pc = .ok (.getfield 68, 3)) (hr : hR σ 1 a 2 = some b) (k : Ex l G M PM (pc + 3) lv (.ref b :: st) σ mc ms) : Ex l G M PM pc lv (.ref (1 + 16 * a) :: st) σ mc ms := e_getR (q := 1) (f := 2) hd (by rw [hM]; exact fl_N_68) rfl ⟨by decide, by decide⟩ rfl hr k
theorem g_N_68N (hM : M.1.cls = R_N) (hd : decode M.2.1 pc = .ok (.getfield 68, 3)) (hr : hR σ 1 a 2 = none) (k : Ex l G M PM (pc + 3) lv (.null :: st) σ mc ms) : Ex l G M PM pc lv (.ref (1 + 16 * a) :: st) σ mc ms := e_getN (q := 1) (f := 2) hd (by rw [hM]; exact fl_N_68) rfl ⟨by decide, by decide⟩ rfl hr k
theorem g_D_33 (hM : M.1.cls = R_D) (hd : decode M.2.1 pc = .ok (.getfield 33, 3)) (k : Ex l G M PM (pc + 3) lv (.int (hI σ 0 a 7) :: st) σ mc ms) : Ex l G M PM pc lv (.ref (0 + 16 * a) :: st) σ mc ms := e_getI (q := 0) (f := 7) hd (by rw [hM]; exact fl_D_33) rfl ⟨by decide, by decide⟩ rfl k
theorem g_P_25 {b : Nat} (hM : M.1.cls = R_P) (hd : decode M.2.1 pc = .ok (.getfield 25, 3)) (hr : hR σ 1 a 3 = some b) (k : Ex l G M PM (pc + 3) lv (.ref b :: st) σ mc ms) : Ex l G M PM pc lv (.ref (1 + 16 * a) :: st) σ mc ms := e_getR (q := 1) (f := 3) hd (by rw [hM]; exact fl_P_25) rfl ⟨by decide, by decide⟩ rfl hr k
theorem g_P_25N (hM : M.1.cls = R_P) (hd : decode M.2.1 pc = .ok (.getfield 25, 3)) (hr : hR σ 1 a 3 = none) (k : Ex l G M PM (pc + 3) lv (.null :: st) σ mc ms) : Ex l G M PM pc lv (.ref (1 + 16 * a) :: st) σ mc ms := e_getN (q := 1) (f := 3) hd (by rw [hM]; exact fl_P_25) rfl ⟨by decide, by decide⟩ rfl hr k
theorem g_P_71 (hM : M.1.cls = R_P) (hd : decode M.2.1 pc = .ok (.getfield 71, 3)) (k : Ex l G M PM (pc + 3) lv (.int (hI σ 0 a 3) :: st) σ mc ms) : Ex l G M PM pc lv (.ref (0 + 16 * a) :: st) σ mc ms := e_getI (q := 0) (f := 3) hd (by rw [hM]; exact fl_P_71) rfl ⟨by decide, by decide⟩ rfl k
theorem g_T_126 {b : Nat} (hM : M.1.cls = R_T) (hd : decode M.2.1 pc = .ok (.getfield 126, 3)) (hr : hR σ 2 a 3 = some b) (k : Ex l G M PM (pc + 3) lv (.ref b :: st) σ mc ms) : Ex l G M PM pc lv (.ref (2 + 16 * a) :: st) σ mc ms := e_getR (q := 2) (f := 3) hd (by rw [hM]; exact fl_T_126) rfl ⟨by decide, by decide⟩ rfl hr k
theorem g_T_126N (hM : M.1.cls = R_T) (hd : decode M.2.1 pc = .ok (.getfield 126, 3)) (hr : hR σ 2 a 3 = none) (k : Ex l G M PM (pc + 3) lv (.null :: st) σ mc ms) : Ex l G M PM pc lv (.ref (2 + 16 * a) :: st) σ mc ms := e_getN (q := 2) (f := 3) hd (by rw [hM]; exact fl_T_126) rfl ⟨by decide, by decide⟩ rfl hr k
theorem g_T_132 (hM : M.1.cls = R_T) (hd : decode M.2.1 pc = .ok (.getfield 132, 3)) (k : Ex l G M PM (pc + 3) lv (.int (hI σ 0 a 4) :: st) σ mc ms) : Ex l G M PM pc lv (.ref (0 + 16 * a) :: st) σ mc ms := e_getI (q := 0) (f := 4) hd (by rw [hM]; exact fl_T_132) rfl ⟨by decide, by decide⟩ rfl k
theorem g_T_202 (hM : M.1.cls = R_T) (hd : decode M.2.1 pc = .ok (.getfield 202, 3)) (k : Ex l G M PM (pc + 3) lv (.int (hI σ 0 a 7) :: st) σ mc ms) : Ex l G M PM pc lv (.ref (0 + 16 * a) :: st) σ mc ms := e_getI (q := 0) (f := 7) hd (by rw [hM]; exact fl_T_202) rfl ⟨by decide, by decide⟩ rfl k
theorem g_T_92 {b : Nat} (hM : M.1.cls = R_T) (hd : decode M.2.1 pc = .ok (.getfield 92, 3)) (hr : hR σ 1 a 7 = some b) (k : Ex l G M PM (pc + 3) lv (.ref b :: st) σ mc ms) : Ex l G M PM pc lv (.ref (1 + 16 * a) :: st) σ mc ms := e_getR (q := 1) (f := 7) hd (by rw [hM]; exact fl_T_92) rfl ⟨by decide, by decide⟩ rfl hr k
theorem g_T_92N (hM : M.1.cls = R_T) (hd : decode M.2.1 pc = .ok (.getfield 92, 3)) (hr : hR σ 1 a 7 = none) (k : Ex l G M PM (pc + 3) lv (.null :: st) σ mc ms) : Ex l G M PM pc lv (.ref (1 + 16 * a) :: st) σ mc ms := e_getN (q := 1) (f := 7) hd (by rw [hM]; exact fl_T_92) rfl ⟨by decide, by decide⟩ rfl hr k
theorem g_T_105 (hM : M.1.cls = R_T) (hd : decode M.2.1 pc = .ok (.getfield 105, 3)) (k : Ex l G M PM (pc + 3) lv (.int (hI σ 3 a 4) :: st) σ mc ms) : Ex l G M PM pc lv (.ref (3 + 16 * a) :: st) σ mc ms := e_getI (q := 3) (f := 4) hd (by rw [hM]; exact fl_T_105) rfl ⟨by decide, by decide⟩ rfl k
theorem g_T_209 (hM : M.1.cls = R_T) (hd : decode M.2.1 pc = .ok (.getfield 209, 3)) (k : Ex l G M PM (pc + 3) lv (.int (hI σ 1 a 0) :: st) σ mc ms) : Ex l G M PM pc lv (.ref (1 + 16 * a) :: st) σ mc ms := e_getI (q := 1) (f := 0) hd (by rw [hM]; exact fl_T_209) rfl ⟨by decide, by decide⟩ rfl k
theorem g_T_24 {b : Nat} (hM : M.1.cls = R_T) (hd : decode M.2.1 pc = .ok (.getfield 24, 3)) (hr : hR σ 5 a 2 = some b) (k : Ex l G M PM (pc + 3) lv (.ref b :: st) σ mc ms) : Ex l G M PM pc lv (.ref (5 + 16 * a) :: st) σ mc ms := e_getR (q := 5) (f := 2) hd (by rw [hM]; exact fl_T_24) rfl ⟨by decide, by decide⟩ rfl hr k
theorem g_T_24N (hM : M.1.cls = R_T) (hd : decode M.2.1 pc = .ok (.getfield 24, 3)) (hr : hR σ 5 a 2 = none) (k : Ex l G M PM (pc + 3) lv (.null :: st) σ mc ms) : Ex l G M PM pc lv (.ref (5 + 16 * a) :: st) σ mc ms := e_getN (q := 5) (f := 2) hd (by rw [hM]; exact fl_T_24) rfl ⟨by decide, by decide⟩ rfl hr k
theorem g_T_166 (hM : M.1.cls = R_T) (hd : decode M.2.1 pc = .ok (.getfield 166, 3)) (k : Ex l G M PM (pc + 3) lv (.long (hJ σ 2 a 4) :: st) σ mc ms) : Ex l G M PM pc lv (.ref (2 + 16 * a) :: st) σ mc ms := e_getJ (q := 2) (f := 4) hd (by rw [hM]; exact fl_T_166) rfl ⟨by decide, by decide⟩ rfl k
theorem g_T_230 (hM : M.1.cls = R_T) (hd : decode M.2.1 pc = .ok (.getfield 230, 3)) (k : Ex l G M PM (pc + 3) lv (.int (hI σ 4 a 0) :: st) σ mc ms) : Ex l G M PM pc lv (.ref (4 + 16 * a) :: st) σ mc ms := e_getI (q := 4) (f := 0) hd (by rw [hM]; exact fl_T_230) rfl ⟨by decide, by decide⟩ rfl k
theorem g_T_233 (hM : M.1.cls = R_T) (hd : decode M.2.1 pc = .ok (.getfield 233, 3)) (k : Ex l G M PM (pc + 3) lv (.long (hJ σ 4 a 3) :: st) σ mc ms) : Ex l G M PM pc lv (.ref (4 + 16 * a) :: st) σ mc ms := e_getJ (q := 4) (f := 3) hd (by rw [hM]; exact fl_T_233) rfl ⟨by decide, by decide⟩ rfl k
theorem p_T_166 {v : Int64} (hM : M.1.cls = R_T)  (hd : decode M.2.1 pc = .ok (.putfield 166, 3)) (k : Ex l G M PM (pc + 3) lv st (sJ σ 2 a 4 v) mc ms) : Ex l G M PM pc lv (.long v :: .ref (2 + 16 * a) :: st) σ mc ms := e_putJ (q := 2) (f := 4) hd (by rw [hM]; exact fl_T_166) rfl ⟨by decide, by decide⟩ rfl rfl rfl k
theorem g_T_236 (hM : M.1.cls = R_T) (hd : decode M.2.1 pc = .ok (.getfield 236, 3)) (k : Ex l G M PM (pc + 3) lv (.long (hJ σ 4 a 2) :: st) σ mc ms) : Ex l G M PM pc lv (.ref (4 + 16 * a) :: st) σ mc ms := e_getJ (q := 4) (f := 2) hd (by rw [hM]; exact fl_T_236) rfl ⟨by decide, by decide⟩ rfl k
theorem p_T_163 {v : Int64} (hM : M.1.cls = R_T)  (hd : decode M.2.1 pc = .ok (.putfield 163, 3)) (k : Ex l G M PM (pc + 3) lv st (sJ σ 2 a 5 v) mc ms) : Ex l G M PM pc lv (.long v :: .ref (2 + 16 * a) :: st) σ mc ms := e_putJ (q := 2) (f := 5) hd (by rw [hM]; exact fl_T_163) rfl ⟨by decide, by decide⟩ rfl rfl rfl k
theorem g_K_20 (hM : M.1.cls = R_K) (hd : decode M.2.1 pc = .ok (.getfield 20, 3)) (k : Ex l G M PM (pc + 3) lv (.int (hI σ 3 a 3) :: st) σ mc ms) : Ex l G M PM pc lv (.ref (3 + 16 * a) :: st) σ mc ms := e_getI (q := 3) (f := 3) hd (by rw [hM]; exact fl_K_20) rfl ⟨by decide, by decide⟩ rfl k
theorem g_K_16 (hM : M.1.cls = R_K) (hd : decode M.2.1 pc = .ok (.getfield 16, 3)) (k : Ex l G M PM (pc + 3) lv (.int (hI σ 3 a 2) :: st) σ mc ms) : Ex l G M PM pc lv (.ref (3 + 16 * a) :: st) σ mc ms := e_getI (q := 3) (f := 2) hd (by rw [hM]; exact fl_K_16) rfl ⟨by decide, by decide⟩ rfl k
theorem p_R_9 {v : Int32} (hz : v = 0 ∨ v = 1) (hM : M.1.cls = R_R)  (hd : decode M.2.1 pc = .ok (.putfield 9, 3)) (k : Ex l G M PM (pc + 3) lv st (sI σ 4 a 0 v) mc ms) : Ex l G M PM pc lv (.int v :: .ref (4 + 16 * a) :: st) σ mc ms := e_putZ (q := 4) (f := 0) hd (by rw [hM]; exact fl_R_9) rfl ⟨by decide, by decide⟩ rfl rfl rfl hz k
theorem p_R_15 {v : Int64} (hM : M.1.cls = R_R)  (hd : decode M.2.1 pc = .ok (.putfield 15, 3)) (k : Ex l G M PM (pc + 3) lv st (sJ σ 4 a 4 v) mc ms) : Ex l G M PM pc lv (.long v :: .ref (4 + 16 * a) :: st) σ mc ms := e_putJ (q := 4) (f := 4) hd (by rw [hM]; exact fl_R_15) rfl ⟨by decide, by decide⟩ rfl rfl rfl k
theorem g_R_15 (hM : M.1.cls = R_R) (hd : decode M.2.1 pc = .ok (.getfield 15, 3)) (k : Ex l G M PM (pc + 3) lv (.long (hJ σ 4 a 4) :: st) σ mc ms) : Ex l G M PM pc lv (.ref (4 + 16 * a) :: st) σ mc ms := e_getJ (q := 4) (f := 4) hd (by rw [hM]; exact fl_R_15) rfl ⟨by decide, by decide⟩ rfl k
theorem p_R_23 {v : Int64} (hM : M.1.cls = R_R)  (hd : decode M.2.1 pc = .ok (.putfield 23, 3)) (k : Ex l G M PM (pc + 3) lv st (sJ σ 4 a 5 v) mc ms) : Ex l G M PM pc lv (.long v :: .ref (4 + 16 * a) :: st) σ mc ms := e_putJ (q := 4) (f := 5) hd (by rw [hM]; exact fl_R_23) rfl ⟨by decide, by decide⟩ rfl rfl rfl k
theorem g_R_23 (hM : M.1.cls = R_R) (hd : decode M.2.1 pc = .ok (.getfield 23, 3)) (k : Ex l G M PM (pc + 3) lv (.long (hJ σ 4 a 5) :: st) σ mc ms) : Ex l G M PM pc lv (.ref (4 + 16 * a) :: st) σ mc ms := e_getJ (q := 4) (f := 5) hd (by rw [hM]; exact fl_R_23) rfl ⟨by decide, by decide⟩ rfl k
theorem p_R_28 {v : Int64} (hM : M.1.cls = R_R)  (hd : decode M.2.1 pc = .ok (.putfield 28, 3)) (k : Ex l G M PM (pc + 3) lv st (sJ σ 4 a 6 v) mc ms) : Ex l G M PM pc lv (.long v :: .ref (4 + 16 * a) :: st) σ mc ms := e_putJ (q := 4) (f := 6) hd (by rw [hM]; exact fl_R_28) rfl ⟨by decide, by decide⟩ rfl rfl rfl k
theorem g_R_28 (hM : M.1.cls = R_R) (hd : decode M.2.1 pc = .ok (.getfield 28, 3)) (k : Ex l G M PM (pc + 3) lv (.long (hJ σ 4 a 6) :: st) σ mc ms) : Ex l G M PM pc lv (.ref (4 + 16 * a) :: st) σ mc ms := e_getJ (q := 4) (f := 6) hd (by rw [hM]; exact fl_R_28) rfl ⟨by decide, by decide⟩ rfl k
theorem p_R_31 {v : Int64} (hM : M.1.cls = R_R)  (hd : decode M.2.1 pc = .ok (.putfield 31, 3)) (k : Ex l G M PM (pc + 3) lv st (sJ σ 4 a 7 v) mc ms) : Ex l G M PM pc lv (.long v :: .ref (4 + 16 * a) :: st) σ mc ms := e_putJ (q := 4) (f := 7) hd (by rw [hM]; exact fl_R_31) rfl ⟨by decide, by decide⟩ rfl rfl rfl k
theorem p_R_34 {v : Int64} (hM : M.1.cls = R_R)  (hd : decode M.2.1 pc = .ok (.putfield 34, 3)) (k : Ex l G M PM (pc + 3) lv st (sJ σ 4 a 8 v) mc ms) : Ex l G M PM pc lv (.long v :: .ref (4 + 16 * a) :: st) σ mc ms := e_putJ (q := 4) (f := 8) hd (by rw [hM]; exact fl_R_34) rfl ⟨by decide, by decide⟩ rfl rfl rfl k
theorem p_R_37 {v : Int64} (hM : M.1.cls = R_R)  (hd : decode M.2.1 pc = .ok (.putfield 37, 3)) (k : Ex l G M PM (pc + 3) lv st (sJ σ 4 a 9 v) mc ms) : Ex l G M PM pc lv (.long v :: .ref (4 + 16 * a) :: st) σ mc ms := e_putJ (q := 4) (f := 9) hd (by rw [hM]; exact fl_R_37) rfl ⟨by decide, by decide⟩ rfl rfl rfl k
theorem p_R_40 {v : Int64} (hM : M.1.cls = R_R)  (hd : decode M.2.1 pc = .ok (.putfield 40, 3)) (k : Ex l G M PM (pc + 3) lv st (sJ σ 4 a 10 v) mc ms) : Ex l G M PM pc lv (.long v :: .ref (4 + 16 * a) :: st) σ mc ms := e_putJ (q := 4) (f := 10) hd (by rw [hM]; exact fl_R_40) rfl ⟨by decide, by decide⟩ rfl rfl rfl k
theorem g_R_31 (hM : M.1.cls = R_R) (hd : decode M.2.1 pc = .ok (.getfield 31, 3)) (k : Ex l G M PM (pc + 3) lv (.long (hJ σ 4 a 7) :: st) σ mc ms) : Ex l G M PM pc lv (.ref (4 + 16 * a) :: st) σ mc ms := e_getJ (q := 4) (f := 7) hd (by rw [hM]; exact fl_R_31) rfl ⟨by decide, by decide⟩ rfl k
theorem p_R_43 {v : Int64} (hM : M.1.cls = R_R)  (hd : decode M.2.1 pc = .ok (.putfield 43, 3)) (k : Ex l G M PM (pc + 3) lv st (sJ σ 4 a 11 v) mc ms) : Ex l G M PM pc lv (.long v :: .ref (4 + 16 * a) :: st) σ mc ms := e_putJ (q := 4) (f := 11) hd (by rw [hM]; exact fl_R_43) rfl ⟨by decide, by decide⟩ rfl rfl rfl k
theorem g_R_37 (hM : M.1.cls = R_R) (hd : decode M.2.1 pc = .ok (.getfield 37, 3)) (k : Ex l G M PM (pc + 3) lv (.long (hJ σ 4 a 9) :: st) σ mc ms) : Ex l G M PM pc lv (.ref (4 + 16 * a) :: st) σ mc ms := e_getJ (q := 4) (f := 9) hd (by rw [hM]; exact fl_R_37) rfl ⟨by decide, by decide⟩ rfl k
theorem g_R_34 (hM : M.1.cls = R_R) (hd : decode M.2.1 pc = .ok (.getfield 34, 3)) (k : Ex l G M PM (pc + 3) lv (.long (hJ σ 4 a 8) :: st) σ mc ms) : Ex l G M PM pc lv (.ref (4 + 16 * a) :: st) σ mc ms := e_getJ (q := 4) (f := 8) hd (by rw [hM]; exact fl_R_34) rfl ⟨by decide, by decide⟩ rfl k
theorem g_R_43 (hM : M.1.cls = R_R) (hd : decode M.2.1 pc = .ok (.getfield 43, 3)) (k : Ex l G M PM (pc + 3) lv (.long (hJ σ 4 a 11) :: st) σ mc ms) : Ex l G M PM pc lv (.ref (4 + 16 * a) :: st) σ mc ms := e_getJ (q := 4) (f := 11) hd (by rw [hM]; exact fl_R_43) rfl ⟨by decide, by decide⟩ rfl k
theorem g_R_40 (hM : M.1.cls = R_R) (hd : decode M.2.1 pc = .ok (.getfield 40, 3)) (k : Ex l G M PM (pc + 3) lv (.long (hJ σ 4 a 10) :: st) σ mc ms) : Ex l G M PM pc lv (.ref (4 + 16 * a) :: st) σ mc ms := e_getJ (q := 4) (f := 10) hd (by rw [hM]; exact fl_R_40) rfl ⟨by decide, by decide⟩ rfl k
theorem p_R_51 {v : Int64} (hM : M.1.cls = R_R)  (hd : decode M.2.1 pc = .ok (.putfield 51, 3)) (k : Ex l G M PM (pc + 3) lv st (sJ σ 4 a 1 v) mc ms) : Ex l G M PM pc lv (.long v :: .ref (4 + 16 * a) :: st) σ mc ms := e_putJ (q := 4) (f := 1) hd (by rw [hM]; exact fl_R_51) rfl ⟨by decide, by decide⟩ rfl rfl rfl k
theorem p_R_54 {v : Int64} (hM : M.1.cls = R_R)  (hd : decode M.2.1 pc = .ok (.putfield 54, 3)) (k : Ex l G M PM (pc + 3) lv st (sJ σ 4 a 2 v) mc ms) : Ex l G M PM pc lv (.long v :: .ref (4 + 16 * a) :: st) σ mc ms := e_putJ (q := 4) (f := 2) hd (by rw [hM]; exact fl_R_54) rfl ⟨by decide, by decide⟩ rfl rfl rfl k
theorem g_R_51 (hM : M.1.cls = R_R) (hd : decode M.2.1 pc = .ok (.getfield 51, 3)) (k : Ex l G M PM (pc + 3) lv (.long (hJ σ 4 a 1) :: st) σ mc ms) : Ex l G M PM pc lv (.ref (4 + 16 * a) :: st) σ mc ms := e_getJ (q := 4) (f := 1) hd (by rw [hM]; exact fl_R_51) rfl ⟨by decide, by decide⟩ rfl k
theorem p_R_57 {v : Int64} (hM : M.1.cls = R_R)  (hd : decode M.2.1 pc = .ok (.putfield 57, 3)) (k : Ex l G M PM (pc + 3) lv st (sJ σ 4 a 3 v) mc ms) : Ex l G M PM pc lv (.long v :: .ref (4 + 16 * a) :: st) σ mc ms := e_putJ (q := 4) (f := 3) hd (by rw [hM]; exact fl_R_57) rfl ⟨by decide, by decide⟩ rfl rfl rfl k
theorem g_T_64 {b : Nat} (hM : M.1.cls = R_T) (hd : decode M.2.1 pc = .ok (.getfield 64, 3)) (hr : hR σ 2 a 1 = some b) (k : Ex l G M PM (pc + 3) lv (.ref b :: st) σ mc ms) : Ex l G M PM pc lv (.ref (2 + 16 * a) :: st) σ mc ms := e_getR (q := 2) (f := 1) hd (by rw [hM]; exact fl_T_64) rfl ⟨by decide, by decide⟩ rfl hr k
theorem g_T_64N (hM : M.1.cls = R_T) (hd : decode M.2.1 pc = .ok (.getfield 64, 3)) (hr : hR σ 2 a 1 = none) (k : Ex l G M PM (pc + 3) lv (.null :: st) σ mc ms) : Ex l G M PM pc lv (.ref (2 + 16 * a) :: st) σ mc ms := e_getN (q := 2) (f := 1) hd (by rw [hM]; exact fl_T_64) rfl ⟨by decide, by decide⟩ rfl hr k
theorem g_T_78 (hM : M.1.cls = R_T) (hd : decode M.2.1 pc = .ok (.getfield 78, 3)) (k : Ex l G M PM (pc + 3) lv (.int (hI σ 2 a 0) :: st) σ mc ms) : Ex l G M PM pc lv (.ref (2 + 16 * a) :: st) σ mc ms := e_getI (q := 2) (f := 0) hd (by rw [hM]; exact fl_T_78) rfl ⟨by decide, by decide⟩ rfl k
theorem g_T_129 (hM : M.1.cls = R_T) (hd : decode M.2.1 pc = .ok (.getfield 129, 3)) (k : Ex l G M PM (pc + 3) lv (.int (hI σ 0 a 3) :: st) σ mc ms) : Ex l G M PM pc lv (.ref (0 + 16 * a) :: st) σ mc ms := e_getI (q := 0) (f := 3) hd (by rw [hM]; exact fl_T_129) rfl ⟨by decide, by decide⟩ rfl k
theorem p_N_9 {v : Int32} (hM : M.1.cls = R_N) (hF : M.1.name = "<init>") (hd : decode M.2.1 pc = .ok (.putfield 9, 3)) (k : Ex l G M PM (pc + 3) lv st (sI σ 2 a 0 v) mc ms) : Ex l G M PM pc lv (.int v :: .ref (2 + 16 * a) :: st) σ mc ms := e_putIF (q := 2) (f := 0) hd (by rw [hM]; exact fl_N_9) rfl ⟨by decide, by decide⟩ ⟨rfl, hF, hM.symm⟩ rfl rfl k
theorem p_N_15 {v : Int64} (hM : M.1.cls = R_N)  (hd : decode M.2.1 pc = .ok (.putfield 15, 3)) (k : Ex l G M PM (pc + 3) lv st (sJ σ 2 a 4 v) mc ms) : Ex l G M PM pc lv (.long v :: .ref (2 + 16 * a) :: st) σ mc ms := e_putJ (q := 2) (f := 4) hd (by rw [hM]; exact fl_N_15) rfl ⟨by decide, by decide⟩ rfl rfl rfl k
theorem p_N_21 {v : Int64} (hM : M.1.cls = R_N)  (hd : decode M.2.1 pc = .ok (.putfield 21, 3)) (k : Ex l G M PM (pc + 3) lv st (sJ σ 2 a 5 v) mc ms) : Ex l G M PM pc lv (.long v :: .ref (2 + 16 * a) :: st) σ mc ms := e_putJ (q := 2) (f := 5) hd (by rw [hM]; exact fl_N_21) rfl ⟨by decide, by decide⟩ rfl rfl rfl k
theorem p_N_27 {b : Nat} (hb : ¬ b = 13) (hM : M.1.cls = R_N) (hF : M.1.name = "<init>") (hd : decode M.2.1 pc = .ok (.putfield 27, 3)) (k : Ex l G M PM (pc + 3) lv st (sR σ 2 a 1 (some b)) mc ms) : Ex l G M PM pc lv (.ref b :: .ref (2 + 16 * a) :: st) σ mc ms := e_putRF (q := 2) (f := 1) hd (by rw [hM]; exact fl_N_27) rfl ⟨by decide, by decide⟩ hb ⟨rfl, hF, hM.symm⟩ rfl (Or.inl ⟨_, rfl⟩) k
theorem p_N_27N  (hM : M.1.cls = R_N) (hF : M.1.name = "<init>") (hd : decode M.2.1 pc = .ok (.putfield 27, 3)) (k : Ex l G M PM (pc + 3) lv st (sR σ 2 a 1 none) mc ms) : Ex l G M PM pc lv (.null :: .ref (2 + 16 * a) :: st) σ mc ms := e_putNF (q := 2) (f := 1) hd (by rw [hM]; exact fl_N_27) rfl ⟨by decide, by decide⟩ ⟨rfl, hF, hM.symm⟩ rfl (Or.inl ⟨_, rfl⟩) k
theorem p_N_36 {b : Nat} (hb : ¬ b = 13) (hM : M.1.cls = R_N) (hF : M.1.name = "<init>") (hd : decode M.2.1 pc = .ok (.putfield 36, 3)) (k : Ex l G M PM (pc + 3) lv st (sR σ 2 a 2 (some b)) mc ms) : Ex l G M PM pc lv (.ref b :: .ref (2 + 16 * a) :: st) σ mc ms := e_putRF (q := 2) (f := 2) hd (by rw [hM]; exact fl_N_36) rfl ⟨by decide, by decide⟩ hb ⟨rfl, hF, hM.symm⟩ rfl (Or.inr ⟨_, rfl⟩) k
theorem p_N_36N  (hM : M.1.cls = R_N) (hF : M.1.name = "<init>") (hd : decode M.2.1 pc = .ok (.putfield 36, 3)) (k : Ex l G M PM (pc + 3) lv st (sR σ 2 a 2 none) mc ms) : Ex l G M PM pc lv (.null :: .ref (2 + 16 * a) :: st) σ mc ms := e_putNF (q := 2) (f := 2) hd (by rw [hM]; exact fl_N_36) rfl ⟨by decide, by decide⟩ ⟨rfl, hF, hM.symm⟩ rfl (Or.inr ⟨_, rfl⟩) k
theorem p_P_9 {v : Int32} (hM : M.1.cls = R_P) (hF : M.1.name = "<init>") (hd : decode M.2.1 pc = .ok (.putfield 9, 3)) (k : Ex l G M PM (pc + 3) lv st (sI σ 1 a 0 v) mc ms) : Ex l G M PM pc lv (.int v :: .ref (1 + 16 * a) :: st) σ mc ms := e_putIF (q := 1) (f := 0) hd (by rw [hM]; exact fl_P_9) rfl ⟨by decide, by decide⟩ ⟨rfl, hF, hM.symm⟩ rfl rfl k
theorem p_P_15 {v : Int32} (hM : M.1.cls = R_P) (hF : M.1.name = "<init>") (hd : decode M.2.1 pc = .ok (.putfield 15, 3)) (k : Ex l G M PM (pc + 3) lv st (sI σ 1 a 1 v) mc ms) : Ex l G M PM pc lv (.int v :: .ref (1 + 16 * a) :: st) σ mc ms := e_putIF (q := 1) (f := 1) hd (by rw [hM]; exact fl_P_15) rfl ⟨by decide, by decide⟩ ⟨rfl, hF, hM.symm⟩ rfl rfl k
theorem p_P_21 {b : Nat} (hb : ¬ b = 13) (hM : M.1.cls = R_P) (hF : M.1.name = "<init>") (hd : decode M.2.1 pc = .ok (.putfield 21, 3)) (k : Ex l G M PM (pc + 3) lv st (sR σ 1 a 2 (some b)) mc ms) : Ex l G M PM pc lv (.ref b :: .ref (1 + 16 * a) :: st) σ mc ms := e_putRF (q := 1) (f := 2) hd (by rw [hM]; exact fl_P_21) rfl ⟨by decide, by decide⟩ hb ⟨rfl, hF, hM.symm⟩ rfl (Or.inl ⟨_, rfl⟩) k
theorem p_P_21N  (hM : M.1.cls = R_P) (hF : M.1.name = "<init>") (hd : decode M.2.1 pc = .ok (.putfield 21, 3)) (k : Ex l G M PM (pc + 3) lv st (sR σ 1 a 2 none) mc ms) : Ex l G M PM pc lv (.null :: .ref (1 + 16 * a) :: st) σ mc ms := e_putNF (q := 1) (f := 2) hd (by rw [hM]; exact fl_P_21) rfl ⟨by decide, by decide⟩ ⟨rfl, hF, hM.symm⟩ rfl (Or.inl ⟨_, rfl⟩) k
theorem p_P_25 {b : Nat} (hb : ¬ b = 13) (hM : M.1.cls = R_P) (hF : M.1.name = "<init>") (hd : decode M.2.1 pc = .ok (.putfield 25, 3)) (k : Ex l G M PM (pc + 3) lv st (sR σ 1 a 3 (some b)) mc ms) : Ex l G M PM pc lv (.ref b :: .ref (1 + 16 * a) :: st) σ mc ms := e_putRF (q := 1) (f := 3) hd (by rw [hM]; exact fl_P_25) rfl ⟨by decide, by decide⟩ hb ⟨rfl, hF, hM.symm⟩ rfl (Or.inl ⟨_, rfl⟩) k
theorem p_P_25N  (hM : M.1.cls = R_P) (hF : M.1.name = "<init>") (hd : decode M.2.1 pc = .ok (.putfield 25, 3)) (k : Ex l G M PM (pc + 3) lv st (sR σ 1 a 3 none) mc ms) : Ex l G M PM pc lv (.null :: .ref (1 + 16 * a) :: st) σ mc ms := e_putNF (q := 1) (f := 3) hd (by rw [hM]; exact fl_P_25) rfl ⟨by decide, by decide⟩ ⟨rfl, hF, hM.symm⟩ rfl (Or.inl ⟨_, rfl⟩) k
theorem p_P_35 {v : Int32} (hM : M.1.cls = R_P)  (hd : decode M.2.1 pc = .ok (.putfield 35, 3)) (k : Ex l G M PM (pc + 3) lv st (sI σ 1 a 6 v) mc ms) : Ex l G M PM pc lv (.int v :: .ref (1 + 16 * a) :: st) σ mc ms := e_putI (q := 1) (f := 6) hd (by rw [hM]; exact fl_P_35) rfl ⟨by decide, by decide⟩ rfl rfl rfl k
theorem p_P_38 {b : Nat} (hb : ¬ b = 13) (hM : M.1.cls = R_P)  (hd : decode M.2.1 pc = .ok (.putfield 38, 3)) (k : Ex l G M PM (pc + 3) lv st (sR σ 1 a 7 (some b)) mc ms) : Ex l G M PM pc lv (.ref b :: .ref (1 + 16 * a) :: st) σ mc ms := e_putR (q := 1) (f := 7) hd (by rw [hM]; exact fl_P_38) rfl ⟨by decide, by decide⟩ hb rfl rfl (Or.inl ⟨_, rfl⟩) k
theorem p_P_38N  (hM : M.1.cls = R_P)  (hd : decode M.2.1 pc = .ok (.putfield 38, 3)) (k : Ex l G M PM (pc + 3) lv st (sR σ 1 a 7 none) mc ms) : Ex l G M PM pc lv (.null :: .ref (1 + 16 * a) :: st) σ mc ms := e_putN (q := 1) (f := 7) hd (by rw [hM]; exact fl_P_38) rfl ⟨by decide, by decide⟩ rfl rfl (Or.inl ⟨_, rfl⟩) k
theorem p_D_24 {v : Int32} (hM : M.1.cls = R_D)  (hd : decode M.2.1 pc = .ok (.putfield 24, 3)) (k : Ex l G M PM (pc + 3) lv st (sI σ 0 a 4 v) mc ms) : Ex l G M PM pc lv (.int v :: .ref (0 + 16 * a) :: st) σ mc ms := e_putI (q := 0) (f := 4) hd (by rw [hM]; exact fl_D_24) rfl ⟨by decide, by decide⟩ rfl rfl rfl k
theorem p_D_27 {v : Int32} (hM : M.1.cls = R_D)  (hd : decode M.2.1 pc = .ok (.putfield 27, 3)) (k : Ex l G M PM (pc + 3) lv st (sI σ 0 a 5 v) mc ms) : Ex l G M PM pc lv (.int v :: .ref (0 + 16 * a) :: st) σ mc ms := e_putI (q := 0) (f := 5) hd (by rw [hM]; exact fl_D_27) rfl ⟨by decide, by decide⟩ rfl rfl rfl k
theorem p_D_30 {v : Int32} (hM : M.1.cls = R_D)  (hd : decode M.2.1 pc = .ok (.putfield 30, 3)) (k : Ex l G M PM (pc + 3) lv st (sI σ 0 a 6 v) mc ms) : Ex l G M PM pc lv (.int v :: .ref (0 + 16 * a) :: st) σ mc ms := e_putI (q := 0) (f := 6) hd (by rw [hM]; exact fl_D_30) rfl ⟨by decide, by decide⟩ rfl rfl rfl k
theorem p_D_33 {v : Int32} (hM : M.1.cls = R_D)  (hd : decode M.2.1 pc = .ok (.putfield 33, 3)) (k : Ex l G M PM (pc + 3) lv st (sI σ 0 a 7 v) mc ms) : Ex l G M PM pc lv (.int v :: .ref (0 + 16 * a) :: st) σ mc ms := e_putI (q := 0) (f := 7) hd (by rw [hM]; exact fl_D_33) rfl ⟨by decide, by decide⟩ rfl rfl rfl k
theorem g_T_32 (hM : M.1.cls = R_T) (hd : decode M.2.1 pc = .ok (.getfield 32, 3)) (k : Ex l G M PM (pc + 3) lv (.int (hI σ 5 a 4) :: st) σ mc ms) : Ex l G M PM pc lv (.ref (5 + 16 * a) :: st) σ mc ms := e_getI (q := 5) (f := 4) hd (by rw [hM]; exact fl_T_32) rfl ⟨by decide, by decide⟩ rfl k
theorem p_T_92 {b : Nat} (hb : ¬ b = 13) (hM : M.1.cls = R_T)  (hd : decode M.2.1 pc = .ok (.putfield 92, 3)) (k : Ex l G M PM (pc + 3) lv st (sR σ 1 a 7 (some b)) mc ms) : Ex l G M PM pc lv (.ref b :: .ref (1 + 16 * a) :: st) σ mc ms := e_putR (q := 1) (f := 7) hd (by rw [hM]; exact fl_T_92) rfl ⟨by decide, by decide⟩ hb rfl rfl (Or.inl ⟨_, rfl⟩) k
theorem p_T_92N  (hM : M.1.cls = R_T)  (hd : decode M.2.1 pc = .ok (.putfield 92, 3)) (k : Ex l G M PM (pc + 3) lv st (sR σ 1 a 7 none) mc ms) : Ex l G M PM pc lv (.null :: .ref (1 + 16 * a) :: st) σ mc ms := e_putN (q := 1) (f := 7) hd (by rw [hM]; exact fl_T_92) rfl ⟨by decide, by decide⟩ rfl rfl (Or.inl ⟨_, rfl⟩) k
theorem g_T_17 {b : Nat} (hM : M.1.cls = R_T) (hd : decode M.2.1 pc = .ok (.getfield 17, 3)) (hr : hR σ 5 a 1 = some b) (k : Ex l G M PM (pc + 3) lv (.ref b :: st) σ mc ms) : Ex l G M PM pc lv (.ref (5 + 16 * a) :: st) σ mc ms := e_getR (q := 5) (f := 1) hd (by rw [hM]; exact fl_T_17) rfl ⟨by decide, by decide⟩ rfl hr k
theorem g_T_17N (hM : M.1.cls = R_T) (hd : decode M.2.1 pc = .ok (.getfield 17, 3)) (hr : hR σ 5 a 1 = none) (k : Ex l G M PM (pc + 3) lv (.null :: st) σ mc ms) : Ex l G M PM pc lv (.ref (5 + 16 * a) :: st) σ mc ms := e_getN (q := 5) (f := 1) hd (by rw [hM]; exact fl_T_17) rfl ⟨by decide, by decide⟩ rfl hr k
theorem p_K_7 {b : Nat} (hb : ¬ b = 13) (hM : M.1.cls = R_K) (hF : M.1.name = "<init>") (hd : decode M.2.1 pc = .ok (.putfield 7, 3)) (k : Ex l G M PM (pc + 3) lv st (sR σ 3 a 0 (some b)) mc ms) : Ex l G M PM pc lv (.ref b :: .ref (3 + 16 * a) :: st) σ mc ms := e_putRF (q := 3) (f := 0) hd (by rw [hM]; exact fl_K_7) rfl ⟨by decide, by decide⟩ hb ⟨rfl, hF, hM.symm⟩ rfl (Or.inl ⟨_, rfl⟩) k
theorem p_K_7N  (hM : M.1.cls = R_K) (hF : M.1.name = "<init>") (hd : decode M.2.1 pc = .ok (.putfield 7, 3)) (k : Ex l G M PM (pc + 3) lv st (sR σ 3 a 0 none) mc ms) : Ex l G M PM pc lv (.null :: .ref (3 + 16 * a) :: st) σ mc ms := e_putNF (q := 3) (f := 0) hd (by rw [hM]; exact fl_K_7) rfl ⟨by decide, by decide⟩ ⟨rfl, hF, hM.symm⟩ rfl (Or.inl ⟨_, rfl⟩) k
theorem p_K_13 {b : Nat} (hb : ¬ b = 13) (hM : M.1.cls = R_K) (hF : M.1.name = "<init>") (hd : decode M.2.1 pc = .ok (.putfield 13, 3)) (k : Ex l G M PM (pc + 3) lv st (sR σ 3 a 1 (some b)) mc ms) : Ex l G M PM pc lv (.ref b :: .ref (3 + 16 * a) :: st) σ mc ms := e_putRF (q := 3) (f := 1) hd (by rw [hM]; exact fl_K_13) rfl ⟨by decide, by decide⟩ hb ⟨rfl, hF, hM.symm⟩ rfl (Or.inl ⟨_, rfl⟩) k
theorem p_K_13N  (hM : M.1.cls = R_K) (hF : M.1.name = "<init>") (hd : decode M.2.1 pc = .ok (.putfield 13, 3)) (k : Ex l G M PM (pc + 3) lv st (sR σ 3 a 1 none) mc ms) : Ex l G M PM pc lv (.null :: .ref (3 + 16 * a) :: st) σ mc ms := e_putNF (q := 3) (f := 1) hd (by rw [hM]; exact fl_K_13) rfl ⟨by decide, by decide⟩ ⟨rfl, hF, hM.symm⟩ rfl (Or.inl ⟨_, rfl⟩) k
theorem p_K_16 {v : Int32} (hM : M.1.cls = R_K) (hF : M.1.name = "<init>") (hd : decode M.2.1 pc = .ok (.putfield 16, 3)) (k : Ex l G M PM (pc + 3) lv st (sI σ 3 a 2 v) mc ms) : Ex l G M PM pc lv (.int v :: .ref (3 + 16 * a) :: st) σ mc ms := e_putIF (q := 3) (f := 2) hd (by rw [hM]; exact fl_K_16) rfl ⟨by decide, by decide⟩ ⟨rfl, hF, hM.symm⟩ rfl rfl k
theorem p_K_20 {v : Int32} (hM : M.1.cls = R_K) (hF : M.1.name = "<init>") (hd : decode M.2.1 pc = .ok (.putfield 20, 3)) (k : Ex l G M PM (pc + 3) lv st (sI σ 3 a 3 v) mc ms) : Ex l G M PM pc lv (.int v :: .ref (3 + 16 * a) :: st) σ mc ms := e_putIF (q := 3) (f := 3) hd (by rw [hM]; exact fl_K_20) rfl ⟨by decide, by decide⟩ ⟨rfl, hF, hM.symm⟩ rfl rfl k
theorem p_K_23 {v : Int32} (hz : v = 0 ∨ v = 1) (hM : M.1.cls = R_K)  (hd : decode M.2.1 pc = .ok (.putfield 23, 3)) (k : Ex l G M PM (pc + 3) lv st (sI σ 3 a 4 v) mc ms) : Ex l G M PM pc lv (.int v :: .ref (3 + 16 * a) :: st) σ mc ms := e_putZ (q := 3) (f := 4) hd (by rw [hM]; exact fl_K_23) rfl ⟨by decide, by decide⟩ rfl rfl rfl hz k
theorem p_T_105 {v : Int32} (hz : v = 0 ∨ v = 1) (hM : M.1.cls = R_T)  (hd : decode M.2.1 pc = .ok (.putfield 105, 3)) (k : Ex l G M PM (pc + 3) lv st (sI σ 3 a 4 v) mc ms) : Ex l G M PM pc lv (.int v :: .ref (3 + 16 * a) :: st) σ mc ms := e_putZ (q := 3) (f := 4) hd (by rw [hM]; exact fl_T_105) rfl ⟨by decide, by decide⟩ rfl rfl rfl hz k
theorem p_T_114 {v : Int32} (hM : M.1.cls = R_T)  (hd : decode M.2.1 pc = .ok (.putfield 114, 3)) (k : Ex l G M PM (pc + 3) lv st (sI σ 0 a 0 v) mc ms) : Ex l G M PM pc lv (.int v :: .ref (0 + 16 * a) :: st) σ mc ms := e_putI (q := 0) (f := 0) hd (by rw [hM]; exact fl_T_114) rfl ⟨by decide, by decide⟩ rfl rfl rfl k
theorem g_T_123 (hM : M.1.cls = R_T) (hd : decode M.2.1 pc = .ok (.getfield 123, 3)) (k : Ex l G M PM (pc + 3) lv (.int (hI σ 1 a 6) :: st) σ mc ms) : Ex l G M PM pc lv (.ref (1 + 16 * a) :: st) σ mc ms := e_getI (q := 1) (f := 6) hd (by rw [hM]; exact fl_T_123) rfl ⟨by decide, by decide⟩ rfl k
theorem g_T_135 (hM : M.1.cls = R_T) (hd : decode M.2.1 pc = .ok (.getfield 135, 3)) (k : Ex l G M PM (pc + 3) lv (.int (hI σ 1 a 4) :: st) σ mc ms) : Ex l G M PM pc lv (.ref (1 + 16 * a) :: st) σ mc ms := e_getI (q := 1) (f := 4) hd (by rw [hM]; exact fl_T_135) rfl ⟨by decide, by decide⟩ rfl k
theorem g_T_138 {b : Nat} (hM : M.1.cls = R_T) (hd : decode M.2.1 pc = .ok (.getfield 138, 3)) (hr : hR σ 1 a 2 = some b) (k : Ex l G M PM (pc + 3) lv (.ref b :: st) σ mc ms) : Ex l G M PM pc lv (.ref (1 + 16 * a) :: st) σ mc ms := e_getR (q := 1) (f := 2) hd (by rw [hM]; exact fl_T_138) rfl ⟨by decide, by decide⟩ rfl hr k
theorem g_T_138N (hM : M.1.cls = R_T) (hd : decode M.2.1 pc = .ok (.getfield 138, 3)) (hr : hR σ 1 a 2 = none) (k : Ex l G M PM (pc + 3) lv (.null :: st) σ mc ms) : Ex l G M PM pc lv (.ref (1 + 16 * a) :: st) σ mc ms := e_getN (q := 1) (f := 2) hd (by rw [hM]; exact fl_T_138) rfl ⟨by decide, by decide⟩ rfl hr k
theorem g_T_159 (hM : M.1.cls = R_T) (hd : decode M.2.1 pc = .ok (.getfield 159, 3)) (k : Ex l G M PM (pc + 3) lv (.long (hJ σ 4 a 1) :: st) σ mc ms) : Ex l G M PM pc lv (.ref (4 + 16 * a) :: st) σ mc ms := e_getJ (q := 4) (f := 1) hd (by rw [hM]; exact fl_T_159) rfl ⟨by decide, by decide⟩ rfl k
theorem g_T_163 (hM : M.1.cls = R_T) (hd : decode M.2.1 pc = .ok (.getfield 163, 3)) (k : Ex l G M PM (pc + 3) lv (.long (hJ σ 2 a 5) :: st) σ mc ms) : Ex l G M PM pc lv (.ref (2 + 16 * a) :: st) σ mc ms := e_getJ (q := 2) (f := 5) hd (by rw [hM]; exact fl_T_163) rfl ⟨by decide, by decide⟩ rfl k
theorem p_M_7 {b : Nat} (hb : ¬ b = 13) (hM : M.1.cls = R_M)  (hd : decode M.2.1 pc = .ok (.putfield 7, 3)) (k : Ex l G M PM (pc + 3) lv st (sR σ 6 a 2 (some b)) mc ms) : Ex l G M PM pc lv (.ref b :: .ref (6 + 16 * a) :: st) σ mc ms := e_putR (q := 6) (f := 2) hd (by rw [hM]; exact fl_M_7) rfl ⟨by decide, by decide⟩ hb rfl rfl (Or.inr ⟨_, rfl⟩) k
theorem p_M_7N  (hM : M.1.cls = R_M)  (hd : decode M.2.1 pc = .ok (.putfield 7, 3)) (k : Ex l G M PM (pc + 3) lv st (sR σ 6 a 2 none) mc ms) : Ex l G M PM pc lv (.null :: .ref (6 + 16 * a) :: st) σ mc ms := e_putN (q := 6) (f := 2) hd (by rw [hM]; exact fl_M_7) rfl ⟨by decide, by decide⟩ rfl rfl (Or.inr ⟨_, rfl⟩) k
theorem p_M_13 {b : Nat} (hb : ¬ b = 13) (hM : M.1.cls = R_M)  (hd : decode M.2.1 pc = .ok (.putfield 13, 3)) (k : Ex l G M PM (pc + 3) lv st (sR σ 6 a 3 (some b)) mc ms) : Ex l G M PM pc lv (.ref b :: .ref (6 + 16 * a) :: st) σ mc ms := e_putR (q := 6) (f := 3) hd (by rw [hM]; exact fl_M_13) rfl ⟨by decide, by decide⟩ hb rfl rfl (Or.inr ⟨_, rfl⟩) k
theorem p_M_13N  (hM : M.1.cls = R_M)  (hd : decode M.2.1 pc = .ok (.putfield 13, 3)) (k : Ex l G M PM (pc + 3) lv st (sR σ 6 a 3 none) mc ms) : Ex l G M PM pc lv (.null :: .ref (6 + 16 * a) :: st) σ mc ms := e_putN (q := 6) (f := 3) hd (by rw [hM]; exact fl_M_13) rfl ⟨by decide, by decide⟩ rfl rfl (Or.inr ⟨_, rfl⟩) k
theorem p_M_16 {b : Nat} (hb : ¬ b = 13) (hM : M.1.cls = R_M)  (hd : decode M.2.1 pc = .ok (.putfield 16, 3)) (k : Ex l G M PM (pc + 3) lv st (sR σ 6 a 4 (some b)) mc ms) : Ex l G M PM pc lv (.ref b :: .ref (6 + 16 * a) :: st) σ mc ms := e_putR (q := 6) (f := 4) hd (by rw [hM]; exact fl_M_16) rfl ⟨by decide, by decide⟩ hb rfl rfl (Or.inr ⟨_, rfl⟩) k
theorem p_M_16N  (hM : M.1.cls = R_M)  (hd : decode M.2.1 pc = .ok (.putfield 16, 3)) (k : Ex l G M PM (pc + 3) lv st (sR σ 6 a 4 none) mc ms) : Ex l G M PM pc lv (.null :: .ref (6 + 16 * a) :: st) σ mc ms := e_putN (q := 6) (f := 4) hd (by rw [hM]; exact fl_M_16) rfl ⟨by decide, by decide⟩ rfl rfl (Or.inr ⟨_, rfl⟩) k
theorem p_M_19 {b : Nat} (hb : ¬ b = 13) (hM : M.1.cls = R_M)  (hd : decode M.2.1 pc = .ok (.putfield 19, 3)) (k : Ex l G M PM (pc + 3) lv st (sR σ 6 a 5 (some b)) mc ms) : Ex l G M PM pc lv (.ref b :: .ref (6 + 16 * a) :: st) σ mc ms := e_putR (q := 6) (f := 5) hd (by rw [hM]; exact fl_M_19) rfl ⟨by decide, by decide⟩ hb rfl rfl (Or.inr ⟨_, rfl⟩) k
theorem p_M_19N  (hM : M.1.cls = R_M)  (hd : decode M.2.1 pc = .ok (.putfield 19, 3)) (k : Ex l G M PM (pc + 3) lv st (sR σ 6 a 5 none) mc ms) : Ex l G M PM pc lv (.null :: .ref (6 + 16 * a) :: st) σ mc ms := e_putN (q := 6) (f := 5) hd (by rw [hM]; exact fl_M_19) rfl ⟨by decide, by decide⟩ rfl rfl (Or.inr ⟨_, rfl⟩) k
theorem p_M_22 {b : Nat} (hb : ¬ b = 13) (hM : M.1.cls = R_M)  (hd : decode M.2.1 pc = .ok (.putfield 22, 3)) (k : Ex l G M PM (pc + 3) lv st (sR σ 6 a 6 (some b)) mc ms) : Ex l G M PM pc lv (.ref b :: .ref (6 + 16 * a) :: st) σ mc ms := e_putR (q := 6) (f := 6) hd (by rw [hM]; exact fl_M_22) rfl ⟨by decide, by decide⟩ hb rfl rfl (Or.inr ⟨_, rfl⟩) k
theorem p_M_22N  (hM : M.1.cls = R_M)  (hd : decode M.2.1 pc = .ok (.putfield 22, 3)) (k : Ex l G M PM (pc + 3) lv st (sR σ 6 a 6 none) mc ms) : Ex l G M PM pc lv (.null :: .ref (6 + 16 * a) :: st) σ mc ms := e_putN (q := 6) (f := 6) hd (by rw [hM]; exact fl_M_22) rfl ⟨by decide, by decide⟩ rfl rfl (Or.inr ⟨_, rfl⟩) k
theorem p_M_26 {b : Nat} (hb : ¬ b = 13) (hM : M.1.cls = R_M)  (hd : decode M.2.1 pc = .ok (.putfield 26, 3)) (k : Ex l G M PM (pc + 3) lv st (sR σ 6 a 7 (some b)) mc ms) : Ex l G M PM pc lv (.ref b :: .ref (6 + 16 * a) :: st) σ mc ms := e_putR (q := 6) (f := 7) hd (by rw [hM]; exact fl_M_26) rfl ⟨by decide, by decide⟩ hb rfl rfl (Or.inr ⟨_, rfl⟩) k
theorem p_M_26N  (hM : M.1.cls = R_M)  (hd : decode M.2.1 pc = .ok (.putfield 26, 3)) (k : Ex l G M PM (pc + 3) lv st (sR σ 6 a 7 none) mc ms) : Ex l G M PM pc lv (.null :: .ref (6 + 16 * a) :: st) σ mc ms := e_putN (q := 6) (f := 7) hd (by rw [hM]; exact fl_M_26) rfl ⟨by decide, by decide⟩ rfl rfl (Or.inr ⟨_, rfl⟩) k
theorem p_M_29 {b : Nat} (hb : ¬ b = 13) (hM : M.1.cls = R_M)  (hd : decode M.2.1 pc = .ok (.putfield 29, 3)) (k : Ex l G M PM (pc + 3) lv st (sR σ 6 a 9 (some b)) mc ms) : Ex l G M PM pc lv (.ref b :: .ref (6 + 16 * a) :: st) σ mc ms := e_putR (q := 6) (f := 9) hd (by rw [hM]; exact fl_M_29) rfl ⟨by decide, by decide⟩ hb rfl rfl (Or.inr ⟨_, rfl⟩) k
theorem p_M_29N  (hM : M.1.cls = R_M)  (hd : decode M.2.1 pc = .ok (.putfield 29, 3)) (k : Ex l G M PM (pc + 3) lv st (sR σ 6 a 9 none) mc ms) : Ex l G M PM pc lv (.null :: .ref (6 + 16 * a) :: st) σ mc ms := e_putN (q := 6) (f := 9) hd (by rw [hM]; exact fl_M_29) rfl ⟨by decide, by decide⟩ rfl rfl (Or.inr ⟨_, rfl⟩) k
theorem p_M_32 {b : Nat} (hb : ¬ b = 13) (hM : M.1.cls = R_M)  (hd : decode M.2.1 pc = .ok (.putfield 32, 3)) (k : Ex l G M PM (pc + 3) lv st (sR σ 6 a 10 (some b)) mc ms) : Ex l G M PM pc lv (.ref b :: .ref (6 + 16 * a) :: st) σ mc ms := e_putR (q := 6) (f := 10) hd (by rw [hM]; exact fl_M_32) rfl ⟨by decide, by decide⟩ hb rfl rfl (Or.inr ⟨_, rfl⟩) k
theorem p_M_32N  (hM : M.1.cls = R_M)  (hd : decode M.2.1 pc = .ok (.putfield 32, 3)) (k : Ex l G M PM (pc + 3) lv st (sR σ 6 a 10 none) mc ms) : Ex l G M PM pc lv (.null :: .ref (6 + 16 * a) :: st) σ mc ms := e_putN (q := 6) (f := 10) hd (by rw [hM]; exact fl_M_32) rfl ⟨by decide, by decide⟩ rfl rfl (Or.inr ⟨_, rfl⟩) k
theorem p_M_35 {b : Nat} (hb : ¬ b = 13) (hM : M.1.cls = R_M)  (hd : decode M.2.1 pc = .ok (.putfield 35, 3)) (k : Ex l G M PM (pc + 3) lv st (sR σ 6 a 11 (some b)) mc ms) : Ex l G M PM pc lv (.ref b :: .ref (6 + 16 * a) :: st) σ mc ms := e_putR (q := 6) (f := 11) hd (by rw [hM]; exact fl_M_35) rfl ⟨by decide, by decide⟩ hb rfl rfl (Or.inr ⟨_, rfl⟩) k
theorem p_M_35N  (hM : M.1.cls = R_M)  (hd : decode M.2.1 pc = .ok (.putfield 35, 3)) (k : Ex l G M PM (pc + 3) lv st (sR σ 6 a 11 none) mc ms) : Ex l G M PM pc lv (.null :: .ref (6 + 16 * a) :: st) σ mc ms := e_putN (q := 6) (f := 11) hd (by rw [hM]; exact fl_M_35) rfl ⟨by decide, by decide⟩ rfl rfl (Or.inr ⟨_, rfl⟩) k
theorem p_M_39 {b : Nat} (hb : ¬ b = 13) (hM : M.1.cls = R_M)  (hd : decode M.2.1 pc = .ok (.putfield 39, 3)) (k : Ex l G M PM (pc + 3) lv st (sR σ 6 a 12 (some b)) mc ms) : Ex l G M PM pc lv (.ref b :: .ref (6 + 16 * a) :: st) σ mc ms := e_putR (q := 6) (f := 12) hd (by rw [hM]; exact fl_M_39) rfl ⟨by decide, by decide⟩ hb rfl rfl (Or.inr ⟨_, rfl⟩) k
theorem p_M_39N  (hM : M.1.cls = R_M)  (hd : decode M.2.1 pc = .ok (.putfield 39, 3)) (k : Ex l G M PM (pc + 3) lv st (sR σ 6 a 12 none) mc ms) : Ex l G M PM pc lv (.null :: .ref (6 + 16 * a) :: st) σ mc ms := e_putN (q := 6) (f := 12) hd (by rw [hM]; exact fl_M_39) rfl ⟨by decide, by decide⟩ rfl rfl (Or.inr ⟨_, rfl⟩) k
theorem p_M_42 {b : Nat} (hb : ¬ b = 13) (hM : M.1.cls = R_M)  (hd : decode M.2.1 pc = .ok (.putfield 42, 3)) (k : Ex l G M PM (pc + 3) lv st (sR σ 6 a 13 (some b)) mc ms) : Ex l G M PM pc lv (.ref b :: .ref (6 + 16 * a) :: st) σ mc ms := e_putR (q := 6) (f := 13) hd (by rw [hM]; exact fl_M_42) rfl ⟨by decide, by decide⟩ hb rfl rfl (Or.inr ⟨_, rfl⟩) k
theorem p_M_42N  (hM : M.1.cls = R_M)  (hd : decode M.2.1 pc = .ok (.putfield 42, 3)) (k : Ex l G M PM (pc + 3) lv st (sR σ 6 a 13 none) mc ms) : Ex l G M PM pc lv (.null :: .ref (6 + 16 * a) :: st) σ mc ms := e_putN (q := 6) (f := 13) hd (by rw [hM]; exact fl_M_42) rfl ⟨by decide, by decide⟩ rfl rfl (Or.inr ⟨_, rfl⟩) k
theorem p_M_45 {b : Nat} (hb : ¬ b = 13) (hM : M.1.cls = R_M)  (hd : decode M.2.1 pc = .ok (.putfield 45, 3)) (k : Ex l G M PM (pc + 3) lv st (sR σ 6 a 14 (some b)) mc ms) : Ex l G M PM pc lv (.ref b :: .ref (6 + 16 * a) :: st) σ mc ms := e_putR (q := 6) (f := 14) hd (by rw [hM]; exact fl_M_45) rfl ⟨by decide, by decide⟩ hb rfl rfl (Or.inr ⟨_, rfl⟩) k
theorem p_M_45N  (hM : M.1.cls = R_M)  (hd : decode M.2.1 pc = .ok (.putfield 45, 3)) (k : Ex l G M PM (pc + 3) lv st (sR σ 6 a 14 none) mc ms) : Ex l G M PM pc lv (.null :: .ref (6 + 16 * a) :: st) σ mc ms := e_putN (q := 6) (f := 14) hd (by rw [hM]; exact fl_M_45) rfl ⟨by decide, by decide⟩ rfl rfl (Or.inr ⟨_, rfl⟩) k
theorem p_M_48 {b : Nat} (hb : ¬ b = 13) (hM : M.1.cls = R_M)  (hd : decode M.2.1 pc = .ok (.putfield 48, 3)) (k : Ex l G M PM (pc + 3) lv st (sR σ 6 a 15 (some b)) mc ms) : Ex l G M PM pc lv (.ref b :: .ref (6 + 16 * a) :: st) σ mc ms := e_putR (q := 6) (f := 15) hd (by rw [hM]; exact fl_M_48) rfl ⟨by decide, by decide⟩ hb rfl rfl (Or.inr ⟨_, rfl⟩) k
theorem p_M_48N  (hM : M.1.cls = R_M)  (hd : decode M.2.1 pc = .ok (.putfield 48, 3)) (k : Ex l G M PM (pc + 3) lv st (sR σ 6 a 15 none) mc ms) : Ex l G M PM pc lv (.null :: .ref (6 + 16 * a) :: st) σ mc ms := e_putN (q := 6) (f := 15) hd (by rw [hM]; exact fl_M_48) rfl ⟨by decide, by decide⟩ rfl rfl (Or.inr ⟨_, rfl⟩) k
theorem p_M_51 {b : Nat} (hb : ¬ b = 13) (hM : M.1.cls = R_M)  (hd : decode M.2.1 pc = .ok (.putfield 51, 3)) (k : Ex l G M PM (pc + 3) lv st (sR σ 6 a 16 (some b)) mc ms) : Ex l G M PM pc lv (.ref b :: .ref (6 + 16 * a) :: st) σ mc ms := e_putR (q := 6) (f := 16) hd (by rw [hM]; exact fl_M_51) rfl ⟨by decide, by decide⟩ hb rfl rfl (Or.inr ⟨_, rfl⟩) k
theorem p_M_51N  (hM : M.1.cls = R_M)  (hd : decode M.2.1 pc = .ok (.putfield 51, 3)) (k : Ex l G M PM (pc + 3) lv st (sR σ 6 a 16 none) mc ms) : Ex l G M PM pc lv (.null :: .ref (6 + 16 * a) :: st) σ mc ms := e_putN (q := 6) (f := 16) hd (by rw [hM]; exact fl_M_51) rfl ⟨by decide, by decide⟩ rfl rfl (Or.inr ⟨_, rfl⟩) k
theorem p_M_54 {b : Nat} (hb : ¬ b = 13) (hM : M.1.cls = R_M)  (hd : decode M.2.1 pc = .ok (.putfield 54, 3)) (k : Ex l G M PM (pc + 3) lv st (sR σ 6 a 17 (some b)) mc ms) : Ex l G M PM pc lv (.ref b :: .ref (6 + 16 * a) :: st) σ mc ms := e_putR (q := 6) (f := 17) hd (by rw [hM]; exact fl_M_54) rfl ⟨by decide, by decide⟩ hb rfl rfl (Or.inr ⟨_, rfl⟩) k
theorem p_M_54N  (hM : M.1.cls = R_M)  (hd : decode M.2.1 pc = .ok (.putfield 54, 3)) (k : Ex l G M PM (pc + 3) lv st (sR σ 6 a 17 none) mc ms) : Ex l G M PM pc lv (.null :: .ref (6 + 16 * a) :: st) σ mc ms := e_putN (q := 6) (f := 17) hd (by rw [hM]; exact fl_M_54) rfl ⟨by decide, by decide⟩ rfl rfl (Or.inr ⟨_, rfl⟩) k
theorem p_M_57 {b : Nat} (hb : ¬ b = 13) (hM : M.1.cls = R_M)  (hd : decode M.2.1 pc = .ok (.putfield 57, 3)) (k : Ex l G M PM (pc + 3) lv st (sR σ 6 a 18 (some b)) mc ms) : Ex l G M PM pc lv (.ref b :: .ref (6 + 16 * a) :: st) σ mc ms := e_putR (q := 6) (f := 18) hd (by rw [hM]; exact fl_M_57) rfl ⟨by decide, by decide⟩ hb rfl rfl (Or.inr ⟨_, rfl⟩) k
theorem p_M_57N  (hM : M.1.cls = R_M)  (hd : decode M.2.1 pc = .ok (.putfield 57, 3)) (k : Ex l G M PM (pc + 3) lv st (sR σ 6 a 18 none) mc ms) : Ex l G M PM pc lv (.null :: .ref (6 + 16 * a) :: st) σ mc ms := e_putN (q := 6) (f := 18) hd (by rw [hM]; exact fl_M_57) rfl ⟨by decide, by decide⟩ rfl rfl (Or.inr ⟨_, rfl⟩) k
theorem p_M_60 {b : Nat} (hb : ¬ b = 13) (hM : M.1.cls = R_M)  (hd : decode M.2.1 pc = .ok (.putfield 60, 3)) (k : Ex l G M PM (pc + 3) lv st (sR σ 6 a 19 (some b)) mc ms) : Ex l G M PM pc lv (.ref b :: .ref (6 + 16 * a) :: st) σ mc ms := e_putR (q := 6) (f := 19) hd (by rw [hM]; exact fl_M_60) rfl ⟨by decide, by decide⟩ hb rfl rfl (Or.inr ⟨_, rfl⟩) k
theorem p_M_60N  (hM : M.1.cls = R_M)  (hd : decode M.2.1 pc = .ok (.putfield 60, 3)) (k : Ex l G M PM (pc + 3) lv st (sR σ 6 a 19 none) mc ms) : Ex l G M PM pc lv (.null :: .ref (6 + 16 * a) :: st) σ mc ms := e_putN (q := 6) (f := 19) hd (by rw [hM]; exact fl_M_60) rfl ⟨by decide, by decide⟩ rfl rfl (Or.inr ⟨_, rfl⟩) k
theorem p_M_63 {b : Nat} (hb : ¬ b = 13) (hM : M.1.cls = R_M)  (hd : decode M.2.1 pc = .ok (.putfield 63, 3)) (k : Ex l G M PM (pc + 3) lv st (sR σ 6 a 20 (some b)) mc ms) : Ex l G M PM pc lv (.ref b :: .ref (6 + 16 * a) :: st) σ mc ms := e_putR (q := 6) (f := 20) hd (by rw [hM]; exact fl_M_63) rfl ⟨by decide, by decide⟩ hb rfl rfl (Or.inr ⟨_, rfl⟩) k
theorem p_M_63N  (hM : M.1.cls = R_M)  (hd : decode M.2.1 pc = .ok (.putfield 63, 3)) (k : Ex l G M PM (pc + 3) lv st (sR σ 6 a 20 none) mc ms) : Ex l G M PM pc lv (.null :: .ref (6 + 16 * a) :: st) σ mc ms := e_putN (q := 6) (f := 20) hd (by rw [hM]; exact fl_M_63) rfl ⟨by decide, by decide⟩ rfl rfl (Or.inr ⟨_, rfl⟩) k
theorem p_M_66 {b : Nat} (hb : ¬ b = 13) (hM : M.1.cls = R_M)  (hd : decode M.2.1 pc = .ok (.putfield 66, 3)) (k : Ex l G M PM (pc + 3) lv st (sR σ 6 a 21 (some b)) mc ms) : Ex l G M PM pc lv (.ref b :: .ref (6 + 16 * a) :: st) σ mc ms := e_putR (q := 6) (f := 21) hd (by rw [hM]; exact fl_M_66) rfl ⟨by decide, by decide⟩ hb rfl rfl (Or.inr ⟨_, rfl⟩) k
theorem p_M_66N  (hM : M.1.cls = R_M)  (hd : decode M.2.1 pc = .ok (.putfield 66, 3)) (k : Ex l G M PM (pc + 3) lv st (sR σ 6 a 21 none) mc ms) : Ex l G M PM pc lv (.null :: .ref (6 + 16 * a) :: st) σ mc ms := e_putN (q := 6) (f := 21) hd (by rw [hM]; exact fl_M_66) rfl ⟨by decide, by decide⟩ rfl rfl (Or.inr ⟨_, rfl⟩) k
theorem p_M_69 {b : Nat} (hb : ¬ b = 13) (hM : M.1.cls = R_M)  (hd : decode M.2.1 pc = .ok (.putfield 69, 3)) (k : Ex l G M PM (pc + 3) lv st (sR σ 6 a 22 (some b)) mc ms) : Ex l G M PM pc lv (.ref b :: .ref (6 + 16 * a) :: st) σ mc ms := e_putR (q := 6) (f := 22) hd (by rw [hM]; exact fl_M_69) rfl ⟨by decide, by decide⟩ hb rfl rfl (Or.inr ⟨_, rfl⟩) k
theorem p_M_69N  (hM : M.1.cls = R_M)  (hd : decode M.2.1 pc = .ok (.putfield 69, 3)) (k : Ex l G M PM (pc + 3) lv st (sR σ 6 a 22 none) mc ms) : Ex l G M PM pc lv (.null :: .ref (6 + 16 * a) :: st) σ mc ms := e_putN (q := 6) (f := 22) hd (by rw [hM]; exact fl_M_69) rfl ⟨by decide, by decide⟩ rfl rfl (Or.inr ⟨_, rfl⟩) k
theorem p_M_72 {b : Nat} (hb : ¬ b = 13) (hM : M.1.cls = R_M)  (hd : decode M.2.1 pc = .ok (.putfield 72, 3)) (k : Ex l G M PM (pc + 3) lv st (sR σ 6 a 23 (some b)) mc ms) : Ex l G M PM pc lv (.ref b :: .ref (6 + 16 * a) :: st) σ mc ms := e_putR (q := 6) (f := 23) hd (by rw [hM]; exact fl_M_72) rfl ⟨by decide, by decide⟩ hb rfl rfl (Or.inr ⟨_, rfl⟩) k
theorem p_M_72N  (hM : M.1.cls = R_M)  (hd : decode M.2.1 pc = .ok (.putfield 72, 3)) (k : Ex l G M PM (pc + 3) lv st (sR σ 6 a 23 none) mc ms) : Ex l G M PM pc lv (.null :: .ref (6 + 16 * a) :: st) σ mc ms := e_putN (q := 6) (f := 23) hd (by rw [hM]; exact fl_M_72) rfl ⟨by decide, by decide⟩ rfl rfl (Or.inr ⟨_, rfl⟩) k
theorem p_M_75 {b : Nat} (hb : ¬ b = 13) (hM : M.1.cls = R_M)  (hd : decode M.2.1 pc = .ok (.putfield 75, 3)) (k : Ex l G M PM (pc + 3) lv st (sR σ 6 a 24 (some b)) mc ms) : Ex l G M PM pc lv (.ref b :: .ref (6 + 16 * a) :: st) σ mc ms := e_putR (q := 6) (f := 24) hd (by rw [hM]; exact fl_M_75) rfl ⟨by decide, by decide⟩ hb rfl rfl (Or.inr ⟨_, rfl⟩) k
theorem p_M_75N  (hM : M.1.cls = R_M)  (hd : decode M.2.1 pc = .ok (.putfield 75, 3)) (k : Ex l G M PM (pc + 3) lv st (sR σ 6 a 24 none) mc ms) : Ex l G M PM pc lv (.null :: .ref (6 + 16 * a) :: st) σ mc ms := e_putN (q := 6) (f := 24) hd (by rw [hM]; exact fl_M_75) rfl ⟨by decide, by decide⟩ rfl rfl (Or.inr ⟨_, rfl⟩) k
theorem g_M_39 {b : Nat} (hM : M.1.cls = R_M) (hd : decode M.2.1 pc = .ok (.getfield 39, 3)) (hr : hR σ 6 a 12 = some b) (k : Ex l G M PM (pc + 3) lv (.ref b :: st) σ mc ms) : Ex l G M PM pc lv (.ref (6 + 16 * a) :: st) σ mc ms := e_getR (q := 6) (f := 12) hd (by rw [hM]; exact fl_M_39) rfl ⟨by decide, by decide⟩ rfl hr k
theorem g_M_39N (hM : M.1.cls = R_M) (hd : decode M.2.1 pc = .ok (.getfield 39, 3)) (hr : hR σ 6 a 12 = none) (k : Ex l G M PM (pc + 3) lv (.null :: st) σ mc ms) : Ex l G M PM pc lv (.ref (6 + 16 * a) :: st) σ mc ms := e_getN (q := 6) (f := 12) hd (by rw [hM]; exact fl_M_39) rfl ⟨by decide, by decide⟩ rfl hr k
theorem g_M_78 (hM : M.1.cls = R_M) (hd : decode M.2.1 pc = .ok (.getfield 78, 3)) (k : Ex l G M PM (pc + 3) lv (.int (hI σ 6 a 0) :: st) σ mc ms) : Ex l G M PM pc lv (.ref (6 + 16 * a) :: st) σ mc ms := e_getI (q := 6) (f := 0) hd (by rw [hM]; exact fl_M_78) rfl ⟨by decide, by decide⟩ rfl k
theorem g_M_100 (hM : M.1.cls = R_M) (hd : decode M.2.1 pc = .ok (.getfield 100, 3)) (k : Ex l G M PM (pc + 3) lv (.int (hI σ 6 a 1) :: st) σ mc ms) : Ex l G M PM pc lv (.ref (6 + 16 * a) :: st) σ mc ms := e_getI (q := 6) (f := 1) hd (by rw [hM]; exact fl_M_100) rfl ⟨by decide, by decide⟩ rfl k
theorem g_M_7 {b : Nat} (hM : M.1.cls = R_M) (hd : decode M.2.1 pc = .ok (.getfield 7, 3)) (hr : hR σ 6 a 2 = some b) (k : Ex l G M PM (pc + 3) lv (.ref b :: st) σ mc ms) : Ex l G M PM pc lv (.ref (6 + 16 * a) :: st) σ mc ms := e_getR (q := 6) (f := 2) hd (by rw [hM]; exact fl_M_7) rfl ⟨by decide, by decide⟩ rfl hr k
theorem g_M_7N (hM : M.1.cls = R_M) (hd : decode M.2.1 pc = .ok (.getfield 7, 3)) (hr : hR σ 6 a 2 = none) (k : Ex l G M PM (pc + 3) lv (.null :: st) σ mc ms) : Ex l G M PM pc lv (.ref (6 + 16 * a) :: st) σ mc ms := e_getN (q := 6) (f := 2) hd (by rw [hM]; exact fl_M_7) rfl ⟨by decide, by decide⟩ rfl hr k
theorem p_M_78 {v : Int32} (hM : M.1.cls = R_M)  (hd : decode M.2.1 pc = .ok (.putfield 78, 3)) (k : Ex l G M PM (pc + 3) lv st (sI σ 6 a 0 v) mc ms) : Ex l G M PM pc lv (.int v :: .ref (6 + 16 * a) :: st) σ mc ms := e_putI (q := 6) (f := 0) hd (by rw [hM]; exact fl_M_78) rfl ⟨by decide, by decide⟩ rfl rfl rfl k
theorem g_M_13 {b : Nat} (hM : M.1.cls = R_M) (hd : decode M.2.1 pc = .ok (.getfield 13, 3)) (hr : hR σ 6 a 3 = some b) (k : Ex l G M PM (pc + 3) lv (.ref b :: st) σ mc ms) : Ex l G M PM pc lv (.ref (6 + 16 * a) :: st) σ mc ms := e_getR (q := 6) (f := 3) hd (by rw [hM]; exact fl_M_13) rfl ⟨by decide, by decide⟩ rfl hr k
theorem g_M_13N (hM : M.1.cls = R_M) (hd : decode M.2.1 pc = .ok (.getfield 13, 3)) (hr : hR σ 6 a 3 = none) (k : Ex l G M PM (pc + 3) lv (.null :: st) σ mc ms) : Ex l G M PM pc lv (.ref (6 + 16 * a) :: st) σ mc ms := e_getN (q := 6) (f := 3) hd (by rw [hM]; exact fl_M_13) rfl ⟨by decide, by decide⟩ rfl hr k
theorem g_M_16 {b : Nat} (hM : M.1.cls = R_M) (hd : decode M.2.1 pc = .ok (.getfield 16, 3)) (hr : hR σ 6 a 4 = some b) (k : Ex l G M PM (pc + 3) lv (.ref b :: st) σ mc ms) : Ex l G M PM pc lv (.ref (6 + 16 * a) :: st) σ mc ms := e_getR (q := 6) (f := 4) hd (by rw [hM]; exact fl_M_16) rfl ⟨by decide, by decide⟩ rfl hr k
theorem g_M_16N (hM : M.1.cls = R_M) (hd : decode M.2.1 pc = .ok (.getfield 16, 3)) (hr : hR σ 6 a 4 = none) (k : Ex l G M PM (pc + 3) lv (.null :: st) σ mc ms) : Ex l G M PM pc lv (.ref (6 + 16 * a) :: st) σ mc ms := e_getN (q := 6) (f := 4) hd (by rw [hM]; exact fl_M_16) rfl ⟨by decide, by decide⟩ rfl hr k
theorem g_M_19 {b : Nat} (hM : M.1.cls = R_M) (hd : decode M.2.1 pc = .ok (.getfield 19, 3)) (hr : hR σ 6 a 5 = some b) (k : Ex l G M PM (pc + 3) lv (.ref b :: st) σ mc ms) : Ex l G M PM pc lv (.ref (6 + 16 * a) :: st) σ mc ms := e_getR (q := 6) (f := 5) hd (by rw [hM]; exact fl_M_19) rfl ⟨by decide, by decide⟩ rfl hr k
theorem g_M_19N (hM : M.1.cls = R_M) (hd : decode M.2.1 pc = .ok (.getfield 19, 3)) (hr : hR σ 6 a 5 = none) (k : Ex l G M PM (pc + 3) lv (.null :: st) σ mc ms) : Ex l G M PM pc lv (.ref (6 + 16 * a) :: st) σ mc ms := e_getN (q := 6) (f := 5) hd (by rw [hM]; exact fl_M_19) rfl ⟨by decide, by decide⟩ rfl hr k
theorem g_M_22 {b : Nat} (hM : M.1.cls = R_M) (hd : decode M.2.1 pc = .ok (.getfield 22, 3)) (hr : hR σ 6 a 6 = some b) (k : Ex l G M PM (pc + 3) lv (.ref b :: st) σ mc ms) : Ex l G M PM pc lv (.ref (6 + 16 * a) :: st) σ mc ms := e_getR (q := 6) (f := 6) hd (by rw [hM]; exact fl_M_22) rfl ⟨by decide, by decide⟩ rfl hr k
theorem g_M_22N (hM : M.1.cls = R_M) (hd : decode M.2.1 pc = .ok (.getfield 22, 3)) (hr : hR σ 6 a 6 = none) (k : Ex l G M PM (pc + 3) lv (.null :: st) σ mc ms) : Ex l G M PM pc lv (.ref (6 + 16 * a) :: st) σ mc ms := e_getN (q := 6) (f := 6) hd (by rw [hM]; exact fl_M_22) rfl ⟨by decide, by decide⟩ rfl hr k
theorem g_M_26 {b : Nat} (hM : M.1.cls = R_M) (hd : decode M.2.1 pc = .ok (.getfield 26, 3)) (hr : hR σ 6 a 7 = some b) (k : Ex l G M PM (pc + 3) lv (.ref b :: st) σ mc ms) : Ex l G M PM pc lv (.ref (6 + 16 * a) :: st) σ mc ms := e_getR (q := 6) (f := 7) hd (by rw [hM]; exact fl_M_26) rfl ⟨by decide, by decide⟩ rfl hr k
theorem g_M_26N (hM : M.1.cls = R_M) (hd : decode M.2.1 pc = .ok (.getfield 26, 3)) (hr : hR σ 6 a 7 = none) (k : Ex l G M PM (pc + 3) lv (.null :: st) σ mc ms) : Ex l G M PM pc lv (.ref (6 + 16 * a) :: st) σ mc ms := e_getN (q := 6) (f := 7) hd (by rw [hM]; exact fl_M_26) rfl ⟨by decide, by decide⟩ rfl hr k
theorem p_M_100 {v : Int32} (hM : M.1.cls = R_M)  (hd : decode M.2.1 pc = .ok (.putfield 100, 3)) (k : Ex l G M PM (pc + 3) lv st (sI σ 6 a 1 v) mc ms) : Ex l G M PM pc lv (.int v :: .ref (6 + 16 * a) :: st) σ mc ms := e_putI (q := 6) (f := 1) hd (by rw [hM]; exact fl_M_100) rfl ⟨by decide, by decide⟩ rfl rfl rfl k
theorem g_M_45 {b : Nat} (hM : M.1.cls = R_M) (hd : decode M.2.1 pc = .ok (.getfield 45, 3)) (hr : hR σ 6 a 14 = some b) (k : Ex l G M PM (pc + 3) lv (.ref b :: st) σ mc ms) : Ex l G M PM pc lv (.ref (6 + 16 * a) :: st) σ mc ms := e_getR (q := 6) (f := 14) hd (by rw [hM]; exact fl_M_45) rfl ⟨by decide, by decide⟩ rfl hr k
theorem g_M_45N (hM : M.1.cls = R_M) (hd : decode M.2.1 pc = .ok (.getfield 45, 3)) (hr : hR σ 6 a 14 = none) (k : Ex l G M PM (pc + 3) lv (.null :: st) σ mc ms) : Ex l G M PM pc lv (.ref (6 + 16 * a) :: st) σ mc ms := e_getN (q := 6) (f := 14) hd (by rw [hM]; exact fl_M_45) rfl ⟨by decide, by decide⟩ rfl hr k
theorem g_M_69 {b : Nat} (hM : M.1.cls = R_M) (hd : decode M.2.1 pc = .ok (.getfield 69, 3)) (hr : hR σ 6 a 22 = some b) (k : Ex l G M PM (pc + 3) lv (.ref b :: st) σ mc ms) : Ex l G M PM pc lv (.ref (6 + 16 * a) :: st) σ mc ms := e_getR (q := 6) (f := 22) hd (by rw [hM]; exact fl_M_69) rfl ⟨by decide, by decide⟩ rfl hr k
theorem g_M_69N (hM : M.1.cls = R_M) (hd : decode M.2.1 pc = .ok (.getfield 69, 3)) (hr : hR σ 6 a 22 = none) (k : Ex l G M PM (pc + 3) lv (.null :: st) σ mc ms) : Ex l G M PM pc lv (.ref (6 + 16 * a) :: st) σ mc ms := e_getN (q := 6) (f := 22) hd (by rw [hM]; exact fl_M_69) rfl ⟨by decide, by decide⟩ rfl hr k
theorem g_M_42 {b : Nat} (hM : M.1.cls = R_M) (hd : decode M.2.1 pc = .ok (.getfield 42, 3)) (hr : hR σ 6 a 13 = some b) (k : Ex l G M PM (pc + 3) lv (.ref b :: st) σ mc ms) : Ex l G M PM pc lv (.ref (6 + 16 * a) :: st) σ mc ms := e_getR (q := 6) (f := 13) hd (by rw [hM]; exact fl_M_42) rfl ⟨by decide, by decide⟩ rfl hr k
theorem g_M_42N (hM : M.1.cls = R_M) (hd : decode M.2.1 pc = .ok (.getfield 42, 3)) (hr : hR σ 6 a 13 = none) (k : Ex l G M PM (pc + 3) lv (.null :: st) σ mc ms) : Ex l G M PM pc lv (.ref (6 + 16 * a) :: st) σ mc ms := e_getN (q := 6) (f := 13) hd (by rw [hM]; exact fl_M_42) rfl ⟨by decide, by decide⟩ rfl hr k
theorem g_M_72 {b : Nat} (hM : M.1.cls = R_M) (hd : decode M.2.1 pc = .ok (.getfield 72, 3)) (hr : hR σ 6 a 23 = some b) (k : Ex l G M PM (pc + 3) lv (.ref b :: st) σ mc ms) : Ex l G M PM pc lv (.ref (6 + 16 * a) :: st) σ mc ms := e_getR (q := 6) (f := 23) hd (by rw [hM]; exact fl_M_72) rfl ⟨by decide, by decide⟩ rfl hr k
theorem g_M_72N (hM : M.1.cls = R_M) (hd : decode M.2.1 pc = .ok (.getfield 72, 3)) (hr : hR σ 6 a 23 = none) (k : Ex l G M PM (pc + 3) lv (.null :: st) σ mc ms) : Ex l G M PM pc lv (.ref (6 + 16 * a) :: st) σ mc ms := e_getN (q := 6) (f := 23) hd (by rw [hM]; exact fl_M_72) rfl ⟨by decide, by decide⟩ rfl hr k
theorem g_M_51 {b : Nat} (hM : M.1.cls = R_M) (hd : decode M.2.1 pc = .ok (.getfield 51, 3)) (hr : hR σ 6 a 16 = some b) (k : Ex l G M PM (pc + 3) lv (.ref b :: st) σ mc ms) : Ex l G M PM pc lv (.ref (6 + 16 * a) :: st) σ mc ms := e_getR (q := 6) (f := 16) hd (by rw [hM]; exact fl_M_51) rfl ⟨by decide, by decide⟩ rfl hr k
theorem g_M_51N (hM : M.1.cls = R_M) (hd : decode M.2.1 pc = .ok (.getfield 51, 3)) (hr : hR σ 6 a 16 = none) (k : Ex l G M PM (pc + 3) lv (.null :: st) σ mc ms) : Ex l G M PM pc lv (.ref (6 + 16 * a) :: st) σ mc ms := e_getN (q := 6) (f := 16) hd (by rw [hM]; exact fl_M_51) rfl ⟨by decide, by decide⟩ rfl hr k
theorem g_M_75 {b : Nat} (hM : M.1.cls = R_M) (hd : decode M.2.1 pc = .ok (.getfield 75, 3)) (hr : hR σ 6 a 24 = some b) (k : Ex l G M PM (pc + 3) lv (.ref b :: st) σ mc ms) : Ex l G M PM pc lv (.ref (6 + 16 * a) :: st) σ mc ms := e_getR (q := 6) (f := 24) hd (by rw [hM]; exact fl_M_75) rfl ⟨by decide, by decide⟩ rfl hr k
theorem g_M_75N (hM : M.1.cls = R_M) (hd : decode M.2.1 pc = .ok (.getfield 75, 3)) (hr : hR σ 6 a 24 = none) (k : Ex l G M PM (pc + 3) lv (.null :: st) σ mc ms) : Ex l G M PM pc lv (.ref (6 + 16 * a) :: st) σ mc ms := e_getN (q := 6) (f := 24) hd (by rw [hM]; exact fl_M_75) rfl ⟨by decide, by decide⟩ rfl hr k
theorem g_M_126 (hM : M.1.cls = R_M) (hd : decode M.2.1 pc = .ok (.getfield 126, 3)) (k : Ex l G M PM (pc + 3) lv (.int (hI σ 6 a 8) :: st) σ mc ms) : Ex l G M PM pc lv (.ref (6 + 16 * a) :: st) σ mc ms := e_getI (q := 6) (f := 8) hd (by rw [hM]; exact fl_M_126) rfl ⟨by decide, by decide⟩ rfl k
theorem g_M_29 {b : Nat} (hM : M.1.cls = R_M) (hd : decode M.2.1 pc = .ok (.getfield 29, 3)) (hr : hR σ 6 a 9 = some b) (k : Ex l G M PM (pc + 3) lv (.ref b :: st) σ mc ms) : Ex l G M PM pc lv (.ref (6 + 16 * a) :: st) σ mc ms := e_getR (q := 6) (f := 9) hd (by rw [hM]; exact fl_M_29) rfl ⟨by decide, by decide⟩ rfl hr k
theorem g_M_29N (hM : M.1.cls = R_M) (hd : decode M.2.1 pc = .ok (.getfield 29, 3)) (hr : hR σ 6 a 9 = none) (k : Ex l G M PM (pc + 3) lv (.null :: st) σ mc ms) : Ex l G M PM pc lv (.ref (6 + 16 * a) :: st) σ mc ms := e_getN (q := 6) (f := 9) hd (by rw [hM]; exact fl_M_29) rfl ⟨by decide, by decide⟩ rfl hr k
theorem g_M_32 {b : Nat} (hM : M.1.cls = R_M) (hd : decode M.2.1 pc = .ok (.getfield 32, 3)) (hr : hR σ 6 a 10 = some b) (k : Ex l G M PM (pc + 3) lv (.ref b :: st) σ mc ms) : Ex l G M PM pc lv (.ref (6 + 16 * a) :: st) σ mc ms := e_getR (q := 6) (f := 10) hd (by rw [hM]; exact fl_M_32) rfl ⟨by decide, by decide⟩ rfl hr k
theorem g_M_32N (hM : M.1.cls = R_M) (hd : decode M.2.1 pc = .ok (.getfield 32, 3)) (hr : hR σ 6 a 10 = none) (k : Ex l G M PM (pc + 3) lv (.null :: st) σ mc ms) : Ex l G M PM pc lv (.ref (6 + 16 * a) :: st) σ mc ms := e_getN (q := 6) (f := 10) hd (by rw [hM]; exact fl_M_32) rfl ⟨by decide, by decide⟩ rfl hr k
theorem g_M_35 {b : Nat} (hM : M.1.cls = R_M) (hd : decode M.2.1 pc = .ok (.getfield 35, 3)) (hr : hR σ 6 a 11 = some b) (k : Ex l G M PM (pc + 3) lv (.ref b :: st) σ mc ms) : Ex l G M PM pc lv (.ref (6 + 16 * a) :: st) σ mc ms := e_getR (q := 6) (f := 11) hd (by rw [hM]; exact fl_M_35) rfl ⟨by decide, by decide⟩ rfl hr k
theorem g_M_35N (hM : M.1.cls = R_M) (hd : decode M.2.1 pc = .ok (.getfield 35, 3)) (hr : hR σ 6 a 11 = none) (k : Ex l G M PM (pc + 3) lv (.null :: st) σ mc ms) : Ex l G M PM pc lv (.ref (6 + 16 * a) :: st) σ mc ms := e_getN (q := 6) (f := 11) hd (by rw [hM]; exact fl_M_35) rfl ⟨by decide, by decide⟩ rfl hr k
theorem p_M_126 {v : Int32} (hM : M.1.cls = R_M)  (hd : decode M.2.1 pc = .ok (.putfield 126, 3)) (k : Ex l G M PM (pc + 3) lv st (sI σ 6 a 8 v) mc ms) : Ex l G M PM pc lv (.int v :: .ref (6 + 16 * a) :: st) σ mc ms := e_putI (q := 6) (f := 8) hd (by rw [hM]; exact fl_M_126) rfl ⟨by decide, by decide⟩ rfl rfl rfl k
theorem g_M_54 {b : Nat} (hM : M.1.cls = R_M) (hd : decode M.2.1 pc = .ok (.getfield 54, 3)) (hr : hR σ 6 a 17 = some b) (k : Ex l G M PM (pc + 3) lv (.ref b :: st) σ mc ms) : Ex l G M PM pc lv (.ref (6 + 16 * a) :: st) σ mc ms := e_getR (q := 6) (f := 17) hd (by rw [hM]; exact fl_M_54) rfl ⟨by decide, by decide⟩ rfl hr k
theorem g_M_54N (hM : M.1.cls = R_M) (hd : decode M.2.1 pc = .ok (.getfield 54, 3)) (hr : hR σ 6 a 17 = none) (k : Ex l G M PM (pc + 3) lv (.null :: st) σ mc ms) : Ex l G M PM pc lv (.ref (6 + 16 * a) :: st) σ mc ms := e_getN (q := 6) (f := 17) hd (by rw [hM]; exact fl_M_54) rfl ⟨by decide, by decide⟩ rfl hr k
theorem g_M_57 {b : Nat} (hM : M.1.cls = R_M) (hd : decode M.2.1 pc = .ok (.getfield 57, 3)) (hr : hR σ 6 a 18 = some b) (k : Ex l G M PM (pc + 3) lv (.ref b :: st) σ mc ms) : Ex l G M PM pc lv (.ref (6 + 16 * a) :: st) σ mc ms := e_getR (q := 6) (f := 18) hd (by rw [hM]; exact fl_M_57) rfl ⟨by decide, by decide⟩ rfl hr k
theorem g_M_57N (hM : M.1.cls = R_M) (hd : decode M.2.1 pc = .ok (.getfield 57, 3)) (hr : hR σ 6 a 18 = none) (k : Ex l G M PM (pc + 3) lv (.null :: st) σ mc ms) : Ex l G M PM pc lv (.ref (6 + 16 * a) :: st) σ mc ms := e_getN (q := 6) (f := 18) hd (by rw [hM]; exact fl_M_57) rfl ⟨by decide, by decide⟩ rfl hr k
theorem g_M_48 {b : Nat} (hM : M.1.cls = R_M) (hd : decode M.2.1 pc = .ok (.getfield 48, 3)) (hr : hR σ 6 a 15 = some b) (k : Ex l G M PM (pc + 3) lv (.ref b :: st) σ mc ms) : Ex l G M PM pc lv (.ref (6 + 16 * a) :: st) σ mc ms := e_getR (q := 6) (f := 15) hd (by rw [hM]; exact fl_M_48) rfl ⟨by decide, by decide⟩ rfl hr k
theorem g_M_48N (hM : M.1.cls = R_M) (hd : decode M.2.1 pc = .ok (.getfield 48, 3)) (hr : hR σ 6 a 15 = none) (k : Ex l G M PM (pc + 3) lv (.null :: st) σ mc ms) : Ex l G M PM pc lv (.ref (6 + 16 * a) :: st) σ mc ms := e_getN (q := 6) (f := 15) hd (by rw [hM]; exact fl_M_48) rfl ⟨by decide, by decide⟩ rfl hr k
theorem g_M_60 {b : Nat} (hM : M.1.cls = R_M) (hd : decode M.2.1 pc = .ok (.getfield 60, 3)) (hr : hR σ 6 a 19 = some b) (k : Ex l G M PM (pc + 3) lv (.ref b :: st) σ mc ms) : Ex l G M PM pc lv (.ref (6 + 16 * a) :: st) σ mc ms := e_getR (q := 6) (f := 19) hd (by rw [hM]; exact fl_M_60) rfl ⟨by decide, by decide⟩ rfl hr k
theorem g_M_60N (hM : M.1.cls = R_M) (hd : decode M.2.1 pc = .ok (.getfield 60, 3)) (hr : hR σ 6 a 19 = none) (k : Ex l G M PM (pc + 3) lv (.null :: st) σ mc ms) : Ex l G M PM pc lv (.ref (6 + 16 * a) :: st) σ mc ms := e_getN (q := 6) (f := 19) hd (by rw [hM]; exact fl_M_60) rfl ⟨by decide, by decide⟩ rfl hr k
theorem g_M_66 {b : Nat} (hM : M.1.cls = R_M) (hd : decode M.2.1 pc = .ok (.getfield 66, 3)) (hr : hR σ 6 a 21 = some b) (k : Ex l G M PM (pc + 3) lv (.ref b :: st) σ mc ms) : Ex l G M PM pc lv (.ref (6 + 16 * a) :: st) σ mc ms := e_getR (q := 6) (f := 21) hd (by rw [hM]; exact fl_M_66) rfl ⟨by decide, by decide⟩ rfl hr k
theorem g_M_66N (hM : M.1.cls = R_M) (hd : decode M.2.1 pc = .ok (.getfield 66, 3)) (hr : hR σ 6 a 21 = none) (k : Ex l G M PM (pc + 3) lv (.null :: st) σ mc ms) : Ex l G M PM pc lv (.ref (6 + 16 * a) :: st) σ mc ms := e_getN (q := 6) (f := 21) hd (by rw [hM]; exact fl_M_66) rfl ⟨by decide, by decide⟩ rfl hr k
theorem g_M_63 {b : Nat} (hM : M.1.cls = R_M) (hd : decode M.2.1 pc = .ok (.getfield 63, 3)) (hr : hR σ 6 a 20 = some b) (k : Ex l G M PM (pc + 3) lv (.ref b :: st) σ mc ms) : Ex l G M PM pc lv (.ref (6 + 16 * a) :: st) σ mc ms := e_getR (q := 6) (f := 20) hd (by rw [hM]; exact fl_M_63) rfl ⟨by decide, by decide⟩ rfl hr k
theorem g_M_63N (hM : M.1.cls = R_M) (hd : decode M.2.1 pc = .ok (.getfield 63, 3)) (hr : hR σ 6 a 20 = none) (k : Ex l G M PM (pc + 3) lv (.null :: st) σ mc ms) : Ex l G M PM pc lv (.ref (6 + 16 * a) :: st) σ mc ms := e_getN (q := 6) (f := 20) hd (by rw [hM]; exact fl_M_63) rfl ⟨by decide, by decide⟩ rfl hr k
theorem g_M_155 (hM : M.1.cls = R_M) (hd : decode M.2.1 pc = .ok (.getfield 155, 3)) (k : Ex l G M PM (pc + 3) lv (.int (hI σ 6 a 25) :: st) σ mc ms) : Ex l G M PM pc lv (.ref (6 + 16 * a) :: st) σ mc ms := e_getI (q := 6) (f := 25) hd (by rw [hM]; exact fl_M_155) rfl ⟨by decide, by decide⟩ rfl k
theorem g_M_170 (hM : M.1.cls = R_M) (hd : decode M.2.1 pc = .ok (.getfield 170, 3)) (k : Ex l G M PM (pc + 3) lv (.long (hJ σ 6 a 26) :: st) σ mc ms) : Ex l G M PM pc lv (.ref (6 + 16 * a) :: st) σ mc ms := e_getJ (q := 6) (f := 26) hd (by rw [hM]; exact fl_M_170) rfl ⟨by decide, by decide⟩ rfl k
theorem p_M_155 {v : Int32} (hz : v = 0 ∨ v = 1) (hM : M.1.cls = R_M)  (hd : decode M.2.1 pc = .ok (.putfield 155, 3)) (k : Ex l G M PM (pc + 3) lv st (sI σ 6 a 25 v) mc ms) : Ex l G M PM pc lv (.int v :: .ref (6 + 16 * a) :: st) σ mc ms := e_putZ (q := 6) (f := 25) hd (by rw [hM]; exact fl_M_155) rfl ⟨by decide, by decide⟩ rfl rfl rfl hz k
theorem p_M_170 {v : Int64} (hM : M.1.cls = R_M)  (hd : decode M.2.1 pc = .ok (.putfield 170, 3)) (k : Ex l G M PM (pc + 3) lv st (sJ σ 6 a 26 v) mc ms) : Ex l G M PM pc lv (.long v :: .ref (6 + 16 * a) :: st) σ mc ms := e_putJ (q := 6) (f := 26) hd (by rw [hM]; exact fl_M_170) rfl ⟨by decide, by decide⟩ rfl rfl rfl k
theorem p_M_174 {v : Int64} (hM : M.1.cls = R_M)  (hd : decode M.2.1 pc = .ok (.putfield 174, 3)) (k : Ex l G M PM (pc + 3) lv st (sJ σ 6 a 27 v) mc ms) : Ex l G M PM pc lv (.long v :: .ref (6 + 16 * a) :: st) σ mc ms := e_putJ (q := 6) (f := 27) hd (by rw [hM]; exact fl_M_174) rfl ⟨by decide, by decide⟩ rfl rfl rfl k
theorem g_M_174 (hM : M.1.cls = R_M) (hd : decode M.2.1 pc = .ok (.getfield 174, 3)) (k : Ex l G M PM (pc + 3) lv (.long (hJ σ 6 a 27) :: st) σ mc ms) : Ex l G M PM pc lv (.ref (6 + 16 * a) :: st) σ mc ms := e_getJ (q := 6) (f := 27) hd (by rw [hM]; exact fl_M_174) rfl ⟨by decide, by decide⟩ rfl k
end FR
end
section
/-! pure: a dataset as its eight numbers -/
abbrev DV : Type := Nat → Int32
/-- a is better than b, as a number, from place k on, n places left -/
def lexI (a b : DV) : Nat → Nat → Int32
  | _, 0 => 0
  | k, n + 1 => if a k = b k then lexI a b (k + 1) n else if b k ≤ a k then 0 else 1
def btI (a b : DV) : Int32 := lexI a b 0 8
def samI (a b : DV) : Nat → Nat → Int32
  | _, 0 => 1
  | k, n + 1 => if a k = b k then samI a b (k + 1) n else 0
def tsI (a b : DV) : Int32 := samI a b 0 7
def cpRoot (σ : HS) (a b : Nat) : HS := sI (sI (sI (sI σ 0 a 0 (hI σ 0 b 0)) 0 a 1 (hI σ 0 b 1)) 0 a 2 (hI σ 0 b 2)) 0 a 3 (hI σ 0 b 3)
def setOwnS (σ : HS) (a : Nat) (i p k e : Int32) : HS := sI (sI (sI (sI (sI (sI (sI (sI σ 0 a 0 p) 0 a 1 k) 0 a 2 e) 0 a 3 i) 0 a 4 0) 0 a 5 i) 0 a 6 (-1)) 0 a 7 (-1)
theorem ne_of_nle {x y : Int32} (h : ¬ y ≤ x) : ¬ x = y := fun e => h (by rw [e]; exact Int32.le_refl _)
set_option maxHeartbeats 4000000 in
theorem ct_D_init {l : Launch} (hl0 : l.stackTraces = false) {G : LG} {σ : HS} {a : Nat}  : Ct l G m_D_init [.ref (0 + 16 * a)] σ (qd (.inr none) σ) := by
  refine Ct.of hl0 rfl rfl (Nat.le_of_ble_eq_true rfl) ?_
  show Ex l G m_D_init (pmV G m_D_init (qd (.inr none) σ)) 0 [(0, .ref (0 + 16 * a))] [] σ 0 0
  refine e_aload_n d_D_init_0 rfl rfl ?_
  refine e_obji d_D_init_1 ol_D_3 ⟨by decide, by decide⟩ ?_
  exact e_vret d_D_init_4 rfl ⟨rfl, rfl⟩
set_option maxHeartbeats 4000000 in
theorem ct_D_setOwn {l : Launch} (hl0 : l.stackTraces = false) {G : LG} {σ : HS} {a : Nat} {i p k e : Int32}  : Ct l G m_D_setOwn [.ref (0 + 16 * a), .int (i), .int (p), .int (k), .int (e)] σ (qd (.inr none) (setOwnS σ a i p k e)) := by
  refine Ct.of hl0 rfl rfl (Nat.le_of_ble_eq_true rfl) ?_
  show Ex l G m_D_setOwn (pmV G m_D_setOwn (qd (.inr none) (setOwnS σ a i p k e))) 0 [(0, .ref (0 + 16 * a)), (1, .int (i)), (2, .int (p)), (3, .int (k)), (4, .int (e))] [] σ 0 0
  refine e_aload_n d_D_setOwn_0 rfl rfl ?_
  refine e_iload_n d_D_setOwn_1 rfl rfl ?_
  refine p_D_9 rfl d_D_setOwn_2 ?_
  refine e_aload_n d_D_setOwn_5 rfl rfl ?_
  refine e_iload_n d_D_setOwn_6 rfl rfl ?_
  refine p_D_15 rfl d_D_setOwn_7 ?_
  refine e_aload_n d_D_setOwn_10 rfl rfl ?_
  refine e_iload d_D_setOwn_11 rfl ?_
  refine p_D_18 rfl d_D_setOwn_13 ?_
  refine e_aload_n d_D_setOwn_16 rfl rfl ?_
  refine e_iload_n d_D_setOwn_17 rfl rfl ?_
  refine p_D_21 rfl d_D_setOwn_18 ?_
  refine e_aload_n d_D_setOwn_21 rfl rfl ?_
  refine e_iconst (v := 0) d_D_setOwn_22 (by decide) ?_
  refine p_D_24 rfl d_D_setOwn_23 ?_
  refine e_aload_n d_D_setOwn_26 rfl rfl ?_
  refine e_iload_n d_D_setOwn_27 rfl rfl ?_
  refine p_D_27 rfl d_D_setOwn_28 ?_
  refine e_aload_n d_D_setOwn_31 rfl rfl ?_
  refine e_iconst (v := -1) d_D_setOwn_32 (by decide) ?_
  refine p_D_30 rfl d_D_setOwn_33 ?_
  refine e_aload_n d_D_setOwn_36 rfl rfl ?_
  refine e_iconst (v := -1) d_D_setOwn_37 (by decide) ?_
  refine p_D_33 rfl d_D_setOwn_38 ?_
  exact e_vret d_D_setOwn_41 rfl ⟨rfl, rfl⟩
set_option maxHeartbeats 4000000 in
theorem ct_D_setRootOf {l : Launch} (hl0 : l.stackTraces = false) {G : LG} {σ : HS} {a b : Nat}  : Ct l G m_D_setRootOf [.ref (0 + 16 * a), .ref (0 + 16 * b)] σ (qd (.inr none) (cpRoot σ a b)) := by
  refine Ct.of hl0 rfl rfl (Nat.le_of_ble_eq_true rfl) ?_
  show Ex l G m_D_setRootOf (pmV G m_D_setRootOf (qd (.inr none) (cpRoot σ a b))) 0 [(0, .ref (0 + 16 * a)), (1, .ref (0 + 16 * b))] [] σ 0 0
  refine e_aload_n d_D_setRootOf_0 rfl rfl ?_
  refine e_aload_n d_D_setRootOf_1 rfl rfl ?_
  refine g_D_9 rfl d_D_setRootOf_2 ?_
  refine p_D_9 rfl d_D_setRootOf_5 ?_
  refine e_aload_n d_D_setRootOf_8 rfl rfl ?_
  refine e_aload_n d_D_setRootOf_9 rfl rfl ?_
  refine g_D_15 rfl d_D_setRootOf_10 ?_
  refine p_D_15 rfl d_D_setRootOf_13 ?_
  refine e_aload_n d_D_setRootOf_16 rfl rfl ?_
  refine e_aload_n d_D_setRootOf_17 rfl rfl ?_
  refine g_D_18 rfl d_D_setRootOf_18 ?_
  refine p_D_18 rfl d_D_setRootOf_21 ?_
  refine e_aload_n d_D_setRootOf_24 rfl rfl ?_
  refine e_aload_n d_D_setRootOf_25 rfl rfl ?_
  refine g_D_21 rfl d_D_setRootOf_26 ?_
  refine p_D_21 rfl d_D_setRootOf_29 ?_
  exact e_vret d_D_setRootOf_32 rfl ⟨rfl, (by simp [cpRoot, I_sI])⟩
set_option maxHeartbeats 4000000 in
theorem ct_D_betterThan {l : Launch} (hl0 : l.stackTraces = false) {G : LG} {σ : HS} {a b : Nat}  : Ct l G m_D_betterThan [.ref (0 + 16 * a), .ref (0 + 16 * b)] σ (qd (.inr (some (.int (btI (hI σ 0 a) (hI σ 0 b))))) σ) := by
  refine Ct.of hl0 rfl rfl (Nat.le_of_ble_eq_true rfl) ?_
  show Ex l G m_D_betterThan (pmV G m_D_betterThan (qd (.inr (some (.int (btI (hI σ 0 a) (hI σ 0 b))))) σ)) 0 [(0, .ref (0 + 16 * a)), (1, .ref (0 + 16 * b))] [] σ 0 0
  refine e_aload_n d_D_betterThan_0 rfl rfl ?_
  refine g_D_9 rfl d_D_betterThan_1 ?_
  refine e_aload_n d_D_betterThan_4 rfl rfl ?_
  refine g_D_9 rfl d_D_betterThan_5 ?_
  refine e_icmpeq (tgt := 28) d_D_betterThan_8 (by decide) (fun h8 => ?_) (fun h8 => ?_)
  ·
    refine e_aload_n d_D_betterThan_28 rfl rfl ?_
    refine g_D_15 rfl d_D_betterThan_29 ?_
    refine e_aload_n d_D_betterThan_32 rfl rfl ?_
    refine g_D_15 rfl d_D_betterThan_33 ?_
    refine e_icmpeq (tgt := 56) d_D_betterThan_36 (by decide) (fun h36 => ?_) (fun h36 => ?_)
    ·
      refine e_aload_n d_D_betterThan_56 rfl rfl ?_
      refine g_D_18 rfl d_D_betterThan_57 ?_
      refine e_aload_n d_D_betterThan_60 rfl rfl ?_
      refine g_D_18 rfl d_D_betterThan_61 ?_
      refine e_icmpeq (tgt := 84) d_D_betterThan_64 (by decide) (fun h64 => ?_) (fun h64 => ?_)
      ·
        refine e_aload_n d_D_betterThan_84 rfl rfl ?_
        refine g_D_21 rfl d_D_betterThan_85 ?_
        refine e_aload_n d_D_betterThan_88 rfl rfl ?_
        refine g_D_21 rfl d_D_betterThan_89 ?_
        refine e_icmpeq (tgt := 112) d_D_betterThan_92 (by decide) (fun h92 => ?_) (fun h92 => ?_)
        ·
          refine e_aload_n d_D_betterThan_112 rfl rfl ?_
          refine g_D_24 rfl d_D_betterThan_113 ?_
          refine e_aload_n d_D_betterThan_116 rfl rfl ?_
          refine g_D_24 rfl d_D_betterThan_117 ?_
          refine e_icmpeq (tgt := 140) d_D_betterThan_120 (by decide) (fun h120 => ?_) (fun h120 => ?_)
          ·
            refine e_aload_n d_D_betterThan_140 rfl rfl ?_
            refine g_D_27 rfl d_D_betterThan_141 ?_
            refine e_aload_n d_D_betterThan_144 rfl rfl ?_
            refine g_D_27 rfl d_D_betterThan_145 ?_
            refine e_icmpeq (tgt := 168) d_D_betterThan_148 (by decide) (fun h148 => ?_) (fun h148 => ?_)
            ·
              refine e_aload_n d_D_betterThan_168 rfl rfl ?_
              refine g_D_30 rfl d_D_betterThan_169 ?_
              refine e_aload_n d_D_betterThan_172 rfl rfl ?_
              refine g_D_30 rfl d_D_betterThan_173 ?_
              refine e_icmpeq (tgt := 196) d_D_betterThan_176 (by decide) (fun h176 => ?_) (fun h176 => ?_)
              ·
                refine e_aload_n d_D_betterThan_196 rfl rfl ?_
                refine g_D_33 rfl d_D_betterThan_197 ?_
                refine e_aload_n d_D_betterThan_200 rfl rfl ?_
                refine g_D_33 rfl d_D_betterThan_201 ?_
                refine e_icmpge (tgt := 211) d_D_betterThan_204 (by decide) (fun h204 => ?_) (fun h204 => ?_)
                ·
                  refine e_iconst (v := 0) d_D_betterThan_211 (by decide) ?_
                  exact e_zret d_D_betterThan_212 rfl (by first | exact Or.inl rfl | exact Or.inr rfl) ⟨(by simp [btI, lexI, h8, h36, h64, h92, h120, h148, h176, h204]), rfl⟩
                ·
                  refine e_iconst (v := 1) d_D_betterThan_207 (by decide) ?_
                  refine e_goto (tgt := 212) d_D_betterThan_208 (by decide) ?_
                  exact e_zret d_D_betterThan_212 rfl (by first | exact Or.inl rfl | exact Or.inr rfl) ⟨(by simp [btI, lexI, h8, h36, h64, h92, h120, h148, h176, h204, ne_of_nle h204]), rfl⟩
              ·
                refine e_aload_n d_D_betterThan_179 rfl rfl ?_
                refine g_D_30 rfl d_D_betterThan_180 ?_
                refine e_aload_n d_D_betterThan_183 rfl rfl ?_
                refine g_D_30 rfl d_D_betterThan_184 ?_
                refine e_icmpge (tgt := 194) d_D_betterThan_187 (by decide) (fun h187 => ?_) (fun h187 => ?_)
                ·
                  refine e_iconst (v := 0) d_D_betterThan_194 (by decide) ?_
                  exact e_zret d_D_betterThan_195 rfl (by first | exact Or.inl rfl | exact Or.inr rfl) ⟨(by simp [btI, lexI, h8, h36, h64, h92, h120, h148, h176, h187]), rfl⟩
                ·
                  refine e_iconst (v := 1) d_D_betterThan_190 (by decide) ?_
                  refine e_goto (tgt := 195) d_D_betterThan_191 (by decide) ?_
                  exact e_zret d_D_betterThan_195 rfl (by first | exact Or.inl rfl | exact Or.inr rfl) ⟨(by simp [btI, lexI, h8, h36, h64, h92, h120, h148, h176, h187]), rfl⟩
            ·
              refine e_aload_n d_D_betterThan_151 rfl rfl ?_
              refine g_D_27 rfl d_D_betterThan_152 ?_
              refine e_aload_n d_D_betterThan_155 rfl rfl ?_
              refine g_D_27 rfl d_D_betterThan_156 ?_
              refine e_icmpge (tgt := 166) d_D_betterThan_159 (by decide) (fun h159 => ?_) (fun h159 => ?_)
              ·
                refine e_iconst (v := 0) d_D_betterThan_166 (by decide) ?_
                exact e_zret d_D_betterThan_167 rfl (by first | exact Or.inl rfl | exact Or.inr rfl) ⟨(by simp [btI, lexI, h8, h36, h64, h92, h120, h148, h159]), rfl⟩
              ·
                refine e_iconst (v := 1) d_D_betterThan_162 (by decide) ?_
                refine e_goto (tgt := 167) d_D_betterThan_163 (by decide) ?_
                exact e_zret d_D_betterThan_167 rfl (by first | exact Or.inl rfl | exact Or.inr rfl) ⟨(by simp [btI, lexI, h8, h36, h64, h92, h120, h148, h159]), rfl⟩
          ·
            refine e_aload_n d_D_betterThan_123 rfl rfl ?_
            refine g_D_24 rfl d_D_betterThan_124 ?_
            refine e_aload_n d_D_betterThan_127 rfl rfl ?_
            refine g_D_24 rfl d_D_betterThan_128 ?_
            refine e_icmpge (tgt := 138) d_D_betterThan_131 (by decide) (fun h131 => ?_) (fun h131 => ?_)
            ·
              refine e_iconst (v := 0) d_D_betterThan_138 (by decide) ?_
              exact e_zret d_D_betterThan_139 rfl (by first | exact Or.inl rfl | exact Or.inr rfl) ⟨(by simp [btI, lexI, h8, h36, h64, h92, h120, h131]), rfl⟩
            ·
              refine e_iconst (v := 1) d_D_betterThan_134 (by decide) ?_
              refine e_goto (tgt := 139) d_D_betterThan_135 (by decide) ?_
              exact e_zret d_D_betterThan_139 rfl (by first | exact Or.inl rfl | exact Or.inr rfl) ⟨(by simp [btI, lexI, h8, h36, h64, h92, h120, h131]), rfl⟩
        ·
          refine e_aload_n d_D_betterThan_95 rfl rfl ?_
          refine g_D_21 rfl d_D_betterThan_96 ?_
          refine e_aload_n d_D_betterThan_99 rfl rfl ?_
          refine g_D_21 rfl d_D_betterThan_100 ?_
          refine e_icmpge (tgt := 110) d_D_betterThan_103 (by decide) (fun h103 => ?_) (fun h103 => ?_)
          ·
            refine e_iconst (v := 0) d_D_betterThan_110 (by decide) ?_
            exact e_zret d_D_betterThan_111 rfl (by first | exact Or.inl rfl | exact Or.inr rfl) ⟨(by simp [btI, lexI, h8, h36, h64, h92, h103]), rfl⟩
          ·
            refine e_iconst (v := 1) d_D_betterThan_106 (by decide) ?_
            refine e_goto (tgt := 111) d_D_betterThan_107 (by decide) ?_
            exact e_zret d_D_betterThan_111 rfl (by first | exact Or.inl rfl | exact Or.inr rfl) ⟨(by simp [btI, lexI, h8, h36, h64, h92, h103]), rfl⟩
      ·
        refine e_aload_n d_D_betterThan_67 rfl rfl ?_
        refine g_D_18 rfl d_D_betterThan_68 ?_
        refine e_aload_n d_D_betterThan_71 rfl rfl ?_
        refine g_D_18 rfl d_D_betterThan_72 ?_
        refine e_icmpge (tgt := 82) d_D_betterThan_75 (by decide) (fun h75 => ?_) (fun h75 => ?_)
        ·
          refine e_iconst (v := 0) d_D_betterThan_82 (by decide) ?_
          exact e_zret d_D_betterThan_83 rfl (by first | exact Or.inl rfl | exact Or.inr rfl) ⟨(by simp [btI, lexI, h8, h36, h64, h75]), rfl⟩
        ·
          refine e_iconst (v := 1) d_D_betterThan_78 (by decide) ?_
          refine e_goto (tgt := 83) d_D_betterThan_79 (by decide) ?_
          exact e_zret d_D_betterThan_83 rfl (by first | exact Or.inl rfl | exact Or.inr rfl) ⟨(by simp [btI, lexI, h8, h36, h64, h75]), rfl⟩
    ·
      refine e_aload_n d_D_betterThan_39 rfl rfl ?_
      refine g_D_15 rfl d_D_betterThan_40 ?_
      refine e_aload_n d_D_betterThan_43 rfl rfl ?_
      refine g_D_15 rfl d_D_betterThan_44 ?_
      refine e_icmpge (tgt := 54) d_D_betterThan_47 (by decide) (fun h47 => ?_) (fun h47 => ?_)
      ·
        refine e_iconst (v := 0) d_D_betterThan_54 (by decide) ?_
        exact e_zret d_D_betterThan_55 rfl (by first | exact Or.inl rfl | exact Or.inr rfl) ⟨(by simp [btI, lexI, h8, h36, h47]), rfl⟩
      ·
        refine e_iconst (v := 1) d_D_betterThan_50 (by decide) ?_
        refine e_goto (tgt := 55) d_D_betterThan_51 (by decide) ?_
        exact e_zret d_D_betterThan_55 rfl (by first | exact Or.inl rfl | exact Or.inr rfl) ⟨(by simp [btI, lexI, h8, h36, h47]), rfl⟩
  ·
    refine e_aload_n d_D_betterThan_11 rfl rfl ?_
    refine g_D_9 rfl d_D_betterThan_12 ?_
    refine e_aload_n d_D_betterThan_15 rfl rfl ?_
    refine g_D_9 rfl d_D_betterThan_16 ?_
    refine e_icmpge (tgt := 26) d_D_betterThan_19 (by decide) (fun h19 => ?_) (fun h19 => ?_)
    ·
      refine e_iconst (v := 0) d_D_betterThan_26 (by decide) ?_
      exact e_zret d_D_betterThan_27 rfl (by first | exact Or.inl rfl | exact Or.inr rfl) ⟨(by simp [btI, lexI, h8, h19]), rfl⟩
    ·
      refine e_iconst (v := 1) d_D_betterThan_22 (by decide) ?_
      refine e_goto (tgt := 27) d_D_betterThan_23 (by decide) ?_
      exact e_zret d_D_betterThan_27 rfl (by first | exact Or.inl rfl | exact Or.inr rfl) ⟨(by simp [btI, lexI, h8, h19]), rfl⟩
set_option maxHeartbeats 4000000 in
theorem ct_D_tellsSameAs {l : Launch} (hl0 : l.stackTraces = false) {G : LG} {σ : HS} {a b : Nat}  : Ct l G m_D_tellsSameAs [.ref (0 + 16 * a), .ref (0 + 16 * b)] σ (qd (.inr (some (.int (tsI (hI σ 0 a) (hI σ 0 b))))) σ) := by
  refine Ct.of hl0 rfl rfl (Nat.le_of_ble_eq_true rfl) ?_
  show Ex l G m_D_tellsSameAs (pmV G m_D_tellsSameAs (qd (.inr (some (.int (tsI (hI σ 0 a) (hI σ 0 b))))) σ)) 0 [(0, .ref (0 + 16 * a)), (1, .ref (0 + 16 * b))] [] σ 0 0
  refine e_aload_n d_D_tellsSameAs_0 rfl rfl ?_
  refine g_D_9 rfl d_D_tellsSameAs_1 ?_
  refine e_aload_n d_D_tellsSameAs_4 rfl rfl ?_
  refine g_D_9 rfl d_D_tellsSameAs_5 ?_
  refine e_icmpne (tgt := 81) d_D_tellsSameAs_8 (by decide) (fun h8 => ?_) (fun h8 => ?_)
  ·
    refine e_iconst (v := 0) d_D_tellsSameAs_81 (by decide) ?_
    exact e_zret d_D_tellsSameAs_82 rfl (by first | exact Or.inl rfl | exact Or.inr rfl) ⟨(by simp [tsI, samI, h8]), rfl⟩
  ·
    refine e_aload_n d_D_tellsSameAs_11 rfl rfl ?_
    refine g_D_15 rfl d_D_tellsSameAs_12 ?_
    refine e_aload_n d_D_tellsSameAs_15 rfl rfl ?_
    refine g_D_15 rfl d_D_tellsSameAs_16 ?_
    refine e_icmpne (tgt := 81) d_D_tellsSameAs_19 (by decide) (fun h19 => ?_) (fun h19 => ?_)
    ·
      refine e_iconst (v := 0) d_D_tellsSameAs_81 (by decide) ?_
      exact e_zret d_D_tellsSameAs_82 rfl (by first | exact Or.inl rfl | exact Or.inr rfl) ⟨(by simp [tsI, samI, h8, h19]), rfl⟩
    ·
      refine e_aload_n d_D_tellsSameAs_22 rfl rfl ?_
      refine g_D_18 rfl d_D_tellsSameAs_23 ?_
      refine e_aload_n d_D_tellsSameAs_26 rfl rfl ?_
      refine g_D_18 rfl d_D_tellsSameAs_27 ?_
      refine e_icmpne (tgt := 81) d_D_tellsSameAs_30 (by decide) (fun h30 => ?_) (fun h30 => ?_)
      ·
        refine e_iconst (v := 0) d_D_tellsSameAs_81 (by decide) ?_
        exact e_zret d_D_tellsSameAs_82 rfl (by first | exact Or.inl rfl | exact Or.inr rfl) ⟨(by simp [tsI, samI, h8, h19, h30]), rfl⟩
      ·
        refine e_aload_n d_D_tellsSameAs_33 rfl rfl ?_
        refine g_D_21 rfl d_D_tellsSameAs_34 ?_
        refine e_aload_n d_D_tellsSameAs_37 rfl rfl ?_
        refine g_D_21 rfl d_D_tellsSameAs_38 ?_
        refine e_icmpne (tgt := 81) d_D_tellsSameAs_41 (by decide) (fun h41 => ?_) (fun h41 => ?_)
        ·
          refine e_iconst (v := 0) d_D_tellsSameAs_81 (by decide) ?_
          exact e_zret d_D_tellsSameAs_82 rfl (by first | exact Or.inl rfl | exact Or.inr rfl) ⟨(by simp [tsI, samI, h8, h19, h30, h41]), rfl⟩
        ·
          refine e_aload_n d_D_tellsSameAs_44 rfl rfl ?_
          refine g_D_24 rfl d_D_tellsSameAs_45 ?_
          refine e_aload_n d_D_tellsSameAs_48 rfl rfl ?_
          refine g_D_24 rfl d_D_tellsSameAs_49 ?_
          refine e_icmpne (tgt := 81) d_D_tellsSameAs_52 (by decide) (fun h52 => ?_) (fun h52 => ?_)
          ·
            refine e_iconst (v := 0) d_D_tellsSameAs_81 (by decide) ?_
            exact e_zret d_D_tellsSameAs_82 rfl (by first | exact Or.inl rfl | exact Or.inr rfl) ⟨(by simp [tsI, samI, h8, h19, h30, h41, h52]), rfl⟩
          ·
            refine e_aload_n d_D_tellsSameAs_55 rfl rfl ?_
            refine g_D_27 rfl d_D_tellsSameAs_56 ?_
            refine e_aload_n d_D_tellsSameAs_59 rfl rfl ?_
            refine g_D_27 rfl d_D_tellsSameAs_60 ?_
            refine e_icmpne (tgt := 81) d_D_tellsSameAs_63 (by decide) (fun h63 => ?_) (fun h63 => ?_)
            ·
              refine e_iconst (v := 0) d_D_tellsSameAs_81 (by decide) ?_
              exact e_zret d_D_tellsSameAs_82 rfl (by first | exact Or.inl rfl | exact Or.inr rfl) ⟨(by simp [tsI, samI, h8, h19, h30, h41, h52, h63]), rfl⟩
            ·
              refine e_aload_n d_D_tellsSameAs_66 rfl rfl ?_
              refine g_D_30 rfl d_D_tellsSameAs_67 ?_
              refine e_aload_n d_D_tellsSameAs_70 rfl rfl ?_
              refine g_D_30 rfl d_D_tellsSameAs_71 ?_
              refine e_icmpne (tgt := 81) d_D_tellsSameAs_74 (by decide) (fun h74 => ?_) (fun h74 => ?_)
              ·
                refine e_iconst (v := 0) d_D_tellsSameAs_81 (by decide) ?_
                exact e_zret d_D_tellsSameAs_82 rfl (by first | exact Or.inl rfl | exact Or.inr rfl) ⟨(by simp [tsI, samI, h8, h19, h30, h41, h52, h63, h74]), rfl⟩
              ·
                refine e_iconst (v := 1) d_D_tellsSameAs_77 (by decide) ?_
                refine e_goto (tgt := 82) d_D_tellsSameAs_78 (by decide) ?_
                exact e_zret d_D_tellsSameAs_82 rfl (by first | exact Or.inl rfl | exact Or.inr rfl) ⟨(by simp [tsI, samI, h8, h19, h30, h41, h52, h63, h74]), rfl⟩
end
section
set_option maxHeartbeats 4000000 in
theorem ct_K_init {l : Launch} (hl0 : l.stackTraces = false) {G : LG} {σ : HS} {k x y : Nat} {t b : Int32}  : Ct l G m_K_init [.ref (3 + 16 * k), .ref (1 + 16 * x), .ref (1 + 16 * y), .int (t), .int (b)] σ (qd (.inr (none)) (sI (sI (sI (sR (sR (σ) 3 (k) 0 (some (1 + 16 * x))) 3 (k) 1 (some (1 + 16 * y))) 3 (k) 2 (t)) 3 (k) 3 (b)) 3 (k) 4 (1))) := by
  refine Ct.of hl0 rfl rfl (Nat.le_of_ble_eq_true rfl) ?_
  show Ex l G m_K_init (pmV G m_K_init (qd (.inr (none)) (sI (sI (sI (sR (sR (σ) 3 (k) 0 (some (1 + 16 * x))) 3 (k) 1 (some (1 + 16 * y))) 3 (k) 2 (t)) 3 (k) 3 (b)) 3 (k) 4 (1)))) 0 [(0, .ref (3 + 16 * k)), (1, .ref (1 + 16 * x)), (2, .ref (1 + 16 * y)), (3, .int (t)), (4, .int (b))] [] σ 0 0
  refine e_aload_n d_K_init_0 rfl rfl ?_
  refine e_obji d_K_init_1 ol_K_1 ⟨by decide, by decide⟩ ?_
  refine e_aload_n d_K_init_4 rfl rfl ?_
  refine e_aload_n d_K_init_5 rfl rfl ?_
  refine p_K_7 (by omega) rfl rfl d_K_init_6 ?_
  refine e_aload_n d_K_init_9 rfl rfl ?_
  refine e_aload_n d_K_init_10 rfl rfl ?_
  refine p_K_13 (by omega) rfl rfl d_K_init_11 ?_
  refine e_aload_n d_K_init_14 rfl rfl ?_
  refine e_iload_n d_K_init_15 rfl rfl ?_
  refine p_K_16 rfl rfl d_K_init_16 ?_
  refine e_aload_n d_K_init_19 rfl rfl ?_
  refine e_iload d_K_init_20 rfl ?_
  refine p_K_20 rfl rfl d_K_init_22 ?_
  refine e_aload_n d_K_init_25 rfl rfl ?_
  refine e_iconst (v := 1) d_K_init_26 (by decide) ?_
  refine p_K_23 (by first | exact Or.inl rfl | exact Or.inr rfl) rfl d_K_init_27 ?_
  exact e_vret d_K_init_30 rfl ⟨rfl, rfl⟩
set_option maxHeartbeats 4000000 in
theorem ct_K_farFrom {l : Launch} (hl0 : l.stackTraces = false) {G : LG} {σ : HS} {k x y p : Nat} (hf : hR σ 3 k 0 = some (1 + 16 * x)) (hs : hR σ 3 k 1 = some (1 + 16 * y)) : Ct l G m_K_farFrom [.ref (3 + 16 * k), .ref (1 + 16 * p)] σ (qd (.inr (some (.ref (if p = x then 1 + 16 * y else 1 + 16 * x)))) σ) := by
  refine Ct.of hl0 rfl rfl (Nat.le_of_ble_eq_true rfl) ?_
  show Ex l G m_K_farFrom (pmV G m_K_farFrom (qd (.inr (some (.ref (if p = x then 1 + 16 * y else 1 + 16 * x)))) σ)) 0 [(0, .ref (3 + 16 * k)), (1, .ref (1 + 16 * p))] [] σ 0 0
  refine e_aload_n d_K_farFrom_0 rfl rfl ?_
  refine e_aload_n d_K_farFrom_1 rfl rfl ?_
  refine g_K_7 (b := 1 + 16 * x) rfl d_K_farFrom_2 hf ?_
  refine e_acmpne (tgt := 15) d_K_farFrom_5 (by decide) (by omega) (by omega) (fun h5 => ?_) (fun h5 => ?_)
  ·
    refine e_aload_n d_K_farFrom_15 rfl rfl ?_
    refine g_K_7 (b := 1 + 16 * x) rfl d_K_farFrom_16 hf ?_
    exact e_aret d_K_farFrom_19 rfl (Or.inl ⟨_, rfl⟩) ⟨(by rw [if_neg (by omega)]), rfl⟩
  ·
    refine e_aload_n d_K_farFrom_8 rfl rfl ?_
    refine g_K_13 (b := 1 + 16 * y) rfl d_K_farFrom_9 hs ?_
    refine e_goto (tgt := 19) d_K_farFrom_12 (by decide) ?_
    exact e_aret d_K_farFrom_19 rfl (Or.inl ⟨_, rfl⟩) ⟨(by rw [if_pos (by omega)]), rfl⟩
set_option maxHeartbeats 4000000 in
theorem ct_K_delayTo {l : Launch} (hl0 : l.stackTraces = false) {G : LG} {σ : HS} {k x p : Nat} (hf : hR σ 3 k 0 = some (1 + 16 * x)) : Ct l G m_K_delayTo [.ref (3 + 16 * k), .ref (1 + 16 * p)] σ (qd (.inr (some (.int (if p = x then hI σ 3 k 3 else hI σ 3 k 2)))) σ) := by
  refine Ct.of hl0 rfl rfl (Nat.le_of_ble_eq_true rfl) ?_
  show Ex l G m_K_delayTo (pmV G m_K_delayTo (qd (.inr (some (.int (if p = x then hI σ 3 k 3 else hI σ 3 k 2)))) σ)) 0 [(0, .ref (3 + 16 * k)), (1, .ref (1 + 16 * p))] [] σ 0 0
  refine e_aload_n d_K_delayTo_0 rfl rfl ?_
  refine e_aload_n d_K_delayTo_1 rfl rfl ?_
  refine g_K_7 (b := 1 + 16 * x) rfl d_K_delayTo_2 hf ?_
  refine e_acmpne (tgt := 15) d_K_delayTo_5 (by decide) (by omega) (by omega) (fun h5 => ?_) (fun h5 => ?_)
  ·
    refine e_aload_n d_K_delayTo_15 rfl rfl ?_
    refine g_K_16 rfl d_K_delayTo_16 ?_
    exact e_iret d_K_delayTo_19 rfl ⟨(by rw [if_neg (by omega)]), rfl⟩
  ·
    refine e_aload_n d_K_delayTo_8 rfl rfl ?_
    refine g_K_20 rfl d_K_delayTo_9 ?_
    refine e_goto (tgt := 19) d_K_delayTo_12 (by decide) ?_
    exact e_iret d_K_delayTo_19 rfl ⟨(by rw [if_pos (by omega)]), rfl⟩
set_option maxHeartbeats 4000000 in
theorem ct_K_delayFrom {l : Launch} (hl0 : l.stackTraces = false) {G : LG} {σ : HS} {k x p : Nat} (hf : hR σ 3 k 0 = some (1 + 16 * x)) : Ct l G m_K_delayFrom [.ref (3 + 16 * k), .ref (1 + 16 * p)] σ (qd (.inr (some (.int (if p = x then hI σ 3 k 2 else hI σ 3 k 3)))) σ) := by
  refine Ct.of hl0 rfl rfl (Nat.le_of_ble_eq_true rfl) ?_
  show Ex l G m_K_delayFrom (pmV G m_K_delayFrom (qd (.inr (some (.int (if p = x then hI σ 3 k 2 else hI σ 3 k 3)))) σ)) 0 [(0, .ref (3 + 16 * k)), (1, .ref (1 + 16 * p))] [] σ 0 0
  refine e_aload_n d_K_delayFrom_0 rfl rfl ?_
  refine e_aload_n d_K_delayFrom_1 rfl rfl ?_
  refine g_K_7 (b := 1 + 16 * x) rfl d_K_delayFrom_2 hf ?_
  refine e_acmpne (tgt := 15) d_K_delayFrom_5 (by decide) (by omega) (by omega) (fun h5 => ?_) (fun h5 => ?_)
  ·
    refine e_aload_n d_K_delayFrom_15 rfl rfl ?_
    refine g_K_20 rfl d_K_delayFrom_16 ?_
    exact e_iret d_K_delayFrom_19 rfl ⟨(by rw [if_neg (by omega)]), rfl⟩
  ·
    refine e_aload_n d_K_delayFrom_8 rfl rfl ?_
    refine g_K_16 rfl d_K_delayFrom_9 ?_
    refine e_goto (tgt := 19) d_K_delayFrom_12 (by decide) ?_
    exact e_iret d_K_delayFrom_19 rfl ⟨(by rw [if_pos (by omega)]), rfl⟩
set_option maxHeartbeats 4000000 in
theorem ct_R_init {l : Launch} (hl0 : l.stackTraces = false) {G : LG} {σ : HS} {r : Nat}  : Ct l G m_R_init [.ref (4 + 16 * r)] σ (qd (.inr (none)) (σ)) := by
  refine Ct.of hl0 rfl rfl (Nat.le_of_ble_eq_true rfl) ?_
  show Ex l G m_R_init (pmV G m_R_init (qd (.inr (none)) (σ))) 0 [(0, .ref (4 + 16 * r))] [] σ 0 0
  refine e_aload_n d_R_init_0 rfl rfl ?_
  refine e_obji d_R_init_1 ol_R_3 ⟨by decide, by decide⟩ ?_
  exact e_vret d_R_init_4 rfl ⟨rfl, rfl⟩
/-- the sum of two longs fits -/
def okS (a b : Int64) : Prop := 0 ≤ lg_cmp ((a ^^^ (a + b)) &&& (b ^^^ (a + b))) 0
def okM (a b : Int64) : Prop := 0 ≤ lg_cmp ((a ^^^ b) &&& (a ^^^ (a - b))) 0
noncomputable def ovS (σ : HS) (r : Nat) (p : Prop) : HS := @ite _ p (Classical.propDecidable p) σ (sI σ 4 r 0 1)
theorem ovS_y {σ : HS} {r : Nat} {p : Prop} (h : p) : σ = ovS σ r p := by unfold ovS; rw [if_pos h]
theorem ovS_n {σ : HS} {r : Nat} {p : Prop} (h : ¬ p) : sI σ 4 r 0 1 = ovS σ r p := by unfold ovS; rw [if_neg h]
set_option maxHeartbeats 4000000 in
theorem ct_R_plus {l : Launch} (hl0 : l.stackTraces = false) {G : LG} {σ : HS} {r : Nat} {a b : Int64}  : Ct l G m_R_plus [.ref (4 + 16 * r), .long (a), .long (b)] σ (qd (.inr (some (.long (a + b)))) (ovS σ r (okS a b))) := by
  refine Ct.of hl0 rfl rfl (Nat.le_of_ble_eq_true rfl) ?_
  show Ex l G m_R_plus (pmV G m_R_plus (qd (.inr (some (.long (a + b)))) (ovS σ r (okS a b)))) 0 [(0, .ref (4 + 16 * r)), (1, .long (a)), (3, .long (b))] [] σ 0 0
  refine e_lload_n d_R_plus_0 rfl rfl ?_
  refine e_lload_n d_R_plus_1 rfl rfl ?_
  refine e_ladd d_R_plus_2 ?_
  refine e_lstore d_R_plus_3 (by decide) rfl ?_
  refine e_lload_n d_R_plus_5 rfl rfl ?_
  refine e_lload d_R_plus_6 rfl ?_
  refine e_lxor d_R_plus_8 ?_
  refine e_lload_n d_R_plus_9 rfl rfl ?_
  refine e_lload d_R_plus_10 rfl ?_
  refine e_lxor d_R_plus_12 ?_
  refine e_land d_R_plus_13 ?_
  refine e_lconst (v := 0) d_R_plus_14 (by decide) ?_
  refine e_lcmp d_R_plus_15 ?_
  refine e_ifge (tgt := 24) d_R_plus_16 (by decide) (fun h16 => ?_) (fun h16 => ?_)
  ·
    refine e_lload d_R_plus_24 rfl ?_
    exact e_lret d_R_plus_26 rfl ⟨rfl, ovS_y h16⟩
  ·
    refine e_aload_n d_R_plus_19 rfl rfl ?_
    refine e_iconst (v := 1) d_R_plus_20 (by decide) ?_
    refine p_R_9 (by first | exact Or.inl rfl | exact Or.inr rfl) rfl d_R_plus_21 ?_
    refine e_lload d_R_plus_24 rfl ?_
    exact e_lret d_R_plus_26 rfl ⟨rfl, ovS_n h16⟩
set_option maxHeartbeats 4000000 in
theorem ct_R_minus {l : Launch} (hl0 : l.stackTraces = false) {G : LG} {σ : HS} {r : Nat} {a b : Int64}  : Ct l G m_R_minus [.ref (4 + 16 * r), .long (a), .long (b)] σ (qd (.inr (some (.long (a - b)))) (ovS σ r (okM a b))) := by
  refine Ct.of hl0 rfl rfl (Nat.le_of_ble_eq_true rfl) ?_
  show Ex l G m_R_minus (pmV G m_R_minus (qd (.inr (some (.long (a - b)))) (ovS σ r (okM a b)))) 0 [(0, .ref (4 + 16 * r)), (1, .long (a)), (3, .long (b))] [] σ 0 0
  refine e_lload_n d_R_minus_0 rfl rfl ?_
  refine e_lload_n d_R_minus_1 rfl rfl ?_
  refine e_lsub d_R_minus_2 ?_
  refine e_lstore d_R_minus_3 (by decide) rfl ?_
  refine e_lload_n d_R_minus_5 rfl rfl ?_
  refine e_lload_n d_R_minus_6 rfl rfl ?_
  refine e_lxor d_R_minus_7 ?_
  refine e_lload_n d_R_minus_8 rfl rfl ?_
  refine e_lload d_R_minus_9 rfl ?_
  refine e_lxor d_R_minus_11 ?_
  refine e_land d_R_minus_12 ?_
  refine e_lconst (v := 0) d_R_minus_13 (by decide) ?_
  refine e_lcmp d_R_minus_14 ?_
  refine e_ifge (tgt := 23) d_R_minus_15 (by decide) (fun h15 => ?_) (fun h15 => ?_)
  ·
    refine e_lload d_R_minus_23 rfl ?_
    exact e_lret d_R_minus_25 rfl ⟨rfl, ovS_y h15⟩
  ·
    refine e_aload_n d_R_minus_18 rfl rfl ?_
    refine e_iconst (v := 1) d_R_minus_19 (by decide) ?_
    refine p_R_9 (by first | exact Or.inl rfl | exact Or.inr rfl) rfl d_R_minus_20 ?_
    refine e_lload d_R_minus_23 rfl ?_
    exact e_lret d_R_minus_25 rfl ⟨rfl, ovS_n h15⟩
def growV (σ : HS) (p : Nat) : Int32 := if hI σ 1 p 4 = 0 then 0 else if 3 ≤ hI σ 1 p 5 + 1 then 1 else 0
def growS (σ : HS) (p : Nat) : HS := if hI σ 1 p 4 = 0 then σ else if 3 ≤ hI σ 1 p 5 + 1 then sI (sI σ 1 p 5 (hI σ 1 p 5 + 1)) 1 p 4 0 else sI σ 1 p 5 (hI σ 1 p 5 + 1)
set_option maxHeartbeats 4000000 in
theorem ct_P_growOlder {l : Launch} (hl0 : l.stackTraces = false) {G : LG} {σ : HS} {p : Nat}  : Ct l G m_P_growOlder [.ref (1 + 16 * p)] σ (qd (.inr (some (.int (growV σ p)))) (growS σ p)) := by
  refine Ct.of hl0 rfl rfl (Nat.le_of_ble_eq_true rfl) ?_
  show Ex l G m_P_growOlder (pmV G m_P_growOlder (qd (.inr (some (.int (growV σ p)))) (growS σ p))) 0 [(0, .ref (1 + 16 * p))] [] σ 0 0
  refine e_aload_n d_P_growOlder_0 rfl rfl ?_
  refine g_P_28 rfl d_P_growOlder_1 ?_
  refine e_ifne (tgt := 9) d_P_growOlder_4 (by decide) (fun h4 => ?_) (fun h4 => ?_)
  ·
    refine e_aload_n d_P_growOlder_9 rfl rfl ?_
    refine e_dup d_P_growOlder_10 rfl ?_
    refine g_P_32 rfl d_P_growOlder_11 ?_
    refine e_iconst (v := 1) d_P_growOlder_14 (by decide) ?_
    refine e_iadd d_P_growOlder_15 ?_
    refine p_P_32 rfl d_P_growOlder_16 ?_
    refine e_aload_n d_P_growOlder_19 rfl rfl ?_
    refine g_P_32 rfl d_P_growOlder_20 ?_
    refine e_iconst (v := 3) d_P_growOlder_23 (by decide) ?_
    refine e_icmpge (tgt := 29) d_P_growOlder_24 (by decide) (fun h24 => ?_) (fun h24 => ?_)
    ·
      refine e_aload_n d_P_growOlder_29 rfl rfl ?_
      refine e_iconst (v := 0) d_P_growOlder_30 (by decide) ?_
      refine p_P_28 (by first | exact Or.inl rfl | exact Or.inr rfl) rfl d_P_growOlder_31 ?_
      refine e_iconst (v := 1) d_P_growOlder_34 (by decide) ?_
      rw [I_sI, if_pos ⟨rfl, rfl, rfl⟩] at h24
      exact e_zret d_P_growOlder_35 rfl (by first | exact Or.inl rfl | exact Or.inr rfl) ⟨by simp [growV, h4, h24], by simp [growS, I_sI, h4, h24]⟩
    ·
      refine e_iconst (v := 0) d_P_growOlder_27 (by decide) ?_
      rw [I_sI, if_pos ⟨rfl, rfl, rfl⟩] at h24
      exact e_zret d_P_growOlder_28 rfl (by first | exact Or.inl rfl | exact Or.inr rfl) ⟨by simp [growV, h4, h24], by simp [growS, I_sI, h4, h24]⟩
  ·
    refine e_iconst (v := 0) d_P_growOlder_7 (by decide) ?_
    exact e_zret d_P_growOlder_8 rfl (by first | exact Or.inl rfl | exact Or.inr rfl) ⟨by simp [growV, h4], by simp [growS, I_sI, h4]⟩
end
section
theorem hs_ext {σ τ : HS} (h1 : hn σ = hn τ) (h2 : hl σ = hl τ) (h3 : ∀ q a k, hI σ q a k = hI τ q a k) (h4 : ∀ q a k, hJ σ q a k = hJ τ q a k) (h5 : ∀ q a k, hR σ q a k = hR τ q a k) : σ = τ := by
  obtain ⟨a1, a2, a3, a4, a5⟩ := σ
  obtain ⟨b1, b2, b3, b4, b5⟩ := τ
  have e3 : a3 = b3 := funext fun q => funext fun a => funext fun k => h3 q a k
  have e4 : a4 = b4 := funext fun q => funext fun a => funext fun k => h4 q a k
  have e5 : a5 = b5 := funext fun q => funext fun a => funext fun k => h5 q a k
  have e1 : a1 = b1 := h1
  have e2 : a2 = b2 := h2
  rw [e1, e2, e3, e4, e5]
/-- a dataset written whole -/
def sD (σ : HS) (d : Nat) (f : DV) : HS := (σ.1, σ.2.1, fun q a k => if q = 0 ∧ a = d then f k else σ.2.2.1 q a k, σ.2.2.2)
theorem I_sD {σ : HS} {d : Nat} {f : DV} {q a k : Nat} : hI (sD σ d f) q a k = if q = 0 ∧ a = d then f k else hI σ q a k := rfl
theorem n_sD {σ : HS} {d : Nat} {f : DV} : hn (sD σ d f) = hn σ := rfl
theorem l_sD {σ : HS} {d : Nat} {f : DV} : hl (sD σ d f) = hl σ := rfl
theorem J_sD {σ : HS} {d : Nat} {f : DV} : hJ (sD σ d f) = hJ σ := rfl
theorem R_sD {σ : HS} {d : Nat} {f : DV} : hR (sD σ d f) = hR σ := rfl
def v8 (x0 x1 x2 x3 x4 x5 x6 x7 : Int32) (old : DV) : DV := fun k => match k with
  | 0 => x0
  | 1 => x1
  | 2 => x2
  | 3 => x3
  | 4 => x4
  | 5 => x5
  | 6 => x6
  | 7 => x7
  | k + 8 => old (k + 8)
theorem sI_of_8 {σ : HS} {d : Nat} {x0 x1 x2 x3 x4 x5 x6 x7 : Int32} : sI (sI (sI (sI (sI (sI (sI (sI σ 0 d 0 x0) 0 d 1 x1) 0 d 2 x2) 0 d 3 x3) 0 d 4 x4) 0 d 5 x5) 0 d 6 x6) 0 d 7 x7 = sD σ d (v8 x0 x1 x2 x3 x4 x5 x6 x7 (hI σ 0 d)) := by
  refine hs_ext rfl rfl (fun q a k => ?_) (fun _ _ _ => rfl) (fun _ _ _ => rfl)
  simp only [I_sI, I_sD]
  by_cases h : q = 0 ∧ a = d
  · obtain ⟨rfl, rfl⟩ := h
    match k with
    | 0 => simp [v8]
    | 1 => simp [v8]
    | 2 => simp [v8]
    | 3 => simp [v8]
    | 4 => simp [v8]
    | 5 => simp [v8]
    | 6 => simp [v8]
    | 7 => simp [v8]
    | k + 8 => simp [v8]
  · have h' : ∀ j, ¬ (q = 0 ∧ a = d ∧ k = j) := fun j z => h ⟨z.1, z.2.1⟩
    simp [h, h']
def toldV (B : DV) (same : Bool) (id num : Int32) (old : DV) : DV := v8 (B 0) (B 1) (B 2) (B 3) (if same then 0 else B 4 + 1) id num num old
def keepV (S : DV) (num : Int32) (old : DV) : DV := v8 (S 0) (S 1) (S 2) (S 3) (S 4) (S 5) (S 6) num old
set_option maxHeartbeats 4000000 in
theorem ct_P_tell {l : Launch} (hl0 : l.stackTraces = false) {G : LG} {σ : HS} {p t b w : Nat} (ht : hR σ 1 p 3 = some (0 + 16 * t)) (hb : ¬ b = t) (hw : ¬ w = t) : Ct l G m_P_tell [.ref (1 + 16 * p), .ref (0 + 16 * b), .ref (0 + 16 * w)] σ (qd (.inr none) (sD σ t (toldV (hI σ 0 b) (decide (b = w)) (hI σ 0 w 3) (hI σ 1 p 1) (hI σ 0 t)))) := by
  refine Ct.of hl0 rfl rfl (Nat.le_of_ble_eq_true rfl) ?_
  show Ex l G m_P_tell (pmV G m_P_tell (qd (.inr none) (sD σ t (toldV (hI σ 0 b) (decide (b = w)) (hI σ 0 w 3) (hI σ 1 p 1) (hI σ 0 t))))) 0 [(0, .ref (1 + 16 * p)), (1, .ref (0 + 16 * b)), (2, .ref (0 + 16 * w))] [] σ 0 0
  refine e_aload_n d_P_tell_0 rfl rfl ?_
  refine g_P_25 (b := 0 + 16 * t) rfl d_P_tell_1 ht ?_
  refine e_aload_n d_P_tell_4 rfl rfl ?_
  refine e_callVd (v := none) (σ' := cpRoot (σ) (t) (b)) (q := 0) (a := t) (As := [.ref (0 + 16 * b)]) (st := []) 0 0 d_P_tell_5 cb_P_tell_55 iv_D_setRootOf rfl ⟨by decide, rfl⟩ rfl (Nat.le_of_ble_eq_true rfl) (by decide) (by decide) (ct_D_setRootOf hl0) ?_
  show Ex l G m_P_tell (pmV G m_P_tell (qd (.inr none) (sD σ t (toldV (hI σ 0 b) (decide (b = w)) (hI σ 0 w 3) (hI σ 1 p 1) (hI σ 0 t))))) 8 [(0, .ref (1 + 16 * p)), (1, .ref (0 + 16 * b)), (2, .ref (0 + 16 * w))] [] (cpRoot (σ) (t) (b)) 0 0
  refine e_aload_n d_P_tell_8 rfl rfl ?_
  refine g_P_25 (b := 0 + 16 * t) rfl d_P_tell_9 ht ?_
  refine e_aload_n d_P_tell_12 rfl rfl ?_
  refine e_aload_n d_P_tell_13 rfl rfl ?_
  refine e_acmpne (tgt := 21) d_P_tell_14 (by decide) (by omega) (by omega) (fun h14 => ?_) (fun h14 => ?_)
  ·
    refine e_aload_n d_P_tell_21 rfl rfl ?_
    refine g_P_59 rfl d_P_tell_22 ?_
    refine e_iconst (v := 1) d_P_tell_25 (by decide) ?_
    refine e_iadd d_P_tell_26 ?_
    refine p_P_59 rfl d_P_tell_27 ?_
    refine e_aload_n d_P_tell_30 rfl rfl ?_
    refine g_P_25 (b := 0 + 16 * t) rfl d_P_tell_31 ht ?_
    refine e_aload_n d_P_tell_34 rfl rfl ?_
    refine g_P_71 rfl d_P_tell_35 ?_
    refine p_P_62 rfl d_P_tell_38 ?_
    refine e_aload_n d_P_tell_41 rfl rfl ?_
    refine g_P_25 (b := 0 + 16 * t) rfl d_P_tell_42 ht ?_
    refine e_aload_n d_P_tell_45 rfl rfl ?_
    refine g_P_15 rfl d_P_tell_46 ?_
    refine p_P_65 rfl d_P_tell_49 ?_
    refine e_aload_n d_P_tell_52 rfl rfl ?_
    refine g_P_25 (b := 0 + 16 * t) rfl d_P_tell_53 ht ?_
    refine e_aload_n d_P_tell_56 rfl rfl ?_
    refine g_P_15 rfl d_P_tell_57 ?_
    refine p_P_68 rfl d_P_tell_60 ?_
    refine e_vret d_P_tell_63 rfl ⟨rfl, ?_⟩
    have e1 : decide (b = w) = false := by simp; omega
    rw [e1]
    unfold toldV
    rw [← sI_of_8]
    simp [cpRoot, I_sI, hb, hw]
  ·
    refine e_iconst (v := 0) d_P_tell_17 (by decide) ?_
    refine e_goto (tgt := 27) d_P_tell_18 (by decide) ?_
    refine p_P_59 rfl d_P_tell_27 ?_
    refine e_aload_n d_P_tell_30 rfl rfl ?_
    refine g_P_25 (b := 0 + 16 * t) rfl d_P_tell_31 ht ?_
    refine e_aload_n d_P_tell_34 rfl rfl ?_
    refine g_P_71 rfl d_P_tell_35 ?_
    refine p_P_62 rfl d_P_tell_38 ?_
    refine e_aload_n d_P_tell_41 rfl rfl ?_
    refine g_P_25 (b := 0 + 16 * t) rfl d_P_tell_42 ht ?_
    refine e_aload_n d_P_tell_45 rfl rfl ?_
    refine g_P_15 rfl d_P_tell_46 ?_
    refine p_P_65 rfl d_P_tell_49 ?_
    refine e_aload_n d_P_tell_52 rfl rfl ?_
    refine g_P_25 (b := 0 + 16 * t) rfl d_P_tell_53 ht ?_
    refine e_aload_n d_P_tell_56 rfl rfl ?_
    refine g_P_15 rfl d_P_tell_57 ?_
    refine p_P_68 rfl d_P_tell_60 ?_
    refine e_vret d_P_tell_63 rfl ⟨rfl, ?_⟩
    have e1 : decide (b = w) = true := by simp; omega
    rw [e1]
    unfold toldV
    rw [← sI_of_8]
    simp [cpRoot, I_sI, hb, hw]
def fstV (σ : HS) (p c t b : Nat) : Int32 := if b = c then 2 else if hI σ 1 p 4 = 0 then 1 else if btI (hI σ 0 c) (hI σ 0 t) = 0 then 1 else 3
set_option maxHeartbeats 4000000 in
theorem ct_P_findState_n {l : Launch} (hl0 : l.stackTraces = false) {G : LG} {σ : HS} {p : Nat} {d : Nat} (hk : hR σ 1 p 7 = none) : Ct l G m_P_findState [.ref (1 + 16 * p), .ref (0 + 16 * d)] σ (qd (.inr (some (.int 0))) σ) := by
  refine Ct.of hl0 rfl rfl (Nat.le_of_ble_eq_true rfl) ?_
  show Ex l G m_P_findState (pmV G m_P_findState (qd (.inr (some (.int 0))) σ)) 0 [(0, .ref (1 + 16 * p)), (1, .ref (0 + 16 * d))] [] σ 0 0
  refine e_aload_n d_P_findState_0 rfl rfl ?_
  refine g_P_38N rfl d_P_findState_1 hk ?_
  refine e_ifnonnullN d_P_findState_4 ?_
  refine e_iconst (v := 0) d_P_findState_7 (by decide) ?_
  exact e_iret d_P_findState_8 rfl ⟨rfl, rfl⟩
set_option maxHeartbeats 4000000 in
theorem ct_P_findState_s {l : Launch} (hl0 : l.stackTraces = false) {G : LG} {σ : HS} {p c t b k : Nat} (hk : hR σ 1 p 7 = some (3 + 16 * k)) (hc : hR σ 1 p 2 = some (0 + 16 * c)) (ht : hR σ 1 p 3 = some (0 + 16 * t)) : Ct l G m_P_findState [.ref (1 + 16 * p), .ref (0 + 16 * b)] σ (qd (.inr (some (.int (fstV σ p c t b)))) σ) := by
  refine Ct.of hl0 rfl rfl (Nat.le_of_ble_eq_true rfl) ?_
  show Ex l G m_P_findState (pmV G m_P_findState (qd (.inr (some (.int (fstV σ p c t b)))) σ)) 0 [(0, .ref (1 + 16 * p)), (1, .ref (0 + 16 * b))] [] σ 0 0
  refine e_aload_n d_P_findState_0 rfl rfl ?_
  refine g_P_38 (b := 3 + 16 * k) rfl d_P_findState_1 hk ?_
  refine e_ifnonnull (tgt := 9) d_P_findState_4 (by decide) ?_
  refine e_aload_n d_P_findState_9 rfl rfl ?_
  refine e_aload_n d_P_findState_10 rfl rfl ?_
  refine g_P_21 (b := 0 + 16 * c) rfl d_P_findState_11 hc ?_
  refine e_acmpne (tgt := 19) d_P_findState_14 (by decide) (by omega) (by omega) (fun h14 => ?_) (fun h14 => ?_)
  ·
    refine e_aload_n d_P_findState_19 rfl rfl ?_
    refine g_P_28 rfl d_P_findState_20 ?_
    refine e_ifeq (tgt := 44) d_P_findState_23 (by decide) (fun h23 => ?_) (fun h23 => ?_)
    ·
      refine e_iconst (v := 1) d_P_findState_44 (by decide) ?_
      exact e_iret d_P_findState_45 rfl ⟨by simp [fstV, (show ¬ b = c by omega), h23], rfl⟩
    ·
      refine e_aload_n d_P_findState_26 rfl rfl ?_
      refine g_P_21 (b := 0 + 16 * c) rfl d_P_findState_27 hc ?_
      refine e_aload_n d_P_findState_30 rfl rfl ?_
      refine g_P_25 (b := 0 + 16 * t) rfl d_P_findState_31 ht ?_
      refine e_callVd (v := some (.int (btI (hI σ 0 c) (hI σ 0 t)))) (σ' := σ) (q := 0) (a := c) (As := [.ref (0 + 16 * t)]) (st := []) 0 0 d_P_findState_34 cb_P_findState_74 iv_D_betterThan rfl ⟨by decide, rfl⟩ rfl (Nat.le_of_ble_eq_true rfl) (by decide) (by decide) (ct_D_betterThan hl0) ?_
      show Ex l G m_P_findState (pmV G m_P_findState (qd (.inr (some (.int (fstV σ p c t b)))) σ)) 37 [(0, .ref (1 + 16 * p)), (1, .ref (0 + 16 * b))] [.int (btI (hI σ 0 c) (hI σ 0 t))] (σ) 0 0
      refine e_ifeq (tgt := 44) d_P_findState_37 (by decide) (fun h37 => ?_) (fun h37 => ?_)
      ·
        refine e_iconst (v := 1) d_P_findState_44 (by decide) ?_
        exact e_iret d_P_findState_45 rfl ⟨by simp [fstV, (show ¬ b = c by omega), h23, h37], rfl⟩
      ·
        refine e_iconst (v := 3) d_P_findState_40 (by decide) ?_
        refine e_goto (tgt := 45) d_P_findState_41 (by decide) ?_
        exact e_iret d_P_findState_45 rfl ⟨by simp [fstV, (show ¬ b = c by omega), h23, h37], rfl⟩
  ·
    refine e_iconst (v := 2) d_P_findState_17 (by decide) ?_
    exact e_iret d_P_findState_18 rfl ⟨by simp [fstV, (show b = c by omega)], rfl⟩
set_option maxHeartbeats 4000000 in
theorem ct_P_findSender_n {l : Launch} (hl0 : l.stackTraces = false) {G : LG} {σ : HS} {p : Nat} (hk : hR σ 1 p 7 = none) : Ct l G m_P_findSender [.ref (1 + 16 * p)] σ (qd (.inr (some .null)) σ) := by
  refine Ct.of hl0 rfl rfl (Nat.le_of_ble_eq_true rfl) ?_
  show Ex l G m_P_findSender (pmV G m_P_findSender (qd (.inr (some .null)) σ)) 0 [(0, .ref (1 + 16 * p))] [] σ 0 0
  refine e_aload_n d_P_findSender_0 rfl rfl ?_
  refine g_P_38N rfl d_P_findSender_1 hk ?_
  refine e_ifnullN (tgt := 17) d_P_findSender_4 (by decide) ?_
  refine e_null d_P_findSender_17 ?_
  exact e_aretN d_P_findSender_18 rfl (Or.inl ⟨_, rfl⟩) ⟨rfl, rfl⟩
def fsdV (σ : HS) (p k x y : Nat) : Value := if hI σ 3 k 4 = 0 then .null else if hI σ 1 (if p = x then y else x) 6 = 1 then .ref (1 + 16 * (if p = x then y else x)) else .null
set_option maxHeartbeats 4000000 in
theorem ct_P_findSender_s {l : Launch} (hl0 : l.stackTraces = false) {G : LG} {σ : HS} {p k x y : Nat} (hk : hR σ 1 p 7 = some (3 + 16 * k)) (hf : hR σ 3 k 0 = some (1 + 16 * x)) (hs : hR σ 3 k 1 = some (1 + 16 * y)) : Ct l G m_P_findSender [.ref (1 + 16 * p)] σ (qd (.inr (some (fsdV σ p k x y))) σ) := by
  refine Ct.of hl0 rfl rfl (Nat.le_of_ble_eq_true rfl) ?_
  show Ex l G m_P_findSender (pmV G m_P_findSender (qd (.inr (some (fsdV σ p k x y))) σ)) 0 [(0, .ref (1 + 16 * p))] [] σ 0 0
  refine e_aload_n d_P_findSender_0 rfl rfl ?_
  refine g_P_38 (b := 3 + 16 * k) rfl d_P_findSender_1 hk ?_
  refine e_ifnull d_P_findSender_4 ?_
  refine e_aload_n d_P_findSender_7 rfl rfl ?_
  refine g_P_38 (b := 3 + 16 * k) rfl d_P_findSender_8 hk ?_
  refine g_P_42 rfl d_P_findSender_11 ?_
  refine e_ifne (tgt := 19) d_P_findSender_14 (by decide) (fun h14 => ?_) (fun h14 => ?_)
  ·
    refine e_aload_n d_P_findSender_19 rfl rfl ?_
    refine g_P_38 (b := 3 + 16 * k) rfl d_P_findSender_20 hk ?_
    refine e_aload_n d_P_findSender_23 rfl rfl ?_
    refine e_callVd (v := some (.ref (1 + 16 * (if p = x then y else x)))) (σ' := σ) (q := 3) (a := k) (As := [.ref (1 + 16 * p)]) (st := []) 0 0 d_P_findSender_24 cb_P_findSender_47 iv_K_farFrom rfl ⟨by decide, rfl⟩ rfl (Nat.le_of_ble_eq_true rfl) (by decide) (by decide) ((by rw [show 1 + 16 * (if p = x then y else x) = (if p = x then 1 + 16 * y else 1 + 16 * x) by split <;> rfl]; exact ct_K_farFrom hl0 hf hs)) ?_
    show Ex l G m_P_findSender (pmV G m_P_findSender (qd (.inr (some (fsdV σ p k x y))) σ)) 27 [(0, .ref (1 + 16 * p))] [.ref (1 + 16 * (if p = x then y else x))] (σ) 0 0
    refine e_astore_n d_P_findSender_27 rfl (by decide) rfl ?_
    refine e_aload_n d_P_findSender_28 rfl rfl ?_
    refine g_P_35 rfl d_P_findSender_29 ?_
    refine e_iconst (v := 1) d_P_findSender_32 (by decide) ?_
    refine e_icmpne (tgt := 40) d_P_findSender_33 (by decide) (fun h33 => ?_) (fun h33 => ?_)
    ·
      refine e_null d_P_findSender_40 ?_
      exact e_aretN d_P_findSender_41 rfl (Or.inl ⟨_, rfl⟩) ⟨by simp [fsdV, h14, h33], rfl⟩
    ·
      refine e_aload_n d_P_findSender_36 rfl rfl ?_
      refine e_goto (tgt := 41) d_P_findSender_37 (by decide) ?_
      exact e_aret d_P_findSender_41 rfl (Or.inl ⟨_, rfl⟩) ⟨by simp [fsdV, h14, h33], rfl⟩
  ·
    refine e_null d_P_findSender_17 ?_
    exact e_aretN d_P_findSender_18 rfl (Or.inl ⟨_, rfl⟩) ⟨by simp [fsdV, h14], rfl⟩
def keepR (σ : HS) (p c s : Nat) : Int32 := if hI σ 1 p 4 = 0 then 1 else if tsI (hI σ 0 c) (hI σ 0 s) = 0 then 1 else 0
def keepS (σ : HS) (p c s : Nat) : HS := sI (sI (sD σ c (keepV (hI σ 0 s) (hI σ 1 p 1) (hI σ 0 c))) 1 p 4 1) 1 p 5 0
set_option maxHeartbeats 4000000 in
theorem ct_P_keep {l : Launch} (hl0 : l.stackTraces = false) {G : LG} {σ : HS} {p c s : Nat} (hc : hR σ 1 p 2 = some (0 + 16 * c)) (hcs : ¬ s = c) : Ct l G m_P_keep [.ref (1 + 16 * p), .ref (0 + 16 * s)] σ (qd (.inr (some (.int (keepR σ p c s)))) (keepS σ p c s)) := by
  refine Ct.of hl0 rfl rfl (Nat.le_of_ble_eq_true rfl) ?_
  show Ex l G m_P_keep (pmV G m_P_keep (qd (.inr (some (.int (keepR σ p c s)))) (keepS σ p c s))) 0 [(0, .ref (1 + 16 * p)), (1, .ref (0 + 16 * s))] [] σ 0 0
  refine e_aload_n d_P_keep_0 rfl rfl ?_
  refine g_P_28 rfl d_P_keep_1 ?_
  refine e_ifeq (tgt := 18) d_P_keep_4 (by decide) (fun h4 => ?_) (fun h4 => ?_)
  ·
    refine e_iconst (v := 1) d_P_keep_18 (by decide) ?_
    refine e_goto (tgt := 23) d_P_keep_19 (by decide) ?_
    refine e_istore_n d_P_keep_23 rfl (by decide) rfl ?_
    refine e_aload_n d_P_keep_24 rfl rfl ?_
    refine g_P_21 (b := 0 + 16 * c) rfl d_P_keep_25 hc ?_
    refine e_aload_n d_P_keep_28 rfl rfl ?_
    refine e_callVd (v := none) (σ' := cpRoot (σ) (c) (s)) (q := 0) (a := c) (As := [.ref (0 + 16 * s)]) (st := []) 0 0 d_P_keep_29 cb_P_keep_55 iv_D_setRootOf rfl ⟨by decide, rfl⟩ rfl (Nat.le_of_ble_eq_true rfl) (by decide) (by decide) (ct_D_setRootOf hl0) ?_
    show Ex l G m_P_keep (pmV G m_P_keep (qd (.inr (some (.int (keepR σ p c s)))) (keepS σ p c s))) 32 [(2, .int (1)), (0, .ref (1 + 16 * p)), (1, .ref (0 + 16 * s))] [] (cpRoot (σ) (c) (s)) 0 0
    refine e_aload_n d_P_keep_32 rfl rfl ?_
    refine g_P_21 (b := 0 + 16 * c) rfl d_P_keep_33 hc ?_
    refine e_aload_n d_P_keep_36 rfl rfl ?_
    refine g_P_59 rfl d_P_keep_37 ?_
    refine p_P_59 rfl d_P_keep_40 ?_
    refine e_aload_n d_P_keep_43 rfl rfl ?_
    refine g_P_21 (b := 0 + 16 * c) rfl d_P_keep_44 hc ?_
    refine e_aload_n d_P_keep_47 rfl rfl ?_
    refine g_P_62 rfl d_P_keep_48 ?_
    refine p_P_62 rfl d_P_keep_51 ?_
    refine e_aload_n d_P_keep_54 rfl rfl ?_
    refine g_P_21 (b := 0 + 16 * c) rfl d_P_keep_55 hc ?_
    refine e_aload_n d_P_keep_58 rfl rfl ?_
    refine g_P_65 rfl d_P_keep_59 ?_
    refine p_P_65 rfl d_P_keep_62 ?_
    refine e_aload_n d_P_keep_65 rfl rfl ?_
    refine g_P_21 (b := 0 + 16 * c) rfl d_P_keep_66 hc ?_
    refine e_aload_n d_P_keep_69 rfl rfl ?_
    refine g_P_15 rfl d_P_keep_70 ?_
    refine p_P_68 rfl d_P_keep_73 ?_
    refine e_aload_n d_P_keep_76 rfl rfl ?_
    refine e_iconst (v := 1) d_P_keep_77 (by decide) ?_
    refine p_P_28 (by first | exact Or.inl rfl | exact Or.inr rfl) rfl d_P_keep_78 ?_
    refine e_aload_n d_P_keep_81 rfl rfl ?_
    refine e_iconst (v := 0) d_P_keep_82 (by decide) ?_
    refine p_P_32 rfl d_P_keep_83 ?_
    refine e_iload_n d_P_keep_86 rfl rfl ?_
    refine e_zret d_P_keep_87 rfl (by first | exact Or.inl rfl | exact Or.inr rfl) ⟨by simp [keepR, h4], ?_⟩
    unfold keepS keepV
    rw [← sI_of_8]
    simp [cpRoot, I_sI, hcs]
  ·
    refine e_aload_n d_P_keep_7 rfl rfl ?_
    refine g_P_21 (b := 0 + 16 * c) rfl d_P_keep_8 hc ?_
    refine e_aload_n d_P_keep_11 rfl rfl ?_
    refine e_callVd (v := some (.int (tsI (hI σ 0 c) (hI σ 0 s)))) (σ' := σ) (q := 0) (a := c) (As := [.ref (0 + 16 * s)]) (st := []) 0 0 d_P_keep_12 cb_P_keep_51 iv_D_tellsSameAs rfl ⟨by decide, rfl⟩ rfl (Nat.le_of_ble_eq_true rfl) (by decide) (by decide) (ct_D_tellsSameAs hl0) ?_
    show Ex l G m_P_keep (pmV G m_P_keep (qd (.inr (some (.int (keepR σ p c s)))) (keepS σ p c s))) 15 [(0, .ref (1 + 16 * p)), (1, .ref (0 + 16 * s))] [.int (tsI (hI σ 0 c) (hI σ 0 s))] (σ) 0 0
    refine e_ifne (tgt := 22) d_P_keep_15 (by decide) (fun h15 => ?_) (fun h15 => ?_)
    ·
      refine e_iconst (v := 0) d_P_keep_22 (by decide) ?_
      refine e_istore_n d_P_keep_23 rfl (by decide) rfl ?_
      refine e_aload_n d_P_keep_24 rfl rfl ?_
      refine g_P_21 (b := 0 + 16 * c) rfl d_P_keep_25 hc ?_
      refine e_aload_n d_P_keep_28 rfl rfl ?_
      refine e_callVd (v := none) (σ' := cpRoot (σ) (c) (s)) (q := 0) (a := c) (As := [.ref (0 + 16 * s)]) (st := []) 0 0 d_P_keep_29 cb_P_keep_55 iv_D_setRootOf rfl ⟨by decide, rfl⟩ rfl (Nat.le_of_ble_eq_true rfl) (by decide) (by decide) (ct_D_setRootOf hl0) ?_
      show Ex l G m_P_keep (pmV G m_P_keep (qd (.inr (some (.int (keepR σ p c s)))) (keepS σ p c s))) 32 [(2, .int (0)), (0, .ref (1 + 16 * p)), (1, .ref (0 + 16 * s))] [] (cpRoot (σ) (c) (s)) 0 0
      refine e_aload_n d_P_keep_32 rfl rfl ?_
      refine g_P_21 (b := 0 + 16 * c) rfl d_P_keep_33 hc ?_
      refine e_aload_n d_P_keep_36 rfl rfl ?_
      refine g_P_59 rfl d_P_keep_37 ?_
      refine p_P_59 rfl d_P_keep_40 ?_
      refine e_aload_n d_P_keep_43 rfl rfl ?_
      refine g_P_21 (b := 0 + 16 * c) rfl d_P_keep_44 hc ?_
      refine e_aload_n d_P_keep_47 rfl rfl ?_
      refine g_P_62 rfl d_P_keep_48 ?_
      refine p_P_62 rfl d_P_keep_51 ?_
      refine e_aload_n d_P_keep_54 rfl rfl ?_
      refine g_P_21 (b := 0 + 16 * c) rfl d_P_keep_55 hc ?_
      refine e_aload_n d_P_keep_58 rfl rfl ?_
      refine g_P_65 rfl d_P_keep_59 ?_
      refine p_P_65 rfl d_P_keep_62 ?_
      refine e_aload_n d_P_keep_65 rfl rfl ?_
      refine g_P_21 (b := 0 + 16 * c) rfl d_P_keep_66 hc ?_
      refine e_aload_n d_P_keep_69 rfl rfl ?_
      refine g_P_15 rfl d_P_keep_70 ?_
      refine p_P_68 rfl d_P_keep_73 ?_
      refine e_aload_n d_P_keep_76 rfl rfl ?_
      refine e_iconst (v := 1) d_P_keep_77 (by decide) ?_
      refine p_P_28 (by first | exact Or.inl rfl | exact Or.inr rfl) rfl d_P_keep_78 ?_
      refine e_aload_n d_P_keep_81 rfl rfl ?_
      refine e_iconst (v := 0) d_P_keep_82 (by decide) ?_
      refine p_P_32 rfl d_P_keep_83 ?_
      refine e_iload_n d_P_keep_86 rfl rfl ?_
      refine e_zret d_P_keep_87 rfl (by first | exact Or.inl rfl | exact Or.inr rfl) ⟨by simp [keepR, h4, h15], ?_⟩
      unfold keepS keepV
      rw [← sI_of_8]
      simp [cpRoot, I_sI, hcs]
    ·
      refine e_iconst (v := 1) d_P_keep_18 (by decide) ?_
      refine e_goto (tgt := 23) d_P_keep_19 (by decide) ?_
      refine e_istore_n d_P_keep_23 rfl (by decide) rfl ?_
      refine e_aload_n d_P_keep_24 rfl rfl ?_
      refine g_P_21 (b := 0 + 16 * c) rfl d_P_keep_25 hc ?_
      refine e_aload_n d_P_keep_28 rfl rfl ?_
      refine e_callVd (v := none) (σ' := cpRoot (σ) (c) (s)) (q := 0) (a := c) (As := [.ref (0 + 16 * s)]) (st := []) 0 0 d_P_keep_29 cb_P_keep_55 iv_D_setRootOf rfl ⟨by decide, rfl⟩ rfl (Nat.le_of_ble_eq_true rfl) (by decide) (by decide) (ct_D_setRootOf hl0) ?_
      show Ex l G m_P_keep (pmV G m_P_keep (qd (.inr (some (.int (keepR σ p c s)))) (keepS σ p c s))) 32 [(2, .int (1)), (0, .ref (1 + 16 * p)), (1, .ref (0 + 16 * s))] [] (cpRoot (σ) (c) (s)) 0 0
      refine e_aload_n d_P_keep_32 rfl rfl ?_
      refine g_P_21 (b := 0 + 16 * c) rfl d_P_keep_33 hc ?_
      refine e_aload_n d_P_keep_36 rfl rfl ?_
      refine g_P_59 rfl d_P_keep_37 ?_
      refine p_P_59 rfl d_P_keep_40 ?_
      refine e_aload_n d_P_keep_43 rfl rfl ?_
      refine g_P_21 (b := 0 + 16 * c) rfl d_P_keep_44 hc ?_
      refine e_aload_n d_P_keep_47 rfl rfl ?_
      refine g_P_62 rfl d_P_keep_48 ?_
      refine p_P_62 rfl d_P_keep_51 ?_
      refine e_aload_n d_P_keep_54 rfl rfl ?_
      refine g_P_21 (b := 0 + 16 * c) rfl d_P_keep_55 hc ?_
      refine e_aload_n d_P_keep_58 rfl rfl ?_
      refine g_P_65 rfl d_P_keep_59 ?_
      refine p_P_65 rfl d_P_keep_62 ?_
      refine e_aload_n d_P_keep_65 rfl rfl ?_
      refine g_P_21 (b := 0 + 16 * c) rfl d_P_keep_66 hc ?_
      refine e_aload_n d_P_keep_69 rfl rfl ?_
      refine g_P_15 rfl d_P_keep_70 ?_
      refine p_P_68 rfl d_P_keep_73 ?_
      refine e_aload_n d_P_keep_76 rfl rfl ?_
      refine e_iconst (v := 1) d_P_keep_77 (by decide) ?_
      refine p_P_28 (by first | exact Or.inl rfl | exact Or.inr rfl) rfl d_P_keep_78 ?_
      refine e_aload_n d_P_keep_81 rfl rfl ?_
      refine e_iconst (v := 0) d_P_keep_82 (by decide) ?_
      refine p_P_32 rfl d_P_keep_83 ?_
      refine e_iload_n d_P_keep_86 rfl rfl ?_
      refine e_zret d_P_keep_87 rfl (by first | exact Or.inl rfl | exact Or.inr rfl) ⟨by simp [keepR, h4, h15], ?_⟩
      unfold keepS keepV
      rw [← sI_of_8]
      simp [cpRoot, I_sI, hcs]
end
section
/-- the shape of node i: its references -/
def NS (σ : HS) (i : Nat) : Prop := hR σ 2 i 1 = some (0 + 16 * (9 * i)) ∧ hR σ 2 i 2 = some (12 + 16 * i) ∧ hl σ 12 i = 4 ∧ ∀ j, j < 4 → hR σ 12 i j = some (1 + 16 * (4 * i + j)) ∧ hR σ 1 (4 * i + j) 2 = some (0 + 16 * (9 * i + 1 + 2 * j)) ∧ hR σ 1 (4 * i + j) 3 = some (0 + 16 * (9 * i + 2 + 2 * j))
def accV (σ : HS) (i s : Nat) : Int32 := if 15 ≤ hI σ 0 s 4 then 0 else if hI σ 0 s 3 = hI σ 0 (9 * i) 3 then 0 else 1
set_option maxHeartbeats 4000000 in
theorem ct_N_accepts {l : Launch} (hl0 : l.stackTraces = false) {G : LG} {σ : HS} {i s : Nat} (hN : NS σ i) : Ct l G m_N_accepts [.ref (2 + 16 * i), .ref (0 + 16 * s)] σ (qd (.inr (some (.int (accV σ i s)))) σ) := by
  refine Ct.of hl0 rfl rfl (Nat.le_of_ble_eq_true rfl) ?_
  show Ex l G m_N_accepts (pmV G m_N_accepts (qd (.inr (some (.int (accV σ i s)))) σ)) 0 [(0, .ref (2 + 16 * i)), (1, .ref (0 + 16 * s))] [] σ 0 0
  refine e_aload_n d_N_accepts_0 rfl rfl ?_
  refine g_N_43 rfl d_N_accepts_1 ?_
  refine e_bipush (v := 15) d_N_accepts_4 (by decide) ?_
  refine e_icmpge (tgt := 27) d_N_accepts_6 (by decide) (fun h6 => ?_) (fun h6 => ?_)
  ·
    refine e_iconst (v := 0) d_N_accepts_27 (by decide) ?_
    exact e_zret d_N_accepts_28 rfl (by first | exact Or.inl rfl | exact Or.inr rfl) ⟨(by simp [accV, h6]), rfl⟩
  ·
    refine e_aload_n d_N_accepts_9 rfl rfl ?_
    refine g_N_46 rfl d_N_accepts_10 ?_
    refine e_aload_n d_N_accepts_13 rfl rfl ?_
    refine g_N_27 (b := 0 + 16 * (9 * i)) rfl d_N_accepts_14 hN.1 ?_
    refine g_N_46 rfl d_N_accepts_17 ?_
    refine e_icmpeq (tgt := 27) d_N_accepts_20 (by decide) (fun h20 => ?_) (fun h20 => ?_)
    ·
      refine e_iconst (v := 0) d_N_accepts_27 (by decide) ?_
      exact e_zret d_N_accepts_28 rfl (by first | exact Or.inl rfl | exact Or.inr rfl) ⟨(by simp [accV, h6, h20]), rfl⟩
    ·
      refine e_iconst (v := 1) d_N_accepts_23 (by decide) ?_
      refine e_goto (tgt := 28) d_N_accepts_24 (by decide) ?_
      exact e_zret d_N_accepts_28 rfl (by first | exact Or.inl rfl | exact Or.inr rfl) ⟨(by simp [accV, h6, h20]), rfl⟩
/-- the dataset that findBest has found behind j ports -/
def fbN (σ : HS) (i : Nat) : Nat → Nat
  | 0 => 9 * i
  | j + 1 => if hI σ 1 (4 * i + j) 4 = 0 then fbN σ i j else if btI (hI σ 0 (9 * i + 1 + 2 * j)) (hI σ 0 (fbN σ i j)) = 0 then fbN σ i j else 9 * i + 1 + 2 * j
theorem ofI1 (j : Nat) : nI j + Int32.ofInt 1 = nI (j + 1) := by rw [nI_succ]; rfl
theorem nI4 : (4 : Int32) = nI 4 := by decide +kernel
theorem lp4f {j : Nat} (h : j < 4) : ¬ (4 : Int32) ≤ nI j := by rw [nI4]; exact nI_ge h (by decide)
theorem lp4t : (4 : Int32) ≤ nI 4 := by decide +kernel
set_option maxHeartbeats 4000000 in
theorem lp_N_findBest {l : Launch} (hl0 : l.stackTraces = false) {G : LG} {σ : HS} {i : Nat} (hN : NS σ i) : ∀ m j, j + m = 4 → Ex l G m_N_findBest (pmV G m_N_findBest (qd (.inr (some (.ref (0 + 16 * fbN σ i 4)))) σ)) 7 [(2, .int (nI j)), (1, .ref (0 + 16 * (fbN σ i j))), (0, .ref (2 + 16 * i))] [] (σ) 0 0 := by
  intro m
  induction m with
  | zero =>
    intro j hj
    obtain rfl : j = 4 := by omega
    refine e_iload_n d_N_findBest_7 rfl rfl ?_
    refine e_iconst (v := 4) d_N_findBest_8 (by decide) ?_
    refine e_icmpge (tgt := 56) d_N_findBest_9 (by decide) (fun h9 => ?_) (fun h9 => absurd lp4t h9)
    refine e_aload_n d_N_findBest_56 rfl rfl ?_
    exact e_aret d_N_findBest_57 rfl (Or.inl ⟨_, rfl⟩) ⟨rfl, rfl⟩
  | succ m ih =>
    intro j hj
    have hj4 : j < 4 := by omega
    refine e_iload_n d_N_findBest_7 rfl rfl ?_
    refine e_iconst (v := 4) d_N_findBest_8 (by decide) ?_
    refine e_icmpge (tgt := 56) d_N_findBest_9 (by decide) (fun h9 => absurd h9 (lp4f hj4)) (fun h9 => ?_)
    refine e_aload_n d_N_findBest_12 rfl rfl ?_
    refine g_N_36 (b := 12 + 16 * i) rfl d_N_findBest_13 hN.2.1 ?_
    refine e_iload_n d_N_findBest_16 rfl rfl ?_
    refine e_aald (b := 1 + 16 * (4 * i + j)) (C := _) d_N_findBest_17 ⟨by decide, by decide⟩ rfl (by rw [hN.2.2.1]; exact nI_in hj4 (by decide)) (by rw [nI_clamp (by omega)]; exact (hN.2.2.2 j hj4).1) ?_
    refine g_N_64 rfl d_N_findBest_18 ?_
    refine e_ifeq (tgt := 50) d_N_findBest_21 (by decide) (fun h21 => ?_) (fun h21 => ?_)
    ·
      refine e_iinc (v := nI (j + 1)) (lv' := [(2, .int (nI (j + 1))), (1, .ref (0 + 16 * (fbN σ i j))), (0, .ref (2 + 16 * i))]) d_N_findBest_50 rfl (ofI1 j) (by decide) rfl ?_
      refine e_goto (tgt := 7) d_N_findBest_53 (by decide) ?_
      exact e_lv (lv' := [(2, .int (nI (j + 1))), (1, .ref (0 + 16 * (fbN σ i j))), (0, .ref (2 + 16 * i))]) ⟨rfl, rfl, rfl, trivial⟩ (by have h9 := ih (j + 1) (by omega); rw [show fbN σ i (j + 1) = (fbN σ i j) by simp [fbN, h21]] at h9; exact h9)
    ·
      refine e_aload_n d_N_findBest_24 rfl rfl ?_
      refine g_N_36 (b := 12 + 16 * i) rfl d_N_findBest_25 hN.2.1 ?_
      refine e_iload_n d_N_findBest_28 rfl rfl ?_
      refine e_aald (b := 1 + 16 * (4 * i + j)) (C := _) d_N_findBest_29 ⟨by decide, by decide⟩ rfl (by rw [hN.2.2.1]; exact nI_in hj4 (by decide)) (by rw [nI_clamp (by omega)]; exact (hN.2.2.2 j hj4).1) ?_
      refine g_N_68 (b := 0 + 16 * (9 * i + 1 + 2 * j)) rfl d_N_findBest_30 (hN.2.2.2 j hj4).2.1 ?_
      refine e_aload_n d_N_findBest_33 rfl rfl ?_
      refine e_callVd (v := some (.int (btI (hI σ 0 (9 * i + 1 + 2 * j)) (hI σ 0 (fbN σ i j))))) (σ' := σ) (q := 0) (a := 9 * i + 1 + 2 * j) (As := [.ref (0 + 16 * (fbN σ i j))]) (st := []) 0 0 d_N_findBest_34 cb_N_findBest_71 iv_D_betterThan rfl ⟨by decide, rfl⟩ rfl (Nat.le_of_ble_eq_true rfl) (by decide) (by decide) (ct_D_betterThan hl0) ?_
      show Ex l G m_N_findBest (pmV G m_N_findBest (qd (.inr (some (.ref (0 + 16 * fbN σ i 4)))) σ)) 37 [(2, .int (nI j)), (1, .ref (0 + 16 * (fbN σ i j))), (0, .ref (2 + 16 * i))] [.int (btI (hI σ 0 (9 * i + 1 + 2 * j)) (hI σ 0 (fbN σ i j)))] (σ) 0 0
      refine e_ifeq (tgt := 50) d_N_findBest_37 (by decide) (fun h37 => ?_) (fun h37 => ?_)
      ·
        refine e_iinc (v := nI (j + 1)) (lv' := [(2, .int (nI (j + 1))), (1, .ref (0 + 16 * (fbN σ i j))), (0, .ref (2 + 16 * i))]) d_N_findBest_50 rfl (ofI1 j) (by decide) rfl ?_
        refine e_goto (tgt := 7) d_N_findBest_53 (by decide) ?_
        exact e_lv (lv' := [(2, .int (nI (j + 1))), (1, .ref (0 + 16 * (fbN σ i j))), (0, .ref (2 + 16 * i))]) ⟨rfl, rfl, rfl, trivial⟩ (by have h9 := ih (j + 1) (by omega); rw [show fbN σ i (j + 1) = (fbN σ i j) by simp [fbN, h21, h37]] at h9; exact h9)
      ·
        refine e_aload_n d_N_findBest_40 rfl rfl ?_
        refine g_N_36 (b := 12 + 16 * i) rfl d_N_findBest_41 hN.2.1 ?_
        refine e_iload_n d_N_findBest_44 rfl rfl ?_
        refine e_aald (b := 1 + 16 * (4 * i + j)) (C := _) d_N_findBest_45 ⟨by decide, by decide⟩ rfl (by rw [hN.2.2.1]; exact nI_in hj4 (by decide)) (by rw [nI_clamp (by omega)]; exact (hN.2.2.2 j hj4).1) ?_
        refine g_N_68 (b := 0 + 16 * (9 * i + 1 + 2 * j)) rfl d_N_findBest_46 (hN.2.2.2 j hj4).2.1 ?_
        refine e_astore_n (lv' := [(1, .ref (0 + 16 * (9 * i + 1 + 2 * j))), (2, .int (nI j)), (0, .ref (2 + 16 * i))]) d_N_findBest_49 rfl (by decide) rfl ?_
        refine e_iinc (v := nI (j + 1)) (lv' := [(2, .int (nI (j + 1))), (1, .ref (0 + 16 * (9 * i + 1 + 2 * j))), (0, .ref (2 + 16 * i))]) d_N_findBest_50 rfl (ofI1 j) (by decide) rfl ?_
        refine e_goto (tgt := 7) d_N_findBest_53 (by decide) ?_
        exact e_lv (lv' := [(2, .int (nI (j + 1))), (1, .ref (0 + 16 * (9 * i + 1 + 2 * j))), (0, .ref (2 + 16 * i))]) ⟨rfl, rfl, rfl, trivial⟩ (by have h9 := ih (j + 1) (by omega); rw [show fbN σ i (j + 1) = (9 * i + 1 + 2 * j) by simp [fbN, h21, h37]] at h9; exact h9)
set_option maxHeartbeats 4000000 in
theorem ct_N_findBest {l : Launch} (hl0 : l.stackTraces = false) {G : LG} {σ : HS} {i : Nat} (hN : NS σ i) : Ct l G m_N_findBest [.ref (2 + 16 * i)] σ (qd (.inr (some (.ref (0 + 16 * fbN σ i 4)))) σ) := by
  refine Ct.of hl0 rfl rfl (Nat.le_of_ble_eq_true rfl) ?_
  show Ex l G m_N_findBest (pmV G m_N_findBest (qd (.inr (some (.ref (0 + 16 * fbN σ i 4)))) σ)) 0 [(0, .ref (2 + 16 * i))] [] σ 0 0
  refine e_aload_n d_N_findBest_0 rfl rfl ?_
  refine g_N_27 (b := 0 + 16 * (9 * i)) rfl d_N_findBest_1 hN.1 ?_
  refine e_astore_n (lv' := [(1, .ref (0 + 16 * (9 * i))), (0, .ref (2 + 16 * i))]) d_N_findBest_4 rfl (by decide) rfl ?_
  refine e_iconst (v := 0) d_N_findBest_5 (by decide) ?_
  refine e_istore_n (lv' := [(2, .int (0)), (1, .ref (0 + 16 * (9 * i))), (0, .ref (2 + 16 * i))]) d_N_findBest_6 rfl (by decide) rfl ?_
  exact e_lv (lv' := [(2, .int (nI 0)), (1, .ref (0 + 16 * (fbN σ i 0))), (0, .ref (2 + 16 * i))]) ⟨rfl, rfl, rfl, trivial⟩ (lp_N_findBest hl0 hN 4 0 rfl)
end
section
/-- findState, link or none -/
theorem ct_P_findState {l : Launch} (hl0 : l.stackTraces = false) {G : LG} {σ : HS} {p c t b : Nat} (hk : hR σ 1 p 7 = none ∨ ∃ k, hR σ 1 p 7 = some (3 + 16 * k)) (hc : hR σ 1 p 2 = some (0 + 16 * c)) (ht : hR σ 1 p 3 = some (0 + 16 * t)) : Ct l G m_P_findState [.ref (1 + 16 * p), .ref (0 + 16 * b)] σ (qd (.inr (some (.int (if hR σ 1 p 7 = none then 0 else fstV σ p c t b)))) σ) := by
  rcases hk with hk | ⟨k, hk⟩
  · rw [if_pos hk]; exact ct_P_findState_n hl0 hk
  · rw [if_neg (by rw [hk]; simp)]; exact ct_P_findState_s hl0 hk hc ht
theorem fbN_or {σ : HS} {i : Nat} : ∀ n, fbN σ i n = 9 * i ∨ ∃ j, j < n ∧ fbN σ i n = 9 * i + 1 + 2 * j
  | 0 => Or.inl rfl
  | n + 1 => by
    have h := fbN_or (σ := σ) (i := i) n
    have h2 : fbN σ i n = 9 * i ∨ ∃ j, j < n + 1 ∧ fbN σ i n = 9 * i + 1 + 2 * j := h.imp id (fun ⟨j, h1, h2⟩ => ⟨j, by omega, h2⟩)
    unfold fbN
    split
    · exact h2
    · split
      · exact h2
      · exact Or.inr ⟨n, by omega, rfl⟩
/-- what port j of node i is told, and the state that is found for it -/
def tvJ (σ : HS) (i j : Nat) : DV := toldV (hI σ 0 (fbN σ i 4)) (decide (fbN σ i 4 = 9 * i)) (hI σ 0 (9 * i) 3) (hI σ 1 (4 * i + j) 1) (hI σ 0 (9 * i + 2 + 2 * j))
def svJ (σ : HS) (i j : Nat) : Int32 := if hR σ 1 (4 * i + j) 7 = none then 0 else if fbN σ i 4 = 9 * i + 1 + 2 * j then 2 else if hI σ 1 (4 * i + j) 4 = 0 then 1 else if btI (hI σ 0 (9 * i + 1 + 2 * j)) (tvJ σ i j) = 0 then 1 else 3
def fsS (σ : HS) (i : Nat) : Nat → HS
  | 0 => sR σ 2 i 3 (some (0 + 16 * fbN σ i 4))
  | j + 1 => sI (sD (fsS σ i j) (9 * i + 2 + 2 * j) (tvJ σ i j)) 1 (4 * i + j) 6 (svJ σ i j)
def fsC (σ : HS) (i : Nat) : Nat → Int32
  | 0 => 0
  | j + 1 => if svJ σ i j = hI σ 1 (4 * i + j) 6 then fsC σ i j else 1
theorem fsC_01 {σ : HS} {i : Nat} : ∀ j, fsC σ i j = 0 ∨ fsC σ i j = 1
  | 0 => Or.inl rfl
  | j + 1 => by
    unfold fsC
    split
    · exact fsC_01 j
    · exact Or.inr rfl
theorem fsS_I0 {σ : HS} {i d k : Nat} : ∀ j, (∀ j', j' < j → d ≠ 9 * i + 2 + 2 * j') → hI (fsS σ i j) 0 d k = hI σ 0 d k
  | 0, _ => rfl
  | j + 1, h => by
    show hI (sI (sD (fsS σ i j) _ _) 1 _ 6 _) 0 d k = _
    rw [I_sI, if_neg (fun z => absurd z.1 (by decide)), I_sD, if_neg (fun z => h j (by omega) z.2), fsS_I0 j (fun j' hj => h j' (by omega))]
theorem fsS_I1 {σ : HS} {i p k : Nat} : ∀ j, (k = 6 → ∀ j', j' < j → p ≠ 4 * i + j') → hI (fsS σ i j) 1 p k = hI σ 1 p k
  | 0, _ => rfl
  | j + 1, h => by
    show hI (sI (sD (fsS σ i j) _ _) 1 _ 6 _) 1 p k = _
    rw [I_sI, if_neg (fun z => h z.2.2 j (by omega) z.2.1), I_sD, if_neg (fun z => absurd z.1 (by decide)), fsS_I1 j (fun hk j' hj => h hk j' (by omega))]
theorem fsS_R {σ : HS} {i : Nat} : ∀ j, hR (fsS σ i j) = hR (sR σ 2 i 3 (some (0 + 16 * fbN σ i 4)))
  | 0 => rfl
  | j + 1 => fsS_R j
theorem fsS_l {σ : HS} {i : Nat} : ∀ j, hl (fsS σ i j) = hl σ
  | 0 => rfl
  | j + 1 => fsS_l j
theorem fsS_n {σ : HS} {i : Nat} : ∀ j, hn (fsS σ i j) = hn σ
  | 0 => rfl
  | j + 1 => fsS_n j
theorem fsS_J {σ : HS} {i : Nat} : ∀ j, hJ (fsS σ i j) = hJ σ
  | 0 => rfl
  | j + 1 => fsS_J j
theorem fsS_Rn {σ : HS} {i q a k : Nat} (j : Nat) (h : ¬ (q = 2 ∧ a = i ∧ k = 3)) : hR (fsS σ i j) q a k = hR σ q a k := by
  rw [fsS_R, R_sR, if_neg h]
theorem fsS_NS {σ : HS} {i : Nat} (hN : NS σ i) (j : Nat) : NS (fsS σ i j) i := by
  refine ⟨?_, ?_, ?_, fun x hx => ⟨?_, ?_, ?_⟩⟩
  · rw [fsS_Rn j (by omega)]; exact hN.1
  · rw [fsS_Rn j (by omega)]; exact hN.2.1
  · rw [fsS_l]; exact hN.2.2.1
  · rw [fsS_Rn j (by omega)]; exact (hN.2.2.2 x hx).1
  · rw [fsS_Rn j (by omega)]; exact (hN.2.2.2 x hx).2.1
  · rw [fsS_Rn j (by omega)]; exact (hN.2.2.2 x hx).2.2
set_option maxHeartbeats 4000000 in
theorem lp_N_findStates {l : Launch} (hl0 : l.stackTraces = false) {G : LG} {σ : HS} {i : Nat} (hN : NS σ i) (hK : ∀ j, j < 4 → hR σ 1 (4 * i + j) 7 = none ∨ ∃ k, hR σ 1 (4 * i + j) 7 = some (3 + 16 * k)) : ∀ m j, j + m = 4 → Ex l G m_N_findStates (pmV G m_N_findStates (qd (.inr (some (.int (fsC σ i 4)))) (fsS σ i 4))) 12 [(2, .int (nI j)), (1, .int (fsC σ i j)), (0, .ref (2 + 16 * i))] [] (fsS σ i j) 0 0 := by
  intro m
  induction m with
  | zero =>
    intro j hj
    obtain rfl : j = 4 := by omega
    refine e_iload_n d_N_findStates_12 rfl rfl ?_
    refine e_iconst (v := 4) d_N_findStates_13 (by decide) ?_
    refine e_icmpge (tgt := 69) d_N_findStates_14 (by decide) (fun h14 => ?_) (fun h14 => absurd lp4t h14)
    refine e_iload_n d_N_findStates_69 rfl rfl ?_
    exact e_zret d_N_findStates_70 rfl (fsC_01 4) ⟨rfl, rfl⟩
  | succ m ih =>
    intro j hj
    have hj4 : j < 4 := by omega
    have hT := fsS_NS hN j
    have hfb := fbN_or (σ := σ) (i := i) 4
    have hbest : hR (fsS σ i j) 2 i 3 = some (0 + 16 * fbN σ i 4) := by rw [fsS_R, R_sR, if_pos ⟨rfl, rfl, rfl⟩]
    have hb1 : ∀ x, x < 4 → fbN σ i 4 ≠ 9 * i + 2 + 2 * x := fun x hx => by
      rcases hfb with h | ⟨y, hy, h⟩ <;> omega
    have etv : toldV (hI (fsS σ i j) 0 (fbN σ i 4)) (decide (fbN σ i 4 = 9 * i)) (hI (fsS σ i j) 0 (9 * i) 3) (hI (fsS σ i j) 1 (4 * i + j) 1) (hI (fsS σ i j) 0 (9 * i + 2 + 2 * j)) = tvJ σ i j := by
      unfold tvJ
      rw [show hI (fsS σ i j) 0 (fbN σ i 4) = hI σ 0 (fbN σ i 4) from funext fun k => fsS_I0 j (fun x hx => hb1 x (by omega)), fsS_I0 j (fun x hx => by omega), fsS_I1 j (fun hk => by omega), show hI (fsS σ i j) 0 (9 * i + 2 + 2 * j) = hI σ 0 (9 * i + 2 + 2 * j) from funext fun k => fsS_I0 j (fun x hx => by omega)]
    have hct1 : Ct l G m_P_tell [.ref (1 + 16 * (4 * i + j)), .ref (0 + 16 * (fbN σ i 4)), .ref (0 + 16 * (9 * i))] (fsS σ i j) (qd (.inr none) (sD (fsS σ i j) (9 * i + 2 + 2 * j) (tvJ σ i j))) := by
      have h := ct_P_tell (l := l) (G := G) hl0 (b := fbN σ i 4) (w := 9 * i) (hT.2.2.2 j hj4).2.2 (hb1 j hj4) (by omega)
      rw [etv] at h
      exact h
    have e1 : ∀ k, k ≠ 6 → hI (sD (fsS σ i j) (9 * i + 2 + 2 * j) (tvJ σ i j)) 1 (4 * i + j) k = hI σ 1 (4 * i + j) k := fun k hk => by
      rw [I_sD, if_neg (fun z => absurd z.1 (by decide)), fsS_I1 j (fun h => absurd h hk)]
    have e6 : hI (sD (fsS σ i j) (9 * i + 2 + 2 * j) (tvJ σ i j)) 1 (4 * i + j) 6 = hI σ 1 (4 * i + j) 6 := by
      rw [I_sD, if_neg (fun z => absurd z.1 (by decide)), fsS_I1 j (fun _ x hx => by omega)]
    have hct2 : Ct l G m_P_findState [.ref (1 + 16 * (4 * i + j)), .ref (0 + 16 * (fbN σ i 4))] (sD (fsS σ i j) (9 * i + 2 + 2 * j) (tvJ σ i j)) (qd (.inr (some (.int (svJ σ i j)))) (sD (fsS σ i j) (9 * i + 2 + 2 * j) (tvJ σ i j))) := by
      have h := ct_P_findState (l := l) (G := G) hl0 (σ := sD (fsS σ i j) (9 * i + 2 + 2 * j) (tvJ σ i j)) (p := 4 * i + j) (c := 9 * i + 1 + 2 * j) (t := 9 * i + 2 + 2 * j) (b := fbN σ i 4) (by rw [R_sD, fsS_Rn j (by omega)]; exact hK j hj4) (hT.2.2.2 j hj4).2.1 (hT.2.2.2 j hj4).2.2
      have ev : (if hR (sD (fsS σ i j) (9 * i + 2 + 2 * j) (tvJ σ i j)) 1 (4 * i + j) 7 = none then (0 : Int32) else fstV (sD (fsS σ i j) (9 * i + 2 + 2 * j) (tvJ σ i j)) (4 * i + j) (9 * i + 1 + 2 * j) (9 * i + 2 + 2 * j) (fbN σ i 4)) = svJ σ i j := by
        unfold svJ fstV
        rw [R_sD, fsS_Rn j (by omega), e1 4 (by decide), show hI (sD (fsS σ i j) (9 * i + 2 + 2 * j) (tvJ σ i j)) 0 (9 * i + 1 + 2 * j) = hI σ 0 (9 * i + 1 + 2 * j) from funext fun k => by rw [I_sD, if_neg (by omega), fsS_I0 j (fun x hx => by omega)], show hI (sD (fsS σ i j) (9 * i + 2 + 2 * j) (tvJ σ i j)) 0 (9 * i + 2 + 2 * j) = tvJ σ i j from funext fun k => by rw [I_sD, if_pos ⟨rfl, rfl⟩]]
      rw [ev] at h
      exact h
    refine e_iload_n d_N_findStates_12 rfl rfl ?_
    refine e_iconst (v := 4) d_N_findStates_13 (by decide) ?_
    refine e_icmpge (tgt := 69) d_N_findStates_14 (by decide) (fun h14 => absurd h14 (lp4f hj4)) (fun h14 => ?_)
    refine e_aload_n d_N_findStates_17 rfl rfl ?_
    refine g_N_36 (b := 12 + 16 * i) rfl d_N_findStates_18 hT.2.1 ?_
    refine e_iload_n d_N_findStates_21 rfl rfl ?_
    refine e_aald (b := 1 + 16 * (4 * i + j)) (C := _) d_N_findStates_22 ⟨by decide, by decide⟩ rfl (by rw [hT.2.2.1]; exact nI_in hj4 (by decide)) (by rw [nI_clamp (by omega)]; exact (hT.2.2.2 j hj4).1) ?_
    refine e_astore_n (lv' := [(3, .ref (1 + 16 * (4 * i + j))), (2, .int (nI j)), (1, .int (fsC σ i j)), (0, .ref (2 + 16 * i))]) d_N_findStates_23 rfl (by decide) rfl ?_
    refine e_aload_n d_N_findStates_24 rfl rfl ?_
    refine e_aload_n d_N_findStates_25 rfl rfl ?_
    refine g_N_31 (b := 0 + 16 * (fbN σ i 4)) rfl d_N_findStates_26 hbest ?_
    refine e_aload_n d_N_findStates_29 rfl rfl ?_
    refine g_N_27 (b := 0 + 16 * (9 * i)) rfl d_N_findStates_30 hT.1 ?_
    refine e_callVd (v := none) (σ' := sD (fsS σ i j) (9 * i + 2 + 2 * j) (tvJ σ i j)) (q := 1) (a := 4 * i + j) (As := [.ref (0 + 16 * (fbN σ i 4)), .ref (0 + 16 * (9 * i))]) (st := []) 0 0 d_N_findStates_33 cb_N_findStates_53 iv_P_tell rfl ⟨by decide, rfl⟩ rfl (Nat.le_of_ble_eq_true rfl) (by decide) (by decide) (hct1) ?_
    show Ex l G m_N_findStates (pmV G m_N_findStates (qd (.inr (some (.int (fsC σ i 4)))) (fsS σ i 4))) 36 [(3, .ref (1 + 16 * (4 * i + j))), (2, .int (nI j)), (1, .int (fsC σ i j)), (0, .ref (2 + 16 * i))] [] (sD (fsS σ i j) (9 * i + 2 + 2 * j) (tvJ σ i j)) 0 0
    refine e_aload_n d_N_findStates_36 rfl rfl ?_
    refine e_aload_n d_N_findStates_37 rfl rfl ?_
    refine g_N_31 (b := 0 + 16 * (fbN σ i 4)) rfl d_N_findStates_38 hbest ?_
    refine e_callVd (v := some (.int (svJ σ i j))) (σ' := sD (fsS σ i j) (9 * i + 2 + 2 * j) (tvJ σ i j)) (q := 1) (a := 4 * i + j) (As := [.ref (0 + 16 * (fbN σ i 4))]) (st := []) 0 0 d_N_findStates_41 cb_N_findStates_57 iv_P_findState rfl ⟨by decide, rfl⟩ rfl (Nat.le_of_ble_eq_true rfl) (by decide) (by decide) (hct2) ?_
    show Ex l G m_N_findStates (pmV G m_N_findStates (qd (.inr (some (.int (fsC σ i 4)))) (fsS σ i 4))) 44 [(3, .ref (1 + 16 * (4 * i + j))), (2, .int (nI j)), (1, .int (fsC σ i j)), (0, .ref (2 + 16 * i))] [.int (svJ σ i j)] (sD (fsS σ i j) (9 * i + 2 + 2 * j) (tvJ σ i j)) 0 0
    refine e_istore (lv' := [(4, .int (svJ σ i j)), (3, .ref (1 + 16 * (4 * i + j))), (2, .int (nI j)), (1, .int (fsC σ i j)), (0, .ref (2 + 16 * i))]) d_N_findStates_44 (by decide) rfl ?_
    refine e_iload d_N_findStates_46 rfl ?_
    refine e_aload_n d_N_findStates_48 rfl rfl ?_
    refine g_N_61 rfl d_N_findStates_49 ?_
    rw [e6]
    refine e_icmpeq (tgt := 57) d_N_findStates_52 (by decide) (fun h52 => ?_) (fun h52 => ?_)
    ·
      refine e_aload_n d_N_findStates_57 rfl rfl ?_
      refine e_iload d_N_findStates_58 rfl ?_
      refine p_N_61 rfl d_N_findStates_60 ?_
      refine e_iinc (v := nI (j + 1)) (lv' := [(2, .int (nI (j + 1))), (4, .int (svJ σ i j)), (3, .ref (1 + 16 * (4 * i + j))), (1, .int (fsC σ i j)), (0, .ref (2 + 16 * i))]) d_N_findStates_63 rfl (ofI1 j) (by decide) rfl ?_
      refine e_goto (tgt := 12) d_N_findStates_66 (by decide) ?_
      exact e_lv (lv' := [(2, .int (nI (j + 1))), (1, .int (fsC σ i j)), (0, .ref (2 + 16 * i))]) ⟨rfl, rfl, rfl, trivial⟩ (by have h9 := ih (j + 1) (by omega); rw [show fsC σ i (j + 1) = fsC σ i j by simp [fsC, h52]] at h9; exact h9)
    ·
      refine e_iconst (v := 1) d_N_findStates_55 (by decide) ?_
      refine e_istore_n (lv' := [(1, .int (1)), (4, .int (svJ σ i j)), (3, .ref (1 + 16 * (4 * i + j))), (2, .int (nI j)), (0, .ref (2 + 16 * i))]) d_N_findStates_56 rfl (by decide) rfl ?_
      refine e_aload_n d_N_findStates_57 rfl rfl ?_
      refine e_iload d_N_findStates_58 rfl ?_
      refine p_N_61 rfl d_N_findStates_60 ?_
      refine e_iinc (v := nI (j + 1)) (lv' := [(2, .int (nI (j + 1))), (1, .int (1)), (4, .int (svJ σ i j)), (3, .ref (1 + 16 * (4 * i + j))), (0, .ref (2 + 16 * i))]) d_N_findStates_63 rfl (ofI1 j) (by decide) rfl ?_
      refine e_goto (tgt := 12) d_N_findStates_66 (by decide) ?_
      exact e_lv (lv' := [(2, .int (nI (j + 1))), (1, .int (1)), (0, .ref (2 + 16 * i))]) ⟨rfl, rfl, rfl, trivial⟩ (by have h9 := ih (j + 1) (by omega); rw [show fsC σ i (j + 1) = 1 by simp [fsC, h52]] at h9; exact h9)
set_option maxHeartbeats 4000000 in
theorem ct_N_findStates {l : Launch} (hl0 : l.stackTraces = false) {G : LG} {σ : HS} {i : Nat} (hN : NS σ i) (hK : ∀ j, j < 4 → hR σ 1 (4 * i + j) 7 = none ∨ ∃ k, hR σ 1 (4 * i + j) 7 = some (3 + 16 * k)) : Ct l G m_N_findStates [.ref (2 + 16 * i)] σ (qd (.inr (some (.int (fsC σ i 4)))) (fsS σ i 4)) := by
  refine Ct.of hl0 rfl rfl (Nat.le_of_ble_eq_true rfl) ?_
  show Ex l G m_N_findStates (pmV G m_N_findStates (qd (.inr (some (.int (fsC σ i 4)))) (fsS σ i 4))) 0 [(0, .ref (2 + 16 * i))] [] σ 0 0
  refine e_aload_n d_N_findStates_0 rfl rfl ?_
  refine e_aload_n d_N_findStates_1 rfl rfl ?_
  refine e_callVd (v := some (.ref (0 + 16 * (fbN σ i 4)))) (σ' := σ) (q := 2) (a := i) (As := []) (st := [.ref (2 + 16 * i)]) 0 0 d_N_findStates_2 cb_N_findStates_49 iv_N_findBest rfl ⟨by decide, rfl⟩ rfl (Nat.le_of_ble_eq_true rfl) (by decide) (by decide) (ct_N_findBest hl0 hN) ?_
  show Ex l G m_N_findStates (pmV G m_N_findStates (qd (.inr (some (.int (fsC σ i 4)))) (fsS σ i 4))) 5 [(0, .ref (2 + 16 * i))] [.ref (0 + 16 * (fbN σ i 4)), .ref (2 + 16 * i)] (σ) 0 0
  refine p_N_31 (by omega) rfl d_N_findStates_5 ?_
  refine e_iconst (v := 0) d_N_findStates_8 (by decide) ?_
  refine e_istore_n (lv' := [(1, .int (0)), (0, .ref (2 + 16 * i))]) d_N_findStates_9 rfl (by decide) rfl ?_
  refine e_iconst (v := 0) d_N_findStates_10 (by decide) ?_
  refine e_istore_n (lv' := [(2, .int (0)), (1, .int (0)), (0, .ref (2 + 16 * i))]) d_N_findStates_11 rfl (by decide) rfl ?_
  exact e_lv (lv' := [(2, .int (nI 0)), (1, .int (fsC σ i 0)), (0, .ref (2 + 16 * i))]) ⟨rfl, rfl, rfl, trivial⟩ (lp_N_findStates hl0 hN hK 4 0 rfl)
end
section
/-- the reckoner's numbers -/
def rk (σ : HS) (r : Nat) (ov : Int32) (js : Nat → Int64) : HS := (σ.1, σ.2.1, fun q a k => if q = 4 ∧ a = r ∧ k = 0 then ov else σ.2.2.1 q a k, fun q a k => if q = 4 ∧ a = r then js k else σ.2.2.2.1 q a k, σ.2.2.2.2)
def upj (js : Nat → Int64) (k : Nat) (v : Int64) : Nat → Int64 := fun j => if j = k then v else js j
noncomputable def ovf (x : Int32) (p : Prop) : Int32 := @ite _ p (Classical.propDecidable p) x 1
theorem ovf_01 {x : Int32} {p : Prop} (h : x = 0 ∨ x = 1) : ovf x p = 0 ∨ ovf x p = 1 := by
  unfold ovf
  split
  · exact h
  · exact Or.inr rfl
theorem rk_self {σ : HS} {r : Nat} : rk σ r (hI σ 4 r 0) (hJ σ 4 r) = σ := by
  refine hs_ext rfl rfl (fun q a k => ?_) (fun q a k => ?_) (fun _ _ _ => rfl)
  · show (if q = 4 ∧ a = r ∧ k = 0 then hI σ 4 r 0 else hI σ q a k) = hI σ q a k
    split
    · rename_i h; rw [h.1, h.2.1, h.2.2]
    · rfl
  · show (if q = 4 ∧ a = r then hJ σ 4 r k else hJ σ q a k) = hJ σ q a k
    split
    · rename_i h; rw [h.1, h.2]
    · rfl
theorem rk_I {σ : HS} {r : Nat} {ov v : Int32} {js : Nat → Int64} : sI (rk σ r ov js) 4 r 0 v = rk σ r v js := by
  refine hs_ext rfl rfl (fun q a k => ?_) (fun _ _ _ => rfl) (fun _ _ _ => rfl)
  rw [I_sI]
  show (if _ then v else if q = 4 ∧ a = r ∧ k = 0 then ov else hI σ q a k) = (if q = 4 ∧ a = r ∧ k = 0 then v else hI σ q a k)
  split <;> rfl
theorem rk_J {σ : HS} {r k : Nat} {ov : Int32} {v : Int64} {js : Nat → Int64} : sJ (rk σ r ov js) 4 r k v = rk σ r ov (upj js k v) := by
  refine hs_ext rfl rfl (fun _ _ _ => rfl) (fun q a j => ?_) (fun _ _ _ => rfl)
  rw [J_sJ]
  show (if q = 4 ∧ a = r ∧ j = k then v else if q = 4 ∧ a = r then js j else hJ σ q a j) = (if q = 4 ∧ a = r then (if j = k then v else js j) else hJ σ q a j)
  by_cases h : q = 4 ∧ a = r
  · by_cases h2 : j = k
    · simp [h, h2]
    · simp [h, h2]
  · have h' : ¬ (q = 4 ∧ a = r ∧ j = k) := fun z => h ⟨z.1, z.2.1⟩
    simp [h, h']
theorem rk_ov {σ : HS} {r : Nat} {ov : Int32} {p : Prop} {js : Nat → Int64} : ovS (rk σ r ov js) r p = rk σ r (ovf ov p) js := by
  unfold ovS ovf
  by_cases h : p
  · rw [if_pos h, if_pos h]
  · rw [if_neg h, if_neg h, rk_I]
theorem J_rk {σ : HS} {r k : Nat} {ov : Int32} {js : Nat → Int64} : hJ (rk σ r ov js) 4 r k = js k := by
  show (if 4 = 4 ∧ r = r then js k else hJ σ 4 r k) = js k
  rw [if_pos ⟨rfl, rfl⟩]
theorem I_rk {σ : HS} {r : Nat} {ov : Int32} {js : Nat → Int64} : hI (rk σ r ov js) 4 r 0 = ov := by
  show (if 4 = 4 ∧ r = r ∧ 0 = 0 then ov else hI σ 4 r 0) = ov
  rw [if_pos ⟨rfl, rfl, rfl⟩]
theorem ct_plus_rk {l : Launch} (hl0 : l.stackTraces = false) {G : LG} {σ : HS} {r : Nat} {ov : Int32} {js : Nat → Int64} {a b : Int64} : Ct l G m_R_plus [.ref (4 + 16 * r), .long a, .long b] (rk σ r ov js) (qd (.inr (some (.long (a + b)))) (rk σ r (ovf ov (okS a b)) js)) := by
  have h := ct_R_plus (l := l) (G := G) hl0 (σ := rk σ r ov js) (r := r) (a := a) (b := b)
  rw [rk_ov] at h
  exact h
theorem ct_minus_rk {l : Launch} (hl0 : l.stackTraces = false) {G : LG} {σ : HS} {r : Nat} {ov : Int32} {js : Nat → Int64} {a b : Int64} : Ct l G m_R_minus [.ref (4 + 16 * r), .long a, .long b] (rk σ r ov js) (qd (.inr (some (.long (a - b)))) (rk σ r (ovf ov (okM a b)) js)) := by
  have h := ct_R_minus (l := l) (G := G) hl0 (σ := rk σ r ov js) (r := r) (a := a) (b := b)
  rw [rk_ov] at h
  exact h
noncomputable def R_noteTimes_O (ov : Int32) (js : Nat → Int64) (t : Int64) (a b : Int32) : Int32 := ovf (ovf (ovf (0) (okS (t) ((a).toInt64))) (okS ((t) + ((a).toInt64)) (1000))) (okS (((t) + ((a).toInt64)) + (1000)) ((b).toInt64))
def R_noteTimes_J (ov : Int32) (js : Nat → Int64) (t : Int64) (a b : Int32) : Nat → Int64 := upj (upj (upj (upj (js) 4 (t)) 5 ((t) + ((a).toInt64))) 6 (((t) + ((a).toInt64)) + (1000))) 7 ((((t) + ((a).toInt64)) + (1000)) + ((b).toInt64))
set_option maxHeartbeats 4000000 in
theorem ct_R_noteTimes {l : Launch} (hl0 : l.stackTraces = false) {G : LG} {σ : HS} {r : Nat} {ov : Int32} {js : Nat → Int64} {t : Int64} {a b : Int32}  : Ct l G m_R_noteTimes [.ref (4 + 16 * r), .long (t), .int (a), .int (b)] (rk σ r ov js) (qd (.inr none) (rk σ r (R_noteTimes_O ov js t a b) (R_noteTimes_J ov js t a b))) := by
  refine Ct.of hl0 rfl rfl (Nat.le_of_ble_eq_true rfl) ?_
  show Ex l G m_R_noteTimes (pmV G m_R_noteTimes (qd (.inr none) (rk σ r (R_noteTimes_O ov js t a b) (R_noteTimes_J ov js t a b)))) 0 [(0, .ref (4 + 16 * r)), (1, .long (t)), (3, .int (a)), (4, .int (b))] [] (rk σ r ov js) 0 0
  refine e_aload_n d_R_noteTimes_0 rfl rfl ?_
  refine e_iconst (v := 0) d_R_noteTimes_1 (by decide) ?_
  refine p_R_9 (by first | exact Or.inl rfl | exact Or.inr rfl) rfl d_R_noteTimes_2 ?_
  rw [rk_I]
  refine e_aload_n d_R_noteTimes_5 rfl rfl ?_
  refine e_lload_n d_R_noteTimes_6 rfl rfl ?_
  refine p_R_15 rfl d_R_noteTimes_7 ?_
  rw [rk_J]
  refine e_aload_n d_R_noteTimes_10 rfl rfl ?_
  refine e_aload_n d_R_noteTimes_11 rfl rfl ?_
  refine e_aload_n d_R_noteTimes_12 rfl rfl ?_
  refine g_R_15 rfl d_R_noteTimes_13 ?_
  rw [show hJ (rk σ r (0) (upj (js) 4 (t))) 4 (r) 4 = t from by simp [J_rk, upj]]
  refine e_iload_n d_R_noteTimes_16 rfl rfl ?_
  refine e_i2l d_R_noteTimes_17 ?_
  refine e_callVd (v := some (.long ((t) + ((a).toInt64)))) (σ' := rk σ r (ovf (0) (okS (t) ((a).toInt64))) (upj (js) 4 (t))) (q := 4) (a := r) (As := [.long (t), .long ((a).toInt64)]) (st := [.ref (4 + 16 * r)]) 0 0 d_R_noteTimes_18 cb_R_noteTimes_19 iv_R_plus rfl ⟨by decide, rfl⟩ rfl (Nat.le_of_ble_eq_true rfl) (by decide) (by decide) (ct_plus_rk hl0) ?_
  show Ex l G m_R_noteTimes (pmV G m_R_noteTimes (qd (.inr none) (rk σ r (R_noteTimes_O ov js t a b) (R_noteTimes_J ov js t a b)))) 21 [(0, .ref (4 + 16 * r)), (1, .long (t)), (3, .int (a)), (4, .int (b))] [.long ((t) + ((a).toInt64)), .ref (4 + 16 * r)] (rk σ r (ovf (0) (okS (t) ((a).toInt64))) (upj (js) 4 (t))) 0 0
  refine p_R_23 rfl d_R_noteTimes_21 ?_
  rw [rk_J]
  refine e_aload_n d_R_noteTimes_24 rfl rfl ?_
  refine e_aload_n d_R_noteTimes_25 rfl rfl ?_
  refine e_aload_n d_R_noteTimes_26 rfl rfl ?_
  refine g_R_23 rfl d_R_noteTimes_27 ?_
  rw [show hJ (rk σ r (ovf (0) (okS (t) ((a).toInt64))) (upj (upj (js) 4 (t)) 5 ((t) + ((a).toInt64)))) 4 (r) 5 = (t) + ((a).toInt64) from by simp [J_rk, upj]]
  refine e_ldc2 (v := 1000) d_R_noteTimes_30 kc_R_26 ?_
  refine e_callVd (v := some (.long (((t) + ((a).toInt64)) + (1000)))) (σ' := rk σ r (ovf (ovf (0) (okS (t) ((a).toInt64))) (okS ((t) + ((a).toInt64)) (1000))) (upj (upj (js) 4 (t)) 5 ((t) + ((a).toInt64)))) (q := 4) (a := r) (As := [.long ((t) + ((a).toInt64)), .long (1000)]) (st := [.ref (4 + 16 * r)]) 0 0 d_R_noteTimes_33 cb_R_noteTimes_19 iv_R_plus rfl ⟨by decide, rfl⟩ rfl (Nat.le_of_ble_eq_true rfl) (by decide) (by decide) (ct_plus_rk hl0) ?_
  show Ex l G m_R_noteTimes (pmV G m_R_noteTimes (qd (.inr none) (rk σ r (R_noteTimes_O ov js t a b) (R_noteTimes_J ov js t a b)))) 36 [(0, .ref (4 + 16 * r)), (1, .long (t)), (3, .int (a)), (4, .int (b))] [.long (((t) + ((a).toInt64)) + (1000)), .ref (4 + 16 * r)] (rk σ r (ovf (ovf (0) (okS (t) ((a).toInt64))) (okS ((t) + ((a).toInt64)) (1000))) (upj (upj (js) 4 (t)) 5 ((t) + ((a).toInt64)))) 0 0
  refine p_R_28 rfl d_R_noteTimes_36 ?_
  rw [rk_J]
  refine e_aload_n d_R_noteTimes_39 rfl rfl ?_
  refine e_aload_n d_R_noteTimes_40 rfl rfl ?_
  refine e_aload_n d_R_noteTimes_41 rfl rfl ?_
  refine g_R_28 rfl d_R_noteTimes_42 ?_
  rw [show hJ (rk σ r (ovf (ovf (0) (okS (t) ((a).toInt64))) (okS ((t) + ((a).toInt64)) (1000))) (upj (upj (upj (js) 4 (t)) 5 ((t) + ((a).toInt64))) 6 (((t) + ((a).toInt64)) + (1000)))) 4 (r) 6 = ((t) + ((a).toInt64)) + (1000) from by simp [J_rk, upj]]
  refine e_iload d_R_noteTimes_45 rfl ?_
  refine e_i2l d_R_noteTimes_47 ?_
  refine e_callVd (v := some (.long ((((t) + ((a).toInt64)) + (1000)) + ((b).toInt64)))) (σ' := rk σ r (ovf (ovf (ovf (0) (okS (t) ((a).toInt64))) (okS ((t) + ((a).toInt64)) (1000))) (okS (((t) + ((a).toInt64)) + (1000)) ((b).toInt64))) (upj (upj (upj (js) 4 (t)) 5 ((t) + ((a).toInt64))) 6 (((t) + ((a).toInt64)) + (1000)))) (q := 4) (a := r) (As := [.long (((t) + ((a).toInt64)) + (1000)), .long ((b).toInt64)]) (st := [.ref (4 + 16 * r)]) 0 0 d_R_noteTimes_48 cb_R_noteTimes_19 iv_R_plus rfl ⟨by decide, rfl⟩ rfl (Nat.le_of_ble_eq_true rfl) (by decide) (by decide) (ct_plus_rk hl0) ?_
  show Ex l G m_R_noteTimes (pmV G m_R_noteTimes (qd (.inr none) (rk σ r (R_noteTimes_O ov js t a b) (R_noteTimes_J ov js t a b)))) 51 [(0, .ref (4 + 16 * r)), (1, .long (t)), (3, .int (a)), (4, .int (b))] [.long ((((t) + ((a).toInt64)) + (1000)) + ((b).toInt64)), .ref (4 + 16 * r)] (rk σ r (ovf (ovf (ovf (0) (okS (t) ((a).toInt64))) (okS ((t) + ((a).toInt64)) (1000))) (okS (((t) + ((a).toInt64)) + (1000)) ((b).toInt64))) (upj (upj (upj (js) 4 (t)) 5 ((t) + ((a).toInt64))) 6 (((t) + ((a).toInt64)) + (1000)))) 0 0
  refine p_R_31 rfl d_R_noteTimes_51 ?_
  rw [rk_J]
  exact e_vret d_R_noteTimes_54 rfl ⟨rfl, rfl⟩
noncomputable def R_noteClocks_O (ov : Int32) (js : Nat → Int64) (a b : Int64) : Int32 := ovf (ovf (ovf (ovf (ov) (okS (js 4) (a))) (okS (js 5) (b))) (okS (js 6) (b))) (okS (js 7) (a))
def R_noteClocks_J (ov : Int32) (js : Nat → Int64) (a b : Int64) : Nat → Int64 := upj (upj (upj (upj (js) 8 ((js 4) + (a))) 9 ((js 5) + (b))) 10 ((js 6) + (b))) 11 ((js 7) + (a))
set_option maxHeartbeats 4000000 in
theorem ct_R_noteClocks {l : Launch} (hl0 : l.stackTraces = false) {G : LG} {σ : HS} {r : Nat} {ov : Int32} {js : Nat → Int64} {a b : Int64}  : Ct l G m_R_noteClocks [.ref (4 + 16 * r), .long (a), .long (b)] (rk σ r ov js) (qd (.inr none) (rk σ r (R_noteClocks_O ov js a b) (R_noteClocks_J ov js a b))) := by
  refine Ct.of hl0 rfl rfl (Nat.le_of_ble_eq_true rfl) ?_
  show Ex l G m_R_noteClocks (pmV G m_R_noteClocks (qd (.inr none) (rk σ r (R_noteClocks_O ov js a b) (R_noteClocks_J ov js a b)))) 0 [(0, .ref (4 + 16 * r)), (1, .long (a)), (3, .long (b))] [] (rk σ r ov js) 0 0
  refine e_aload_n d_R_noteClocks_0 rfl rfl ?_
  refine e_aload_n d_R_noteClocks_1 rfl rfl ?_
  refine e_aload_n d_R_noteClocks_2 rfl rfl ?_
  refine g_R_15 rfl d_R_noteClocks_3 ?_
  rw [show hJ (rk σ r ov js) 4 (r) 4 = js 4 from by simp [J_rk, upj]]
  refine e_lload_n d_R_noteClocks_6 rfl rfl ?_
  refine e_callVd (v := some (.long ((js 4) + (a)))) (σ' := rk σ r (ovf (ov) (okS (js 4) (a))) (js)) (q := 4) (a := r) (As := [.long (js 4), .long (a)]) (st := [.ref (4 + 16 * r)]) 0 0 d_R_noteClocks_7 cb_R_noteClocks_19 iv_R_plus rfl ⟨by decide, rfl⟩ rfl (Nat.le_of_ble_eq_true rfl) (by decide) (by decide) (ct_plus_rk hl0) ?_
  show Ex l G m_R_noteClocks (pmV G m_R_noteClocks (qd (.inr none) (rk σ r (R_noteClocks_O ov js a b) (R_noteClocks_J ov js a b)))) 10 [(0, .ref (4 + 16 * r)), (1, .long (a)), (3, .long (b))] [.long ((js 4) + (a)), .ref (4 + 16 * r)] (rk σ r (ovf (ov) (okS (js 4) (a))) (js)) 0 0
  refine p_R_34 rfl d_R_noteClocks_10 ?_
  rw [rk_J]
  refine e_aload_n d_R_noteClocks_13 rfl rfl ?_
  refine e_aload_n d_R_noteClocks_14 rfl rfl ?_
  refine e_aload_n d_R_noteClocks_15 rfl rfl ?_
  refine g_R_23 rfl d_R_noteClocks_16 ?_
  rw [show hJ (rk σ r (ovf (ov) (okS (js 4) (a))) (upj (js) 8 ((js 4) + (a)))) 4 (r) 5 = js 5 from by simp [J_rk, upj]]
  refine e_lload_n d_R_noteClocks_19 rfl rfl ?_
  refine e_callVd (v := some (.long ((js 5) + (b)))) (σ' := rk σ r (ovf (ovf (ov) (okS (js 4) (a))) (okS (js 5) (b))) (upj (js) 8 ((js 4) + (a)))) (q := 4) (a := r) (As := [.long (js 5), .long (b)]) (st := [.ref (4 + 16 * r)]) 0 0 d_R_noteClocks_20 cb_R_noteClocks_19 iv_R_plus rfl ⟨by decide, rfl⟩ rfl (Nat.le_of_ble_eq_true rfl) (by decide) (by decide) (ct_plus_rk hl0) ?_
  show Ex l G m_R_noteClocks (pmV G m_R_noteClocks (qd (.inr none) (rk σ r (R_noteClocks_O ov js a b) (R_noteClocks_J ov js a b)))) 23 [(0, .ref (4 + 16 * r)), (1, .long (a)), (3, .long (b))] [.long ((js 5) + (b)), .ref (4 + 16 * r)] (rk σ r (ovf (ovf (ov) (okS (js 4) (a))) (okS (js 5) (b))) (upj (js) 8 ((js 4) + (a)))) 0 0
  refine p_R_37 rfl d_R_noteClocks_23 ?_
  rw [rk_J]
  refine e_aload_n d_R_noteClocks_26 rfl rfl ?_
  refine e_aload_n d_R_noteClocks_27 rfl rfl ?_
  refine e_aload_n d_R_noteClocks_28 rfl rfl ?_
  refine g_R_28 rfl d_R_noteClocks_29 ?_
  rw [show hJ (rk σ r (ovf (ovf (ov) (okS (js 4) (a))) (okS (js 5) (b))) (upj (upj (js) 8 ((js 4) + (a))) 9 ((js 5) + (b)))) 4 (r) 6 = js 6 from by simp [J_rk, upj]]
  refine e_lload_n d_R_noteClocks_32 rfl rfl ?_
  refine e_callVd (v := some (.long ((js 6) + (b)))) (σ' := rk σ r (ovf (ovf (ovf (ov) (okS (js 4) (a))) (okS (js 5) (b))) (okS (js 6) (b))) (upj (upj (js) 8 ((js 4) + (a))) 9 ((js 5) + (b)))) (q := 4) (a := r) (As := [.long (js 6), .long (b)]) (st := [.ref (4 + 16 * r)]) 0 0 d_R_noteClocks_33 cb_R_noteClocks_19 iv_R_plus rfl ⟨by decide, rfl⟩ rfl (Nat.le_of_ble_eq_true rfl) (by decide) (by decide) (ct_plus_rk hl0) ?_
  show Ex l G m_R_noteClocks (pmV G m_R_noteClocks (qd (.inr none) (rk σ r (R_noteClocks_O ov js a b) (R_noteClocks_J ov js a b)))) 36 [(0, .ref (4 + 16 * r)), (1, .long (a)), (3, .long (b))] [.long ((js 6) + (b)), .ref (4 + 16 * r)] (rk σ r (ovf (ovf (ovf (ov) (okS (js 4) (a))) (okS (js 5) (b))) (okS (js 6) (b))) (upj (upj (js) 8 ((js 4) + (a))) 9 ((js 5) + (b)))) 0 0
  refine p_R_40 rfl d_R_noteClocks_36 ?_
  rw [rk_J]
  refine e_aload_n d_R_noteClocks_39 rfl rfl ?_
  refine e_aload_n d_R_noteClocks_40 rfl rfl ?_
  refine e_aload_n d_R_noteClocks_41 rfl rfl ?_
  refine g_R_31 rfl d_R_noteClocks_42 ?_
  rw [show hJ (rk σ r (ovf (ovf (ovf (ov) (okS (js 4) (a))) (okS (js 5) (b))) (okS (js 6) (b))) (upj (upj (upj (js) 8 ((js 4) + (a))) 9 ((js 5) + (b))) 10 ((js 6) + (b)))) 4 (r) 7 = js 7 from by simp [J_rk, upj]]
  refine e_lload_n d_R_noteClocks_45 rfl rfl ?_
  refine e_callVd (v := some (.long ((js 7) + (a)))) (σ' := rk σ r (ovf (ovf (ovf (ovf (ov) (okS (js 4) (a))) (okS (js 5) (b))) (okS (js 6) (b))) (okS (js 7) (a))) (upj (upj (upj (js) 8 ((js 4) + (a))) 9 ((js 5) + (b))) 10 ((js 6) + (b)))) (q := 4) (a := r) (As := [.long (js 7), .long (a)]) (st := [.ref (4 + 16 * r)]) 0 0 d_R_noteClocks_46 cb_R_noteClocks_19 iv_R_plus rfl ⟨by decide, rfl⟩ rfl (Nat.le_of_ble_eq_true rfl) (by decide) (by decide) (ct_plus_rk hl0) ?_
  show Ex l G m_R_noteClocks (pmV G m_R_noteClocks (qd (.inr none) (rk σ r (R_noteClocks_O ov js a b) (R_noteClocks_J ov js a b)))) 49 [(0, .ref (4 + 16 * r)), (1, .long (a)), (3, .long (b))] [.long ((js 7) + (a)), .ref (4 + 16 * r)] (rk σ r (ovf (ovf (ovf (ovf (ov) (okS (js 4) (a))) (okS (js 5) (b))) (okS (js 6) (b))) (okS (js 7) (a))) (upj (upj (upj (js) 8 ((js 4) + (a))) 9 ((js 5) + (b))) 10 ((js 6) + (b)))) 0 0
  refine p_R_43 rfl d_R_noteClocks_49 ?_
  rw [rk_J]
  exact e_vret d_R_noteClocks_52 rfl ⟨rfl, rfl⟩
noncomputable def R_find_O (ov : Int32) (js : Nat → Int64) (f : Int64) (a b : Int32) : Int32 := ovf (ovf (ovf (ovf (ovf (ovf (ovf (ov) (okM (js 9) (js 8))) (okM ((js 9) - (js 8)) ((a).toInt64))) (okM (js 11) (js 10))) (okM ((js 11) - (js 10)) ((b).toInt64))) (okM (((js 9) - (js 8)) - ((a).toInt64)) (((js 11) - (js 10)) - ((b).toInt64)))) (okS (((js 9) - (js 8)) - ((a).toInt64)) (((js 11) - (js 10)) - ((b).toInt64)))) (okM (f) (((((js 9) - (js 8)) - ((a).toInt64)) - (((js 11) - (js 10)) - ((b).toInt64))) / (2)))
def R_find_J (ov : Int32) (js : Nat → Int64) (f : Int64) (a b : Int32) : Nat → Int64 := upj (upj (upj (js) 1 (((((js 9) - (js 8)) - ((a).toInt64)) - (((js 11) - (js 10)) - ((b).toInt64))) / (2))) 2 (((((js 9) - (js 8)) - ((a).toInt64)) + (((js 11) - (js 10)) - ((b).toInt64))) / (2))) 3 ((f) - (((((js 9) - (js 8)) - ((a).toInt64)) - (((js 11) - (js 10)) - ((b).toInt64))) / (2)))
set_option maxHeartbeats 4000000 in
theorem ct_R_find {l : Launch} (hl0 : l.stackTraces = false) {G : LG} {σ : HS} {r : Nat} {ov : Int32} {js : Nat → Int64} {f : Int64} {a b : Int32}  : Ct l G m_R_find [.ref (4 + 16 * r), .long (f), .int (a), .int (b)] (rk σ r ov js) (qd (.inr none) (rk σ r (R_find_O ov js f a b) (R_find_J ov js f a b))) := by
  refine Ct.of hl0 rfl rfl (Nat.le_of_ble_eq_true rfl) ?_
  show Ex l G m_R_find (pmV G m_R_find (qd (.inr none) (rk σ r (R_find_O ov js f a b) (R_find_J ov js f a b)))) 0 [(0, .ref (4 + 16 * r)), (1, .long (f)), (3, .int (a)), (4, .int (b))] [] (rk σ r ov js) 0 0
  refine e_aload_n d_R_find_0 rfl rfl ?_
  refine e_aload_n d_R_find_1 rfl rfl ?_
  refine e_aload_n d_R_find_2 rfl rfl ?_
  refine g_R_37 rfl d_R_find_3 ?_
  rw [show hJ (rk σ r ov js) 4 (r) 9 = js 9 from by simp [J_rk, upj]]
  refine e_aload_n d_R_find_6 rfl rfl ?_
  refine g_R_34 rfl d_R_find_7 ?_
  rw [show hJ (rk σ r ov js) 4 (r) 8 = js 8 from by simp [J_rk, upj]]
  refine e_callVd (v := some (.long ((js 9) - (js 8)))) (σ' := rk σ r (ovf (ov) (okM (js 9) (js 8))) (js)) (q := 4) (a := r) (As := [.long (js 9), .long (js 8)]) (st := [.ref (4 + 16 * r)]) 0 0 d_R_find_10 cb_R_find_46 iv_R_minus rfl ⟨by decide, rfl⟩ rfl (Nat.le_of_ble_eq_true rfl) (by decide) (by decide) (ct_minus_rk hl0) ?_
  show Ex l G m_R_find (pmV G m_R_find (qd (.inr none) (rk σ r (R_find_O ov js f a b) (R_find_J ov js f a b)))) 13 [(0, .ref (4 + 16 * r)), (1, .long (f)), (3, .int (a)), (4, .int (b))] [.long ((js 9) - (js 8)), .ref (4 + 16 * r)] (rk σ r (ovf (ov) (okM (js 9) (js 8))) (js)) 0 0
  refine e_iload_n d_R_find_13 rfl rfl ?_
  refine e_i2l d_R_find_14 ?_
  refine e_callVd (v := some (.long (((js 9) - (js 8)) - ((a).toInt64)))) (σ' := rk σ r (ovf (ovf (ov) (okM (js 9) (js 8))) (okM ((js 9) - (js 8)) ((a).toInt64))) (js)) (q := 4) (a := r) (As := [.long ((js 9) - (js 8)), .long ((a).toInt64)]) (st := []) 0 0 d_R_find_15 cb_R_find_46 iv_R_minus rfl ⟨by decide, rfl⟩ rfl (Nat.le_of_ble_eq_true rfl) (by decide) (by decide) (ct_minus_rk hl0) ?_
  show Ex l G m_R_find (pmV G m_R_find (qd (.inr none) (rk σ r (R_find_O ov js f a b) (R_find_J ov js f a b)))) 18 [(0, .ref (4 + 16 * r)), (1, .long (f)), (3, .int (a)), (4, .int (b))] [.long (((js 9) - (js 8)) - ((a).toInt64))] (rk σ r (ovf (ovf (ov) (okM (js 9) (js 8))) (okM ((js 9) - (js 8)) ((a).toInt64))) (js)) 0 0
  refine e_lstore (lv' := [(5, .long (((js 9) - (js 8)) - ((a).toInt64))), (0, .ref (4 + 16 * r)), (1, .long (f)), (3, .int (a)), (4, .int (b))]) d_R_find_18 (by decide) rfl ?_
  refine e_aload_n d_R_find_20 rfl rfl ?_
  refine e_aload_n d_R_find_21 rfl rfl ?_
  refine e_aload_n d_R_find_22 rfl rfl ?_
  refine g_R_43 rfl d_R_find_23 ?_
  rw [show hJ (rk σ r (ovf (ovf (ov) (okM (js 9) (js 8))) (okM ((js 9) - (js 8)) ((a).toInt64))) (js)) 4 (r) 11 = js 11 from by simp [J_rk, upj]]
  refine e_aload_n d_R_find_26 rfl rfl ?_
  refine g_R_40 rfl d_R_find_27 ?_
  rw [show hJ (rk σ r (ovf (ovf (ov) (okM (js 9) (js 8))) (okM ((js 9) - (js 8)) ((a).toInt64))) (js)) 4 (r) 10 = js 10 from by simp [J_rk, upj]]
  refine e_callVd (v := some (.long ((js 11) - (js 10)))) (σ' := rk σ r (ovf (ovf (ovf (ov) (okM (js 9) (js 8))) (okM ((js 9) - (js 8)) ((a).toInt64))) (okM (js 11) (js 10))) (js)) (q := 4) (a := r) (As := [.long (js 11), .long (js 10)]) (st := [.ref (4 + 16 * r)]) 0 0 d_R_find_30 cb_R_find_46 iv_R_minus rfl ⟨by decide, rfl⟩ rfl (Nat.le_of_ble_eq_true rfl) (by decide) (by decide) (ct_minus_rk hl0) ?_
  show Ex l G m_R_find (pmV G m_R_find (qd (.inr none) (rk σ r (R_find_O ov js f a b) (R_find_J ov js f a b)))) 33 [(5, .long (((js 9) - (js 8)) - ((a).toInt64))), (0, .ref (4 + 16 * r)), (1, .long (f)), (3, .int (a)), (4, .int (b))] [.long ((js 11) - (js 10)), .ref (4 + 16 * r)] (rk σ r (ovf (ovf (ovf (ov) (okM (js 9) (js 8))) (okM ((js 9) - (js 8)) ((a).toInt64))) (okM (js 11) (js 10))) (js)) 0 0
  refine e_iload d_R_find_33 rfl ?_
  refine e_i2l d_R_find_35 ?_
  refine e_callVd (v := some (.long (((js 11) - (js 10)) - ((b).toInt64)))) (σ' := rk σ r (ovf (ovf (ovf (ovf (ov) (okM (js 9) (js 8))) (okM ((js 9) - (js 8)) ((a).toInt64))) (okM (js 11) (js 10))) (okM ((js 11) - (js 10)) ((b).toInt64))) (js)) (q := 4) (a := r) (As := [.long ((js 11) - (js 10)), .long ((b).toInt64)]) (st := []) 0 0 d_R_find_36 cb_R_find_46 iv_R_minus rfl ⟨by decide, rfl⟩ rfl (Nat.le_of_ble_eq_true rfl) (by decide) (by decide) (ct_minus_rk hl0) ?_
  show Ex l G m_R_find (pmV G m_R_find (qd (.inr none) (rk σ r (R_find_O ov js f a b) (R_find_J ov js f a b)))) 39 [(5, .long (((js 9) - (js 8)) - ((a).toInt64))), (0, .ref (4 + 16 * r)), (1, .long (f)), (3, .int (a)), (4, .int (b))] [.long (((js 11) - (js 10)) - ((b).toInt64))] (rk σ r (ovf (ovf (ovf (ovf (ov) (okM (js 9) (js 8))) (okM ((js 9) - (js 8)) ((a).toInt64))) (okM (js 11) (js 10))) (okM ((js 11) - (js 10)) ((b).toInt64))) (js)) 0 0
  refine e_lstore (lv' := [(7, .long (((js 11) - (js 10)) - ((b).toInt64))), (5, .long (((js 9) - (js 8)) - ((a).toInt64))), (0, .ref (4 + 16 * r)), (1, .long (f)), (3, .int (a)), (4, .int (b))]) d_R_find_39 (by decide) rfl ?_
  refine e_aload_n d_R_find_41 rfl rfl ?_
  refine e_aload_n d_R_find_42 rfl rfl ?_
  refine e_lload d_R_find_43 rfl ?_
  refine e_lload d_R_find_45 rfl ?_
  refine e_callVd (v := some (.long ((((js 9) - (js 8)) - ((a).toInt64)) - (((js 11) - (js 10)) - ((b).toInt64))))) (σ' := rk σ r (ovf (ovf (ovf (ovf (ovf (ov) (okM (js 9) (js 8))) (okM ((js 9) - (js 8)) ((a).toInt64))) (okM (js 11) (js 10))) (okM ((js 11) - (js 10)) ((b).toInt64))) (okM (((js 9) - (js 8)) - ((a).toInt64)) (((js 11) - (js 10)) - ((b).toInt64)))) (js)) (q := 4) (a := r) (As := [.long (((js 9) - (js 8)) - ((a).toInt64)), .long (((js 11) - (js 10)) - ((b).toInt64))]) (st := [.ref (4 + 16 * r)]) 0 0 d_R_find_47 cb_R_find_46 iv_R_minus rfl ⟨by decide, rfl⟩ rfl (Nat.le_of_ble_eq_true rfl) (by decide) (by decide) (ct_minus_rk hl0) ?_
  show Ex l G m_R_find (pmV G m_R_find (qd (.inr none) (rk σ r (R_find_O ov js f a b) (R_find_J ov js f a b)))) 50 [(7, .long (((js 11) - (js 10)) - ((b).toInt64))), (5, .long (((js 9) - (js 8)) - ((a).toInt64))), (0, .ref (4 + 16 * r)), (1, .long (f)), (3, .int (a)), (4, .int (b))] [.long ((((js 9) - (js 8)) - ((a).toInt64)) - (((js 11) - (js 10)) - ((b).toInt64))), .ref (4 + 16 * r)] (rk σ r (ovf (ovf (ovf (ovf (ovf (ov) (okM (js 9) (js 8))) (okM ((js 9) - (js 8)) ((a).toInt64))) (okM (js 11) (js 10))) (okM ((js 11) - (js 10)) ((b).toInt64))) (okM (((js 9) - (js 8)) - ((a).toInt64)) (((js 11) - (js 10)) - ((b).toInt64)))) (js)) 0 0
  refine e_ldc2 (v := 2) d_R_find_50 kc_R_49 ?_
  refine e_ldiv d_R_find_53 (by decide) ?_
  refine p_R_51 rfl d_R_find_54 ?_
  rw [rk_J]
  refine e_aload_n d_R_find_57 rfl rfl ?_
  refine e_aload_n d_R_find_58 rfl rfl ?_
  refine e_lload d_R_find_59 rfl ?_
  refine e_lload d_R_find_61 rfl ?_
  refine e_callVd (v := some (.long ((((js 9) - (js 8)) - ((a).toInt64)) + (((js 11) - (js 10)) - ((b).toInt64))))) (σ' := rk σ r (ovf (ovf (ovf (ovf (ovf (ovf (ov) (okM (js 9) (js 8))) (okM ((js 9) - (js 8)) ((a).toInt64))) (okM (js 11) (js 10))) (okM ((js 11) - (js 10)) ((b).toInt64))) (okM (((js 9) - (js 8)) - ((a).toInt64)) (((js 11) - (js 10)) - ((b).toInt64)))) (okS (((js 9) - (js 8)) - ((a).toInt64)) (((js 11) - (js 10)) - ((b).toInt64)))) (upj (js) 1 (((((js 9) - (js 8)) - ((a).toInt64)) - (((js 11) - (js 10)) - ((b).toInt64))) / (2)))) (q := 4) (a := r) (As := [.long (((js 9) - (js 8)) - ((a).toInt64)), .long (((js 11) - (js 10)) - ((b).toInt64))]) (st := [.ref (4 + 16 * r)]) 0 0 d_R_find_63 cb_R_find_19 iv_R_plus rfl ⟨by decide, rfl⟩ rfl (Nat.le_of_ble_eq_true rfl) (by decide) (by decide) (ct_plus_rk hl0) ?_
  show Ex l G m_R_find (pmV G m_R_find (qd (.inr none) (rk σ r (R_find_O ov js f a b) (R_find_J ov js f a b)))) 66 [(7, .long (((js 11) - (js 10)) - ((b).toInt64))), (5, .long (((js 9) - (js 8)) - ((a).toInt64))), (0, .ref (4 + 16 * r)), (1, .long (f)), (3, .int (a)), (4, .int (b))] [.long ((((js 9) - (js 8)) - ((a).toInt64)) + (((js 11) - (js 10)) - ((b).toInt64))), .ref (4 + 16 * r)] (rk σ r (ovf (ovf (ovf (ovf (ovf (ovf (ov) (okM (js 9) (js 8))) (okM ((js 9) - (js 8)) ((a).toInt64))) (okM (js 11) (js 10))) (okM ((js 11) - (js 10)) ((b).toInt64))) (okM (((js 9) - (js 8)) - ((a).toInt64)) (((js 11) - (js 10)) - ((b).toInt64)))) (okS (((js 9) - (js 8)) - ((a).toInt64)) (((js 11) - (js 10)) - ((b).toInt64)))) (upj (js) 1 (((((js 9) - (js 8)) - ((a).toInt64)) - (((js 11) - (js 10)) - ((b).toInt64))) / (2)))) 0 0
  refine e_ldc2 (v := 2) d_R_find_66 kc_R_49 ?_
  refine e_ldiv d_R_find_69 (by decide) ?_
  refine p_R_54 rfl d_R_find_70 ?_
  rw [rk_J]
  refine e_aload_n d_R_find_73 rfl rfl ?_
  refine e_aload_n d_R_find_74 rfl rfl ?_
  refine e_lload_n d_R_find_75 rfl rfl ?_
  refine e_aload_n d_R_find_76 rfl rfl ?_
  refine g_R_51 rfl d_R_find_77 ?_
  rw [show hJ (rk σ r (ovf (ovf (ovf (ovf (ovf (ovf (ov) (okM (js 9) (js 8))) (okM ((js 9) - (js 8)) ((a).toInt64))) (okM (js 11) (js 10))) (okM ((js 11) - (js 10)) ((b).toInt64))) (okM (((js 9) - (js 8)) - ((a).toInt64)) (((js 11) - (js 10)) - ((b).toInt64)))) (okS (((js 9) - (js 8)) - ((a).toInt64)) (((js 11) - (js 10)) - ((b).toInt64)))) (upj (upj (js) 1 (((((js 9) - (js 8)) - ((a).toInt64)) - (((js 11) - (js 10)) - ((b).toInt64))) / (2))) 2 (((((js 9) - (js 8)) - ((a).toInt64)) + (((js 11) - (js 10)) - ((b).toInt64))) / (2)))) 4 (r) 1 = ((((js 9) - (js 8)) - ((a).toInt64)) - (((js 11) - (js 10)) - ((b).toInt64))) / (2) from by simp [J_rk, upj]]
  refine e_callVd (v := some (.long ((f) - (((((js 9) - (js 8)) - ((a).toInt64)) - (((js 11) - (js 10)) - ((b).toInt64))) / (2))))) (σ' := rk σ r (ovf (ovf (ovf (ovf (ovf (ovf (ovf (ov) (okM (js 9) (js 8))) (okM ((js 9) - (js 8)) ((a).toInt64))) (okM (js 11) (js 10))) (okM ((js 11) - (js 10)) ((b).toInt64))) (okM (((js 9) - (js 8)) - ((a).toInt64)) (((js 11) - (js 10)) - ((b).toInt64)))) (okS (((js 9) - (js 8)) - ((a).toInt64)) (((js 11) - (js 10)) - ((b).toInt64)))) (okM (f) (((((js 9) - (js 8)) - ((a).toInt64)) - (((js 11) - (js 10)) - ((b).toInt64))) / (2)))) (upj (upj (js) 1 (((((js 9) - (js 8)) - ((a).toInt64)) - (((js 11) - (js 10)) - ((b).toInt64))) / (2))) 2 (((((js 9) - (js 8)) - ((a).toInt64)) + (((js 11) - (js 10)) - ((b).toInt64))) / (2)))) (q := 4) (a := r) (As := [.long (f), .long (((((js 9) - (js 8)) - ((a).toInt64)) - (((js 11) - (js 10)) - ((b).toInt64))) / (2))]) (st := [.ref (4 + 16 * r)]) 0 0 d_R_find_80 cb_R_find_46 iv_R_minus rfl ⟨by decide, rfl⟩ rfl (Nat.le_of_ble_eq_true rfl) (by decide) (by decide) (ct_minus_rk hl0) ?_
  show Ex l G m_R_find (pmV G m_R_find (qd (.inr none) (rk σ r (R_find_O ov js f a b) (R_find_J ov js f a b)))) 83 [(7, .long (((js 11) - (js 10)) - ((b).toInt64))), (5, .long (((js 9) - (js 8)) - ((a).toInt64))), (0, .ref (4 + 16 * r)), (1, .long (f)), (3, .int (a)), (4, .int (b))] [.long ((f) - (((((js 9) - (js 8)) - ((a).toInt64)) - (((js 11) - (js 10)) - ((b).toInt64))) / (2))), .ref (4 + 16 * r)] (rk σ r (ovf (ovf (ovf (ovf (ovf (ovf (ovf (ov) (okM (js 9) (js 8))) (okM ((js 9) - (js 8)) ((a).toInt64))) (okM (js 11) (js 10))) (okM ((js 11) - (js 10)) ((b).toInt64))) (okM (((js 9) - (js 8)) - ((a).toInt64)) (((js 11) - (js 10)) - ((b).toInt64)))) (okS (((js 9) - (js 8)) - ((a).toInt64)) (((js 11) - (js 10)) - ((b).toInt64)))) (okM (f) (((((js 9) - (js 8)) - ((a).toInt64)) - (((js 11) - (js 10)) - ((b).toInt64))) / (2)))) (upj (upj (js) 1 (((((js 9) - (js 8)) - ((a).toInt64)) - (((js 11) - (js 10)) - ((b).toInt64))) / (2))) 2 (((((js 9) - (js 8)) - ((a).toInt64)) + (((js 11) - (js 10)) - ((b).toInt64))) / (2)))) 0 0
  refine p_R_57 rfl d_R_find_83 ?_
  rw [rk_J]
  exact e_vret d_R_find_86 rfl ⟨rfl, rfl⟩
end
section
theorem th1_iae : Cond.classLink R_T 43 (xn 0) ∈ gt ∧ Cond.initialized (xn 0) ∈ gt ∧ (Bundle.fit (xn 0) = true ∧ ∀ n ∈ (["java/lang/RuntimeException", "java/lang/Exception"] : List String), Bundle.fit n = true) := by decide +kernel
theorem th2_iae : ∀ w ∈ (vx_atS R_T 47 (xn 0) ["java/lang/RuntimeException", "java/lang/Exception"]).filter goodWord, w ∈ gt := by decide +kernel
theorem th3_iae : ∀ w ∈ (vx_atS R_T 47 (xn 0) ["java/lang/RuntimeException", "java/lang/Exception"]).filter (fun w => !goodWord w), w ∈ nstT := by decide +kernel
theorem th4_iae : ∀ w ∈ Cond.classLink R_T 43 (xn 0) :: Cond.initialized (xn 0) :: vx_atS R_T 47 (xn 0) ["java/lang/RuntimeException", "java/lang/Exception"], vx_ot w = true := by decide +kernel
theorem e_iae {l : Launch} {G : LG} {M : MI} {Q : LO → HS → Prop} {pc : Nat} {lv : List (Nat × Value)} {st : List Value} {σ : HS} {mc ms is : Nat} (hM : M.1.cls = R_T) (d0 : decode M.2.1 pc = .ok (.new 43, 3)) (d3 : decode M.2.1 (pc + 3) = .ok (.dup, 1)) (d4 : decode M.2.1 (pc + 4) = .ok (.ldc is, 2)) (d6 : decode M.2.1 (pc + 6) = .ok (.invokespecial 47, 3)) (d9 : decode M.2.1 (pc + 9) = .ok (.athrow, 1)) (hstr : (strT.any fun x => x.1 == R_T && x.2.1 == is) = true)
    (hRm : 5 < M.2.2.2.2.1.frames ∧ (st.map fun v => v.category).sum + 82 ≤ M.2.2.2.2.1.locals) (hb : 1 ≤ mc ∧ 6 ≤ ms) (hH : M.2.2.2.2.2 = some []) (hq : Q (.inl 0) σ) : Ex l G M (pmV G M Q) pc lv st σ mc ms := by
  obtain ⟨⟨x1, x2, x3⟩, hx, hx2⟩ := List.any_eq_true.mp hstr
  simp only [Bool.and_eq_true, beq_iff_eq] at hx2
  obtain ⟨rfl, rfl⟩ := hx2
  exact e_throw (kx := 0) (names := ["java/lang/RuntimeException", "java/lang/Exception"]) (text := x3) d0 d3 d4 d6 d9 (by rw [hM]; exact th1_iae.1) th1_iae.2.1 (by rw [hM]; exact hx) th1_iae.2.2 (by rw [hM]; exact th2_iae) (by rw [hM]; exact th3_iae) (by rw [hM]; exact th4_iae) hRm hb hH hq
theorem th1_ise : Cond.classLink R_T 56 (xn 1) ∈ gt ∧ Cond.initialized (xn 1) ∈ gt ∧ (Bundle.fit (xn 1) = true ∧ ∀ n ∈ (["java/lang/RuntimeException", "java/lang/Exception"] : List String), Bundle.fit n = true) := by decide +kernel
theorem th2_ise : ∀ w ∈ (vx_atS R_T 60 (xn 1) ["java/lang/RuntimeException", "java/lang/Exception"]).filter goodWord, w ∈ gt := by decide +kernel
theorem th3_ise : ∀ w ∈ (vx_atS R_T 60 (xn 1) ["java/lang/RuntimeException", "java/lang/Exception"]).filter (fun w => !goodWord w), w ∈ nstT := by decide +kernel
theorem th4_ise : ∀ w ∈ Cond.classLink R_T 56 (xn 1) :: Cond.initialized (xn 1) :: vx_atS R_T 60 (xn 1) ["java/lang/RuntimeException", "java/lang/Exception"], vx_ot w = true := by decide +kernel
theorem e_ise {l : Launch} {G : LG} {M : MI} {Q : LO → HS → Prop} {pc : Nat} {lv : List (Nat × Value)} {st : List Value} {σ : HS} {mc ms is : Nat} (hM : M.1.cls = R_T) (d0 : decode M.2.1 pc = .ok (.new 56, 3)) (d3 : decode M.2.1 (pc + 3) = .ok (.dup, 1)) (d4 : decode M.2.1 (pc + 4) = .ok (.ldc is, 2)) (d6 : decode M.2.1 (pc + 6) = .ok (.invokespecial 60, 3)) (d9 : decode M.2.1 (pc + 9) = .ok (.athrow, 1)) (hstr : (strT.any fun x => x.1 == R_T && x.2.1 == is) = true)
    (hRm : 5 < M.2.2.2.2.1.frames ∧ (st.map fun v => v.category).sum + 82 ≤ M.2.2.2.2.1.locals) (hb : 1 ≤ mc ∧ 6 ≤ ms) (hH : M.2.2.2.2.2 = some []) (hq : Q (.inl 1) σ) : Ex l G M (pmV G M Q) pc lv st σ mc ms := by
  obtain ⟨⟨x1, x2, x3⟩, hx, hx2⟩ := List.any_eq_true.mp hstr
  simp only [Bool.and_eq_true, beq_iff_eq] at hx2
  obtain ⟨rfl, rfl⟩ := hx2
  exact e_throw (kx := 1) (names := ["java/lang/RuntimeException", "java/lang/Exception"]) (text := x3) d0 d3 d4 d6 d9 (by rw [hM]; exact th1_ise.1) th1_ise.2.1 (by rw [hM]; exact hx) th1_ise.2.2 (by rw [hM]; exact th2_ise) (by rw [hM]; exact th3_ise) (by rw [hM]; exact th4_ise) hRm hb hH hq
theorem th1_are : Cond.classLink R_T 154 (xn 2) ∈ gt ∧ Cond.initialized (xn 2) ∈ gt ∧ (Bundle.fit (xn 2) = true ∧ ∀ n ∈ (["java/lang/RuntimeException", "java/lang/Exception"] : List String), Bundle.fit n = true) := by decide +kernel
theorem th2_are : ∀ w ∈ (vx_atS R_T 158 (xn 2) ["java/lang/RuntimeException", "java/lang/Exception"]).filter goodWord, w ∈ gt := by decide +kernel
theorem th3_are : ∀ w ∈ (vx_atS R_T 158 (xn 2) ["java/lang/RuntimeException", "java/lang/Exception"]).filter (fun w => !goodWord w), w ∈ nstT := by decide +kernel
theorem th4_are : ∀ w ∈ Cond.classLink R_T 154 (xn 2) :: Cond.initialized (xn 2) :: vx_atS R_T 158 (xn 2) ["java/lang/RuntimeException", "java/lang/Exception"], vx_ot w = true := by decide +kernel
theorem e_are {l : Launch} {G : LG} {M : MI} {Q : LO → HS → Prop} {pc : Nat} {lv : List (Nat × Value)} {st : List Value} {σ : HS} {mc ms is : Nat} (hM : M.1.cls = R_T) (d0 : decode M.2.1 pc = .ok (.new 154, 3)) (d3 : decode M.2.1 (pc + 3) = .ok (.dup, 1)) (d4 : decode M.2.1 (pc + 4) = .ok (.ldc is, 2)) (d6 : decode M.2.1 (pc + 6) = .ok (.invokespecial 158, 3)) (d9 : decode M.2.1 (pc + 9) = .ok (.athrow, 1)) (hstr : (strT.any fun x => x.1 == R_T && x.2.1 == is) = true)
    (hRm : 5 < M.2.2.2.2.1.frames ∧ (st.map fun v => v.category).sum + 82 ≤ M.2.2.2.2.1.locals) (hb : 1 ≤ mc ∧ 6 ≤ ms) (hH : M.2.2.2.2.2 = some []) (hq : Q (.inl 2) σ) : Ex l G M (pmV G M Q) pc lv st σ mc ms := by
  obtain ⟨⟨x1, x2, x3⟩, hx, hx2⟩ := List.any_eq_true.mp hstr
  simp only [Bool.and_eq_true, beq_iff_eq] at hx2
  obtain ⟨rfl, rfl⟩ := hx2
  exact e_throw (kx := 2) (names := ["java/lang/RuntimeException", "java/lang/Exception"]) (text := x3) d0 d3 d4 d6 d9 (by rw [hM]; exact th1_are.1) th1_are.2.1 (by rw [hM]; exact hx) th1_are.2.2 (by rw [hM]; exact th2_are) (by rw [hM]; exact th3_are) (by rw [hM]; exact th4_are) hRm hb hH hq
/-- a call that throws, where nothing is caught -/
theorem e_callVt {l : Launch} {G : LG} {M M2 : MI} {Q : LO → HS → Prop} {pc : Nat} {lv : List (Nat × Value)} {st : List Value} {σ : HS} {mc ms kx : Nat} {σ' : HS} {q a idx n : Nat} {r : vw_C} {As : List Value} (mc' ms' : Nat) (hd : decode M.2.1 pc = .ok (.invokevirtual idx, 3)) (hcb : CB M M2 idx n) (hin : Cond.instanceMethod M2.1 ∈ gt ∧ Cond.selects M2.1.cls M2.1 M2.1 ∈ gt) (hc0 : lcl[q]? = some r) (hq7 : q < 7 ∧ r.1 = M2.1.cls) (hn1 : As.length = n) (hst8 : (st.map fun v => v.category).sum ≤ 8) (hb1 : mc' + M2.2.2.2.2.1.cells ≤ mc) (hb2 : ms' + M2.2.2.2.2.1.slots ≤ ms) (hct : Ct l G M2 (.ref (q + 16 * a) :: As) σ (qd (.inl kx) σ')) (hH : M.2.2.2.2.2 = some []) (hq : Q (.inl kx) σ') : Ex l G M (pmV G M Q) pc lv (As.reverse ++ .ref (q + 16 * a) :: st) σ mc ms :=
  e_callVX mc' ms' hd hcb hin hc0 hq7 hn1 hst8 hb1 hb2 hct hH (fun k τ h => by obtain ⟨h1, h2⟩ := h; cases h1; subst h2; exact hq) (fun v τ h => by cases h.1)
/-- the shape of the tree: n nodes, L links -/
def TS (σ : HS) (n L : Nat) : Prop := (hR σ 5 0 0 = some (10 + 16 * 0) ∧ hR σ 5 0 1 = some (11 + 16 * 0) ∧ hR σ 5 0 2 = some (4 + 16 * 0)) ∧ (hl σ 10 0 = 10 ∧ hl σ 11 0 = 16) ∧ (hI σ 5 0 3 = nI n ∧ hI σ 5 0 4 = nI L ∧ n ≤ 10 ∧ L ≤ 16) ∧
  (∀ i, i < n → hR σ 10 0 i = some (2 + 16 * i) ∧ NS σ i) ∧ (∀ p, p < 4 * n → hR σ 1 p 7 = none ∨ ∃ k, k < L ∧ hR σ 1 p 7 = some (3 + 16 * k)) ∧
  (∀ k, k < L → hR σ 11 0 k = some (3 + 16 * k) ∧ ∃ x y, x < 4 * n ∧ y < 4 * n ∧ hR σ 3 k 0 = some (1 + 16 * x) ∧ hR σ 3 k 1 = some (1 + 16 * y)) ∧
  (∀ p, p < 4 * n → hI σ 1 p 0 = nI (p / 4) ∧ hI σ 1 p 1 = nI (p % 4)) ∧ ∀ i, i < n → hI σ 2 i 0 = nI i
def wiV (v m : Int32) : Int32 := if v < 0 then 0 else if m < v then 0 else 1
theorem wiV_01 (v m : Int32) : wiV v m = 0 ∨ wiV v m = 1 := by
  unfold wiV
  split
  · exact Or.inl rfl
  · split
    · exact Or.inl rfl
    · exact Or.inr rfl
set_option maxHeartbeats 4000000 in
theorem ct_T_isWithin {l : Launch} (hl0 : l.stackTraces = false) {G : LG} {σ : HS} {v m : Int32}  : Ct l G m_T_isWithin [.int (v), .int (m)] (σ) (qd (.inr (some (.int (wiV v m)))) σ) := by
  refine Ct.of hl0 rfl rfl (Nat.le_of_ble_eq_true rfl) ?_
  show Ex l G m_T_isWithin (pmV G m_T_isWithin (qd (.inr (some (.int (wiV v m)))) σ)) 0 [(0, .int (v)), (1, .int (m))] [] (σ) 0 0
  refine e_iload_n d_T_isWithin_0 rfl rfl ?_
  refine e_iflt (tgt := 13) d_T_isWithin_1 (by decide) (fun h1 => ?_) (fun h1 => ?_)
  ·
    refine e_iconst (v := 0) d_T_isWithin_13 (by decide) ?_
    exact e_zret d_T_isWithin_14 rfl (by first | exact Or.inl rfl | exact Or.inr rfl) ⟨(by simp [wiV, h1]), rfl⟩
  ·
    refine e_iload_n d_T_isWithin_4 rfl rfl ?_
    refine e_iload_n d_T_isWithin_5 rfl rfl ?_
    refine e_icmpgt (tgt := 13) d_T_isWithin_6 (by decide) (fun h6 => ?_) (fun h6 => ?_)
    ·
      refine e_iconst (v := 0) d_T_isWithin_13 (by decide) ?_
      exact e_zret d_T_isWithin_14 rfl (by first | exact Or.inl rfl | exact Or.inr rfl) ⟨(by simp [wiV, h1, h6]), rfl⟩
    ·
      refine e_iconst (v := 1) d_T_isWithin_9 (by decide) ?_
      refine e_goto (tgt := 14) d_T_isWithin_10 (by decide) ?_
      exact e_zret d_T_isWithin_14 rfl (by first | exact Or.inl rfl | exact Or.inr rfl) ⟨(by simp [wiV, h1, h6]), rfl⟩
set_option maxHeartbeats 4000000 in
theorem ct_T_nodeAt_x {l : Launch} (hl0 : l.stackTraces = false) {G : LG} {σ : HS} {v : Int32} (hx : v < 0 ∨ hI σ 5 0 3 ≤ v) : Ct l G m_T_nodeAt [.ref (5 + 16 * 0), .int (v)] (σ) (qd (.inl 0) σ) := by
  refine Ct.of hl0 rfl rfl (Nat.le_of_ble_eq_true rfl) ?_
  show Ex l G m_T_nodeAt (pmV G m_T_nodeAt (qd (.inl 0) σ)) 0 [(0, .ref (5 + 16 * 0)), (1, .int (v))] [] (σ) 1 6
  refine e_iload_n d_T_nodeAt_0 rfl rfl ?_
  refine e_iflt (tgt := 12) d_T_nodeAt_1 (by decide) (fun h1 => ?_) (fun h1 => ?_)
  ·
    exact e_iae rfl d_T_nodeAt_12 d_T_nodeAt_15 d_T_nodeAt_16 d_T_nodeAt_18 d_T_nodeAt_21 (by decide +kernel) ⟨by decide, Nat.le_of_ble_eq_true rfl⟩ ⟨by decide, by decide⟩ rfl ⟨rfl, rfl⟩
  ·
    refine e_iload_n d_T_nodeAt_4 rfl rfl ?_
    refine e_aload_n d_T_nodeAt_5 rfl rfl ?_
    refine g_T_28 rfl d_T_nodeAt_6 ?_
    refine e_icmplt (tgt := 22) d_T_nodeAt_9 (by decide) (fun h9 => absurd h9 (Int32.not_lt.mpr (hx.resolve_left h1))) (fun h9 => ?_)
    exact e_iae rfl d_T_nodeAt_12 d_T_nodeAt_15 d_T_nodeAt_16 d_T_nodeAt_18 d_T_nodeAt_21 (by decide +kernel) ⟨by decide, Nat.le_of_ble_eq_true rfl⟩ ⟨by decide, by decide⟩ rfl ⟨rfl, rfl⟩
set_option maxHeartbeats 4000000 in
theorem ct_T_nodeAt {l : Launch} (hl0 : l.stackTraces = false) {G : LG} {σ : HS} {i : Nat} {n L : Nat} (hT : TS σ n L) (hi : i < n) : Ct l G m_T_nodeAt [.ref (5 + 16 * 0), .int (nI i)] (σ) (qd (.inr (some (.ref (2 + 16 * i)))) σ) := by
  refine Ct.of hl0 rfl rfl (Nat.le_of_ble_eq_true rfl) ?_
  show Ex l G m_T_nodeAt (pmV G m_T_nodeAt (qd (.inr (some (.ref (2 + 16 * i)))) σ)) 0 [(0, .ref (5 + 16 * 0)), (1, .int (nI i))] [] (σ) 1 6
  refine e_iload_n d_T_nodeAt_0 rfl rfl ?_
  refine e_iflt (tgt := 12) d_T_nodeAt_1 (by decide) (fun h1 => absurd h1 (nI_pos (by have := hT.2.2.1.2.2.1; omega))) (fun h1 => ?_)
  refine e_iload_n d_T_nodeAt_4 rfl rfl ?_
  refine e_aload_n d_T_nodeAt_5 rfl rfl ?_
  refine g_T_28 rfl d_T_nodeAt_6 ?_
  refine e_icmplt (tgt := 22) d_T_nodeAt_9 (by decide) (fun h9 => ?_) (fun h9 => absurd (by rw [hT.2.2.1.1]; exact nI_lt hi (by have := hT.2.2.1.2.2.1; omega)) h9)
  refine e_aload_n d_T_nodeAt_22 rfl rfl ?_
  refine g_T_11 (b := 10 + 16 * 0) rfl d_T_nodeAt_23 hT.1.1 ?_
  refine e_iload_n d_T_nodeAt_26 rfl rfl ?_
  refine e_aald (b := 2 + 16 * i) (C := _) d_T_nodeAt_27 ⟨by decide, by decide⟩ rfl (by rw [hT.2.1.1]; exact nI_in (by have := hT.2.2.1.2.2.1; omega) (by decide)) (by rw [nI_clamp (by have := hT.2.2.1.2.2.1; omega)]; exact (hT.2.2.2.1 i hi).1) ?_
  exact e_aret d_T_nodeAt_28 rfl (Or.inl ⟨_, rfl⟩) ⟨rfl, rfl⟩
set_option maxHeartbeats 4000000 in
theorem ct_T_portAt_x {l : Launch} (hl0 : l.stackTraces = false) {G : LG} {σ : HS} {v u : Int32} (hx : v < 0 ∨ hI σ 5 0 3 ≤ v) : Ct l G m_T_portAt [.ref (5 + 16 * 0), .int (v), .int (u)] (σ) (qd (.inl 0) σ) := by
  refine Ct.of hl0 rfl rfl (Nat.le_of_ble_eq_true rfl) ?_
  show Ex l G m_T_portAt (pmV G m_T_portAt (qd (.inl 0) σ)) 0 [(0, .ref (5 + 16 * 0)), (1, .int (v)), (2, .int (u))] [] (σ) 2 12
  refine e_aload_n d_T_portAt_0 rfl rfl ?_
  refine e_iload_n d_T_portAt_1 rfl rfl ?_
  exact e_callVt (q := 5) (a := 0) (As := [.int (v)]) (st := []) 1 6 d_T_portAt_2 cb_T_portAt_108 iv_T_nodeAt rfl ⟨by decide, rfl⟩ rfl (Nat.le_of_ble_eq_true rfl) (by decide) (by decide) (ct_T_nodeAt_x hl0 hx) rfl ⟨rfl, rfl⟩
set_option maxHeartbeats 4000000 in
theorem ct_T_portAt_y {l : Launch} (hl0 : l.stackTraces = false) {G : LG} {σ : HS} {i : Nat} {u : Int32} {n L : Nat} (hT : TS σ n L) (hi : i < n) (hx : u < 0 ∨ 4 ≤ u) : Ct l G m_T_portAt [.ref (5 + 16 * 0), .int (nI i), .int (u)] (σ) (qd (.inl 0) σ) := by
  refine Ct.of hl0 rfl rfl (Nat.le_of_ble_eq_true rfl) ?_
  show Ex l G m_T_portAt (pmV G m_T_portAt (qd (.inl 0) σ)) 0 [(0, .ref (5 + 16 * 0)), (1, .int (nI i)), (2, .int (u))] [] (σ) 2 12
  refine e_aload_n d_T_portAt_0 rfl rfl ?_
  refine e_iload_n d_T_portAt_1 rfl rfl ?_
  refine e_callVd (v := some (.ref (2 + 16 * i))) (σ' := σ) (q := 5) (a := 0) (As := [.int (nI i)]) (st := []) 1 6 d_T_portAt_2 cb_T_portAt_108 iv_T_nodeAt rfl ⟨by decide, rfl⟩ rfl (Nat.le_of_ble_eq_true rfl) (by decide) (by decide) (ct_T_nodeAt hl0 hT hi) ?_
  show Ex l G m_T_portAt (pmV G m_T_portAt (qd (.inl 0) σ)) 5 [(0, .ref (5 + 16 * 0)), (1, .int (nI i)), (2, .int (u))] [.ref (2 + 16 * i)] (σ) 1 6
  refine e_astore_n (lv' := [(3, .ref (2 + 16 * i)), (0, .ref (5 + 16 * 0)), (1, .int (nI i)), (2, .int (u))]) d_T_portAt_5 rfl (by decide) rfl ?_
  refine e_iload_n d_T_portAt_6 rfl rfl ?_
  refine e_iflt (tgt := 15) d_T_portAt_7 (by decide) (fun h7 => ?_) (fun h7 => ?_)
  ·
    exact e_iae rfl d_T_portAt_15 d_T_portAt_18 d_T_portAt_19 d_T_portAt_21 d_T_portAt_24 (by decide +kernel) ⟨by decide, Nat.le_of_ble_eq_true rfl⟩ ⟨by decide, by decide⟩ rfl ⟨rfl, rfl⟩
  ·
    refine e_iload_n d_T_portAt_10 rfl rfl ?_
    refine e_iconst (v := 4) d_T_portAt_11 (by decide) ?_
    refine e_icmplt (tgt := 25) d_T_portAt_12 (by decide) (fun h12 => absurd h12 (Int32.not_lt.mpr (hx.resolve_left h7))) (fun h12 => ?_)
    exact e_iae rfl d_T_portAt_15 d_T_portAt_18 d_T_portAt_19 d_T_portAt_21 d_T_portAt_24 (by decide +kernel) ⟨by decide, Nat.le_of_ble_eq_true rfl⟩ ⟨by decide, by decide⟩ rfl ⟨rfl, rfl⟩
theorem lt4 : ∀ j, j < 4 → nI j < (4 : Int32) := by decide +kernel
set_option maxHeartbeats 4000000 in
theorem ct_T_portAt {l : Launch} (hl0 : l.stackTraces = false) {G : LG} {σ : HS} {i j : Nat} {n L : Nat} (hT : TS σ n L) (hi : i < n) (hj : j < 4) : Ct l G m_T_portAt [.ref (5 + 16 * 0), .int (nI i), .int (nI j)] (σ) (qd (.inr (some (.ref (1 + 16 * (4 * i + j))))) σ) := by
  refine Ct.of hl0 rfl rfl (Nat.le_of_ble_eq_true rfl) ?_
  show Ex l G m_T_portAt (pmV G m_T_portAt (qd (.inr (some (.ref (1 + 16 * (4 * i + j))))) σ)) 0 [(0, .ref (5 + 16 * 0)), (1, .int (nI i)), (2, .int (nI j))] [] (σ) 2 12
  refine e_aload_n d_T_portAt_0 rfl rfl ?_
  refine e_iload_n d_T_portAt_1 rfl rfl ?_
  refine e_callVd (v := some (.ref (2 + 16 * i))) (σ' := σ) (q := 5) (a := 0) (As := [.int (nI i)]) (st := []) 1 6 d_T_portAt_2 cb_T_portAt_108 iv_T_nodeAt rfl ⟨by decide, rfl⟩ rfl (Nat.le_of_ble_eq_true rfl) (by decide) (by decide) (ct_T_nodeAt hl0 hT hi) ?_
  show Ex l G m_T_portAt (pmV G m_T_portAt (qd (.inr (some (.ref (1 + 16 * (4 * i + j))))) σ)) 5 [(0, .ref (5 + 16 * 0)), (1, .int (nI i)), (2, .int (nI j))] [.ref (2 + 16 * i)] (σ) 1 6
  refine e_astore_n (lv' := [(3, .ref (2 + 16 * i)), (0, .ref (5 + 16 * 0)), (1, .int (nI i)), (2, .int (nI j))]) d_T_portAt_5 rfl (by decide) rfl ?_
  refine e_iload_n d_T_portAt_6 rfl rfl ?_
  refine e_iflt (tgt := 15) d_T_portAt_7 (by decide) (fun h7 => absurd h7 (nI_pos (by omega))) (fun h7 => ?_)
  refine e_iload_n d_T_portAt_10 rfl rfl ?_
  refine e_iconst (v := 4) d_T_portAt_11 (by decide) ?_
  refine e_icmplt (tgt := 25) d_T_portAt_12 (by decide) (fun h12 => ?_) (fun h12 => absurd (lt4 j hj) h12)
  refine e_aload_n d_T_portAt_25 rfl rfl ?_
  refine g_T_177 (b := 12 + 16 * i) rfl d_T_portAt_26 (hT.2.2.2.1 i hi).2.2.1 ?_
  refine e_iload_n d_T_portAt_29 rfl rfl ?_
  refine e_aald (b := 1 + 16 * (4 * i + j)) (C := _) d_T_portAt_30 ⟨by decide, by decide⟩ rfl (by rw [(hT.2.2.2.1 i hi).2.2.2.1]; exact nI_in hj (by decide)) (by rw [nI_clamp (by omega)]; exact ((hT.2.2.2.1 i hi).2.2.2.2 j hj).1) ?_
  exact e_aret d_T_portAt_31 rfl (Or.inl ⟨_, rfl⟩) ⟨rfl, rfl⟩
def hiR (σ : HS) (id : Int32) : Nat → Nat → Int32
  | 0, _ => 0
  | m + 1, i => if hI σ 0 (9 * i) 3 = id then 1 else hiR σ id m (i + 1)
set_option maxHeartbeats 4000000 in
theorem lp_T_hasIdentity {l : Launch} (hl0 : l.stackTraces = false) {G : LG} {σ : HS} {id : Int32} {n L : Nat} (hT : TS σ n L) : ∀ m i, i + m = n → Ex l G m_T_hasIdentity (pmV G m_T_hasIdentity (qd (.inr (some (.int (hiR σ id m i)))) σ)) 2 [(2, .int (nI i)), (0, .ref (5 + 16 * 0)), (1, .int (id))] [] (σ) 0 0 := by
  have hn10 := hT.2.2.1.2.2.1
  intro m
  induction m with
  | zero =>
    intro i hi
    obtain rfl : i = n := by omega
    refine e_iload_n d_T_hasIdentity_2 rfl rfl ?_
    refine e_aload_n d_T_hasIdentity_3 rfl rfl ?_
    refine g_T_28 rfl d_T_hasIdentity_4 ?_
    refine e_icmpge (tgt := 34) d_T_hasIdentity_7 (by decide) (fun h7 => ?_) (fun h7 => absurd (by rw [hT.2.2.1.1]; exact nI_le (Nat.le_refl _) (by omega)) h7)
    refine e_iconst (v := 0) d_T_hasIdentity_34 (by decide) ?_
    exact e_zret d_T_hasIdentity_35 rfl (by first | exact Or.inl rfl | exact Or.inr rfl) ⟨rfl, rfl⟩
  | succ m ih =>
    intro i hi
    have hin : i < n := by omega
    refine e_iload_n d_T_hasIdentity_2 rfl rfl ?_
    refine e_aload_n d_T_hasIdentity_3 rfl rfl ?_
    refine g_T_28 rfl d_T_hasIdentity_4 ?_
    refine e_icmpge (tgt := 34) d_T_hasIdentity_7 (by decide) (fun h7 => absurd h7 (by rw [hT.2.2.1.1]; exact nI_ge hin (by omega))) (fun h7 => ?_)
    refine e_aload_n d_T_hasIdentity_10 rfl rfl ?_
    refine g_T_11 (b := 10 + 16 * 0) rfl d_T_hasIdentity_11 hT.1.1 ?_
    refine e_iload_n d_T_hasIdentity_14 rfl rfl ?_
    refine e_aald (b := 2 + 16 * i) (C := _) d_T_hasIdentity_15 ⟨by decide, by decide⟩ rfl (by rw [hT.2.1.1]; exact nI_in (by omega) (by decide)) (by rw [nI_clamp (by omega)]; exact (hT.2.2.2.1 i hin).1) ?_
    refine g_T_64 (b := 0 + 16 * (9 * i)) rfl d_T_hasIdentity_16 (hT.2.2.2.1 i hin).2.1 ?_
    refine g_T_129 rfl d_T_hasIdentity_19 ?_
    refine e_iload_n d_T_hasIdentity_22 rfl rfl ?_
    refine e_icmpne (tgt := 28) d_T_hasIdentity_23 (by decide) (fun h23 => ?_) (fun h23 => ?_)
    ·
      refine e_iinc (v := nI (i + 1)) (lv' := [(2, .int (nI (i + 1))), (0, .ref (5 + 16 * 0)), (1, .int (id))]) d_T_hasIdentity_28 rfl (ofI1 i) (by decide) rfl ?_
      refine e_goto (tgt := 2) d_T_hasIdentity_31 (by decide) ?_
      exact e_lv (lv' := [(2, .int (nI (i + 1))), (0, .ref (5 + 16 * 0)), (1, .int (id))]) ⟨rfl, rfl, rfl, trivial⟩ (by have h9 := ih (i + 1) (by omega); rw [show hiR σ id (m + 1) i = hiR σ id m (i + 1) by simp [hiR, h23]]; exact h9)
    ·
      refine e_iconst (v := 1) d_T_hasIdentity_26 (by decide) ?_
      exact e_zret d_T_hasIdentity_27 rfl (by first | exact Or.inl rfl | exact Or.inr rfl) ⟨(by simp [hiR, h23]), rfl⟩
set_option maxHeartbeats 4000000 in
theorem ct_T_hasIdentity {l : Launch} (hl0 : l.stackTraces = false) {G : LG} {σ : HS} {id : Int32} {n L : Nat} (hT : TS σ n L)  : Ct l G m_T_hasIdentity [.ref (5 + 16 * 0), .int (id)] (σ) (qd (.inr (some (.int (hiR σ id n 0)))) σ) := by
  refine Ct.of hl0 rfl rfl (Nat.le_of_ble_eq_true rfl) ?_
  show Ex l G m_T_hasIdentity (pmV G m_T_hasIdentity (qd (.inr (some (.int (hiR σ id n 0)))) σ)) 0 [(0, .ref (5 + 16 * 0)), (1, .int (id))] [] (σ) 0 0
  refine e_iconst (v := 0) d_T_hasIdentity_0 (by decide) ?_
  refine e_istore_n (lv' := [(2, .int (0)), (0, .ref (5 + 16 * 0)), (1, .int (id))]) d_T_hasIdentity_1 rfl (by decide) rfl ?_
  exact e_lv (lv' := [(2, .int (nI 0)), (0, .ref (5 + 16 * 0)), (1, .int (id))]) ⟨rfl, rfl, rfl, trivial⟩ (lp_T_hasIdentity hl0 hT n 0 (by omega))
end
section
/-- what a round's hearing may write -/
def hfr (σ τ : HS) : Prop := hR τ = hR σ ∧ hl τ = hl σ ∧ hn τ = hn σ ∧ hJ τ = hJ σ ∧ ∀ q a k, ¬ (q = 0 ∨ (q = 1 ∧ (k = 4 ∨ k = 5)) ∨ (q = 5 ∧ k = 5)) → hI τ q a k = hI σ q a k
theorem hfr.rf {σ : HS} : hfr σ σ := ⟨rfl, rfl, rfl, rfl, fun _ _ _ _ => rfl⟩
theorem hfr.trans {σ τ υ : HS} (h : hfr σ τ) (h' : hfr τ υ) : hfr σ υ := ⟨h'.1.trans h.1, h'.2.1.trans h.2.1, h'.2.2.1.trans h.2.2.1, h'.2.2.2.1.trans h.2.2.2.1, fun q a k hn => (h'.2.2.2.2 q a k hn).trans (h.2.2.2.2 q a k hn)⟩
theorem hfr.sI1 {σ τ : HS} (h : hfr σ τ) {p k : Nat} {v : Int32} (hk : k = 4 ∨ k = 5) : hfr σ (sI τ 1 p k v) := ⟨h.1, h.2.1, h.2.2.1, h.2.2.2.1, fun q a j hn => by
  rw [I_sI, if_neg (fun z => hn (Or.inr (Or.inl ⟨z.1, by rw [z.2.2]; exact hk⟩)))]; exact h.2.2.2.2 q a j hn⟩
theorem hfr.sI5 {σ τ : HS} (h : hfr σ τ) {v : Int32} : hfr σ (sI τ 5 0 5 v) := ⟨h.1, h.2.1, h.2.2.1, h.2.2.2.1, fun q a j hn => by
  rw [I_sI, if_neg (fun z => hn (Or.inr (Or.inr ⟨z.1, z.2.2⟩)))]; exact h.2.2.2.2 q a j hn⟩
theorem hfr.sD0 {σ τ : HS} (h : hfr σ τ) {d : Nat} {f : DV} : hfr σ (sD τ d f) := ⟨h.1, h.2.1, h.2.2.1, h.2.2.2.1, fun q a j hn => by
  rw [I_sD, if_neg (fun z => hn (Or.inl z.1))]; exact h.2.2.2.2 q a j hn⟩
theorem TS.hear {σ τ : HS} {n L : Nat} (hT : TS σ n L) (h : hfr σ τ) : TS τ n L := by
  obtain ⟨h1, h2, h3, h4, h5, h6, h7, h8⟩ := hT
  have hi := h.2.2.2.2
  refine ⟨by rw [h.1]; exact h1, by rw [h.2.1]; exact h2, ⟨?_, ?_, h3.2.2⟩, fun i hin => ⟨by rw [h.1]; exact (h4 i hin).1, ?_⟩, by rw [h.1]; exact h5, by rw [h.1]; exact h6, fun p hp => ⟨?_, ?_⟩, fun i hin => ?_⟩
  · rw [hi 5 0 3 (by omega)]; exact h3.1
  · rw [hi 5 0 4 (by omega)]; exact h3.2.1
  · have := (h4 i hin).2
    unfold NS at this ⊢
    rw [h.1, h.2.1]; exact this
  · rw [hi 1 p 0 (by omega)]; exact (h7 p hp).1
  · rw [hi 1 p 1 (by omega)]; exact (h7 p hp).2
  · rw [hi 2 i 0 (by omega)]; exact h8 i hin
/-- the port at a link's other end; the port that sends to p -/
def farP (τ : HS) (k p : Nat) : Nat := if hR τ 3 k 0 = some (1 + 16 * p) then ((hR τ 3 k 1).getD 0) / 16 else ((hR τ 3 k 0).getD 0) / 16
def sdP (τ : HS) (p : Nat) : Option Nat := match hR τ 1 p 7 with
  | none => none
  | some x => if hI τ 3 (x / 16) 4 = 0 then none else if hI τ 1 (farP τ (x / 16) p) 6 = 1 then some (farP τ (x / 16) p) else none
theorem farP_eq {τ : HS} {k p x y : Nat} (hf : hR τ 3 k 0 = some (1 + 16 * x)) (hs : hR τ 3 k 1 = some (1 + 16 * y)) : farP τ k p = if p = x then y else x := by
  unfold farP
  rw [hf, hs]
  by_cases e : p = x
  · rw [if_pos (by rw [e]), if_pos e]; show (1 + 16 * y) / 16 = y; omega
  · rw [if_neg (fun z => e (by have := Option.some.inj z; omega)), if_neg e]; show (1 + 16 * x) / 16 = x; omega
theorem TS.lk {σ : HS} {n L : Nat} (hT : TS σ n L) {p : Nat} (hp : p < 4 * n) : hR σ 1 p 7 = none ∨ ∃ k x y, k < L ∧ x < 4 * n ∧ y < 4 * n ∧ hR σ 1 p 7 = some (3 + 16 * k) ∧ hR σ 3 k 0 = some (1 + 16 * x) ∧ hR σ 3 k 1 = some (1 + 16 * y) := by
  rcases hT.2.2.2.2.1 p hp with h | ⟨k, hk, h⟩
  · exact Or.inl h
  · obtain ⟨-, x, y, hx, hy, hf, hs⟩ := hT.2.2.2.2.2.1 k hk
    exact Or.inr ⟨k, x, y, hk, hx, hy, h, hf, hs⟩
theorem sdP_lt {σ : HS} {n L : Nat} (hT : TS σ n L) {p f : Nat} (hp : p < 4 * n) (h : sdP σ p = some f) : f < 4 * n := by
  rcases hT.lk hp with h1 | ⟨k, x, y, hk, hx, hy, h1, hf, hs⟩
  · unfold sdP at h; rw [h1] at h; cases h
  · unfold sdP at h
    rw [h1] at h
    have e : (3 + 16 * k) / 16 = k := by omega
    have hz : (if p = x then y else x) < 4 * n := by split <;> assumption
    simp only [e, farP_eq hf hs] at h
    generalize (if p = x then y else x) = z at h hz
    split at h
    · cases h
    · split at h
      · cases h; exact hz
      · cases h
theorem ct_P_findSender {l : Launch} (hl0 : l.stackTraces = false) {G : LG} {σ : HS} {n L p : Nat} (hT : TS σ n L) (hp : p < 4 * n) : Ct l G m_P_findSender [.ref (1 + 16 * p)] σ (qd (.inr (some (va_rf ((sdP σ p).map (fun f => 1 + 16 * f))))) σ) := by
  rcases hT.lk hp with h1 | ⟨k, x, y, hk, hx, hy, h1, hf, hs⟩
  · have e : sdP σ p = none := by unfold sdP; rw [h1]
    rw [e]; exact ct_P_findSender_n hl0 h1
  · have h := ct_P_findSender_s (l := l) (G := G) hl0 h1 hf hs
    have e : va_rf ((sdP σ p).map (fun f => 1 + 16 * f)) = fsdV σ p k x y := by
      unfold sdP fsdV
      rw [h1]
      have e1 : (3 + 16 * k) / 16 = k := by omega
      simp only [e1, farP_eq hf hs]
      generalize (if p = x then y else x) = z
      split
      · rfl
      · split <;> rfl
    rw [e]; exact h
theorem TS.told {σ : HS} {n L : Nat} (hT : TS σ n L) {f : Nat} (hf : f < 4 * n) : hR σ 1 f 3 = some (0 + 16 * (9 * (f / 4) + 2 + 2 * (f % 4))) := by
  have h := ((hT.2.2.2.1 (f / 4) (by omega)).2.2.2.2 (f % 4) (by omega)).2.2
  rw [show 4 * (f / 4) + f % 4 = f by omega] at h
  exact h
/-- a port has heard: the flag of a change -/
def flg (τ : HS) (v : Int32) : HS := if v = 0 then τ else sI τ 5 0 5 1
def tld (f : Nat) : Nat := 9 * (f / 4) + 2 + 2 * (f % 4)
theorem tld_ne {f i j : Nat} (hj : j < 4) : ¬ tld f = 9 * i + 1 + 2 * j := by
  unfold tld
  have h := Nat.mod_lt f (show 0 < 4 by decide)
  generalize f / 4 = a
  generalize f % 4 = b at h ⊢
  omega
def hrS (τ : HS) (i j : Nat) : HS := match sdP τ (4 * i + j) with
  | none => flg (growS τ (4 * i + j)) (growV τ (4 * i + j))
  | some f => if accV τ i (tld f) = 0 then flg (growS τ (4 * i + j)) (growV τ (4 * i + j)) else flg (keepS τ (4 * i + j) (9 * i + 1 + 2 * j) (tld f)) (keepR τ (4 * i + j) (9 * i + 1 + 2 * j) (tld f))
def hrN (τ : HS) (p : Nat) : Int32 := match sdP τ p with
  | none => 0
  | some _ => 1
def heS (σ : HS) (i : Nat) : Nat → HS
  | 0 => σ
  | j + 1 => hrS (heS σ i j) i j
def heN (σ : HS) (i : Nat) : Nat → Int32
  | 0 => 0
  | j + 1 => heN σ i j + hrN (heS σ i j) (4 * i + j)
theorem hfr.flg {σ τ : HS} (h : hfr σ τ) {v : Int32} : hfr σ (flg τ v) := by
  show hfr σ (if v = 0 then τ else sI τ 5 0 5 1)
  split
  · exact h
  · exact h.sI5
theorem hfr.grow {σ τ : HS} (h : hfr σ τ) {p : Nat} : hfr σ (growS τ p) := by
  unfold growS
  split
  · exact h
  · split
    · exact (h.sI1 (Or.inr rfl)).sI1 (Or.inl rfl)
    · exact h.sI1 (Or.inr rfl)
theorem hfr.keep {σ τ : HS} (h : hfr σ τ) {p c s : Nat} : hfr σ (keepS τ p c s) := by
  unfold keepS
  exact (h.sD0.sI1 (Or.inl rfl)).sI1 (Or.inr rfl)
theorem hfr.hr {σ τ : HS} (h : hfr σ τ) {i j : Nat} : hfr σ (hrS τ i j) := by
  unfold hrS
  split
  · exact h.grow.flg
  · split
    · exact h.grow.flg
    · exact h.keep.flg
theorem hfr.he {σ : HS} {i : Nat} : ∀ j, hfr σ (heS σ i j)
  | 0 => hfr.rf
  | j + 1 => (hfr.he j).hr
set_option maxHeartbeats 4000000 in
theorem lp_T_hearAtPorts {l : Launch} (hl0 : l.stackTraces = false) {G : LG} {σ : HS} {n L : Nat} (hT : TS σ n L) {i : Nat} (hi : i < n) : ∀ m j, j + m = 4 → Ex l G m_T_hearAtPorts (pmV G m_T_hearAtPorts (qd (.inr (some (.int (heN σ i 4)))) (heS σ i 4))) 4 [(3, .int (nI j)), (2, .int (heN σ i j)), (0, .ref (5 + 16 * 0)), (1, .ref (2 + 16 * i))] [] (heS σ i j) 0 0 := by
  intro m
  induction m with
  | zero =>
    intro j hj
    obtain rfl : j = 4 := by omega
    refine e_iload_n d_T_hearAtPorts_4 rfl rfl ?_
    refine e_iconst (v := 4) d_T_hearAtPorts_5 (by decide) ?_
    refine e_icmpge (tgt := 87) d_T_hearAtPorts_6 (by decide) (fun h6 => ?_) (fun h6 => absurd lp4t h6)
    refine e_iload_n d_T_hearAtPorts_87 rfl rfl ?_
    exact e_iret d_T_hearAtPorts_88 rfl ⟨rfl, rfl⟩
  | succ m ih =>
    intro j hj
    have hj4 : j < 4 := by omega
    have hT' : TS (heS σ i j) n L := hT.hear (hfr.he j)
    have hp : 4 * i + j < 4 * n := by omega
    have hN := (hT'.2.2.2.1 i hi).2
    have hct := ct_P_findSender (l := l) (G := G) hl0 hT' hp
    cases hsd : sdP (heS σ i j) (4 * i + j) with
    | none =>
      refine e_iload_n d_T_hearAtPorts_4 rfl rfl ?_
      refine e_iconst (v := 4) d_T_hearAtPorts_5 (by decide) ?_
      refine e_icmpge (tgt := 87) d_T_hearAtPorts_6 (by decide) (fun h6 => absurd h6 (lp4f hj4)) (fun h6 => ?_)
      refine e_aload_n d_T_hearAtPorts_9 rfl rfl ?_
      refine g_T_177 (b := 12 + 16 * i) rfl d_T_hearAtPorts_10 hN.2.1 ?_
      refine e_iload_n d_T_hearAtPorts_13 rfl rfl ?_
      refine e_aald (b := 1 + 16 * (4 * i + j)) (C := _) d_T_hearAtPorts_14 ⟨by decide, by decide⟩ rfl (by rw [hN.2.2.1]; exact nI_in hj4 (by decide)) (by rw [nI_clamp (by omega)]; exact (hN.2.2.2 j hj4).1) ?_
      refine e_astore (lv' := [(4, .ref (1 + 16 * (4 * i + j))), (3, .int (nI j)), (2, .int (heN σ i j)), (0, .ref (5 + 16 * 0)), (1, .ref (2 + 16 * i))]) d_T_hearAtPorts_15 (by decide) rfl ?_
      refine e_aload d_T_hearAtPorts_17 rfl ?_
      refine e_callVd (v := some (.null)) (σ' := heS σ i j) (q := 1) (a := 4 * i + j) (As := []) (st := []) 0 0 d_T_hearAtPorts_19 cb_T_hearAtPorts_185 iv_P_findSender rfl ⟨by decide, rfl⟩ rfl (Nat.le_of_ble_eq_true rfl) (by decide) (by decide) ((by rw [hsd] at hct; exact hct)) ?_
      show Ex l G m_T_hearAtPorts (pmV G m_T_hearAtPorts (qd (.inr (some (.int (heN σ i 4)))) (heS σ i 4))) 22 [(4, .ref (1 + 16 * (4 * i + j))), (3, .int (nI j)), (2, .int (heN σ i j)), (0, .ref (5 + 16 * 0)), (1, .ref (2 + 16 * i))] [.null] (heS σ i j) 0 0
      refine e_astoreN (lv' := [(5, .null), (4, .ref (1 + 16 * (4 * i + j))), (3, .int (nI j)), (2, .int (heN σ i j)), (0, .ref (5 + 16 * 0)), (1, .ref (2 + 16 * i))]) d_T_hearAtPorts_22 (by decide) rfl ?_
      refine e_aloadN d_T_hearAtPorts_24 rfl ?_
      refine e_ifnullN (tgt := 32) d_T_hearAtPorts_26 (by decide) ?_
      refine e_aloadN d_T_hearAtPorts_32 rfl ?_
      refine e_ifnullN (tgt := 64) d_T_hearAtPorts_34 (by decide) ?_
      refine e_aload d_T_hearAtPorts_64 rfl ?_
      refine e_callVd (v := some (.int (growV (heS σ i j) (4 * i + j)))) (σ' := growS (heS σ i j) (4 * i + j)) (q := 1) (a := 4 * i + j) (As := []) (st := []) 0 0 d_T_hearAtPorts_66 cb_T_hearAtPorts_199 iv_P_growOlder rfl ⟨by decide, rfl⟩ rfl (Nat.le_of_ble_eq_true rfl) (by decide) (by decide) (ct_P_growOlder hl0) ?_
      show Ex l G m_T_hearAtPorts (pmV G m_T_hearAtPorts (qd (.inr (some (.int (heN σ i 4)))) (heS σ i 4))) 69 [(5, .null), (4, .ref (1 + 16 * (4 * i + j))), (3, .int (nI j)), (2, .int (heN σ i j)), (0, .ref (5 + 16 * 0)), (1, .ref (2 + 16 * i))] [.int (growV (heS σ i j) (4 * i + j))] (growS (heS σ i j) (4 * i + j)) 0 0
      refine e_istore (lv' := [(6, .int (growV (heS σ i j) (4 * i + j))), (5, .null), (4, .ref (1 + 16 * (4 * i + j))), (3, .int (nI j)), (2, .int (heN σ i j)), (0, .ref (5 + 16 * 0)), (1, .ref (2 + 16 * i))]) d_T_hearAtPorts_69 (by decide) rfl ?_
      refine e_iload d_T_hearAtPorts_71 rfl ?_
      refine e_ifeq (tgt := 81) d_T_hearAtPorts_73 (by decide) (fun h73 => ?_) (fun h73 => ?_)
      ·
        refine e_iinc (v := nI (j + 1)) (lv' := [(3, .int (nI (j + 1))), (6, .int (growV (heS σ i j) (4 * i + j))), (5, .null), (4, .ref (1 + 16 * (4 * i + j))), (2, .int (heN σ i j)), (0, .ref (5 + 16 * 0)), (1, .ref (2 + 16 * i))]) d_T_hearAtPorts_81 rfl (ofI1 j) (by decide) rfl ?_
        refine e_goto (tgt := 4) d_T_hearAtPorts_84 (by decide) ?_
        exact e_lv (lv' := [(3, .int (nI (j + 1))), (2, .int (heN σ i j)), (0, .ref (5 + 16 * 0)), (1, .ref (2 + 16 * i))]) ⟨rfl, rfl, rfl, rfl, trivial⟩ (by have h9 := ih (j + 1) (by omega); rw [show heS σ i (j + 1) = growS (heS σ i j) (4 * i + j) by simp [heS, hrS, flg, hsd, h73], show heN σ i (j + 1) = heN σ i j by simp [heN, hrN, hsd]] at h9; exact h9)
      ·
        refine e_aload_n d_T_hearAtPorts_76 rfl rfl ?_
        refine e_iconst (v := 1) d_T_hearAtPorts_77 (by decide) ?_
        refine p_T_35 (by first | exact Or.inl rfl | exact Or.inr rfl) rfl d_T_hearAtPorts_78 ?_
        refine e_iinc (v := nI (j + 1)) (lv' := [(3, .int (nI (j + 1))), (6, .int (growV (heS σ i j) (4 * i + j))), (5, .null), (4, .ref (1 + 16 * (4 * i + j))), (2, .int (heN σ i j)), (0, .ref (5 + 16 * 0)), (1, .ref (2 + 16 * i))]) d_T_hearAtPorts_81 rfl (ofI1 j) (by decide) rfl ?_
        refine e_goto (tgt := 4) d_T_hearAtPorts_84 (by decide) ?_
        exact e_lv (lv' := [(3, .int (nI (j + 1))), (2, .int (heN σ i j)), (0, .ref (5 + 16 * 0)), (1, .ref (2 + 16 * i))]) ⟨rfl, rfl, rfl, rfl, trivial⟩ (by have h9 := ih (j + 1) (by omega); rw [show heS σ i (j + 1) = sI (growS (heS σ i j) (4 * i + j)) 5 (0) 5 (1) by simp [heS, hrS, flg, hsd, h73], show heN σ i (j + 1) = heN σ i j by simp [heN, hrN, hsd]] at h9; exact h9)
    | some f =>
      have hf : f < 4 * n := sdP_lt hT' hp hsd
      refine e_iload_n d_T_hearAtPorts_4 rfl rfl ?_
      refine e_iconst (v := 4) d_T_hearAtPorts_5 (by decide) ?_
      refine e_icmpge (tgt := 87) d_T_hearAtPorts_6 (by decide) (fun h6 => absurd h6 (lp4f hj4)) (fun h6 => ?_)
      refine e_aload_n d_T_hearAtPorts_9 rfl rfl ?_
      refine g_T_177 (b := 12 + 16 * i) rfl d_T_hearAtPorts_10 hN.2.1 ?_
      refine e_iload_n d_T_hearAtPorts_13 rfl rfl ?_
      refine e_aald (b := 1 + 16 * (4 * i + j)) (C := _) d_T_hearAtPorts_14 ⟨by decide, by decide⟩ rfl (by rw [hN.2.2.1]; exact nI_in hj4 (by decide)) (by rw [nI_clamp (by omega)]; exact (hN.2.2.2 j hj4).1) ?_
      refine e_astore (lv' := [(4, .ref (1 + 16 * (4 * i + j))), (3, .int (nI j)), (2, .int (heN σ i j)), (0, .ref (5 + 16 * 0)), (1, .ref (2 + 16 * i))]) d_T_hearAtPorts_15 (by decide) rfl ?_
      refine e_aload d_T_hearAtPorts_17 rfl ?_
      refine e_callVd (v := some (.ref (1 + 16 * f))) (σ' := heS σ i j) (q := 1) (a := 4 * i + j) (As := []) (st := []) 0 0 d_T_hearAtPorts_19 cb_T_hearAtPorts_185 iv_P_findSender rfl ⟨by decide, rfl⟩ rfl (Nat.le_of_ble_eq_true rfl) (by decide) (by decide) ((by rw [hsd] at hct; exact hct)) ?_
      show Ex l G m_T_hearAtPorts (pmV G m_T_hearAtPorts (qd (.inr (some (.int (heN σ i 4)))) (heS σ i 4))) 22 [(4, .ref (1 + 16 * (4 * i + j))), (3, .int (nI j)), (2, .int (heN σ i j)), (0, .ref (5 + 16 * 0)), (1, .ref (2 + 16 * i))] [.ref (1 + 16 * f)] (heS σ i j) 0 0
      refine e_astore (lv' := [(5, .ref (1 + 16 * f)), (4, .ref (1 + 16 * (4 * i + j))), (3, .int (nI j)), (2, .int (heN σ i j)), (0, .ref (5 + 16 * 0)), (1, .ref (2 + 16 * i))]) d_T_hearAtPorts_22 (by decide) rfl ?_
      refine e_aload d_T_hearAtPorts_24 rfl ?_
      refine e_ifnull d_T_hearAtPorts_26 ?_
      refine e_iinc (v := (heN σ i j) + (1)) (lv' := [(2, .int ((heN σ i j) + (1))), (5, .ref (1 + 16 * f)), (4, .ref (1 + 16 * (4 * i + j))), (3, .int (nI j)), (0, .ref (5 + 16 * 0)), (1, .ref (2 + 16 * i))]) d_T_hearAtPorts_29 rfl rfl (by decide) rfl ?_
      refine e_aload d_T_hearAtPorts_32 rfl ?_
      refine e_ifnull d_T_hearAtPorts_34 ?_
      refine e_aload_n d_T_hearAtPorts_37 rfl rfl ?_
      refine e_aload d_T_hearAtPorts_38 rfl ?_
      refine g_T_189 (b := 0 + 16 * (tld f)) rfl d_T_hearAtPorts_40 (hT'.told hf) ?_
      refine e_callVd (v := some (.int (accV (heS σ i j) i (tld f)))) (σ' := heS σ i j) (q := 2) (a := i) (As := [.ref (0 + 16 * (tld f))]) (st := []) 0 0 d_T_hearAtPorts_43 cb_T_hearAtPorts_192 iv_N_accepts rfl ⟨by decide, rfl⟩ rfl (Nat.le_of_ble_eq_true rfl) (by decide) (by decide) (ct_N_accepts hl0 hN) ?_
      show Ex l G m_T_hearAtPorts (pmV G m_T_hearAtPorts (qd (.inr (some (.int (heN σ i 4)))) (heS σ i 4))) 46 [(2, .int ((heN σ i j) + (1))), (5, .ref (1 + 16 * f)), (4, .ref (1 + 16 * (4 * i + j))), (3, .int (nI j)), (0, .ref (5 + 16 * 0)), (1, .ref (2 + 16 * i))] [.int (accV (heS σ i j) i (tld f))] (heS σ i j) 0 0
      refine e_ifeq (tgt := 64) d_T_hearAtPorts_46 (by decide) (fun h46 => ?_) (fun h46 => ?_)
      ·
        refine e_aload d_T_hearAtPorts_64 rfl ?_
        refine e_callVd (v := some (.int (growV (heS σ i j) (4 * i + j)))) (σ' := growS (heS σ i j) (4 * i + j)) (q := 1) (a := 4 * i + j) (As := []) (st := []) 0 0 d_T_hearAtPorts_66 cb_T_hearAtPorts_199 iv_P_growOlder rfl ⟨by decide, rfl⟩ rfl (Nat.le_of_ble_eq_true rfl) (by decide) (by decide) (ct_P_growOlder hl0) ?_
        show Ex l G m_T_hearAtPorts (pmV G m_T_hearAtPorts (qd (.inr (some (.int (heN σ i 4)))) (heS σ i 4))) 69 [(2, .int ((heN σ i j) + (1))), (5, .ref (1 + 16 * f)), (4, .ref (1 + 16 * (4 * i + j))), (3, .int (nI j)), (0, .ref (5 + 16 * 0)), (1, .ref (2 + 16 * i))] [.int (growV (heS σ i j) (4 * i + j))] (growS (heS σ i j) (4 * i + j)) 0 0
        refine e_istore (lv' := [(6, .int (growV (heS σ i j) (4 * i + j))), (2, .int ((heN σ i j) + (1))), (5, .ref (1 + 16 * f)), (4, .ref (1 + 16 * (4 * i + j))), (3, .int (nI j)), (0, .ref (5 + 16 * 0)), (1, .ref (2 + 16 * i))]) d_T_hearAtPorts_69 (by decide) rfl ?_
        refine e_iload d_T_hearAtPorts_71 rfl ?_
        refine e_ifeq (tgt := 81) d_T_hearAtPorts_73 (by decide) (fun h73 => ?_) (fun h73 => ?_)
        ·
          refine e_iinc (v := nI (j + 1)) (lv' := [(3, .int (nI (j + 1))), (6, .int (growV (heS σ i j) (4 * i + j))), (2, .int ((heN σ i j) + (1))), (5, .ref (1 + 16 * f)), (4, .ref (1 + 16 * (4 * i + j))), (0, .ref (5 + 16 * 0)), (1, .ref (2 + 16 * i))]) d_T_hearAtPorts_81 rfl (ofI1 j) (by decide) rfl ?_
          refine e_goto (tgt := 4) d_T_hearAtPorts_84 (by decide) ?_
          exact e_lv (lv' := [(3, .int (nI (j + 1))), (2, .int ((heN σ i j) + (1))), (0, .ref (5 + 16 * 0)), (1, .ref (2 + 16 * i))]) ⟨rfl, rfl, rfl, rfl, trivial⟩ (by have h9 := ih (j + 1) (by omega); rw [show heS σ i (j + 1) = growS (heS σ i j) (4 * i + j) by simp [heS, hrS, flg, hsd, h46, h73], show heN σ i (j + 1) = (heN σ i j) + (1) by simp [heN, hrN, hsd]] at h9; exact h9)
        ·
          refine e_aload_n d_T_hearAtPorts_76 rfl rfl ?_
          refine e_iconst (v := 1) d_T_hearAtPorts_77 (by decide) ?_
          refine p_T_35 (by first | exact Or.inl rfl | exact Or.inr rfl) rfl d_T_hearAtPorts_78 ?_
          refine e_iinc (v := nI (j + 1)) (lv' := [(3, .int (nI (j + 1))), (6, .int (growV (heS σ i j) (4 * i + j))), (2, .int ((heN σ i j) + (1))), (5, .ref (1 + 16 * f)), (4, .ref (1 + 16 * (4 * i + j))), (0, .ref (5 + 16 * 0)), (1, .ref (2 + 16 * i))]) d_T_hearAtPorts_81 rfl (ofI1 j) (by decide) rfl ?_
          refine e_goto (tgt := 4) d_T_hearAtPorts_84 (by decide) ?_
          exact e_lv (lv' := [(3, .int (nI (j + 1))), (2, .int ((heN σ i j) + (1))), (0, .ref (5 + 16 * 0)), (1, .ref (2 + 16 * i))]) ⟨rfl, rfl, rfl, rfl, trivial⟩ (by have h9 := ih (j + 1) (by omega); rw [show heS σ i (j + 1) = sI (growS (heS σ i j) (4 * i + j)) 5 (0) 5 (1) by simp [heS, hrS, flg, hsd, h46, h73], show heN σ i (j + 1) = (heN σ i j) + (1) by simp [heN, hrN, hsd]] at h9; exact h9)
      ·
        refine e_aload d_T_hearAtPorts_49 rfl ?_
        refine e_aload d_T_hearAtPorts_51 rfl ?_
        refine g_T_189 (b := 0 + 16 * (tld f)) rfl d_T_hearAtPorts_53 (hT'.told hf) ?_
        refine e_callVd (v := some (.int (keepR (heS σ i j) (4 * i + j) (9 * i + 1 + 2 * j) (tld f)))) (σ' := keepS (heS σ i j) (4 * i + j) (9 * i + 1 + 2 * j) (tld f)) (q := 1) (a := 4 * i + j) (As := [.ref (0 + 16 * (tld f))]) (st := []) 0 0 d_T_hearAtPorts_56 cb_T_hearAtPorts_196 iv_P_keep rfl ⟨by decide, rfl⟩ rfl (Nat.le_of_ble_eq_true rfl) (by decide) (by decide) (ct_P_keep hl0 (hN.2.2.2 j hj4).2.1 (tld_ne hj4)) ?_
        show Ex l G m_T_hearAtPorts (pmV G m_T_hearAtPorts (qd (.inr (some (.int (heN σ i 4)))) (heS σ i 4))) 59 [(2, .int ((heN σ i j) + (1))), (5, .ref (1 + 16 * f)), (4, .ref (1 + 16 * (4 * i + j))), (3, .int (nI j)), (0, .ref (5 + 16 * 0)), (1, .ref (2 + 16 * i))] [.int (keepR (heS σ i j) (4 * i + j) (9 * i + 1 + 2 * j) (tld f))] (keepS (heS σ i j) (4 * i + j) (9 * i + 1 + 2 * j) (tld f)) 0 0
        refine e_istore (lv' := [(6, .int (keepR (heS σ i j) (4 * i + j) (9 * i + 1 + 2 * j) (tld f))), (2, .int ((heN σ i j) + (1))), (5, .ref (1 + 16 * f)), (4, .ref (1 + 16 * (4 * i + j))), (3, .int (nI j)), (0, .ref (5 + 16 * 0)), (1, .ref (2 + 16 * i))]) d_T_hearAtPorts_59 (by decide) rfl ?_
        refine e_goto (tgt := 71) d_T_hearAtPorts_61 (by decide) ?_
        refine e_iload d_T_hearAtPorts_71 rfl ?_
        refine e_ifeq (tgt := 81) d_T_hearAtPorts_73 (by decide) (fun h73 => ?_) (fun h73 => ?_)
        ·
          refine e_iinc (v := nI (j + 1)) (lv' := [(3, .int (nI (j + 1))), (6, .int (keepR (heS σ i j) (4 * i + j) (9 * i + 1 + 2 * j) (tld f))), (2, .int ((heN σ i j) + (1))), (5, .ref (1 + 16 * f)), (4, .ref (1 + 16 * (4 * i + j))), (0, .ref (5 + 16 * 0)), (1, .ref (2 + 16 * i))]) d_T_hearAtPorts_81 rfl (ofI1 j) (by decide) rfl ?_
          refine e_goto (tgt := 4) d_T_hearAtPorts_84 (by decide) ?_
          exact e_lv (lv' := [(3, .int (nI (j + 1))), (2, .int ((heN σ i j) + (1))), (0, .ref (5 + 16 * 0)), (1, .ref (2 + 16 * i))]) ⟨rfl, rfl, rfl, rfl, trivial⟩ (by have h9 := ih (j + 1) (by omega); rw [show heS σ i (j + 1) = keepS (heS σ i j) (4 * i + j) (9 * i + 1 + 2 * j) (tld f) by simp [heS, hrS, flg, hsd, h46, h73], show heN σ i (j + 1) = (heN σ i j) + (1) by simp [heN, hrN, hsd]] at h9; exact h9)
        ·
          refine e_aload_n d_T_hearAtPorts_76 rfl rfl ?_
          refine e_iconst (v := 1) d_T_hearAtPorts_77 (by decide) ?_
          refine p_T_35 (by first | exact Or.inl rfl | exact Or.inr rfl) rfl d_T_hearAtPorts_78 ?_
          refine e_iinc (v := nI (j + 1)) (lv' := [(3, .int (nI (j + 1))), (6, .int (keepR (heS σ i j) (4 * i + j) (9 * i + 1 + 2 * j) (tld f))), (2, .int ((heN σ i j) + (1))), (5, .ref (1 + 16 * f)), (4, .ref (1 + 16 * (4 * i + j))), (0, .ref (5 + 16 * 0)), (1, .ref (2 + 16 * i))]) d_T_hearAtPorts_81 rfl (ofI1 j) (by decide) rfl ?_
          refine e_goto (tgt := 4) d_T_hearAtPorts_84 (by decide) ?_
          exact e_lv (lv' := [(3, .int (nI (j + 1))), (2, .int ((heN σ i j) + (1))), (0, .ref (5 + 16 * 0)), (1, .ref (2 + 16 * i))]) ⟨rfl, rfl, rfl, rfl, trivial⟩ (by have h9 := ih (j + 1) (by omega); rw [show heS σ i (j + 1) = sI (keepS (heS σ i j) (4 * i + j) (9 * i + 1 + 2 * j) (tld f)) 5 (0) 5 (1) by simp [heS, hrS, flg, hsd, h46, h73], show heN σ i (j + 1) = (heN σ i j) + (1) by simp [heN, hrN, hsd]] at h9; exact h9)
set_option maxHeartbeats 4000000 in
theorem ct_T_hearAtPorts {l : Launch} (hl0 : l.stackTraces = false) {G : LG} {σ : HS} {n L : Nat} (hT : TS σ n L) {i : Nat} (hi : i < n)  : Ct l G m_T_hearAtPorts [.ref (5 + 16 * 0), .ref (2 + 16 * i)] (σ) (qd (.inr (some (.int (heN σ i 4)))) (heS σ i 4)) := by
  refine Ct.of hl0 rfl rfl (Nat.le_of_ble_eq_true rfl) ?_
  show Ex l G m_T_hearAtPorts (pmV G m_T_hearAtPorts (qd (.inr (some (.int (heN σ i 4)))) (heS σ i 4))) 0 [(0, .ref (5 + 16 * 0)), (1, .ref (2 + 16 * i))] [] (σ) 0 0
  refine e_iconst (v := 0) d_T_hearAtPorts_0 (by decide) ?_
  refine e_istore_n (lv' := [(2, .int (0)), (0, .ref (5 + 16 * 0)), (1, .ref (2 + 16 * i))]) d_T_hearAtPorts_1 rfl (by decide) rfl ?_
  refine e_iconst (v := 0) d_T_hearAtPorts_2 (by decide) ?_
  refine e_istore_n (lv' := [(3, .int (0)), (2, .int (0)), (0, .ref (5 + 16 * 0)), (1, .ref (2 + 16 * i))]) d_T_hearAtPorts_3 rfl (by decide) rfl ?_
  exact e_lv (lv' := [(3, .int (nI 0)), (2, .int (heN σ i 0)), (0, .ref (5 + 16 * 0)), (1, .ref (2 + 16 * i))]) ⟨rfl, rfl, rfl, rfl, trivial⟩ (lp_T_hearAtPorts hl0 hT hi 4 0 rfl)
end
section
/-- what the tree's calls may write while its shape stays -/
def gfr (σ τ : HS) : Prop := (∀ q a k, ¬ (q = 2 ∧ k = 3) → hR τ q a k = hR σ q a k) ∧ hl τ = hl σ ∧ hn τ = hn σ ∧ ∀ q a k, ¬ (q = 0 ∨ (q = 1 ∧ 4 ≤ k) ∨ (q = 5 ∧ k = 5) ∨ q = 4) → hI τ q a k = hI σ q a k
theorem gfr.rf {σ : HS} : gfr σ σ := ⟨fun _ _ _ _ => rfl, rfl, rfl, fun _ _ _ _ => rfl⟩
theorem gfr.trans {σ τ υ : HS} (h : gfr σ τ) (h' : gfr τ υ) : gfr σ υ := ⟨fun q a k hn => (h'.1 q a k hn).trans (h.1 q a k hn), h'.2.1.trans h.2.1, h'.2.2.1.trans h.2.2.1, fun q a k hn => (h'.2.2.2 q a k hn).trans (h.2.2.2 q a k hn)⟩
theorem hfr.g {σ τ : HS} (h : hfr σ τ) : gfr σ τ := ⟨fun q a k _ => by rw [h.1], h.2.1, h.2.2.1, fun q a k hn => h.2.2.2.2 q a k (fun z => hn (by omega))⟩
theorem TS.g {σ τ : HS} {n L : Nat} (hT : TS σ n L) (h : gfr σ τ) : TS τ n L := by
  obtain ⟨h1, h2, h3, h4, h5, h6, h7, h8⟩ := hT
  have hi := h.2.2.2
  have hr := h.1
  refine ⟨⟨?_, ?_, ?_⟩, by rw [h.2.1]; exact h2, ⟨?_, ?_, h3.2.2⟩, fun i hin => ⟨?_, ?_⟩, fun p hp => ?_, fun k hk => ⟨?_, ?_⟩, fun p hp => ⟨?_, ?_⟩, fun i hin => ?_⟩
  · rw [hr 5 0 0 (by omega)]; exact h1.1
  · rw [hr 5 0 1 (by omega)]; exact h1.2.1
  · rw [hr 5 0 2 (by omega)]; exact h1.2.2
  · rw [hi 5 0 3 (by omega)]; exact h3.1
  · rw [hi 5 0 4 (by omega)]; exact h3.2.1
  · rw [hr 10 0 i (by omega)]; exact (h4 i hin).1
  · obtain ⟨a1, a2, a3, a4⟩ := (h4 i hin).2
    refine ⟨by rw [hr 2 i 1 (by omega)]; exact a1, by rw [hr 2 i 2 (by omega)]; exact a2, by rw [h.2.1]; exact a3, fun j hj => ⟨?_, ?_, ?_⟩⟩
    · rw [hr 12 i j (by omega)]; exact (a4 j hj).1
    · rw [hr 1 (4 * i + j) 2 (by omega)]; exact (a4 j hj).2.1
    · rw [hr 1 (4 * i + j) 3 (by omega)]; exact (a4 j hj).2.2
  · rw [hr 1 p 7 (by omega)]; exact h5 p hp
  · rw [hr 11 0 k (by omega)]; exact (h6 k hk).1
  · obtain ⟨-, x, y, b1, b2, b3, b4⟩ := h6 k hk
    exact ⟨x, y, b1, b2, by rw [hr 3 k 0 (by omega)]; exact b3, by rw [hr 3 k 1 (by omega)]; exact b4⟩
  · rw [hi 1 p 0 (by omega)]; exact (h7 p hp).1
  · rw [hi 1 p 1 (by omega)]; exact (h7 p hp).2
  · rw [hi 2 i 0 (by omega)]; exact h8 i hin
theorem gfr.flg {σ τ : HS} (h : gfr σ τ) {v : Int32} : gfr σ (flg τ v) := h.trans (hfr.rf.flg.g)
theorem gfr.sI5 {σ τ : HS} (h : gfr σ τ) {v : Int32} : gfr σ (sI τ 5 0 5 v) := h.trans (hfr.rf.sI5.g)
theorem gfr.fs {σ : HS} {i : Nat} : ∀ j, gfr σ (fsS σ i j)
  | 0 => ⟨fun q a k hn => by
      show hR (sR σ 2 i 3 _) q a k = _
      rw [R_sR, if_neg (by omega)], rfl, rfl, fun _ _ _ _ => rfl⟩
  | j + 1 => (gfr.fs j).trans ⟨fun _ _ _ _ => rfl, rfl, rfl, fun q a k hn => by
      show hI (sI (sD (fsS σ i j) _ _) 1 _ 6 _) q a k = _
      rw [I_sI, if_neg (by omega), I_sD, if_neg (by omega)]⟩
/-- the states of a round -/
def prS (σ : HS) : Nat → HS
  | 0 => sI σ 5 0 5 0
  | i + 1 => heS (prS σ i) i 4
def prN (σ : HS) : Nat → Int32
  | 0 => 0
  | i + 1 => prN σ i + heN (prS σ i) i 4
def prF (σ : HS) (n : Nat) : Nat → HS
  | 0 => prS σ n
  | i + 1 => flg (fsS (prF σ n i) i 4) (fsC (prF σ n i) i 4)
theorem gfr.prS {σ : HS} : ∀ i, gfr σ (prS σ i)
  | 0 => gfr.rf.sI5
  | i + 1 => (gfr.prS i).trans (hfr.he 4).g
theorem gfr.prF {σ : HS} {n : Nat} : ∀ i, gfr σ (prF σ n i)
  | 0 => gfr.prS n
  | i + 1 => ((gfr.prF i).trans (gfr.fs 4)).flg
set_option maxHeartbeats 4000000 in
theorem lq_T_playRound {l : Launch} (hl0 : l.stackTraces = false) {G : LG} {σ : HS} {c : Int32} {n L : Nat} (hT : TS σ n L) : ∀ m i, i + m = n → Ex l G m_T_playRound (pmV G m_T_playRound (qd (.inr (some (.int c))) (prF σ n n))) 38 [(2, .int (nI i)), (1, .int (c)), (0, .ref (5 + 16 * 0))] [] (prF σ n i) 0 0 := by
  have hn10 := hT.2.2.1.2.2.1
  intro m
  induction m with
  | zero =>
    intro i hi
    have hT' : TS (prF σ n i) n L := hT.g (gfr.prF i)
    obtain rfl : i = n := by omega
    refine e_iload_n d_T_playRound_38 rfl rfl ?_
    refine e_aload_n d_T_playRound_39 rfl rfl ?_
    refine g_T_28 rfl d_T_playRound_40 ?_
    refine e_icmpge (tgt := 69) d_T_playRound_43 (by decide) (fun h43 => ?_) (fun h43 => absurd (by rw [hT'.2.2.1.1]; exact nI_le (Nat.le_refl _) (by omega)) h43)
    refine e_iload_n d_T_playRound_69 rfl rfl ?_
    exact e_iret d_T_playRound_70 rfl ⟨rfl, rfl⟩
  | succ m ih =>
    intro i hi
    have hin : i < n := by omega
    have hT' : TS (prF σ n i) n L := hT.g (gfr.prF i)
    refine e_iload_n d_T_playRound_38 rfl rfl ?_
    refine e_aload_n d_T_playRound_39 rfl rfl ?_
    refine g_T_28 rfl d_T_playRound_40 ?_
    refine e_icmpge (tgt := 69) d_T_playRound_43 (by decide) (fun h43 => absurd h43 (by rw [hT'.2.2.1.1]; exact nI_ge hin (by omega))) (fun h43 => ?_)
    refine e_aload_n d_T_playRound_46 rfl rfl ?_
    refine g_T_11 (b := 10 + 16 * 0) rfl d_T_playRound_47 hT'.1.1 ?_
    refine e_iload_n d_T_playRound_50 rfl rfl ?_
    refine e_aald (b := 2 + 16 * i) (C := _) d_T_playRound_51 ⟨by decide, by decide⟩ rfl (by rw [hT'.2.1.1]; exact nI_in (by omega) (by decide)) (by rw [nI_clamp (by omega)]; exact (hT'.2.2.2.1 i hin).1) ?_
    refine e_callVd (v := some (.int (fsC (prF σ n i) i 4))) (σ' := fsS (prF σ n i) i 4) (q := 2) (a := i) (As := []) (st := []) 0 0 d_T_playRound_52 cb_T_playRound_74 iv_N_findStates rfl ⟨by decide, rfl⟩ rfl (Nat.le_of_ble_eq_true rfl) (by decide) (by decide) (ct_N_findStates hl0 (hT'.2.2.2.1 i hin).2 (fun j hj => (hT'.2.2.2.2.1 (4 * i + j) (by omega)).imp id (fun ⟨k, _, h⟩ => ⟨k, h⟩))) ?_
    show Ex l G m_T_playRound (pmV G m_T_playRound (qd (.inr (some (.int c))) (prF σ n n))) 55 [(2, .int (nI i)), (1, .int (c)), (0, .ref (5 + 16 * 0))] [.int (fsC (prF σ n i) i 4)] (fsS (prF σ n i) i 4) 0 0
    refine e_ifeq (tgt := 63) d_T_playRound_55 (by decide) (fun h55 => ?_) (fun h55 => ?_)
    ·
      refine e_iinc (v := nI (i + 1)) (lv' := [(2, .int (nI (i + 1))), (1, .int (c)), (0, .ref (5 + 16 * 0))]) d_T_playRound_63 rfl (ofI1 i) (by decide) rfl ?_
      refine e_goto (tgt := 38) d_T_playRound_66 (by decide) ?_
      exact e_lv (lv' := [(2, .int (nI (i + 1))), (1, .int (c)), (0, .ref (5 + 16 * 0))]) ⟨rfl, rfl, rfl, trivial⟩ (by have h9 := ih (i + 1) (by omega); rw [show prF σ n (i + 1) = fsS (prF σ n i) i 4 by simp [prF, flg, h55]] at h9; exact h9)
    ·
      refine e_aload_n d_T_playRound_58 rfl rfl ?_
      refine e_iconst (v := 1) d_T_playRound_59 (by decide) ?_
      refine p_T_35 (by first | exact Or.inl rfl | exact Or.inr rfl) rfl d_T_playRound_60 ?_
      refine e_iinc (v := nI (i + 1)) (lv' := [(2, .int (nI (i + 1))), (1, .int (c)), (0, .ref (5 + 16 * 0))]) d_T_playRound_63 rfl (ofI1 i) (by decide) rfl ?_
      refine e_goto (tgt := 38) d_T_playRound_66 (by decide) ?_
      exact e_lv (lv' := [(2, .int (nI (i + 1))), (1, .int (c)), (0, .ref (5 + 16 * 0))]) ⟨rfl, rfl, rfl, trivial⟩ (by have h9 := ih (i + 1) (by omega); rw [show prF σ n (i + 1) = sI (fsS (prF σ n i) i 4) 5 (0) 5 (1) by simp [prF, flg, h55]] at h9; exact h9)
set_option maxHeartbeats 4000000 in
theorem lp_T_playRound {l : Launch} (hl0 : l.stackTraces = false) {G : LG} {σ : HS} {n L : Nat} (hT : TS σ n L) : ∀ m i, i + m = n → Ex l G m_T_playRound (pmV G m_T_playRound (qd (.inr (some (.int (prN σ n)))) (prF σ n n))) 9 [(2, .int (nI i)), (1, .int (prN σ i)), (0, .ref (5 + 16 * 0))] [] (prS σ i) 0 0 := by
  have hn10 := hT.2.2.1.2.2.1
  intro m
  induction m with
  | zero =>
    intro i hi
    have hT' : TS (prS σ i) n L := hT.g (gfr.prS i)
    obtain rfl : i = n := by omega
    refine e_iload_n d_T_playRound_9 rfl rfl ?_
    refine e_aload_n d_T_playRound_10 rfl rfl ?_
    refine g_T_28 rfl d_T_playRound_11 ?_
    refine e_icmpge (tgt := 36) d_T_playRound_14 (by decide) (fun h14 => ?_) (fun h14 => absurd (by rw [hT'.2.2.1.1]; exact nI_le (Nat.le_refl _) (by omega)) h14)
    refine e_iconst (v := 0) d_T_playRound_36 (by decide) ?_
    refine e_istore_n (lv' := [(2, .int (0)), (1, .int (prN σ i)), (0, .ref (5 + 16 * 0))]) d_T_playRound_37 rfl (by decide) rfl ?_
    exact e_lv (lv' := [(2, .int (nI 0)), (1, .int (prN σ i)), (0, .ref (5 + 16 * 0))]) ⟨rfl, rfl, rfl, trivial⟩ (lq_T_playRound hl0 hT i 0 (by omega))
  | succ m ih =>
    intro i hi
    have hin : i < n := by omega
    have hT' : TS (prS σ i) n L := hT.g (gfr.prS i)
    refine e_iload_n d_T_playRound_9 rfl rfl ?_
    refine e_aload_n d_T_playRound_10 rfl rfl ?_
    refine g_T_28 rfl d_T_playRound_11 ?_
    refine e_icmpge (tgt := 36) d_T_playRound_14 (by decide) (fun h14 => absurd h14 (by rw [hT'.2.2.1.1]; exact nI_ge hin (by omega))) (fun h14 => ?_)
    refine e_iload_n d_T_playRound_17 rfl rfl ?_
    refine e_aload_n d_T_playRound_18 rfl rfl ?_
    refine e_aload_n d_T_playRound_19 rfl rfl ?_
    refine g_T_11 (b := 10 + 16 * 0) rfl d_T_playRound_20 hT'.1.1 ?_
    refine e_iload_n d_T_playRound_23 rfl rfl ?_
    refine e_aald (b := 2 + 16 * i) (C := _) d_T_playRound_24 ⟨by decide, by decide⟩ rfl (by rw [hT'.2.1.1]; exact nI_in (by omega) (by decide)) (by rw [nI_clamp (by omega)]; exact (hT'.2.2.2.1 i hin).1) ?_
    refine e_callVd (v := some (.int (heN (prS σ i) i 4))) (σ' := heS (prS σ i) i 4) (q := 5) (a := 0) (As := [.ref (2 + 16 * i)]) (st := [.int (prN σ i)]) 0 0 d_T_playRound_25 cb_T_playRound_181 iv_T_hearAtPorts rfl ⟨by decide, rfl⟩ rfl (Nat.le_of_ble_eq_true rfl) (by decide) (by decide) (ct_T_hearAtPorts hl0 hT' hin) ?_
    show Ex l G m_T_playRound (pmV G m_T_playRound (qd (.inr (some (.int (prN σ n)))) (prF σ n n))) 28 [(2, .int (nI i)), (1, .int (prN σ i)), (0, .ref (5 + 16 * 0))] [.int (heN (prS σ i) i 4), .int (prN σ i)] (heS (prS σ i) i 4) 0 0
    refine e_iadd d_T_playRound_28 ?_
    refine e_istore_n (lv' := [(1, .int ((prN σ i) + (heN (prS σ i) i 4))), (2, .int (nI i)), (0, .ref (5 + 16 * 0))]) d_T_playRound_29 rfl (by decide) rfl ?_
    refine e_iinc (v := nI (i + 1)) (lv' := [(2, .int (nI (i + 1))), (1, .int ((prN σ i) + (heN (prS σ i) i 4))), (0, .ref (5 + 16 * 0))]) d_T_playRound_30 rfl (ofI1 i) (by decide) rfl ?_
    refine e_goto (tgt := 9) d_T_playRound_33 (by decide) ?_
    exact e_lv (lv' := [(2, .int (nI (i + 1))), (1, .int (prN σ (i + 1))), (0, .ref (5 + 16 * 0))]) ⟨rfl, rfl, rfl, trivial⟩ (ih (i + 1) (by omega))
set_option maxHeartbeats 4000000 in
theorem ct_T_playRound {l : Launch} (hl0 : l.stackTraces = false) {G : LG} {σ : HS} {n L : Nat} (hT : TS σ n L)  : Ct l G m_T_playRound [.ref (5 + 16 * 0)] (σ) (qd (.inr (some (.int (prN σ n)))) (prF σ n n)) := by
  refine Ct.of hl0 rfl rfl (Nat.le_of_ble_eq_true rfl) ?_
  show Ex l G m_T_playRound (pmV G m_T_playRound (qd (.inr (some (.int (prN σ n)))) (prF σ n n))) 0 [(0, .ref (5 + 16 * 0))] [] (σ) 0 0
  refine e_aload_n d_T_playRound_0 rfl rfl ?_
  refine e_iconst (v := 0) d_T_playRound_1 (by decide) ?_
  refine p_T_35 (by first | exact Or.inl rfl | exact Or.inr rfl) rfl d_T_playRound_2 ?_
  refine e_iconst (v := 0) d_T_playRound_5 (by decide) ?_
  refine e_istore_n (lv' := [(1, .int (0)), (0, .ref (5 + 16 * 0))]) d_T_playRound_6 rfl (by decide) rfl ?_
  refine e_iconst (v := 0) d_T_playRound_7 (by decide) ?_
  refine e_istore_n (lv' := [(2, .int (0)), (1, .int (0)), (0, .ref (5 + 16 * 0))]) d_T_playRound_8 rfl (by decide) rfl ?_
  exact e_lv (lv' := [(2, .int (nI 0)), (1, .int (prN σ 0)), (0, .ref (5 + 16 * 0))]) ⟨rfl, rfl, rfl, trivial⟩ (lp_T_playRound hl0 hT n 0 (by omega))
def rdS (σ : HS) (n : Nat) : Nat → HS
  | 0 => σ
  | k + 1 => prF (rdS σ n k) n n
def rdN (σ : HS) (n : Nat) : Nat → Int32
  | 0 => 0
  | k + 1 => rdN σ n k + prN (rdS σ n k) n
theorem gfr.rd {σ : HS} {n : Nat} : ∀ k, gfr σ (rdS σ n k)
  | 0 => gfr.rf
  | k + 1 => (gfr.rd k).trans (gfr.prF n)
set_option maxHeartbeats 4000000 in
theorem lp_T_round {l : Launch} (hl0 : l.stackTraces = false) {G : LG} {σ : HS} {r : Nat} (hr : r ≤ 50) {n L : Nat} (hT : TS σ n L) : ∀ m k, k + m = r → Ex l G m_T_round (pmV G m_T_round (qd (.inr (some (.int (rdN σ n r)))) (rdS σ n r))) 25 [(3, .int (nI k)), (2, .int (rdN σ n k)), (0, .ref (5 + 16 * 0)), (1, .int (nI r))] [] (rdS σ n k) 1 6 := by
  intro m
  induction m with
  | zero =>
    intro k hk
    obtain rfl : k = r := by omega
    refine e_iload_n d_T_round_25 rfl rfl ?_
    refine e_iload_n d_T_round_26 rfl rfl ?_
    refine e_icmpge (tgt := 43) d_T_round_27 (by decide) (fun h27 => ?_) (fun h27 => absurd (nI_le (Nat.le_refl _) (by omega)) h27)
    refine e_iload_n d_T_round_43 rfl rfl ?_
    exact e_iret d_T_round_44 rfl ⟨rfl, rfl⟩
  | succ m ih =>
    intro k hk
    have hkr : k < r := by omega
    have hT' : TS (rdS σ n k) n L := hT.g (gfr.rd k)
    refine e_iload_n d_T_round_25 rfl rfl ?_
    refine e_iload_n d_T_round_26 rfl rfl ?_
    refine e_icmpge (tgt := 43) d_T_round_27 (by decide) (fun h27 => absurd h27 (nI_ge hkr (by omega))) (fun h27 => ?_)
    refine e_iload_n d_T_round_30 rfl rfl ?_
    refine e_aload_n d_T_round_31 rfl rfl ?_
    refine e_callVd (v := some (.int (prN (rdS σ n k) n))) (σ' := prF (rdS σ n k) n n) (q := 5) (a := 0) (As := []) (st := [.int (rdN σ n k)]) 1 6 d_T_round_32 cb_T_round_119 iv_T_playRound rfl ⟨by decide, rfl⟩ rfl (Nat.le_of_ble_eq_true rfl) (by decide) (by decide) (ct_T_playRound hl0 hT') ?_
    show Ex l G m_T_round (pmV G m_T_round (qd (.inr (some (.int (rdN σ n r)))) (rdS σ n r))) 35 [(3, .int (nI k)), (2, .int (rdN σ n k)), (0, .ref (5 + 16 * 0)), (1, .int (nI r))] [.int (prN (rdS σ n k) n), .int (rdN σ n k)] (prF (rdS σ n k) n n) 1 6
    refine e_iadd d_T_round_35 ?_
    refine e_istore_n (lv' := [(2, .int ((rdN σ n k) + (prN (rdS σ n k) n))), (3, .int (nI k)), (0, .ref (5 + 16 * 0)), (1, .int (nI r))]) d_T_round_36 rfl (by decide) rfl ?_
    refine e_iinc (v := nI (k + 1)) (lv' := [(3, .int (nI (k + 1))), (2, .int ((rdN σ n k) + (prN (rdS σ n k) n))), (0, .ref (5 + 16 * 0)), (1, .int (nI r))]) d_T_round_37 rfl (ofI1 k) (by decide) rfl ?_
    refine e_goto (tgt := 25) d_T_round_40 (by decide) ?_
    exact e_lv (lv' := [(3, .int (nI (k + 1))), (2, .int (rdN σ n (k + 1))), (0, .ref (5 + 16 * 0)), (1, .int (nI r))]) ⟨rfl, rfl, rfl, rfl, trivial⟩ (ih (k + 1) (by omega))
theorem n1_le : ∀ r, 1 ≤ r → r ≤ 50 → ¬ nI r < (1 : Int32) := fun r h1 h2 => by rw [show (1 : Int32) = nI 1 by decide +kernel]; exact nI_nlt h1 (by omega)
theorem n50_le : ∀ r, r ≤ 50 → nI r ≤ (50 : Int32) := fun r h2 => by rw [show (50 : Int32) = nI 50 by decide +kernel]; exact nI_le h2 (by omega)
set_option maxHeartbeats 4000000 in
theorem ct_T_round {l : Launch} (hl0 : l.stackTraces = false) {G : LG} {σ : HS} {r : Nat} {n L : Nat} (hT : TS σ n L) (hr1 : 1 ≤ r) (hr5 : r ≤ 50) : Ct l G m_T_round [.ref (5 + 16 * 0), .int (nI r)] (σ) (qd (.inr (some (.int (rdN σ n r)))) (rdS σ n r)) := by
  refine Ct.of hl0 rfl rfl (Nat.le_of_ble_eq_true rfl) ?_
  show Ex l G m_T_round (pmV G m_T_round (qd (.inr (some (.int (rdN σ n r)))) (rdS σ n r))) 0 [(0, .ref (5 + 16 * 0)), (1, .int (nI r))] [] (σ) 1 6
  refine e_iload_n d_T_round_0 rfl rfl ?_
  refine e_iconst (v := 1) d_T_round_1 (by decide) ?_
  refine e_icmplt (tgt := 11) d_T_round_2 (by decide) (fun h2 => absurd h2 (n1_le r hr1 hr5)) (fun h2 => ?_)
  refine e_iload_n d_T_round_5 rfl rfl ?_
  refine e_bipush (v := 50) d_T_round_6 (by decide) ?_
  refine e_icmple (tgt := 21) d_T_round_8 (by decide) (fun h8 => ?_) (fun h8 => absurd (n50_le r hr5) h8)
  refine e_iconst (v := 0) d_T_round_21 (by decide) ?_
  refine e_istore_n (lv' := [(2, .int (0)), (0, .ref (5 + 16 * 0)), (1, .int (nI r))]) d_T_round_22 rfl (by decide) rfl ?_
  refine e_iconst (v := 0) d_T_round_23 (by decide) ?_
  refine e_istore_n (lv' := [(3, .int (0)), (2, .int (0)), (0, .ref (5 + 16 * 0)), (1, .int (nI r))]) d_T_round_24 rfl (by decide) rfl ?_
  exact e_lv (lv' := [(3, .int (nI 0)), (2, .int (rdN σ n 0)), (0, .ref (5 + 16 * 0)), (1, .int (nI r))]) ⟨rfl, rfl, rfl, rfl, trivial⟩ (lp_T_round hl0 hr5 hT r 0 (by omega))
set_option maxHeartbeats 4000000 in
theorem ct_T_round_x {l : Launch} (hl0 : l.stackTraces = false) {G : LG} {σ : HS} {v : Int32} (hx : v < 1 ∨ ¬ v ≤ 50) : Ct l G m_T_round [.ref (5 + 16 * 0), .int (v)] (σ) (qd (.inl 0) σ) := by
  refine Ct.of hl0 rfl rfl (Nat.le_of_ble_eq_true rfl) ?_
  show Ex l G m_T_round (pmV G m_T_round (qd (.inl 0) σ)) 0 [(0, .ref (5 + 16 * 0)), (1, .int (v))] [] (σ) 1 6
  refine e_iload_n d_T_round_0 rfl rfl ?_
  refine e_iconst (v := 1) d_T_round_1 (by decide) ?_
  refine e_icmplt (tgt := 11) d_T_round_2 (by decide) (fun h2 => ?_) (fun h2 => ?_)
  ·
    exact e_iae rfl d_T_round_11 d_T_round_14 d_T_round_15 d_T_round_17 d_T_round_20 (by decide +kernel) ⟨by decide, Nat.le_of_ble_eq_true rfl⟩ ⟨by decide, by decide⟩ rfl ⟨rfl, rfl⟩
  ·
    refine e_iload_n d_T_round_5 rfl rfl ?_
    refine e_bipush (v := 50) d_T_round_6 (by decide) ?_
    refine e_icmple (tgt := 21) d_T_round_8 (by decide) (fun h8 => absurd h8 (hx.resolve_left h2)) (fun h8 => ?_)
    exact e_iae rfl d_T_round_11 d_T_round_14 d_T_round_15 d_T_round_17 d_T_round_20 (by decide +kernel) ⟨by decide, Nat.le_of_ble_eq_true rfl⟩ ⟨by decide, by decide⟩ rfl ⟨rfl, rfl⟩
def seQ (n : Nat) : Nat → Nat → HS → HS × Int32
  | 0, k, σ => (σ, nI k)
  | m + 1, k, σ => if hI (prF σ n n) 5 0 5 = 0 then (prF σ n n, nI (k + 1)) else if m = 0 then (prF σ n n, nI (k + 1)) else seQ n m (k + 1) (prF σ n n)
theorem n60_lt : ∀ k, k < 60 → nI k < (60 : Int32) := fun k h => by rw [show (60 : Int32) = nI 60 by decide +kernel]; exact nI_lt h (by omega)
theorem n60_nlt : ¬ nI 60 < (60 : Int32) := by decide +kernel
set_option maxHeartbeats 4000000 in
theorem lp_T_settle {l : Launch} (hl0 : l.stackTraces = false) {G : LG} {n L : Nat} : ∀ m k (σ : HS), TS σ n L → k + (m + 1) = 60 → Ex l G m_T_settle (pmV G m_T_settle (qd (.inr (some (.int (seQ n (m + 1) k σ).2))) (seQ n (m + 1) k σ).1)) 2 [(1, .int (nI k)), (0, .ref (5 + 16 * 0))] [] (σ) 0 0 := by
  intro m
  induction m with
  | zero =>
    intro k σ hT hk
    obtain rfl : k = 59 := by omega
    refine e_aload_n d_T_settle_2 rfl rfl ?_
    refine e_callVd (v := some (.int (prN σ n))) (σ' := prF σ n n) (q := 5) (a := 0) (As := []) (st := []) 0 0 d_T_settle_3 cb_T_settle_119 iv_T_playRound rfl ⟨by decide, rfl⟩ rfl (Nat.le_of_ble_eq_true rfl) (by decide) (by decide) (ct_T_playRound hl0 hT) ?_
    show Ex l G m_T_settle (pmV G m_T_settle (qd (.inr (some (.int (seQ n (0 + 1) 59 σ).2))) (seQ n (0 + 1) 59 σ).1)) 6 [(1, .int (nI 59)), (0, .ref (5 + 16 * 0))] [.int (prN σ n)] (prF σ n n) 0 0
    refine e_pop d_T_settle_6 rfl ?_
    refine e_iinc (v := nI (59 + 1)) (lv' := [(1, .int (nI (59 + 1))), (0, .ref (5 + 16 * 0))]) d_T_settle_7 rfl (ofI1 59) (by decide) rfl ?_
    refine e_aload_n d_T_settle_10 rfl rfl ?_
    refine g_T_35 rfl d_T_settle_11 ?_
    refine e_ifeq (tgt := 23) d_T_settle_14 (by decide) (fun h14 => ?_) (fun h14 => ?_)
    ·
      refine e_iload_n d_T_settle_23 rfl rfl ?_
      exact e_iret d_T_settle_24 rfl ⟨by simp [seQ, h14], by simp [seQ, h14]⟩
    ·
      refine e_iload_n d_T_settle_17 rfl rfl ?_
      refine e_bipush (v := 60) d_T_settle_18 (by decide) ?_
      refine e_icmplt (tgt := 2) d_T_settle_20 (by decide) (fun h20 => absurd h20 n60_nlt) (fun h20 => ?_)
      refine e_iload_n d_T_settle_23 rfl rfl ?_
      exact e_iret d_T_settle_24 rfl ⟨by simp [seQ, h14], by simp [seQ, h14]⟩
  | succ m ih =>
    intro k σ hT hk
    refine e_aload_n d_T_settle_2 rfl rfl ?_
    refine e_callVd (v := some (.int (prN σ n))) (σ' := prF σ n n) (q := 5) (a := 0) (As := []) (st := []) 0 0 d_T_settle_3 cb_T_settle_119 iv_T_playRound rfl ⟨by decide, rfl⟩ rfl (Nat.le_of_ble_eq_true rfl) (by decide) (by decide) (ct_T_playRound hl0 hT) ?_
    show Ex l G m_T_settle (pmV G m_T_settle (qd (.inr (some (.int (seQ n (m + 1 + 1) k σ).2))) (seQ n (m + 1 + 1) k σ).1)) 6 [(1, .int (nI k)), (0, .ref (5 + 16 * 0))] [.int (prN σ n)] (prF σ n n) 0 0
    refine e_pop d_T_settle_6 rfl ?_
    refine e_iinc (v := nI (k + 1)) (lv' := [(1, .int (nI (k + 1))), (0, .ref (5 + 16 * 0))]) d_T_settle_7 rfl (ofI1 k) (by decide) rfl ?_
    refine e_aload_n d_T_settle_10 rfl rfl ?_
    refine g_T_35 rfl d_T_settle_11 ?_
    refine e_ifeq (tgt := 23) d_T_settle_14 (by decide) (fun h14 => ?_) (fun h14 => ?_)
    ·
      refine e_iload_n d_T_settle_23 rfl rfl ?_
      exact e_iret d_T_settle_24 rfl ⟨by simp [seQ, h14], by simp [seQ, h14]⟩
    ·
      refine e_iload_n d_T_settle_17 rfl rfl ?_
      refine e_bipush (v := 60) d_T_settle_18 (by decide) ?_
      refine e_icmplt (tgt := 2) d_T_settle_20 (by decide) (fun h20 => ?_) (fun h20 => absurd (n60_lt (k + 1) (by omega)) h20)
      exact e_lv (lv' := [(1, .int (nI (k + 1))), (0, .ref (5 + 16 * 0))]) ⟨rfl, rfl, trivial⟩ (by have h9 := ih (k + 1) (prF σ n n) (hT.g (gfr.prF n)) (by omega); rw [show seQ n (m + 1 + 1) k σ = seQ n (m + 1) (k + 1) (prF σ n n) by rw [seQ]; simp [h14]]; exact h9)
set_option maxHeartbeats 4000000 in
theorem ct_T_settle {l : Launch} (hl0 : l.stackTraces = false) {G : LG} {σ : HS} {n L : Nat} (hT : TS σ n L)  : Ct l G m_T_settle [.ref (5 + 16 * 0)] (σ) (qd (.inr (some (.int (seQ n 60 0 σ).2))) (seQ n 60 0 σ).1) := by
  refine Ct.of hl0 rfl rfl (Nat.le_of_ble_eq_true rfl) ?_
  show Ex l G m_T_settle (pmV G m_T_settle (qd (.inr (some (.int (seQ n 60 0 σ).2))) (seQ n 60 0 σ).1)) 0 [(0, .ref (5 + 16 * 0))] [] (σ) 0 0
  refine e_iconst (v := 0) d_T_settle_0 (by decide) ?_
  refine e_istore_n (lv' := [(1, .int (0)), (0, .ref (5 + 16 * 0))]) d_T_settle_1 rfl (by decide) rfl ?_
  exact e_lv (lv' := [(1, .int (nI 0)), (0, .ref (5 + 16 * 0))]) ⟨rfl, rfl, trivial⟩ (lp_T_settle hl0 59 0 σ hT rfl)
end
section
theorem small {v : Int32} {N : Nat} (hN : N < 2 ^ 31) (h0 : ¬ v < 0) (h : ¬ nI N ≤ v) : ∃ j, j < N ∧ v = nI j := by
  have h1 : 0 ≤ v.toInt := by
    rw [Int32.lt_iff_toInt_lt, Int32.toInt_zero] at h0; omega
  have h2 : v.toInt < N := by
    rw [Int32.le_iff_toInt_le, nI_toInt hN] at h; omega
  refine ⟨v.toInt.toNat, by omega, ?_⟩
  apply Int32.toInt_inj.mp
  rw [nI_toInt (by omega)]
  omega
/-- the open slave port of node i, whose best dataset is b -/
def osP (σ : HS) (i b : Nat) : Option Nat := if hI σ 0 b 7 < 0 ∨ 4 ≤ hI σ 0 b 7 then none else match hR σ 1 (4 * i + (hI σ 0 b 7).toNatClampNeg) 7 with
  | none => none
  | some x => if hI σ 3 (x / 16) 4 = 0 then none else some (4 * i + (hI σ 0 b 7).toNatClampNeg)
set_option maxHeartbeats 4000000 in
theorem ct_T_openSlaveOf_x {l : Launch} (hl0 : l.stackTraces = false) {G : LG} {σ : HS} {i b : Nat} (hB : hR σ 2 i 3 = some (0 + 16 * b)) (hx : hI σ 0 b 7 < 0 ∨ 4 ≤ hI σ 0 b 7) : Ct l G m_T_openSlaveOf [.ref (2 + 16 * i)] (σ) (qd (.inr (some .null)) σ) := by
  refine Ct.of hl0 rfl rfl (Nat.le_of_ble_eq_true rfl) ?_
  show Ex l G m_T_openSlaveOf (pmV G m_T_openSlaveOf (qd (.inr (some .null)) σ)) 0 [(0, .ref (2 + 16 * i))] [] (σ) 0 0
  refine e_aload_n d_T_openSlaveOf_0 rfl rfl ?_
  refine g_T_126 (b := 0 + 16 * b) rfl d_T_openSlaveOf_1 hB ?_
  refine g_T_202 rfl d_T_openSlaveOf_4 ?_
  refine e_istore_n (lv' := [(1, .int (hI (σ) 0 (b) 7)), (0, .ref (2 + 16 * i))]) d_T_openSlaveOf_7 rfl (by decide) rfl ?_
  refine e_iload_n d_T_openSlaveOf_8 rfl rfl ?_
  refine e_iflt (tgt := 17) d_T_openSlaveOf_9 (by decide) (fun h9 => ?_) (fun h9 => ?_)
  ·
    refine e_null d_T_openSlaveOf_17 ?_
    exact e_aretN d_T_openSlaveOf_18 rfl (Or.inl ⟨_, rfl⟩) ⟨rfl, rfl⟩
  ·
    refine e_iload_n d_T_openSlaveOf_12 rfl rfl ?_
    refine e_iconst (v := 4) d_T_openSlaveOf_13 (by decide) ?_
    refine e_icmplt (tgt := 19) d_T_openSlaveOf_14 (by decide) (fun h14 => absurd h14 (Int32.not_lt.mpr (hx.resolve_left h9))) (fun h14 => ?_)
    refine e_null d_T_openSlaveOf_17 ?_
    exact e_aretN d_T_openSlaveOf_18 rfl (Or.inl ⟨_, rfl⟩) ⟨rfl, rfl⟩
set_option maxHeartbeats 4000000 in
theorem ct_T_openSlaveOf_n {l : Launch} (hl0 : l.stackTraces = false) {G : LG} {σ : HS} {i b j : Nat} (hN : NS σ i) (hB : hR σ 2 i 3 = some (0 + 16 * b)) (hj : j < 4) (hv : hI σ 0 b 7 = nI j) (hk : hR σ 1 (4 * i + j) 7 = none) : Ct l G m_T_openSlaveOf [.ref (2 + 16 * i)] (σ) (qd (.inr (some .null)) σ) := by
  refine Ct.of hl0 rfl rfl (Nat.le_of_ble_eq_true rfl) ?_
  show Ex l G m_T_openSlaveOf (pmV G m_T_openSlaveOf (qd (.inr (some .null)) σ)) 0 [(0, .ref (2 + 16 * i))] [] (σ) 0 0
  refine e_aload_n d_T_openSlaveOf_0 rfl rfl ?_
  refine g_T_126 (b := 0 + 16 * b) rfl d_T_openSlaveOf_1 hB ?_
  refine g_T_202 rfl d_T_openSlaveOf_4 ?_
  rw [hv]
  refine e_istore_n (lv' := [(1, .int (nI j)), (0, .ref (2 + 16 * i))]) d_T_openSlaveOf_7 rfl (by decide) rfl ?_
  refine e_iload_n d_T_openSlaveOf_8 rfl rfl ?_
  refine e_iflt (tgt := 17) d_T_openSlaveOf_9 (by decide) (fun h9 => absurd h9 (nI_pos (by omega))) (fun h9 => ?_)
  refine e_iload_n d_T_openSlaveOf_12 rfl rfl ?_
  refine e_iconst (v := 4) d_T_openSlaveOf_13 (by decide) ?_
  refine e_icmplt (tgt := 19) d_T_openSlaveOf_14 (by decide) (fun h14 => ?_) (fun h14 => absurd (lt4 j hj) h14)
  refine e_aload_n d_T_openSlaveOf_19 rfl rfl ?_
  refine g_T_177 (b := 12 + 16 * i) rfl d_T_openSlaveOf_20 hN.2.1 ?_
  refine e_iload_n d_T_openSlaveOf_23 rfl rfl ?_
  refine e_aald (b := 1 + 16 * (4 * i + j)) (C := _) d_T_openSlaveOf_24 ⟨by decide, by decide⟩ rfl (by rw [hN.2.2.1]; exact nI_in hj (by decide)) (by rw [nI_clamp (by omega)]; exact (hN.2.2.2 j hj).1) ?_
  refine e_astore_n (lv' := [(2, .ref (1 + 16 * (4 * i + j))), (1, .int (nI j)), (0, .ref (2 + 16 * i))]) d_T_openSlaveOf_25 rfl (by decide) rfl ?_
  refine e_aload_n d_T_openSlaveOf_26 rfl rfl ?_
  refine g_T_92N rfl d_T_openSlaveOf_27 hk ?_
  refine e_ifnullN (tgt := 47) d_T_openSlaveOf_30 (by decide) ?_
  refine e_null d_T_openSlaveOf_47 ?_
  exact e_aretN d_T_openSlaveOf_48 rfl (Or.inl ⟨_, rfl⟩) ⟨rfl, rfl⟩
set_option maxHeartbeats 4000000 in
theorem ct_T_openSlaveOf_s {l : Launch} (hl0 : l.stackTraces = false) {G : LG} {σ : HS} {i b j : Nat} (hN : NS σ i) (hB : hR σ 2 i 3 = some (0 + 16 * b)) (hj : j < 4) (hv : hI σ 0 b 7 = nI j) {k : Nat} (hk : hR σ 1 (4 * i + j) 7 = some (3 + 16 * k)) : Ct l G m_T_openSlaveOf [.ref (2 + 16 * i)] (σ) (qd (.inr (some (if hI σ 3 k 4 = 0 then .null else .ref (1 + 16 * (4 * i + j))))) σ) := by
  refine Ct.of hl0 rfl rfl (Nat.le_of_ble_eq_true rfl) ?_
  show Ex l G m_T_openSlaveOf (pmV G m_T_openSlaveOf (qd (.inr (some (if hI σ 3 k 4 = 0 then .null else .ref (1 + 16 * (4 * i + j))))) σ)) 0 [(0, .ref (2 + 16 * i))] [] (σ) 0 0
  refine e_aload_n d_T_openSlaveOf_0 rfl rfl ?_
  refine g_T_126 (b := 0 + 16 * b) rfl d_T_openSlaveOf_1 hB ?_
  refine g_T_202 rfl d_T_openSlaveOf_4 ?_
  rw [hv]
  refine e_istore_n (lv' := [(1, .int (nI j)), (0, .ref (2 + 16 * i))]) d_T_openSlaveOf_7 rfl (by decide) rfl ?_
  refine e_iload_n d_T_openSlaveOf_8 rfl rfl ?_
  refine e_iflt (tgt := 17) d_T_openSlaveOf_9 (by decide) (fun h9 => absurd h9 (nI_pos (by omega))) (fun h9 => ?_)
  refine e_iload_n d_T_openSlaveOf_12 rfl rfl ?_
  refine e_iconst (v := 4) d_T_openSlaveOf_13 (by decide) ?_
  refine e_icmplt (tgt := 19) d_T_openSlaveOf_14 (by decide) (fun h14 => ?_) (fun h14 => absurd (lt4 j hj) h14)
  refine e_aload_n d_T_openSlaveOf_19 rfl rfl ?_
  refine g_T_177 (b := 12 + 16 * i) rfl d_T_openSlaveOf_20 hN.2.1 ?_
  refine e_iload_n d_T_openSlaveOf_23 rfl rfl ?_
  refine e_aald (b := 1 + 16 * (4 * i + j)) (C := _) d_T_openSlaveOf_24 ⟨by decide, by decide⟩ rfl (by rw [hN.2.2.1]; exact nI_in hj (by decide)) (by rw [nI_clamp (by omega)]; exact (hN.2.2.2 j hj).1) ?_
  refine e_astore_n (lv' := [(2, .ref (1 + 16 * (4 * i + j))), (1, .int (nI j)), (0, .ref (2 + 16 * i))]) d_T_openSlaveOf_25 rfl (by decide) rfl ?_
  refine e_aload_n d_T_openSlaveOf_26 rfl rfl ?_
  refine g_T_92 (b := 3 + 16 * k) rfl d_T_openSlaveOf_27 hk ?_
  refine e_ifnull d_T_openSlaveOf_30 ?_
  refine e_aload_n d_T_openSlaveOf_33 rfl rfl ?_
  refine g_T_92 (b := 3 + 16 * k) rfl d_T_openSlaveOf_34 hk ?_
  refine g_T_105 rfl d_T_openSlaveOf_37 ?_
  refine e_ifeq (tgt := 47) d_T_openSlaveOf_40 (by decide) (fun h40 => ?_) (fun h40 => ?_)
  ·
    refine e_null d_T_openSlaveOf_47 ?_
    exact e_aretN d_T_openSlaveOf_48 rfl (Or.inl ⟨_, rfl⟩) ⟨by simp [h40], rfl⟩
  ·
    refine e_aload_n d_T_openSlaveOf_43 rfl rfl ?_
    refine e_goto (tgt := 48) d_T_openSlaveOf_44 (by decide) ?_
    exact e_aret d_T_openSlaveOf_48 rfl (Or.inl ⟨_, rfl⟩) ⟨by simp [h40], rfl⟩
theorem ct_T_openSlaveOf {l : Launch} (hl0 : l.stackTraces = false) {G : LG} {σ : HS} {n L i b : Nat} (hT : TS σ n L) (hi : i < n) (hB : hR σ 2 i 3 = some (0 + 16 * b)) : Ct l G m_T_openSlaveOf [.ref (2 + 16 * i)] σ (qd (.inr (some (va_rf ((osP σ i b).map (fun f => 1 + 16 * f))))) σ) := by
  have hN := (hT.2.2.2.1 i hi).2
  by_cases hx : hI σ 0 b 7 < 0 ∨ 4 ≤ hI σ 0 b 7
  · have e : osP σ i b = none := by unfold osP; rw [if_pos hx]
    rw [e]; exact ct_T_openSlaveOf_x hl0 hB hx
  · obtain ⟨j, hj, hv⟩ := small (N := 4) (by decide) (fun z => hx (Or.inl z)) (fun z => hx (Or.inr (by rw [nI4]; exact z)))
    have e0 : osP σ i b = match hR σ 1 (4 * i + j) 7 with
      | none => none
      | some x => if hI σ 3 (x / 16) 4 = 0 then none else some (4 * i + j) := by
      unfold osP
      rw [if_neg hx, hv, nI_clamp (by omega)]
    rcases hT.lk (p := 4 * i + j) (by omega) with h1 | ⟨k, x, y, hk, hx2, hy, h1, hf, hs⟩
    · rw [e0, h1]; exact ct_T_openSlaveOf_n hl0 hN hB hj hv h1
    · have h := ct_T_openSlaveOf_s (l := l) (G := G) hl0 hN hB hj hv h1
      have e : va_rf ((osP σ i b).map (fun f => 1 + 16 * f)) = (if hI σ 3 k 4 = 0 then Value.null else .ref (1 + 16 * (4 * i + j))) := by
        rw [e0, h1]
        have e1 : (3 + 16 * k) / 16 = k := by omega
        simp only [e1]
        split <;> rfl
      rw [e]; exact h
/-- an exchange: what the reckoner holds behind it (t, the delays with the rests, the master's and the own offset, the rests) -/
noncomputable def xO1 (σ : HS) (t : Int64) (a b : Int32) : Int32 := R_noteTimes_O (hI σ 4 0 0) (hJ σ 4 0) t a b
def xJ1 (σ : HS) (t : Int64) (a b : Int32) : Nat → Int64 := R_noteTimes_J (hI σ 4 0 0) (hJ σ 4 0) t a b
noncomputable def xO2 (σ : HS) (t : Int64) (a b : Int32) (m w : Int64) : Int32 := R_noteClocks_O (xO1 σ t a b) (xJ1 σ t a b) m w
noncomputable def xJ2 (σ : HS) (t : Int64) (a b : Int32) (m w : Int64) : Nat → Int64 := R_noteClocks_J (xO1 σ t a b) (xJ1 σ t a b) m w
noncomputable def xO3 (σ : HS) (t : Int64) (a b : Int32) (m w : Int64) (r u : Int32) : Int32 := R_find_O (xO2 σ t a b m w) (xJ2 σ t a b m w) w r u
noncomputable def xJ3 (σ : HS) (t : Int64) (a b : Int32) (m w : Int64) (r u : Int32) : Nat → Int64 := R_find_J (xO2 σ t a b m w) (xJ2 σ t a b m w) w r u
theorem rk_hI {σ : HS} {ov : Int32} {js : Nat → Int64} {q a k : Nat} (h : q ≠ 4) : hI (rk σ 0 ov js) q a k = hI σ q a k := if_neg (fun z => h z.1)
theorem rk_hJ {σ : HS} {ov : Int32} {js : Nat → Int64} {q a k : Nat} (h : q ≠ 4) : hJ (rk σ 0 ov js) q a k = hJ σ q a k := if_neg (fun z => h z.1)
noncomputable def scV (O : Int32) : Int32 := if O = 0 then 1 else 0
noncomputable def scS (σ : HS) (i : Nat) (O : Int32) (J : Nat → Int64) : HS := if O = 0 then sJ (sJ (rk σ 0 O J) 2 i 4 (J 3)) 2 i 5 (J 2) else rk σ 0 O J
set_option maxHeartbeats 4000000 in
theorem ct_T_setClock {l : Launch} (hl0 : l.stackTraces = false) {G : LG} {σ : HS} {i p k x y f : Nat} {t : Int64} {r u dT dF : Int32} {n L : Nat} (hT : TS σ n L) (hf4 : f < 4 * n) (hk : hR σ 1 p 7 = some (3 + 16 * k)) (hfx : hR σ 3 k 0 = some (1 + 16 * x)) (hsy : hR σ 3 k 1 = some (1 + 16 * y)) (hff : f = if p = x then y else x) (hdT : dT = if p = x then hI σ 3 k 3 else hI σ 3 k 2) (hdF : dF = if p = x then hI σ 3 k 2 else hI σ 3 k 3)  : Ct l G m_T_setClock [.ref (5 + 16 * 0), .ref (2 + 16 * i), .ref (1 + 16 * p), .long (t), .int (r), .int (u)] (σ) (qd (.inr (some (.int (scV (xO3 σ t (dT + r) (dF + u) (hJ σ 2 (f / 4) 4) (hJ σ 2 i 4) r u))))) (scS σ i (xO3 σ t (dT + r) (dF + u) (hJ σ 2 (f / 4) 4) (hJ σ 2 i 4) r u) (xJ3 σ t (dT + r) (dF + u) (hJ σ 2 (f / 4) 4) (hJ σ 2 i 4) r u))) := by
  refine Ct.of hl0 rfl rfl (Nat.le_of_ble_eq_true rfl) ?_
  show Ex l G m_T_setClock (pmV G m_T_setClock (qd (.inr (some (.int (scV (xO3 σ t (dT + r) (dF + u) (hJ σ 2 (f / 4) 4) (hJ σ 2 i 4) r u))))) (scS σ i (xO3 σ t (dT + r) (dF + u) (hJ σ 2 (f / 4) 4) (hJ σ 2 i 4) r u) (xJ3 σ t (dT + r) (dF + u) (hJ σ 2 (f / 4) 4) (hJ σ 2 i 4) r u)))) 0 [(0, .ref (5 + 16 * 0)), (1, .ref (2 + 16 * i)), (2, .ref (1 + 16 * p)), (3, .long (t)), (5, .int (r)), (6, .int (u))] [] (σ) 0 0
  have hn10 := hT.2.2.1.2.2.1
  refine e_aload_n d_T_setClock_0 rfl rfl ?_
  refine g_T_92 (b := 3 + 16 * k) rfl d_T_setClock_1 hk ?_
  refine e_astore (lv' := [(7, .ref (3 + 16 * k)), (0, .ref (5 + 16 * 0)), (1, .ref (2 + 16 * i)), (2, .ref (1 + 16 * p)), (3, .long (t)), (5, .int (r)), (6, .int (u))]) d_T_setClock_4 (by decide) rfl ?_
  refine e_aload_n d_T_setClock_6 rfl rfl ?_
  refine g_T_11 (b := 10 + 16 * 0) rfl d_T_setClock_7 hT.1.1 ?_
  refine e_aload d_T_setClock_10 rfl ?_
  refine e_aload_n d_T_setClock_12 rfl rfl ?_
  refine e_callVd (v := some (.ref (1 + 16 * f))) (σ' := σ) (q := 3) (a := k) (As := [.ref (1 + 16 * p)]) (st := [.ref (10 + 16 * 0)]) 0 0 d_T_setClock_13 cb_T_setClock_205 iv_K_farFrom rfl ⟨by decide, rfl⟩ rfl (Nat.le_of_ble_eq_true rfl) (by decide) (by decide) ((by rw [show 1 + 16 * f = (if p = x then 1 + 16 * y else 1 + 16 * x) by rw [hff]; split <;> rfl]; exact ct_K_farFrom hl0 hfx hsy)) ?_
  show Ex l G m_T_setClock (pmV G m_T_setClock (qd (.inr (some (.int (scV (xO3 σ t (dT + r) (dF + u) (hJ σ 2 (f / 4) 4) (hJ σ 2 i 4) r u))))) (scS σ i (xO3 σ t (dT + r) (dF + u) (hJ σ 2 (f / 4) 4) (hJ σ 2 i 4) r u) (xJ3 σ t (dT + r) (dF + u) (hJ σ 2 (f / 4) 4) (hJ σ 2 i 4) r u)))) 16 [(7, .ref (3 + 16 * k)), (0, .ref (5 + 16 * 0)), (1, .ref (2 + 16 * i)), (2, .ref (1 + 16 * p)), (3, .long (t)), (5, .int (r)), (6, .int (u))] [.ref (1 + 16 * f), .ref (10 + 16 * 0)] (σ) 0 0
  refine g_T_209 rfl d_T_setClock_16 ?_
  rw [(hT.2.2.2.2.2.2.1 f hf4).1]
  refine e_aald (b := 2 + 16 * (f / 4)) (C := _) d_T_setClock_19 ⟨by decide, by decide⟩ rfl (by rw [hT.2.1.1]; exact nI_in (by omega) (by decide)) (by rw [nI_clamp (by omega)]; exact (hT.2.2.2.1 (f / 4) (by omega)).1) ?_
  refine e_astore (lv' := [(8, .ref (2 + 16 * (f / 4))), (7, .ref (3 + 16 * k)), (0, .ref (5 + 16 * 0)), (1, .ref (2 + 16 * i)), (2, .ref (1 + 16 * p)), (3, .long (t)), (5, .int (r)), (6, .int (u))]) d_T_setClock_20 (by decide) rfl ?_
  refine e_aload_n d_T_setClock_22 rfl rfl ?_
  refine g_T_24 (b := 4 + 16 * 0) rfl d_T_setClock_23 hT.1.2.2 ?_
  refine e_lload_n d_T_setClock_26 rfl rfl ?_
  refine e_aload d_T_setClock_27 rfl ?_
  refine e_aload_n d_T_setClock_29 rfl rfl ?_
  refine e_callVd (v := some (.int (dT))) (σ' := σ) (q := 3) (a := k) (As := [.ref (1 + 16 * p)]) (st := [.long (t), .ref (4 + 16 * 0)]) 0 0 d_T_setClock_30 cb_T_setClock_212 iv_K_delayTo rfl ⟨by decide, rfl⟩ rfl (Nat.le_of_ble_eq_true rfl) (by decide) (by decide) ((by rw [hdT]; exact ct_K_delayTo hl0 hfx)) ?_
  show Ex l G m_T_setClock (pmV G m_T_setClock (qd (.inr (some (.int (scV (xO3 σ t (dT + r) (dF + u) (hJ σ 2 (f / 4) 4) (hJ σ 2 i 4) r u))))) (scS σ i (xO3 σ t (dT + r) (dF + u) (hJ σ 2 (f / 4) 4) (hJ σ 2 i 4) r u) (xJ3 σ t (dT + r) (dF + u) (hJ σ 2 (f / 4) 4) (hJ σ 2 i 4) r u)))) 33 [(8, .ref (2 + 16 * (f / 4))), (7, .ref (3 + 16 * k)), (0, .ref (5 + 16 * 0)), (1, .ref (2 + 16 * i)), (2, .ref (1 + 16 * p)), (3, .long (t)), (5, .int (r)), (6, .int (u))] [.int (dT), .long (t), .ref (4 + 16 * 0)] (σ) 0 0
  refine e_iload d_T_setClock_33 rfl ?_
  refine e_iadd d_T_setClock_35 ?_
  refine e_aload d_T_setClock_36 rfl ?_
  refine e_aload_n d_T_setClock_38 rfl rfl ?_
  refine e_callVd (v := some (.int (dF))) (σ' := σ) (q := 3) (a := k) (As := [.ref (1 + 16 * p)]) (st := [.int ((dT) + (r)), .long (t), .ref (4 + 16 * 0)]) 0 0 d_T_setClock_39 cb_T_setClock_216 iv_K_delayFrom rfl ⟨by decide, rfl⟩ rfl (Nat.le_of_ble_eq_true rfl) (by decide) (by decide) ((by rw [hdF]; exact ct_K_delayFrom hl0 hfx)) ?_
  show Ex l G m_T_setClock (pmV G m_T_setClock (qd (.inr (some (.int (scV (xO3 σ t (dT + r) (dF + u) (hJ σ 2 (f / 4) 4) (hJ σ 2 i 4) r u))))) (scS σ i (xO3 σ t (dT + r) (dF + u) (hJ σ 2 (f / 4) 4) (hJ σ 2 i 4) r u) (xJ3 σ t (dT + r) (dF + u) (hJ σ 2 (f / 4) 4) (hJ σ 2 i 4) r u)))) 42 [(8, .ref (2 + 16 * (f / 4))), (7, .ref (3 + 16 * k)), (0, .ref (5 + 16 * 0)), (1, .ref (2 + 16 * i)), (2, .ref (1 + 16 * p)), (3, .long (t)), (5, .int (r)), (6, .int (u))] [.int (dF), .int ((dT) + (r)), .long (t), .ref (4 + 16 * 0)] (σ) 0 0
  refine e_iload d_T_setClock_42 rfl ?_
  refine e_iadd d_T_setClock_44 ?_
  refine e_callVd (v := none) (σ' := rk σ 0 (xO1 σ t (dT + r) (dF + u)) (xJ1 σ t (dT + r) (dF + u))) (q := 4) (a := 0) (As := [.long (t), .int ((dT) + (r)), .int ((dF) + (u))]) (st := []) 0 0 d_T_setClock_45 cb_T_setClock_219 iv_R_noteTimes rfl ⟨by decide, rfl⟩ rfl (Nat.le_of_ble_eq_true rfl) (by decide) (by decide) ((by have h := ct_R_noteTimes (l := l) (G := G) hl0 (σ := σ) (r := 0) (ov := hI σ 4 0 0) (js := hJ σ 4 0) (t := t) (a := dT + r) (b := dF + u); rw [rk_self] at h; exact h)) ?_
  show Ex l G m_T_setClock (pmV G m_T_setClock (qd (.inr (some (.int (scV (xO3 σ t (dT + r) (dF + u) (hJ σ 2 (f / 4) 4) (hJ σ 2 i 4) r u))))) (scS σ i (xO3 σ t (dT + r) (dF + u) (hJ σ 2 (f / 4) 4) (hJ σ 2 i 4) r u) (xJ3 σ t (dT + r) (dF + u) (hJ σ 2 (f / 4) 4) (hJ σ 2 i 4) r u)))) 48 [(8, .ref (2 + 16 * (f / 4))), (7, .ref (3 + 16 * k)), (0, .ref (5 + 16 * 0)), (1, .ref (2 + 16 * i)), (2, .ref (1 + 16 * p)), (3, .long (t)), (5, .int (r)), (6, .int (u))] [] (rk σ 0 (xO1 σ t (dT + r) (dF + u)) (xJ1 σ t (dT + r) (dF + u))) 0 0
  refine e_aload_n d_T_setClock_48 rfl rfl ?_
  refine g_T_24 (b := 4 + 16 * 0) rfl d_T_setClock_49 hT.1.2.2 ?_
  refine e_aload d_T_setClock_52 rfl ?_
  refine g_T_166 rfl d_T_setClock_54 ?_
  rw [show hJ (rk σ 0 (xO1 σ t (dT + r) (dF + u)) (xJ1 σ t (dT + r) (dF + u))) 2 (f / 4) 4 = hJ σ 2 (f / 4) 4 from rk_hJ (by decide)]
  refine e_aload_n d_T_setClock_57 rfl rfl ?_
  refine g_T_166 rfl d_T_setClock_58 ?_
  rw [show hJ (rk σ 0 (xO1 σ t (dT + r) (dF + u)) (xJ1 σ t (dT + r) (dF + u))) 2 (i) 4 = hJ σ 2 (i) 4 from rk_hJ (by decide)]
  refine e_callVd (v := none) (σ' := rk σ 0 (xO2 σ t (dT + r) (dF + u) (hJ σ 2 (f / 4) 4) (hJ σ 2 i 4)) (xJ2 σ t (dT + r) (dF + u) (hJ σ 2 (f / 4) 4) (hJ σ 2 i 4))) (q := 4) (a := 0) (As := [.long (hJ σ 2 (f / 4) 4), .long (hJ σ 2 (i) 4)]) (st := []) 0 0 d_T_setClock_61 cb_T_setClock_223 iv_R_noteClocks rfl ⟨by decide, rfl⟩ rfl (Nat.le_of_ble_eq_true rfl) (by decide) (by decide) (ct_R_noteClocks hl0) ?_
  show Ex l G m_T_setClock (pmV G m_T_setClock (qd (.inr (some (.int (scV (xO3 σ t (dT + r) (dF + u) (hJ σ 2 (f / 4) 4) (hJ σ 2 i 4) r u))))) (scS σ i (xO3 σ t (dT + r) (dF + u) (hJ σ 2 (f / 4) 4) (hJ σ 2 i 4) r u) (xJ3 σ t (dT + r) (dF + u) (hJ σ 2 (f / 4) 4) (hJ σ 2 i 4) r u)))) 64 [(8, .ref (2 + 16 * (f / 4))), (7, .ref (3 + 16 * k)), (0, .ref (5 + 16 * 0)), (1, .ref (2 + 16 * i)), (2, .ref (1 + 16 * p)), (3, .long (t)), (5, .int (r)), (6, .int (u))] [] (rk σ 0 (xO2 σ t (dT + r) (dF + u) (hJ σ 2 (f / 4) 4) (hJ σ 2 i 4)) (xJ2 σ t (dT + r) (dF + u) (hJ σ 2 (f / 4) 4) (hJ σ 2 i 4))) 0 0
  refine e_aload_n d_T_setClock_64 rfl rfl ?_
  refine g_T_24 (b := 4 + 16 * 0) rfl d_T_setClock_65 hT.1.2.2 ?_
  refine e_aload_n d_T_setClock_68 rfl rfl ?_
  refine g_T_166 rfl d_T_setClock_69 ?_
  rw [show hJ (rk σ 0 (xO2 σ t (dT + r) (dF + u) (hJ σ 2 (f / 4) 4) (hJ σ 2 i 4)) (xJ2 σ t (dT + r) (dF + u) (hJ σ 2 (f / 4) 4) (hJ σ 2 i 4))) 2 (i) 4 = hJ σ 2 (i) 4 from rk_hJ (by decide)]
  refine e_iload d_T_setClock_72 rfl ?_
  refine e_iload d_T_setClock_74 rfl ?_
  refine e_callVd (v := none) (σ' := rk σ 0 (xO3 σ t (dT + r) (dF + u) (hJ σ 2 (f / 4) 4) (hJ σ 2 i 4) r u) (xJ3 σ t (dT + r) (dF + u) (hJ σ 2 (f / 4) 4) (hJ σ 2 i 4) r u)) (q := 4) (a := 0) (As := [.long (hJ σ 2 (i) 4), .int (r), .int (u)]) (st := []) 0 0 d_T_setClock_76 cb_T_setClock_227 iv_R_find rfl ⟨by decide, rfl⟩ rfl (Nat.le_of_ble_eq_true rfl) (by decide) (by decide) (ct_R_find hl0) ?_
  show Ex l G m_T_setClock (pmV G m_T_setClock (qd (.inr (some (.int (scV (xO3 σ t (dT + r) (dF + u) (hJ σ 2 (f / 4) 4) (hJ σ 2 i 4) r u))))) (scS σ i (xO3 σ t (dT + r) (dF + u) (hJ σ 2 (f / 4) 4) (hJ σ 2 i 4) r u) (xJ3 σ t (dT + r) (dF + u) (hJ σ 2 (f / 4) 4) (hJ σ 2 i 4) r u)))) 79 [(8, .ref (2 + 16 * (f / 4))), (7, .ref (3 + 16 * k)), (0, .ref (5 + 16 * 0)), (1, .ref (2 + 16 * i)), (2, .ref (1 + 16 * p)), (3, .long (t)), (5, .int (r)), (6, .int (u))] [] (rk σ 0 (xO3 σ t (dT + r) (dF + u) (hJ σ 2 (f / 4) 4) (hJ σ 2 i 4) r u) (xJ3 σ t (dT + r) (dF + u) (hJ σ 2 (f / 4) 4) (hJ σ 2 i 4) r u)) 0 0
  refine e_aload_n d_T_setClock_79 rfl rfl ?_
  refine g_T_24 (b := 4 + 16 * 0) rfl d_T_setClock_80 hT.1.2.2 ?_
  refine g_T_230 rfl d_T_setClock_83 ?_
  rw [show hI (rk σ 0 (xO3 σ t (dT + r) (dF + u) (hJ σ 2 (f / 4) 4) (hJ σ 2 i 4) r u) (xJ3 σ t (dT + r) (dF + u) (hJ σ 2 (f / 4) 4) (hJ σ 2 i 4) r u)) 4 (0) 0 = xO3 σ t (dT + r) (dF + u) (hJ σ 2 (f / 4) 4) (hJ σ 2 i 4) r u from I_rk]
  refine e_ifeq (tgt := 91) d_T_setClock_86 (by decide) (fun h86 => ?_) (fun h86 => ?_)
  ·
    refine e_aload_n d_T_setClock_91 rfl rfl ?_
    refine e_aload_n d_T_setClock_92 rfl rfl ?_
    refine g_T_24 (b := 4 + 16 * 0) rfl d_T_setClock_93 hT.1.2.2 ?_
    refine g_T_233 rfl d_T_setClock_96 ?_
    rw [show hJ (rk σ 0 (xO3 σ t (dT + r) (dF + u) (hJ σ 2 (f / 4) 4) (hJ σ 2 i 4) r u) (xJ3 σ t (dT + r) (dF + u) (hJ σ 2 (f / 4) 4) (hJ σ 2 i 4) r u)) 4 (0) 3 = (xJ3 σ t (dT + r) (dF + u) (hJ σ 2 (f / 4) 4) (hJ σ 2 i 4) r u) 3 from J_rk]
    refine p_T_166 rfl d_T_setClock_99 ?_
    refine e_aload_n d_T_setClock_102 rfl rfl ?_
    refine e_aload_n d_T_setClock_103 rfl rfl ?_
    refine g_T_24 (b := 4 + 16 * 0) rfl d_T_setClock_104 hT.1.2.2 ?_
    refine g_T_236 rfl d_T_setClock_107 ?_
    rw [show hJ (sJ (rk σ 0 (xO3 σ t (dT + r) (dF + u) (hJ σ 2 (f / 4) 4) (hJ σ 2 i 4) r u) (xJ3 σ t (dT + r) (dF + u) (hJ σ 2 (f / 4) 4) (hJ σ 2 i 4) r u)) 2 (i) 4 ((xJ3 σ t (dT + r) (dF + u) (hJ σ 2 (f / 4) 4) (hJ σ 2 i 4) r u) 3)) 4 (0) 2 = (xJ3 σ t (dT + r) (dF + u) (hJ σ 2 (f / 4) 4) (hJ σ 2 i 4) r u) 2 from (by rw [J_sJ, if_neg (by omega), J_rk])]
    refine p_T_163 rfl d_T_setClock_110 ?_
    refine e_iconst (v := 1) d_T_setClock_113 (by decide) ?_
    exact e_zret d_T_setClock_114 rfl (by first | exact Or.inl rfl | exact Or.inr rfl) ⟨by simp [scV, h86], by simp [scS, h86]⟩
  ·
    refine e_iconst (v := 0) d_T_setClock_89 (by decide) ?_
    exact e_zret d_T_setClock_90 rfl (by first | exact Or.inl rfl | exact Or.inr rfl) ⟨by simp [scV, h86], by simp [scS, h86]⟩
end
section
def lkP (σ : HS) (p : Nat) : Nat := ((hR σ 1 p 7).getD 0) / 16
def dTP (σ : HS) (p : Nat) : Int32 := if hR σ 3 (lkP σ p) 0 = some (1 + 16 * p) then hI σ 3 (lkP σ p) 3 else hI σ 3 (lkP σ p) 2
def dFP (σ : HS) (p : Nat) : Int32 := if hR σ 3 (lkP σ p) 0 = some (1 + 16 * p) then hI σ 3 (lkP σ p) 2 else hI σ 3 (lkP σ p) 3
noncomputable def xO (σ : HS) (i p : Nat) (t : Int64) (r u : Int32) : Int32 := xO3 σ t (dTP σ p + r) (dFP σ p + u) (hJ σ 2 (farP σ (lkP σ p) p / 4) 4) (hJ σ 2 i 4) r u
noncomputable def xJ (σ : HS) (i p : Nat) (t : Int64) (r u : Int32) : Nat → Int64 := xJ3 σ t (dTP σ p + r) (dFP σ p + u) (hJ σ 2 (farP σ (lkP σ p) p / 4) 4) (hJ σ 2 i 4) r u
theorem ct_T_setClock_p {l : Launch} (hl0 : l.stackTraces = false) {G : LG} {σ : HS} {n L i p : Nat} {t : Int64} {r u : Int32} (hT : TS σ n L) (hp : p < 4 * n) (hne : hR σ 1 p 7 ≠ none) : Ct l G m_T_setClock [.ref (5 + 16 * 0), .ref (2 + 16 * i), .ref (1 + 16 * p), .long t, .int r, .int u] σ (qd (.inr (some (.int (scV (xO σ i p t r u))))) (scS σ i (xO σ i p t r u) (xJ σ i p t r u))) := by
  rcases hT.lk hp with h1 | ⟨k, x, y, hk, hx, hy, h1, hf, hs⟩
  · exact absurd h1 hne
  · have e1 : lkP σ p = k := by unfold lkP; rw [h1]; show (3 + 16 * k) / 16 = k; omega
    have e2 : (hR σ 3 k 0 = some (1 + 16 * p)) ↔ p = x := by
      rw [hf]
      exact ⟨fun z => by have := Option.some.inj z; omega, fun z => by rw [z]⟩
    have e3 : dTP σ p = if p = x then hI σ 3 k 3 else hI σ 3 k 2 := by
      unfold dTP; rw [e1]
      by_cases e : p = x
      · rw [if_pos (e2.mpr e), if_pos e]
      · rw [if_neg (fun z => e (e2.mp z)), if_neg e]
    have e4 : dFP σ p = if p = x then hI σ 3 k 2 else hI σ 3 k 3 := by
      unfold dFP; rw [e1]
      by_cases e : p = x
      · rw [if_pos (e2.mpr e), if_pos e]
      · rw [if_neg (fun z => e (e2.mp z)), if_neg e]
    have e5 : farP σ (lkP σ p) p = if p = x then y else x := by rw [e1]; exact farP_eq hf hs
    unfold xO xJ
    exact ct_T_setClock hl0 hT (by rw [e5]; split <;> assumption) h1 hf hs e5 e3 e4
theorem osP_some {σ : HS} {i b p : Nat} (h : osP σ i b = some p) : hR σ 1 p 7 ≠ none ∧ ∃ j, j < 4 ∧ p = 4 * i + j := by
  unfold osP at h
  split at h
  · cases h
  · rename_i hx
    obtain ⟨j, hj, hv⟩ := small (N := 4) (by decide) (fun z => hx (Or.inl z)) (fun z => hx (Or.inr (by rw [nI4]; exact z)))
    rw [hv, nI_clamp (by omega)] at h
    split at h
    · cases h
    · rename_i x hr
      split at h
      · cases h
      · have h2 := Option.some.inj h
        subst h2
        exact ⟨by rw [hr]; simp, j, hj, rfl⟩
/-- one node is disciplined, if it can be -/
noncomputable def ssS (σ : HS) (i b : Nat) (t : Int64) : HS := match osP σ i b with
  | none => σ
  | some p => scS σ i (xO σ i p t 0 0) (xJ σ i p t 0 0)
noncomputable def ssV (σ : HS) (i b : Nat) (t : Int64) : Int32 := match osP σ i b with
  | none => 0
  | some p => scV (xO σ i p t 0 0)
theorem scV_01 (x : Int32) : scV x = 0 ∨ scV x = 1 := by
  unfold scV
  split
  · exact Or.inr rfl
  · exact Or.inl rfl
set_option maxHeartbeats 4000000 in
theorem ct_T_setsClock {l : Launch} (hl0 : l.stackTraces = false) {G : LG} {σ : HS} {i b : Nat} {t : Int64} {n L : Nat} (hT : TS σ n L) (hi : i < n) (hB : hR σ 2 i 3 = some (0 + 16 * b)) : Ct l G m_T_setsClock [.ref (5 + 16 * 0), .ref (2 + 16 * i), .long t] σ (qd (.inr (some (.int (ssV σ i b t)))) (ssS σ i b t)) := by
  refine Ct.of hl0 rfl rfl (Nat.le_of_ble_eq_true rfl) ?_
  show Ex l G m_T_setsClock (pmV G m_T_setsClock (qd (.inr (some (.int (ssV σ i b t)))) (ssS σ i b t))) 0 [(0, .ref (5 + 16 * 0)), (1, .ref (2 + 16 * i)), (2, .long (t))] [] (σ) 0 0
  have hct := ct_T_openSlaveOf (l := l) (G := G) hl0 hT hi hB
  cases hos : osP σ i b with
  | none =>
    refine e_aload_n d_T_setsClock_0 rfl rfl ?_
    refine e_callSd (v := some (.null)) (σ' := σ) (As := [.ref (2 + 16 * i)]) (st := []) 0 0 d_T_setsClock_1 cb_T_setsClock_144 is_T_openSlaveOf rfl (Nat.le_of_ble_eq_true rfl) (by decide) (by decide) ((by rw [hos] at hct; exact hct)) ?_
    show Ex l G m_T_setsClock (pmV G m_T_setsClock (qd (.inr (some (.int (ssV σ i b t)))) (ssS σ i b t))) 4 [(0, .ref (5 + 16 * 0)), (1, .ref (2 + 16 * i)), (2, .long (t))] [.null] (σ) 0 0
    refine e_astoreN (lv' := [(4, .null), (0, .ref (5 + 16 * 0)), (1, .ref (2 + 16 * i)), (2, .long (t))]) d_T_setsClock_4 (by decide) rfl ?_
    refine e_aloadN d_T_setsClock_6 rfl ?_
    refine e_ifnullN (tgt := 28) d_T_setsClock_8 (by decide) ?_
    refine e_iconst (v := 0) d_T_setsClock_28 (by decide) ?_
    exact e_zret d_T_setsClock_29 rfl (by first | exact Or.inl rfl | exact Or.inr rfl) ⟨by simp [ssV, hos], by simp [ssS, hos]⟩
  | some p =>
    obtain ⟨hne, j, hj, hpj⟩ := osP_some hos
    have hp : p < 4 * n := by omega
    refine e_aload_n d_T_setsClock_0 rfl rfl ?_
    refine e_callSd (v := some (.ref (1 + 16 * p))) (σ' := σ) (As := [.ref (2 + 16 * i)]) (st := []) 0 0 d_T_setsClock_1 cb_T_setsClock_144 is_T_openSlaveOf rfl (Nat.le_of_ble_eq_true rfl) (by decide) (by decide) ((by rw [hos] at hct; exact hct)) ?_
    show Ex l G m_T_setsClock (pmV G m_T_setsClock (qd (.inr (some (.int (ssV σ i b t)))) (ssS σ i b t))) 4 [(0, .ref (5 + 16 * 0)), (1, .ref (2 + 16 * i)), (2, .long (t))] [.ref (1 + 16 * p)] (σ) 0 0
    refine e_astore (lv' := [(4, .ref (1 + 16 * p)), (0, .ref (5 + 16 * 0)), (1, .ref (2 + 16 * i)), (2, .long (t))]) d_T_setsClock_4 (by decide) rfl ?_
    refine e_aload d_T_setsClock_6 rfl ?_
    refine e_ifnull d_T_setsClock_8 ?_
    refine e_aload_n d_T_setsClock_11 rfl rfl ?_
    refine e_aload_n d_T_setsClock_12 rfl rfl ?_
    refine e_aload d_T_setsClock_13 rfl ?_
    refine e_lload_n d_T_setsClock_15 rfl rfl ?_
    refine e_iconst (v := 0) d_T_setsClock_16 (by decide) ?_
    refine e_iconst (v := 0) d_T_setsClock_17 (by decide) ?_
    refine e_callVd (v := some (.int (scV (xO σ i p t 0 0)))) (σ' := scS σ i (xO σ i p t 0 0) (xJ σ i p t 0 0)) (q := 5) (a := 0) (As := [.ref (2 + 16 * i), .ref (1 + 16 * p), .long (t), .int (0), .int (0)]) (st := []) 0 0 d_T_setsClock_18 cb_T_setsClock_150 iv_T_setClock rfl ⟨by decide, rfl⟩ rfl (Nat.le_of_ble_eq_true rfl) (by decide) (by decide) (ct_T_setClock_p hl0 hT hp hne) ?_
    show Ex l G m_T_setsClock (pmV G m_T_setsClock (qd (.inr (some (.int (ssV σ i b t)))) (ssS σ i b t))) 21 [(4, .ref (1 + 16 * p)), (0, .ref (5 + 16 * 0)), (1, .ref (2 + 16 * i)), (2, .long (t))] [.int (scV (xO σ i p t 0 0))] (scS σ i (xO σ i p t 0 0) (xJ σ i p t 0 0)) 0 0
    refine e_ifeq (tgt := 28) d_T_setsClock_21 (by decide) (fun h21 => ?_) (fun h21 => ?_)
    ·
      refine e_iconst (v := 0) d_T_setsClock_28 (by decide) ?_
      exact e_zret d_T_setsClock_29 rfl (by first | exact Or.inl rfl | exact Or.inr rfl) ⟨by simp [ssV, hos, h21], by simp [ssS, hos]⟩
    ·
      refine e_iconst (v := 1) d_T_setsClock_24 (by decide) ?_
      refine e_goto (tgt := 29) d_T_setsClock_25 (by decide) ?_
      exact e_zret d_T_setsClock_29 rfl (by first | exact Or.inl rfl | exact Or.inr rfl) ⟨by simp [ssV, hos, (scV_01 _).resolve_left h21], by simp [ssS, hos]⟩
set_option maxHeartbeats 4000000 in
theorem ct_T_state_x {l : Launch} (hl0 : l.stackTraces = false) {G : LG} {σ : HS} {v u : Int32} (hx : v < 0 ∨ hI σ 5 0 3 ≤ v) : Ct l G m_T_state [.ref (5 + 16 * 0), .int (v), .int (u)] (σ) (qd (.inl 0) σ) := by
  refine Ct.of hl0 rfl rfl (Nat.le_of_ble_eq_true rfl) ?_
  show Ex l G m_T_state (pmV G m_T_state (qd (.inl 0) σ)) 0 [(0, .ref (5 + 16 * 0)), (1, .int (v)), (2, .int (u))] [] (σ) 2 12
  refine e_aload_n d_T_state_0 rfl rfl ?_
  refine e_iload_n d_T_state_1 rfl rfl ?_
  refine e_iload_n d_T_state_2 rfl rfl ?_
  exact e_callVt (q := 5) (a := 0) (As := [.int (v), .int (u)]) (st := []) 0 0 d_T_state_3 cb_T_state_81 iv_T_portAt rfl ⟨by decide, rfl⟩ rfl (Nat.le_of_ble_eq_true rfl) (by decide) (by decide) (ct_T_portAt_x hl0 hx) rfl ⟨rfl, rfl⟩
set_option maxHeartbeats 4000000 in
theorem ct_T_state_y {l : Launch} (hl0 : l.stackTraces = false) {G : LG} {σ : HS} {i : Nat} {u : Int32} {n L : Nat} (hT : TS σ n L) (hi : i < n) (hx : u < 0 ∨ 4 ≤ u) : Ct l G m_T_state [.ref (5 + 16 * 0), .int (nI i), .int (u)] (σ) (qd (.inl 0) σ) := by
  refine Ct.of hl0 rfl rfl (Nat.le_of_ble_eq_true rfl) ?_
  show Ex l G m_T_state (pmV G m_T_state (qd (.inl 0) σ)) 0 [(0, .ref (5 + 16 * 0)), (1, .int (nI i)), (2, .int (u))] [] (σ) 2 12
  refine e_aload_n d_T_state_0 rfl rfl ?_
  refine e_iload_n d_T_state_1 rfl rfl ?_
  refine e_iload_n d_T_state_2 rfl rfl ?_
  exact e_callVt (q := 5) (a := 0) (As := [.int (nI i), .int (u)]) (st := []) 0 0 d_T_state_3 cb_T_state_81 iv_T_portAt rfl ⟨by decide, rfl⟩ rfl (Nat.le_of_ble_eq_true rfl) (by decide) (by decide) (ct_T_portAt_y hl0 hT hi hx) rfl ⟨rfl, rfl⟩
set_option maxHeartbeats 4000000 in
theorem ct_T_kept_x {l : Launch} (hl0 : l.stackTraces = false) {G : LG} {σ : HS} {v u : Int32} (hx : v < 0 ∨ hI σ 5 0 3 ≤ v) : Ct l G m_T_kept [.ref (5 + 16 * 0), .int (v), .int (u)] (σ) (qd (.inl 0) σ) := by
  refine Ct.of hl0 rfl rfl (Nat.le_of_ble_eq_true rfl) ?_
  show Ex l G m_T_kept (pmV G m_T_kept (qd (.inl 0) σ)) 0 [(0, .ref (5 + 16 * 0)), (1, .int (v)), (2, .int (u))] [] (σ) 2 12
  refine e_aload_n d_T_kept_0 rfl rfl ?_
  refine e_iload_n d_T_kept_1 rfl rfl ?_
  refine e_iload_n d_T_kept_2 rfl rfl ?_
  exact e_callVt (q := 5) (a := 0) (As := [.int (v), .int (u)]) (st := []) 0 0 d_T_kept_3 cb_T_kept_81 iv_T_portAt rfl ⟨by decide, rfl⟩ rfl (Nat.le_of_ble_eq_true rfl) (by decide) (by decide) (ct_T_portAt_x hl0 hx) rfl ⟨rfl, rfl⟩
set_option maxHeartbeats 4000000 in
theorem ct_T_kept_y {l : Launch} (hl0 : l.stackTraces = false) {G : LG} {σ : HS} {i : Nat} {u : Int32} {n L : Nat} (hT : TS σ n L) (hi : i < n) (hx : u < 0 ∨ 4 ≤ u) : Ct l G m_T_kept [.ref (5 + 16 * 0), .int (nI i), .int (u)] (σ) (qd (.inl 0) σ) := by
  refine Ct.of hl0 rfl rfl (Nat.le_of_ble_eq_true rfl) ?_
  show Ex l G m_T_kept (pmV G m_T_kept (qd (.inl 0) σ)) 0 [(0, .ref (5 + 16 * 0)), (1, .int (nI i)), (2, .int (u))] [] (σ) 2 12
  refine e_aload_n d_T_kept_0 rfl rfl ?_
  refine e_iload_n d_T_kept_1 rfl rfl ?_
  refine e_iload_n d_T_kept_2 rfl rfl ?_
  exact e_callVt (q := 5) (a := 0) (As := [.int (nI i), .int (u)]) (st := []) 0 0 d_T_kept_3 cb_T_kept_81 iv_T_portAt rfl ⟨by decide, rfl⟩ rfl (Nat.le_of_ble_eq_true rfl) (by decide) (by decide) (ct_T_portAt_y hl0 hT hi hx) rfl ⟨rfl, rfl⟩
set_option maxHeartbeats 4000000 in
theorem ct_T_root_x {l : Launch} (hl0 : l.stackTraces = false) {G : LG} {σ : HS} {v : Int32} (hx : v < 0 ∨ hI σ 5 0 3 ≤ v) : Ct l G m_T_root [.ref (5 + 16 * 0), .int (v)] (σ) (qd (.inl 0) σ) := by
  refine Ct.of hl0 rfl rfl (Nat.le_of_ble_eq_true rfl) ?_
  show Ex l G m_T_root (pmV G m_T_root (qd (.inl 0) σ)) 0 [(0, .ref (5 + 16 * 0)), (1, .int (v))] [] (σ) 1 6
  refine e_aload_n d_T_root_0 rfl rfl ?_
  refine e_iload_n d_T_root_1 rfl rfl ?_
  exact e_callVt (q := 5) (a := 0) (As := [.int (v)]) (st := []) 0 0 d_T_root_2 cb_T_root_108 iv_T_nodeAt rfl ⟨by decide, rfl⟩ rfl (Nat.le_of_ble_eq_true rfl) (by decide) (by decide) (ct_T_nodeAt_x hl0 hx) rfl ⟨rfl, rfl⟩
set_option maxHeartbeats 4000000 in
theorem ct_T_steps_x {l : Launch} (hl0 : l.stackTraces = false) {G : LG} {σ : HS} {v : Int32} (hx : v < 0 ∨ hI σ 5 0 3 ≤ v) : Ct l G m_T_steps [.ref (5 + 16 * 0), .int (v)] (σ) (qd (.inl 0) σ) := by
  refine Ct.of hl0 rfl rfl (Nat.le_of_ble_eq_true rfl) ?_
  show Ex l G m_T_steps (pmV G m_T_steps (qd (.inl 0) σ)) 0 [(0, .ref (5 + 16 * 0)), (1, .int (v))] [] (σ) 1 6
  refine e_aload_n d_T_steps_0 rfl rfl ?_
  refine e_iload_n d_T_steps_1 rfl rfl ?_
  exact e_callVt (q := 5) (a := 0) (As := [.int (v)]) (st := []) 0 0 d_T_steps_2 cb_T_steps_108 iv_T_nodeAt rfl ⟨by decide, rfl⟩ rfl (Nat.le_of_ble_eq_true rfl) (by decide) (by decide) (ct_T_nodeAt_x hl0 hx) rfl ⟨rfl, rfl⟩
set_option maxHeartbeats 4000000 in
theorem ct_T_delay_x {l : Launch} (hl0 : l.stackTraces = false) {G : LG} {σ : HS} {v : Int32} (hx : v < 0 ∨ hI σ 5 0 3 ≤ v) : Ct l G m_T_delay [.ref (5 + 16 * 0), .int (v)] (σ) (qd (.inl 0) σ) := by
  refine Ct.of hl0 rfl rfl (Nat.le_of_ble_eq_true rfl) ?_
  show Ex l G m_T_delay (pmV G m_T_delay (qd (.inl 0) σ)) 0 [(0, .ref (5 + 16 * 0)), (1, .int (v))] [] (σ) 1 6
  refine e_aload_n d_T_delay_0 rfl rfl ?_
  refine e_iload_n d_T_delay_1 rfl rfl ?_
  exact e_callVt (q := 5) (a := 0) (As := [.int (v)]) (st := []) 0 0 d_T_delay_2 cb_T_delay_108 iv_T_nodeAt rfl ⟨by decide, rfl⟩ rfl (Nat.le_of_ble_eq_true rfl) (by decide) (by decide) (ct_T_nodeAt_x hl0 hx) rfl ⟨rfl, rfl⟩
set_option maxHeartbeats 4000000 in
theorem ct_T_offset_x {l : Launch} (hl0 : l.stackTraces = false) {G : LG} {σ : HS} {v : Int32} (hx : v < 0 ∨ hI σ 5 0 3 ≤ v) : Ct l G m_T_offset [.ref (5 + 16 * 0), .int (v)] (σ) (qd (.inl 0) σ) := by
  refine Ct.of hl0 rfl rfl (Nat.le_of_ble_eq_true rfl) ?_
  show Ex l G m_T_offset (pmV G m_T_offset (qd (.inl 0) σ)) 0 [(0, .ref (5 + 16 * 0)), (1, .int (v))] [] (σ) 1 6
  refine e_aload_n d_T_offset_0 rfl rfl ?_
  refine e_iload_n d_T_offset_1 rfl rfl ?_
  exact e_callVt (q := 5) (a := 0) (As := [.int (v)]) (st := []) 0 0 d_T_offset_2 cb_T_offset_108 iv_T_nodeAt rfl ⟨by decide, rfl⟩ rfl (Nat.le_of_ble_eq_true rfl) (by decide) (by decide) (ct_T_nodeAt_x hl0 hx) rfl ⟨rfl, rfl⟩
set_option maxHeartbeats 4000000 in
theorem ct_T_state {l : Launch} (hl0 : l.stackTraces = false) {G : LG} {σ : HS} {i j : Nat} {n L : Nat} (hT : TS σ n L) (hi : i < n) (hj : j < 4) : Ct l G m_T_state [.ref (5 + 16 * 0), .int (nI i), .int (nI j)] (σ) (qd (.inr (some (.int (hI σ 1 (4 * i + j) 6)))) σ) := by
  refine Ct.of hl0 rfl rfl (Nat.le_of_ble_eq_true rfl) ?_
  show Ex l G m_T_state (pmV G m_T_state (qd (.inr (some (.int (hI σ 1 (4 * i + j) 6)))) σ)) 0 [(0, .ref (5 + 16 * 0)), (1, .int (nI i)), (2, .int (nI j))] [] (σ) 2 12
  refine e_aload_n d_T_state_0 rfl rfl ?_
  refine e_iload_n d_T_state_1 rfl rfl ?_
  refine e_iload_n d_T_state_2 rfl rfl ?_
  refine e_callVd (v := some (.ref (1 + 16 * (4 * i + j)))) (σ' := σ) (q := 5) (a := 0) (As := [.int (nI i), .int (nI j)]) (st := []) 0 0 d_T_state_3 cb_T_state_81 iv_T_portAt rfl ⟨by decide, rfl⟩ rfl (Nat.le_of_ble_eq_true rfl) (by decide) (by decide) (ct_T_portAt hl0 hT hi hj) ?_
  show Ex l G m_T_state (pmV G m_T_state (qd (.inr (some (.int (hI σ 1 (4 * i + j) 6)))) σ)) 6 [(0, .ref (5 + 16 * 0)), (1, .int (nI i)), (2, .int (nI j))] [.ref (1 + 16 * (4 * i + j))] (σ) 0 0
  refine g_T_123 rfl d_T_state_6 ?_
  exact e_iret d_T_state_9 rfl ⟨rfl, rfl⟩
def kpV (σ : HS) (p c : Nat) : Int32 := if hI σ 1 p 4 = 0 then -1 else 10000 * hI σ 0 c 4 + hI σ 0 c 3
set_option maxHeartbeats 4000000 in
theorem ct_T_kept {l : Launch} (hl0 : l.stackTraces = false) {G : LG} {σ : HS} {i j : Nat} {n L : Nat} (hT : TS σ n L) (hi : i < n) (hj : j < 4) : Ct l G m_T_kept [.ref (5 + 16 * 0), .int (nI i), .int (nI j)] (σ) (qd (.inr (some (.int (kpV σ (4 * i + j) (9 * i + 1 + 2 * j))))) σ) := by
  refine Ct.of hl0 rfl rfl (Nat.le_of_ble_eq_true rfl) ?_
  show Ex l G m_T_kept (pmV G m_T_kept (qd (.inr (some (.int (kpV σ (4 * i + j) (9 * i + 1 + 2 * j))))) σ)) 0 [(0, .ref (5 + 16 * 0)), (1, .int (nI i)), (2, .int (nI j))] [] (σ) 2 12
  refine e_aload_n d_T_kept_0 rfl rfl ?_
  refine e_iload_n d_T_kept_1 rfl rfl ?_
  refine e_iload_n d_T_kept_2 rfl rfl ?_
  refine e_callVd (v := some (.ref (1 + 16 * (4 * i + j)))) (σ' := σ) (q := 5) (a := 0) (As := [.int (nI i), .int (nI j)]) (st := []) 0 0 d_T_kept_3 cb_T_kept_81 iv_T_portAt rfl ⟨by decide, rfl⟩ rfl (Nat.le_of_ble_eq_true rfl) (by decide) (by decide) (ct_T_portAt hl0 hT hi hj) ?_
  show Ex l G m_T_kept (pmV G m_T_kept (qd (.inr (some (.int (kpV σ (4 * i + j) (9 * i + 1 + 2 * j))))) σ)) 6 [(0, .ref (5 + 16 * 0)), (1, .int (nI i)), (2, .int (nI j))] [.ref (1 + 16 * (4 * i + j))] (σ) 0 0
  refine e_astore_n (lv' := [(3, .ref (1 + 16 * (4 * i + j))), (0, .ref (5 + 16 * 0)), (1, .int (nI i)), (2, .int (nI j))]) d_T_kept_6 rfl (by decide) rfl ?_
  refine e_aload_n d_T_kept_7 rfl rfl ?_
  refine g_T_135 rfl d_T_kept_8 ?_
  refine e_ifne (tgt := 16) d_T_kept_11 (by decide) (fun h11 => ?_) (fun h11 => ?_)
  ·
    refine e_sipush (v := 10000) d_T_kept_16 (by decide) ?_
    refine e_aload_n d_T_kept_19 rfl rfl ?_
    refine g_T_138 (b := 0 + 16 * (9 * i + 1 + 2 * j)) rfl d_T_kept_20 ((hT.2.2.2.1 i hi).2.2.2.2 j hj).2.1 ?_
    refine g_T_132 rfl d_T_kept_23 ?_
    refine e_imul d_T_kept_26 ?_
    refine e_aload_n d_T_kept_27 rfl rfl ?_
    refine g_T_138 (b := 0 + 16 * (9 * i + 1 + 2 * j)) rfl d_T_kept_28 ((hT.2.2.2.1 i hi).2.2.2.2 j hj).2.1 ?_
    refine g_T_129 rfl d_T_kept_31 ?_
    refine e_iadd d_T_kept_34 ?_
    exact e_iret d_T_kept_35 rfl ⟨(by simp [kpV, h11]), rfl⟩
  ·
    refine e_iconst (v := -1) d_T_kept_14 (by decide) ?_
    exact e_iret d_T_kept_15 rfl ⟨(by simp [kpV, h11]), rfl⟩
set_option maxHeartbeats 4000000 in
theorem ct_T_root {l : Launch} (hl0 : l.stackTraces = false) {G : LG} {σ : HS} {i b : Nat} {n L : Nat} (hT : TS σ n L) (hi : i < n) (hB : hR σ 2 i 3 = some (0 + 16 * b)) : Ct l G m_T_root [.ref (5 + 16 * 0), .int (nI i)] (σ) (qd (.inr (some (.int (hI σ 0 b 3)))) σ) := by
  refine Ct.of hl0 rfl rfl (Nat.le_of_ble_eq_true rfl) ?_
  show Ex l G m_T_root (pmV G m_T_root (qd (.inr (some (.int (hI σ 0 b 3)))) σ)) 0 [(0, .ref (5 + 16 * 0)), (1, .int (nI i))] [] (σ) 1 6
  refine e_aload_n d_T_root_0 rfl rfl ?_
  refine e_iload_n d_T_root_1 rfl rfl ?_
  refine e_callVd (v := some (.ref (2 + 16 * i))) (σ' := σ) (q := 5) (a := 0) (As := [.int (nI i)]) (st := []) 0 0 d_T_root_2 cb_T_root_108 iv_T_nodeAt rfl ⟨by decide, rfl⟩ rfl (Nat.le_of_ble_eq_true rfl) (by decide) (by decide) (ct_T_nodeAt hl0 hT hi) ?_
  show Ex l G m_T_root (pmV G m_T_root (qd (.inr (some (.int (hI σ 0 b 3)))) σ)) 5 [(0, .ref (5 + 16 * 0)), (1, .int (nI i))] [.ref (2 + 16 * i)] (σ) 0 0
  refine g_T_126 (b := 0 + 16 * b) rfl d_T_root_5 hB ?_
  refine g_T_129 rfl d_T_root_8 ?_
  exact e_iret d_T_root_11 rfl ⟨rfl, rfl⟩
set_option maxHeartbeats 4000000 in
theorem ct_T_steps {l : Launch} (hl0 : l.stackTraces = false) {G : LG} {σ : HS} {i b : Nat} {n L : Nat} (hT : TS σ n L) (hi : i < n) (hB : hR σ 2 i 3 = some (0 + 16 * b)) : Ct l G m_T_steps [.ref (5 + 16 * 0), .int (nI i)] (σ) (qd (.inr (some (.int (hI σ 0 b 4)))) σ) := by
  refine Ct.of hl0 rfl rfl (Nat.le_of_ble_eq_true rfl) ?_
  show Ex l G m_T_steps (pmV G m_T_steps (qd (.inr (some (.int (hI σ 0 b 4)))) σ)) 0 [(0, .ref (5 + 16 * 0)), (1, .int (nI i))] [] (σ) 1 6
  refine e_aload_n d_T_steps_0 rfl rfl ?_
  refine e_iload_n d_T_steps_1 rfl rfl ?_
  refine e_callVd (v := some (.ref (2 + 16 * i))) (σ' := σ) (q := 5) (a := 0) (As := [.int (nI i)]) (st := []) 0 0 d_T_steps_2 cb_T_steps_108 iv_T_nodeAt rfl ⟨by decide, rfl⟩ rfl (Nat.le_of_ble_eq_true rfl) (by decide) (by decide) (ct_T_nodeAt hl0 hT hi) ?_
  show Ex l G m_T_steps (pmV G m_T_steps (qd (.inr (some (.int (hI σ 0 b 4)))) σ)) 5 [(0, .ref (5 + 16 * 0)), (1, .int (nI i))] [.ref (2 + 16 * i)] (σ) 0 0
  refine g_T_126 (b := 0 + 16 * b) rfl d_T_steps_5 hB ?_
  refine g_T_132 rfl d_T_steps_8 ?_
  exact e_iret d_T_steps_11 rfl ⟨rfl, rfl⟩
set_option maxHeartbeats 4000000 in
theorem ct_T_delay {l : Launch} (hl0 : l.stackTraces = false) {G : LG} {σ : HS} {i : Nat} {n L : Nat} (hT : TS σ n L) (hi : i < n) : Ct l G m_T_delay [.ref (5 + 16 * 0), .int (nI i)] (σ) (qd (.inr (some (.long (hJ σ 2 i 5)))) σ) := by
  refine Ct.of hl0 rfl rfl (Nat.le_of_ble_eq_true rfl) ?_
  show Ex l G m_T_delay (pmV G m_T_delay (qd (.inr (some (.long (hJ σ 2 i 5)))) σ)) 0 [(0, .ref (5 + 16 * 0)), (1, .int (nI i))] [] (σ) 1 6
  refine e_aload_n d_T_delay_0 rfl rfl ?_
  refine e_iload_n d_T_delay_1 rfl rfl ?_
  refine e_callVd (v := some (.ref (2 + 16 * i))) (σ' := σ) (q := 5) (a := 0) (As := [.int (nI i)]) (st := []) 0 0 d_T_delay_2 cb_T_delay_108 iv_T_nodeAt rfl ⟨by decide, rfl⟩ rfl (Nat.le_of_ble_eq_true rfl) (by decide) (by decide) (ct_T_nodeAt hl0 hT hi) ?_
  show Ex l G m_T_delay (pmV G m_T_delay (qd (.inr (some (.long (hJ σ 2 i 5)))) σ)) 5 [(0, .ref (5 + 16 * 0)), (1, .int (nI i))] [.ref (2 + 16 * i)] (σ) 0 0
  refine g_T_163 rfl d_T_delay_5 ?_
  exact e_lret d_T_delay_8 rfl ⟨rfl, rfl⟩
set_option maxHeartbeats 4000000 in
theorem ct_T_offset {l : Launch} (hl0 : l.stackTraces = false) {G : LG} {σ : HS} {i : Nat} {n L : Nat} (hT : TS σ n L) (hi : i < n) : Ct l G m_T_offset [.ref (5 + 16 * 0), .int (nI i)] (σ) (qd (.inr (some (.long (hJ σ 2 i 4)))) σ) := by
  refine Ct.of hl0 rfl rfl (Nat.le_of_ble_eq_true rfl) ?_
  show Ex l G m_T_offset (pmV G m_T_offset (qd (.inr (some (.long (hJ σ 2 i 4)))) σ)) 0 [(0, .ref (5 + 16 * 0)), (1, .int (nI i))] [] (σ) 1 6
  refine e_aload_n d_T_offset_0 rfl rfl ?_
  refine e_iload_n d_T_offset_1 rfl rfl ?_
  refine e_callVd (v := some (.ref (2 + 16 * i))) (σ' := σ) (q := 5) (a := 0) (As := [.int (nI i)]) (st := []) 0 0 d_T_offset_2 cb_T_offset_108 iv_T_nodeAt rfl ⟨by decide, rfl⟩ rfl (Nat.le_of_ble_eq_true rfl) (by decide) (by decide) (ct_T_nodeAt hl0 hT hi) ?_
  show Ex l G m_T_offset (pmV G m_T_offset (qd (.inr (some (.long (hJ σ 2 i 4)))) σ)) 5 [(0, .ref (5 + 16 * 0)), (1, .int (nI i))] [.ref (2 + 16 * i)] (σ) 0 0
  refine g_T_166 rfl d_T_offset_5 ?_
  exact e_lret d_T_offset_8 rfl ⟨rfl, rfl⟩
set_option maxHeartbeats 4000000 in
theorem ct_T_up_x {l : Launch} (hl0 : l.stackTraces = false) {G : LG} {σ : HS} {v z : Int32} (hx : v < 0 ∨ hI σ 5 0 4 ≤ v) : Ct l G m_T_up [.ref (5 + 16 * 0), .int (v), .int (z)] (σ) (qd (.inl 0) σ) := by
  refine Ct.of hl0 rfl rfl (Nat.le_of_ble_eq_true rfl) ?_
  show Ex l G m_T_up (pmV G m_T_up (qd (.inl 0) σ)) 0 [(0, .ref (5 + 16 * 0)), (1, .int (v)), (2, .int (z))] [] (σ) 1 6
  refine e_iload_n d_T_up_0 rfl rfl ?_
  refine e_iflt (tgt := 12) d_T_up_1 (by decide) (fun h1 => ?_) (fun h1 => ?_)
  ·
    exact e_iae rfl d_T_up_12 d_T_up_15 d_T_up_16 d_T_up_18 d_T_up_21 (by decide +kernel) ⟨by decide, Nat.le_of_ble_eq_true rfl⟩ ⟨by decide, by decide⟩ rfl ⟨rfl, rfl⟩
  ·
    refine e_iload_n d_T_up_4 rfl rfl ?_
    refine e_aload_n d_T_up_5 rfl rfl ?_
    refine g_T_32 rfl d_T_up_6 ?_
    refine e_icmplt (tgt := 22) d_T_up_9 (by decide) (fun h9 => absurd h9 (Int32.not_lt.mpr (hx.resolve_left h1))) (fun h9 => ?_)
    exact e_iae rfl d_T_up_12 d_T_up_15 d_T_up_16 d_T_up_18 d_T_up_21 (by decide +kernel) ⟨by decide, Nat.le_of_ble_eq_true rfl⟩ ⟨by decide, by decide⟩ rfl ⟨rfl, rfl⟩
set_option maxHeartbeats 4000000 in
theorem ct_T_up {l : Launch} (hl0 : l.stackTraces = false) {G : LG} {σ : HS} {k : Nat} {z : Int32} {n L : Nat} (hT : TS σ n L) (hk : k < L) (hz : z = 0 ∨ z = 1) : Ct l G m_T_up [.ref (5 + 16 * 0), .int (nI k), .int (z)] (σ) (qd (.inr none) (sI σ 3 k 4 z)) := by
  refine Ct.of hl0 rfl rfl (Nat.le_of_ble_eq_true rfl) ?_
  show Ex l G m_T_up (pmV G m_T_up (qd (.inr none) (sI σ 3 k 4 z))) 0 [(0, .ref (5 + 16 * 0)), (1, .int (nI k)), (2, .int (z))] [] (σ) 1 6
  have hL16 := hT.2.2.1.2.2.2
  refine e_iload_n d_T_up_0 rfl rfl ?_
  refine e_iflt (tgt := 12) d_T_up_1 (by decide) (fun h1 => absurd h1 (nI_pos (by omega))) (fun h1 => ?_)
  refine e_iload_n d_T_up_4 rfl rfl ?_
  refine e_aload_n d_T_up_5 rfl rfl ?_
  refine g_T_32 rfl d_T_up_6 ?_
  refine e_icmplt (tgt := 22) d_T_up_9 (by decide) (fun h9 => ?_) (fun h9 => absurd (by rw [hT.2.2.1.2.1]; exact nI_lt hk (by omega)) h9)
  refine e_aload_n d_T_up_22 rfl rfl ?_
  refine g_T_17 (b := 11 + 16 * 0) rfl d_T_up_23 hT.1.2.1 ?_
  refine e_iload_n d_T_up_26 rfl rfl ?_
  refine e_aald (b := 3 + 16 * k) (C := _) d_T_up_27 ⟨by decide, by decide⟩ rfl (by rw [hT.2.1.2]; exact nI_in (by omega) (by decide)) (by rw [nI_clamp (by omega)]; exact (hT.2.2.2.2.2.1 k hk).1) ?_
  refine e_iload_n d_T_up_28 rfl rfl ?_
  refine p_T_105 hz rfl d_T_up_29 ?_
  exact e_vret d_T_up_32 rfl ⟨rfl, rfl⟩
set_option maxHeartbeats 4000000 in
theorem ct_T_priority_x {l : Launch} (hl0 : l.stackTraces = false) {G : LG} {σ : HS} {v u : Int32} (hx : v < 0 ∨ hI σ 5 0 3 ≤ v) : Ct l G m_T_priority [.ref (5 + 16 * 0), .int (v), .int (u)] (σ) (qd (.inl 0) σ) := by
  refine Ct.of hl0 rfl rfl (Nat.le_of_ble_eq_true rfl) ?_
  show Ex l G m_T_priority (pmV G m_T_priority (qd (.inl 0) σ)) 0 [(0, .ref (5 + 16 * 0)), (1, .int (v)), (2, .int (u))] [] (σ) 2 12
  refine e_aload_n d_T_priority_0 rfl rfl ?_
  refine e_iload_n d_T_priority_1 rfl rfl ?_
  exact e_callVt (q := 5) (a := 0) (As := [.int (v)]) (st := []) 1 6 d_T_priority_2 cb_T_priority_108 iv_T_nodeAt rfl ⟨by decide, rfl⟩ rfl (Nat.le_of_ble_eq_true rfl) (by decide) (by decide) (ct_T_nodeAt_x hl0 hx) rfl ⟨rfl, rfl⟩
set_option maxHeartbeats 4000000 in
theorem ct_T_priority_y {l : Launch} (hl0 : l.stackTraces = false) {G : LG} {σ : HS} {i : Nat} {u : Int32} {n L : Nat} (hT : TS σ n L) (hi : i < n) (hx : wiV u 255 = 0) : Ct l G m_T_priority [.ref (5 + 16 * 0), .int (nI i), .int (u)] (σ) (qd (.inl 0) σ) := by
  refine Ct.of hl0 rfl rfl (Nat.le_of_ble_eq_true rfl) ?_
  show Ex l G m_T_priority (pmV G m_T_priority (qd (.inl 0) σ)) 0 [(0, .ref (5 + 16 * 0)), (1, .int (nI i)), (2, .int (u))] [] (σ) 2 12
  refine e_aload_n d_T_priority_0 rfl rfl ?_
  refine e_iload_n d_T_priority_1 rfl rfl ?_
  refine e_callVd (v := some (.ref (2 + 16 * i))) (σ' := σ) (q := 5) (a := 0) (As := [.int (nI i)]) (st := []) 1 6 d_T_priority_2 cb_T_priority_108 iv_T_nodeAt rfl ⟨by decide, rfl⟩ rfl (Nat.le_of_ble_eq_true rfl) (by decide) (by decide) (ct_T_nodeAt hl0 hT hi) ?_
  show Ex l G m_T_priority (pmV G m_T_priority (qd (.inl 0) σ)) 5 [(0, .ref (5 + 16 * 0)), (1, .int (nI i)), (2, .int (u))] [.ref (2 + 16 * i)] (σ) 1 6
  refine e_astore_n (lv' := [(3, .ref (2 + 16 * i)), (0, .ref (5 + 16 * 0)), (1, .int (nI i)), (2, .int (u))]) d_T_priority_5 rfl (by decide) rfl ?_
  refine e_iload_n d_T_priority_6 rfl rfl ?_
  refine e_sipush (v := 255) d_T_priority_7 (by decide) ?_
  refine e_callSd (v := some (.int (wiV (u) (255)))) (σ' := σ) (As := [.int (u), .int (255)]) (st := []) 1 6 d_T_priority_10 cb_T_priority_39 is_T_isWithin rfl (Nat.le_of_ble_eq_true rfl) (by decide) (by decide) (ct_T_isWithin hl0) ?_
  show Ex l G m_T_priority (pmV G m_T_priority (qd (.inl 0) σ)) 13 [(3, .ref (2 + 16 * i)), (0, .ref (5 + 16 * 0)), (1, .int (nI i)), (2, .int (u))] [.int (wiV (u) (255))] (σ) 1 6
  refine e_ifne (tgt := 26) d_T_priority_13 (by decide) (fun h13 => absurd h13 (fun z => z hx)) (fun h13 => ?_)
  exact e_iae rfl d_T_priority_16 d_T_priority_19 d_T_priority_20 d_T_priority_22 d_T_priority_25 (by decide +kernel) ⟨by decide, Nat.le_of_ble_eq_true rfl⟩ ⟨by decide, by decide⟩ rfl ⟨rfl, rfl⟩
set_option maxHeartbeats 4000000 in
theorem ct_T_priority {l : Launch} (hl0 : l.stackTraces = false) {G : LG} {σ : HS} {i : Nat} {u : Int32} {n L : Nat} (hT : TS σ n L) (hi : i < n) (hx : ¬ wiV u 255 = 0) : Ct l G m_T_priority [.ref (5 + 16 * 0), .int (nI i), .int (u)] (σ) (qd (.inr none) (fsS (sI σ 0 (9 * i) 0 u) i 4)) := by
  refine Ct.of hl0 rfl rfl (Nat.le_of_ble_eq_true rfl) ?_
  show Ex l G m_T_priority (pmV G m_T_priority (qd (.inr none) (fsS (sI σ 0 (9 * i) 0 u) i 4))) 0 [(0, .ref (5 + 16 * 0)), (1, .int (nI i)), (2, .int (u))] [] (σ) 2 12
  refine e_aload_n d_T_priority_0 rfl rfl ?_
  refine e_iload_n d_T_priority_1 rfl rfl ?_
  refine e_callVd (v := some (.ref (2 + 16 * i))) (σ' := σ) (q := 5) (a := 0) (As := [.int (nI i)]) (st := []) 1 6 d_T_priority_2 cb_T_priority_108 iv_T_nodeAt rfl ⟨by decide, rfl⟩ rfl (Nat.le_of_ble_eq_true rfl) (by decide) (by decide) (ct_T_nodeAt hl0 hT hi) ?_
  show Ex l G m_T_priority (pmV G m_T_priority (qd (.inr none) (fsS (sI σ 0 (9 * i) 0 u) i 4))) 5 [(0, .ref (5 + 16 * 0)), (1, .int (nI i)), (2, .int (u))] [.ref (2 + 16 * i)] (σ) 1 6
  refine e_astore_n (lv' := [(3, .ref (2 + 16 * i)), (0, .ref (5 + 16 * 0)), (1, .int (nI i)), (2, .int (u))]) d_T_priority_5 rfl (by decide) rfl ?_
  refine e_iload_n d_T_priority_6 rfl rfl ?_
  refine e_sipush (v := 255) d_T_priority_7 (by decide) ?_
  refine e_callSd (v := some (.int (wiV (u) (255)))) (σ' := σ) (As := [.int (u), .int (255)]) (st := []) 1 6 d_T_priority_10 cb_T_priority_39 is_T_isWithin rfl (Nat.le_of_ble_eq_true rfl) (by decide) (by decide) (ct_T_isWithin hl0) ?_
  show Ex l G m_T_priority (pmV G m_T_priority (qd (.inr none) (fsS (sI σ 0 (9 * i) 0 u) i 4))) 13 [(3, .ref (2 + 16 * i)), (0, .ref (5 + 16 * 0)), (1, .int (nI i)), (2, .int (u))] [.int (wiV (u) (255))] (σ) 1 6
  refine e_ifne (tgt := 26) d_T_priority_13 (by decide) (fun h13 => ?_) (fun h13 => absurd h13 hx)
  refine e_aload_n d_T_priority_26 rfl rfl ?_
  refine g_T_64 (b := 0 + 16 * (9 * i)) rfl d_T_priority_27 (hT.2.2.2.1 i hi).2.1 ?_
  refine e_iload_n d_T_priority_30 rfl rfl ?_
  refine p_T_114 rfl d_T_priority_31 ?_
  refine e_aload_n d_T_priority_34 rfl rfl ?_
  refine e_callVd (v := some (.int (fsC (sI σ 0 (9 * i) 0 u) i 4))) (σ' := fsS (sI σ 0 (9 * i) 0 u) i 4) (q := 2) (a := i) (As := []) (st := []) 1 6 d_T_priority_35 cb_T_priority_74 iv_N_findStates rfl ⟨by decide, rfl⟩ rfl (Nat.le_of_ble_eq_true rfl) (by decide) (by decide) (ct_N_findStates hl0 (hT.2.2.2.1 i hi).2 (fun j hj => (hT.2.2.2.2.1 (4 * i + j) (by omega)).imp id (fun ⟨k, _, h⟩ => ⟨k, h⟩))) ?_
  show Ex l G m_T_priority (pmV G m_T_priority (qd (.inr none) (fsS (sI σ 0 (9 * i) 0 u) i 4))) 38 [(3, .ref (2 + 16 * i)), (0, .ref (5 + 16 * 0)), (1, .int (nI i)), (2, .int (u))] [.int (fsC (sI σ 0 (9 * i) 0 u) i 4)] (fsS (sI σ 0 (9 * i) 0 u) i 4) 1 6
  refine e_pop d_T_priority_38 rfl ?_
  exact e_vret d_T_priority_39 rfl ⟨rfl, rfl⟩
set_option maxHeartbeats 4000000 in
theorem ct_T_exchange_x {l : Launch} (hl0 : l.stackTraces = false) {G : LG} {σ : HS} {v : Int32} {t : Int64} {r u : Int32} (hx : v < 0 ∨ hI σ 5 0 3 ≤ v) : Ct l G m_T_exchange [.ref (5 + 16 * 0), .int (v), .long (t), .int (r), .int (u)] (σ) (qd (.inl 0) σ) := by
  refine Ct.of hl0 rfl rfl (Nat.le_of_ble_eq_true rfl) ?_
  show Ex l G m_T_exchange (pmV G m_T_exchange (qd (.inl 0) σ)) 0 [(0, .ref (5 + 16 * 0)), (1, .int (v)), (2, .long (t)), (4, .int (r)), (5, .int (u))] [] (σ) 2 12
  refine e_aload_n d_T_exchange_0 rfl rfl ?_
  refine e_iload_n d_T_exchange_1 rfl rfl ?_
  exact e_callVt (q := 5) (a := 0) (As := [.int (v)]) (st := []) 1 6 d_T_exchange_2 cb_T_exchange_108 iv_T_nodeAt rfl ⟨by decide, rfl⟩ rfl (Nat.le_of_ble_eq_true rfl) (by decide) (by decide) (ct_T_nodeAt_x hl0 hx) rfl ⟨rfl, rfl⟩
set_option maxHeartbeats 4000000 in
theorem ct_T_exchange_y {l : Launch} (hl0 : l.stackTraces = false) {G : LG} {σ : HS} {i b : Nat} {t : Int64} {r u : Int32} {n L : Nat} (hT : TS σ n L) (hi : i < n) (hx : wiV r 1000000 = 0 ∨ wiV u 1000000 = 0) : Ct l G m_T_exchange [.ref (5 + 16 * 0), .int (nI i), .long (t), .int (r), .int (u)] (σ) (qd (.inl 0) σ) := by
  refine Ct.of hl0 rfl rfl (Nat.le_of_ble_eq_true rfl) ?_
  show Ex l G m_T_exchange (pmV G m_T_exchange (qd (.inl 0) σ)) 0 [(0, .ref (5 + 16 * 0)), (1, .int (nI i)), (2, .long (t)), (4, .int (r)), (5, .int (u))] [] (σ) 2 12
  refine e_aload_n d_T_exchange_0 rfl rfl ?_
  refine e_iload_n d_T_exchange_1 rfl rfl ?_
  refine e_callVd (v := some (.ref (2 + 16 * i))) (σ' := σ) (q := 5) (a := 0) (As := [.int (nI i)]) (st := []) 1 6 d_T_exchange_2 cb_T_exchange_108 iv_T_nodeAt rfl ⟨by decide, rfl⟩ rfl (Nat.le_of_ble_eq_true rfl) (by decide) (by decide) (ct_T_nodeAt hl0 hT hi) ?_
  show Ex l G m_T_exchange (pmV G m_T_exchange (qd (.inl 0) σ)) 5 [(0, .ref (5 + 16 * 0)), (1, .int (nI i)), (2, .long (t)), (4, .int (r)), (5, .int (u))] [.ref (2 + 16 * i)] (σ) 1 6
  refine e_astore (lv' := [(6, .ref (2 + 16 * i)), (0, .ref (5 + 16 * 0)), (1, .int (nI i)), (2, .long (t)), (4, .int (r)), (5, .int (u))]) d_T_exchange_5 (by decide) rfl ?_
  refine e_iload d_T_exchange_7 rfl ?_
  refine e_ldc (v := 1000000) d_T_exchange_9 kc_T_141 ?_
  refine e_callSd (v := some (.int (wiV (r) (1000000)))) (σ' := σ) (As := [.int (r), .int (1000000)]) (st := []) 1 6 d_T_exchange_11 cb_T_exchange_39 is_T_isWithin rfl (Nat.le_of_ble_eq_true rfl) (by decide) (by decide) (ct_T_isWithin hl0) ?_
  show Ex l G m_T_exchange (pmV G m_T_exchange (qd (.inl 0) σ)) 14 [(6, .ref (2 + 16 * i)), (0, .ref (5 + 16 * 0)), (1, .int (nI i)), (2, .long (t)), (4, .int (r)), (5, .int (u))] [.int (wiV (r) (1000000))] (σ) 1 6
  refine e_ifeq (tgt := 27) d_T_exchange_14 (by decide) (fun h14 => ?_) (fun h14 => ?_)
  ·
    exact e_iae rfl d_T_exchange_27 d_T_exchange_30 d_T_exchange_31 d_T_exchange_33 d_T_exchange_36 (by decide +kernel) ⟨by decide, Nat.le_of_ble_eq_true rfl⟩ ⟨by decide, by decide⟩ rfl ⟨rfl, rfl⟩
  ·
    refine e_iload d_T_exchange_17 rfl ?_
    refine e_ldc (v := 1000000) d_T_exchange_19 kc_T_141 ?_
    refine e_callSd (v := some (.int (wiV (u) (1000000)))) (σ' := σ) (As := [.int (u), .int (1000000)]) (st := []) 1 6 d_T_exchange_21 cb_T_exchange_39 is_T_isWithin rfl (Nat.le_of_ble_eq_true rfl) (by decide) (by decide) (ct_T_isWithin hl0) ?_
    show Ex l G m_T_exchange (pmV G m_T_exchange (qd (.inl 0) σ)) 24 [(6, .ref (2 + 16 * i)), (0, .ref (5 + 16 * 0)), (1, .int (nI i)), (2, .long (t)), (4, .int (r)), (5, .int (u))] [.int (wiV (u) (1000000))] (σ) 1 6
    refine e_ifne (tgt := 37) d_T_exchange_24 (by decide) (fun h24 => absurd h24 (fun z => z (hx.resolve_left h14))) (fun h24 => ?_)
    exact e_iae rfl d_T_exchange_27 d_T_exchange_30 d_T_exchange_31 d_T_exchange_33 d_T_exchange_36 (by decide +kernel) ⟨by decide, Nat.le_of_ble_eq_true rfl⟩ ⟨by decide, by decide⟩ rfl ⟨rfl, rfl⟩
set_option maxHeartbeats 4000000 in
theorem ct_T_exchange_n {l : Launch} (hl0 : l.stackTraces = false) {G : LG} {σ : HS} {i b : Nat} {t : Int64} {r u : Int32} {n L : Nat} (hT : TS σ n L) (hi : i < n)  (hx1 : ¬ wiV r 1000000 = 0) (hx2 : ¬ wiV u 1000000 = 0) (hB : hR σ 2 i 3 = some (0 + 16 * b)) (hos : osP σ i b = none) : Ct l G m_T_exchange [.ref (5 + 16 * 0), .int (nI i), .long (t), .int (r), .int (u)] (σ) (qd (.inl 1) σ) := by
  refine Ct.of hl0 rfl rfl (Nat.le_of_ble_eq_true rfl) ?_
  show Ex l G m_T_exchange (pmV G m_T_exchange (qd (.inl 1) σ)) 0 [(0, .ref (5 + 16 * 0)), (1, .int (nI i)), (2, .long (t)), (4, .int (r)), (5, .int (u))] [] (σ) 2 12
  refine e_aload_n d_T_exchange_0 rfl rfl ?_
  refine e_iload_n d_T_exchange_1 rfl rfl ?_
  refine e_callVd (v := some (.ref (2 + 16 * i))) (σ' := σ) (q := 5) (a := 0) (As := [.int (nI i)]) (st := []) 1 6 d_T_exchange_2 cb_T_exchange_108 iv_T_nodeAt rfl ⟨by decide, rfl⟩ rfl (Nat.le_of_ble_eq_true rfl) (by decide) (by decide) (ct_T_nodeAt hl0 hT hi) ?_
  show Ex l G m_T_exchange (pmV G m_T_exchange (qd (.inl 1) σ)) 5 [(0, .ref (5 + 16 * 0)), (1, .int (nI i)), (2, .long (t)), (4, .int (r)), (5, .int (u))] [.ref (2 + 16 * i)] (σ) 1 6
  refine e_astore (lv' := [(6, .ref (2 + 16 * i)), (0, .ref (5 + 16 * 0)), (1, .int (nI i)), (2, .long (t)), (4, .int (r)), (5, .int (u))]) d_T_exchange_5 (by decide) rfl ?_
  refine e_iload d_T_exchange_7 rfl ?_
  refine e_ldc (v := 1000000) d_T_exchange_9 kc_T_141 ?_
  refine e_callSd (v := some (.int (wiV (r) (1000000)))) (σ' := σ) (As := [.int (r), .int (1000000)]) (st := []) 1 6 d_T_exchange_11 cb_T_exchange_39 is_T_isWithin rfl (Nat.le_of_ble_eq_true rfl) (by decide) (by decide) (ct_T_isWithin hl0) ?_
  show Ex l G m_T_exchange (pmV G m_T_exchange (qd (.inl 1) σ)) 14 [(6, .ref (2 + 16 * i)), (0, .ref (5 + 16 * 0)), (1, .int (nI i)), (2, .long (t)), (4, .int (r)), (5, .int (u))] [.int (wiV (r) (1000000))] (σ) 1 6
  refine e_ifeq (tgt := 27) d_T_exchange_14 (by decide) (fun h14 => absurd h14 hx1) (fun h14 => ?_)
  refine e_iload d_T_exchange_17 rfl ?_
  refine e_ldc (v := 1000000) d_T_exchange_19 kc_T_141 ?_
  refine e_callSd (v := some (.int (wiV (u) (1000000)))) (σ' := σ) (As := [.int (u), .int (1000000)]) (st := []) 1 6 d_T_exchange_21 cb_T_exchange_39 is_T_isWithin rfl (Nat.le_of_ble_eq_true rfl) (by decide) (by decide) (ct_T_isWithin hl0) ?_
  show Ex l G m_T_exchange (pmV G m_T_exchange (qd (.inl 1) σ)) 24 [(6, .ref (2 + 16 * i)), (0, .ref (5 + 16 * 0)), (1, .int (nI i)), (2, .long (t)), (4, .int (r)), (5, .int (u))] [.int (wiV (u) (1000000))] (σ) 1 6
  refine e_ifne (tgt := 37) d_T_exchange_24 (by decide) (fun h24 => ?_) (fun h24 => absurd h24 hx2)
  refine e_aload d_T_exchange_37 rfl ?_
  refine e_callSd (v := some (.null)) (σ' := σ) (As := [.ref (2 + 16 * i)]) (st := []) 1 6 d_T_exchange_39 cb_T_exchange_144 is_T_openSlaveOf rfl (Nat.le_of_ble_eq_true rfl) (by decide) (by decide) ((by have h := ct_T_openSlaveOf (l := l) (G := G) hl0 hT hi hB; rw [hos] at h; exact h)) ?_
  show Ex l G m_T_exchange (pmV G m_T_exchange (qd (.inl 1) σ)) 42 [(6, .ref (2 + 16 * i)), (0, .ref (5 + 16 * 0)), (1, .int (nI i)), (2, .long (t)), (4, .int (r)), (5, .int (u))] [.null] (σ) 1 6
  refine e_astoreN (lv' := [(7, .null), (6, .ref (2 + 16 * i)), (0, .ref (5 + 16 * 0)), (1, .int (nI i)), (2, .long (t)), (4, .int (r)), (5, .int (u))]) d_T_exchange_42 (by decide) rfl ?_
  refine e_aloadN d_T_exchange_44 rfl ?_
  refine e_ifnonnullN d_T_exchange_46 ?_
  exact e_ise rfl d_T_exchange_49 d_T_exchange_52 d_T_exchange_53 d_T_exchange_55 d_T_exchange_58 (by decide +kernel) ⟨by decide, Nat.le_of_ble_eq_true rfl⟩ ⟨by decide, by decide⟩ rfl ⟨rfl, rfl⟩
set_option maxHeartbeats 4000000 in
theorem ct_T_exchange_o {l : Launch} (hl0 : l.stackTraces = false) {G : LG} {σ : HS} {i b : Nat} {t : Int64} {r u : Int32} {n L : Nat} (hT : TS σ n L) (hi : i < n) {p : Nat}  (hx1 : ¬ wiV r 1000000 = 0) (hx2 : ¬ wiV u 1000000 = 0) (hB : hR σ 2 i 3 = some (0 + 16 * b)) (hos : osP σ i b = some p) (hO : scV (xO σ i p t r u) = 0) : Ct l G m_T_exchange [.ref (5 + 16 * 0), .int (nI i), .long (t), .int (r), .int (u)] (σ) (qd (.inl 2) (scS σ i (xO σ i p t r u) (xJ σ i p t r u))) := by
  refine Ct.of hl0 rfl rfl (Nat.le_of_ble_eq_true rfl) ?_
  show Ex l G m_T_exchange (pmV G m_T_exchange (qd (.inl 2) (scS σ i (xO σ i p t r u) (xJ σ i p t r u)))) 0 [(0, .ref (5 + 16 * 0)), (1, .int (nI i)), (2, .long (t)), (4, .int (r)), (5, .int (u))] [] (σ) 2 12
  obtain ⟨hne, j, hj, hpj⟩ := osP_some hos
  refine e_aload_n d_T_exchange_0 rfl rfl ?_
  refine e_iload_n d_T_exchange_1 rfl rfl ?_
  refine e_callVd (v := some (.ref (2 + 16 * i))) (σ' := σ) (q := 5) (a := 0) (As := [.int (nI i)]) (st := []) 1 6 d_T_exchange_2 cb_T_exchange_108 iv_T_nodeAt rfl ⟨by decide, rfl⟩ rfl (Nat.le_of_ble_eq_true rfl) (by decide) (by decide) (ct_T_nodeAt hl0 hT hi) ?_
  show Ex l G m_T_exchange (pmV G m_T_exchange (qd (.inl 2) (scS σ i (xO σ i p t r u) (xJ σ i p t r u)))) 5 [(0, .ref (5 + 16 * 0)), (1, .int (nI i)), (2, .long (t)), (4, .int (r)), (5, .int (u))] [.ref (2 + 16 * i)] (σ) 1 6
  refine e_astore (lv' := [(6, .ref (2 + 16 * i)), (0, .ref (5 + 16 * 0)), (1, .int (nI i)), (2, .long (t)), (4, .int (r)), (5, .int (u))]) d_T_exchange_5 (by decide) rfl ?_
  refine e_iload d_T_exchange_7 rfl ?_
  refine e_ldc (v := 1000000) d_T_exchange_9 kc_T_141 ?_
  refine e_callSd (v := some (.int (wiV (r) (1000000)))) (σ' := σ) (As := [.int (r), .int (1000000)]) (st := []) 1 6 d_T_exchange_11 cb_T_exchange_39 is_T_isWithin rfl (Nat.le_of_ble_eq_true rfl) (by decide) (by decide) (ct_T_isWithin hl0) ?_
  show Ex l G m_T_exchange (pmV G m_T_exchange (qd (.inl 2) (scS σ i (xO σ i p t r u) (xJ σ i p t r u)))) 14 [(6, .ref (2 + 16 * i)), (0, .ref (5 + 16 * 0)), (1, .int (nI i)), (2, .long (t)), (4, .int (r)), (5, .int (u))] [.int (wiV (r) (1000000))] (σ) 1 6
  refine e_ifeq (tgt := 27) d_T_exchange_14 (by decide) (fun h14 => absurd h14 hx1) (fun h14 => ?_)
  refine e_iload d_T_exchange_17 rfl ?_
  refine e_ldc (v := 1000000) d_T_exchange_19 kc_T_141 ?_
  refine e_callSd (v := some (.int (wiV (u) (1000000)))) (σ' := σ) (As := [.int (u), .int (1000000)]) (st := []) 1 6 d_T_exchange_21 cb_T_exchange_39 is_T_isWithin rfl (Nat.le_of_ble_eq_true rfl) (by decide) (by decide) (ct_T_isWithin hl0) ?_
  show Ex l G m_T_exchange (pmV G m_T_exchange (qd (.inl 2) (scS σ i (xO σ i p t r u) (xJ σ i p t r u)))) 24 [(6, .ref (2 + 16 * i)), (0, .ref (5 + 16 * 0)), (1, .int (nI i)), (2, .long (t)), (4, .int (r)), (5, .int (u))] [.int (wiV (u) (1000000))] (σ) 1 6
  refine e_ifne (tgt := 37) d_T_exchange_24 (by decide) (fun h24 => ?_) (fun h24 => absurd h24 hx2)
  refine e_aload d_T_exchange_37 rfl ?_
  refine e_callSd (v := some (.ref (1 + 16 * p))) (σ' := σ) (As := [.ref (2 + 16 * i)]) (st := []) 1 6 d_T_exchange_39 cb_T_exchange_144 is_T_openSlaveOf rfl (Nat.le_of_ble_eq_true rfl) (by decide) (by decide) ((by have h := ct_T_openSlaveOf (l := l) (G := G) hl0 hT hi hB; rw [hos] at h; exact h)) ?_
  show Ex l G m_T_exchange (pmV G m_T_exchange (qd (.inl 2) (scS σ i (xO σ i p t r u) (xJ σ i p t r u)))) 42 [(6, .ref (2 + 16 * i)), (0, .ref (5 + 16 * 0)), (1, .int (nI i)), (2, .long (t)), (4, .int (r)), (5, .int (u))] [.ref (1 + 16 * p)] (σ) 1 6
  refine e_astore (lv' := [(7, .ref (1 + 16 * p)), (6, .ref (2 + 16 * i)), (0, .ref (5 + 16 * 0)), (1, .int (nI i)), (2, .long (t)), (4, .int (r)), (5, .int (u))]) d_T_exchange_42 (by decide) rfl ?_
  refine e_aload d_T_exchange_44 rfl ?_
  refine e_ifnonnull (tgt := 59) d_T_exchange_46 (by decide) ?_
  refine e_aload_n d_T_exchange_59 rfl rfl ?_
  refine e_aload d_T_exchange_60 rfl ?_
  refine e_aload d_T_exchange_62 rfl ?_
  refine e_lload_n d_T_exchange_64 rfl rfl ?_
  refine e_iload d_T_exchange_65 rfl ?_
  refine e_iload d_T_exchange_67 rfl ?_
  refine e_callVd (v := some (.int (scV (xO σ i p t r u)))) (σ' := scS σ i (xO σ i p t r u) (xJ σ i p t r u)) (q := 5) (a := 0) (As := [.ref (2 + 16 * i), .ref (1 + 16 * p), .long (t), .int (r), .int (u)]) (st := []) 1 6 d_T_exchange_69 cb_T_exchange_150 iv_T_setClock rfl ⟨by decide, rfl⟩ rfl (Nat.le_of_ble_eq_true rfl) (by decide) (by decide) (ct_T_setClock_p hl0 hT (by omega) hne) ?_
  show Ex l G m_T_exchange (pmV G m_T_exchange (qd (.inl 2) (scS σ i (xO σ i p t r u) (xJ σ i p t r u)))) 72 [(7, .ref (1 + 16 * p)), (6, .ref (2 + 16 * i)), (0, .ref (5 + 16 * 0)), (1, .int (nI i)), (2, .long (t)), (4, .int (r)), (5, .int (u))] [.int (scV (xO σ i p t r u))] (scS σ i (xO σ i p t r u) (xJ σ i p t r u)) 1 6
  refine e_ifne (tgt := 85) d_T_exchange_72 (by decide) (fun h72 => absurd h72 (fun z => z hO)) (fun h72 => ?_)
  exact e_are rfl d_T_exchange_75 d_T_exchange_78 d_T_exchange_79 d_T_exchange_81 d_T_exchange_84 (by decide +kernel) ⟨by decide, Nat.le_of_ble_eq_true rfl⟩ ⟨by decide, by decide⟩ rfl ⟨rfl, rfl⟩
theorem scS_R {σ : HS} {i : Nat} {O : Int32} {J : Nat → Int64} : hR (scS σ i O J) = hR σ := by unfold scS; split <;> rfl
theorem scS_off {σ : HS} {i k : Nat} {O : Int32} {J : Nat → Int64} : hJ (scS σ i O J) 4 0 k = J k := by
  unfold scS
  split
  · rw [J_sJ, if_neg (by omega), J_sJ, if_neg (by omega), J_rk]
  · rw [J_rk]
set_option maxHeartbeats 4000000 in
theorem ct_T_exchange {l : Launch} (hl0 : l.stackTraces = false) {G : LG} {σ : HS} {i b : Nat} {t : Int64} {r u : Int32} {n L : Nat} (hT : TS σ n L) (hi : i < n) {p : Nat}  (hx1 : ¬ wiV r 1000000 = 0) (hx2 : ¬ wiV u 1000000 = 0) (hB : hR σ 2 i 3 = some (0 + 16 * b)) (hos : osP σ i b = some p) (hO : ¬ scV (xO σ i p t r u) = 0) : Ct l G m_T_exchange [.ref (5 + 16 * 0), .int (nI i), .long (t), .int (r), .int (u)] (σ) (qd (.inr (some (.long (xJ σ i p t r u 1)))) (scS σ i (xO σ i p t r u) (xJ σ i p t r u))) := by
  refine Ct.of hl0 rfl rfl (Nat.le_of_ble_eq_true rfl) ?_
  show Ex l G m_T_exchange (pmV G m_T_exchange (qd (.inr (some (.long (xJ σ i p t r u 1)))) (scS σ i (xO σ i p t r u) (xJ σ i p t r u)))) 0 [(0, .ref (5 + 16 * 0)), (1, .int (nI i)), (2, .long (t)), (4, .int (r)), (5, .int (u))] [] (σ) 2 12
  obtain ⟨hne, j, hj, hpj⟩ := osP_some hos
  refine e_aload_n d_T_exchange_0 rfl rfl ?_
  refine e_iload_n d_T_exchange_1 rfl rfl ?_
  refine e_callVd (v := some (.ref (2 + 16 * i))) (σ' := σ) (q := 5) (a := 0) (As := [.int (nI i)]) (st := []) 1 6 d_T_exchange_2 cb_T_exchange_108 iv_T_nodeAt rfl ⟨by decide, rfl⟩ rfl (Nat.le_of_ble_eq_true rfl) (by decide) (by decide) (ct_T_nodeAt hl0 hT hi) ?_
  show Ex l G m_T_exchange (pmV G m_T_exchange (qd (.inr (some (.long (xJ σ i p t r u 1)))) (scS σ i (xO σ i p t r u) (xJ σ i p t r u)))) 5 [(0, .ref (5 + 16 * 0)), (1, .int (nI i)), (2, .long (t)), (4, .int (r)), (5, .int (u))] [.ref (2 + 16 * i)] (σ) 1 6
  refine e_astore (lv' := [(6, .ref (2 + 16 * i)), (0, .ref (5 + 16 * 0)), (1, .int (nI i)), (2, .long (t)), (4, .int (r)), (5, .int (u))]) d_T_exchange_5 (by decide) rfl ?_
  refine e_iload d_T_exchange_7 rfl ?_
  refine e_ldc (v := 1000000) d_T_exchange_9 kc_T_141 ?_
  refine e_callSd (v := some (.int (wiV (r) (1000000)))) (σ' := σ) (As := [.int (r), .int (1000000)]) (st := []) 1 6 d_T_exchange_11 cb_T_exchange_39 is_T_isWithin rfl (Nat.le_of_ble_eq_true rfl) (by decide) (by decide) (ct_T_isWithin hl0) ?_
  show Ex l G m_T_exchange (pmV G m_T_exchange (qd (.inr (some (.long (xJ σ i p t r u 1)))) (scS σ i (xO σ i p t r u) (xJ σ i p t r u)))) 14 [(6, .ref (2 + 16 * i)), (0, .ref (5 + 16 * 0)), (1, .int (nI i)), (2, .long (t)), (4, .int (r)), (5, .int (u))] [.int (wiV (r) (1000000))] (σ) 1 6
  refine e_ifeq (tgt := 27) d_T_exchange_14 (by decide) (fun h14 => absurd h14 hx1) (fun h14 => ?_)
  refine e_iload d_T_exchange_17 rfl ?_
  refine e_ldc (v := 1000000) d_T_exchange_19 kc_T_141 ?_
  refine e_callSd (v := some (.int (wiV (u) (1000000)))) (σ' := σ) (As := [.int (u), .int (1000000)]) (st := []) 1 6 d_T_exchange_21 cb_T_exchange_39 is_T_isWithin rfl (Nat.le_of_ble_eq_true rfl) (by decide) (by decide) (ct_T_isWithin hl0) ?_
  show Ex l G m_T_exchange (pmV G m_T_exchange (qd (.inr (some (.long (xJ σ i p t r u 1)))) (scS σ i (xO σ i p t r u) (xJ σ i p t r u)))) 24 [(6, .ref (2 + 16 * i)), (0, .ref (5 + 16 * 0)), (1, .int (nI i)), (2, .long (t)), (4, .int (r)), (5, .int (u))] [.int (wiV (u) (1000000))] (σ) 1 6
  refine e_ifne (tgt := 37) d_T_exchange_24 (by decide) (fun h24 => ?_) (fun h24 => absurd h24 hx2)
  refine e_aload d_T_exchange_37 rfl ?_
  refine e_callSd (v := some (.ref (1 + 16 * p))) (σ' := σ) (As := [.ref (2 + 16 * i)]) (st := []) 1 6 d_T_exchange_39 cb_T_exchange_144 is_T_openSlaveOf rfl (Nat.le_of_ble_eq_true rfl) (by decide) (by decide) ((by have h := ct_T_openSlaveOf (l := l) (G := G) hl0 hT hi hB; rw [hos] at h; exact h)) ?_
  show Ex l G m_T_exchange (pmV G m_T_exchange (qd (.inr (some (.long (xJ σ i p t r u 1)))) (scS σ i (xO σ i p t r u) (xJ σ i p t r u)))) 42 [(6, .ref (2 + 16 * i)), (0, .ref (5 + 16 * 0)), (1, .int (nI i)), (2, .long (t)), (4, .int (r)), (5, .int (u))] [.ref (1 + 16 * p)] (σ) 1 6
  refine e_astore (lv' := [(7, .ref (1 + 16 * p)), (6, .ref (2 + 16 * i)), (0, .ref (5 + 16 * 0)), (1, .int (nI i)), (2, .long (t)), (4, .int (r)), (5, .int (u))]) d_T_exchange_42 (by decide) rfl ?_
  refine e_aload d_T_exchange_44 rfl ?_
  refine e_ifnonnull (tgt := 59) d_T_exchange_46 (by decide) ?_
  refine e_aload_n d_T_exchange_59 rfl rfl ?_
  refine e_aload d_T_exchange_60 rfl ?_
  refine e_aload d_T_exchange_62 rfl ?_
  refine e_lload_n d_T_exchange_64 rfl rfl ?_
  refine e_iload d_T_exchange_65 rfl ?_
  refine e_iload d_T_exchange_67 rfl ?_
  refine e_callVd (v := some (.int (scV (xO σ i p t r u)))) (σ' := scS σ i (xO σ i p t r u) (xJ σ i p t r u)) (q := 5) (a := 0) (As := [.ref (2 + 16 * i), .ref (1 + 16 * p), .long (t), .int (r), .int (u)]) (st := []) 1 6 d_T_exchange_69 cb_T_exchange_150 iv_T_setClock rfl ⟨by decide, rfl⟩ rfl (Nat.le_of_ble_eq_true rfl) (by decide) (by decide) (ct_T_setClock_p hl0 hT (by omega) hne) ?_
  show Ex l G m_T_exchange (pmV G m_T_exchange (qd (.inr (some (.long (xJ σ i p t r u 1)))) (scS σ i (xO σ i p t r u) (xJ σ i p t r u)))) 72 [(7, .ref (1 + 16 * p)), (6, .ref (2 + 16 * i)), (0, .ref (5 + 16 * 0)), (1, .int (nI i)), (2, .long (t)), (4, .int (r)), (5, .int (u))] [.int (scV (xO σ i p t r u))] (scS σ i (xO σ i p t r u) (xJ σ i p t r u)) 1 6
  refine e_ifne (tgt := 85) d_T_exchange_72 (by decide) (fun h72 => ?_) (fun h72 => absurd h72 hO)
  refine e_aload_n d_T_exchange_85 rfl rfl ?_
  refine g_T_24 (b := 4 + 16 * 0) rfl d_T_exchange_86 (by rw [scS_R]; exact hT.1.2.2) ?_
  refine g_T_159 rfl d_T_exchange_89 ?_
  exact e_lret d_T_exchange_92 rfl ⟨(by rw [scS_off]), rfl⟩
end
section
theorem gfr.sc {σ : HS} {i : Nat} {O : Int32} {J : Nat → Int64} : gfr σ (scS σ i O J) := by
  have h : gfr σ (rk σ 0 O J) := ⟨fun _ _ _ _ => rfl, rfl, rfl, fun q a k hn => rk_hI (fun z => hn (by omega))⟩
  unfold scS
  split
  · exact ⟨h.1, h.2.1, h.2.2.1, h.2.2.2⟩
  · exact h
theorem gfr.ss {σ : HS} {i b : Nat} {t : Int64} : gfr σ (ssS σ i b t) := by
  unfold ssS
  split
  · exact gfr.rf
  · exact gfr.sc
theorem ssS_R {σ : HS} {i b : Nat} {t : Int64} : hR (ssS σ i b t) = hR σ := by
  unfold ssS
  split
  · rfl
  · exact scS_R
noncomputable def diI (bs : Nat → Nat) (t : Int64) (sv : Int32) (s : HS × Int32) : Nat → HS × Int32
  | 0 => s
  | i + 1 => if hI (diI bs t sv s i).1 0 (bs i) 4 = sv then (ssS (diI bs t sv s i).1 i (bs i) t, if ssV (diI bs t sv s i).1 i (bs i) t = 0 then (diI bs t sv s i).2 else (diI bs t sv s i).2 + 1) else diI bs t sv s i
noncomputable def diO (bs : Nat → Nat) (t : Int64) (n : Nat) (s : HS × Int32) : Nat → HS × Int32
  | 0 => s
  | k + 1 => diI bs t (nI k) (diO bs t n s k) n
theorem diI_g {bs : Nat → Nat} {t : Int64} {sv : Int32} {s : HS × Int32} : ∀ i, gfr s.1 (diI bs t sv s i).1 ∧ hR (diI bs t sv s i).1 = hR s.1
  | 0 => ⟨gfr.rf, rfl⟩
  | i + 1 => by
    have h := diI_g (bs := bs) (t := t) (sv := sv) (s := s) i
    unfold diI
    split
    · exact ⟨h.1.trans gfr.ss, ssS_R.trans h.2⟩
    · exact h
theorem diO_g {bs : Nat → Nat} {t : Int64} {n : Nat} {s : HS × Int32} : ∀ k, gfr s.1 (diO bs t n s k).1 ∧ hR (diO bs t n s k).1 = hR s.1
  | 0 => ⟨gfr.rf, rfl⟩
  | k + 1 => by
    have h := diO_g (bs := bs) (t := t) (n := n) (s := s) k
    have h2 := diI_g (bs := bs) (t := t) (sv := nI k) (s := diO bs t n s k) n
    exact ⟨h.1.trans h2.1, h2.2.trans h.2⟩
set_option maxHeartbeats 4000000 in
theorem li_T_discipline {l : Launch} (hl0 : l.stackTraces = false) {G : LG} {PM : LPM} {n L k : Nat} {bs : Nat → Nat} {t : Int64} {s : HS × Int32} (hT : TS s.1 n L) (hB : ∀ i, i < n → hR s.1 2 i 3 = some (0 + 16 * (bs i))) (hnext : Ex l G m_T_discipline PM 5 [(4, .int (nI (k + 1))), (3, .int ((diI bs t (nI k) s n).2)), (0, .ref (5 + 16 * 0)), (1, .long (t))] [] ((diI bs t (nI k) s n).1) 0 0) : ∀ m i, i + m = n → Ex l G m_T_discipline PM 15 [(5, .int (nI i)), (4, .int (nI k)), (3, .int ((diI bs t (nI k) s i).2)), (0, .ref (5 + 16 * 0)), (1, .long (t))] [] ((diI bs t (nI k) s i).1) 0 0 := by
  have hn10 := hT.2.2.1.2.2.1
  intro m
  induction m with
  | zero =>
    intro i hi
    have hT' : TS (diI bs t (nI k) s i).1 n L := hT.g (diI_g i).1
    obtain rfl : i = n := by omega
    refine e_iload d_T_discipline_15 rfl ?_
    refine e_aload_n d_T_discipline_17 rfl rfl ?_
    refine g_T_28 rfl d_T_discipline_18 ?_
    refine e_icmpge (tgt := 66) d_T_discipline_21 (by decide) (fun h21 => ?_) (fun h21 => absurd (by rw [hT'.2.2.1.1]; exact nI_le (Nat.le_refl _) (by omega)) h21)
    refine e_iinc (v := nI (k + 1)) (lv' := [(4, .int (nI (k + 1))), (5, .int (nI i)), (3, .int ((diI bs t (nI k) s i).2)), (0, .ref (5 + 16 * 0)), (1, .long (t))]) d_T_discipline_66 rfl (ofI1 k) (by decide) rfl ?_
    refine e_goto (tgt := 5) d_T_discipline_69 (by decide) ?_
    exact e_lv (lv' := [(4, .int (nI (k + 1))), (3, .int ((diI bs t (nI k) s i).2)), (0, .ref (5 + 16 * 0)), (1, .long (t))]) ⟨rfl, rfl, rfl, rfl, trivial⟩ hnext
  | succ m ih =>
    intro i hi
    have hin : i < n := by omega
    have hT' : TS (diI bs t (nI k) s i).1 n L := hT.g (diI_g i).1
    have hb : hR (diI bs t (nI k) s i).1 2 i 3 = some (0 + 16 * (bs i)) := by rw [(diI_g i).2]; exact hB i hin
    refine e_iload d_T_discipline_15 rfl ?_
    refine e_aload_n d_T_discipline_17 rfl rfl ?_
    refine g_T_28 rfl d_T_discipline_18 ?_
    refine e_icmpge (tgt := 66) d_T_discipline_21 (by decide) (fun h21 => absurd h21 (by rw [hT'.2.2.1.1]; exact nI_ge hin (by omega))) (fun h21 => ?_)
    refine e_aload_n d_T_discipline_24 rfl rfl ?_
    refine g_T_11 (b := 10 + 16 * 0) rfl d_T_discipline_25 hT'.1.1 ?_
    refine e_iload d_T_discipline_28 rfl ?_
    refine e_aald (b := 2 + 16 * i) (C := _) d_T_discipline_30 ⟨by decide, by decide⟩ rfl (by rw [hT'.2.1.1]; exact nI_in (by omega) (by decide)) (by rw [nI_clamp (by omega)]; exact (hT'.2.2.2.1 i hin).1) ?_
    refine g_T_126 (b := 0 + 16 * (bs i)) rfl d_T_discipline_31 hb ?_
    refine g_T_132 rfl d_T_discipline_34 ?_
    refine e_iload d_T_discipline_37 rfl ?_
    refine e_icmpne (tgt := 60) d_T_discipline_39 (by decide) (fun h39 => ?_) (fun h39 => ?_)
    ·
      refine e_iinc (v := nI (i + 1)) (lv' := [(5, .int (nI (i + 1))), (4, .int (nI k)), (3, .int ((diI bs t (nI k) s i).2)), (0, .ref (5 + 16 * 0)), (1, .long (t))]) d_T_discipline_60 rfl (ofI1 i) (by decide) rfl ?_
      refine e_goto (tgt := 15) d_T_discipline_63 (by decide) ?_
      exact e_lv (lv' := [(5, .int (nI (i + 1))), (4, .int (nI k)), (3, .int ((diI bs t (nI k) s i).2)), (0, .ref (5 + 16 * 0)), (1, .long (t))]) ⟨rfl, rfl, rfl, rfl, rfl, trivial⟩ (by have h9 := ih (i + 1) (by omega); rw [show diI bs t (nI k) s (i + 1) = ((diI bs t (nI k) s i).1, (diI bs t (nI k) s i).2) by rw [diI]; simp [h39]] at h9; exact h9)
    ·
      refine e_aload_n d_T_discipline_42 rfl rfl ?_
      refine e_aload_n d_T_discipline_43 rfl rfl ?_
      refine g_T_11 (b := 10 + 16 * 0) rfl d_T_discipline_44 hT'.1.1 ?_
      refine e_iload d_T_discipline_47 rfl ?_
      refine e_aald (b := 2 + 16 * i) (C := _) d_T_discipline_49 ⟨by decide, by decide⟩ rfl (by rw [hT'.2.1.1]; exact nI_in (by omega) (by decide)) (by rw [nI_clamp (by omega)]; exact (hT'.2.2.2.1 i hin).1) ?_
      refine e_lload_n d_T_discipline_50 rfl rfl ?_
      refine e_callVd (v := some (.int (ssV (diI bs t (nI k) s i).1 i (bs i) t))) (σ' := ssS (diI bs t (nI k) s i).1 i (bs i) t) (q := 5) (a := 0) (As := [.ref (2 + 16 * i), .long (t)]) (st := []) 0 0 d_T_discipline_51 cb_T_discipline_169 iv_T_setsClock rfl ⟨by decide, rfl⟩ rfl (Nat.le_of_ble_eq_true rfl) (by decide) (by decide) (ct_T_setsClock hl0 hT' hin hb) ?_
      show Ex l G m_T_discipline PM 54 [(5, .int (nI i)), (4, .int (nI k)), (3, .int ((diI bs t (nI k) s i).2)), (0, .ref (5 + 16 * 0)), (1, .long (t))] [.int (ssV (diI bs t (nI k) s i).1 i (bs i) t)] (ssS (diI bs t (nI k) s i).1 i (bs i) t) 0 0
      refine e_ifeq (tgt := 60) d_T_discipline_54 (by decide) (fun h54 => ?_) (fun h54 => ?_)
      ·
        refine e_iinc (v := nI (i + 1)) (lv' := [(5, .int (nI (i + 1))), (4, .int (nI k)), (3, .int ((diI bs t (nI k) s i).2)), (0, .ref (5 + 16 * 0)), (1, .long (t))]) d_T_discipline_60 rfl (ofI1 i) (by decide) rfl ?_
        refine e_goto (tgt := 15) d_T_discipline_63 (by decide) ?_
        exact e_lv (lv' := [(5, .int (nI (i + 1))), (4, .int (nI k)), (3, .int ((diI bs t (nI k) s i).2)), (0, .ref (5 + 16 * 0)), (1, .long (t))]) ⟨rfl, rfl, rfl, rfl, rfl, trivial⟩ (by have h9 := ih (i + 1) (by omega); rw [show diI bs t (nI k) s (i + 1) = (ssS (diI bs t (nI k) s i).1 i (bs i) t, (diI bs t (nI k) s i).2) by rw [diI]; simp [h39, h54]] at h9; exact h9)
      ·
        refine e_iinc (v := (diI bs t (nI k) s i).2 + 1) (lv' := [(3, .int ((diI bs t (nI k) s i).2 + 1)), (5, .int (nI i)), (4, .int (nI k)), (0, .ref (5 + 16 * 0)), (1, .long (t))]) d_T_discipline_57 rfl rfl (by decide) rfl ?_
        refine e_iinc (v := nI (i + 1)) (lv' := [(5, .int (nI (i + 1))), (3, .int ((diI bs t (nI k) s i).2 + 1)), (4, .int (nI k)), (0, .ref (5 + 16 * 0)), (1, .long (t))]) d_T_discipline_60 rfl (ofI1 i) (by decide) rfl ?_
        refine e_goto (tgt := 15) d_T_discipline_63 (by decide) ?_
        exact e_lv (lv' := [(5, .int (nI (i + 1))), (4, .int (nI k)), (3, .int ((diI bs t (nI k) s i).2 + 1)), (0, .ref (5 + 16 * 0)), (1, .long (t))]) ⟨rfl, rfl, rfl, rfl, rfl, trivial⟩ (by have h9 := ih (i + 1) (by omega); rw [show diI bs t (nI k) s (i + 1) = (ssS (diI bs t (nI k) s i).1 i (bs i) t, (diI bs t (nI k) s i).2 + 1) by rw [diI]; simp [h39, h54]] at h9; exact h9)
theorem lq15f : ∀ k, k < 15 → ¬ (15 : Int32) ≤ nI k := by decide +kernel
theorem lq15t : (15 : Int32) ≤ nI 15 := by decide +kernel
set_option maxHeartbeats 4000000 in
theorem lp_T_discipline {l : Launch} (hl0 : l.stackTraces = false) {G : LG} {σ : HS} {n L : Nat} {bs : Nat → Nat} {t : Int64} (hT : TS σ n L) (hB : ∀ i, i < n → hR σ 2 i 3 = some (0 + 16 * (bs i))) : ∀ m k, k + m = 15 → Ex l G m_T_discipline (pmV G m_T_discipline (qd (.inr (some (.int (diO bs t n (σ, 0) 15).2))) (diO bs t n (σ, 0) 15).1)) 5 [(4, .int (nI k)), (3, .int ((diO bs t n (σ, 0) k).2)), (0, .ref (5 + 16 * 0)), (1, .long (t))] [] ((diO bs t n (σ, 0) k).1) 0 0 := by
  intro m
  induction m with
  | zero =>
    intro k hk
    obtain rfl : k = 15 := by omega
    refine e_iload d_T_discipline_5 rfl ?_
    refine e_bipush (v := 15) d_T_discipline_7 (by decide) ?_
    refine e_icmpge (tgt := 72) d_T_discipline_9 (by decide) (fun h9 => ?_) (fun h9 => absurd lq15t h9)
    refine e_iload_n d_T_discipline_72 rfl rfl ?_
    exact e_iret d_T_discipline_73 rfl ⟨rfl, rfl⟩
  | succ m ih =>
    intro k hk
    have hT' : TS (diO bs t n (σ, 0) k).1 n L := hT.g (diO_g k).1
    refine e_iload d_T_discipline_5 rfl ?_
    refine e_bipush (v := 15) d_T_discipline_7 (by decide) ?_
    refine e_icmpge (tgt := 72) d_T_discipline_9 (by decide) (fun h9 => absurd h9 (lq15f k (by omega))) (fun h9 => ?_)
    refine e_iconst (v := 0) d_T_discipline_12 (by decide) ?_
    refine e_istore (lv' := [(5, .int (0)), (4, .int (nI k)), (3, .int ((diO bs t n (σ, 0) k).2)), (0, .ref (5 + 16 * 0)), (1, .long (t))]) d_T_discipline_13 (by decide) rfl ?_
    exact e_lv (lv' := [(5, .int (nI 0)), (4, .int (nI k)), (3, .int ((diO bs t n (σ, 0) k).2)), (0, .ref (5 + 16 * 0)), (1, .long (t))]) ⟨rfl, rfl, rfl, rfl, rfl, trivial⟩ (li_T_discipline hl0 hT' (fun i hi => by rw [(diO_g k).2]; exact hB i hi) (ih (k + 1) (by omega)) n 0 (by omega))
set_option maxHeartbeats 4000000 in
theorem ct_T_discipline {l : Launch} (hl0 : l.stackTraces = false) {G : LG} {σ : HS} {n L : Nat} {bs : Nat → Nat} {t : Int64} (hT : TS σ n L) (hB : ∀ i, i < n → hR σ 2 i 3 = some (0 + 16 * (bs i)))  : Ct l G m_T_discipline [.ref (5 + 16 * 0), .long (t)] (σ) (qd (.inr (some (.int (diO bs t n (σ, 0) 15).2))) (diO bs t n (σ, 0) 15).1) := by
  refine Ct.of hl0 rfl rfl (Nat.le_of_ble_eq_true rfl) ?_
  show Ex l G m_T_discipline (pmV G m_T_discipline (qd (.inr (some (.int (diO bs t n (σ, 0) 15).2))) (diO bs t n (σ, 0) 15).1)) 0 [(0, .ref (5 + 16 * 0)), (1, .long (t))] [] (σ) 0 0
  refine e_iconst (v := 0) d_T_discipline_0 (by decide) ?_
  refine e_istore_n (lv' := [(3, .int (0)), (0, .ref (5 + 16 * 0)), (1, .long (t))]) d_T_discipline_1 rfl (by decide) rfl ?_
  refine e_iconst (v := 0) d_T_discipline_2 (by decide) ?_
  refine e_istore (lv' := [(4, .int (0)), (3, .int (0)), (0, .ref (5 + 16 * 0)), (1, .long (t))]) d_T_discipline_3 (by decide) rfl ?_
  exact e_lv (lv' := [(4, .int (nI 0)), (3, .int ((diO bs t n (σ, 0) 0).2)), (0, .ref (5 + 16 * 0)), (1, .long (t))]) ⟨rfl, rfl, rfl, rfl, trivial⟩ (lp_T_discipline hl0 hT hB 15 0 rfl)
end
section
/-- a port made: number p, of the node o, its number u there, its datasets d and d + 1 -/
def piS (σ : HS) (p : Nat) (o u : Int32) (d : Nat) : HS := sR (sI (sI (sI (sR (nw (sR (nw (sI (sI (σ) 1 (p) 0 (o)) 1 (p) 1 (u)) 0 0) 1 (p) 2 (some (0 + 16 * d))) 0 0) 1 (p) 3 (some (0 + 16 * (d + 1)))) 1 (p) 4 (0)) 1 (p) 5 (0)) 1 (p) 6 (0)) 1 (p) 7 none
set_option maxHeartbeats 4000000 in
theorem ct_P_init {l : Launch} (hl0 : l.stackTraces = false) {G : LG} {σ : HS} {p d : Nat} {o u : Int32} (hd : hn σ 0 = d) : Ct l G m_P_init [.ref (1 + 16 * p), .int (o), .int (u)] (σ) (qd (.inr none) (piS σ p o u d)) := by
  refine Ct.of hl0 rfl rfl (Nat.le_of_ble_eq_true rfl) ?_
  show Ex l G m_P_init (pmV G m_P_init (qd (.inr none) (piS σ p o u d))) 0 [(0, .ref (1 + 16 * p)), (1, .int (o)), (2, .int (u))] [] (σ) 2 16
  refine e_aload_n d_P_init_0 rfl rfl ?_
  refine e_obji d_P_init_1 ol_P_3 ⟨by decide, by decide⟩ ?_
  refine e_aload_n d_P_init_4 rfl rfl ?_
  refine e_iload_n d_P_init_5 rfl rfl ?_
  refine p_P_9 rfl rfl d_P_init_6 ?_
  refine e_aload_n d_P_init_9 rfl rfl ?_
  refine e_iload_n d_P_init_10 rfl rfl ?_
  refine p_P_15 rfl rfl d_P_init_11 ?_
  refine e_aload_n d_P_init_14 rfl rfl ?_
  refine e_bg (mc' := 1 + 1) (ms' := 8 + 8) (by decide) (by decide) ?_
  refine e_new (q := 0) (mc := 1) (ms := 8) d_P_init_15 rfl (by decide) cl_P_18 ki_D.1 ki_D.2 ?_
  rw [show hn (sI (sI (σ) 1 (p) 0 (o)) 1 (p) 1 (u)) 0 = d from (by simp [n_sI, n_sJ, n_sR, n_nw, hd])]
  refine e_dup d_P_init_18 rfl ?_
  refine e_callINd (v := none) (σ' := nw (sI (sI (σ) 1 (p) 0 (o)) 1 (p) 1 (u)) 0 0) (x := 0 + 16 * d) (As := []) (st := [.ref (0 + 16 * d), .ref (1 + 16 * p)]) 1 8 d_P_init_19 nl_P_20 ⟨k_D_init.1, k_D_init.2, by decide⟩ ii_D_init rfl (Nat.le_of_ble_eq_true rfl) (by decide) (by decide) (ct_D_init hl0) ?_
  show Ex l G m_P_init (pmV G m_P_init (qd (.inr none) (piS σ p o u d))) 22 [(0, .ref (1 + 16 * p)), (1, .int (o)), (2, .int (u))] [.ref (0 + 16 * d), .ref (1 + 16 * p)] (nw (sI (sI (σ) 1 (p) 0 (o)) 1 (p) 1 (u)) 0 0) 1 8
  refine p_P_21 (by omega) rfl rfl d_P_init_22 ?_
  refine e_aload_n d_P_init_25 rfl rfl ?_
  refine e_bg (mc' := 0 + 1) (ms' := 0 + 8) (by decide) (by decide) ?_
  refine e_new (q := 0) (mc := 0) (ms := 0) d_P_init_26 rfl (by decide) cl_P_18 ki_D.1 ki_D.2 ?_
  rw [show hn (sR (nw (sI (sI (σ) 1 (p) 0 (o)) 1 (p) 1 (u)) 0 0) 1 (p) 2 (some (0 + 16 * d))) 0 = d + 1 from (by simp [n_sI, n_sJ, n_sR, n_nw, hd])]
  refine e_dup d_P_init_29 rfl ?_
  refine e_callINd (v := none) (σ' := nw (sR (nw (sI (sI (σ) 1 (p) 0 (o)) 1 (p) 1 (u)) 0 0) 1 (p) 2 (some (0 + 16 * d))) 0 0) (x := 0 + 16 * (d + 1)) (As := []) (st := [.ref (0 + 16 * (d + 1)), .ref (1 + 16 * p)]) 0 0 d_P_init_30 nl_P_20 ⟨k_D_init.1, k_D_init.2, by decide⟩ ii_D_init rfl (Nat.le_of_ble_eq_true rfl) (by decide) (by decide) (ct_D_init hl0) ?_
  show Ex l G m_P_init (pmV G m_P_init (qd (.inr none) (piS σ p o u d))) 33 [(0, .ref (1 + 16 * p)), (1, .int (o)), (2, .int (u))] [.ref (0 + 16 * (d + 1)), .ref (1 + 16 * p)] (nw (sR (nw (sI (sI (σ) 1 (p) 0 (o)) 1 (p) 1 (u)) 0 0) 1 (p) 2 (some (0 + 16 * d))) 0 0) 0 0
  refine p_P_25 (by omega) rfl rfl d_P_init_33 ?_
  refine e_aload_n d_P_init_36 rfl rfl ?_
  refine e_iconst (v := 0) d_P_init_37 (by decide) ?_
  refine p_P_28 (by first | exact Or.inl rfl | exact Or.inr rfl) rfl d_P_init_38 ?_
  refine e_aload_n d_P_init_41 rfl rfl ?_
  refine e_iconst (v := 0) d_P_init_42 (by decide) ?_
  refine p_P_32 rfl d_P_init_43 ?_
  refine e_aload_n d_P_init_46 rfl rfl ?_
  refine e_iconst (v := 0) d_P_init_47 (by decide) ?_
  refine p_P_35 rfl d_P_init_48 ?_
  refine e_aload_n d_P_init_51 rfl rfl ?_
  refine e_null d_P_init_52 ?_
  refine p_P_38N rfl d_P_init_53 ?_
  exact e_vret d_P_init_56 rfl ⟨rfl, rfl⟩
theorem piS_n {σ : HS} {p d : Nat} {o u : Int32} {q : Nat} : hn (piS σ p o u d) q = if q = 0 then hn σ 0 + 2 else hn σ q := by
  unfold piS
  simp only [n_sI, n_sR, n_nw]
  split <;> simp
theorem piS_l {σ : HS} {p d : Nat} {o u : Int32} {q a : Nat} (hq : q ≠ 0) : hl (piS σ p o u d) q a = hl σ q a := by
  unfold piS
  simp [l_sI, l_sR, l_nw, hq]
theorem piS_J {σ : HS} {p d : Nat} {o u : Int32} {q a k : Nat} (hq : q ≠ 0) : hJ (piS σ p o u d) q a k = hJ σ q a k := by
  unfold piS
  simp [J_sI, J_sR, J_nw, hq]
theorem piS_R {σ : HS} {p d : Nat} {o u : Int32} {q a k : Nat} (hq : q ≠ 0) (h : ¬ (q = 1 ∧ a = p)) : hR (piS σ p o u d) q a k = hR σ q a k := by
  unfold piS
  simp [R_sI, R_sR, R_nw, hq]
  have h' : ∀ x, ¬ (q = 1 ∧ a = p ∧ k = x) := fun x z => h ⟨z.1, z.2.1⟩
  simp [h']
theorem piS_I {σ : HS} {p d : Nat} {o u : Int32} {q a k : Nat} (hq : q ≠ 0) (h : ¬ (q = 1 ∧ a = p)) : hI (piS σ p o u d) q a k = hI σ q a k := by
  unfold piS
  simp [I_sI, I_sR, I_nw, hq]
  have h' : ∀ x, ¬ (q = 1 ∧ a = p ∧ k = x) := fun x z => h ⟨z.1, z.2.1⟩
  simp [h']
def niS (σ : HS) (i : Nat) (v : Int32) (off : Int64) : Nat → HS
  | 0 => sR (nw (sR (sR (nw (sJ (sJ (sI (σ) 2 (i) 0 (v)) 2 (i) 4 (off)) 2 (i) 5 (-1)) 0 0) 2 (i) 1 (some (0 + 16 * (9 * i)))) 2 (i) 3 (some (0 + 16 * (9 * i)))) 12 4) 2 (i) 2 (some (12 + 16 * i))
  | j + 1 => sR (piS (nw (niS σ i v off j) 1 0) (4 * i + j) v (nI j) (9 * i + 1 + 2 * j)) 12 i j (some (1 + 16 * (4 * i + j)))
theorem niS_n {σ : HS} {i : Nat} {v : Int32} {off : Int64} {q : Nat} : ∀ j, hn (niS σ i v off j) q = if q = 0 then hn σ 0 + 1 + 2 * j else if q = 1 then hn σ 1 + j else if q = 12 then hn σ 12 + 1 else hn σ q
  | 0 => by
    unfold niS
    simp only [n_sI, n_sJ, n_sR, n_nw]
    by_cases h0 : q = 0
    · subst h0; simp
    · by_cases h12 : q = 12
      · subst h12; simp
      · by_cases h1 : q = 1
        · subst h1; simp
        · simp [h0, h1, h12]
  | j + 1 => by
    show hn (sR (piS (nw (niS σ i v off j) 1 0) _ _ _ _) 12 i j _) q = _
    rw [n_sR, piS_n, n_nw, n_nw, niS_n j, niS_n j, niS_n j]
    by_cases h0 : q = 0
    · subst h0; simp; omega
    · by_cases h1 : q = 1
      · subst h1; simp; omega
      · simp [h0, h1]
theorem niS_l {σ : HS} {i : Nat} {v : Int32} {off : Int64} (ha : hn σ 12 = i) : ∀ j, hl (niS σ i v off j) 12 i = 4
  | 0 => by
    unfold niS
    simp [l_sI, l_sJ, l_sR, l_nw, n_sI, n_sJ, n_sR, n_nw, ha]
  | j + 1 => by
    show hl (sR (piS (nw (niS σ i v off j) 1 0) _ _ _ _) 12 i j _) 12 i = 4
    rw [l_sR, piS_l (by decide), l_nw, if_neg (by omega), niS_l ha j]
theorem niS_ports {σ : HS} {i : Nat} {v : Int32} {off : Int64} : ∀ j, hR (niS σ i v off j) 2 i 2 = some (12 + 16 * i)
  | 0 => by
    unfold niS
    simp [R_sI, R_sJ, R_sR, R_nw]
  | j + 1 => by
    show hR (sR (piS (nw (niS σ i v off j) 1 0) _ _ _ _) 12 i j _) 2 i 2 = _
    rw [R_sR, if_neg (by omega), piS_R (by decide) (by omega), R_nw, if_neg (by omega), niS_ports j]
set_option maxHeartbeats 4000000 in
theorem lp_N_init {l : Launch} (hl0 : l.stackTraces = false) {G : LG} {σ : HS} {i : Nat} {v : Int32} {off : Int64} (hd : hn σ 0 = 9 * i) (hp : hn σ 1 = 4 * i) (ha : hn σ 12 = i) : ∀ m j, j + m = 4 → Ex l G m_N_init (pmV G m_N_init (qd (.inr none) (niS σ i v off 4))) 51 [(4, .int (nI j)), (0, .ref (2 + 16 * i)), (1, .int (v)), (2, .long (off))] [] (niS σ i v off j) (3 * m) (24 * m) := by
  intro m
  induction m with
  | zero =>
    intro j hj
    obtain rfl : j = 4 := by omega
    refine e_iload d_N_init_51 rfl ?_
    refine e_iconst (v := 4) d_N_init_53 (by decide) ?_
    refine e_icmpge (tgt := 80) d_N_init_54 (by decide) (fun h54 => ?_) (fun h54 => absurd lp4t h54)
    exact e_vret d_N_init_80 rfl ⟨rfl, rfl⟩
  | succ m ih =>
    intro j hj
    have hj4 : j < 4 := by omega
    refine e_iload d_N_init_51 rfl ?_
    refine e_iconst (v := 4) d_N_init_53 (by decide) ?_
    refine e_icmpge (tgt := 80) d_N_init_54 (by decide) (fun h54 => absurd h54 (lp4f hj4)) (fun h54 => ?_)
    refine e_aload_n d_N_init_57 rfl rfl ?_
    refine g_N_36 (b := 12 + 16 * i) rfl d_N_init_58 (niS_ports j) ?_
    refine e_iload d_N_init_61 rfl ?_
    refine e_bg (mc' := (3 * m + 2) + 1) (ms' := (24 * m + 16) + 8) (by omega) (by omega) ?_
    refine e_new (q := 1) (mc := 3 * m + 2) (ms := 24 * m + 16) d_N_init_63 rfl (by decide) cl_N_34 ki_P.1 ki_P.2 ?_
    rw [show hn (niS σ i v off j) 1 = 4 * i + j from by rw [niS_n]; simp [hp]]
    refine e_dup d_N_init_66 rfl ?_
    refine e_iload_n d_N_init_67 rfl rfl ?_
    refine e_iload d_N_init_68 rfl ?_
    refine e_callId (v := none) (σ' := piS (nw (niS σ i v off j) 1 0) (4 * i + j) v (nI j) (9 * i + 1 + 2 * j)) (x := 1 + 16 * (4 * i + j)) (As := [.int v, .int (nI j)]) (st := [.ref (1 + 16 * (4 * i + j)), .int (nI j), .ref (12 + 16 * i)]) (3 * m) (24 * m) d_N_init_70 cb_N_init_40 ii_P_init rfl (Nat.le_of_ble_eq_true rfl) (by show 3 * m + 2 ≤ 3 * m + 2; omega) (by show 24 * m + 16 ≤ 24 * m + 16; omega) (ct_P_init hl0 (by rw [n_nw, if_neg (by decide), niS_n]; simp [hd])) ?_
    refine e_aast (q := 12) (a := i) (ci := 1) (b := 4 * i + j) d_N_init_73 ⟨by decide, by decide⟩ (by decide) rfl rfl (by rw [piS_l (by decide), l_nw, if_neg (by omega), niS_l ha]; exact nI_in hj4 (by decide)) ?_
    rw [nI_clamp (by omega)]
    refine e_iinc (v := nI (j + 1)) (lv' := [(4, .int (nI (j + 1))), (0, .ref (2 + 16 * i)), (1, .int (v)), (2, .long (off))]) d_N_init_74 rfl (ofI1 j) (by decide) rfl ?_
    refine e_goto (tgt := 51) d_N_init_77 (by decide) ?_
    exact ih (j + 1) (by omega)
set_option maxHeartbeats 4000000 in
theorem ct_N_init {l : Launch} (hl0 : l.stackTraces = false) {G : LG} {σ : HS} {i : Nat} {v : Int32} {off : Int64} (hd : hn σ 0 = 9 * i) (hp : hn σ 1 = 4 * i) (ha : hn σ 12 = i)  : Ct l G m_N_init [.ref (2 + 16 * i), .int (v), .long (off)] (σ) (qd (.inr none) (niS σ i v off 4)) := by
  refine Ct.of hl0 rfl rfl (Nat.le_of_ble_eq_true rfl) ?_
  show Ex l G m_N_init (pmV G m_N_init (qd (.inr none) (niS σ i v off 4))) 0 [(0, .ref (2 + 16 * i)), (1, .int (v)), (2, .long (off))] [] (σ) 14 108
  refine e_aload_n d_N_init_0 rfl rfl ?_
  refine e_obji d_N_init_1 ol_N_3 ⟨by decide, by decide⟩ ?_
  refine e_aload_n d_N_init_4 rfl rfl ?_
  refine e_iload_n d_N_init_5 rfl rfl ?_
  refine p_N_9 rfl rfl d_N_init_6 ?_
  refine e_aload_n d_N_init_9 rfl rfl ?_
  refine e_lload_n d_N_init_10 rfl rfl ?_
  refine p_N_15 rfl d_N_init_11 ?_
  refine e_aload_n d_N_init_14 rfl rfl ?_
  refine e_ldc2 (v := -1) d_N_init_15 kc_N_19 ?_
  refine p_N_21 rfl d_N_init_18 ?_
  refine e_aload_n d_N_init_21 rfl rfl ?_
  refine e_bg (mc' := 13 + 1) (ms' := 100 + 8) (by decide) (by decide) ?_
  refine e_new (q := 0) (mc := 13) (ms := 100) d_N_init_22 rfl (by decide) cl_N_24 ki_D.1 ki_D.2 ?_
  rw [show hn (sJ (sJ (sI (σ) 2 (i) 0 (v)) 2 (i) 4 (off)) 2 (i) 5 (-1)) 0 = 9 * i from (by simp [n_sI, n_sJ, n_sR, n_nw, hd])]
  refine e_dup d_N_init_25 rfl ?_
  refine e_callINd (v := none) (σ' := nw (sJ (sJ (sI (σ) 2 (i) 0 (v)) 2 (i) 4 (off)) 2 (i) 5 (-1)) 0 0) (x := 0 + 16 * (9 * i)) (As := []) (st := [.ref (0 + 16 * (9 * i)), .ref (2 + 16 * i)]) 13 100 d_N_init_26 nl_N_26 ⟨k_D_init.1, k_D_init.2, by decide⟩ ii_D_init rfl (Nat.le_of_ble_eq_true rfl) (by decide) (by decide) (ct_D_init hl0) ?_
  show Ex l G m_N_init (pmV G m_N_init (qd (.inr none) (niS σ i v off 4))) 29 [(0, .ref (2 + 16 * i)), (1, .int (v)), (2, .long (off))] [.ref (0 + 16 * (9 * i)), .ref (2 + 16 * i)] (nw (sJ (sJ (sI (σ) 2 (i) 0 (v)) 2 (i) 4 (off)) 2 (i) 5 (-1)) 0 0) 13 100
  refine p_N_27 (by omega) rfl rfl d_N_init_29 ?_
  refine e_aload_n d_N_init_32 rfl rfl ?_
  refine e_aload_n d_N_init_33 rfl rfl ?_
  refine g_N_27 (b := 0 + 16 * (9 * i)) rfl d_N_init_34 (by simp [R_sJ, R_sI, R_sR, R_nw]) ?_
  refine p_N_31 (by omega) rfl d_N_init_37 ?_
  refine e_aload_n d_N_init_40 rfl rfl ?_
  refine e_iconst (v := 4) d_N_init_41 (by decide) ?_
  refine e_bg (mc' := 12 + 1) (ms' := 96 + 4) (by decide) (by decide) ?_
  refine e_anew (q := 12) (N := 4) (mc := 12) (ms := 96) d_N_init_42 ⟨by decide, by decide⟩ rfl cl_N_34 (by decide) (by decide) (by decide) (by decide) ?_
  rw [show hn (sR (sR (nw (sJ (sJ (sI (σ) 2 (i) 0 (v)) 2 (i) 4 (off)) 2 (i) 5 (-1)) 0 0) 2 (i) 1 (some (0 + 16 * (9 * i)))) 2 (i) 3 (some (0 + 16 * (9 * i)))) 12 = i from (by simp [n_sI, n_sJ, n_sR, n_nw, ha])]
  refine p_N_36 (by omega) rfl rfl d_N_init_45 ?_
  refine e_iconst (v := 0) d_N_init_48 (by decide) ?_
  refine e_istore (lv' := [(4, .int (0)), (0, .ref (2 + 16 * i)), (1, .int (v)), (2, .long (off))]) d_N_init_49 (by decide) rfl ?_
  exact e_lv (lv' := [(4, .int (nI 0)), (0, .ref (2 + 16 * i)), (1, .int (v)), (2, .long (off))]) ⟨rfl, rfl, rfl, rfl, trivial⟩ (lp_N_init hl0 hd hp ha 4 0 rfl)
def tiS (σ : HS) : HS := sI (sI (sI (sR (nw (sR (nw (sR (nw (σ) 10 10) 5 (0) 0 (some (10 + 16 * 0))) 11 16) 5 (0) 1 (some (11 + 16 * 0))) 4 0) 5 (0) 2 (some (4 + 16 * 0))) 5 (0) 3 (0)) 5 (0) 4 (0)) 5 (0) 5 (0)
set_option maxHeartbeats 4000000 in
theorem ct_T_init {l : Launch} (hl0 : l.stackTraces = false) {G : LG} {σ : HS}  (h10 : hn σ 10 = 0) (h11 : hn σ 11 = 0) (h4 : hn σ 4 = 0) : Ct l G m_T_init [.ref (5 + 16 * 0)] (σ) (qd (.inr none) (tiS σ)) := by
  refine Ct.of hl0 rfl rfl (Nat.le_of_ble_eq_true rfl) ?_
  show Ex l G m_T_init (pmV G m_T_init (qd (.inr none) (tiS σ))) 0 [(0, .ref (5 + 16 * 0))] [] (σ) 3 38
  refine e_aload_n d_T_init_0 rfl rfl ?_
  refine e_obji d_T_init_1 ol_T_1 ⟨by decide, by decide⟩ ?_
  refine e_aload_n d_T_init_4 rfl rfl ?_
  refine e_bipush (v := 10) d_T_init_5 (by decide) ?_
  refine e_bg (mc' := 2 + 1) (ms' := 28 + 10) (by decide) (by decide) ?_
  refine e_anew (q := 10) (N := 10) (mc := 2) (ms := 28) d_T_init_7 ⟨by decide, by decide⟩ rfl cl_T_9 (by decide) (by decide) (by decide) (by decide) ?_
  rw [show hn (σ) 10 = 0 from (by simp [n_sI, n_sJ, n_sR, n_nw, h10])]
  refine p_T_11 (by omega) rfl rfl d_T_init_10 ?_
  refine e_aload_n d_T_init_13 rfl rfl ?_
  refine e_bipush (v := 16) d_T_init_14 (by decide) ?_
  refine e_bg (mc' := 1 + 1) (ms' := 12 + 16) (by decide) (by decide) ?_
  refine e_anew (q := 11) (N := 16) (mc := 1) (ms := 12) d_T_init_16 ⟨by decide, by decide⟩ rfl cl_T_15 (by decide) (by decide) (by decide) (by decide) ?_
  rw [show hn (sR (nw (σ) 10 10) 5 (0) 0 (some (10 + 16 * 0))) 11 = 0 from (by simp [n_sI, n_sJ, n_sR, n_nw, h11])]
  refine p_T_17 (by omega) rfl rfl d_T_init_19 ?_
  refine e_aload_n d_T_init_22 rfl rfl ?_
  refine e_bg (mc' := 0 + 1) (ms' := 0 + 12) (by decide) (by decide) ?_
  refine e_new (q := 4) (mc := 0) (ms := 0) d_T_init_23 rfl (by decide) cl_T_21 ki_R.1 ki_R.2 ?_
  rw [show hn (sR (nw (sR (nw (σ) 10 10) 5 (0) 0 (some (10 + 16 * 0))) 11 16) 5 (0) 1 (some (11 + 16 * 0))) 4 = 0 from (by simp [n_sI, n_sJ, n_sR, n_nw, h4])]
  refine e_dup d_T_init_26 rfl ?_
  refine e_callINd (v := none) (σ' := nw (sR (nw (sR (nw (σ) 10 10) 5 (0) 0 (some (10 + 16 * 0))) 11 16) 5 (0) 1 (some (11 + 16 * 0))) 4 0) (x := 4 + 16 * 0) (As := []) (st := [.ref (4 + 16 * 0), .ref (5 + 16 * 0)]) 0 0 d_T_init_27 nl_T_23 ⟨k_R_init.1, k_R_init.2, by decide⟩ ii_R_init rfl (Nat.le_of_ble_eq_true rfl) (by decide) (by decide) (ct_R_init hl0) ?_
  show Ex l G m_T_init (pmV G m_T_init (qd (.inr none) (tiS σ))) 30 [(0, .ref (5 + 16 * 0))] [.ref (4 + 16 * 0), .ref (5 + 16 * 0)] (nw (sR (nw (sR (nw (σ) 10 10) 5 (0) 0 (some (10 + 16 * 0))) 11 16) 5 (0) 1 (some (11 + 16 * 0))) 4 0) 0 0
  refine p_T_24 (by omega) rfl rfl d_T_init_30 ?_
  refine e_aload_n d_T_init_33 rfl rfl ?_
  refine e_iconst (v := 0) d_T_init_34 (by decide) ?_
  refine p_T_28 rfl d_T_init_35 ?_
  refine e_aload_n d_T_init_38 rfl rfl ?_
  refine e_iconst (v := 0) d_T_init_39 (by decide) ?_
  refine p_T_32 rfl d_T_init_40 ?_
  refine e_aload_n d_T_init_43 rfl rfl ?_
  refine e_iconst (v := 0) d_T_init_44 (by decide) ?_
  refine p_T_35 (by first | exact Or.inl rfl | exact Or.inr rfl) rfl d_T_init_45 ?_
  exact e_vret d_T_init_48 rfl ⟨rfl, rfl⟩
end
