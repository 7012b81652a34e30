section
-- ===== PART A: goes FIRST, ahead of the names: the tables' words, and 'selects' of the private methods out of them =====
/-- a private method of a class that the tables say can be made, by its rows of tables_1 -/
def lw_okq (q : MethodName × Nat) : Prop := (q.1.cls ≠ "java/lang/invoke/MethodHandle" ∧ q.1.cls ≠ "java/lang/invoke/VarHandle") ∧ Cond.instantiable q.1.cls q.2 ∈ tables_1 ∧ Cond.privateMethod q.1 ∈ tables_1 ∧ Cond.instanceMethod q.1 ∈ tables_1
theorem lw_p0 : lw_okq (⟨"java/lang/Throwable", "fillInStackTrace", "(I)Ljava/lang/Throwable;"⟩, 6) := ⟨⟨by decide +kernel, by decide +kernel⟩, List.mem_of_getElem? (i := 155) (by decide +kernel), List.mem_of_getElem? (i := 153) (by decide +kernel), List.mem_of_getElem? (i := 154) (by decide +kernel)⟩
theorem lw_p1 : lw_okq (⟨"java/util/ArrayList", "add", "(Ljava/lang/Object;[Ljava/lang/Object;I)V"⟩, 3) := ⟨⟨by decide +kernel, by decide +kernel⟩, List.mem_of_getElem? (i := 49) (by decide +kernel), List.mem_of_getElem? (i := 298) (by decide +kernel), List.mem_of_getElem? (i := 299) (by decide +kernel)⟩
theorem lw_p2 : lw_okq (⟨"java/util/ArrayList", "grow", "()[Ljava/lang/Object;"⟩, 3) := ⟨⟨by decide +kernel, by decide +kernel⟩, List.mem_of_getElem? (i := 49) (by decide +kernel), List.mem_of_getElem? (i := 302) (by decide +kernel), List.mem_of_getElem? (i := 303) (by decide +kernel)⟩
theorem lw_p3 : lw_okq (⟨"java/util/ArrayList", "grow", "(I)[Ljava/lang/Object;"⟩, 3) := ⟨⟨by decide +kernel, by decide +kernel⟩, List.mem_of_getElem? (i := 49) (by decide +kernel), List.mem_of_getElem? (i := 306) (by decide +kernel), List.mem_of_getElem? (i := 307) (by decide +kernel)⟩
theorem lw_p4 : lw_okq (⟨"Rescuemarket", "boatNumbered", "(I)LRescuemarket$Boat;"⟩, 6) := ⟨⟨by decide +kernel, by decide +kernel⟩, List.mem_of_getElem? (i := 24) (by decide +kernel), List.mem_of_getElem? (i := 359) (by decide +kernel), List.mem_of_getElem? (i := 360) (by decide +kernel)⟩
theorem lw_p5 : lw_okq (⟨"Rescuemarket", "turnBoatsBack", "()V"⟩, 6) := ⟨⟨by decide +kernel, by decide +kernel⟩, List.mem_of_getElem? (i := 24) (by decide +kernel), List.mem_of_getElem? (i := 470) (by decide +kernel), List.mem_of_getElem? (i := 471) (by decide +kernel)⟩
theorem lw_p6 : lw_okq (⟨"Rescuemarket$Boat", "burn", "(I)V"⟩, 13) := ⟨⟨by decide +kernel, by decide +kernel⟩, List.mem_of_getElem? (i := 234) (by decide +kernel), List.mem_of_getElem? (i := 482) (by decide +kernel), List.mem_of_getElem? (i := 483) (by decide +kernel)⟩
theorem lw_p7 : lw_okq (⟨"Rescuemarket$Boat", "headHome", "(I)V"⟩, 13) := ⟨⟨by decide +kernel, by decide +kernel⟩, List.mem_of_getElem? (i := 234) (by decide +kernel), List.mem_of_getElem? (i := 487) (by decide +kernel), List.mem_of_getElem? (i := 488) (by decide +kernel)⟩
theorem lw_p8 : lw_okq (⟨"Rescuemarket", "letBoatsArrive", "()V"⟩, 6) := ⟨⟨by decide +kernel, by decide +kernel⟩, List.mem_of_getElem? (i := 24) (by decide +kernel), List.mem_of_getElem? (i := 491) (by decide +kernel), List.mem_of_getElem? (i := 492) (by decide +kernel)⟩
theorem lw_p9 : lw_okq (⟨"Rescuemarket", "finish", "(LRescuemarket$Boat;LRescuemarket$Call;)V"⟩, 6) := ⟨⟨by decide +kernel, by decide +kernel⟩, List.mem_of_getElem? (i := 24) (by decide +kernel), List.mem_of_getElem? (i := 499) (by decide +kernel), List.mem_of_getElem? (i := 500) (by decide +kernel)⟩
theorem lw_p10 : lw_okq (⟨"Rescuemarket", "freeBoatsThatRested", "()V"⟩, 6) := ⟨⟨by decide +kernel, by decide +kernel⟩, List.mem_of_getElem? (i := 24) (by decide +kernel), List.mem_of_getElem? (i := 554) (by decide +kernel), List.mem_of_getElem? (i := 555) (by decide +kernel)⟩
theorem lw_p11 : lw_okq (⟨"Rescuemarket", "answerCalls", "()V"⟩, 6) := ⟨⟨by decide +kernel, by decide +kernel⟩, List.mem_of_getElem? (i := 24) (by decide +kernel), List.mem_of_getElem? (i := 562) (by decide +kernel), List.mem_of_getElem? (i := 563) (by decide +kernel)⟩
theorem lw_p12 : lw_okq (⟨"Rescuemarket", "boatFirstThere", "(LRescuemarket$Call;)LRescuemarket$Boat;"⟩, 6) := ⟨⟨by decide +kernel, by decide +kernel⟩, List.mem_of_getElem? (i := 24) (by decide +kernel), List.mem_of_getElem? (i := 566) (by decide +kernel), List.mem_of_getElem? (i := 567) (by decide +kernel)⟩
theorem lw_p13 : lw_okq (⟨"Rescuemarket", "hourThere", "(LRescuemarket$Boat;LRescuemarket$Call;)I"⟩, 6) := ⟨⟨by decide +kernel, by decide +kernel⟩, List.mem_of_getElem? (i := 24) (by decide +kernel), List.mem_of_getElem? (i := 570) (by decide +kernel), List.mem_of_getElem? (i := 571) (by decide +kernel)⟩
theorem lw_p14 : lw_okq (⟨"Rescuemarket", "task", "(LRescuemarket$Boat;LRescuemarket$Call;)V"⟩, 6) := ⟨⟨by decide +kernel, by decide +kernel⟩, List.mem_of_getElem? (i := 24) (by decide +kernel), List.mem_of_getElem? (i := 578) (by decide +kernel), List.mem_of_getElem? (i := 579) (by decide +kernel)⟩
theorem lw_p15 : lw_okq (⟨"Rescuemarket", "callNumbered", "(I)LRescuemarket$Call;"⟩, 6) := ⟨⟨by decide +kernel, by decide +kernel⟩, List.mem_of_getElem? (i := 24) (by decide +kernel), List.mem_of_getElem? (i := 607) (by decide +kernel), List.mem_of_getElem? (i := 608) (by decide +kernel)⟩
def lw_privs_1 : List (MethodName × Nat) := [(⟨"java/lang/Throwable", "fillInStackTrace", "(I)Ljava/lang/Throwable;"⟩, 6), (⟨"java/util/ArrayList", "add", "(Ljava/lang/Object;[Ljava/lang/Object;I)V"⟩, 3), (⟨"java/util/ArrayList", "grow", "()[Ljava/lang/Object;"⟩, 3), (⟨"java/util/ArrayList", "grow", "(I)[Ljava/lang/Object;"⟩, 3), (⟨"Rescuemarket", "boatNumbered", "(I)LRescuemarket$Boat;"⟩, 6), (⟨"Rescuemarket", "turnBoatsBack", "()V"⟩, 6), (⟨"Rescuemarket$Boat", "burn", "(I)V"⟩, 13), (⟨"Rescuemarket$Boat", "headHome", "(I)V"⟩, 13), (⟨"Rescuemarket", "letBoatsArrive", "()V"⟩, 6), (⟨"Rescuemarket", "finish", "(LRescuemarket$Boat;LRescuemarket$Call;)V"⟩, 6), (⟨"Rescuemarket", "freeBoatsThatRested", "()V"⟩, 6), (⟨"Rescuemarket", "answerCalls", "()V"⟩, 6), (⟨"Rescuemarket", "boatFirstThere", "(LRescuemarket$Call;)LRescuemarket$Boat;"⟩, 6), (⟨"Rescuemarket", "hourThere", "(LRescuemarket$Boat;LRescuemarket$Call;)I"⟩, 6), (⟨"Rescuemarket", "task", "(LRescuemarket$Boat;LRescuemarket$Call;)V"⟩, 6), (⟨"Rescuemarket", "callNumbered", "(I)LRescuemarket$Call;"⟩, 6)]
theorem lw_r1 : ∀ q ∈ lw_privs_1, lw_okq q := List.forall_mem_cons.mpr ⟨lw_p0, List.forall_mem_cons.mpr ⟨lw_p1, List.forall_mem_cons.mpr ⟨lw_p2, List.forall_mem_cons.mpr ⟨lw_p3, List.forall_mem_cons.mpr ⟨lw_p4, List.forall_mem_cons.mpr ⟨lw_p5, List.forall_mem_cons.mpr ⟨lw_p6, List.forall_mem_cons.mpr ⟨lw_p7, List.forall_mem_cons.mpr ⟨lw_p8, List.forall_mem_cons.mpr ⟨lw_p9, List.forall_mem_cons.mpr ⟨lw_p10, List.forall_mem_cons.mpr ⟨lw_p11, List.forall_mem_cons.mpr ⟨lw_p12, List.forall_mem_cons.mpr ⟨lw_p13, List.forall_mem_cons.mpr ⟨lw_p14, List.forall_mem_cons.mpr ⟨lw_p15, fun _ h => absurd h List.not_mem_nil⟩⟩⟩⟩⟩⟩⟩⟩⟩⟩⟩⟩⟩⟩⟩⟩
theorem lw_p16 : lw_okq (⟨"Rescuemarket", "callsEverAt", "(I)I"⟩, 6) := ⟨⟨by decide +kernel, by decide +kernel⟩, List.mem_of_getElem? (i := 24) (by decide +kernel), List.mem_of_getElem? (i := 654) (by decide +kernel), List.mem_of_getElem? (i := 655) (by decide +kernel)⟩
theorem lw_p17 : lw_okq (⟨"RescuemarketModel", "in", "(III)Z"⟩, 26) := ⟨⟨by decide +kernel, by decide +kernel⟩, List.mem_of_getElem? (i := 658) (by decide +kernel), List.mem_of_getElem? (i := 752) (by decide +kernel), List.mem_of_getElem? (i := 753) (by decide +kernel)⟩
theorem lw_p18 : lw_okq (⟨"RescuemarketModel", "fails", "(I)Z"⟩, 26) := ⟨⟨by decide +kernel, by decide +kernel⟩, List.mem_of_getElem? (i := 658) (by decide +kernel), List.mem_of_getElem? (i := 756) (by decide +kernel), List.mem_of_getElem? (i := 757) (by decide +kernel)⟩
theorem lw_p19 : lw_okq (⟨"RescuemarketModel", "isBoat", "(I)Z"⟩, 26) := ⟨⟨by decide +kernel, by decide +kernel⟩, List.mem_of_getElem? (i := 658) (by decide +kernel), List.mem_of_getElem? (i := 764) (by decide +kernel), List.mem_of_getElem? (i := 765) (by decide +kernel)⟩
theorem lw_p20 : lw_okq (⟨"RescuemarketModel", "goes", "()V"⟩, 26) := ⟨⟨by decide +kernel, by decide +kernel⟩, List.mem_of_getElem? (i := 658) (by decide +kernel), List.mem_of_getElem? (i := 784) (by decide +kernel), List.mem_of_getElem? (i := 785) (by decide +kernel)⟩
theorem lw_p21 : lw_okq (⟨"RescuemarketModel", "turnsBack", "(I)V"⟩, 26) := ⟨⟨by decide +kernel, by decide +kernel⟩, List.mem_of_getElem? (i := 658) (by decide +kernel), List.mem_of_getElem? (i := 788) (by decide +kernel), List.mem_of_getElem? (i := 789) (by decide +kernel)⟩
theorem lw_p22 : lw_okq (⟨"RescuemarketModel", "arrives", "(I)V"⟩, 26) := ⟨⟨by decide +kernel, by decide +kernel⟩, List.mem_of_getElem? (i := 658) (by decide +kernel), List.mem_of_getElem? (i := 792) (by decide +kernel), List.mem_of_getElem? (i := 793) (by decide +kernel)⟩
theorem lw_p23 : lw_okq (⟨"RescuemarketModel", "pays", "(II)V"⟩, 26) := ⟨⟨by decide +kernel, by decide +kernel⟩, List.mem_of_getElem? (i := 658) (by decide +kernel), List.mem_of_getElem? (i := 796) (by decide +kernel), List.mem_of_getElem? (i := 797) (by decide +kernel)⟩
theorem lw_p24 : lw_okq (⟨"RescuemarketModel", "way", "(II)I"⟩, 26) := ⟨⟨by decide +kernel, by decide +kernel⟩, List.mem_of_getElem? (i := 658) (by decide +kernel), List.mem_of_getElem? (i := 800) (by decide +kernel), List.mem_of_getElem? (i := 801) (by decide +kernel)⟩
theorem lw_p25 : lw_okq (⟨"RescuemarketModel", "flat", "(I)I"⟩, 26) := ⟨⟨by decide +kernel, by decide +kernel⟩, List.mem_of_getElem? (i := 658) (by decide +kernel), List.mem_of_getElem? (i := 804) (by decide +kernel), List.mem_of_getElem? (i := 805) (by decide +kernel)⟩
theorem lw_p26 : lw_okq (⟨"RescuemarketModel", "tasks", "(I)V"⟩, 26) := ⟨⟨by decide +kernel, by decide +kernel⟩, List.mem_of_getElem? (i := 658) (by decide +kernel), List.mem_of_getElem? (i := 808) (by decide +kernel), List.mem_of_getElem? (i := 809) (by decide +kernel)⟩
theorem lw_p27 : lw_okq (⟨"RescuemarketModel", "can", "(II)Z"⟩, 26) := ⟨⟨by decide +kernel, by decide +kernel⟩, List.mem_of_getElem? (i := 658) (by decide +kernel), List.mem_of_getElem? (i := 812) (by decide +kernel), List.mem_of_getElem? (i := 813) (by decide +kernel)⟩
theorem lw_p28 : lw_okq (⟨"RescuemarketModel", "hours", "(II)I"⟩, 26) := ⟨⟨by decide +kernel, by decide +kernel⟩, List.mem_of_getElem? (i := 658) (by decide +kernel), List.mem_of_getElem? (i := 816) (by decide +kernel), List.mem_of_getElem? (i := 817) (by decide +kernel)⟩
def lw_privs_2 : List (MethodName × Nat) := [(⟨"Rescuemarket", "callsEverAt", "(I)I"⟩, 6), (⟨"RescuemarketModel", "in", "(III)Z"⟩, 26), (⟨"RescuemarketModel", "fails", "(I)Z"⟩, 26), (⟨"RescuemarketModel", "isBoat", "(I)Z"⟩, 26), (⟨"RescuemarketModel", "goes", "()V"⟩, 26), (⟨"RescuemarketModel", "turnsBack", "(I)V"⟩, 26), (⟨"RescuemarketModel", "arrives", "(I)V"⟩, 26), (⟨"RescuemarketModel", "pays", "(II)V"⟩, 26), (⟨"RescuemarketModel", "way", "(II)I"⟩, 26), (⟨"RescuemarketModel", "flat", "(I)I"⟩, 26), (⟨"RescuemarketModel", "tasks", "(I)V"⟩, 26), (⟨"RescuemarketModel", "can", "(II)Z"⟩, 26), (⟨"RescuemarketModel", "hours", "(II)I"⟩, 26)]
theorem lw_r2 : ∀ q ∈ lw_privs_2, lw_okq q := List.forall_mem_cons.mpr ⟨lw_p16, List.forall_mem_cons.mpr ⟨lw_p17, List.forall_mem_cons.mpr ⟨lw_p18, List.forall_mem_cons.mpr ⟨lw_p19, List.forall_mem_cons.mpr ⟨lw_p20, List.forall_mem_cons.mpr ⟨lw_p21, List.forall_mem_cons.mpr ⟨lw_p22, List.forall_mem_cons.mpr ⟨lw_p23, List.forall_mem_cons.mpr ⟨lw_p24, List.forall_mem_cons.mpr ⟨lw_p25, List.forall_mem_cons.mpr ⟨lw_p26, List.forall_mem_cons.mpr ⟨lw_p27, List.forall_mem_cons.mpr ⟨lw_p28, fun _ h => absurd h List.not_mem_nil⟩⟩⟩⟩⟩⟩⟩⟩⟩⟩⟩⟩⟩
def lw_privs : List (MethodName × Nat) := lw_privs_1 ++ (lw_privs_2)
def lw_tbl : List Cond := k2_sels lw_privs ++ tables_1
theorem lw_privs_ok : ∀ q ∈ lw_privs, lw_okq q := by
  show ∀ q ∈ lw_privs_1 ++ (lw_privs_2), lw_okq q
  exact List.forall_mem_append.mpr ⟨lw_r1, lw_r2⟩
/-- the streams that the claim lets the run draw from -/
abbrev lw_cs : List Choice := [Jvm.Choice.named "NaN.bits"]
theorem lw_bits : nanBits ∈ lw_cs := by first | decide | exact List.mem_cons_self | simp [lw_cs, nanBits]
-- ===== end of PART A; then your names; then what follows =====
end
section
/-! ===== BEGIN words of one list among another's, by their places ===== -/
theorem goodIn_r {big : List Cond} (ws : List Cond) (ps : List Nat) (hp : ws = ps.filterMap (fun i => big[i]?)) (h : ws.all goodWord = true) : GoodIn big ws := by
  intro w hw
  have h1 := List.all_eq_true.mp h w hw
  rw [hp] at hw
  obtain ⟨i, -, hi⟩ := List.mem_filterMap.mp hw
  have hm : w ∈ big := by first | exact List.mem_of_getElem? hi | exact List.getElem?_mem hi
  exact ⟨hm, good_of_word h1⟩
theorem goodIn_app {big a b : List Cond} (ha : GoodIn big a) (hb : GoodIn big b) : GoodIn big (a ++ b) := fun w h => (List.mem_append.mp h).elim (ha w) (hb w)
theorem goodIn_ca {big a b : List Cond} {c : Cond} (ha : GoodIn big (c :: a)) (hb : GoodIn big b) : GoodIn big (c :: (a ++ b)) := fun w h => (List.mem_cons.mp h).elim (fun e => ha w (List.mem_cons.mpr (Or.inl e))) (fun h => (List.mem_append.mp h).elim (fun h => ha w (List.mem_cons.mpr (Or.inr h))) (hb w))
theorem goodIn_sub {big ws : List Cond} (hm : ∀ w ∈ ws, w ∈ big) (h : ws.all goodWord = true) : GoodIn big ws := fun w hw => ⟨hm w hw, good_of_word (List.all_eq_true.mp h w hw)⟩
/-! ===== END ===== -/

/-! ===== BEGIN exceptions that leave a method, and their catching by the caller (launches without stack traces) ===== -/
section VXA
/-! The laws vx_back, vx_callV, vx_callS, vx_callSW, vx_throw0, vx_throwS follow proofs of the library, with one case more: JvmDerived/Free/Laws.lean (Back.of_free), Shelf42/LK1.lean (callV, callS), Shelf/KitTraced.lean (throwNew0V, throwNewS). -/
/-- where a method has thrown q: the class by its name, the cell, what was written, the world -/
def vx_T (XC : String → State → State → Prop) (st : State) (q : Addr) (t : State) (mc ms : Nat) (free : Addr → Prop) : Prop :=
  ∃ (E : String) (ce : Cell) (L : List Loc), XC E st t ∧ t.heap[q]? = some ce ∧ ce.vm = .none ∧ st.vm.findClass E = some ce.cls ∧ st.WarmedH t.vm ∧ st.sameButNew ({ t with vm := st.vm } : State) L mc ms ∧ ∀ z ∈ L, free z.base
def vx_Q (Qc : Array Value → State → Outcome → State → Prop) (XC : String → State → State → Prop) (mc ms : Nat) (free : Addr → Prop) : Array Value → State → Outcome → State → Prop := fun a st o t =>
  (Qc a st o t ∧ ∃ L, FrameEnd st o t L mc ms ∧ ∀ q ∈ L, free q.base) ∨ ∃ q, o = .threw q ∧ vx_T XC st q t mc ms free
/-- a callee that returns or throws -/
def vx_Met (l : Launch) (y : MethodName) (ws : List Cond) (rm : Room) (Pc : Array Value → State → Prop) (Qc : Array Value → State → Outcome → State → Prop) (XC : String → State → State → Prop) (mc ms : Nat) (free : Addr → Prop) : Prop :=
  MetFree l y (headSpec ws rm) Pc (fun _ _ _ _ _ => True) (vx_Q Qc XC mc ms free)
def vx_Post (XC : String → State → State → Prop) (mc ms : Nat) (free : Addr → Prop) : Pt → Array Value → Addr → Pt → Prop := fun A a q B =>
  ∃ (g : JFrame) (mk : MethodId) (t : State) (L : List Loc) (E : String) (ce : Cell), B.U.heap = t.heap ∧ B.U.vm = t.vm ∧ XC E (A.U.calling g mk a) t ∧ t.heap[q]? = some ce ∧ ce.vm = .none ∧ A.U.vm.findClass E = some ce.cls ∧ B.locs = A.locs ++ L ∧ (∀ z ∈ L, free z.base) ∧ B.cells = A.cells + mc ∧ B.slots = A.slots + ms
def vx_Back (l : Launch) (R : Room) (p : Program) (e : Env) (below : List Frame) (s : State) (sargs : Array Value) (y : MethodName) (len W9 : Nat)
    (Pre : Pt → Array Value → Prop) (Post : Pt → Array Value → Option Value → Pt → Prop) (PostX : Pt → Array Value → Addr → Pt → Prop) : Prop :=
  ∀ (m : MethodId) (meth : Method) (c : Code) (A : Pt) (g : JFrame) (ig : Instr) (mk : MethodId) (a : Array Value),
    Stand p l e R s m sargs below meth c A.U A.locs A.cells A.slots → g.method = m → g.locals.size = c.maxLocals → decode c.code g.pc = .ok (ig, len) →
    2 * g.monitorRoom + (g.stack.map fun v => v.category).sum ≤ W9 → A.U.methodNamed? y = some mk → Pre A a →
    (∃ (v : Option Value) (B : Pt), Stand p l e R s m sargs below meth c B.U B.locs B.cells B.slots ∧ Post A a v B ∧
      Steps p.tables e below (doInvoke e (A.U.setTop g) [] mk a).1 (B.U.setTop { g with pc := g.pc + len, stack := v.toList ++ g.stack })) ∨
    (∃ (q : Addr) (B : Pt), Stand p l e R s m sargs below meth c B.U B.locs B.cells B.slots ∧ PostX A a q B ∧
      Steps p.tables e below (doInvoke e (A.U.setTop g) [] mk a).1 ((B.U.setTop g).pushFrame (.throwing q)))
section Payer
variable {l : Launch} {R : Room} {p : Program} {e : Env} {below : List Frame} {s : State} {sargs : Array Value} {y : MethodName} {len W9 : Nat}
theorem vx_back {ws : List Cond} {rm : Room} {Pc : Array Value → State → Prop} {Qc : Array Value → State → Outcome → State → Prop} {XC : String → State → State → Prop} {mc ms : Nat} {free : Addr → Prop} {bytes : ByteArray} {maxL : Nat} {ret : Option FieldType}
    (hM : vx_Met l y ws rm Pc Qc XC mc ms free) (hblind : FrameBlind Pc) (hrc : rm.cells = mc) (hrs : rm.slots = ms)
    (hframes : rm.frames + 1 ≤ R.frames) (hlocals : W9 + (maxL + 11) + rm.locals ≤ R.locals)
    (hws : ∀ w ∈ ws, ∀ a' U, s.WarmedH U.vm → w.before a' U = true) (hcode : Cond.code y bytes maxL ret ∈ ws) (hinit : ∀ a' U, s.WarmedH U.vm → (Cond.initialized y.cls).before a' U = true) :
    vx_Back l R p e below s sargs y len W9 (PreOf R mc ms Pc) (PostOf Qc mc ms free) (vx_Post XC mc ms free) := by
  intro m meth c A g ig mk a X hg hsize hdg hW hn hp
  have h1 : (headSpec ws rm).pre.before a A.U = true := atoms_intro fun w hw => hws w hw _ _ X.warmed
  have h2 : (Cond.code y bytes maxL ret).before a A.U = true := hws _ hcode _ _ X.warmed
  have h3 : (Cond.initialized y.cls).before a A.U = true := hinit _ _ X.warmed
  have h4 : A.cells + (headSpec ws rm).room.cells ≤ R.cells := by rw [show (headSpec ws rm).room.cells = mc from hrc]; exact hp.1
  have h5 : A.slots + (headSpec ws rm).room.slots ≤ R.slots := by rw [show (headSpec ws rm).room.slots = ms from hrs]; exact hp.2.1
  have hPc : Pc a (A.U.calling g mk a) := hblind _ _ _ _ hp.2.2
  obtain ⟨U, Ls, c0, s0⟩ := A
  dsimp only [Pt.U, Pt.locs, Pt.cells, Pt.slots] at h1 h2 h3 h4 h5 X hn hPc ⊢
  obtain ⟨methY, cY, hmY, hcY, -, hlY, -, -, -, -⟩ := Cond.code_spec hn h2
  obtain ⟨kY, hkY, -⟩ := className_of_methodNamed hn
  have hinitY : kY.init = .initialized := Cond.initialized_spec (findClass_of_methodNamed hn) hkY h3
  have h : At U g.method c below := by rw [hg]; exact X.here
  have hlocals9 : W9 + (maxL + 11) + (headSpec ws rm).room.locals ≤ R.locals := hlocals
  have happ : (headSpec ws rm).appliesLoose y e.platform (U.calling g mk a) = true :=
    Spec.appliesLoose_calling (g := g) h hdg hn hkY hinitY
      (X.room_calling (g := g) (R' := (headSpec ws rm).room) hsize hmY hcY hframes (by rw [hlY]; omega) h4 h5) h1
  obtain ⟨mid, hmid⟩ := h.above
  have hfr : (U.setTop g).frames = (.java g :: mid) ++ below := by rw [State.frames_setTop' g h.top, hmid]; rfl
  obtain ⟨o, s₂, hsteps, -, hend, hq⟩ := Steps.callFree hM p X.admits X.cas X.clock (acts := []) hfr happ hPc trivial
  have hq' : vx_Q Qc XC mc ms free a (U.calling g mk a) o s₂ := hq
  rw [State.frames_setTop' g h.top] at hend
  obtain ⟨g₀, hg0⟩ := Option.isSome_iff_exists.mp h.top
  obtain ⟨r, hr⟩ := State.topJava?_eq_some.mp hg0
  have hr' : (({ U with heap := s₂.heap, slotsUsed := s₂.slotsUsed } : State).setVm s₂.vm).frames = .java g₀ :: r := hr
  rcases hq' with ⟨hqc, L, hfe, hL⟩ | ⟨q, rfl, E, ce, L, hx, hce, hcv, hcl, hW₂, hsm, hL⟩
  · obtain ⟨⟨v, rfl⟩, hW₂, e2, q2, q3, q4, q5, q6⟩ := id hfe
    have e3 : s₂ = ({ (U.calling g mk a).setFrames s₂.frames with heap := s₂.heap, slotsUsed := s₂.slotsUsed } : State).setVm s₂.vm := by
      have : s₂ = ({ s₂ with vm := (U.calling g mk a).vm } : State).setVm s₂.vm := rfl
      rw [e2] at this
      exact this
    obtain ⟨c₂, i₂, len₂, hc₂, hd₂, hf₂⟩ := hend
    have hW' : U.WarmedH s₂.vm := hW₂
    have hcc : c₂ = c := by
      have h1 : s₂.code? g.method = U.code? g.method := by
        rw [State.code?_eq, State.code?_eq, hW'.alike.method?]
      exact Option.some.inj (hc₂.symm.trans (h1.trans h.code))
    subst hcc
    have hlen : len₂ = len := by rw [hdg] at hd₂; cases hd₂; rfl
    subst hlen
    have hs₂ : s₂ = (({ U with heap := s₂.heap, slotsUsed := s₂.slotsUsed } : State).setVm s₂.vm).setTop { g with pc := g.pc + len₂, stack := v.toList ++ g.stack } := by
      refine e3.trans ?_
      rw [hf₂, State.calling_eq h.top, State.setFrames_setFrames, State.setTop_of_frames _ hr', hr]
      rfl
    have hsame : U.sameButNew ({ U with heap := s₂.heap, slotsUsed := s₂.slotsUsed } : State) L mc ms := by
      refine ⟨?_, q2, q3, q4, q5, q6⟩
      obtain ⟨t, ht, -⟩ := State.frames_cons hr
      show ({ U with heap := s₂.heap, slotsUsed := s₂.slotsUsed } : State) = { U.setFrames U.frames with heap := s₂.heap, slotsUsed := s₂.slotsUsed }
      rw [State.setFrames_self ht]
    subst hg
    refine Or.inl ⟨v, ⟨(({ U with heap := s₂.heap, slotsUsed := s₂.slotsUsed } : State).setVm s₂.vm), Ls ++ L, c0 + mc, s0 + ms⟩,
      ⟨X.admits, X.cas, X.clock, X.frames, X.room, X.hears, X.method, X.code, (X.here.setHeapUsed s₂.heap s₂.slotsUsed).setVm hW'.alike, X.tail, State.WarmedH.trans X.warmed hW', X.limits, X.bytes, X.same.trans (hsame.setVm s.vm)⟩,
      ⟨g, mk, s₂, L, rfl, rfl, hqc, rfl, hL, rfl, rfl⟩, ?_⟩
    show Steps p.tables e below _ ((({ U with heap := s₂.heap, slotsUsed := s₂.slotsUsed } : State).setVm s₂.vm).setTop { g with pc := g.pc + len₂, stack := v.toList ++ g.stack })
    rw [← hs₂]
    exact hsteps
  · obtain ⟨e2, q2, q3, q4, q5, q6⟩ := id hsm
    have e3 : s₂ = ({ (U.calling g mk a).setFrames s₂.frames with heap := s₂.heap, slotsUsed := s₂.slotsUsed } : State).setVm s₂.vm := by
      have : s₂ = ({ s₂ with vm := (U.calling g mk a).vm } : State).setVm s₂.vm := rfl
      rw [e2] at this
      exact this
    have hf₂ : s₂.frames = .throwing q :: .java g :: U.frames.tail := hend
    have hW' : U.WarmedH s₂.vm := hW₂
    have hs₂ : s₂ = ((({ U with heap := s₂.heap, slotsUsed := s₂.slotsUsed } : State).setVm s₂.vm).setTop g).pushFrame (.throwing q) := by
      refine e3.trans ?_
      rw [hf₂, State.calling_eq h.top, State.setFrames_setFrames, State.pushFrame, State.frames_setTop _ hr', State.setTop_of_frames _ hr', State.setFrames_setFrames, hr]
      rfl
    have hsame : U.sameButNew ({ U with heap := s₂.heap, slotsUsed := s₂.slotsUsed } : State) L mc ms := by
      refine ⟨?_, q2, q3, q4, q5, q6⟩
      obtain ⟨t, ht, -⟩ := State.frames_cons hr
      show ({ U with heap := s₂.heap, slotsUsed := s₂.slotsUsed } : State) = { U.setFrames U.frames with heap := s₂.heap, slotsUsed := s₂.slotsUsed }
      rw [State.setFrames_self ht]
    subst hg
    refine Or.inr ⟨q, ⟨(({ U with heap := s₂.heap, slotsUsed := s₂.slotsUsed } : State).setVm s₂.vm), Ls ++ L, c0 + mc, s0 + ms⟩,
      ⟨X.admits, X.cas, X.clock, X.frames, X.room, X.hears, X.method, X.code, (X.here.setHeapUsed s₂.heap s₂.slotsUsed).setVm hW'.alike, X.tail, State.WarmedH.trans X.warmed hW', X.limits, X.bytes, X.same.trans (hsame.setVm s.vm)⟩,
      ⟨g, mk, s₂, L, E, ce, rfl, rfl, hx, hce, hcv, hcl, rfl, hL, rfl, rfl⟩, ?_⟩
    show Steps p.tables e below _ (((({ U with heap := s₂.heap, slotsUsed := s₂.slotsUsed } : State).setVm s₂.vm).setTop g).pushFrame (.throwing q))
    rw [← hs₂]
    exact hsteps
end Payer
section Calls
variable {p : Program} {l : Launch} {e : Env} {R : Room} {s : State} {m : MethodId} {args : Array Value} {below : List Frame} {meth : Method} {c : Code} {T : State} {locs : List Loc} {cells slots : Nat}
theorem vx_callV (X : Stand p l e R s m args below meth c T locs cells slots) (hexec : p.tables.exec = Jvm.exec) {own C : String} {index : Nat} {y : MethodName} {bytes : ByteArray} {maxL : Nat} {ret : Option FieldType}
    (hown : s.vm.findClass own = some m.cls) (hlink : (Cond.methodLink own index y).before args s = true) (hinst : (Cond.instanceMethod y).before args s = true) (hsel : (Cond.selects C y y).before args s = true)
    (hcode : (Cond.code y bytes maxL ret).before args s = true) (hy : y.cls ≠ "java/lang/invoke/MethodHandle" ∧ y.cls ≠ "java/lang/invoke/VarHandle")
    {W9 : Nat} {Pre : Pt → Array Value → Prop} {Post : Pt → Array Value → Option Value → Pt → Prop} {PostX : Pt → Array Value → Addr → Pt → Prop} (hK : vx_Back l R p e below s args y 3 W9 Pre Post PostX)
    {b : Addr} {cellB : Cell} (hcell : T.heap[b]? = some cellB) (hobj : cellB.vm.isStatics = false) (hcls : s.vm.findClass C = some cellB.cls)
    {g : JFrame} (hg : g.method = m) (hsize : g.locals.size = c.maxLocals) {argsL rest : List Value} (hlen : ∀ sig, parseMethodDescriptor y.desc = some sig → argsL.length = sig.parameters.length)
    (hstack : g.stack = argsL.reverse ++ .ref b :: rest) (hW : 2 * g.monitorRoom + (rest.map fun v => v.category).sum ≤ W9) (hdg : decode c.code g.pc = .ok (.invokevirtual index, 3))
    (hpre : ∀ vm₁, s.WarmedH vm₁ → Pre ⟨T.setVm vm₁, locs, cells, slots⟩ (Value.ref b :: argsL).toArray) :
    (∃ (v : Option Value) (vm₁ : Vm) (B : Pt), s.WarmedH vm₁ ∧ Stand p l e R s m args below meth c B.U B.locs B.cells B.slots ∧ Post ⟨T.setVm vm₁, locs, cells, slots⟩ (Value.ref b :: argsL).toArray v B ∧
      ∀ target, Steps p.tables e below (B.U.setTop { g with pc := g.pc + 3, stack := v.toList ++ rest }) target → Steps p.tables e below (T.setTop g) target) ∨
    (∃ (q : Addr) (vm₁ : Vm) (B : Pt), s.WarmedH vm₁ ∧ Stand p l e R s m args below meth c B.U B.locs B.cells B.slots ∧ PostX ⟨T.setVm vm₁, locs, cells, slots⟩ (Value.ref b :: argsL).toArray q B ∧
      Steps p.tables e below (T.setTop g) ((B.U.setTop { g with stack := rest }).pushFrame (.throwing q))) := by
  obtain ⟨mk, methM, hnamed, hmethM, hstM, habM⟩ := Cond.instanceMethod_spec hinst
  obtain ⟨methM', cM, hmethM', -, -, -, -, -, -, hsigM⟩ := Cond.code_spec hnamed hcode
  cases hmethM.symm.trans hmethM'
  obtain ⟨c2, r2, m2, q1, q2, q3, q4, kP, hkP, hkPi⟩ := Cond.selects_spec hsel
  cases hcls.symm.trans q1
  cases (State.methodFound?_of_named hnamed hy).symm.trans q2
  cases hnamed.symm.trans q3
  have hselP : selectMethod e.platform s.vm cellB.cls mk = .method mk := by rw [Launch.admits_selectMethod X.admits]; exact q4
  obtain ⟨vm₁, X₁, hstep₁⟩ := X.invokevirtual hexec hown hlink hnamed hmethM hstM hkP hkPi hy (a := b) (cell := cellB) hcell
    (fun z h => by rw [h] at hobj; cases hobj) hselP hmethM habM hkP hkPi (g := g) hg (argsL := argsL) (rest := rest) (hlen _ hsigM) hstack hdg
  rcases hK m meth c ⟨T.setVm vm₁, locs, cells, slots⟩ { g with stack := rest } (.invokevirtual index) mk (Value.ref b :: argsL).toArray X₁ hg hsize hdg hW (X₁.named hnamed) (hpre vm₁ X₁.warmed) with ⟨v, B, X', hpost, hsteps⟩ | ⟨q, B, X', hpost, hsteps⟩
  · exact Or.inl ⟨v, vm₁, B, X₁.warmed, X', hpost, fun target h => hstep₁ _ fun acts => by rw [doInvoke_state]; exact hsteps.trans h⟩
  · exact Or.inr ⟨q, vm₁, B, X₁.warmed, X', hpost, hstep₁ _ fun acts => by rw [doInvoke_state]; exact hsteps⟩
theorem vx_callS (X : Stand p l e R s m args below meth c T locs cells slots) (hexec : p.tables.exec = Jvm.exec) {own : String} {index : Nat} {y : MethodName} {bytes : ByteArray} {maxL : Nat} {ret : Option FieldType}
    (hown : s.vm.findClass own = some m.cls) (hlink : (Cond.methodLink own index y).before args s = true) (hstat : (Cond.static y).before args s = true) (hinit : (Cond.initialized y.cls).before args s = true)
    (hcode : (Cond.code y bytes maxL ret).before args s = true) (hy : y.cls ≠ "java/lang/invoke/MethodHandle" ∧ y.cls ≠ "java/lang/invoke/VarHandle")
    {W9 : Nat} {Pre : Pt → Array Value → Prop} {Post : Pt → Array Value → Option Value → Pt → Prop} {PostX : Pt → Array Value → Addr → Pt → Prop} (hK : vx_Back l R p e below s args y 3 W9 Pre Post PostX)
    {g : JFrame} (hg : g.method = m) (hsize : g.locals.size = c.maxLocals) {argsL rest : List Value} (hlen : ∀ sig, parseMethodDescriptor y.desc = some sig → argsL.length = sig.parameters.length)
    (hstack : g.stack = argsL.reverse ++ rest) (hW : 2 * g.monitorRoom + (rest.map fun v => v.category).sum ≤ W9) (hdg : decode c.code g.pc = .ok (.invokestatic index, 3))
    (hpre : ∀ vm₁, s.WarmedH vm₁ → Pre ⟨T.setVm vm₁, locs, cells, slots⟩ argsL.toArray) :
    (∃ (v : Option Value) (vm₁ : Vm) (B : Pt), s.WarmedH vm₁ ∧ Stand p l e R s m args below meth c B.U B.locs B.cells B.slots ∧ Post ⟨T.setVm vm₁, locs, cells, slots⟩ argsL.toArray v B ∧
      ∀ target, Steps p.tables e below (B.U.setTop { g with pc := g.pc + 3, stack := v.toList ++ rest }) target → Steps p.tables e below (T.setTop g) target) ∨
    (∃ (q : Addr) (vm₁ : Vm) (B : Pt), s.WarmedH vm₁ ∧ Stand p l e R s m args below meth c B.U B.locs B.cells B.slots ∧ PostX ⟨T.setVm vm₁, locs, cells, slots⟩ argsL.toArray q B ∧
      Steps p.tables e below (T.setTop g) ((B.U.setTop { g with stack := rest }).pushFrame (.throwing q))) := by
  obtain ⟨mk, hnamed⟩ := Cond.code_named hcode
  obtain ⟨methM, cM, hmethM, -, -, -, -, -, -, hsigM⟩ := Cond.code_spec hnamed hcode
  have hstatic : methM.isStatic = true := Cond.static_spec hnamed hmethM hstat
  obtain ⟨kP, hkP, -⟩ := className_of_methodNamed hnamed
  have hinitP : kP.init = .initialized := Cond.initialized_spec (findClass_of_methodNamed hnamed) hkP hinit
  obtain ⟨vm₁, X₁, hstep₁⟩ := X.invokestatic hexec hown hlink hnamed hmethM hstatic hkP hinitP hy (g := g) hg (argsL := argsL) (rest := rest) (hlen _ hsigM) hstack hdg
  rcases hK m meth c ⟨T.setVm vm₁, locs, cells, slots⟩ { g with stack := rest } (.invokestatic index) mk argsL.toArray X₁ hg hsize hdg hW (X₁.named hnamed) (hpre vm₁ X₁.warmed) with ⟨v, B, X', hpost, hsteps⟩ | ⟨q, B, X', hpost, hsteps⟩
  · exact Or.inl ⟨v, vm₁, B, X₁.warmed, X', hpost, fun target h => hstep₁ _ fun acts => by rw [doInvoke_state]; exact hsteps.trans h⟩
  · exact Or.inr ⟨q, vm₁, B, X₁.warmed, X', hpost, hstep₁ _ fun acts => by rw [doInvoke_state]; exact hsteps⟩
end Calls
theorem vx_cls {s : State} {T : State} {vm₁ : Vm} {E : String} {k : ClassId} (hW : s.WarmedH vm₁) (h : (T.setVm vm₁).vm.findClass E = some k) : s.vm.findClass E = some k := by
  have h1 : vm₁.findClass E = some k := h
  rw [hW.alike.findClass] at h1
  exact h1
/-- the method's frame g, with q thrown over it -/
def vx_W (p : Program) (l : Launch) (e : Env) (R : Room) (s : State) (m : MethodId) (args : Array Value) (below : List Frame) (meth : Method) (c : Code) (H : Heap) (locs : List Loc) (cells slots : Nat) (Q : State → Prop) (g : JFrame) (q : Addr) : Prop :=
  ∀ T : State, T.heap = H → Stand p l e R s m args below meth c T locs cells slots → ∃ t, Steps p.tables e below ((T.setTop g).pushFrame (.throwing q)) t ∧ Q t
def vx_Run (p : Program) (l : Launch) (e : Env) (R : Room) (s : State) (m : MethodId) (args : Array Value) (below : List Frame) (meth : Method) (c : Code) (H : Heap) (locs : List Loc) (cells slots mc ms : Nat) (g : JFrame) (rest : List Value) (Qa : State → Outcome → State → Prop) (XC : String → State → State → Prop) (free : Addr → Prop) : Prop :=
  ∀ T : State, T.heap = H → Stand p l e R s m args below meth c T locs cells slots →
    (∃ (v : Option Value) (st₀ t T' : State) (L : List Loc), st₀.heap = H ∧ Stand p l e R s m args below meth c T' (locs ++ L) (cells + mc) (slots + ms) ∧ (∀ q ∈ L, free q.base) ∧ T'.heap = t.heap ∧ T'.vm = t.vm ∧ Qa st₀ (.returned v) t ∧
      Goes p e below T g T' { g with pc := g.pc + 3, stack := v.toList ++ rest }) ∨
    (∃ (q : Addr) (st₀ t T' : State) (L : List Loc) (E : String) (ce : Cell), st₀.heap = H ∧ Stand p l e R s m args below meth c T' (locs ++ L) (cells + mc) (slots + ms) ∧ (∀ z ∈ L, free z.base) ∧ T'.heap = t.heap ∧ T'.vm = t.vm ∧ XC E st₀ t ∧ t.heap[q]? = some ce ∧ ce.vm = .none ∧ s.vm.findClass E = some ce.cls ∧
      Steps p.tables e below (T.setTop g) ((T'.setTop { g with stack := rest }).pushFrame (.throwing q)))
def vx_X {S : Type} (px : S → Prop) (B : String → S → State → Prop) (A : Nat → Prop) : String → State → State → Prop := fun E st t => ∃ u : S, px u ∧ B E u t ∧ va_F A st t
section Runs
variable {p : Program} {l : Launch} {e : Env} {R : Room} {s : State} {m : MethodId} {args : Array Value} {below : List Frame} {meth : Method} {c : Code} {H : Heap} {locs : List Loc} {cells slots : Nat}
variable {y : MethodName} {bytes cc : ByteArray} {maxL nL mc ms n index : Nat} {ret : Option FieldType} {ws : List Cond} {rm : Room} {Pc : Array Value → State → Prop} {Qc : Array Value → State → Outcome → State → Prop} {XC : String → State → State → Prop} {free : Addr → Prop} {Ts : List Cond} {own C : String} {b : Addr} {As rest : List Value} {g : JFrame}
theorem vx_callBack (cb : CallB R s args own index y bytes maxL ret ws rm mc ms n) (hM : vx_Met l y ws rm Pc Qc XC mc ms free) (hbl : FrameBlind Pc) : vx_Back l R p e below s args y 3 8 (PreOf R mc ms Pc) (PostOf Qc mc ms free) (vx_Post XC mc ms free) := by
  obtain ⟨hrc, hrs, hfr, hlo, hws, hcw, -, hini, -⟩ := cb
  exact vx_back (bytes := bytes) (maxL := maxL) (ret := ret) hM hbl hrc hrs hfr hlo hws hcw (fun a' U hW => word_at hW (Or.inl (by first | rfl | simp [Cond.onTables, Cond.keeps, Cond.steady])) hini)
theorem vx_runV (S : CallFix p m c cc nL s args Ts own) (hM : vx_Met l y ws rm Pc Qc XC mc ms free) (cw : CallW R s args own C index y bytes maxL ret ws rm mc ms n) (hp : PreV s H C b Pc As)
    (hg : g.method = m) (hn : As.length = n) (hsize : g.locals.size = nL) (hstack : g.stack = As.reverse ++ .ref b :: rest) (hW : 2 * g.monitorRoom + (rest.map fun v => v.category).sum ≤ 8) (hdg : decode cc g.pc = .ok (.invokevirtual index, 3)) (hf : cells + mc ≤ R.cells ∧ slots + ms ≤ R.slots) :
    vx_Run p l e R s m args below meth c H locs cells slots mc ms g rest (Qc (Value.ref b :: As).toArray) XC free := by
  have hK : vx_Back l R p e below s args y 3 8 (PreOf R mc ms Pc) (PostOf Qc mc ms free) (vx_Post XC mc ms free) := vx_callBack cw.1 hM hp.1
  obtain ⟨⟨-, -, -, -, -, -, hcode, -, hy, hlen, hl⟩, hin, hse⟩ := cw
  obtain ⟨hx, hb, hml, ho, -⟩ := S
  obtain ⟨-, ⟨cellB, hcB, hoB, hclB⟩, hPc⟩ := hp
  intro T hT X
  rcases vx_callV X hx (C := C) (bytes := bytes) (maxL := maxL) (ret := ret) ho hl hin hse hcode hy hK (by rw [hT]; exact hcB) hoB hclB hg (hsize.trans hml.symm) (argsL := As) (rest := rest) (fun sig h => hn.trans (hlen sig h)) hstack hW (by rw [hb]; exact hdg)
    (fun vm₁ hW₁ => ⟨hf.1, hf.2, hPc (T.setVm vm₁) hT hW₁⟩) with ⟨v, vm₁, ⟨U', l2, c2, s2⟩, hW₁, X', ⟨g', mk, t, L, e1, e2, hq, h1, hL, h2, h3⟩, st⟩ | ⟨q, vm₁, ⟨U', l2, c2, s2⟩, hW₁, X', ⟨g', mk, t, L, E, ce, e1, e2, hq, hce, hcv, hcl, h1, hL, h2, h3⟩, st⟩
  · dsimp only [Pt.U, Pt.locs, Pt.cells, Pt.slots] at X' e1 e2 h1 h2 h3 st
    subst h1; subst h2; subst h3
    exact Or.inl ⟨v, (T.setVm vm₁).calling g' mk (Value.ref b :: As).toArray, t, U', L, hT, X', hL, e1, e2, hq, st⟩
  · dsimp only [Pt.U, Pt.locs, Pt.cells, Pt.slots] at X' e1 e2 h1 h2 h3 st hcl
    subst h1; subst h2; subst h3
    exact Or.inr ⟨q, (T.setVm vm₁).calling g' mk (Value.ref b :: As).toArray, t, U', L, E, ce, hT, X', hL, e1, e2, hq, hce, hcv, vx_cls hW₁ hcl, st⟩
theorem vx_runS (S : CallFix p m c cc nL s args Ts own) (hM : vx_Met l y ws rm Pc Qc XC mc ms free) (cw : CallB R s args own index y bytes maxL ret ws rm mc ms n ∧ (Cond.static y).before args s = true) (hp : PreS s H Pc As)
    (hg : g.method = m) (hn : As.length = n) (hsize : g.locals.size = nL) (hstack : g.stack = As.reverse ++ rest) (hW : 2 * g.monitorRoom + (rest.map fun v => v.category).sum ≤ 8) (hdg : decode cc g.pc = .ok (.invokestatic index, 3)) (hf : cells + mc ≤ R.cells ∧ slots + ms ≤ R.slots) :
    vx_Run p l e R s m args below meth c H locs cells slots mc ms g rest (Qc As.toArray) XC free := by
  have hK : vx_Back l R p e below s args y 3 8 (PreOf R mc ms Pc) (PostOf Qc mc ms free) (vx_Post XC mc ms free) := vx_callBack cw.1 hM hp.1
  obtain ⟨⟨-, -, -, -, -, -, hcode, hini, hy, hlen, hl⟩, hstt⟩ := cw
  obtain ⟨hx, hb, hml, ho, -⟩ := S
  intro T hT X
  rcases vx_callS X hx (bytes := bytes) (maxL := maxL) (ret := ret) ho hl hstt hini hcode hy hK hg (hsize.trans hml.symm) (argsL := As) (rest := rest) (fun sig h => hn.trans (hlen sig h)) hstack hW (by rw [hb]; exact hdg)
    (fun vm₁ hW₁ => ⟨hf.1, hf.2, hp.2 (T.setVm vm₁) hT hW₁⟩) with ⟨v, vm₁, ⟨U', l2, c2, s2⟩, hW₁, X', ⟨g', mk, t, L, e1, e2, hq, h1, hL, h2, h3⟩, st⟩ | ⟨q, vm₁, ⟨U', l2, c2, s2⟩, hW₁, X', ⟨g', mk, t, L, E, ce, e1, e2, hq, hce, hcv, hcl, h1, hL, h2, h3⟩, st⟩
  · dsimp only [Pt.U, Pt.locs, Pt.cells, Pt.slots] at X' e1 e2 h1 h2 h3 st
    subst h1; subst h2; subst h3
    exact Or.inl ⟨v, (T.setVm vm₁).calling g' mk As.toArray, t, U', L, hT, X', hL, e1, e2, hq, st⟩
  · dsimp only [Pt.U, Pt.locs, Pt.cells, Pt.slots] at X' e1 e2 h1 h2 h3 st hcl
    subst h1; subst h2; subst h3
    exact Or.inr ⟨q, (T.setVm vm₁).calling g' mk As.toArray, t, U', L, E, ce, hT, X', hL, e1, e2, hq, hce, hcv, vx_cls hW₁ hcl, st⟩
end Runs
section Rows
variable {p : Program} {l : Launch} {e : Env} {R : Room} {s : State} {m : MethodId} {args : Array Value} {below : List Frame} {meth : Method} {c : Code} {H : Heap} {locs : List Loc} {cells slots : Nat} {Q : State → Prop}
variable {mc ms : Nat} {free : Addr → Prop} {A0 A1 : Nat → Prop} {H0 : Heap} {a : Array Value} {pc : Nat} {ls : Array Slot} {st0 rest : List Value}
theorem vx_keep {st₀ t T' : State} {L : List Loc} (h0 : st₀.heap = H) (e1 : T'.heap = t.heap) (hS : va_S A0 H0 H locs) (hA : ∀ q, q < H.size → A1 q → A0 q) (hf : ∀ q, free q → A0 q) (hL : ∀ q ∈ L, free q.base) (hF : va_F A1 st₀ t) :
    H.size ≤ T'.heap.size ∧ (∀ q : Nat, q < H.size → ¬ A1 q → T'.heap[q]? = H[q]?) ∧ va_S A0 H0 T'.heap (locs ++ L) := by
  obtain ⟨hz, hk⟩ := hF
  rw [h0] at hz hk
  exact ⟨by rw [e1]; exact hz, fun q h1 h2 => by rw [e1]; exact hk q h1 h2,
    ⟨Nat.le_trans hS.1 (by rw [e1]; exact hz), fun q h1 h2 => by rw [e1, hk q (Nat.lt_of_lt_of_le h1 hS.1) (fun z => h2 (hA q (Nat.lt_of_lt_of_le h1 hS.1) z))]; exact hS.2.1 q h1 h2, fun q hq => by
      rcases List.mem_append.mp hq with h | h
      · exact hS.2.2 q h
      · exact hf _ (hL q h)⟩⟩
theorem vx_calli {S SX : Type} {post : Int32 → S → Prop} {px : SX → Prop} {B : S → State → Prop} {BX : String → SX → State → Prop} {AX : Nat → Prop} (hr : vx_Run p l e R s m args below meth c H locs cells slots mc ms (F0 m pc ls st0) rest (va_Qi post B A1 a) (vx_X px BX AX) free) (hS : va_S A0 H0 H locs) (hA : ∀ q, q < H.size → A1 q → A0 q) (hf : ∀ q, free q → A0 q) (hAX : ∀ q, q < H.size → AX q → A0 q)
    (kx : ∀ (E : String) (ce : Cell) (q9 : Addr) (u : SX) (t : State) (H1 : Heap) (locs1 : List Loc), t.heap = H1 → s.vm.Alike t.vm → px u → BX E u t → H.size ≤ H1.size → (∀ q : Nat, q < H.size → ¬ AX q → H1[q]? = H[q]?) → va_S A0 H0 H1 locs1 → H1[q9]? = some ce → ce.vm = .none → s.vm.findClass E = some ce.cls → vx_W p l e R s m args below meth c H1 locs1 (cells + mc) (slots + ms) Q (F0 m pc ls rest) q9)
    (kk : ∀ (r : Int32) (u : S) (t : State) (H1 : Heap) (locs1 : List Loc), t.heap = H1 → s.vm.Alike t.vm → post r u → B u t → H.size ≤ H1.size → (∀ q : Nat, q < H.size → ¬ A1 q → H1[q]? = H[q]?) → va_S A0 H0 H1 locs1 → W p l e R s m args below meth c H1 locs1 (cells + mc) (slots + ms) Q (F0 m (pc + 3) ls (.int r :: rest))) : W p l e R s m args below meth c H locs cells slots Q (F0 m pc ls st0) := by
  intro T hT X
  rcases hr T hT X with ⟨v, st₀, t, T', L, h0, X', hL, e1, e2, ⟨⟨r, u, hv, hp, hb⟩, hF⟩, st⟩ | ⟨q, st₀, t, T', L, E, ce, h0, X', hL, e1, e2, ⟨u, hp, hb, hF⟩, hce, hcv, hcl, st⟩
  · cases hv
    obtain ⟨k1, k2, k3⟩ := vx_keep h0 e1 hS hA hf hL hF
    obtain ⟨t2, a1, b1⟩ := kk r u t T'.heap (locs ++ L) e1.symm (by rw [← e2]; exact X'.warmed.alike) hp hb k1 k2 k3 T' rfl X'
    exact ⟨t2, st t2 a1, b1⟩
  · obtain ⟨k1, k2, k3⟩ := vx_keep h0 e1 hS hAX hf hL hF
    obtain ⟨t2, a1, b1⟩ := kx E ce q u t T'.heap (locs ++ L) e1.symm (by rw [← e2]; exact X'.warmed.alike) hp hb k1 k2 k3 (by rw [e1]; exact hce) hcv hcl T' rfl X'
    exact ⟨t2, st.trans a1, b1⟩
theorem vx_calll {S SX : Type} {post : Int64 → S → Prop} {px : SX → Prop} {B : S → State → Prop} {BX : String → SX → State → Prop} {AX : Nat → Prop} (hr : vx_Run p l e R s m args below meth c H locs cells slots mc ms (F0 m pc ls st0) rest (va_Ql post B A1 a) (vx_X px BX AX) free) (hS : va_S A0 H0 H locs) (hA : ∀ q, q < H.size → A1 q → A0 q) (hf : ∀ q, free q → A0 q) (hAX : ∀ q, q < H.size → AX q → A0 q)
    (kx : ∀ (E : String) (ce : Cell) (q9 : Addr) (u : SX) (t : State) (H1 : Heap) (locs1 : List Loc), t.heap = H1 → s.vm.Alike t.vm → px u → BX E u t → H.size ≤ H1.size → (∀ q : Nat, q < H.size → ¬ AX q → H1[q]? = H[q]?) → va_S A0 H0 H1 locs1 → H1[q9]? = some ce → ce.vm = .none → s.vm.findClass E = some ce.cls → vx_W p l e R s m args below meth c H1 locs1 (cells + mc) (slots + ms) Q (F0 m pc ls rest) q9)
    (kk : ∀ (r : Int64) (u : S) (t : State) (H1 : Heap) (locs1 : List Loc), t.heap = H1 → s.vm.Alike t.vm → post r u → B u t → H.size ≤ H1.size → (∀ q : Nat, q < H.size → ¬ A1 q → H1[q]? = H[q]?) → va_S A0 H0 H1 locs1 → W p l e R s m args below meth c H1 locs1 (cells + mc) (slots + ms) Q (F0 m (pc + 3) ls (.long r :: rest))) : W p l e R s m args below meth c H locs cells slots Q (F0 m pc ls st0) := by
  intro T hT X
  rcases hr T hT X with ⟨v, st₀, t, T', L, h0, X', hL, e1, e2, ⟨⟨r, u, hv, hp, hb⟩, hF⟩, st⟩ | ⟨q, st₀, t, T', L, E, ce, h0, X', hL, e1, e2, ⟨u, hp, hb, hF⟩, hce, hcv, hcl, st⟩
  · cases hv
    obtain ⟨k1, k2, k3⟩ := vx_keep h0 e1 hS hA hf hL hF
    obtain ⟨t2, a1, b1⟩ := kk r u t T'.heap (locs ++ L) e1.symm (by rw [← e2]; exact X'.warmed.alike) hp hb k1 k2 k3 T' rfl X'
    exact ⟨t2, st t2 a1, b1⟩
  · obtain ⟨k1, k2, k3⟩ := vx_keep h0 e1 hS hAX hf hL hF
    obtain ⟨t2, a1, b1⟩ := kx E ce q u t T'.heap (locs ++ L) e1.symm (by rw [← e2]; exact X'.warmed.alike) hp hb k1 k2 k3 (by rw [e1]; exact hce) hcv hcl T' rfl X'
    exact ⟨t2, st.trans a1, b1⟩
theorem vx_callf {S SX : Type} {post : UInt32 → S → Prop} {px : SX → Prop} {B : S → State → Prop} {BX : String → SX → State → Prop} {AX : Nat → Prop} (hr : vx_Run p l e R s m args below meth c H locs cells slots mc ms (F0 m pc ls st0) rest (va_Qf post B A1 a) (vx_X px BX AX) free) (hS : va_S A0 H0 H locs) (hA : ∀ q, q < H.size → A1 q → A0 q) (hf : ∀ q, free q → A0 q) (hAX : ∀ q, q < H.size → AX q → A0 q)
    (kx : ∀ (E : String) (ce : Cell) (q9 : Addr) (u : SX) (t : State) (H1 : Heap) (locs1 : List Loc), t.heap = H1 → s.vm.Alike t.vm → px u → BX E u t → H.size ≤ H1.size → (∀ q : Nat, q < H.size → ¬ AX q → H1[q]? = H[q]?) → va_S A0 H0 H1 locs1 → H1[q9]? = some ce → ce.vm = .none → s.vm.findClass E = some ce.cls → vx_W p l e R s m args below meth c H1 locs1 (cells + mc) (slots + ms) Q (F0 m pc ls rest) q9)
    (kk : ∀ (r : UInt32) (u : S) (t : State) (H1 : Heap) (locs1 : List Loc), t.heap = H1 → s.vm.Alike t.vm → post r u → B u t → H.size ≤ H1.size → (∀ q : Nat, q < H.size → ¬ A1 q → H1[q]? = H[q]?) → va_S A0 H0 H1 locs1 → W p l e R s m args below meth c H1 locs1 (cells + mc) (slots + ms) Q (F0 m (pc + 3) ls (.float r :: rest))) : W p l e R s m args below meth c H locs cells slots Q (F0 m pc ls st0) := by
  intro T hT X
  rcases hr T hT X with ⟨v, st₀, t, T', L, h0, X', hL, e1, e2, ⟨⟨r, u, hv, hp, hb⟩, hF⟩, st⟩ | ⟨q, st₀, t, T', L, E, ce, h0, X', hL, e1, e2, ⟨u, hp, hb, hF⟩, hce, hcv, hcl, st⟩
  · cases hv
    obtain ⟨k1, k2, k3⟩ := vx_keep h0 e1 hS hA hf hL hF
    obtain ⟨t2, a1, b1⟩ := kk r u t T'.heap (locs ++ L) e1.symm (by rw [← e2]; exact X'.warmed.alike) hp hb k1 k2 k3 T' rfl X'
    exact ⟨t2, st t2 a1, b1⟩
  · obtain ⟨k1, k2, k3⟩ := vx_keep h0 e1 hS hAX hf hL hF
    obtain ⟨t2, a1, b1⟩ := kx E ce q u t T'.heap (locs ++ L) e1.symm (by rw [← e2]; exact X'.warmed.alike) hp hb k1 k2 k3 (by rw [e1]; exact hce) hcv hcl T' rfl X'
    exact ⟨t2, st.trans a1, b1⟩
theorem vx_calld {S SX : Type} {post : UInt64 → S → Prop} {px : SX → Prop} {B : S → State → Prop} {BX : String → SX → State → Prop} {AX : Nat → Prop} (hr : vx_Run p l e R s m args below meth c H locs cells slots mc ms (F0 m pc ls st0) rest (va_Qd post B A1 a) (vx_X px BX AX) free) (hS : va_S A0 H0 H locs) (hA : ∀ q, q < H.size → A1 q → A0 q) (hf : ∀ q, free q → A0 q) (hAX : ∀ q, q < H.size → AX q → A0 q)
    (kx : ∀ (E : String) (ce : Cell) (q9 : Addr) (u : SX) (t : State) (H1 : Heap) (locs1 : List Loc), t.heap = H1 → s.vm.Alike t.vm → px u → BX E u t → H.size ≤ H1.size → (∀ q : Nat, q < H.size → ¬ AX q → H1[q]? = H[q]?) → va_S A0 H0 H1 locs1 → H1[q9]? = some ce → ce.vm = .none → s.vm.findClass E = some ce.cls → vx_W p l e R s m args below meth c H1 locs1 (cells + mc) (slots + ms) Q (F0 m pc ls rest) q9)
    (kk : ∀ (r : UInt64) (u : S) (t : State) (H1 : Heap) (locs1 : List Loc), t.heap = H1 → s.vm.Alike t.vm → post r u → B u t → H.size ≤ H1.size → (∀ q : Nat, q < H.size → ¬ A1 q → H1[q]? = H[q]?) → va_S A0 H0 H1 locs1 → W p l e R s m args below meth c H1 locs1 (cells + mc) (slots + ms) Q (F0 m (pc + 3) ls (.double r :: rest))) : W p l e R s m args below meth c H locs cells slots Q (F0 m pc ls st0) := by
  intro T hT X
  rcases hr T hT X with ⟨v, st₀, t, T', L, h0, X', hL, e1, e2, ⟨⟨r, u, hv, hp, hb⟩, hF⟩, st⟩ | ⟨q, st₀, t, T', L, E, ce, h0, X', hL, e1, e2, ⟨u, hp, hb, hF⟩, hce, hcv, hcl, st⟩
  · cases hv
    obtain ⟨k1, k2, k3⟩ := vx_keep h0 e1 hS hA hf hL hF
    obtain ⟨t2, a1, b1⟩ := kk r u t T'.heap (locs ++ L) e1.symm (by rw [← e2]; exact X'.warmed.alike) hp hb k1 k2 k3 T' rfl X'
    exact ⟨t2, st t2 a1, b1⟩
  · obtain ⟨k1, k2, k3⟩ := vx_keep h0 e1 hS hAX hf hL hF
    obtain ⟨t2, a1, b1⟩ := kx E ce q u t T'.heap (locs ++ L) e1.symm (by rw [← e2]; exact X'.warmed.alike) hp hb k1 k2 k3 (by rw [e1]; exact hce) hcv hcl T' rfl X'
    exact ⟨t2, st.trans a1, b1⟩
theorem vx_callv {S SX : Type} {post : S → Prop} {px : SX → Prop} {B : S → State → Prop} {BX : String → SX → State → Prop} {AX : Nat → Prop} (hr : vx_Run p l e R s m args below meth c H locs cells slots mc ms (F0 m pc ls st0) rest (va_Qv post B A1 a) (vx_X px BX AX) free) (hS : va_S A0 H0 H locs) (hA : ∀ q, q < H.size → A1 q → A0 q) (hf : ∀ q, free q → A0 q) (hAX : ∀ q, q < H.size → AX q → A0 q)
    (kx : ∀ (E : String) (ce : Cell) (q9 : Addr) (u : SX) (t : State) (H1 : Heap) (locs1 : List Loc), t.heap = H1 → s.vm.Alike t.vm → px u → BX E u t → H.size ≤ H1.size → (∀ q : Nat, q < H.size → ¬ AX q → H1[q]? = H[q]?) → va_S A0 H0 H1 locs1 → H1[q9]? = some ce → ce.vm = .none → s.vm.findClass E = some ce.cls → vx_W p l e R s m args below meth c H1 locs1 (cells + mc) (slots + ms) Q (F0 m pc ls rest) q9)
    (kk : ∀ (u : S) (t : State) (H1 : Heap) (locs1 : List Loc), t.heap = H1 → s.vm.Alike t.vm → post u → B u t → H.size ≤ H1.size → (∀ q : Nat, q < H.size → ¬ A1 q → H1[q]? = H[q]?) → va_S A0 H0 H1 locs1 → W p l e R s m args below meth c H1 locs1 (cells + mc) (slots + ms) Q (F0 m (pc + 3) ls (rest))) : W p l e R s m args below meth c H locs cells slots Q (F0 m pc ls st0) := by
  intro T hT X
  rcases hr T hT X with ⟨v, st₀, t, T', L, h0, X', hL, e1, e2, ⟨⟨u, hv, hp, hb⟩, hF⟩, st⟩ | ⟨q, st₀, t, T', L, E, ce, h0, X', hL, e1, e2, ⟨u, hp, hb, hF⟩, hce, hcv, hcl, st⟩
  · cases hv
    obtain ⟨k1, k2, k3⟩ := vx_keep h0 e1 hS hA hf hL hF
    obtain ⟨t2, a1, b1⟩ := kk u t T'.heap (locs ++ L) e1.symm (by rw [← e2]; exact X'.warmed.alike) hp hb k1 k2 k3 T' rfl X'
    exact ⟨t2, st t2 a1, b1⟩
  · obtain ⟨k1, k2, k3⟩ := vx_keep h0 e1 hS hAX hf hL hF
    obtain ⟨t2, a1, b1⟩ := kx E ce q u t T'.heap (locs ++ L) e1.symm (by rw [← e2]; exact X'.warmed.alike) hp hb k1 k2 k3 (by rw [e1]; exact hce) hcv hcl T' rfl X'
    exact ⟨t2, st.trans a1, b1⟩
/-- caught by the row x of this method's table; the rows ahead don't take it -/
theorem vx_catch {own name : String} {E : String} {ce : Cell} {q : Addr} (hown : s.vm.findClass own = some m.cls) (pre : List ExceptionTableEntry) (x : ExceptionTableEntry) (suf : List ExceptionTableEntry) (hsplit : c.exceptionTable.toList = pre ++ x :: suf)
    (hpass : ∀ z ∈ pre, covers z pc = false ∨ (z.catchType ≠ 0 ∧ ∃ nm : String, (Cond.classLink own z.catchType nm).before args s = true ∧ va_Nc E nm s)) (hx : covers x pc = true) (h0 : x.catchType ≠ 0)
    (hlink : (Cond.classLink own x.catchType name).before args s = true) (hcast : (Cond.castable E name).before args s = true) (hcell : H[q]? = some ce) (hv : ce.vm = .none) (hcl : s.vm.findClass E = some ce.cls)
    (kk : W p l e R s m args below meth c H locs cells slots Q (F0 m x.handlerPc ls [.ref q])) : vx_W p l e R s m args below meth c H locs cells slots Q (F0 m pc ls rest) q := by
  intro T hT X
  have hpl : e.platform.magicAccessors = ({} : Platform).magicAccessors := by rw [X.admits.platform]
  obtain ⟨c3, c4, hc3, hc4, hasg⟩ := Cond.castable_spec hcast
  cases Option.some.inj (hc3.symm.trans hcl)
  obtain ⟨c5, hc5, hcl5⟩ := Cond.classLink_spec hown hlink e.platform hpl
  cases Option.some.inj (hc4.symm.trans hc5)
  obtain ⟨vm', X', st⟩ := X.thenCaughtThrough q (g := F0 m pc ls rest) rfl (Steps.refl _) (by rw [hT]; exact hcell) (by rw [hv]; rfl) (by obtain ⟨k9, h9, -⟩ := Vm.findClass_spec hcl; exact ⟨k9, h9⟩) pre x suf hsplit
    (fun z hz => by
      rcases hpass z hz with h | ⟨hz0, nm, hl1, hn1⟩
      · exact Or.inl h
      · obtain ⟨c6, hc6, hcl6⟩ := Cond.classLink_spec hown hl1 e.platform hpl
        obtain ⟨a8, b8, h1, h2, h3⟩ := hn1
        cases Option.some.inj (h1.symm.trans hcl)
        cases Option.some.inj (h2.symm.trans hc6)
        exact Or.inr ⟨hz0, _, hcl6, h3⟩) hx (Or.inr ⟨h0, c4, hcl5, hasg⟩)
  obtain ⟨t, a1, b1⟩ := kk (T.setVm vm') hT X'
  exact ⟨t, st.trans a1, b1⟩
end Rows
section Ends
variable {p : Program} {l : Launch} {e : Env} {R : Room} {s : State} {m : MethodId} {args : Array Value} {below : List Frame} {meth : Method} {c : Code} {H : Heap} {locs : List Loc} {cells slots : Nat} {Q : State → Prop}
variable {mc ms : Nat} {free : Addr → Prop} {A0 A1 : Nat → Prop} {H0 : Heap} {a : Array Value} {ls : Array Slot} {st0 rest : List Value}
variable {Qc : Array Value → State → Outcome → State → Prop} {XC : String → State → State → Prop}
/-- what a body that may throw owes at its end -/
def vx_MQ (below : List Frame) (Qc : Array Value → State → Outcome → State → Prop) (XC : String → State → State → Prop) (a : Array Value) (s : State) (mc ms : Nat) (free : Addr → Prop) : State → Prop := fun t =>
  ∃ o, t.status = .running ∧ Ended t below o ∧ vx_Q Qc XC mc ms free a s o t
theorem vx_ret {g : JFrame} {mc ms : Nat} (k : W p l e R s m args below meth c H locs cells slots (MQ below Qc args s mc ms free) g) : W p l e R s m args below meth c H locs cells slots (vx_MQ below Qc XC args s mc ms free) g := by
  intro T hT X
  obtain ⟨t, a1, o, b1, b2, b3, b4⟩ := k T hT X
  exact ⟨t, a1, o, b1, b2, Or.inl ⟨b3, b4⟩⟩
/-- not caught here: it goes on to the caller -/
theorem vx_widen {g : JFrame} {q : Addr} {k n : Nat} (h1 : cells ≤ k) (h2 : slots ≤ n) (kk : vx_W p l e R s m args below meth c H locs k n Q g q) : vx_W p l e R s m args below meth c H locs cells slots Q g q := fun T hT X => kk T hT (stand_widen X h1 h2)
theorem vx_out {pc : Nat} {E : String} {ce : Cell} {q : Addr} {mc ms : Nat} (hout : ∀ x ∈ c.exceptionTable.toList, covers x pc = false) (hlocks : meth.locks = false) (hcell : H[q]? = some ce) (hv : ce.vm = .none) (hcl : s.vm.findClass E = some ce.cls)
    (hx : ∀ t : State, t.heap = H → s.vm.Alike t.vm → XC E s t) (hf : ∀ z ∈ locs, free z.base) (hc : cells ≤ mc) (hs : slots ≤ ms) :
    vx_W p l e R s m args below meth c H locs cells slots (vx_MQ below Qc XC args s mc ms free) (F0 m pc ls rest) q := by
  intro T hT X
  obtain ⟨st1, hrun, hend, hW, hsm⟩ := X.leaveThrown q (g := F0 m pc ls rest) rfl rfl rfl hout hlocks
  have hcell9 : (T.setFrames (.throwing q :: below)).heap[q]? = some ce := by
    show T.heap[q]? = some ce
    rw [hT]; exact hcell
  exact ⟨_, st1, .threw q, hrun, hend, Or.inr ⟨q, rfl, E, ce, locs, hx _ hT hW.alike, hcell9, hv, hcl, hW, hsm.mono hc hs, hf⟩⟩
theorem vx_frame {U : State} {k n : Nat} (h : s.sameButNew ({ U with vm := s.vm } : State) locs k n) : s.heap.size ≤ U.heap.size ∧ ∀ q : Nat, q < s.heap.size → (∀ z ∈ locs, z.base ≠ q) → U.heap[q]? = s.heap[q]? := by
  obtain ⟨-, h2, -, -, -, h6⟩ := h
  refine ⟨h2, fun q hq hz => ?_⟩
  obtain ⟨c9, e1, e2, e3, e4⟩ := h6 q _ (Array.getElem?_eq_getElem hq)
  have hs : c9.slots = (s.heap[q]).slots := Array.ext_getElem? fun i => e4 i fun hm => hz _ hm rfl
  have h9 : c9 = s.heap[q] := by
    rw [hs] at e2
    exact e2
  have e5 : U.heap[q]? = some c9 := e1
  rw [e5, h9, Array.getElem?_eq_getElem hq]
/-- the words of a throw but the four that speak of the heap -/
def vx_no (w : Cond) : Bool := decide (w ≠ .isRef (.static Bundle.tN "UNASSIGNED_STACK" Bundle.steD)) && decide (w ≠ .isRef (.static Bundle.tN "SUPPRESSED_SENTINEL" Bundle.listD)) && decide (w ≠ .laysStatic Bundle.tN "UNASSIGNED_STACK" Bundle.steD) && decide (w ≠ .laysStatic Bundle.tN "SUPPRESSED_SENTINEL" Bundle.listD)
def vx_at0 (own : String) (ic : Nat) (X : String) (names : List String) : List Cond := (Bundle.ownAtoms0 own ic X names).filter vx_no
def vx_atS (own : String) (ic : Nat) (X : String) (names : List String) : List Cond := (Bundle.ownAtoms own ic X names).filter vx_no
/-- a word that the tables alone decide, or a good one -/
def vx_ot (w : Cond) : Bool := w.onTables || goodWord w
theorem vx_ot_at {args a' : Array Value} {s U : State} {w : Cond} (hW : s.WarmedH U.vm) (hvm : s.vm = U.vm) (hg : vx_ot w = true) (h : w.before args s = true) : w.before a' U = true := by
  simp only [vx_ot, Bool.or_eq_true] at hg
  rcases hg with hg | hg
  · exact va_tabs hg hvm h
  · exact word_at hW (good_of_word hg) h
/-- a list's words: the good ones out of the method's own list, the others by premises of their own -/
theorem vx_hat {args : Array Value} {s : State} {L B : List Cond} (h1 : ∀ w ∈ L.filter goodWord, w.before args s = true) (h2 : ∀ w ∈ L.filter (fun w => !goodWord w), w ∈ B) (h3 : ∀ w ∈ B, w.before args s = true) : ∀ w ∈ L, w.before args s = true := by
  intro w hw
  by_cases g : goodWord w = true
  · exact h1 w (List.mem_filter.mpr ⟨hw, g⟩)
  · refine h3 w (h2 w (List.mem_filter.mpr ⟨hw, ?_⟩))
    show (!goodWord w) = true
    cases hgw : goodWord w
    · rfl
    · exact absurd hgw g
theorem vx_c {args : Array Value} {s : State} {w : Cond} {B : List Cond} (h : w.before args s = true) (t : ∀ w ∈ B, w.before args s = true) : ∀ w' ∈ w :: B, w'.before args s = true := fun w' h' => (List.mem_cons.mp h').elim (fun e => by rw [e]; exact h) (t w')
theorem vx_n {args : Array Value} {s : State} : ∀ w ∈ ([] : List Cond), w.before args s = true := fun _ h => nomatch h
theorem vx_own {args : Array Value} {s : State} {L : List Cond} (h1 : ∀ w ∈ L.filter vx_no, w.before args s = true)
    (hU : (Cond.isRef (.static Bundle.tN "UNASSIGNED_STACK" Bundle.steD)).before args s = true) (hN : (Cond.isRef (.static Bundle.tN "SUPPRESSED_SENTINEL" Bundle.listD)).before args s = true)
    (lU : (Cond.laysStatic Bundle.tN "UNASSIGNED_STACK" Bundle.steD).before args s = true) (lN : (Cond.laysStatic Bundle.tN "SUPPRESSED_SENTINEL" Bundle.listD).before args s = true) : ∀ w ∈ L, w.before args s = true := by
  intro w hw
  by_cases e1 : w = .isRef (.static Bundle.tN "UNASSIGNED_STACK" Bundle.steD)
  · rw [e1]; exact hU
  · by_cases e2 : w = .isRef (.static Bundle.tN "SUPPRESSED_SENTINEL" Bundle.listD)
    · rw [e2]; exact hN
    · by_cases e3 : w = .laysStatic Bundle.tN "UNASSIGNED_STACK" Bundle.steD
      · rw [e3]; exact lU
      · by_cases e4 : w = .laysStatic Bundle.tN "SUPPRESSED_SENTINEL" Bundle.listD
        · rw [e4]; exact lN
        · exact h1 w (List.mem_filter.mpr ⟨hw, by unfold vx_no; rw [decide_eq_true e1, decide_eq_true e2, decide_eq_true e3, decide_eq_true e4]; rfl⟩)
/-- where a static field lies, its class's statics cell in H -/
def vx_L (C n d : String) (A : Nat → Prop) (U : State) (H : Heap) : Prop := ∃ (c : ClassId) (k : Class) (i : Nat) (f : Field) (a : Nat) (cell : Cell), U.vm.findClass C = some c ∧ U.fieldFound? C n d = some (c, k, i, f) ∧ f.isStatic = true ∧ k.statics = some a ∧ H[a]? = some cell ∧ cell.vm.isStatics = true ∧ cell.cls = c ∧ f.slot < cell.slots.size ∧ k.staticTypes[f.slot]? = some f.type ∧ ¬ A a
theorem vx_L.moved {C n d : String} {A : Nat → Prop} {u U : State} {H : Heap} (hvm : u.vm.Alike U.vm) (h : vx_L C n d A u H) : vx_L C n d A U H := by
  obtain ⟨c, k, i, f, a, cell, h1, h2, h3, h4, h5, h6, h7, h8, h9, h10⟩ := h
  obtain ⟨k', hi', he⟩ := State.fieldFound?_setVm hvm h2
  exact ⟨c, k', i, f, a, cell, by rw [hvm.findClass]; exact h1, hi', h3, by rw [he]; exact h4, h5, h6, h7, h8, by rw [he]; exact h9, h10⟩
theorem vx_L.kept {C n d : String} {A : Nat → Prop} {U : State} {H H1 : Heap} (h : vx_L C n d A U H) (hq : ∀ a : Nat, a < H.size → ¬ A a → H1[a]? = H[a]?) : vx_L C n d A U H1 := by
  obtain ⟨c, k, i, f, a, cell, h1, h2, h3, h4, h5, h6, h7, h8, h9, h10⟩ := h
  exact ⟨c, k, i, f, a, cell, h1, h2, h3, h4, by rw [hq a (Array.getElem?_eq_some_iff.mp h5).1 h10]; exact h5, h6, h7, h8, h9, h10⟩
theorem vx_L.narrow {C n d : String} {A B : Nat → Prop} {U : State} {H : Heap} (h : vx_L C n d A U H) (hAB : ∀ q, B q → A q) : vx_L C n d B U H := by
  obtain ⟨c, k, i, f, a, cell, h1, h2, h3, h4, h5, h6, h7, h8, h9, h10⟩ := h
  exact ⟨c, k, i, f, a, cell, h1, h2, h3, h4, h5, h6, h7, h8, h9, fun z => h10 (hAB _ z)⟩
theorem vx_L.word {C n d : String} {A : Nat → Prop} {s : State} {args : Array Value} (h : vx_L C n d A s s.heap) : (Cond.laysStatic C n d).before args s = true := by
  obtain ⟨c, k, i, f, a, cell, h1, h2, h3, h4, h5, h6, h7, h8, h9, -⟩ := h
  show (Cond.laysStatic C n d).holds args s none s [] = true
  exact Cond.laysStatic_of h1 h2 h3 h4 h5 h6 h7 h8 h9
/-- .. and what it holds: null or some reference -/
def vx_Zq (C n d : String) (A : Nat → Prop) (U : State) (H : Heap) : Prop := va_Zq C n d A U H ∧ vx_L C n d A U H
theorem vx_Zq.moved {C n d : String} {A : Nat → Prop} {u U : State} {H : Heap} (hvm : u.vm.Alike U.vm) (h : vx_Zq C n d A u H) : vx_Zq C n d A U H := ⟨va_Zq.moved hvm h.1, vx_L.moved hvm h.2⟩
theorem vx_Zq.kept {C n d : String} {A : Nat → Prop} {U : State} {H H1 : Heap} (h : vx_Zq C n d A U H) (hq : ∀ a : Nat, a < H.size → ¬ A a → H1[a]? = H[a]?) : vx_Zq C n d A U H1 := ⟨va_Zq.kept h.1 hq, vx_L.kept h.2 hq⟩
theorem vx_Zq.narrow {C n d : String} {A B : Nat → Prop} {U : State} {H : Heap} (h : vx_Zq C n d A U H) (hAB : ∀ q, B q → A q) : vx_Zq C n d B U H := ⟨va_Zq.narrow h.1 hAB, vx_L.narrow h.2 hAB⟩
theorem vx_Zqof {args : Array Value} {s : State} {C n d : String} {A : Nat → Prop} (hl : (Cond.laysStatic C n d).before args s = true) (hini : (Cond.initialized C).before args s = true) (h : (Cond.isRef (.static C n d)).before args s = true) (hA : ∀ a : Nat, a < s.heap.size → ¬ A a) : vx_Zq C n d A s s.heap := by
  refine ⟨va_Zqof hl hini h hA, ?_⟩
  obtain ⟨c, k, i, f, a, cell, h1, h2, h3, h4, h5, h6, h7, h8, h9⟩ := Cond.laysStatic_spec hl
  exact ⟨c, k, i, f, a, cell, h1, h2, h3, h4, h5, h6, h7, h8, h9, hA a (Array.getElem?_eq_some_iff.mp h5).1⟩
theorem vx_isRef {C n d : String} {v : Value} {A : Nat → Prop} {s : State} {args : Array Value} (h : va_Z C n d v A s s.heap) (hv : v.isRef = true) : (Cond.isRef (.static C n d)).before args s = true := by
  obtain ⟨cf, kf, fi, f, a, cell, h1, h2, h3, h4, h5, h6, h7, -⟩ := h
  have he : (Term.static C n d).eval args s none [] s = some v := by
    simp [Term.eval, State.fieldNamed?, h1, h2, h4, h5, h6, h7]
  simp only [Cond.before, Cond.holds, Cond.value, he]
  cases v <;> simp_all [Value.isRef]
theorem vx_isRefq {C n d : String} {A : Nat → Prop} {s : State} {args : Array Value} (h : va_Zq C n d A s s.heap) : (Cond.isRef (.static C n d)).before args s = true := by
  rcases h with h | ⟨t, h⟩
  · exact vx_isRef h rfl
  · exact vx_isRef h rfl
/-- the same frame, seen from here: as if the method were called anew in this heap -/
theorem vx_rebase {T : State} (X : Stand p l e R s m args below meth c T locs cells slots) {R' : Room} (hf : R'.frames ≤ R.frames) (hl : R'.locals ≤ R.locals) (hc : cells + R'.cells ≤ R.cells) (hs : slots + R'.slots ≤ R.slots) :
    Stand p l e R' ((T.setVm s.vm).setFrames (.invoking m args :: below)) m args below meth c T [] 0 0 := by
  have htop : (T.setVm s.vm).topJava?.isSome := X.here.top
  have hF : ((T.setVm s.vm).setFrames (.invoking m args :: below)).frames = .invoking m args :: below := State.frames_setFrames _ (State.cur_lt_of_top htop)
  obtain ⟨g₀, hg0⟩ := Option.isSome_iff_exists.mp htop
  obtain ⟨r, hr⟩ := State.topJava?_eq_some.mp hg0
  have hl9 : e.platform.stackLimits (T.setVm s.vm).me = e.platform.stackLimits s.me := X.limits
  have hb9 : (T.setVm s.vm).me.stackBytes = s.me.stackBytes := X.bytes
  refine ⟨X.admits, X.cas, X.clock, hF, ?_, X.hears, X.method, X.code, X.here, X.tail, X.warmed, ?_, ?_, ?_⟩
  · have h := X.room
    have hU : ((T.setVm s.vm).setFrames (.invoking m args :: below)).localsInUse = s.localsInUse := by
      rw [State.localsInUse_invoking hF (meth := meth) (c := c) X.method X.code, State.localsInUse_invoking X.frames X.method X.code]
    simp only [State.hasRoom, Bool.and_eq_true, decide_eq_true_eq] at h ⊢
    obtain ⟨⟨⟨⟨h1, h2, h3, h4, h5, h6⟩, h7⟩, h8⟩, h9⟩ := h
    rw [X.frames, List.length_cons] at h2 h3
    have q1 := X.heapSize
    have q2 := X.used
    simp only [hF, hU, List.length_cons, State.stackLimits_setFrames, State.stackBytes_setFrames, hl9, hb9]
    refine ⟨⟨⟨⟨by omega, by omega, by omega, by omega, by omega, h6⟩, ?_⟩, ?_⟩, X.book⟩
    · show T.heap.size + R'.cells ≤ e.platform.maxCells
      omega
    · show T.slotsUsed + R'.slots ≤ e.platform.maxSlots
      omega
  · rw [State.stackLimits_setFrames]; rfl
  · rw [State.stackBytes_setFrames]; rfl
  · refine ⟨?_, Nat.le_refl _, Nat.le_refl _, ?_, ?_, fun a c9 h9 => ⟨c9, h9, rfl, rfl, fun _ _ => rfl⟩⟩
    · obtain ⟨t, ht, -⟩ := State.frames_cons hr
      show T.setVm s.vm = { ((T.setVm s.vm).setFrames (.invoking m args :: below)).setFrames (T.setVm s.vm).frames with heap := T.heap, slotsUsed := T.slotsUsed }
      rw [State.setFrames_setFrames, State.setFrames_self ht]
      rfl
    · show T.slotsUsed = T.slotsUsed + ((T.heap.toList.drop T.heap.size).map (·.slots.size)).sum
      rw [List.drop_eq_nil_of_le (Nat.le_of_eq Array.length_toList)]
      rfl
    · show ((T.heap.toList.drop T.heap.size).map (·.slots.size)).sum ≤ 0
      rw [List.drop_eq_nil_of_le (Nat.le_of_eq Array.length_toList)]
      exact Nat.le_refl _
/-- 'throw new E()': new; dup; invokespecial; athrow -/
theorem vx_throw0 {cc : ByteArray} {pc : Nat} (hexec : p.tables.exec = Jvm.exec) (hb : c.code = cc) (hl : l.stackTraces = false) {own cls : String} {names : List String} {ik ic mc ms : Nat} {A : Nat → Prop}
    (hown : s.vm.findClass own = some m.cls) (hcls : Bundle.fit cls = true) (hnames : ∀ n ∈ names, Bundle.fit n = true)
    (hk : (Cond.classLink own ik cls).before args s = true) (hini : (Cond.initialized cls).before args s = true) (hat : ∀ w ∈ vx_at0 own ic cls names, w.before args s = true)
    (hgood : ∀ w ∈ Cond.classLink own ik cls :: Cond.initialized cls :: vx_at0 own ic cls names, vx_ot w = true)
    (hU : vx_Zq Bundle.tN "UNASSIGNED_STACK" Bundle.steD A s s.heap) (hN : vx_Zq Bundle.tN "SUPPRESSED_SENTINEL" Bundle.listD A s s.heap) (hS : va_S A s.heap H locs) (hsize : ls.size = c.maxLocals)
    (d0 : decode cc pc = .ok (.new ik, 3)) (d3 : decode cc (pc + 3) = .ok (.dup, 1)) (d4 : decode cc (pc + 4) = .ok (.invokespecial ic, 3)) (d7 : decode cc (pc + 7) = .ok (.athrow, 1))
    (hout : ∀ x ∈ c.exceptionTable.toList, covers x (pc + 7) = false)
    (hRframes : names.length + 3 < R.frames) (hRlocals : (rest.map fun v => v.category).sum + (13 * (names.length + 1) + 42) ≤ R.locals) (hRcells : cells + 1 ≤ R.cells) (hRslots : slots + 6 ≤ R.slots) (hlocks : meth.locks = false)
    (hx : ∀ t : State, s.vm.Alike t.vm → H.size ≤ t.heap.size → (∀ q : Nat, q < H.size → t.heap[q]? = H[q]?) → XC cls s t)
    (hf : ∀ z ∈ locs, free z.base) (hc : cells + 1 ≤ mc) (hs : slots + 6 ≤ ms) :
    W p l e R s m args below meth c H locs cells slots (vx_MQ below Qc XC args s mc ms free) (F0 m pc ls rest) := by
  intro T hT X
  have htr : e.platform.stackTraces = false := (show e.platform.stackTraces = l.stackTraces by rw [X.admits.platform]).trans hl
  have Y := vx_rebase X (R' := { frames := R.frames, locals := R.locals, cells := 1, slots := 6 }) (Nat.le_refl _) (Nat.le_refl _) hRcells hRslots
  obtain ⟨s', hA⟩ : ∃ z, z = (T.setVm s.vm).setFrames (.invoking m args :: below) := ⟨_, rfl⟩
  rw [← hA] at Y
  have hvm : s'.vm = s.vm := by rw [hA]; rfl
  have hhp : s'.heap = H := by rw [hA]; exact hT
  have hW0 : s.WarmedH s'.vm := by rw [hvm]; exact State.WarmedH.refl s
  have hat' : ∀ w ∈ vx_at0 own ic cls names, w.before args s' = true := fun w hw => vx_ot_at hW0 hvm.symm (hgood w (List.mem_cons_of_mem _ (List.mem_cons_of_mem _ hw))) (hat w hw)
  have hk' : (Cond.classLink own ik cls).before args s' = true := vx_ot_at hW0 hvm.symm (hgood _ List.mem_cons_self) hk
  have hini' : (Cond.initialized cls).before args s' = true := vx_ot_at hW0 hvm.symm (hgood _ (List.mem_cons_of_mem _ List.mem_cons_self)) hini
  have hU' : vx_Zq Bundle.tN "UNASSIGNED_STACK" Bundle.steD A s' s'.heap := by rw [hhp]; exact vx_Zq.moved hW0.alike (hU.kept hS.2.1)
  have hN' : vx_Zq Bundle.tN "SUPPRESSED_SENTINEL" Bundle.listD A s' s'.heap := by rw [hhp]; exact vx_Zq.moved hW0.alike (hN.kept hS.2.1)
  have h : ∀ w ∈ Bundle.ownAtoms0 own ic cls names, w.before args s' = true := vx_own hat' (vx_isRefq hU'.1) (vx_isRefq hN'.1) hU'.2.word hN'.2.word
  have hown' : s'.vm.findClass own = some m.cls := by rw [hvm]; exact hown
  have hins : (Cond.instantiable cls 6).before args s' = true := h _ (by simp [Bundle.ownAtoms0])
  obtain ⟨vm₁, cX, kX, hfX, hkX, -, -, X₁, st1⟩ := Y.newCold hexec (own := own) (C := cls) (index := ik) (n := 6) hown' hk' hins hini'
    (g := F0 m pc ls rest) rfl (by rw [hb]; exact d0) (Nat.le_refl _) (Nat.le_refl _)
  generalize hT1 : (T.setVm vm₁).pushCell { cls := cX, slots := kX.instanceTypes.map defaultValue, vm := .none } = T1 at X₁ st1
  have hcat : (Value.ref T.heap.size).category = 1 := rfl
  have hcellA : T1.heap[T.heap.size]? = some (freshCell cX kX) := by rw [← hT1]; exact State.heap_pushCell_size _ _
  have d3' : decode c.code (pc + 3) = .ok (.dup, 1) := by rw [hb]; exact d3
  obtain ⟨U, hsteps, hrun, hend, hW, hsame, ce, hce, hO⟩ := X₁.ctorThrow0 hexec htr (own := own) (cls := cls) (names := names) (ic := ic) hown' hcls hnames h (fun x hx => nomatch hx) hfX hkX hcellA (by rw [hhp, hT]; exact Nat.le_refl _)
    (g := { method := m, pc := pc + 4, locals := ls, stack := .ref T.heap.size :: .ref T.heap.size :: rest, locked := none }) rfl hsize rfl rfl (rest := rest) rfl
    (by rw [hb]; exact d4) (by rw [hb]; exact d7) hout hRframes (by simp only [List.map_cons, List.sum_cons, hcat]; omega) hlocks
  obtain ⟨f1, f2⟩ := vx_frame hsame
  rw [hhp] at f1 f2
  have hWs : s.WarmedH U.vm := State.WarmedH.trans hW0 hW
  have hcl : s.vm.findClass cls = some ce.cls := by
    have h9 := hO.cls
    rw [hvm] at h9
    exact h9
  have hall : s.sameButNew ({ U with vm := s.vm } : State) locs mc ms := by
    subst hA
    obtain ⟨e1, e2⟩ := hsame
    rw [State.setFrames_setFrames] at e1
    have h2 : (T.setVm s.vm).sameButNew ({ U with vm := s.vm } : State) [] (0 + 1) (0 + 6) := ⟨e1, e2⟩
    have h3 := X.same.trans h2
    rw [List.append_nil] at h3
    exact h3.mono hc hs
  refine ⟨U, ?_, .threw T.heap.size, hrun, hend, Or.inr ⟨T.heap.size, rfl, cls, ce, locs, hx U hWs.alike f1 (fun q hq => f2 q hq (fun z hz => nomatch hz)), hce, hO.vm, hcl, hWs, hall, hf⟩⟩
  refine st1 _ ?_
  show Steps p.tables e below (T1.setTop { method := m, pc := pc + 3, locals := ls, stack := .ref T.heap.size :: rest, locked := none }) _
  jvm_step X₁.here [X₁.here.top, hexec, d3', Value.category]
  exact hsteps
/-- 'throw new E("text")': new; dup; ldc; invokespecial; athrow -/
theorem vx_throwS {cc : ByteArray} {pc : Nat} (hexec : p.tables.exec = Jvm.exec) (hb : c.code = cc) (hl : l.stackTraces = false) {own cls text : String} {names : List String} {ik is ic mc ms sa : Nat} {A : Nat → Prop}
    (hown : s.vm.findClass own = some m.cls) (hcls : Bundle.fit cls = true) (hnames : ∀ n ∈ names, Bundle.fit n = true)
    (hk : (Cond.classLink own ik cls).before args s = true) (hini : (Cond.initialized cls).before args s = true) (hstr : vk_R own is text sa s) (hat : ∀ w ∈ vx_atS own ic cls names, w.before args s = true)
    (hgood : ∀ w ∈ Cond.classLink own ik cls :: Cond.initialized cls :: vx_atS own ic cls names, vx_ot w = true)
    (hU : vx_Zq Bundle.tN "UNASSIGNED_STACK" Bundle.steD A s s.heap) (hN : vx_Zq Bundle.tN "SUPPRESSED_SENTINEL" Bundle.listD A s s.heap) (hS : va_S A s.heap H locs) (hsize : ls.size = c.maxLocals)
    (d0 : decode cc pc = .ok (.new ik, 3)) (d3 : decode cc (pc + 3) = .ok (.dup, 1)) (d4 : decode cc (pc + 4) = .ok (.ldc is, 2)) (d6 : decode cc (pc + 6) = .ok (.invokespecial ic, 3)) (d9 : decode cc (pc + 9) = .ok (.athrow, 1))
    (hout : ∀ x ∈ c.exceptionTable.toList, covers x (pc + 9) = false)
    (hRframes : names.length + 3 < R.frames) (hRlocals : (rest.map fun v => v.category).sum + (13 * (names.length + 1) + 43) ≤ R.locals) (hRcells : cells + 1 ≤ R.cells) (hRslots : slots + 6 ≤ R.slots) (hlocks : meth.locks = false)
    (hx : ∀ t : State, s.vm.Alike t.vm → H.size ≤ t.heap.size → (∀ q : Nat, q < H.size → t.heap[q]? = H[q]?) → XC cls s t)
    (hf : ∀ z ∈ locs, free z.base) (hc : cells + 1 ≤ mc) (hs : slots + 6 ≤ ms) :
    W p l e R s m args below meth c H locs cells slots (vx_MQ below Qc XC args s mc ms free) (F0 m pc ls rest) := by
  intro T hT X
  have htr : e.platform.stackTraces = false := (show e.platform.stackTraces = l.stackTraces by rw [X.admits.platform]).trans hl
  have Y := vx_rebase X (R' := { frames := R.frames, locals := R.locals, cells := 1, slots := 6 }) (Nat.le_refl _) (Nat.le_refl _) hRcells hRslots
  obtain ⟨s', hA⟩ : ∃ z, z = (T.setVm s.vm).setFrames (.invoking m args :: below) := ⟨_, rfl⟩
  rw [← hA] at Y
  have hvm : s'.vm = s.vm := by rw [hA]; rfl
  have hhp : s'.heap = H := by rw [hA]; exact hT
  have hW0 : s.WarmedH s'.vm := by rw [hvm]; exact State.WarmedH.refl s
  have hat' : ∀ w ∈ vx_atS own ic cls names, w.before args s' = true := fun w hw => vx_ot_at hW0 hvm.symm (hgood w (List.mem_cons_of_mem _ (List.mem_cons_of_mem _ hw))) (hat w hw)
  have hk' : (Cond.classLink own ik cls).before args s' = true := vx_ot_at hW0 hvm.symm (hgood _ List.mem_cons_self) hk
  have hini' : (Cond.initialized cls).before args s' = true := vx_ot_at hW0 hvm.symm (hgood _ (List.mem_cons_of_mem _ List.mem_cons_self)) hini
  have hU' : vx_Zq Bundle.tN "UNASSIGNED_STACK" Bundle.steD A s' s'.heap := by rw [hhp]; exact vx_Zq.moved hW0.alike (hU.kept hS.2.1)
  have hN' : vx_Zq Bundle.tN "SUPPRESSED_SENTINEL" Bundle.listD A s' s'.heap := by rw [hhp]; exact vx_Zq.moved hW0.alike (hN.kept hS.2.1)
  have h : ∀ w ∈ Bundle.ownAtoms own ic cls names, w.before args s' = true := vx_own hat' (vx_isRefq hU'.1) (vx_isRefq hN'.1) hU'.2.word hN'.2.word
  have hown' : s'.vm.findClass own = some m.cls := by rw [hvm]; exact hown
  have hins : (Cond.instantiable cls 6).before args s' = true := h _ (by simp [Bundle.ownAtoms])
  obtain ⟨vm₁, cX, kX, hfX, hkX, -, -, X₁, st1⟩ := Y.newCold hexec (own := own) (C := cls) (index := ik) (n := 6) hown' hk' hins hini'
    (g := F0 m pc ls rest) rfl (by rw [hb]; exact d0) (Nat.le_refl _) (Nat.le_refl _)
  generalize hT1 : (T.setVm vm₁).pushCell { cls := cX, slots := kX.instanceTypes.map defaultValue, vm := .none } = T1 at X₁ st1
  have hcat : (Value.ref T.heap.size).category = 1 := rfl
  have hcellA : T1.heap[T.heap.size]? = some (freshCell cX kX) := by rw [← hT1]; exact State.heap_pushCell_size _ _
  have d3' : decode c.code (pc + 3) = .ok (.dup, 1) := by rw [hb]; exact d3
  have d4' : decode c.code (pc + 4) = .ok (.ldc is, 2) := by rw [hb]; exact d4
  have hstr' : vk_R own is text sa s' := vk_R.warm hW0 hstr
  obtain ⟨U, hsteps, hrun, hend, hW, hsame, ce, hce, hO⟩ := X₁.ctorThrowS hexec htr (own := own) (cls := cls) (names := names) (ic := ic) hown' hcls hnames h (fun x hx => nomatch hx) hfX hkX hcellA (by rw [hhp, hT]; exact Nat.le_refl _) (msg := .ref sa) rfl
    (g := { method := m, pc := pc + 6, locals := ls, stack := .ref sa :: .ref T.heap.size :: .ref T.heap.size :: rest, locked := none }) rfl hsize rfl rfl (rest := rest) rfl
    (by rw [hb]; exact d6) (by rw [hb]; exact d9) hout hRframes (by simp only [List.map_cons, List.sum_cons, hcat]; omega) hlocks
  obtain ⟨f1, f2⟩ := vx_frame hsame
  rw [hhp] at f1 f2
  have hWs : s.WarmedH U.vm := State.WarmedH.trans hW0 hW
  have hcl : s.vm.findClass cls = some ce.cls := by
    have h9 := hO.cls
    rw [hvm] at h9
    exact h9
  have hall : s.sameButNew ({ U with vm := s.vm } : State) locs mc ms := by
    subst hA
    obtain ⟨e1, e2⟩ := hsame
    rw [State.setFrames_setFrames] at e1
    have h2 : (T.setVm s.vm).sameButNew ({ U with vm := s.vm } : State) [] (0 + 1) (0 + 6) := ⟨e1, e2⟩
    have h3 := X.same.trans h2
    rw [List.append_nil] at h3
    exact h3.mono hc hs
  refine ⟨U, ?_, .threw T.heap.size, hrun, hend, Or.inr ⟨T.heap.size, rfl, cls, ce, locs, hx U hWs.alike f1 (fun q hq => f2 q hq (fun z hz => nomatch hz)), hce, hO.vm, hcl, hWs, hall, hf⟩⟩
  refine st1 _ ?_
  show Steps p.tables e below (T1.setTop { method := m, pc := pc + 3, locals := ls, stack := .ref T.heap.size :: rest, locked := none }) _
  jvm_step X₁.here [X₁.here.top, hexec, d3', Value.category]
  exact X₁.ldcString hexec (own := own) (text := text) (index := is) (a := sa) hown' hstr'.1 hstr'.2
    (g := { method := m, pc := pc + 4, locals := ls, stack := .ref T.heap.size :: .ref T.heap.size :: rest, locked := none }) rfl d4' _ hsteps
/-- 'throw new E("text")', the text by a wide index -/
theorem vx_throwSW {cc : ByteArray} {pc : Nat} (hexec : p.tables.exec = Jvm.exec) (hb : c.code = cc) (hl : l.stackTraces = false) {own cls text : String} {names : List String} {ik is ic mc ms sa : Nat} {A : Nat → Prop}
    (hown : s.vm.findClass own = some m.cls) (hcls : Bundle.fit cls = true) (hnames : ∀ n ∈ names, Bundle.fit n = true)
    (hk : (Cond.classLink own ik cls).before args s = true) (hini : (Cond.initialized cls).before args s = true) (hstr : vk_R own is text sa s) (hat : ∀ w ∈ vx_atS own ic cls names, w.before args s = true)
    (hgood : ∀ w ∈ Cond.classLink own ik cls :: Cond.initialized cls :: vx_atS own ic cls names, vx_ot w = true)
    (hU : vx_Zq Bundle.tN "UNASSIGNED_STACK" Bundle.steD A s s.heap) (hN : vx_Zq Bundle.tN "SUPPRESSED_SENTINEL" Bundle.listD A s s.heap) (hS : va_S A s.heap H locs) (hsize : ls.size = c.maxLocals)
    (d0 : decode cc pc = .ok (.new ik, 3)) (d3 : decode cc (pc + 3) = .ok (.dup, 1)) (d4 : decode cc (pc + 4) = .ok (.ldc_w is, 3)) (d7 : decode cc (pc + 7) = .ok (.invokespecial ic, 3)) (d10 : decode cc (pc + 10) = .ok (.athrow, 1))
    (hout : ∀ x ∈ c.exceptionTable.toList, covers x (pc + 10) = false)
    (hRframes : names.length + 3 < R.frames) (hRlocals : (rest.map fun v => v.category).sum + (13 * (names.length + 1) + 43) ≤ R.locals) (hRcells : cells + 1 ≤ R.cells) (hRslots : slots + 6 ≤ R.slots) (hlocks : meth.locks = false)
    (hx : ∀ t : State, s.vm.Alike t.vm → H.size ≤ t.heap.size → (∀ q : Nat, q < H.size → t.heap[q]? = H[q]?) → XC cls s t)
    (hf : ∀ z ∈ locs, free z.base) (hc : cells + 1 ≤ mc) (hs : slots + 6 ≤ ms) :
    W p l e R s m args below meth c H locs cells slots (vx_MQ below Qc XC args s mc ms free) (F0 m pc ls rest) := by
  intro T hT X
  have htr : e.platform.stackTraces = false := (show e.platform.stackTraces = l.stackTraces by rw [X.admits.platform]).trans hl
  have Y := vx_rebase X (R' := { frames := R.frames, locals := R.locals, cells := 1, slots := 6 }) (Nat.le_refl _) (Nat.le_refl _) hRcells hRslots
  obtain ⟨s', hA⟩ : ∃ z, z = (T.setVm s.vm).setFrames (.invoking m args :: below) := ⟨_, rfl⟩
  rw [← hA] at Y
  have hvm : s'.vm = s.vm := by rw [hA]; rfl
  have hhp : s'.heap = H := by rw [hA]; exact hT
  have hW0 : s.WarmedH s'.vm := by rw [hvm]; exact State.WarmedH.refl s
  have hat' : ∀ w ∈ vx_atS own ic cls names, w.before args s' = true := fun w hw => vx_ot_at hW0 hvm.symm (hgood w (List.mem_cons_of_mem _ (List.mem_cons_of_mem _ hw))) (hat w hw)
  have hk' : (Cond.classLink own ik cls).before args s' = true := vx_ot_at hW0 hvm.symm (hgood _ List.mem_cons_self) hk
  have hini' : (Cond.initialized cls).before args s' = true := vx_ot_at hW0 hvm.symm (hgood _ (List.mem_cons_of_mem _ List.mem_cons_self)) hini
  have hU' : vx_Zq Bundle.tN "UNASSIGNED_STACK" Bundle.steD A s' s'.heap := by rw [hhp]; exact vx_Zq.moved hW0.alike (hU.kept hS.2.1)
  have hN' : vx_Zq Bundle.tN "SUPPRESSED_SENTINEL" Bundle.listD A s' s'.heap := by rw [hhp]; exact vx_Zq.moved hW0.alike (hN.kept hS.2.1)
  have h : ∀ w ∈ Bundle.ownAtoms own ic cls names, w.before args s' = true := vx_own hat' (vx_isRefq hU'.1) (vx_isRefq hN'.1) hU'.2.word hN'.2.word
  have hown' : s'.vm.findClass own = some m.cls := by rw [hvm]; exact hown
  have hins : (Cond.instantiable cls 6).before args s' = true := h _ (by simp [Bundle.ownAtoms])
  obtain ⟨vm₁, cX, kX, hfX, hkX, -, -, X₁, st1⟩ := Y.newCold hexec (own := own) (C := cls) (index := ik) (n := 6) hown' hk' hins hini'
    (g := F0 m pc ls rest) rfl (by rw [hb]; exact d0) (Nat.le_refl _) (Nat.le_refl _)
  generalize hT1 : (T.setVm vm₁).pushCell { cls := cX, slots := kX.instanceTypes.map defaultValue, vm := .none } = T1 at X₁ st1
  have hcat : (Value.ref T.heap.size).category = 1 := rfl
  have hcellA : T1.heap[T.heap.size]? = some (freshCell cX kX) := by rw [← hT1]; exact State.heap_pushCell_size _ _
  have d3' : decode c.code (pc + 3) = .ok (.dup, 1) := by rw [hb]; exact d3
  have d4' : decode c.code (pc + 4) = .ok (.ldc_w is, 3) := by rw [hb]; exact d4
  have hstr' : vk_R own is text sa s' := vk_R.warm hW0 hstr
  obtain ⟨U, hsteps, hrun, hend, hW, hsame, ce, hce, hO⟩ := X₁.ctorThrowS hexec htr (own := own) (cls := cls) (names := names) (ic := ic) hown' hcls hnames h (fun x hx => nomatch hx) hfX hkX hcellA (by rw [hhp, hT]; exact Nat.le_refl _) (msg := .ref sa) rfl
    (g := { method := m, pc := pc + 7, locals := ls, stack := .ref sa :: .ref T.heap.size :: .ref T.heap.size :: rest, locked := none }) rfl hsize rfl rfl (rest := rest) rfl
    (by rw [hb]; exact d7) (by rw [hb]; exact d10) hout hRframes (by simp only [List.map_cons, List.sum_cons, hcat]; omega) hlocks
  obtain ⟨f1, f2⟩ := vx_frame hsame
  rw [hhp] at f1 f2
  have hWs : s.WarmedH U.vm := State.WarmedH.trans hW0 hW
  have hcl : s.vm.findClass cls = some ce.cls := by
    have h9 := hO.cls
    rw [hvm] at h9
    exact h9
  have hall : s.sameButNew ({ U with vm := s.vm } : State) locs mc ms := by
    subst hA
    obtain ⟨e1, e2⟩ := hsame
    rw [State.setFrames_setFrames] at e1
    have h2 : (T.setVm s.vm).sameButNew ({ U with vm := s.vm } : State) [] (0 + 1) (0 + 6) := ⟨e1, e2⟩
    have h3 := X.same.trans h2
    rw [List.append_nil] at h3
    exact h3.mono hc hs
  refine ⟨U, ?_, .threw T.heap.size, hrun, hend, Or.inr ⟨T.heap.size, rfl, cls, ce, locs, hx U hWs.alike f1 (fun q hq => f2 q hq (fun z hz => nomatch hz)), hce, hO.vm, hcl, hWs, hall, hf⟩⟩
  refine st1 _ ?_
  show Steps p.tables e below (T1.setTop { method := m, pc := pc + 3, locals := ls, stack := .ref T.heap.size :: rest, locked := none }) _
  jvm_step X₁.here [X₁.here.top, hexec, d3', Value.category]
  exact X₁.ldcStringW hexec (own := own) (text := text) (index := is) (a := sa) hown' hstr'.1 hstr'.2
    (g := { method := m, pc := pc + 4, locals := ls, stack := .ref T.heap.size :: .ref T.heap.size :: rest, locked := none }) rfl d4' _ hsteps
end Ends
section Bodies
variable {l : Launch}
theorem vx_ofW {y : MethodName} {ws ws' : List Cond} {rm : Room} {Pc : Array Value → State → Prop} {Qc : Array Value → State → Outcome → State → Prop} {XC : String → State → State → Prop} {mc ms : Nat} {free : Addr → Prop} {cc : ByteArray} {maxL : Nat} {ret : Option FieldType}
    (hy : plainName y.cls = true) (hw : ws = Cond.code y cc maxL ret :: ws')
    (body : ∀ p e s m args below meth c s₁, BodyLoose p l y (headSpec ws rm) cc maxL ret e s m args below meth c s₁ → c.maxLocals = maxL → (∀ x ∈ c.exceptionTable.toList, False) → Pc args s →
      W p l e (headSpec ws rm).room s m args below meth c s.heap [] 0 0 (vx_MQ below Qc XC args s mc ms free) (entryFrame m args maxL)) : vx_Met l y ws rm Pc Qc XC mc ms free := by
  refine MetFree.of_bodyS (code := cc) (maxLocals := maxL) (ret := ret) hy ?_ ?_
  · intro args s m h hn
    obtain ⟨meth, c, h1, h2, h3, h4, h5, h6, -, -⟩ := Cond.code_spec hn (atoms_spec (ws := ws) h _ (by rw [hw]; exact List.mem_cons_self))
    exact ⟨meth, c, h1, h2, h3, h4, h5, h6⟩
  · intro p e s m args below meth c s₁ B hml hP _
    have hh0 : s₁.heap = s.heap := by rw [B.state]; rfl
    have ht : ∀ x ∈ c.exceptionTable.toList, False := by
      obtain ⟨meth9, c9, h1, h2, -, -, -, -, h7, -⟩ := Cond.code_spec B.named (atoms_spec (ws := ws) B.pre _ (by rw [hw]; exact List.mem_cons_self))
      cases Option.some.inj (h1.symm.trans B.method)
      cases Option.some.inj (h2.symm.trans (Stand.of_body B).code)
      intro x hx
      rw [Array.isEmpty_iff.mp h7] at hx
      cases hx
    obtain ⟨t, a1, o, b1, b2, b3⟩ := body p e s m args below meth c s₁ B hml ht hP s₁ hh0 (Stand.of_body B)
    exact ⟨t, o, a1, b1, b2, b3⟩
/-- the table of a body with handlers -/
theorem vx_table {p : Program} {x y : MethodName} {S : Spec} {cc bytes : ByteArray} {maxL maxL' : Nat} {ret ret' : Option FieldType} {e : Env} {s s₁ : State} {m : MethodId} {args : Array Value} {below : List Frame} {meth : Method} {c : Code} {hh : List (Nat × Nat × Nat × Nat)}
    (B : BodyLoose p l y S cc maxL ret e s m args below meth c s₁) (h : (Cond.codeWith y bytes maxL' ret' hh).before args s = true) : c.exceptionTable.toList = tableOf hh := by
  obtain ⟨m9, meth9, c9, hn9, h1, h2, -, -, h6, -⟩ := Cond.codeWith_spec h
  cases Option.some.inj (hn9.symm.trans B.named)
  cases Option.some.inj (h1.symm.trans B.method)
  cases Option.some.inj (h2.symm.trans (Stand.of_body B).code)
  rw [← h6, table_eq]
end Bodies
end VXA
/-! ===== END ===== -/
/-! ===== BEGIN a static call of a method with an exception table ===== -/
section VXS
variable {p : Program} {l : Launch} {e : Env} {R : Room} {s : State} {m : MethodId} {args : Array Value} {below : List Frame} {meth : Method} {c : Code} {T : State} {H : Heap} {locs : List Loc} {cells slots : Nat}
abbrev vx_CSW (R : Room) (s : State) (args : Array Value) (own : String) (index : Nat) (y : MethodName) (bytes : ByteArray) (maxL : Nat) (ret : Option FieldType) (hh : List (Nat × Nat × Nat × Nat)) (ws : List Cond) (rm : Room) (mc ms n : Nat) : Prop :=
  (rm.cells = mc ∧ rm.slots = ms ∧ rm.frames + 1 ≤ R.frames ∧ 8 + (maxL + 11) + rm.locals ≤ R.locals ∧ (∀ w ∈ ws, ∀ (a' : Array Value) (U : State), s.WarmedH U.vm → w.before a' U = true) ∧ Cond.codeWith y bytes maxL ret hh ∈ ws) ∧
  (Cond.codeWith y bytes maxL ret hh).before args s = true ∧ (Cond.initialized y.cls).before args s = true ∧ (y.cls ≠ "java/lang/invoke/MethodHandle" ∧ y.cls ≠ "java/lang/invoke/VarHandle") ∧
  (∀ sig, parseMethodDescriptor y.desc = some sig → n = sig.parameters.length) ∧ (Cond.methodLink own index y).before args s = true ∧ (Cond.static y).before args s = true
theorem vx_cwSW {own : String} {index maxL mc ms : Nat} {y : MethodName} {bytes : ByteArray} {ret : Option FieldType} {hh : List (Nat × Nat × Nat × Nat)} {Ts ws ws' : List Cond} {rm : Room} (n : Nat) (ht : ∀ w ∈ Ts, w.before args s = true) (hT : GoodIn Ts (va_wsS own index y ws)) (hw : ws = Cond.codeWith y bytes maxL ret hh :: ws') (hrc : rm.cells = mc) (hrs : rm.slots = ms)
    (hd : y.cls ≠ "java/lang/invoke/MethodHandle" ∧ y.cls ≠ "java/lang/invoke/VarHandle" ∧ (parseMethodDescriptor y.desc).map (fun d => d.parameters.length) = some n) (hR : rm.frames + 1 ≤ R.frames ∧ 8 + (maxL + 11) + rm.locals ≤ R.locals) :
    vx_CSW R s args own index y bytes maxL ret hh ws rm mc ms n := by
  have ok : ∀ w ∈ va_wsS own index y ws, w.before args s = true := fun w h => ht w (hT w h).1
  have hG : GoodIn Ts ws := fun w h => hT w (by unfold va_wsS; exact List.mem_append_right _ h)
  have hc : Cond.codeWith y bytes maxL ret hh ∈ ws := by rw [hw]; exact List.mem_cons_self
  refine ⟨⟨hrc, hrs, hR.1, hR.2, pay_in ht hG, hc⟩, ht _ (hG _ hc).1, ok _ (by simp [va_wsS]), ⟨hd.1, hd.2.1⟩, fun sig h => ?_, ok _ (by simp [va_wsS]), ok _ (by simp [va_wsS])⟩
  have h2 := hd.2.2
  rw [h] at h2
  exact (Option.some.inj h2).symm
theorem vx_callSW (X : Stand p l e R s m args below meth c T locs cells slots) (hexec : p.tables.exec = Jvm.exec) {own : String} {index : Nat} {y : MethodName} {bytes : ByteArray} {maxL : Nat} {ret : Option FieldType} {hh : List (Nat × Nat × Nat × Nat)}
    (hown : s.vm.findClass own = some m.cls) (hlink : (Cond.methodLink own index y).before args s = true) (hstat : (Cond.static y).before args s = true) (hinit : (Cond.initialized y.cls).before args s = true)
    (hcode : (Cond.codeWith y bytes maxL ret hh).before args s = true) (hy : y.cls ≠ "java/lang/invoke/MethodHandle" ∧ y.cls ≠ "java/lang/invoke/VarHandle")
    {W9 : Nat} {Pre : Pt → Array Value → Prop} {Post : Pt → Array Value → Option Value → Pt → Prop} (hK : Back l R p e below s args y 3 W9 Pre Post)
    {g : JFrame} (hg : g.method = m) (hsize : g.locals.size = c.maxLocals) {argsL rest : List Value} (hlen : ∀ sig, parseMethodDescriptor y.desc = some sig → argsL.length = sig.parameters.length)
    (hstack : g.stack = argsL.reverse ++ rest) (hW : 2 * g.monitorRoom + (rest.map fun v => v.category).sum ≤ W9) (hdg : decode c.code g.pc = .ok (.invokestatic index, 3))
    (hpre : ∀ vm₁, s.WarmedH vm₁ → Pre ⟨T.setVm vm₁, locs, cells, slots⟩ argsL.toArray) :
    ∃ (v : Option Value) (vm₁ : Vm) (B : Pt), s.WarmedH vm₁ ∧ Stand p l e R s m args below meth c B.U B.locs B.cells B.slots ∧ Post ⟨T.setVm vm₁, locs, cells, slots⟩ argsL.toArray v B ∧
      ∀ target, Steps p.tables e below (B.U.setTop { g with pc := g.pc + 3, stack := v.toList ++ rest }) target → Steps p.tables e below (T.setTop g) target := by
  obtain ⟨mk, methM, cM, hnamed, hmethM, -, -, -, -, -, -, hsigM⟩ := Cond.codeWith_spec hcode
  have hstatic : methM.isStatic = true := Cond.static_spec hnamed hmethM hstat
  obtain ⟨kP, hkP, -⟩ := className_of_methodNamed hnamed
  have hinitP : kP.init = .initialized := Cond.initialized_spec (findClass_of_methodNamed hnamed) hkP hinit
  obtain ⟨vm₁, X₁, hstep₁⟩ := X.invokestatic hexec hown hlink hnamed hmethM hstatic hkP hinitP hy (g := g) hg (argsL := argsL) (rest := rest) (hlen _ hsigM) hstack hdg
  obtain ⟨v, B, X', hpost, hsteps⟩ := hK m meth c ⟨T.setVm vm₁, locs, cells, slots⟩ { g with stack := rest } (.invokestatic index) mk argsL.toArray X₁ hg hsize hdg hW (X₁.named hnamed) (hpre vm₁ X₁.warmed)
  exact ⟨v, vm₁, B, X₁.warmed, X', hpost, fun target h => hstep₁ _ fun acts => by rw [doInvoke_state]; exact hsteps.trans h⟩
theorem vx_runSW {y : MethodName} {bytes cc : ByteArray} {maxL nL mc ms n index : Nat} {ret : Option FieldType} {hh : List (Nat × Nat × Nat × Nat)} {ws : List Cond} {rm : Room} {Pc : Array Value → State → Prop} {Qc : Array Value → State → Outcome → State → Prop} {free : Addr → Prop} {Ts : List Cond} {own : String} {As rest : List Value} {g : JFrame}
    (S : CallFix p m c cc nL s args Ts own) (hM : Met l y ws rm Pc Qc mc ms free) (cw : vx_CSW R s args own index y bytes maxL ret hh ws rm mc ms n) (hp : PreS s H Pc As)
    (hg : g.method = m) (hn : As.length = n) (hsize : g.locals.size = nL) (hstack : g.stack = As.reverse ++ rest) (hW : 2 * g.monitorRoom + (rest.map fun v => v.category).sum ≤ 8) (hdg : decode cc g.pc = .ok (.invokestatic index, 3)) (hf : cells + mc ≤ R.cells ∧ slots + ms ≤ R.slots) :
    va_Run p l e R s m args below meth c H locs cells slots mc ms g rest (Qc As.toArray) (free) := by
  obtain ⟨⟨hrc, hrs, hfr, hlo, hws, hcw⟩, hcode, hini, hy, hlen, hl, hstt⟩ := cw
  have hK : Back l R p e below s args y 3 8 (PreOf R mc ms Pc) (PostOf Qc mc ms free) := va_backW (hh := hh) (bytes := bytes) (maxL := maxL) (ret := ret) hM hp.1 hrc hrs hfr hlo hws hcw (fun a' U hW => word_at hW (Or.inl (by first | rfl | simp [Cond.onTables, Cond.keeps, Cond.steady])) hini)
  obtain ⟨hx, hb, hml, ho, -⟩ := S
  intro T hT X
  obtain ⟨v, vm₁, ⟨U', l2, c2, s2⟩, hW₁, X', ⟨g', mk, t, L, e1, e2, hq, h1, hL, h2, h3⟩, st⟩ := vx_callSW X hx (hh := hh) (bytes := bytes) (maxL := maxL) (ret := ret) ho hl hstt hini hcode hy hK hg (hsize.trans hml.symm) (argsL := As) (rest := rest) (fun sig h => hn.trans (hlen sig h)) hstack hW (by rw [hb]; exact hdg)
    (fun vm₁ hW₁ => ⟨hf.1, hf.2, hp.2 (T.setVm vm₁) hT hW₁⟩)
  dsimp only [Pt.U, Pt.locs, Pt.cells, Pt.slots] at X' e1 e2 h1 h2 h3 st
  subst h1; subst h2; subst h3
  exact ⟨v, (T.setVm vm₁).calling g' mk As.toArray, t, U', L, hT, X', hL, e1, e2, hq, st⟩
/-- not caught here, past rows that name other classes: it goes on to the caller -/
theorem vx_outP {p : Program} {l : Launch} {e : Env} {R : Room} {s : State} {m : MethodId} {args : Array Value} {below : List Frame} {meth : Method} {c : Code} {H : Heap} {locs : List Loc} {cells slots : Nat} {free : Addr → Prop} {ls : Array Slot} {rest : List Value} {Qc : Array Value → State → Outcome → State → Prop} {XC : String → State → State → Prop}
    {pc : Nat} {own E : String} {ce : Cell} {q : Addr} {mc ms : Nat} (hown : s.vm.findClass own = some m.cls) (hlocks : meth.locks = false)
    (hpass : ∀ z ∈ c.exceptionTable.toList, covers z pc = false ∨ (z.catchType ≠ 0 ∧ ∃ nm : String, (Cond.classLink own z.catchType nm).before args s = true ∧ va_Nc E nm s)) (hcell : H[q]? = some ce) (hv : ce.vm = .none) (hcl : s.vm.findClass E = some ce.cls)
    (hx : ∀ t : State, t.heap = H → s.vm.Alike t.vm → XC E s t) (hf : ∀ z ∈ locs, free z.base) (hc : cells ≤ mc) (hs : slots ≤ ms) :
    vx_W p l e R s m args below meth c H locs cells slots (vx_MQ below Qc XC args s mc ms free) (F0 m pc ls rest) q := by
  intro T hT X
  have hpl : e.platform.magicAccessors = ({} : Platform).magicAccessors := by rw [X.admits.platform]
  obtain ⟨vm', hW', X', st⟩ := X.outThrough hlocks q (g := F0 m pc ls rest) rfl rfl rfl (cell := ce) (by rw [hT]; exact hcell) (by rw [hv]; rfl)
    (by obtain ⟨k9, h9, -⟩ := Vm.findClass_spec hcl; exact ⟨k9, h9⟩) (fun z hz => by
      rcases hpass z hz with h | ⟨hz0, nm, hl1, hn1⟩
      · exact Or.inl h
      · obtain ⟨c6, hc6, hcl6⟩ := Cond.classLink_spec hown hl1 e.platform hpl
        obtain ⟨a8, b8, h1, h2, h3⟩ := hn1
        cases Option.some.inj (h1.symm.trans hcl)
        cases Option.some.inj (h2.symm.trans hc6)
        exact Or.inr ⟨hz0, _, hcl6, h3⟩)
  obtain ⟨g₀, hfr⟩ := X'.frames_eq
  have hcell9 : ((T.setVm vm').setFrames (.throwing q :: below)).heap[q]? = some ce := by
    show T.heap[q]? = some ce
    rw [hT]; exact hcell
  have hend : Ended ((T.setVm vm').setFrames (.throwing q :: below)) below (.threw q) := State.frames_setFrames _ (State.cur_lt_of_frames hfr)
  refine ⟨(T.setVm vm').setFrames (.throwing q :: below), ?_, .threw q, X'.here.running, hend, Or.inr ⟨q, rfl, E, ce, locs, hx _ hT (X'.ends _).1.alike, hcell9, hv, hcl, (X'.ends _).1, (X'.ends _).2.mono hc hs, hf⟩⟩
  rw [X.pushThrowing_eq]
  exact st
/-- a thing of a world lies in the heap -/
theorem vx_lt {D : va_G} {cl : List vw_C} {ws : va_W} {H1 : Heap} (h : va_P D cl ws H1) {k : Nat} {q : Nat × va_E} (hk : ws[k]? = some q) : q.1 < H1.size := (h k q hk).lt
end VXS
/-! ===== END ===== -/
/-! ===== BEGIN methods with a table of their own: called by a name, returning or throwing ===== -/
section VXH
/-! vx_backW, vx_callVX, vx_callSX, vx_callVW, vx_runVW, vx_runVX, vx_runSX, vx_ofWH follow the same proofs as their sisters above (Free/Laws.lean, Shelf42/LK1.lean); vx_outP calls Shelf42/NT130.lean (outThrough). -/
section
variable {l : Launch} {R : Room} {p : Program} {e : Env} {below : List Frame} {s : State} {sargs : Array Value} {y : MethodName} {len W9 : Nat}
theorem vx_backW {ws : List Cond} {rm : Room} {Pc : Array Value → State → Prop} {Qc : Array Value → State → Outcome → State → Prop} {XC : String → State → State → Prop} {mc ms : Nat} {free : Addr → Prop} {bytes : ByteArray} {maxL : Nat} {ret : Option FieldType} {hh : List (Nat × Nat × Nat × Nat)}
    (hM : vx_Met l y ws rm Pc Qc XC mc ms free) (hblind : FrameBlind Pc) (hrc : rm.cells = mc) (hrs : rm.slots = ms)
    (hframes : rm.frames + 1 ≤ R.frames) (hlocals : W9 + (maxL + 11) + rm.locals ≤ R.locals)
    (hws : ∀ w ∈ ws, ∀ a' U, s.WarmedH U.vm → w.before a' U = true) (hcode : Cond.codeWith y bytes maxL ret hh ∈ ws) (hinit : ∀ a' U, s.WarmedH U.vm → (Cond.initialized y.cls).before a' U = true) :
    vx_Back l R p e below s sargs y len W9 (PreOf R mc ms Pc) (PostOf Qc mc ms free) (vx_Post XC mc ms free) := by
  intro m meth c A g ig mk a X hg hsize hdg hW hn hp
  have h1 : (headSpec ws rm).pre.before a A.U = true := atoms_intro fun w hw => hws w hw _ _ X.warmed
  have h2 : (Cond.codeWith y bytes maxL ret hh).before a A.U = true := hws _ hcode _ _ X.warmed
  have h3 : (Cond.initialized y.cls).before a A.U = true := hinit _ _ X.warmed
  have h4 : A.cells + (headSpec ws rm).room.cells ≤ R.cells := by rw [show (headSpec ws rm).room.cells = mc from hrc]; exact hp.1
  have h5 : A.slots + (headSpec ws rm).room.slots ≤ R.slots := by rw [show (headSpec ws rm).room.slots = ms from hrs]; exact hp.2.1
  have hPc : Pc a (A.U.calling g mk a) := hblind _ _ _ _ hp.2.2
  obtain ⟨U, Ls, c0, s0⟩ := A
  dsimp only [Pt.U, Pt.locs, Pt.cells, Pt.slots] at h1 h2 h3 h4 h5 X hn hPc ⊢
  obtain ⟨m9, methY, cY, hn9, hmY, hcY, -, hlY, -⟩ := Cond.codeWith_spec h2
  cases Option.some.inj (hn9.symm.trans hn)
  obtain ⟨kY, hkY, -⟩ := className_of_methodNamed hn
  have hinitY : kY.init = .initialized := Cond.initialized_spec (findClass_of_methodNamed hn) hkY h3
  have h : At U g.method c below := by rw [hg]; exact X.here
  have hlocals9 : W9 + (maxL + 11) + (headSpec ws rm).room.locals ≤ R.locals := hlocals
  have happ : (headSpec ws rm).appliesLoose y e.platform (U.calling g mk a) = true :=
    Spec.appliesLoose_calling (g := g) h hdg hn hkY hinitY
      (X.room_calling (g := g) (R' := (headSpec ws rm).room) hsize hmY hcY hframes (by rw [hlY]; omega) h4 h5) h1
  obtain ⟨mid, hmid⟩ := h.above
  have hfr : (U.setTop g).frames = (.java g :: mid) ++ below := by rw [State.frames_setTop' g h.top, hmid]; rfl
  obtain ⟨o, s₂, hsteps, -, hend, hq⟩ := Steps.callFree hM p X.admits X.cas X.clock (acts := []) hfr happ hPc trivial
  have hq' : vx_Q Qc XC mc ms free a (U.calling g mk a) o s₂ := hq
  rw [State.frames_setTop' g h.top] at hend
  obtain ⟨g₀, hg0⟩ := Option.isSome_iff_exists.mp h.top
  obtain ⟨r, hr⟩ := State.topJava?_eq_some.mp hg0
  have hr' : (({ U with heap := s₂.heap, slotsUsed := s₂.slotsUsed } : State).setVm s₂.vm).frames = .java g₀ :: r := hr
  rcases hq' with ⟨hqc, L, hfe, hL⟩ | ⟨q, rfl, E, ce, L, hx, hce, hcv, hcl, hW₂, hsm, hL⟩
  · obtain ⟨⟨v, rfl⟩, hW₂, e2, q2, q3, q4, q5, q6⟩ := id hfe
    have e3 : s₂ = ({ (U.calling g mk a).setFrames s₂.frames with heap := s₂.heap, slotsUsed := s₂.slotsUsed } : State).setVm s₂.vm := by
      have : s₂ = ({ s₂ with vm := (U.calling g mk a).vm } : State).setVm s₂.vm := rfl
      rw [e2] at this
      exact this
    obtain ⟨c₂, i₂, len₂, hc₂, hd₂, hf₂⟩ := hend
    have hW' : U.WarmedH s₂.vm := hW₂
    have hcc : c₂ = c := by
      have h1 : s₂.code? g.method = U.code? g.method := by
        rw [State.code?_eq, State.code?_eq, hW'.alike.method?]
      exact Option.some.inj (hc₂.symm.trans (h1.trans h.code))
    subst hcc
    have hlen : len₂ = len := by rw [hdg] at hd₂; cases hd₂; rfl
    subst hlen
    have hs₂ : s₂ = (({ U with heap := s₂.heap, slotsUsed := s₂.slotsUsed } : State).setVm s₂.vm).setTop { g with pc := g.pc + len₂, stack := v.toList ++ g.stack } := by
      refine e3.trans ?_
      rw [hf₂, State.calling_eq h.top, State.setFrames_setFrames, State.setTop_of_frames _ hr', hr]
      rfl
    have hsame : U.sameButNew ({ U with heap := s₂.heap, slotsUsed := s₂.slotsUsed } : State) L mc ms := by
      refine ⟨?_, q2, q3, q4, q5, q6⟩
      obtain ⟨t, ht, -⟩ := State.frames_cons hr
      show ({ U with heap := s₂.heap, slotsUsed := s₂.slotsUsed } : State) = { U.setFrames U.frames with heap := s₂.heap, slotsUsed := s₂.slotsUsed }
      rw [State.setFrames_self ht]
    subst hg
    refine Or.inl ⟨v, ⟨(({ U with heap := s₂.heap, slotsUsed := s₂.slotsUsed } : State).setVm s₂.vm), Ls ++ L, c0 + mc, s0 + ms⟩,
      ⟨X.admits, X.cas, X.clock, X.frames, X.room, X.hears, X.method, X.code, (X.here.setHeapUsed s₂.heap s₂.slotsUsed).setVm hW'.alike, X.tail, State.WarmedH.trans X.warmed hW', X.limits, X.bytes, X.same.trans (hsame.setVm s.vm)⟩,
      ⟨g, mk, s₂, L, rfl, rfl, hqc, rfl, hL, rfl, rfl⟩, ?_⟩
    show Steps p.tables e below _ ((({ U with heap := s₂.heap, slotsUsed := s₂.slotsUsed } : State).setVm s₂.vm).setTop { g with pc := g.pc + len₂, stack := v.toList ++ g.stack })
    rw [← hs₂]
    exact hsteps
  · obtain ⟨e2, q2, q3, q4, q5, q6⟩ := id hsm
    have e3 : s₂ = ({ (U.calling g mk a).setFrames s₂.frames with heap := s₂.heap, slotsUsed := s₂.slotsUsed } : State).setVm s₂.vm := by
      have : s₂ = ({ s₂ with vm := (U.calling g mk a).vm } : State).setVm s₂.vm := rfl
      rw [e2] at this
      exact this
    have hf₂ : s₂.frames = .throwing q :: .java g :: U.frames.tail := hend
    have hW' : U.WarmedH s₂.vm := hW₂
    have hs₂ : s₂ = ((({ U with heap := s₂.heap, slotsUsed := s₂.slotsUsed } : State).setVm s₂.vm).setTop g).pushFrame (.throwing q) := by
      refine e3.trans ?_
      rw [hf₂, State.calling_eq h.top, State.setFrames_setFrames, State.pushFrame, State.frames_setTop _ hr', State.setTop_of_frames _ hr', State.setFrames_setFrames, hr]
      rfl
    have hsame : U.sameButNew ({ U with heap := s₂.heap, slotsUsed := s₂.slotsUsed } : State) L mc ms := by
      refine ⟨?_, q2, q3, q4, q5, q6⟩
      obtain ⟨t, ht, -⟩ := State.frames_cons hr
      show ({ U with heap := s₂.heap, slotsUsed := s₂.slotsUsed } : State) = { U.setFrames U.frames with heap := s₂.heap, slotsUsed := s₂.slotsUsed }
      rw [State.setFrames_self ht]
    subst hg
    refine Or.inr ⟨q, ⟨(({ U with heap := s₂.heap, slotsUsed := s₂.slotsUsed } : State).setVm s₂.vm), Ls ++ L, c0 + mc, s0 + ms⟩,
      ⟨X.admits, X.cas, X.clock, X.frames, X.room, X.hears, X.method, X.code, (X.here.setHeapUsed s₂.heap s₂.slotsUsed).setVm hW'.alike, X.tail, State.WarmedH.trans X.warmed hW', X.limits, X.bytes, X.same.trans (hsame.setVm s.vm)⟩,
      ⟨g, mk, s₂, L, E, ce, rfl, rfl, hx, hce, hcv, hcl, rfl, hL, rfl, rfl⟩, ?_⟩
    show Steps p.tables e below _ (((({ U with heap := s₂.heap, slotsUsed := s₂.slotsUsed } : State).setVm s₂.vm).setTop g).pushFrame (.throwing q))
    rw [← hs₂]
    exact hsteps
end
variable {p : Program} {l : Launch} {e : Env} {R : Room} {s : State} {m : MethodId} {args : Array Value} {below : List Frame} {meth : Method} {c : Code} {T : State} {H : Heap} {locs : List Loc} {cells slots : Nat}
theorem vx_callVX (X : Stand p l e R s m args below meth c T locs cells slots) (hexec : p.tables.exec = Jvm.exec) {own C : String} {index : Nat} {y : MethodName} {bytes : ByteArray} {maxL : Nat} {ret : Option FieldType} {hh : List (Nat × Nat × Nat × Nat)}
    (hown : s.vm.findClass own = some m.cls) (hlink : (Cond.methodLink own index y).before args s = true) (hinst : (Cond.instanceMethod y).before args s = true) (hsel : (Cond.selects C y y).before args s = true)
    (hcode : (Cond.codeWith y bytes maxL ret hh).before args s = true) (hy : y.cls ≠ "java/lang/invoke/MethodHandle" ∧ y.cls ≠ "java/lang/invoke/VarHandle")
    {W9 : Nat} {Pre : Pt → Array Value → Prop} {Post : Pt → Array Value → Option Value → Pt → Prop} {PostX : Pt → Array Value → Addr → Pt → Prop} (hK : vx_Back l R p e below s args y 3 W9 Pre Post PostX)
    {b : Addr} {cellB : Cell} (hcell : T.heap[b]? = some cellB) (hobj : cellB.vm.isStatics = false) (hcls : s.vm.findClass C = some cellB.cls)
    {g : JFrame} (hg : g.method = m) (hsize : g.locals.size = c.maxLocals) {argsL rest : List Value} (hlen : ∀ sig, parseMethodDescriptor y.desc = some sig → argsL.length = sig.parameters.length)
    (hstack : g.stack = argsL.reverse ++ .ref b :: rest) (hW : 2 * g.monitorRoom + (rest.map fun v => v.category).sum ≤ W9) (hdg : decode c.code g.pc = .ok (.invokevirtual index, 3))
    (hpre : ∀ vm₁, s.WarmedH vm₁ → Pre ⟨T.setVm vm₁, locs, cells, slots⟩ (Value.ref b :: argsL).toArray) :
    (∃ (v : Option Value) (vm₁ : Vm) (B : Pt), s.WarmedH vm₁ ∧ Stand p l e R s m args below meth c B.U B.locs B.cells B.slots ∧ Post ⟨T.setVm vm₁, locs, cells, slots⟩ (Value.ref b :: argsL).toArray v B ∧
      ∀ target, Steps p.tables e below (B.U.setTop { g with pc := g.pc + 3, stack := v.toList ++ rest }) target → Steps p.tables e below (T.setTop g) target) ∨
    (∃ (q : Addr) (vm₁ : Vm) (B : Pt), s.WarmedH vm₁ ∧ Stand p l e R s m args below meth c B.U B.locs B.cells B.slots ∧ PostX ⟨T.setVm vm₁, locs, cells, slots⟩ (Value.ref b :: argsL).toArray q B ∧
      Steps p.tables e below (T.setTop g) ((B.U.setTop { g with stack := rest }).pushFrame (.throwing q))) := by
  obtain ⟨mk, methM, hnamed, hmethM, hstM, habM⟩ := Cond.instanceMethod_spec hinst
  obtain ⟨m8, methM', cM, hn8, hmethM', -, -, -, -, -, -, hsigM⟩ := Cond.codeWith_spec hcode
  cases Option.some.inj (hn8.symm.trans hnamed)
  cases hmethM.symm.trans hmethM'
  obtain ⟨c2, r2, m2, q1, q2, q3, q4, kP, hkP, hkPi⟩ := Cond.selects_spec hsel
  cases hcls.symm.trans q1
  cases (State.methodFound?_of_named hnamed hy).symm.trans q2
  cases hnamed.symm.trans q3
  have hselP : selectMethod e.platform s.vm cellB.cls mk = .method mk := by rw [Launch.admits_selectMethod X.admits]; exact q4
  obtain ⟨vm₁, X₁, hstep₁⟩ := X.invokevirtual hexec hown hlink hnamed hmethM hstM hkP hkPi hy (a := b) (cell := cellB) hcell
    (fun z h => by rw [h] at hobj; cases hobj) hselP hmethM habM hkP hkPi (g := g) hg (argsL := argsL) (rest := rest) (hlen _ hsigM) hstack hdg
  rcases hK m meth c ⟨T.setVm vm₁, locs, cells, slots⟩ { g with stack := rest } (.invokevirtual index) mk (Value.ref b :: argsL).toArray X₁ hg hsize hdg hW (X₁.named hnamed) (hpre vm₁ X₁.warmed) with ⟨v, B, X', hpost, hsteps⟩ | ⟨q, B, X', hpost, hsteps⟩
  · exact Or.inl ⟨v, vm₁, B, X₁.warmed, X', hpost, fun target h => hstep₁ _ fun acts => by rw [doInvoke_state]; exact hsteps.trans h⟩
  · exact Or.inr ⟨q, vm₁, B, X₁.warmed, X', hpost, hstep₁ _ fun acts => by rw [doInvoke_state]; exact hsteps⟩
theorem vx_callSX (X : Stand p l e R s m args below meth c T locs cells slots) (hexec : p.tables.exec = Jvm.exec) {own : String} {index : Nat} {y : MethodName} {bytes : ByteArray} {maxL : Nat} {ret : Option FieldType} {hh : List (Nat × Nat × Nat × Nat)}
    (hown : s.vm.findClass own = some m.cls) (hlink : (Cond.methodLink own index y).before args s = true) (hstat : (Cond.static y).before args s = true) (hinit : (Cond.initialized y.cls).before args s = true)
    (hcode : (Cond.codeWith y bytes maxL ret hh).before args s = true) (hy : y.cls ≠ "java/lang/invoke/MethodHandle" ∧ y.cls ≠ "java/lang/invoke/VarHandle")
    {W9 : Nat} {Pre : Pt → Array Value → Prop} {Post : Pt → Array Value → Option Value → Pt → Prop} {PostX : Pt → Array Value → Addr → Pt → Prop} (hK : vx_Back l R p e below s args y 3 W9 Pre Post PostX)
    {g : JFrame} (hg : g.method = m) (hsize : g.locals.size = c.maxLocals) {argsL rest : List Value} (hlen : ∀ sig, parseMethodDescriptor y.desc = some sig → argsL.length = sig.parameters.length)
    (hstack : g.stack = argsL.reverse ++ rest) (hW : 2 * g.monitorRoom + (rest.map fun v => v.category).sum ≤ W9) (hdg : decode c.code g.pc = .ok (.invokestatic index, 3))
    (hpre : ∀ vm₁, s.WarmedH vm₁ → Pre ⟨T.setVm vm₁, locs, cells, slots⟩ argsL.toArray) :
    (∃ (v : Option Value) (vm₁ : Vm) (B : Pt), s.WarmedH vm₁ ∧ Stand p l e R s m args below meth c B.U B.locs B.cells B.slots ∧ Post ⟨T.setVm vm₁, locs, cells, slots⟩ argsL.toArray v B ∧
      ∀ target, Steps p.tables e below (B.U.setTop { g with pc := g.pc + 3, stack := v.toList ++ rest }) target → Steps p.tables e below (T.setTop g) target) ∨
    (∃ (q : Addr) (vm₁ : Vm) (B : Pt), s.WarmedH vm₁ ∧ Stand p l e R s m args below meth c B.U B.locs B.cells B.slots ∧ PostX ⟨T.setVm vm₁, locs, cells, slots⟩ argsL.toArray q B ∧
      Steps p.tables e below (T.setTop g) ((B.U.setTop { g with stack := rest }).pushFrame (.throwing q))) := by
  obtain ⟨mk, methM, cM, hnamed, hmethM, -, -, -, -, -, -, hsigM⟩ := Cond.codeWith_spec hcode
  have hstatic : methM.isStatic = true := Cond.static_spec hnamed hmethM hstat
  obtain ⟨kP, hkP, -⟩ := className_of_methodNamed hnamed
  have hinitP : kP.init = .initialized := Cond.initialized_spec (findClass_of_methodNamed hnamed) hkP hinit
  obtain ⟨vm₁, X₁, hstep₁⟩ := X.invokestatic hexec hown hlink hnamed hmethM hstatic hkP hinitP hy (g := g) hg (argsL := argsL) (rest := rest) (hlen _ hsigM) hstack hdg
  rcases hK m meth c ⟨T.setVm vm₁, locs, cells, slots⟩ { g with stack := rest } (.invokestatic index) mk argsL.toArray X₁ hg hsize hdg hW (X₁.named hnamed) (hpre vm₁ X₁.warmed) with ⟨v, B, X', hpost, hsteps⟩ | ⟨q, B, X', hpost, hsteps⟩
  · exact Or.inl ⟨v, vm₁, B, X₁.warmed, X', hpost, fun target h => hstep₁ _ fun acts => by rw [doInvoke_state]; exact hsteps.trans h⟩
  · exact Or.inr ⟨q, vm₁, B, X₁.warmed, X', hpost, hstep₁ _ fun acts => by rw [doInvoke_state]; exact hsteps⟩
theorem vx_callVW (X : Stand p l e R s m args below meth c T locs cells slots) (hexec : p.tables.exec = Jvm.exec) {own C : String} {index : Nat} {y : MethodName} {bytes : ByteArray} {maxL : Nat} {ret : Option FieldType} {hh : List (Nat × Nat × Nat × Nat)}
    (hown : s.vm.findClass own = some m.cls) (hlink : (Cond.methodLink own index y).before args s = true) (hinst : (Cond.instanceMethod y).before args s = true) (hsel : (Cond.selects C y y).before args s = true)
    (hcode : (Cond.codeWith y bytes maxL ret hh).before args s = true) (hy : y.cls ≠ "java/lang/invoke/MethodHandle" ∧ y.cls ≠ "java/lang/invoke/VarHandle")
    {W9 : Nat} {Pre : Pt → Array Value → Prop} {Post : Pt → Array Value → Option Value → Pt → Prop} (hK : Back l R p e below s args y 3 W9 Pre Post)
    {b : Addr} {cellB : Cell} (hcell : T.heap[b]? = some cellB) (hobj : cellB.vm.isStatics = false) (hcls : s.vm.findClass C = some cellB.cls)
    {g : JFrame} (hg : g.method = m) (hsize : g.locals.size = c.maxLocals) {argsL rest : List Value} (hlen : ∀ sig, parseMethodDescriptor y.desc = some sig → argsL.length = sig.parameters.length)
    (hstack : g.stack = argsL.reverse ++ .ref b :: rest) (hW : 2 * g.monitorRoom + (rest.map fun v => v.category).sum ≤ W9) (hdg : decode c.code g.pc = .ok (.invokevirtual index, 3))
    (hpre : ∀ vm₁, s.WarmedH vm₁ → Pre ⟨T.setVm vm₁, locs, cells, slots⟩ (Value.ref b :: argsL).toArray) :
    ∃ (v : Option Value) (vm₁ : Vm) (B : Pt), s.WarmedH vm₁ ∧ Stand p l e R s m args below meth c B.U B.locs B.cells B.slots ∧ Post ⟨T.setVm vm₁, locs, cells, slots⟩ (Value.ref b :: argsL).toArray v B ∧
      ∀ target, Steps p.tables e below (B.U.setTop { g with pc := g.pc + 3, stack := v.toList ++ rest }) target → Steps p.tables e below (T.setTop g) target := by
  obtain ⟨mk, methM, hnamed, hmethM, hstM, habM⟩ := Cond.instanceMethod_spec hinst
  obtain ⟨m8, methM', cM, hn8, hmethM', -, -, -, -, -, -, hsigM⟩ := Cond.codeWith_spec hcode
  cases Option.some.inj (hn8.symm.trans hnamed)
  cases hmethM.symm.trans hmethM'
  obtain ⟨c2, r2, m2, q1, q2, q3, q4, kP, hkP, hkPi⟩ := Cond.selects_spec hsel
  cases hcls.symm.trans q1
  cases (State.methodFound?_of_named hnamed hy).symm.trans q2
  cases hnamed.symm.trans q3
  have hselP : selectMethod e.platform s.vm cellB.cls mk = .method mk := by rw [Launch.admits_selectMethod X.admits]; exact q4
  obtain ⟨vm₁, X₁, hstep₁⟩ := X.invokevirtual hexec hown hlink hnamed hmethM hstM hkP hkPi hy (a := b) (cell := cellB) hcell
    (fun z h => by rw [h] at hobj; cases hobj) hselP hmethM habM hkP hkPi (g := g) hg (argsL := argsL) (rest := rest) (hlen _ hsigM) hstack hdg
  obtain ⟨v, B, X', hpost, hsteps⟩ := hK m meth c ⟨T.setVm vm₁, locs, cells, slots⟩ { g with stack := rest } (.invokevirtual index) mk (Value.ref b :: argsL).toArray X₁ hg hsize hdg hW (X₁.named hnamed) (hpre vm₁ X₁.warmed)
  exact ⟨v, vm₁, B, X₁.warmed, X', hpost, fun target h => hstep₁ _ fun acts => by rw [doInvoke_state]; exact hsteps.trans h⟩
abbrev vx_CVW (R : Room) (s : State) (args : Array Value) (own C : String) (index : Nat) (y : MethodName) (bytes : ByteArray) (maxL : Nat) (ret : Option FieldType) (hh : List (Nat × Nat × Nat × Nat)) (ws : List Cond) (rm : Room) (mc ms n : Nat) : Prop :=
  (rm.cells = mc ∧ rm.slots = ms ∧ rm.frames + 1 ≤ R.frames ∧ 8 + (maxL + 11) + rm.locals ≤ R.locals ∧ (∀ w ∈ ws, ∀ (a' : Array Value) (U : State), s.WarmedH U.vm → w.before a' U = true) ∧ Cond.codeWith y bytes maxL ret hh ∈ ws) ∧
  (Cond.codeWith y bytes maxL ret hh).before args s = true ∧ (Cond.initialized y.cls).before args s = true ∧ (y.cls ≠ "java/lang/invoke/MethodHandle" ∧ y.cls ≠ "java/lang/invoke/VarHandle") ∧
  (∀ sig, parseMethodDescriptor y.desc = some sig → n = sig.parameters.length) ∧ (Cond.methodLink own index y).before args s = true ∧ (Cond.instanceMethod y).before args s = true ∧ (Cond.selects C y y).before args s = true
theorem vx_cwVW {own C : String} {index maxL mc ms : Nat} {y : MethodName} {bytes : ByteArray} {ret : Option FieldType} {hh : List (Nat × Nat × Nat × Nat)} {Ts ws ws' : List Cond} {rm : Room} (n : Nat) (ht : ∀ w ∈ Ts, w.before args s = true) (hT : GoodIn Ts (wsV own index C y ws)) (hw : ws = Cond.codeWith y bytes maxL ret hh :: ws') (hrc : rm.cells = mc) (hrs : rm.slots = ms)
    (hd : y.cls = C ∧ y.cls ≠ "java/lang/invoke/MethodHandle" ∧ y.cls ≠ "java/lang/invoke/VarHandle" ∧ (parseMethodDescriptor y.desc).map (fun d => d.parameters.length) = some n) (hR : rm.frames + 1 ≤ R.frames ∧ 8 + (maxL + 11) + rm.locals ≤ R.locals) :
    vx_CVW R s args own C index y bytes maxL ret hh ws rm mc ms n := by
  obtain ⟨hC, hd⟩ := hd
  subst hC
  have ok : ∀ w ∈ wsV own index y.cls y ws, w.before args s = true := fun w h => ht w (hT w h).1
  have hG : GoodIn Ts ws := fun w h => hT w (by unfold wsV; exact List.mem_append_right _ h)
  have hc : Cond.codeWith y bytes maxL ret hh ∈ ws := by rw [hw]; exact List.mem_cons_self
  refine ⟨⟨hrc, hrs, hR.1, hR.2, pay_in ht hG, hc⟩, ht _ (hG _ hc).1, ok _ (by simp [wsV]), ⟨hd.1, hd.2.1⟩, fun sig h => ?_, ok _ (by simp [wsV]), ok _ (by simp [wsV]), ok _ (by simp [wsV])⟩
  have h2 := hd.2.2
  rw [h] at h2
  exact (Option.some.inj h2).symm
theorem vx_runVW {y : MethodName} {bytes cc : ByteArray} {maxL nL mc ms n index : Nat} {ret : Option FieldType} {hh : List (Nat × Nat × Nat × Nat)} {ws : List Cond} {rm : Room} {Pc : Array Value → State → Prop} {Qc : Array Value → State → Outcome → State → Prop} {free : Addr → Prop} {Ts : List Cond} {own C : String} {b : Addr} {As rest : List Value} {g : JFrame}
    (S : CallFix p m c cc nL s args Ts own) (hM : Met l y ws rm Pc Qc mc ms free) (cw : vx_CVW R s args own C index y bytes maxL ret hh ws rm mc ms n) (hp : PreV s H C b Pc As)
    (hg : g.method = m) (hn : As.length = n) (hsize : g.locals.size = nL) (hstack : g.stack = As.reverse ++ .ref b :: rest) (hW : 2 * g.monitorRoom + (rest.map fun v => v.category).sum ≤ 8) (hdg : decode cc g.pc = .ok (.invokevirtual index, 3)) (hf : cells + mc ≤ R.cells ∧ slots + ms ≤ R.slots) :
    va_Run p l e R s m args below meth c H locs cells slots mc ms g rest (Qc (Value.ref b :: As).toArray) free := by
  obtain ⟨⟨hrc, hrs, hfr, hlo, hws, hcw⟩, hcode, hini, hy, hlen, hl, hin, hse⟩ := cw
  have hK : Back l R p e below s args y 3 8 (PreOf R mc ms Pc) (PostOf Qc mc ms free) := va_backW (hh := hh) (bytes := bytes) (maxL := maxL) (ret := ret) hM hp.1 hrc hrs hfr hlo hws hcw (fun a' U hW => word_at hW (Or.inl (by first | rfl | simp [Cond.onTables, Cond.keeps, Cond.steady])) hini)
  obtain ⟨hx, hb, hml, ho, -⟩ := S
  obtain ⟨-, ⟨cellB, hcB, hoB, hclB⟩, hPc⟩ := hp
  intro T hT X
  obtain ⟨v, vm₁, ⟨U', l2, c2, s2⟩, hW₁, X', ⟨g', mk, t, L, e1, e2, hq, h1, hL, h2, h3⟩, st⟩ := vx_callVW X hx (C := C) (hh := hh) (bytes := bytes) (maxL := maxL) (ret := ret) ho hl hin hse hcode hy hK (by rw [hT]; exact hcB) hoB hclB hg (hsize.trans hml.symm) (argsL := As) (rest := rest) (fun sig h => hn.trans (hlen sig h)) hstack hW (by rw [hb]; exact hdg)
    (fun vm₁ hW₁ => ⟨hf.1, hf.2, hPc (T.setVm vm₁) hT hW₁⟩)
  dsimp only [Pt.U, Pt.locs, Pt.cells, Pt.slots] at X' e1 e2 h1 h2 h3 st
  subst h1; subst h2; subst h3
  exact ⟨v, (T.setVm vm₁).calling g' mk (Value.ref b :: As).toArray, t, U', L, hT, X', hL, e1, e2, hq, st⟩
section
variable {y : MethodName} {bytes cc : ByteArray} {maxL nL mc ms n index : Nat} {ret : Option FieldType} {ws : List Cond} {rm : Room} {Pc : Array Value → State → Prop} {Qc : Array Value → State → Outcome → State → Prop} {XC : String → State → State → Prop} {free : Addr → Prop} {Ts : List Cond} {own C : String} {b : Addr} {As rest : List Value} {g : JFrame}
theorem vx_runVX {hh : List (Nat × Nat × Nat × Nat)} (S : CallFix p m c cc nL s args Ts own) (hM : vx_Met l y ws rm Pc Qc XC mc ms free) (cw : vx_CVW R s args own C index y bytes maxL ret hh ws rm mc ms n) (hp : PreV s H C b Pc As)
    (hg : g.method = m) (hn : As.length = n) (hsize : g.locals.size = nL) (hstack : g.stack = As.reverse ++ .ref b :: rest) (hW : 2 * g.monitorRoom + (rest.map fun v => v.category).sum ≤ 8) (hdg : decode cc g.pc = .ok (.invokevirtual index, 3)) (hf : cells + mc ≤ R.cells ∧ slots + ms ≤ R.slots) :
    vx_Run p l e R s m args below meth c H locs cells slots mc ms g rest (Qc (Value.ref b :: As).toArray) XC free := by
  obtain ⟨⟨hrc, hrs, hfr, hlo, hws, hcw⟩, hcode, hini, hy, hlen, hl, hin, hse⟩ := cw
  have hK : vx_Back l R p e below s args y 3 8 (PreOf R mc ms Pc) (PostOf Qc mc ms free) (vx_Post XC mc ms free) := vx_backW (hh := hh) (bytes := bytes) (maxL := maxL) (ret := ret) hM hp.1 hrc hrs hfr hlo hws hcw (fun a' U hW => word_at hW (Or.inl (by first | rfl | simp [Cond.onTables, Cond.keeps, Cond.steady])) hini)
  obtain ⟨hx, hb, hml, ho, -⟩ := S
  obtain ⟨-, ⟨cellB, hcB, hoB, hclB⟩, hPc⟩ := hp
  intro T hT X
  rcases vx_callVX X hx (C := C) (hh := hh) (bytes := bytes) (maxL := maxL) (ret := ret) ho hl hin hse hcode hy hK (by rw [hT]; exact hcB) hoB hclB hg (hsize.trans hml.symm) (argsL := As) (rest := rest) (fun sig h => hn.trans (hlen sig h)) hstack hW (by rw [hb]; exact hdg)
    (fun vm₁ hW₁ => ⟨hf.1, hf.2, hPc (T.setVm vm₁) hT hW₁⟩) with ⟨v, vm₁, ⟨U', l2, c2, s2⟩, hW₁, X', ⟨g', mk, t, L, e1, e2, hq, h1, hL, h2, h3⟩, st⟩ | ⟨q, vm₁, ⟨U', l2, c2, s2⟩, hW₁, X', ⟨g', mk, t, L, E, ce, e1, e2, hq, hce, hcv, hcl, h1, hL, h2, h3⟩, st⟩
  · dsimp only [Pt.U, Pt.locs, Pt.cells, Pt.slots] at X' e1 e2 h1 h2 h3 st
    subst h1; subst h2; subst h3
    exact Or.inl ⟨v, (T.setVm vm₁).calling g' mk (Value.ref b :: As).toArray, t, U', L, hT, X', hL, e1, e2, hq, st⟩
  · dsimp only [Pt.U, Pt.locs, Pt.cells, Pt.slots] at X' e1 e2 h1 h2 h3 st hcl
    subst h1; subst h2; subst h3
    exact Or.inr ⟨q, (T.setVm vm₁).calling g' mk (Value.ref b :: As).toArray, t, U', L, E, ce, hT, X', hL, e1, e2, hq, hce, hcv, vx_cls hW₁ hcl, st⟩
theorem vx_runSX {hh : List (Nat × Nat × Nat × Nat)} (S : CallFix p m c cc nL s args Ts own) (hM : vx_Met l y ws rm Pc Qc XC mc ms free) (cw : vx_CSW R s args own index y bytes maxL ret hh ws rm mc ms n) (hp : PreS s H Pc As)
    (hg : g.method = m) (hn : As.length = n) (hsize : g.locals.size = nL) (hstack : g.stack = As.reverse ++ rest) (hW : 2 * g.monitorRoom + (rest.map fun v => v.category).sum ≤ 8) (hdg : decode cc g.pc = .ok (.invokestatic index, 3)) (hf : cells + mc ≤ R.cells ∧ slots + ms ≤ R.slots) :
    vx_Run p l e R s m args below meth c H locs cells slots mc ms g rest (Qc As.toArray) XC free := by
  obtain ⟨⟨hrc, hrs, hfr, hlo, hws, hcw⟩, hcode, hini, hy, hlen, hl, hstt⟩ := cw
  have hK : vx_Back l R p e below s args y 3 8 (PreOf R mc ms Pc) (PostOf Qc mc ms free) (vx_Post XC mc ms free) := vx_backW (hh := hh) (bytes := bytes) (maxL := maxL) (ret := ret) hM hp.1 hrc hrs hfr hlo hws hcw (fun a' U hW => word_at hW (Or.inl (by first | rfl | simp [Cond.onTables, Cond.keeps, Cond.steady])) hini)
  obtain ⟨hx, hb, hml, ho, -⟩ := S
  intro T hT X
  rcases vx_callSX X hx (hh := hh) (bytes := bytes) (maxL := maxL) (ret := ret) ho hl hstt hini hcode hy hK hg (hsize.trans hml.symm) (argsL := As) (rest := rest) (fun sig h => hn.trans (hlen sig h)) hstack hW (by rw [hb]; exact hdg)
    (fun vm₁ hW₁ => ⟨hf.1, hf.2, hp.2 (T.setVm vm₁) hT hW₁⟩) with ⟨v, vm₁, ⟨U', l2, c2, s2⟩, hW₁, X', ⟨g', mk, t, L, e1, e2, hq, h1, hL, h2, h3⟩, st⟩ | ⟨q, vm₁, ⟨U', l2, c2, s2⟩, hW₁, X', ⟨g', mk, t, L, E, ce, e1, e2, hq, hce, hcv, hcl, h1, hL, h2, h3⟩, st⟩
  · dsimp only [Pt.U, Pt.locs, Pt.cells, Pt.slots] at X' e1 e2 h1 h2 h3 st
    subst h1; subst h2; subst h3
    exact Or.inl ⟨v, (T.setVm vm₁).calling g' mk As.toArray, t, U', L, hT, X', hL, e1, e2, hq, st⟩
  · dsimp only [Pt.U, Pt.locs, Pt.cells, Pt.slots] at X' e1 e2 h1 h2 h3 st hcl
    subst h1; subst h2; subst h3
    exact Or.inr ⟨q, (T.setVm vm₁).calling g' mk As.toArray, t, U', L, E, ce, hT, X', hL, e1, e2, hq, hce, hcv, vx_cls hW₁ hcl, st⟩
end
end VXH
theorem vx_ofWH {l : Launch} {y : MethodName} {ws ws' : List Cond} {rm : Room} {Pc : Array Value → State → Prop} {Qc : Array Value → State → Outcome → State → Prop} {XC : String → State → State → Prop} {mc ms : Nat} {free : Addr → Prop} {cc : ByteArray} {maxL : Nat} {ret : Option FieldType} {hh : List (Nat × Nat × Nat × Nat)}
    (hy : plainName y.cls = true) (hw : ws = Cond.codeWith y cc maxL ret hh :: ws')
    (body : ∀ p e s m args below meth c s₁, BodyLoose p l y (headSpec ws rm) cc maxL ret e s m args below meth c s₁ → c.maxLocals = maxL → Pc args s →
      W p l e (headSpec ws rm).room s m args below meth c s.heap [] 0 0 (vx_MQ below Qc XC args s mc ms free) (entryFrame m args maxL)) : vx_Met l y ws rm Pc Qc XC mc ms free := by
  refine MetFree.of_bodyS (code := cc) (maxLocals := maxL) (ret := ret) hy ?_ ?_
  · intro args s m h hn
    obtain ⟨m9, meth, c, hn9, h1, h2, h3, h4, -, h5, h6, -⟩ := Cond.codeWith_spec (atoms_spec (ws := ws) h _ (by rw [hw]; exact List.mem_cons_self))
    cases hn.symm.trans hn9
    exact ⟨meth, c, h1, h2, h3, h4, h5, h6⟩
  · intro p e s m args below meth c s₁ B hml hP _
    have hh0 : s₁.heap = s.heap := by rw [B.state]; rfl
    obtain ⟨t, a1, o, b1, b2, b3⟩ := body p e s m args below meth c s₁ B hml hP s₁ hh0 (Stand.of_body B)
    exact ⟨t, o, a1, b1, b2, b3⟩
/-! ===== END ===== -/
end
section
def RX0 : String := "Rescuemarket$Boat"
def TX0 : u_T := fun k => match k with
  | 0 => ("Rescuemarket$Boat", "number", "I", true)
  | 1 => ("Rescuemarket$Boat", "club", "I", true)
  | 2 => ("Rescuemarket$Boat", "bears", "I", true)
  | 3 => ("Rescuemarket$Boat", "home", "I", true)
  | 4 => ("Rescuemarket$Boat", "speed", "I", true)
  | 5 => ("Rescuemarket$Boat", "tank", "I", true)
  | 6 => ("Rescuemarket$Boat", "user", "I", false)
  | 7 => ("Rescuemarket$Boat", "userOfTask", "I", false)
  | 8 => ("Rescuemarket$Boat", "state", "I", false)
  | 9 => ("Rescuemarket$Boat", "call", "LRescuemarket$Call;", false)
  | 10 => ("Rescuemarket$Boat", "next", "I", false)
  | 11 => ("Rescuemarket$Boat", "fuel", "I", false)
  | _ => ("Rescuemarket$Boat", "left", "I", false)
def tyX0 : Nat → FieldType := fun k => match k with
  | 0 => .int
  | 1 => .int
  | 2 => .int
  | 3 => .int
  | 4 => .int
  | 5 => .int
  | 6 => .int
  | 7 => .int
  | 8 => .int
  | 9 => .object "Rescuemarket$Call"
  | 10 => .int
  | 11 => .int
  | _ => .int
abbrev wsX00 : List Cond := u_ws RX0 TX0 13
theorem nmX0 : ∀ a, a < 13 → ∀ b, b < 13 → a ≠ b → (TX0 a).2.1 ≠ (TX0 b).2.1 := by decide +kernel
theorem tyX0_ok : ∀ k, k < 13 → parseFieldDescriptor (TX0 k).2.2.1 = some (tyX0 k) := by decide +kernel
abbrev cX0_init : ByteArray := prog_2_method_1_code
def yX0_init : MethodName := ⟨RX0, "<init>", "(IIIIII)V"⟩
abbrev cX0_wayTo : ByteArray := prog_2_method_2_code
def yX0_wayTo : MethodName := ⟨RX0, "wayTo", "(I)I"⟩
abbrev cX0_hoursFor : ByteArray := prog_2_method_3_code
def yX0_hoursFor : MethodName := ⟨RX0, "hoursFor", "(I)I"⟩
abbrev cX0_leaveFor : ByteArray := prog_2_method_4_code
def yX0_leaveFor : MethodName := ⟨RX0, "leaveFor", "(LRescuemarket$Call;II)V"⟩
abbrev cX0_turnBack : ByteArray := prog_2_method_5_code
def yX0_turnBack : MethodName := ⟨RX0, "turnBack", "(I)V"⟩
abbrev cX0_goHome : ByteArray := prog_2_method_6_code
def yX0_goHome : MethodName := ⟨RX0, "goHome", "(II)V"⟩
abbrev cX0_rest : ByteArray := prog_2_method_7_code
def yX0_rest : MethodName := ⟨RX0, "rest", "(I)V"⟩
abbrev cX0_becomeFree : ByteArray := prog_2_method_8_code
def yX0_becomeFree : MethodName := ⟨RX0, "becomeFree", "()V"⟩
abbrev cX0_burn : ByteArray := prog_2_method_9_code
def yX0_burn : MethodName := ⟨RX0, "burn", "(I)V"⟩
abbrev cX0_headHome : ByteArray := prog_2_method_10_code
def yX0_headHome : MethodName := ⟨RX0, "headHome", "(I)V"⟩
def RX1 : String := "Rescuemarket$Call"
def TX1 : u_T := fun k => match k with
  | 0 => ("Rescuemarket$Call", "number", "I", true)
  | 1 => ("Rescuemarket$Call", "cell", "I", true)
  | 2 => ("Rescuemarket$Call", "need", "I", true)
  | 3 => ("Rescuemarket$Call", "last", "I", true)
  | 4 => ("Rescuemarket$Call", "state", "I", false)
  | 5 => ("Rescuemarket$Call", "boat", "LRescuemarket$Boat;", false)
  | 6 => ("Rescuemarket$Call", "tasks", "I", false)
  | _ => ("Rescuemarket$Call", "reward", "I", false)
def tyX1 : Nat → FieldType := fun k => match k with
  | 0 => .int
  | 1 => .int
  | 2 => .int
  | 3 => .int
  | 4 => .int
  | 5 => .object "Rescuemarket$Boat"
  | 6 => .int
  | _ => .int
abbrev wsX10 : List Cond := u_ws RX1 TX1 8
theorem nmX1 : ∀ a, a < 8 → ∀ b, b < 8 → a ≠ b → (TX1 a).2.1 ≠ (TX1 b).2.1 := by decide +kernel
theorem tyX1_ok : ∀ k, k < 8 → parseFieldDescriptor (TX1 k).2.2.1 = some (tyX1 k) := by decide +kernel
abbrev cX1_init : ByteArray := prog_3_method_1_code
def yX1_init : MethodName := ⟨RX1, "<init>", "(IIII)V"⟩
def RX2 : String := "Rescuemarket$Deed"
def TX2 : u_T := fun k => match k with
  | 0 => ("Rescuemarket$Deed", "owner", "I", true)
  | 1 => ("Rescuemarket$Deed", "user", "I", true)
  | 2 => ("Rescuemarket$Deed", "way", "I", true)
  | 3 => ("Rescuemarket$Deed", "need", "I", true)
  | _ => ("Rescuemarket$Deed", "cap", "I", true)
def tyX2 : Nat → FieldType := fun k => match k with
  | 0 => .int
  | 1 => .int
  | 2 => .int
  | 3 => .int
  | _ => .int
abbrev wsX20 : List Cond := u_ws RX2 TX2 5
theorem nmX2 : ∀ a, a < 5 → ∀ b, b < 5 → a ≠ b → (TX2 a).2.1 ≠ (TX2 b).2.1 := by decide +kernel
theorem tyX2_ok : ∀ k, k < 5 → parseFieldDescriptor (TX2 k).2.2.1 = some (tyX2 k) := by decide +kernel
abbrev cX2_init : ByteArray := prog_4_method_1_code
def yX2_init : MethodName := ⟨RX2, "<init>", "(IIIII)V"⟩
abbrev cX2_reward : ByteArray := prog_4_method_2_code
def yX2_reward : MethodName := ⟨RX2, "reward", "()I"⟩
abbrev cX2_shareOf : ByteArray := prog_4_method_3_code
def yX2_shareOf : MethodName := ⟨RX2, "shareOf", "(I)I"⟩
def RX3 : String := "Rescuemarket$Ledger"
def TX3 : u_T := fun k => match k with
  | 0 => ("Rescuemarket$Ledger", "paid", "[I", true)
  | _ => ("Rescuemarket$Ledger", "log", "Ljava/util/List;", true)
def tyX3 : Nat → FieldType := fun k => match k with
  | 0 => .array .int
  | _ => .object "java/util/List"
abbrev wsX30 : List Cond := u_ws RX3 TX3 2
theorem nmX3 : ∀ a, a < 2 → ∀ b, b < 2 → a ≠ b → (TX3 a).2.1 ≠ (TX3 b).2.1 := by decide +kernel
theorem tyX3_ok : ∀ k, k < 2 → parseFieldDescriptor (TX3 k).2.2.1 = some (tyX3 k) := by decide +kernel
abbrev cX3_init : ByteArray := prog_5_method_1_code
def yX3_init : MethodName := ⟨RX3, "<init>", "()V"⟩
abbrev cX3_pay : ByteArray := prog_5_method_2_code
def yX3_pay : MethodName := ⟨RX3, "pay", "(LRescuemarket$Deed;)V"⟩
abbrev cX3_paidTo : ByteArray := prog_5_method_3_code
def yX3_paidTo : MethodName := ⟨RX3, "paidTo", "(I)I"⟩
abbrev cX3_foundInLogFor : ByteArray := prog_5_method_4_code
def yX3_foundInLogFor : MethodName := ⟨RX3, "foundInLogFor", "(I)I"⟩
def RX4 : String := "Rescuemarket$Weather"
def TX4 : u_T := fun k => match k with
  | _ => ("Rescuemarket$Weather", "words", "[J", true)
def tyX4 : Nat → FieldType := fun k => match k with
  | _ => .array .long
abbrev wsX40 : List Cond := u_ws RX4 TX4 1
theorem nmX4 : ∀ a, a < 1 → ∀ b, b < 1 → a ≠ b → (TX4 a).2.1 ≠ (TX4 b).2.1 := by decide +kernel
theorem tyX4_ok : ∀ k, k < 1 → parseFieldDescriptor (TX4 k).2.2.1 = some (tyX4 k) := by decide +kernel
abbrev cX4_init : ByteArray := prog_6_method_1_code
def yX4_init : MethodName := ⟨RX4, "<init>", "()V"⟩
abbrev cX4_put : ByteArray := prog_6_method_2_code
def yX4_put : MethodName := ⟨RX4, "put", "(IIII)V"⟩
abbrev cX4_at : ByteArray := prog_6_method_3_code
def yX4_at : MethodName := ⟨RX4, "at", "(II)I"⟩
abbrev cX4_greatest : ByteArray := prog_6_method_4_code
def yX4_greatest : MethodName := ⟨RX4, "greatest", "(III)I"⟩
abbrev cX4_maskOf : ByteArray := prog_6_method_5_code
def yX4_maskOf : MethodName := ⟨RX4, "maskOf", "(II)J"⟩
def RX5 : String := "Rescuemarket"
def TX5 : u_T := fun k => match k with
  | 0 => ("Rescuemarket", "weather", "LRescuemarket$Weather;", true)
  | 1 => ("Rescuemarket", "ledger", "LRescuemarket$Ledger;", true)
  | 2 => ("Rescuemarket", "boats", "Ljava/util/List;", true)
  | 3 => ("Rescuemarket", "calls", "Ljava/util/List;", true)
  | 4 => ("Rescuemarket", "now", "I", false)
  | _ => ("Rescuemarket", "highestReward", "I", false)
def tyX5 : Nat → FieldType := fun k => match k with
  | 0 => .object "Rescuemarket$Weather"
  | 1 => .object "Rescuemarket$Ledger"
  | 2 => .object "java/util/List"
  | 3 => .object "java/util/List"
  | 4 => .int
  | _ => .int
abbrev wsX50 : List Cond := u_ws RX5 TX5 6
theorem nmX5 : ∀ a, a < 6 → ∀ b, b < 6 → a ≠ b → (TX5 a).2.1 ≠ (TX5 b).2.1 := by decide +kernel
theorem tyX5_ok : ∀ k, k < 6 → parseFieldDescriptor (TX5 k).2.2.1 = some (tyX5 k) := by decide +kernel
abbrev cX5_init : ByteArray := prog_1_method_1_code
def yX5_init : MethodName := ⟨RX5, "<init>", "()V"⟩
abbrev cX5_boat : ByteArray := prog_1_method_2_code
def yX5_boat : MethodName := ⟨RX5, "boat", "(IIIII)I"⟩
abbrev cX5_lend : ByteArray := prog_1_method_3_code
def yX5_lend : MethodName := ⟨RX5, "lend", "(II)I"⟩
abbrev cX5_foretell : ByteArray := prog_1_method_4_code
def yX5_foretell : MethodName := ⟨RX5, "foretell", "(IIIII)I"⟩
abbrev cX5_call : ByteArray := prog_1_method_5_code
def yX5_call : MethodName := ⟨RX5, "call", "(III)I"⟩
abbrev cX5_cap : ByteArray := prog_1_method_6_code
def yX5_cap : MethodName := ⟨RX5, "cap", "(I)I"⟩
abbrev cX5_pass : ByteArray := prog_1_method_7_code
def yX5_pass : MethodName := ⟨RX5, "pass", "(I)I"⟩
abbrev cX5_storm : ByteArray := prog_1_method_8_code
def yX5_storm : MethodName := ⟨RX5, "storm", "(II)I"⟩
abbrev cX5_ofBoat : ByteArray := prog_1_method_9_code
def yX5_ofBoat : MethodName := ⟨RX5, "ofBoat", "(II)I"⟩
abbrev cX5_ofCall : ByteArray := prog_1_method_10_code
def yX5_ofCall : MethodName := ⟨RX5, "ofCall", "(II)I"⟩
abbrev cX5_rewards : ByteArray := prog_1_method_11_code
def yX5_rewards : MethodName := ⟨RX5, "rewards", "(I)I"⟩
abbrev cX5_rewardsAnew : ByteArray := prog_1_method_12_code
def yX5_rewardsAnew : MethodName := ⟨RX5, "rewardsAnew", "(I)I"⟩
abbrev cX5_premium : ByteArray := prog_1_method_13_code
def yX5_premium : MethodName := ⟨RX5, "premium", "(I)F"⟩
abbrev cX5_turnBoatsBack : ByteArray := prog_1_method_14_code
def yX5_turnBoatsBack : MethodName := ⟨RX5, "turnBoatsBack", "()V"⟩
abbrev cX5_letBoatsArrive : ByteArray := prog_1_method_15_code
def yX5_letBoatsArrive : MethodName := ⟨RX5, "letBoatsArrive", "()V"⟩
abbrev cX5_finish : ByteArray := prog_1_method_16_code
def yX5_finish : MethodName := ⟨RX5, "finish", "(LRescuemarket$Boat;LRescuemarket$Call;)V"⟩
abbrev cX5_freeBoatsThatRested : ByteArray := prog_1_method_17_code
def yX5_freeBoatsThatRested : MethodName := ⟨RX5, "freeBoatsThatRested", "()V"⟩
abbrev cX5_answerCalls : ByteArray := prog_1_method_18_code
def yX5_answerCalls : MethodName := ⟨RX5, "answerCalls", "()V"⟩
abbrev cX5_task : ByteArray := prog_1_method_19_code
def yX5_task : MethodName := ⟨RX5, "task", "(LRescuemarket$Boat;LRescuemarket$Call;)V"⟩
abbrev cX5_boatFirstThere : ByteArray := prog_1_method_20_code
def yX5_boatFirstThere : MethodName := ⟨RX5, "boatFirstThere", "(LRescuemarket$Call;)LRescuemarket$Boat;"⟩
abbrev cX5_hourThere : ByteArray := prog_1_method_21_code
def yX5_hourThere : MethodName := ⟨RX5, "hourThere", "(LRescuemarket$Boat;LRescuemarket$Call;)I"⟩
abbrev cX5_callsEverAt : ByteArray := prog_1_method_22_code
def yX5_callsEverAt : MethodName := ⟨RX5, "callsEverAt", "(I)I"⟩
abbrev cX5_boatNumbered : ByteArray := prog_1_method_23_code
def yX5_boatNumbered : MethodName := ⟨RX5, "boatNumbered", "(I)LRescuemarket$Boat;"⟩
abbrev cX5_callNumbered : ByteArray := prog_1_method_24_code
def yX5_callNumbered : MethodName := ⟨RX5, "callNumbered", "(I)LRescuemarket$Call;"⟩
abbrev cX5_checkClub : ByteArray := prog_1_method_25_code
def yX5_checkClub : MethodName := ⟨RX5, "checkClub", "(I)V"⟩
abbrev cX5_checkCell : ByteArray := prog_1_method_26_code
def yX5_checkCell : MethodName := ⟨RX5, "checkCell", "(I)V"⟩
abbrev cX5_checkWithin : ByteArray := prog_1_method_27_code
def yX5_checkWithin : MethodName := ⟨RX5, "checkWithin", "(III)V"⟩
abbrev cX5_columnOf : ByteArray := prog_1_method_28_code
def yX5_columnOf : MethodName := ⟨RX5, "columnOf", "(I)I"⟩
abbrev cX5_rowOf : ByteArray := prog_1_method_29_code
def yX5_rowOf : MethodName := ⟨RX5, "rowOf", "(I)I"⟩
def RX6 : String := "RescuemarketModel"
def TX6 : u_T := fun k => match k with
  | 0 => ("RescuemarketModel", "storm", "[B", true)
  | 1 => ("RescuemarketModel", "bc", "[I", true)
  | 2 => ("RescuemarketModel", "bl", "[I", true)
  | 3 => ("RescuemarketModel", "bh", "[I", true)
  | 4 => ("RescuemarketModel", "bs", "[I", true)
  | 5 => ("RescuemarketModel", "holding", "[I", true)
  | 6 => ("RescuemarketModel", "fuel", "[I", true)
  | 7 => ("RescuemarketModel", "bears", "[I", true)
  | 8 => ("RescuemarketModel", "how", "[I", true)
  | 9 => ("RescuemarketModel", "task", "[I", true)
  | 10 => ("RescuemarketModel", "since", "[I", true)
  | 11 => ("RescuemarketModel", "next", "[I", true)
  | 12 => ("RescuemarketModel", "by", "[I", true)
  | 13 => ("RescuemarketModel", "boats", "I", false)
  | 14 => ("RescuemarketModel", "cc", "[I", true)
  | 15 => ("RescuemarketModel", "cn", "[I", true)
  | 16 => ("RescuemarketModel", "cl", "[I", true)
  | 17 => ("RescuemarketModel", "ck", "[I", true)
  | 18 => ("RescuemarketModel", "cb", "[I", true)
  | 19 => ("RescuemarketModel", "often", "[I", true)
  | 20 => ("RescuemarketModel", "reward", "[I", true)
  | 21 => ("RescuemarketModel", "calls", "I", false)
  | 22 => ("RescuemarketModel", "got", "[I", true)
  | 23 => ("RescuemarketModel", "cap", "I", false)
  | 24 => ("RescuemarketModel", "now", "I", false)
  | _ => ("RescuemarketModel", "thrown", "I", false)
def tyX6 : Nat → FieldType := fun k => match k with
  | 0 => .array .byte
  | 1 => .array .int
  | 2 => .array .int
  | 3 => .array .int
  | 4 => .array .int
  | 5 => .array .int
  | 6 => .array .int
  | 7 => .array .int
  | 8 => .array .int
  | 9 => .array .int
  | 10 => .array .int
  | 11 => .array .int
  | 12 => .array .int
  | 13 => .int
  | 14 => .array .int
  | 15 => .array .int
  | 16 => .array .int
  | 17 => .array .int
  | 18 => .array .int
  | 19 => .array .int
  | 20 => .array .int
  | 21 => .int
  | 22 => .array .int
  | 23 => .int
  | 24 => .int
  | _ => .int
abbrev wsX60 : List Cond := u_ws RX6 TX6 26
theorem nmX6 : ∀ a, a < 26 → ∀ b, b < 26 → a ≠ b → (TX6 a).2.1 ≠ (TX6 b).2.1 := by decide +kernel
theorem tyX6_ok : ∀ k, k < 26 → parseFieldDescriptor (TX6 k).2.2.1 = some (tyX6 k) := by decide +kernel
abbrev cX6_init : ByteArray := prog_8_method_1_code
def yX6_init : MethodName := ⟨RX6, "<init>", "()V"⟩
abbrev cX6_thrown : ByteArray := prog_8_method_2_code
def yX6_thrown : MethodName := ⟨RX6, "thrown", "()I"⟩
abbrev cX6_fails : ByteArray := prog_8_method_3_code
def yX6_fails : MethodName := ⟨RX6, "fails", "(I)Z"⟩
abbrev cX6_in : ByteArray := prog_8_method_4_code
def yX6_in : MethodName := ⟨RX6, "in", "(III)Z"⟩
abbrev cX6_flat : ByteArray := prog_8_method_5_code
def yX6_flat : MethodName := ⟨RX6, "flat", "(I)I"⟩
abbrev cX6_way : ByteArray := prog_8_method_6_code
def yX6_way : MethodName := ⟨RX6, "way", "(II)I"⟩
abbrev cX6_boat : ByteArray := prog_8_method_7_code
def yX6_boat : MethodName := ⟨RX6, "boat", "(IIIII)I"⟩
abbrev cX6_isBoat : ByteArray := prog_8_method_8_code
def yX6_isBoat : MethodName := ⟨RX6, "isBoat", "(I)Z"⟩
abbrev cX6_lend : ByteArray := prog_8_method_9_code
def yX6_lend : MethodName := ⟨RX6, "lend", "(II)I"⟩
abbrev cX6_foretell : ByteArray := prog_8_method_10_code
def yX6_foretell : MethodName := ⟨RX6, "foretell", "(IIIII)I"⟩
abbrev cX6_call : ByteArray := prog_8_method_11_code
def yX6_call : MethodName := ⟨RX6, "call", "(III)I"⟩
abbrev cX6_cap : ByteArray := prog_8_method_12_code
def yX6_cap : MethodName := ⟨RX6, "cap", "(I)I"⟩
abbrev cX6_turnsBack : ByteArray := prog_8_method_13_code
def yX6_turnsBack : MethodName := ⟨RX6, "turnsBack", "(I)V"⟩
abbrev cX6_pays : ByteArray := prog_8_method_14_code
def yX6_pays : MethodName := ⟨RX6, "pays", "(II)V"⟩
abbrev cX6_arrives : ByteArray := prog_8_method_15_code
def yX6_arrives : MethodName := ⟨RX6, "arrives", "(I)V"⟩
abbrev cX6_hours : ByteArray := prog_8_method_16_code
def yX6_hours : MethodName := ⟨RX6, "hours", "(II)I"⟩
abbrev cX6_can : ByteArray := prog_8_method_17_code
def yX6_can : MethodName := ⟨RX6, "can", "(II)Z"⟩
abbrev cX6_tasks : ByteArray := prog_8_method_18_code
def yX6_tasks : MethodName := ⟨RX6, "tasks", "(I)V"⟩
abbrev cX6_goes : ByteArray := prog_8_method_19_code
def yX6_goes : MethodName := ⟨RX6, "goes", "()V"⟩
abbrev cX6_pass : ByteArray := prog_8_method_20_code
def yX6_pass : MethodName := ⟨RX6, "pass", "(I)I"⟩
abbrev cX6_storm : ByteArray := prog_8_method_21_code
def yX6_storm : MethodName := ⟨RX6, "storm", "(II)I"⟩
abbrev cX6_ofBoat : ByteArray := prog_8_method_22_code
def yX6_ofBoat : MethodName := ⟨RX6, "ofBoat", "(II)I"⟩
abbrev cX6_ofCall : ByteArray := prog_8_method_23_code
def yX6_ofCall : MethodName := ⟨RX6, "ofCall", "(II)I"⟩
abbrev cX6_rewards : ByteArray := prog_8_method_24_code
def yX6_rewards : MethodName := ⟨RX6, "rewards", "(I)I"⟩
abbrev cX6_rewardsAnew : ByteArray := prog_8_method_25_code
def yX6_rewardsAnew : MethodName := ⟨RX6, "rewardsAnew", "(I)I"⟩
abbrev cX6_premium : ByteArray := prog_8_method_26_code
def yX6_premium : MethodName := ⟨RX6, "premium", "(I)F"⟩
def RJx145de : String := "java/io/Serializable"
def TJx145de : u_T := fun k => match k with
  | _ => ("", "", "", false)
def tyJx145de : Nat → FieldType := fun k => match k with
  | _ => .int
abbrev wsJx145de0 : List Cond := u_ws RJx145de TJx145de 0
theorem nmJx145de : ∀ a, a < 0 → ∀ b, b < 0 → a ≠ b → (TJx145de a).2.1 ≠ (TJx145de b).2.1 := by decide +kernel
theorem tyJx145de_ok : ∀ k, k < 0 → parseFieldDescriptor (TJx145de k).2.2.1 = some (tyJx145de k) := by decide +kernel
def RJx8e188 : String := "java/lang/Cloneable"
def TJx8e188 : u_T := fun k => match k with
  | _ => ("", "", "", false)
def tyJx8e188 : Nat → FieldType := fun k => match k with
  | _ => .int
abbrev wsJx8e1880 : List Cond := u_ws RJx8e188 TJx8e188 0
theorem nmJx8e188 : ∀ a, a < 0 → ∀ b, b < 0 → a ≠ b → (TJx8e188 a).2.1 ≠ (TJx8e188 b).2.1 := by decide +kernel
theorem tyJx8e188_ok : ∀ k, k < 0 → parseFieldDescriptor (TJx8e188 k).2.2.1 = some (tyJx8e188 k) := by decide +kernel
def RJxab1ab : String := "java/lang/Iterable"
def TJxab1ab : u_T := fun k => match k with
  | _ => ("", "", "", false)
def tyJxab1ab : Nat → FieldType := fun k => match k with
  | _ => .int
abbrev wsJxab1ab0 : List Cond := u_ws RJxab1ab TJxab1ab 0
theorem nmJxab1ab : ∀ a, a < 0 → ∀ b, b < 0 → a ≠ b → (TJxab1ab a).2.1 ≠ (TJxab1ab b).2.1 := by decide +kernel
theorem tyJxab1ab_ok : ∀ k, k < 0 → parseFieldDescriptor (TJxab1ab k).2.2.1 = some (tyJxab1ab k) := by decide +kernel
def RJ9 : String := "java/lang/Math"
def TJ9 : u_T := fun k => match k with
  | _ => ("", "", "", false)
def tyJ9 : Nat → FieldType := fun k => match k with
  | _ => .int
abbrev wsJ90 : List Cond := u_ws RJ9 TJ9 0
theorem nmJ9 : ∀ a, a < 0 → ∀ b, b < 0 → a ≠ b → (TJ9 a).2.1 ≠ (TJ9 b).2.1 := by decide +kernel
theorem tyJ9_ok : ∀ k, k < 0 → parseFieldDescriptor (TJ9 k).2.2.1 = some (tyJ9 k) := by decide +kernel
abbrev cJ9_abs_0f7a4 : ByteArray := prog_16_method_59_code
def yJ9_abs_0f7a4 : MethodName := ⟨RJ9, "abs", "(I)I"⟩
abbrev cJ9_max_7cf53 : ByteArray := prog_16_method_65_code
def yJ9_max_7cf53 : MethodName := ⟨RJ9, "max", "(II)I"⟩
abbrev cJ9_min_7cf53 : ByteArray := prog_16_method_69_code
def yJ9_min_7cf53 : MethodName := ⟨RJ9, "min", "(II)I"⟩
def RJ0 : String := "java/lang/String"
def TJ0 : u_T := fun k => match k with
  | _ => ("", "", "", false)
def tyJ0 : Nat → FieldType := fun k => match k with
  | _ => .int
abbrev wsJ00 : List Cond := u_ws RJ0 TJ0 0
theorem nmJ0 : ∀ a, a < 0 → ∀ b, b < 0 → a ≠ b → (TJ0 a).2.1 ≠ (TJ0 b).2.1 := by decide +kernel
theorem tyJ0_ok : ∀ k, k < 0 → parseFieldDescriptor (TJ0 k).2.2.1 = some (tyJ0 k) := by decide +kernel
def RJ10 : String := "java/lang/System"
def TJ10 : u_T := fun k => match k with
  | _ => ("", "", "", false)
def tyJ10 : Nat → FieldType := fun k => match k with
  | _ => .int
abbrev wsJ100 : List Cond := u_ws RJ10 TJ10 0
theorem nmJ10 : ∀ a, a < 0 → ∀ b, b < 0 → a ≠ b → (TJ10 a).2.1 ≠ (TJ10 b).2.1 := by decide +kernel
theorem tyJ10_ok : ∀ k, k < 0 → parseFieldDescriptor (TJ10 k).2.2.1 = some (tyJ10 k) := by decide +kernel
def RJxa1e45 : String := "java/util/AbstractCollection"
def TJxa1e45 : u_T := fun k => match k with
  | _ => ("", "", "", false)
def tyJxa1e45 : Nat → FieldType := fun k => match k with
  | _ => .int
abbrev wsJxa1e450 : List Cond := u_ws RJxa1e45 TJxa1e45 0
theorem nmJxa1e45 : ∀ a, a < 0 → ∀ b, b < 0 → a ≠ b → (TJxa1e45 a).2.1 ≠ (TJxa1e45 b).2.1 := by decide +kernel
theorem tyJxa1e45_ok : ∀ k, k < 0 → parseFieldDescriptor (TJxa1e45 k).2.2.1 = some (tyJxa1e45 k) := by decide +kernel
abbrev cJxa1e45_init_da8c8 : ByteArray := prog_21_method_1_code
def yJxa1e45_init_da8c8 : MethodName := ⟨RJxa1e45, "<init>", "()V"⟩
def RJxc12de : String := "java/util/AbstractList"
def TJxc12de : u_T := fun k => match k with
  | _ => ("", "", "", false)
def tyJxc12de : Nat → FieldType := fun k => match k with
  | _ => .int
abbrev wsJxc12de0 : List Cond := u_ws RJxc12de TJxc12de 0
theorem nmJxc12de : ∀ a, a < 0 → ∀ b, b < 0 → a ≠ b → (TJxc12de a).2.1 ≠ (TJxc12de b).2.1 := by decide +kernel
theorem tyJxc12de_ok : ∀ k, k < 0 → parseFieldDescriptor (TJxc12de k).2.2.1 = some (tyJxc12de k) := by decide +kernel
abbrev cJxc12de_init_da8c8 : ByteArray := prog_22_method_1_code
def yJxc12de_init_da8c8 : MethodName := ⟨RJxc12de, "<init>", "()V"⟩
def RJx4a65c : String := "java/util/ArrayList"
def TJx4a65c : u_T := fun k => match k with
  | 0 => ("java/util/AbstractList", "modCount", "I", false)
  | 1 => ("java/util/ArrayList", "elementData", "[Ljava/lang/Object;", false)
  | _ => ("java/util/ArrayList", "size", "I", false)
def tyJx4a65c : Nat → FieldType := fun k => match k with
  | 0 => .int
  | 1 => .array (.object "java/lang/Object")
  | _ => .int
abbrev wsJx4a65c0 : List Cond := u_ws RJx4a65c TJx4a65c 3
theorem nmJx4a65c : ∀ a, a < 3 → ∀ b, b < 3 → a ≠ b → (TJx4a65c a).2.1 ≠ (TJx4a65c b).2.1 := by decide +kernel
theorem tyJx4a65c_ok : ∀ k, k < 3 → parseFieldDescriptor (TJx4a65c k).2.2.1 = some (tyJx4a65c k) := by decide +kernel
abbrev cJx4a65c_init_da8c8 : ByteArray := prog_23_method_2_code
def yJx4a65c_init_da8c8 : MethodName := ⟨RJx4a65c, "<init>", "()V"⟩
abbrev cJx4a65c_grow_92f84 : ByteArray := prog_23_method_6_code
def yJx4a65c_grow_92f84 : MethodName := ⟨RJx4a65c, "grow", "(I)[Ljava/lang/Object;"⟩
abbrev cJx4a65c_grow_d5877 : ByteArray := prog_23_method_7_code
def yJx4a65c_grow_d5877 : MethodName := ⟨RJx4a65c, "grow", "()[Ljava/lang/Object;"⟩
abbrev cJx4a65c_size_8abf5 : ByteArray := prog_23_method_8_code
def yJx4a65c_size_8abf5 : MethodName := ⟨RJx4a65c, "size", "()I"⟩
abbrev cJx4a65c_elementData_915e3 : ByteArray := prog_23_method_18_code
def yJx4a65c_elementData_915e3 : MethodName := ⟨RJx4a65c, "elementData", "(I)Ljava/lang/Object;"⟩
abbrev cJx4a65c_get_915e3 : ByteArray := prog_23_method_20_code
def yJx4a65c_get_915e3 : MethodName := ⟨RJx4a65c, "get", "(I)Ljava/lang/Object;"⟩
abbrev cJx4a65c_add_72be8 : ByteArray := prog_23_method_24_code
def yJx4a65c_add_72be8 : MethodName := ⟨RJx4a65c, "add", "(Ljava/lang/Object;[Ljava/lang/Object;I)V"⟩
abbrev cJx4a65c_add_9ea2d : ByteArray := prog_23_method_25_code
def yJx4a65c_add_9ea2d : MethodName := ⟨RJx4a65c, "add", "(Ljava/lang/Object;)Z"⟩
def RJ7 : String := "java/util/Arrays"
def TJ7 : u_T := fun k => match k with
  | _ => ("", "", "", false)
def tyJ7 : Nat → FieldType := fun k => match k with
  | _ => .int
abbrev wsJ70 : List Cond := u_ws RJ7 TJ7 0
theorem nmJ7 : ∀ a, a < 0 → ∀ b, b < 0 → a ≠ b → (TJ7 a).2.1 ≠ (TJ7 b).2.1 := by decide +kernel
theorem tyJ7_ok : ∀ k, k < 0 → parseFieldDescriptor (TJ7 k).2.2.1 = some (tyJ7 k) := by decide +kernel
abbrev cJ7_copyOf_1904c : ByteArray := prog_24_method_119_code
def yJ7_copyOf_1904c : MethodName := ⟨RJ7, "copyOf", "([Ljava/lang/Object;I)[Ljava/lang/Object;"⟩
abbrev cJ7_copyOf_6403c : ByteArray := prog_24_method_120_code
def yJ7_copyOf_6403c : MethodName := ⟨RJ7, "copyOf", "([Ljava/lang/Object;ILjava/lang/Class;)[Ljava/lang/Object;"⟩
def RJx5ef63 : String := "java/util/Collection"
def TJx5ef63 : u_T := fun k => match k with
  | _ => ("", "", "", false)
def tyJx5ef63 : Nat → FieldType := fun k => match k with
  | _ => .int
abbrev wsJx5ef630 : List Cond := u_ws RJx5ef63 TJx5ef63 0
theorem nmJx5ef63 : ∀ a, a < 0 → ∀ b, b < 0 → a ≠ b → (TJx5ef63 a).2.1 ≠ (TJx5ef63 b).2.1 := by decide +kernel
theorem tyJx5ef63_ok : ∀ k, k < 0 → parseFieldDescriptor (TJx5ef63 k).2.2.1 = some (tyJx5ef63 k) := by decide +kernel
def RJxbd725 : String := "java/util/List"
def TJxbd725 : u_T := fun k => match k with
  | _ => ("", "", "", false)
def tyJxbd725 : Nat → FieldType := fun k => match k with
  | _ => .int
abbrev wsJxbd7250 : List Cond := u_ws RJxbd725 TJxbd725 0
theorem nmJxbd725 : ∀ a, a < 0 → ∀ b, b < 0 → a ≠ b → (TJxbd725 a).2.1 ≠ (TJxbd725 b).2.1 := by decide +kernel
theorem tyJxbd725_ok : ∀ k, k < 0 → parseFieldDescriptor (TJxbd725 k).2.2.1 = some (tyJxbd725 k) := by decide +kernel
def RJ15 : String := "java/util/Objects"
def TJ15 : u_T := fun k => match k with
  | _ => ("", "", "", false)
def tyJ15 : Nat → FieldType := fun k => match k with
  | _ => .int
abbrev wsJ150 : List Cond := u_ws RJ15 TJ15 0
theorem nmJ15 : ∀ a, a < 0 → ∀ b, b < 0 → a ≠ b → (TJ15 a).2.1 ≠ (TJ15 b).2.1 := by decide +kernel
theorem tyJ15_ok : ∀ k, k < 0 → parseFieldDescriptor (TJ15 k).2.2.1 = some (tyJ15 k) := by decide +kernel
abbrev cJ15_checkIndex_7cf53 : ByteArray := prog_27_method_17_code
def yJ15_checkIndex_7cf53 : MethodName := ⟨RJ15, "checkIndex", "(II)I"⟩
def RJxf0a74 : String := "java/util/RandomAccess"
def TJxf0a74 : u_T := fun k => match k with
  | _ => ("", "", "", false)
def tyJxf0a74 : Nat → FieldType := fun k => match k with
  | _ => .int
abbrev wsJxf0a740 : List Cond := u_ws RJxf0a74 TJxf0a74 0
theorem nmJxf0a74 : ∀ a, a < 0 → ∀ b, b < 0 → a ≠ b → (TJxf0a74 a).2.1 ≠ (TJxf0a74 b).2.1 := by decide +kernel
theorem tyJxf0a74_ok : ∀ k, k < 0 → parseFieldDescriptor (TJxf0a74 k).2.2.1 = some (tyJxf0a74 k) := by decide +kernel
def RJxa66e6 : String := "java/util/SequencedCollection"
def TJxa66e6 : u_T := fun k => match k with
  | _ => ("", "", "", false)
def tyJxa66e6 : Nat → FieldType := fun k => match k with
  | _ => .int
abbrev wsJxa66e60 : List Cond := u_ws RJxa66e6 TJxa66e6 0
theorem nmJxa66e6 : ∀ a, a < 0 → ∀ b, b < 0 → a ≠ b → (TJxa66e6 a).2.1 ≠ (TJxa66e6 b).2.1 := by decide +kernel
theorem tyJxa66e6_ok : ∀ k, k < 0 → parseFieldDescriptor (TJxa66e6 k).2.2.1 = some (tyJxa66e6 k) := by decide +kernel
def RJ8 : String := "jdk/internal/util/ArraysSupport"
def TJ8 : u_T := fun k => match k with
  | _ => ("", "", "", false)
def tyJ8 : Nat → FieldType := fun k => match k with
  | _ => .int
abbrev wsJ80 : List Cond := u_ws RJ8 TJ8 0
theorem nmJ8 : ∀ a, a < 0 → ∀ b, b < 0 → a ≠ b → (TJ8 a).2.1 ≠ (TJ8 b).2.1 := by decide +kernel
theorem tyJ8_ok : ∀ k, k < 0 → parseFieldDescriptor (TJ8 k).2.2.1 = some (tyJ8 k) := by decide +kernel
abbrev cJ8_newLength_cabcc : ByteArray := prog_30_method_27_code
def yJ8_newLength_cabcc : MethodName := ⟨RJ8, "newLength", "(III)I"⟩
abbrev cJ8_hugeLength_7cf53 : ByteArray := prog_30_method_28_code
def yJ8_hugeLength_7cf53 : MethodName := ⟨RJ8, "hugeLength", "(II)I"⟩
def RJ3 : String := "jdk/internal/util/Preconditions"
def TJ3 : u_T := fun k => match k with
  | _ => ("", "", "", false)
def tyJ3 : Nat → FieldType := fun k => match k with
  | _ => .int
abbrev wsJ30 : List Cond := u_ws RJ3 TJ3 0
theorem nmJ3 : ∀ a, a < 0 → ∀ b, b < 0 → a ≠ b → (TJ3 a).2.1 ≠ (TJ3 b).2.1 := by decide +kernel
theorem tyJ3_ok : ∀ k, k < 0 → parseFieldDescriptor (TJ3 k).2.2.1 = some (tyJ3 k) := by decide +kernel
abbrev cJ3_checkIndex_8e157 : ByteArray := prog_31_method_11_code
def yJ3_checkIndex_8e157 : MethodName := ⟨RJ3, "checkIndex", "(IILjava/util/function/BiFunction;)I"⟩
def RL : String := "RescuemarketLaw"
abbrev cL_boat : ByteArray := method_3_code
def yL_boat : MethodName := ⟨RL, "boat", "(LRescuemarket;IIIII[J)I"⟩
abbrev cL_lend : ByteArray := method_4_code
def yL_lend : MethodName := ⟨RL, "lend", "(LRescuemarket;II[J)I"⟩
abbrev cL_foretell : ByteArray := method_5_code
def yL_foretell : MethodName := ⟨RL, "foretell", "(LRescuemarket;IIIII[J)I"⟩
abbrev cL_call : ByteArray := method_6_code
def yL_call : MethodName := ⟨RL, "call", "(LRescuemarket;III[J)I"⟩
abbrev cL_cap : ByteArray := method_7_code
def yL_cap : MethodName := ⟨RL, "cap", "(LRescuemarket;I[J)I"⟩
abbrev cL_pass : ByteArray := method_8_code
def yL_pass : MethodName := ⟨RL, "pass", "(LRescuemarket;I[J)I"⟩
abbrev cL_storm : ByteArray := method_9_code
def yL_storm : MethodName := ⟨RL, "storm", "(LRescuemarket;II[J)I"⟩
abbrev cL_ofBoat : ByteArray := method_10_code
def yL_ofBoat : MethodName := ⟨RL, "ofBoat", "(LRescuemarket;II[J)I"⟩
abbrev cL_ofCall : ByteArray := method_11_code
def yL_ofCall : MethodName := ⟨RL, "ofCall", "(LRescuemarket;II[J)I"⟩
abbrev cL_rewards : ByteArray := method_12_code
def yL_rewards : MethodName := ⟨RL, "rewards", "(LRescuemarket;I[J)I"⟩
abbrev cL_rewardsAnew : ByteArray := method_13_code
def yL_rewardsAnew : MethodName := ⟨RL, "rewardsAnew", "(LRescuemarket;I[J)I"⟩
abbrev cL_premium : ByteArray := method_14_code
def yL_premium : MethodName := ⟨RL, "premium", "(LRescuemarket;I[D)I"⟩
abbrev cL_law : ByteArray := code
def yL_law : MethodName := ⟨RL, "law", "([I)Z"⟩
abbrev vwCl : List vw_C := [(RJx4a65c, TJx4a65c, 3), (RX0, TX0, 13), (RX1, TX1, 8), (RX2, TX2, 5), (RX3, TX3, 2), (RX4, TX4, 1), (RX5, TX5, 6), (RX6, TX6, 26)]
end
section
theorem dX0_init_0 : decode cX0_init 0 = .ok (.aload_n 0, 1) := by decide +kernel
theorem dX0_init_1 : decode cX0_init 1 = .ok (.invokespecial 3, 3) := by decide +kernel
theorem dX0_init_4 : decode cX0_init 4 = .ok (.aload_n 0, 1) := by decide +kernel
theorem dX0_init_5 : decode cX0_init 5 = .ok (.iload_n 1, 1) := by decide +kernel
theorem dX0_init_6 : decode cX0_init 6 = .ok (.putfield 9, 3) := by decide +kernel
theorem dX0_init_9 : decode cX0_init 9 = .ok (.aload_n 0, 1) := by decide +kernel
theorem dX0_init_10 : decode cX0_init 10 = .ok (.iload_n 2, 1) := by decide +kernel
theorem dX0_init_11 : decode cX0_init 11 = .ok (.putfield 15, 3) := by decide +kernel
theorem dX0_init_14 : decode cX0_init 14 = .ok (.aload_n 0, 1) := by decide +kernel
theorem dX0_init_15 : decode cX0_init 15 = .ok (.iload_n 3, 1) := by decide +kernel
theorem dX0_init_16 : decode cX0_init 16 = .ok (.putfield 18, 3) := by decide +kernel
theorem dX0_init_19 : decode cX0_init 19 = .ok (.aload_n 0, 1) := by decide +kernel
theorem dX0_init_20 : decode cX0_init 20 = .ok (.iload 4, 2) := by decide +kernel
theorem dX0_init_22 : decode cX0_init 22 = .ok (.putfield 21, 3) := by decide +kernel
theorem dX0_init_25 : decode cX0_init 25 = .ok (.aload_n 0, 1) := by decide +kernel
theorem dX0_init_26 : decode cX0_init 26 = .ok (.iload 6, 2) := by decide +kernel
theorem dX0_init_28 : decode cX0_init 28 = .ok (.putfield 24, 3) := by decide +kernel
theorem dX0_init_31 : decode cX0_init 31 = .ok (.aload_n 0, 1) := by decide +kernel
theorem dX0_init_32 : decode cX0_init 32 = .ok (.iload 5, 2) := by decide +kernel
theorem dX0_init_34 : decode cX0_init 34 = .ok (.putfield 27, 3) := by decide +kernel
theorem dX0_init_37 : decode cX0_init 37 = .ok (.aload_n 0, 1) := by decide +kernel
theorem dX0_init_38 : decode cX0_init 38 = .ok (.iload 5, 2) := by decide +kernel
theorem dX0_init_40 : decode cX0_init 40 = .ok (.putfield 30, 3) := by decide +kernel
theorem dX0_init_43 : decode cX0_init 43 = .ok (.aload_n 0, 1) := by decide +kernel
theorem dX0_init_44 : decode cX0_init 44 = .ok (.iload_n 2, 1) := by decide +kernel
theorem dX0_init_45 : decode cX0_init 45 = .ok (.putfield 33, 3) := by decide +kernel
theorem dX0_init_48 : decode cX0_init 48 = .ok (.aload_n 0, 1) := by decide +kernel
theorem dX0_init_49 : decode cX0_init 49 = .ok (.iload_n 2, 1) := by decide +kernel
theorem dX0_init_50 : decode cX0_init 50 = .ok (.putfield 36, 3) := by decide +kernel
theorem dX0_init_53 : decode cX0_init 53 = .ok (.aload_n 0, 1) := by decide +kernel
theorem dX0_init_54 : decode cX0_init 54 = .ok (.iconst 0, 1) := by decide +kernel
theorem dX0_init_55 : decode cX0_init 55 = .ok (.putfield 39, 3) := by decide +kernel
theorem dX0_init_58 : decode cX0_init 58 = .ok (.aload_n 0, 1) := by decide +kernel
theorem dX0_init_59 : decode cX0_init 59 = .ok (.aconst_null, 1) := by decide +kernel
theorem dX0_init_60 : decode cX0_init 60 = .ok (.putfield 42, 3) := by decide +kernel
theorem dX0_init_63 : decode cX0_init 63 = .ok (.aload_n 0, 1) := by decide +kernel
theorem dX0_init_64 : decode cX0_init 64 = .ok (.iconst (-1), 1) := by decide +kernel
theorem dX0_init_65 : decode cX0_init 65 = .ok (.putfield 46, 3) := by decide +kernel
theorem dX0_init_68 : decode cX0_init 68 = .ok (.aload_n 0, 1) := by decide +kernel
theorem dX0_init_69 : decode cX0_init 69 = .ok (.iconst (-1), 1) := by decide +kernel
theorem dX0_init_70 : decode cX0_init 70 = .ok (.putfield 49, 3) := by decide +kernel
theorem dX0_init_73 : decode cX0_init 73 = .ok (.return_, 1) := by decide +kernel
theorem dX0_wayTo_0 : decode cX0_wayTo 0 = .ok (.iload_n 1, 1) := by decide +kernel
theorem dX0_wayTo_1 : decode cX0_wayTo 1 = .ok (.invokestatic 52, 3) := by decide +kernel
theorem dX0_wayTo_4 : decode cX0_wayTo 4 = .ok (.aload_n 0, 1) := by decide +kernel
theorem dX0_wayTo_5 : decode cX0_wayTo 5 = .ok (.getfield 18, 3) := by decide +kernel
theorem dX0_wayTo_8 : decode cX0_wayTo 8 = .ok (.invokestatic 52, 3) := by decide +kernel
theorem dX0_wayTo_11 : decode cX0_wayTo 11 = .ok (.isub, 1) := by decide +kernel
theorem dX0_wayTo_12 : decode cX0_wayTo 12 = .ok (.invokestatic 56, 3) := by decide +kernel
theorem dX0_wayTo_15 : decode cX0_wayTo 15 = .ok (.iload_n 1, 1) := by decide +kernel
theorem dX0_wayTo_16 : decode cX0_wayTo 16 = .ok (.invokestatic 61, 3) := by decide +kernel
theorem dX0_wayTo_19 : decode cX0_wayTo 19 = .ok (.aload_n 0, 1) := by decide +kernel
theorem dX0_wayTo_20 : decode cX0_wayTo 20 = .ok (.getfield 18, 3) := by decide +kernel
theorem dX0_wayTo_23 : decode cX0_wayTo 23 = .ok (.invokestatic 61, 3) := by decide +kernel
theorem dX0_wayTo_26 : decode cX0_wayTo 26 = .ok (.isub, 1) := by decide +kernel
theorem dX0_wayTo_27 : decode cX0_wayTo 27 = .ok (.invokestatic 56, 3) := by decide +kernel
theorem dX0_wayTo_30 : decode cX0_wayTo 30 = .ok (.iadd, 1) := by decide +kernel
theorem dX0_wayTo_31 : decode cX0_wayTo 31 = .ok (.ireturn, 1) := by decide +kernel
theorem dX0_hoursFor_0 : decode cX0_hoursFor 0 = .ok (.iconst 1, 1) := by decide +kernel
theorem dX0_hoursFor_1 : decode cX0_hoursFor 1 = .ok (.istore_n 2, 1) := by decide +kernel
theorem dX0_hoursFor_2 : decode cX0_hoursFor 2 = .ok (.iload_n 2, 1) := by decide +kernel
theorem dX0_hoursFor_3 : decode cX0_hoursFor 3 = .ok (.iconst 5, 1) := by decide +kernel
theorem dX0_hoursFor_4 : decode cX0_hoursFor 4 = .ok (.if_icmp .gt 21, 3) := by decide +kernel
theorem dX0_hoursFor_7 : decode cX0_hoursFor 7 = .ok (.iload_n 2, 1) := by decide +kernel
theorem dX0_hoursFor_8 : decode cX0_hoursFor 8 = .ok (.aload_n 0, 1) := by decide +kernel
theorem dX0_hoursFor_9 : decode cX0_hoursFor 9 = .ok (.getfield 21, 3) := by decide +kernel
theorem dX0_hoursFor_12 : decode cX0_hoursFor 12 = .ok (.imul, 1) := by decide +kernel
theorem dX0_hoursFor_13 : decode cX0_hoursFor 13 = .ok (.iload_n 1, 1) := by decide +kernel
theorem dX0_hoursFor_14 : decode cX0_hoursFor 14 = .ok (.if_icmp .lt 5, 3) := by decide +kernel
theorem dX0_hoursFor_17 : decode cX0_hoursFor 17 = .ok (.iload_n 2, 1) := by decide +kernel
theorem dX0_hoursFor_18 : decode cX0_hoursFor 18 = .ok (.ireturn, 1) := by decide +kernel
theorem dX0_hoursFor_19 : decode cX0_hoursFor 19 = .ok (.iinc 2 1, 3) := by decide +kernel
theorem dX0_hoursFor_22 : decode cX0_hoursFor 22 = .ok (.goto (-20), 3) := by decide +kernel
theorem dX0_hoursFor_25 : decode cX0_hoursFor 25 = .ok (.iconst (-1), 1) := by decide +kernel
theorem dX0_hoursFor_26 : decode cX0_hoursFor 26 = .ok (.ireturn, 1) := by decide +kernel
theorem dX0_leaveFor_0 : decode cX0_leaveFor 0 = .ok (.aload_n 0, 1) := by decide +kernel
theorem dX0_leaveFor_1 : decode cX0_leaveFor 1 = .ok (.iconst 1, 1) := by decide +kernel
theorem dX0_leaveFor_2 : decode cX0_leaveFor 2 = .ok (.putfield 39, 3) := by decide +kernel
theorem dX0_leaveFor_5 : decode cX0_leaveFor 5 = .ok (.aload_n 0, 1) := by decide +kernel
theorem dX0_leaveFor_6 : decode cX0_leaveFor 6 = .ok (.aload_n 1, 1) := by decide +kernel
theorem dX0_leaveFor_7 : decode cX0_leaveFor 7 = .ok (.putfield 42, 3) := by decide +kernel
theorem dX0_leaveFor_10 : decode cX0_leaveFor 10 = .ok (.aload_n 0, 1) := by decide +kernel
theorem dX0_leaveFor_11 : decode cX0_leaveFor 11 = .ok (.aload_n 0, 1) := by decide +kernel
theorem dX0_leaveFor_12 : decode cX0_leaveFor 12 = .ok (.getfield 33, 3) := by decide +kernel
theorem dX0_leaveFor_15 : decode cX0_leaveFor 15 = .ok (.putfield 36, 3) := by decide +kernel
theorem dX0_leaveFor_18 : decode cX0_leaveFor 18 = .ok (.aload_n 0, 1) := by decide +kernel
theorem dX0_leaveFor_19 : decode cX0_leaveFor 19 = .ok (.iload_n 2, 1) := by decide +kernel
theorem dX0_leaveFor_20 : decode cX0_leaveFor 20 = .ok (.putfield 49, 3) := by decide +kernel
theorem dX0_leaveFor_23 : decode cX0_leaveFor 23 = .ok (.aload_n 0, 1) := by decide +kernel
theorem dX0_leaveFor_24 : decode cX0_leaveFor 24 = .ok (.iload_n 3, 1) := by decide +kernel
theorem dX0_leaveFor_25 : decode cX0_leaveFor 25 = .ok (.putfield 46, 3) := by decide +kernel
theorem dX0_leaveFor_28 : decode cX0_leaveFor 28 = .ok (.return_, 1) := by decide +kernel
theorem dX0_turnBack_0 : decode cX0_turnBack 0 = .ok (.aload_n 0, 1) := by decide +kernel
theorem dX0_turnBack_1 : decode cX0_turnBack 1 = .ok (.iconst 2, 1) := by decide +kernel
theorem dX0_turnBack_2 : decode cX0_turnBack 2 = .ok (.aload_n 0, 1) := by decide +kernel
theorem dX0_turnBack_3 : decode cX0_turnBack 3 = .ok (.getfield 21, 3) := by decide +kernel
theorem dX0_turnBack_6 : decode cX0_turnBack 6 = .ok (.imul, 1) := by decide +kernel
theorem dX0_turnBack_7 : decode cX0_turnBack 7 = .ok (.iload_n 1, 1) := by decide +kernel
theorem dX0_turnBack_8 : decode cX0_turnBack 8 = .ok (.aload_n 0, 1) := by decide +kernel
theorem dX0_turnBack_9 : decode cX0_turnBack 9 = .ok (.getfield 49, 3) := by decide +kernel
theorem dX0_turnBack_12 : decode cX0_turnBack 12 = .ok (.isub, 1) := by decide +kernel
theorem dX0_turnBack_13 : decode cX0_turnBack 13 = .ok (.imul, 1) := by decide +kernel
theorem dX0_turnBack_14 : decode cX0_turnBack 14 = .ok (.invokevirtual 64, 3) := by decide +kernel
theorem dX0_turnBack_17 : decode cX0_turnBack 17 = .ok (.aload_n 0, 1) := by decide +kernel
theorem dX0_turnBack_18 : decode cX0_turnBack 18 = .ok (.iload_n 1, 1) := by decide +kernel
theorem dX0_turnBack_19 : decode cX0_turnBack 19 = .ok (.invokevirtual 68, 3) := by decide +kernel
theorem dX0_turnBack_22 : decode cX0_turnBack 22 = .ok (.return_, 1) := by decide +kernel
theorem dX0_goHome_0 : decode cX0_goHome 0 = .ok (.aload_n 0, 1) := by decide +kernel
theorem dX0_goHome_1 : decode cX0_goHome 1 = .ok (.iconst 2, 1) := by decide +kernel
theorem dX0_goHome_2 : decode cX0_goHome 2 = .ok (.iload_n 2, 1) := by decide +kernel
theorem dX0_goHome_3 : decode cX0_goHome 3 = .ok (.imul, 1) := by decide +kernel
theorem dX0_goHome_4 : decode cX0_goHome 4 = .ok (.invokevirtual 64, 3) := by decide +kernel
theorem dX0_goHome_7 : decode cX0_goHome 7 = .ok (.aload_n 0, 1) := by decide +kernel
theorem dX0_goHome_8 : decode cX0_goHome 8 = .ok (.iload_n 1, 1) := by decide +kernel
theorem dX0_goHome_9 : decode cX0_goHome 9 = .ok (.invokevirtual 68, 3) := by decide +kernel
theorem dX0_goHome_12 : decode cX0_goHome 12 = .ok (.return_, 1) := by decide +kernel
theorem dX0_rest_0 : decode cX0_rest 0 = .ok (.aload_n 0, 1) := by decide +kernel
theorem dX0_rest_1 : decode cX0_rest 1 = .ok (.iconst 2, 1) := by decide +kernel
theorem dX0_rest_2 : decode cX0_rest 2 = .ok (.putfield 39, 3) := by decide +kernel
theorem dX0_rest_5 : decode cX0_rest 5 = .ok (.aload_n 0, 1) := by decide +kernel
theorem dX0_rest_6 : decode cX0_rest 6 = .ok (.aload_n 0, 1) := by decide +kernel
theorem dX0_rest_7 : decode cX0_rest 7 = .ok (.getfield 27, 3) := by decide +kernel
theorem dX0_rest_10 : decode cX0_rest 10 = .ok (.putfield 30, 3) := by decide +kernel
theorem dX0_rest_13 : decode cX0_rest 13 = .ok (.aload_n 0, 1) := by decide +kernel
theorem dX0_rest_14 : decode cX0_rest 14 = .ok (.iload_n 1, 1) := by decide +kernel
theorem dX0_rest_15 : decode cX0_rest 15 = .ok (.iload_n 1, 1) := by decide +kernel
theorem dX0_rest_16 : decode cX0_rest 16 = .ok (.aload_n 0, 1) := by decide +kernel
theorem dX0_rest_17 : decode cX0_rest 17 = .ok (.getfield 49, 3) := by decide +kernel
theorem dX0_rest_20 : decode cX0_rest 20 = .ok (.isub, 1) := by decide +kernel
theorem dX0_rest_21 : decode cX0_rest 21 = .ok (.iadd, 1) := by decide +kernel
theorem dX0_rest_22 : decode cX0_rest 22 = .ok (.putfield 46, 3) := by decide +kernel
theorem dX0_rest_25 : decode cX0_rest 25 = .ok (.return_, 1) := by decide +kernel
theorem dX0_becomeFree_0 : decode cX0_becomeFree 0 = .ok (.aload_n 0, 1) := by decide +kernel
theorem dX0_becomeFree_1 : decode cX0_becomeFree 1 = .ok (.iconst 0, 1) := by decide +kernel
theorem dX0_becomeFree_2 : decode cX0_becomeFree 2 = .ok (.putfield 39, 3) := by decide +kernel
theorem dX0_becomeFree_5 : decode cX0_becomeFree 5 = .ok (.aload_n 0, 1) := by decide +kernel
theorem dX0_becomeFree_6 : decode cX0_becomeFree 6 = .ok (.iconst (-1), 1) := by decide +kernel
theorem dX0_becomeFree_7 : decode cX0_becomeFree 7 = .ok (.putfield 46, 3) := by decide +kernel
theorem dX0_becomeFree_10 : decode cX0_becomeFree 10 = .ok (.return_, 1) := by decide +kernel
theorem dX0_burn_0 : decode cX0_burn 0 = .ok (.aload_n 0, 1) := by decide +kernel
theorem dX0_burn_1 : decode cX0_burn 1 = .ok (.dup, 1) := by decide +kernel
theorem dX0_burn_2 : decode cX0_burn 2 = .ok (.getfield 30, 3) := by decide +kernel
theorem dX0_burn_5 : decode cX0_burn 5 = .ok (.iload_n 1, 1) := by decide +kernel
theorem dX0_burn_6 : decode cX0_burn 6 = .ok (.aload_n 0, 1) := by decide +kernel
theorem dX0_burn_7 : decode cX0_burn 7 = .ok (.getfield 30, 3) := by decide +kernel
theorem dX0_burn_10 : decode cX0_burn 10 = .ok (.invokestatic 71, 3) := by decide +kernel
theorem dX0_burn_13 : decode cX0_burn 13 = .ok (.isub, 1) := by decide +kernel
theorem dX0_burn_14 : decode cX0_burn 14 = .ok (.putfield 30, 3) := by decide +kernel
theorem dX0_burn_17 : decode cX0_burn 17 = .ok (.return_, 1) := by decide +kernel
theorem dX0_headHome_0 : decode cX0_headHome 0 = .ok (.aload_n 0, 1) := by decide +kernel
theorem dX0_headHome_1 : decode cX0_headHome 1 = .ok (.aconst_null, 1) := by decide +kernel
theorem dX0_headHome_2 : decode cX0_headHome 2 = .ok (.putfield 42, 3) := by decide +kernel
theorem dX0_headHome_5 : decode cX0_headHome 5 = .ok (.aload_n 0, 1) := by decide +kernel
theorem dX0_headHome_6 : decode cX0_headHome 6 = .ok (.iload_n 1, 1) := by decide +kernel
theorem dX0_headHome_7 : decode cX0_headHome 7 = .ok (.iload_n 1, 1) := by decide +kernel
theorem dX0_headHome_8 : decode cX0_headHome 8 = .ok (.aload_n 0, 1) := by decide +kernel
theorem dX0_headHome_9 : decode cX0_headHome 9 = .ok (.getfield 49, 3) := by decide +kernel
theorem dX0_headHome_12 : decode cX0_headHome 12 = .ok (.isub, 1) := by decide +kernel
theorem dX0_headHome_13 : decode cX0_headHome 13 = .ok (.iadd, 1) := by decide +kernel
theorem dX0_headHome_14 : decode cX0_headHome 14 = .ok (.putfield 46, 3) := by decide +kernel
theorem dX0_headHome_17 : decode cX0_headHome 17 = .ok (.return_, 1) := by decide +kernel
theorem dX1_init_0 : decode cX1_init 0 = .ok (.aload_n 0, 1) := by decide +kernel
theorem dX1_init_1 : decode cX1_init 1 = .ok (.invokespecial 3, 3) := by decide +kernel
theorem dX1_init_4 : decode cX1_init 4 = .ok (.aload_n 0, 1) := by decide +kernel
theorem dX1_init_5 : decode cX1_init 5 = .ok (.iload_n 1, 1) := by decide +kernel
theorem dX1_init_6 : decode cX1_init 6 = .ok (.putfield 9, 3) := by decide +kernel
theorem dX1_init_9 : decode cX1_init 9 = .ok (.aload_n 0, 1) := by decide +kernel
theorem dX1_init_10 : decode cX1_init 10 = .ok (.iload_n 2, 1) := by decide +kernel
theorem dX1_init_11 : decode cX1_init 11 = .ok (.putfield 15, 3) := by decide +kernel
theorem dX1_init_14 : decode cX1_init 14 = .ok (.aload_n 0, 1) := by decide +kernel
theorem dX1_init_15 : decode cX1_init 15 = .ok (.iload_n 3, 1) := by decide +kernel
theorem dX1_init_16 : decode cX1_init 16 = .ok (.putfield 18, 3) := by decide +kernel
theorem dX1_init_19 : decode cX1_init 19 = .ok (.aload_n 0, 1) := by decide +kernel
theorem dX1_init_20 : decode cX1_init 20 = .ok (.iload 4, 2) := by decide +kernel
theorem dX1_init_22 : decode cX1_init 22 = .ok (.putfield 21, 3) := by decide +kernel
theorem dX1_init_25 : decode cX1_init 25 = .ok (.aload_n 0, 1) := by decide +kernel
theorem dX1_init_26 : decode cX1_init 26 = .ok (.iconst 0, 1) := by decide +kernel
theorem dX1_init_27 : decode cX1_init 27 = .ok (.putfield 24, 3) := by decide +kernel
theorem dX1_init_30 : decode cX1_init 30 = .ok (.aload_n 0, 1) := by decide +kernel
theorem dX1_init_31 : decode cX1_init 31 = .ok (.aconst_null, 1) := by decide +kernel
theorem dX1_init_32 : decode cX1_init 32 = .ok (.putfield 27, 3) := by decide +kernel
theorem dX1_init_35 : decode cX1_init 35 = .ok (.aload_n 0, 1) := by decide +kernel
theorem dX1_init_36 : decode cX1_init 36 = .ok (.iconst 0, 1) := by decide +kernel
theorem dX1_init_37 : decode cX1_init 37 = .ok (.putfield 31, 3) := by decide +kernel
theorem dX1_init_40 : decode cX1_init 40 = .ok (.aload_n 0, 1) := by decide +kernel
theorem dX1_init_41 : decode cX1_init 41 = .ok (.iconst 0, 1) := by decide +kernel
theorem dX1_init_42 : decode cX1_init 42 = .ok (.putfield 34, 3) := by decide +kernel
theorem dX1_init_45 : decode cX1_init 45 = .ok (.return_, 1) := by decide +kernel
theorem dX2_init_0 : decode cX2_init 0 = .ok (.aload_n 0, 1) := by decide +kernel
theorem dX2_init_1 : decode cX2_init 1 = .ok (.invokespecial 1, 3) := by decide +kernel
theorem dX2_init_4 : decode cX2_init 4 = .ok (.aload_n 0, 1) := by decide +kernel
theorem dX2_init_5 : decode cX2_init 5 = .ok (.iload_n 1, 1) := by decide +kernel
theorem dX2_init_6 : decode cX2_init 6 = .ok (.putfield 7, 3) := by decide +kernel
theorem dX2_init_9 : decode cX2_init 9 = .ok (.aload_n 0, 1) := by decide +kernel
theorem dX2_init_10 : decode cX2_init 10 = .ok (.iload_n 2, 1) := by decide +kernel
theorem dX2_init_11 : decode cX2_init 11 = .ok (.putfield 13, 3) := by decide +kernel
theorem dX2_init_14 : decode cX2_init 14 = .ok (.aload_n 0, 1) := by decide +kernel
theorem dX2_init_15 : decode cX2_init 15 = .ok (.iload_n 3, 1) := by decide +kernel
theorem dX2_init_16 : decode cX2_init 16 = .ok (.putfield 16, 3) := by decide +kernel
theorem dX2_init_19 : decode cX2_init 19 = .ok (.aload_n 0, 1) := by decide +kernel
theorem dX2_init_20 : decode cX2_init 20 = .ok (.iload 4, 2) := by decide +kernel
theorem dX2_init_22 : decode cX2_init 22 = .ok (.putfield 19, 3) := by decide +kernel
theorem dX2_init_25 : decode cX2_init 25 = .ok (.aload_n 0, 1) := by decide +kernel
theorem dX2_init_26 : decode cX2_init 26 = .ok (.iload 5, 2) := by decide +kernel
theorem dX2_init_28 : decode cX2_init 28 = .ok (.putfield 22, 3) := by decide +kernel
theorem dX2_init_31 : decode cX2_init 31 = .ok (.return_, 1) := by decide +kernel
theorem dX2_reward_0 : decode cX2_reward 0 = .ok (.bipush 10, 2) := by decide +kernel
theorem dX2_reward_2 : decode cX2_reward 2 = .ok (.aload_n 0, 1) := by decide +kernel
theorem dX2_reward_3 : decode cX2_reward 3 = .ok (.getfield 16, 3) := by decide +kernel
theorem dX2_reward_6 : decode cX2_reward 6 = .ok (.imul, 1) := by decide +kernel
theorem dX2_reward_7 : decode cX2_reward 7 = .ok (.iconst 5, 1) := by decide +kernel
theorem dX2_reward_8 : decode cX2_reward 8 = .ok (.aload_n 0, 1) := by decide +kernel
theorem dX2_reward_9 : decode cX2_reward 9 = .ok (.getfield 19, 3) := by decide +kernel
theorem dX2_reward_12 : decode cX2_reward 12 = .ok (.imul, 1) := by decide +kernel
theorem dX2_reward_13 : decode cX2_reward 13 = .ok (.iadd, 1) := by decide +kernel
theorem dX2_reward_14 : decode cX2_reward 14 = .ok (.aload_n 0, 1) := by decide +kernel
theorem dX2_reward_15 : decode cX2_reward 15 = .ok (.getfield 22, 3) := by decide +kernel
theorem dX2_reward_18 : decode cX2_reward 18 = .ok (.invokestatic 25, 3) := by decide +kernel
theorem dX2_reward_21 : decode cX2_reward 21 = .ok (.ireturn, 1) := by decide +kernel
theorem dX2_shareOf_0 : decode cX2_shareOf 0 = .ok (.aload_n 0, 1) := by decide +kernel
theorem dX2_shareOf_1 : decode cX2_shareOf 1 = .ok (.invokevirtual 31, 3) := by decide +kernel
theorem dX2_shareOf_4 : decode cX2_shareOf 4 = .ok (.istore_n 2, 1) := by decide +kernel
theorem dX2_shareOf_5 : decode cX2_shareOf 5 = .ok (.aload_n 0, 1) := by decide +kernel
theorem dX2_shareOf_6 : decode cX2_shareOf 6 = .ok (.getfield 7, 3) := by decide +kernel
theorem dX2_shareOf_9 : decode cX2_shareOf 9 = .ok (.aload_n 0, 1) := by decide +kernel
theorem dX2_shareOf_10 : decode cX2_shareOf 10 = .ok (.getfield 13, 3) := by decide +kernel
theorem dX2_shareOf_13 : decode cX2_shareOf 13 = .ok (.if_icmp .ne 7, 3) := by decide +kernel
theorem dX2_shareOf_16 : decode cX2_shareOf 16 = .ok (.iload_n 2, 1) := by decide +kernel
theorem dX2_shareOf_17 : decode cX2_shareOf 17 = .ok (.goto 6, 3) := by decide +kernel
theorem dX2_shareOf_20 : decode cX2_shareOf 20 = .ok (.iload_n 2, 1) := by decide +kernel
theorem dX2_shareOf_21 : decode cX2_shareOf 21 = .ok (.iconst 2, 1) := by decide +kernel
theorem dX2_shareOf_22 : decode cX2_shareOf 22 = .ok (.idiv, 1) := by decide +kernel
theorem dX2_shareOf_23 : decode cX2_shareOf 23 = .ok (.istore_n 3, 1) := by decide +kernel
theorem dX2_shareOf_24 : decode cX2_shareOf 24 = .ok (.iload_n 1, 1) := by decide +kernel
theorem dX2_shareOf_25 : decode cX2_shareOf 25 = .ok (.aload_n 0, 1) := by decide +kernel
theorem dX2_shareOf_26 : decode cX2_shareOf 26 = .ok (.getfield 7, 3) := by decide +kernel
theorem dX2_shareOf_29 : decode cX2_shareOf 29 = .ok (.if_icmp .ne 7, 3) := by decide +kernel
theorem dX2_shareOf_32 : decode cX2_shareOf 32 = .ok (.iload_n 3, 1) := by decide +kernel
theorem dX2_shareOf_33 : decode cX2_shareOf 33 = .ok (.goto 4, 3) := by decide +kernel
theorem dX2_shareOf_36 : decode cX2_shareOf 36 = .ok (.iconst 0, 1) := by decide +kernel
theorem dX2_shareOf_37 : decode cX2_shareOf 37 = .ok (.istore 4, 2) := by decide +kernel
theorem dX2_shareOf_39 : decode cX2_shareOf 39 = .ok (.iload_n 1, 1) := by decide +kernel
theorem dX2_shareOf_40 : decode cX2_shareOf 40 = .ok (.aload_n 0, 1) := by decide +kernel
theorem dX2_shareOf_41 : decode cX2_shareOf 41 = .ok (.getfield 13, 3) := by decide +kernel
theorem dX2_shareOf_44 : decode cX2_shareOf 44 = .ok (.if_icmp .ne 12, 3) := by decide +kernel
theorem dX2_shareOf_47 : decode cX2_shareOf 47 = .ok (.iload 4, 2) := by decide +kernel
theorem dX2_shareOf_49 : decode cX2_shareOf 49 = .ok (.iload_n 2, 1) := by decide +kernel
theorem dX2_shareOf_50 : decode cX2_shareOf 50 = .ok (.iadd, 1) := by decide +kernel
theorem dX2_shareOf_51 : decode cX2_shareOf 51 = .ok (.iload_n 3, 1) := by decide +kernel
theorem dX2_shareOf_52 : decode cX2_shareOf 52 = .ok (.isub, 1) := by decide +kernel
theorem dX2_shareOf_53 : decode cX2_shareOf 53 = .ok (.goto 5, 3) := by decide +kernel
theorem dX2_shareOf_56 : decode cX2_shareOf 56 = .ok (.iload 4, 2) := by decide +kernel
theorem dX2_shareOf_58 : decode cX2_shareOf 58 = .ok (.ireturn, 1) := by decide +kernel
theorem dX3_init_0 : decode cX3_init 0 = .ok (.aload_n 0, 1) := by decide +kernel
theorem dX3_init_1 : decode cX3_init 1 = .ok (.invokespecial 3, 3) := by decide +kernel
theorem dX3_init_4 : decode cX3_init 4 = .ok (.aload_n 0, 1) := by decide +kernel
theorem dX3_init_5 : decode cX3_init 5 = .ok (.iconst 3, 1) := by decide +kernel
theorem dX3_init_6 : decode cX3_init 6 = .ok (.newarray .int, 2) := by decide +kernel
theorem dX3_init_8 : decode cX3_init 8 = .ok (.putfield 9, 3) := by decide +kernel
theorem dX3_init_11 : decode cX3_init 11 = .ok (.aload_n 0, 1) := by decide +kernel
theorem dX3_init_12 : decode cX3_init 12 = .ok (.new 15, 3) := by decide +kernel
theorem dX3_init_15 : decode cX3_init 15 = .ok (.dup, 1) := by decide +kernel
theorem dX3_init_16 : decode cX3_init 16 = .ok (.invokespecial 17, 3) := by decide +kernel
theorem dX3_init_19 : decode cX3_init 19 = .ok (.putfield 18, 3) := by decide +kernel
theorem dX3_init_22 : decode cX3_init 22 = .ok (.return_, 1) := by decide +kernel
theorem dX3_pay_0 : decode cX3_pay 0 = .ok (.aload_n 0, 1) := by decide +kernel
theorem dX3_pay_1 : decode cX3_pay 1 = .ok (.getfield 18, 3) := by decide +kernel
theorem dX3_pay_4 : decode cX3_pay 4 = .ok (.aload_n 1, 1) := by decide +kernel
theorem dX3_pay_5 : decode cX3_pay 5 = .ok (.invokeinterface 22 2, 5) := by decide +kernel
theorem dX3_pay_10 : decode cX3_pay 10 = .ok (.pop, 1) := by decide +kernel
theorem dX3_pay_11 : decode cX3_pay 11 = .ok (.iconst 0, 1) := by decide +kernel
theorem dX3_pay_12 : decode cX3_pay 12 = .ok (.istore_n 2, 1) := by decide +kernel
theorem dX3_pay_13 : decode cX3_pay 13 = .ok (.iload_n 2, 1) := by decide +kernel
theorem dX3_pay_14 : decode cX3_pay 14 = .ok (.aload_n 0, 1) := by decide +kernel
theorem dX3_pay_15 : decode cX3_pay 15 = .ok (.getfield 9, 3) := by decide +kernel
theorem dX3_pay_18 : decode cX3_pay 18 = .ok (.arraylength, 1) := by decide +kernel
theorem dX3_pay_19 : decode cX3_pay 19 = .ok (.if_icmp .ge 23, 3) := by decide +kernel
theorem dX3_pay_22 : decode cX3_pay 22 = .ok (.aload_n 0, 1) := by decide +kernel
theorem dX3_pay_23 : decode cX3_pay 23 = .ok (.getfield 9, 3) := by decide +kernel
theorem dX3_pay_26 : decode cX3_pay 26 = .ok (.iload_n 2, 1) := by decide +kernel
theorem dX3_pay_27 : decode cX3_pay 27 = .ok (.dup2, 1) := by decide +kernel
theorem dX3_pay_28 : decode cX3_pay 28 = .ok (.iaload, 1) := by decide +kernel
theorem dX3_pay_29 : decode cX3_pay 29 = .ok (.aload_n 1, 1) := by decide +kernel
theorem dX3_pay_30 : decode cX3_pay 30 = .ok (.iload_n 2, 1) := by decide +kernel
theorem dX3_pay_31 : decode cX3_pay 31 = .ok (.invokevirtual 28, 3) := by decide +kernel
theorem dX3_pay_34 : decode cX3_pay 34 = .ok (.iadd, 1) := by decide +kernel
theorem dX3_pay_35 : decode cX3_pay 35 = .ok (.iastore, 1) := by decide +kernel
theorem dX3_pay_36 : decode cX3_pay 36 = .ok (.iinc 2 1, 3) := by decide +kernel
theorem dX3_pay_39 : decode cX3_pay 39 = .ok (.goto (-26), 3) := by decide +kernel
theorem dX3_pay_42 : decode cX3_pay 42 = .ok (.return_, 1) := by decide +kernel
theorem dX3_paidTo_0 : decode cX3_paidTo 0 = .ok (.iload_n 1, 1) := by decide +kernel
theorem dX3_paidTo_1 : decode cX3_paidTo 1 = .ok (.ifCond .lt 21, 3) := by decide +kernel
theorem dX3_paidTo_4 : decode cX3_paidTo 4 = .ok (.iload_n 1, 1) := by decide +kernel
theorem dX3_paidTo_5 : decode cX3_paidTo 5 = .ok (.aload_n 0, 1) := by decide +kernel
theorem dX3_paidTo_6 : decode cX3_paidTo 6 = .ok (.getfield 9, 3) := by decide +kernel
theorem dX3_paidTo_9 : decode cX3_paidTo 9 = .ok (.arraylength, 1) := by decide +kernel
theorem dX3_paidTo_10 : decode cX3_paidTo 10 = .ok (.if_icmp .ge 12, 3) := by decide +kernel
theorem dX3_paidTo_13 : decode cX3_paidTo 13 = .ok (.aload_n 0, 1) := by decide +kernel
theorem dX3_paidTo_14 : decode cX3_paidTo 14 = .ok (.getfield 9, 3) := by decide +kernel
theorem dX3_paidTo_17 : decode cX3_paidTo 17 = .ok (.iload_n 1, 1) := by decide +kernel
theorem dX3_paidTo_18 : decode cX3_paidTo 18 = .ok (.iaload, 1) := by decide +kernel
theorem dX3_paidTo_19 : decode cX3_paidTo 19 = .ok (.goto 4, 3) := by decide +kernel
theorem dX3_paidTo_22 : decode cX3_paidTo 22 = .ok (.iconst 0, 1) := by decide +kernel
theorem dX3_paidTo_23 : decode cX3_paidTo 23 = .ok (.ireturn, 1) := by decide +kernel
theorem dX3_foundInLogFor_0 : decode cX3_foundInLogFor 0 = .ok (.iconst 0, 1) := by decide +kernel
theorem dX3_foundInLogFor_1 : decode cX3_foundInLogFor 1 = .ok (.istore_n 2, 1) := by decide +kernel
theorem dX3_foundInLogFor_2 : decode cX3_foundInLogFor 2 = .ok (.iconst 0, 1) := by decide +kernel
theorem dX3_foundInLogFor_3 : decode cX3_foundInLogFor 3 = .ok (.istore_n 3, 1) := by decide +kernel
theorem dX3_foundInLogFor_4 : decode cX3_foundInLogFor 4 = .ok (.iload_n 3, 1) := by decide +kernel
theorem dX3_foundInLogFor_5 : decode cX3_foundInLogFor 5 = .ok (.aload_n 0, 1) := by decide +kernel
theorem dX3_foundInLogFor_6 : decode cX3_foundInLogFor 6 = .ok (.getfield 18, 3) := by decide +kernel
theorem dX3_foundInLogFor_9 : decode cX3_foundInLogFor 9 = .ok (.invokeinterface 34 1, 5) := by decide +kernel
theorem dX3_foundInLogFor_14 : decode cX3_foundInLogFor 14 = .ok (.if_icmp .ge 29, 3) := by decide +kernel
theorem dX3_foundInLogFor_17 : decode cX3_foundInLogFor 17 = .ok (.iload_n 2, 1) := by decide +kernel
theorem dX3_foundInLogFor_18 : decode cX3_foundInLogFor 18 = .ok (.aload_n 0, 1) := by decide +kernel
theorem dX3_foundInLogFor_19 : decode cX3_foundInLogFor 19 = .ok (.getfield 18, 3) := by decide +kernel
theorem dX3_foundInLogFor_22 : decode cX3_foundInLogFor 22 = .ok (.iload_n 3, 1) := by decide +kernel
theorem dX3_foundInLogFor_23 : decode cX3_foundInLogFor 23 = .ok (.invokeinterface 38 2, 5) := by decide +kernel
theorem dX3_foundInLogFor_28 : decode cX3_foundInLogFor 28 = .ok (.checkcast 29, 3) := by decide +kernel
theorem dX3_foundInLogFor_31 : decode cX3_foundInLogFor 31 = .ok (.iload_n 1, 1) := by decide +kernel
theorem dX3_foundInLogFor_32 : decode cX3_foundInLogFor 32 = .ok (.invokevirtual 28, 3) := by decide +kernel
theorem dX3_foundInLogFor_35 : decode cX3_foundInLogFor 35 = .ok (.iadd, 1) := by decide +kernel
theorem dX3_foundInLogFor_36 : decode cX3_foundInLogFor 36 = .ok (.istore_n 2, 1) := by decide +kernel
theorem dX3_foundInLogFor_37 : decode cX3_foundInLogFor 37 = .ok (.iinc 3 1, 3) := by decide +kernel
theorem dX3_foundInLogFor_40 : decode cX3_foundInLogFor 40 = .ok (.goto (-36), 3) := by decide +kernel
theorem dX3_foundInLogFor_43 : decode cX3_foundInLogFor 43 = .ok (.iload_n 2, 1) := by decide +kernel
theorem dX3_foundInLogFor_44 : decode cX3_foundInLogFor 44 = .ok (.ireturn, 1) := by decide +kernel
theorem dX4_init_0 : decode cX4_init 0 = .ok (.aload_n 0, 1) := by decide +kernel
theorem dX4_init_1 : decode cX4_init 1 = .ok (.invokespecial 3, 3) := by decide +kernel
theorem dX4_init_4 : decode cX4_init 4 = .ok (.aload_n 0, 1) := by decide +kernel
theorem dX4_init_5 : decode cX4_init 5 = .ok (.sipush 3024, 3) := by decide +kernel
theorem dX4_init_8 : decode cX4_init 8 = .ok (.newarray .long, 2) := by decide +kernel
theorem dX4_init_10 : decode cX4_init 10 = .ok (.putfield 11, 3) := by decide +kernel
theorem dX4_init_13 : decode cX4_init 13 = .ok (.return_, 1) := by decide +kernel
theorem dX4_put_0 : decode cX4_put 0 = .ok (.iload 4, 2) := by decide +kernel
theorem dX4_put_2 : decode cX4_put 2 = .ok (.i2l, 1) := by decide +kernel
theorem dX4_put_3 : decode cX4_put 3 = .ok (.ldc2_w 15, 3) := by decide +kernel
theorem dX4_put_6 : decode cX4_put 6 = .ok (.lmul, 1) := by decide +kernel
theorem dX4_put_7 : decode cX4_put 7 = .ok (.lstore 5, 2) := by decide +kernel
theorem dX4_put_9 : decode cX4_put 9 = .ok (.iload_n 2, 1) := by decide +kernel
theorem dX4_put_10 : decode cX4_put 10 = .ok (.bipush 16, 2) := by decide +kernel
theorem dX4_put_12 : decode cX4_put 12 = .ok (.idiv, 1) := by decide +kernel
theorem dX4_put_13 : decode cX4_put 13 = .ok (.istore 7, 2) := by decide +kernel
theorem dX4_put_15 : decode cX4_put 15 = .ok (.iload 7, 2) := by decide +kernel
theorem dX4_put_17 : decode cX4_put 17 = .ok (.iload_n 3, 1) := by decide +kernel
theorem dX4_put_18 : decode cX4_put 18 = .ok (.bipush 16, 2) := by decide +kernel
theorem dX4_put_20 : decode cX4_put 20 = .ok (.idiv, 1) := by decide +kernel
theorem dX4_put_21 : decode cX4_put 21 = .ok (.if_icmp .gt 89, 3) := by decide +kernel
theorem dX4_put_24 : decode cX4_put 24 = .ok (.iload_n 1, 1) := by decide +kernel
theorem dX4_put_25 : decode cX4_put 25 = .ok (.bipush 63, 2) := by decide +kernel
theorem dX4_put_27 : decode cX4_put 27 = .ok (.imul, 1) := by decide +kernel
theorem dX4_put_28 : decode cX4_put 28 = .ok (.iload 7, 2) := by decide +kernel
theorem dX4_put_30 : decode cX4_put 30 = .ok (.iadd, 1) := by decide +kernel
theorem dX4_put_31 : decode cX4_put 31 = .ok (.istore 8, 2) := by decide +kernel
theorem dX4_put_33 : decode cX4_put 33 = .ok (.iload 8, 2) := by decide +kernel
theorem dX4_put_35 : decode cX4_put 35 = .ok (.ifCond .lt 69, 3) := by decide +kernel
theorem dX4_put_38 : decode cX4_put 38 = .ok (.iload 8, 2) := by decide +kernel
theorem dX4_put_40 : decode cX4_put 40 = .ok (.aload_n 0, 1) := by decide +kernel
theorem dX4_put_41 : decode cX4_put 41 = .ok (.getfield 11, 3) := by decide +kernel
theorem dX4_put_44 : decode cX4_put 44 = .ok (.arraylength, 1) := by decide +kernel
theorem dX4_put_45 : decode cX4_put 45 = .ok (.if_icmp .ge 59, 3) := by decide +kernel
theorem dX4_put_48 : decode cX4_put 48 = .ok (.iload 7, 2) := by decide +kernel
theorem dX4_put_50 : decode cX4_put 50 = .ok (.bipush 16, 2) := by decide +kernel
theorem dX4_put_52 : decode cX4_put 52 = .ok (.imul, 1) := by decide +kernel
theorem dX4_put_53 : decode cX4_put 53 = .ok (.istore 9, 2) := by decide +kernel
theorem dX4_put_55 : decode cX4_put 55 = .ok (.iload_n 2, 1) := by decide +kernel
theorem dX4_put_56 : decode cX4_put 56 = .ok (.iload 9, 2) := by decide +kernel
theorem dX4_put_58 : decode cX4_put 58 = .ok (.isub, 1) := by decide +kernel
theorem dX4_put_59 : decode cX4_put 59 = .ok (.iconst 0, 1) := by decide +kernel
theorem dX4_put_60 : decode cX4_put 60 = .ok (.invokestatic 17, 3) := by decide +kernel
theorem dX4_put_63 : decode cX4_put 63 = .ok (.iload_n 3, 1) := by decide +kernel
theorem dX4_put_64 : decode cX4_put 64 = .ok (.iload 9, 2) := by decide +kernel
theorem dX4_put_66 : decode cX4_put 66 = .ok (.isub, 1) := by decide +kernel
theorem dX4_put_67 : decode cX4_put 67 = .ok (.bipush 15, 2) := by decide +kernel
theorem dX4_put_69 : decode cX4_put 69 = .ok (.invokestatic 23, 3) := by decide +kernel
theorem dX4_put_72 : decode cX4_put 72 = .ok (.invokestatic 26, 3) := by decide +kernel
theorem dX4_put_75 : decode cX4_put 75 = .ok (.lstore 10, 2) := by decide +kernel
theorem dX4_put_77 : decode cX4_put 77 = .ok (.aload_n 0, 1) := by decide +kernel
theorem dX4_put_78 : decode cX4_put 78 = .ok (.getfield 11, 3) := by decide +kernel
theorem dX4_put_81 : decode cX4_put 81 = .ok (.iload 8, 2) := by decide +kernel
theorem dX4_put_83 : decode cX4_put 83 = .ok (.aload_n 0, 1) := by decide +kernel
theorem dX4_put_84 : decode cX4_put 84 = .ok (.getfield 11, 3) := by decide +kernel
theorem dX4_put_87 : decode cX4_put 87 = .ok (.iload 8, 2) := by decide +kernel
theorem dX4_put_89 : decode cX4_put 89 = .ok (.laload, 1) := by decide +kernel
theorem dX4_put_90 : decode cX4_put 90 = .ok (.lload 10, 2) := by decide +kernel
theorem dX4_put_92 : decode cX4_put 92 = .ok (.ldc2_w 30, 3) := by decide +kernel
theorem dX4_put_95 : decode cX4_put 95 = .ok (.lxor, 1) := by decide +kernel
theorem dX4_put_96 : decode cX4_put 96 = .ok (.land, 1) := by decide +kernel
theorem dX4_put_97 : decode cX4_put 97 = .ok (.lload 5, 2) := by decide +kernel
theorem dX4_put_99 : decode cX4_put 99 = .ok (.lload 10, 2) := by decide +kernel
theorem dX4_put_101 : decode cX4_put 101 = .ok (.land, 1) := by decide +kernel
theorem dX4_put_102 : decode cX4_put 102 = .ok (.lor, 1) := by decide +kernel
theorem dX4_put_103 : decode cX4_put 103 = .ok (.lastore, 1) := by decide +kernel
theorem dX4_put_104 : decode cX4_put 104 = .ok (.iinc 7 1, 3) := by decide +kernel
theorem dX4_put_107 : decode cX4_put 107 = .ok (.goto (-92), 3) := by decide +kernel
theorem dX4_put_110 : decode cX4_put 110 = .ok (.return_, 1) := by decide +kernel
theorem dX4_at_0 : decode cX4_at 0 = .ok (.iload_n 1, 1) := by decide +kernel
theorem dX4_at_1 : decode cX4_at 1 = .ok (.bipush 63, 2) := by decide +kernel
theorem dX4_at_3 : decode cX4_at 3 = .ok (.imul, 1) := by decide +kernel
theorem dX4_at_4 : decode cX4_at 4 = .ok (.iload_n 2, 1) := by decide +kernel
theorem dX4_at_5 : decode cX4_at 5 = .ok (.bipush 16, 2) := by decide +kernel
theorem dX4_at_7 : decode cX4_at 7 = .ok (.idiv, 1) := by decide +kernel
theorem dX4_at_8 : decode cX4_at 8 = .ok (.iadd, 1) := by decide +kernel
theorem dX4_at_9 : decode cX4_at 9 = .ok (.istore_n 3, 1) := by decide +kernel
theorem dX4_at_10 : decode cX4_at 10 = .ok (.iload_n 3, 1) := by decide +kernel
theorem dX4_at_11 : decode cX4_at 11 = .ok (.ifCond .lt 12, 3) := by decide +kernel
theorem dX4_at_14 : decode cX4_at 14 = .ok (.iload_n 3, 1) := by decide +kernel
theorem dX4_at_15 : decode cX4_at 15 = .ok (.aload_n 0, 1) := by decide +kernel
theorem dX4_at_16 : decode cX4_at 16 = .ok (.getfield 11, 3) := by decide +kernel
theorem dX4_at_19 : decode cX4_at 19 = .ok (.arraylength, 1) := by decide +kernel
theorem dX4_at_20 : decode cX4_at 20 = .ok (.if_icmp .lt 5, 3) := by decide +kernel
theorem dX4_at_23 : decode cX4_at 23 = .ok (.iconst 0, 1) := by decide +kernel
theorem dX4_at_24 : decode cX4_at 24 = .ok (.ireturn, 1) := by decide +kernel
theorem dX4_at_25 : decode cX4_at 25 = .ok (.aload_n 0, 1) := by decide +kernel
theorem dX4_at_26 : decode cX4_at 26 = .ok (.getfield 11, 3) := by decide +kernel
theorem dX4_at_29 : decode cX4_at 29 = .ok (.iload_n 3, 1) := by decide +kernel
theorem dX4_at_30 : decode cX4_at 30 = .ok (.laload, 1) := by decide +kernel
theorem dX4_at_31 : decode cX4_at 31 = .ok (.iconst 4, 1) := by decide +kernel
theorem dX4_at_32 : decode cX4_at 32 = .ok (.iload_n 2, 1) := by decide +kernel
theorem dX4_at_33 : decode cX4_at 33 = .ok (.bipush 16, 2) := by decide +kernel
theorem dX4_at_35 : decode cX4_at 35 = .ok (.irem, 1) := by decide +kernel
theorem dX4_at_36 : decode cX4_at 36 = .ok (.imul, 1) := by decide +kernel
theorem dX4_at_37 : decode cX4_at 37 = .ok (.lushr, 1) := by decide +kernel
theorem dX4_at_38 : decode cX4_at 38 = .ok (.l2i, 1) := by decide +kernel
theorem dX4_at_39 : decode cX4_at 39 = .ok (.bipush 15, 2) := by decide +kernel
theorem dX4_at_41 : decode cX4_at 41 = .ok (.iand, 1) := by decide +kernel
theorem dX4_at_42 : decode cX4_at 42 = .ok (.ireturn, 1) := by decide +kernel
theorem dX4_greatest_0 : decode cX4_greatest 0 = .ok (.iconst 0, 1) := by decide +kernel
theorem dX4_greatest_1 : decode cX4_greatest 1 = .ok (.istore 4, 2) := by decide +kernel
theorem dX4_greatest_3 : decode cX4_greatest 3 = .ok (.iload_n 2, 1) := by decide +kernel
theorem dX4_greatest_4 : decode cX4_greatest 4 = .ok (.istore 5, 2) := by decide +kernel
theorem dX4_greatest_6 : decode cX4_greatest 6 = .ok (.iload 5, 2) := by decide +kernel
theorem dX4_greatest_8 : decode cX4_greatest 8 = .ok (.iload_n 3, 1) := by decide +kernel
theorem dX4_greatest_9 : decode cX4_greatest 9 = .ok (.if_icmp .gt 23, 3) := by decide +kernel
theorem dX4_greatest_12 : decode cX4_greatest 12 = .ok (.iload 4, 2) := by decide +kernel
theorem dX4_greatest_14 : decode cX4_greatest 14 = .ok (.aload_n 0, 1) := by decide +kernel
theorem dX4_greatest_15 : decode cX4_greatest 15 = .ok (.iload_n 1, 1) := by decide +kernel
theorem dX4_greatest_16 : decode cX4_greatest 16 = .ok (.iload 5, 2) := by decide +kernel
theorem dX4_greatest_18 : decode cX4_greatest 18 = .ok (.invokevirtual 32, 3) := by decide +kernel
theorem dX4_greatest_21 : decode cX4_greatest 21 = .ok (.invokestatic 17, 3) := by decide +kernel
theorem dX4_greatest_24 : decode cX4_greatest 24 = .ok (.istore 4, 2) := by decide +kernel
theorem dX4_greatest_26 : decode cX4_greatest 26 = .ok (.iinc 5 1, 3) := by decide +kernel
theorem dX4_greatest_29 : decode cX4_greatest 29 = .ok (.goto (-23), 3) := by decide +kernel
theorem dX4_greatest_32 : decode cX4_greatest 32 = .ok (.iload 4, 2) := by decide +kernel
theorem dX4_greatest_34 : decode cX4_greatest 34 = .ok (.ireturn, 1) := by decide +kernel
theorem dX4_maskOf_0 : decode cX4_maskOf 0 = .ok (.ldc2_w 30, 3) := by decide +kernel
theorem dX4_maskOf_3 : decode cX4_maskOf 3 = .ok (.iconst 4, 1) := by decide +kernel
theorem dX4_maskOf_4 : decode cX4_maskOf 4 = .ok (.iload_n 0, 1) := by decide +kernel
theorem dX4_maskOf_5 : decode cX4_maskOf 5 = .ok (.imul, 1) := by decide +kernel
theorem dX4_maskOf_6 : decode cX4_maskOf 6 = .ok (.lshl, 1) := by decide +kernel
theorem dX4_maskOf_7 : decode cX4_maskOf 7 = .ok (.lstore_n 2, 1) := by decide +kernel
theorem dX4_maskOf_8 : decode cX4_maskOf 8 = .ok (.ldc2_w 30, 3) := by decide +kernel
theorem dX4_maskOf_11 : decode cX4_maskOf 11 = .ok (.iconst 4, 1) := by decide +kernel
theorem dX4_maskOf_12 : decode cX4_maskOf 12 = .ok (.bipush 15, 2) := by decide +kernel
theorem dX4_maskOf_14 : decode cX4_maskOf 14 = .ok (.iload_n 1, 1) := by decide +kernel
theorem dX4_maskOf_15 : decode cX4_maskOf 15 = .ok (.isub, 1) := by decide +kernel
theorem dX4_maskOf_16 : decode cX4_maskOf 16 = .ok (.imul, 1) := by decide +kernel
theorem dX4_maskOf_17 : decode cX4_maskOf 17 = .ok (.lushr, 1) := by decide +kernel
theorem dX4_maskOf_18 : decode cX4_maskOf 18 = .ok (.lstore 4, 2) := by decide +kernel
theorem dX4_maskOf_20 : decode cX4_maskOf 20 = .ok (.lload_n 2, 1) := by decide +kernel
theorem dX4_maskOf_21 : decode cX4_maskOf 21 = .ok (.lload 4, 2) := by decide +kernel
theorem dX4_maskOf_23 : decode cX4_maskOf 23 = .ok (.land, 1) := by decide +kernel
theorem dX4_maskOf_24 : decode cX4_maskOf 24 = .ok (.lreturn, 1) := by decide +kernel
theorem dX5_init_0 : decode cX5_init 0 = .ok (.aload_n 0, 1) := by decide +kernel
theorem dX5_init_1 : decode cX5_init 1 = .ok (.invokespecial 1, 3) := by decide +kernel
theorem dX5_init_4 : decode cX5_init 4 = .ok (.aload_n 0, 1) := by decide +kernel
theorem dX5_init_5 : decode cX5_init 5 = .ok (.new 7, 3) := by decide +kernel
theorem dX5_init_8 : decode cX5_init 8 = .ok (.dup, 1) := by decide +kernel
theorem dX5_init_9 : decode cX5_init 9 = .ok (.invokespecial 9, 3) := by decide +kernel
theorem dX5_init_12 : decode cX5_init 12 = .ok (.putfield 10, 3) := by decide +kernel
theorem dX5_init_15 : decode cX5_init 15 = .ok (.aload_n 0, 1) := by decide +kernel
theorem dX5_init_16 : decode cX5_init 16 = .ok (.new 16, 3) := by decide +kernel
theorem dX5_init_19 : decode cX5_init 19 = .ok (.dup, 1) := by decide +kernel
theorem dX5_init_20 : decode cX5_init 20 = .ok (.invokespecial 18, 3) := by decide +kernel
theorem dX5_init_23 : decode cX5_init 23 = .ok (.putfield 19, 3) := by decide +kernel
theorem dX5_init_26 : decode cX5_init 26 = .ok (.aload_n 0, 1) := by decide +kernel
theorem dX5_init_27 : decode cX5_init 27 = .ok (.new 23, 3) := by decide +kernel
theorem dX5_init_30 : decode cX5_init 30 = .ok (.dup, 1) := by decide +kernel
theorem dX5_init_31 : decode cX5_init 31 = .ok (.invokespecial 25, 3) := by decide +kernel
theorem dX5_init_34 : decode cX5_init 34 = .ok (.putfield 26, 3) := by decide +kernel
theorem dX5_init_37 : decode cX5_init 37 = .ok (.aload_n 0, 1) := by decide +kernel
theorem dX5_init_38 : decode cX5_init 38 = .ok (.new 23, 3) := by decide +kernel
theorem dX5_init_41 : decode cX5_init 41 = .ok (.dup, 1) := by decide +kernel
theorem dX5_init_42 : decode cX5_init 42 = .ok (.invokespecial 25, 3) := by decide +kernel
theorem dX5_init_45 : decode cX5_init 45 = .ok (.putfield 30, 3) := by decide +kernel
theorem dX5_init_48 : decode cX5_init 48 = .ok (.aload_n 0, 1) := by decide +kernel
theorem dX5_init_49 : decode cX5_init 49 = .ok (.iconst 0, 1) := by decide +kernel
theorem dX5_init_50 : decode cX5_init 50 = .ok (.putfield 33, 3) := by decide +kernel
theorem dX5_init_53 : decode cX5_init 53 = .ok (.aload_n 0, 1) := by decide +kernel
theorem dX5_init_54 : decode cX5_init 54 = .ok (.sipush 200, 3) := by decide +kernel
theorem dX5_init_57 : decode cX5_init 57 = .ok (.putfield 37, 3) := by decide +kernel
theorem dX5_init_60 : decode cX5_init 60 = .ok (.return_, 1) := by decide +kernel
theorem dX5_boat_0 : decode cX5_boat 0 = .ok (.iload_n 1, 1) := by decide +kernel
theorem dX5_boat_1 : decode cX5_boat 1 = .ok (.invokestatic 40, 3) := by decide +kernel
theorem dX5_boat_4 : decode cX5_boat 4 = .ok (.iload_n 2, 1) := by decide +kernel
theorem dX5_boat_5 : decode cX5_boat 5 = .ok (.invokestatic 44, 3) := by decide +kernel
theorem dX5_boat_8 : decode cX5_boat 8 = .ok (.iload_n 3, 1) := by decide +kernel
theorem dX5_boat_9 : decode cX5_boat 9 = .ok (.iconst 1, 1) := by decide +kernel
theorem dX5_boat_10 : decode cX5_boat 10 = .ok (.iconst 3, 1) := by decide +kernel
theorem dX5_boat_11 : decode cX5_boat 11 = .ok (.invokestatic 47, 3) := by decide +kernel
theorem dX5_boat_14 : decode cX5_boat 14 = .ok (.iload 4, 2) := by decide +kernel
theorem dX5_boat_16 : decode cX5_boat 16 = .ok (.iconst 1, 1) := by decide +kernel
theorem dX5_boat_17 : decode cX5_boat 17 = .ok (.bipush 100, 2) := by decide +kernel
theorem dX5_boat_19 : decode cX5_boat 19 = .ok (.invokestatic 47, 3) := by decide +kernel
theorem dX5_boat_22 : decode cX5_boat 22 = .ok (.iload 5, 2) := by decide +kernel
theorem dX5_boat_24 : decode cX5_boat 24 = .ok (.iconst 0, 1) := by decide +kernel
theorem dX5_boat_25 : decode cX5_boat 25 = .ok (.bipush 9, 2) := by decide +kernel
theorem dX5_boat_27 : decode cX5_boat 27 = .ok (.invokestatic 47, 3) := by decide +kernel
theorem dX5_boat_30 : decode cX5_boat 30 = .ok (.aload_n 0, 1) := by decide +kernel
theorem dX5_boat_31 : decode cX5_boat 31 = .ok (.getfield 26, 3) := by decide +kernel
theorem dX5_boat_34 : decode cX5_boat 34 = .ok (.invokeinterface 51 1, 5) := by decide +kernel
theorem dX5_boat_39 : decode cX5_boat 39 = .ok (.istore 6, 2) := by decide +kernel
theorem dX5_boat_41 : decode cX5_boat 41 = .ok (.iload 6, 2) := by decide +kernel
theorem dX5_boat_43 : decode cX5_boat 43 = .ok (.bipush 6, 2) := by decide +kernel
theorem dX5_boat_45 : decode cX5_boat 45 = .ok (.if_icmp .lt 13, 3) := by decide +kernel
theorem dX5_boat_48 : decode cX5_boat 48 = .ok (.new 57, 3) := by decide +kernel
theorem dX5_boat_51 : decode cX5_boat 51 = .ok (.dup, 1) := by decide +kernel
theorem dX5_boat_52 : decode cX5_boat 52 = .ok (.ldc 59, 2) := by decide +kernel
theorem dX5_boat_54 : decode cX5_boat 54 = .ok (.invokespecial 61, 3) := by decide +kernel
theorem dX5_boat_57 : decode cX5_boat 57 = .ok (.athrow, 1) := by decide +kernel
theorem dX5_boat_58 : decode cX5_boat 58 = .ok (.aload_n 0, 1) := by decide +kernel
theorem dX5_boat_59 : decode cX5_boat 59 = .ok (.getfield 26, 3) := by decide +kernel
theorem dX5_boat_62 : decode cX5_boat 62 = .ok (.new 64, 3) := by decide +kernel
theorem dX5_boat_65 : decode cX5_boat 65 = .ok (.dup, 1) := by decide +kernel
theorem dX5_boat_66 : decode cX5_boat 66 = .ok (.iload 6, 2) := by decide +kernel
theorem dX5_boat_68 : decode cX5_boat 68 = .ok (.iload_n 1, 1) := by decide +kernel
theorem dX5_boat_69 : decode cX5_boat 69 = .ok (.iload_n 2, 1) := by decide +kernel
theorem dX5_boat_70 : decode cX5_boat 70 = .ok (.iload_n 3, 1) := by decide +kernel
theorem dX5_boat_71 : decode cX5_boat 71 = .ok (.iload 4, 2) := by decide +kernel
theorem dX5_boat_73 : decode cX5_boat 73 = .ok (.iload 5, 2) := by decide +kernel
theorem dX5_boat_75 : decode cX5_boat 75 = .ok (.invokespecial 66, 3) := by decide +kernel
theorem dX5_boat_78 : decode cX5_boat 78 = .ok (.invokeinterface 69 2, 5) := by decide +kernel
theorem dX5_boat_83 : decode cX5_boat 83 = .ok (.pop, 1) := by decide +kernel
theorem dX5_boat_84 : decode cX5_boat 84 = .ok (.iload 6, 2) := by decide +kernel
theorem dX5_boat_86 : decode cX5_boat 86 = .ok (.ireturn, 1) := by decide +kernel
theorem dX5_lend_0 : decode cX5_lend 0 = .ok (.aload_n 0, 1) := by decide +kernel
theorem dX5_lend_1 : decode cX5_lend 1 = .ok (.iload_n 1, 1) := by decide +kernel
theorem dX5_lend_2 : decode cX5_lend 2 = .ok (.invokevirtual 73, 3) := by decide +kernel
theorem dX5_lend_5 : decode cX5_lend 5 = .ok (.astore_n 3, 1) := by decide +kernel
theorem dX5_lend_6 : decode cX5_lend 6 = .ok (.iload_n 2, 1) := by decide +kernel
theorem dX5_lend_7 : decode cX5_lend 7 = .ok (.invokestatic 40, 3) := by decide +kernel
theorem dX5_lend_10 : decode cX5_lend 10 = .ok (.aload_n 3, 1) := by decide +kernel
theorem dX5_lend_11 : decode cX5_lend 11 = .ok (.getfield 77, 3) := by decide +kernel
theorem dX5_lend_14 : decode cX5_lend 14 = .ok (.istore 4, 2) := by decide +kernel
theorem dX5_lend_16 : decode cX5_lend 16 = .ok (.aload_n 3, 1) := by decide +kernel
theorem dX5_lend_17 : decode cX5_lend 17 = .ok (.iload_n 2, 1) := by decide +kernel
theorem dX5_lend_18 : decode cX5_lend 18 = .ok (.putfield 77, 3) := by decide +kernel
theorem dX5_lend_21 : decode cX5_lend 21 = .ok (.iload 4, 2) := by decide +kernel
theorem dX5_lend_23 : decode cX5_lend 23 = .ok (.ireturn, 1) := by decide +kernel
theorem dX5_foretell_0 : decode cX5_foretell 0 = .ok (.iload_n 1, 1) := by decide +kernel
theorem dX5_foretell_1 : decode cX5_foretell 1 = .ok (.invokestatic 44, 3) := by decide +kernel
theorem dX5_foretell_4 : decode cX5_foretell 4 = .ok (.iload_n 2, 1) := by decide +kernel
theorem dX5_foretell_5 : decode cX5_foretell 5 = .ok (.invokestatic 44, 3) := by decide +kernel
theorem dX5_foretell_8 : decode cX5_foretell 8 = .ok (.iload_n 2, 1) := by decide +kernel
theorem dX5_foretell_9 : decode cX5_foretell 9 = .ok (.invokestatic 80, 3) := by decide +kernel
theorem dX5_foretell_12 : decode cX5_foretell 12 = .ok (.iload_n 1, 1) := by decide +kernel
theorem dX5_foretell_13 : decode cX5_foretell 13 = .ok (.invokestatic 80, 3) := by decide +kernel
theorem dX5_foretell_16 : decode cX5_foretell 16 = .ok (.isub, 1) := by decide +kernel
theorem dX5_foretell_17 : decode cX5_foretell 17 = .ok (.iconst 1, 1) := by decide +kernel
theorem dX5_foretell_18 : decode cX5_foretell 18 = .ok (.iadd, 1) := by decide +kernel
theorem dX5_foretell_19 : decode cX5_foretell 19 = .ok (.istore 6, 2) := by decide +kernel
theorem dX5_foretell_21 : decode cX5_foretell 21 = .ok (.iload_n 2, 1) := by decide +kernel
theorem dX5_foretell_22 : decode cX5_foretell 22 = .ok (.invokestatic 84, 3) := by decide +kernel
theorem dX5_foretell_25 : decode cX5_foretell 25 = .ok (.iload_n 1, 1) := by decide +kernel
theorem dX5_foretell_26 : decode cX5_foretell 26 = .ok (.invokestatic 84, 3) := by decide +kernel
theorem dX5_foretell_29 : decode cX5_foretell 29 = .ok (.isub, 1) := by decide +kernel
theorem dX5_foretell_30 : decode cX5_foretell 30 = .ok (.iconst 1, 1) := by decide +kernel
theorem dX5_foretell_31 : decode cX5_foretell 31 = .ok (.iadd, 1) := by decide +kernel
theorem dX5_foretell_32 : decode cX5_foretell 32 = .ok (.istore 7, 2) := by decide +kernel
theorem dX5_foretell_34 : decode cX5_foretell 34 = .ok (.iload 6, 2) := by decide +kernel
theorem dX5_foretell_36 : decode cX5_foretell 36 = .ok (.iconst 1, 1) := by decide +kernel
theorem dX5_foretell_37 : decode cX5_foretell 37 = .ok (.if_icmp .lt 9, 3) := by decide +kernel
theorem dX5_foretell_40 : decode cX5_foretell 40 = .ok (.iload 7, 2) := by decide +kernel
theorem dX5_foretell_42 : decode cX5_foretell 42 = .ok (.iconst 1, 1) := by decide +kernel
theorem dX5_foretell_43 : decode cX5_foretell 43 = .ok (.if_icmp .ge 13, 3) := by decide +kernel
theorem dX5_foretell_46 : decode cX5_foretell 46 = .ok (.new 87, 3) := by decide +kernel
theorem dX5_foretell_49 : decode cX5_foretell 49 = .ok (.dup, 1) := by decide +kernel
theorem dX5_foretell_50 : decode cX5_foretell 50 = .ok (.ldc 89, 2) := by decide +kernel
theorem dX5_foretell_52 : decode cX5_foretell 52 = .ok (.invokespecial 91, 3) := by decide +kernel
theorem dX5_foretell_55 : decode cX5_foretell 55 = .ok (.athrow, 1) := by decide +kernel
theorem dX5_foretell_56 : decode cX5_foretell 56 = .ok (.iload_n 3, 1) := by decide +kernel
theorem dX5_foretell_57 : decode cX5_foretell 57 = .ok (.aload_n 0, 1) := by decide +kernel
theorem dX5_foretell_58 : decode cX5_foretell 58 = .ok (.getfield 33, 3) := by decide +kernel
theorem dX5_foretell_61 : decode cX5_foretell 61 = .ok (.sipush 999, 3) := by decide +kernel
theorem dX5_foretell_64 : decode cX5_foretell 64 = .ok (.invokestatic 47, 3) := by decide +kernel
theorem dX5_foretell_67 : decode cX5_foretell 67 = .ok (.iload 4, 2) := by decide +kernel
theorem dX5_foretell_69 : decode cX5_foretell 69 = .ok (.iload_n 3, 1) := by decide +kernel
theorem dX5_foretell_70 : decode cX5_foretell 70 = .ok (.sipush 999, 3) := by decide +kernel
theorem dX5_foretell_73 : decode cX5_foretell 73 = .ok (.invokestatic 47, 3) := by decide +kernel
theorem dX5_foretell_76 : decode cX5_foretell 76 = .ok (.iload 5, 2) := by decide +kernel
theorem dX5_foretell_78 : decode cX5_foretell 78 = .ok (.iconst 0, 1) := by decide +kernel
theorem dX5_foretell_79 : decode cX5_foretell 79 = .ok (.bipush 9, 2) := by decide +kernel
theorem dX5_foretell_81 : decode cX5_foretell 81 = .ok (.invokestatic 47, 3) := by decide +kernel
theorem dX5_foretell_84 : decode cX5_foretell 84 = .ok (.iconst 0, 1) := by decide +kernel
theorem dX5_foretell_85 : decode cX5_foretell 85 = .ok (.istore 8, 2) := by decide +kernel
theorem dX5_foretell_87 : decode cX5_foretell 87 = .ok (.iload 8, 2) := by decide +kernel
theorem dX5_foretell_89 : decode cX5_foretell 89 = .ok (.iload 7, 2) := by decide +kernel
theorem dX5_foretell_91 : decode cX5_foretell 91 = .ok (.if_icmp .ge 47, 3) := by decide +kernel
theorem dX5_foretell_94 : decode cX5_foretell 94 = .ok (.iconst 0, 1) := by decide +kernel
theorem dX5_foretell_95 : decode cX5_foretell 95 = .ok (.istore 9, 2) := by decide +kernel
end
section
theorem dX5_foretell_97 : decode cX5_foretell 97 = .ok (.iload 9, 2) := by decide +kernel
theorem dX5_foretell_99 : decode cX5_foretell 99 = .ok (.iload 6, 2) := by decide +kernel
theorem dX5_foretell_101 : decode cX5_foretell 101 = .ok (.if_icmp .ge 31, 3) := by decide +kernel
theorem dX5_foretell_104 : decode cX5_foretell 104 = .ok (.aload_n 0, 1) := by decide +kernel
theorem dX5_foretell_105 : decode cX5_foretell 105 = .ok (.getfield 10, 3) := by decide +kernel
theorem dX5_foretell_108 : decode cX5_foretell 108 = .ok (.iload_n 1, 1) := by decide +kernel
theorem dX5_foretell_109 : decode cX5_foretell 109 = .ok (.iload 8, 2) := by decide +kernel
theorem dX5_foretell_111 : decode cX5_foretell 111 = .ok (.bipush 8, 2) := by decide +kernel
theorem dX5_foretell_113 : decode cX5_foretell 113 = .ok (.imul, 1) := by decide +kernel
theorem dX5_foretell_114 : decode cX5_foretell 114 = .ok (.iadd, 1) := by decide +kernel
theorem dX5_foretell_115 : decode cX5_foretell 115 = .ok (.iload 9, 2) := by decide +kernel
theorem dX5_foretell_117 : decode cX5_foretell 117 = .ok (.iadd, 1) := by decide +kernel
theorem dX5_foretell_118 : decode cX5_foretell 118 = .ok (.iload_n 3, 1) := by decide +kernel
theorem dX5_foretell_119 : decode cX5_foretell 119 = .ok (.iload 4, 2) := by decide +kernel
theorem dX5_foretell_121 : decode cX5_foretell 121 = .ok (.iload 5, 2) := by decide +kernel
theorem dX5_foretell_123 : decode cX5_foretell 123 = .ok (.invokevirtual 92, 3) := by decide +kernel
theorem dX5_foretell_126 : decode cX5_foretell 126 = .ok (.iinc 9 1, 3) := by decide +kernel
theorem dX5_foretell_129 : decode cX5_foretell 129 = .ok (.goto (-32), 3) := by decide +kernel
theorem dX5_foretell_132 : decode cX5_foretell 132 = .ok (.iinc 8 1, 3) := by decide +kernel
theorem dX5_foretell_135 : decode cX5_foretell 135 = .ok (.goto (-48), 3) := by decide +kernel
theorem dX5_foretell_138 : decode cX5_foretell 138 = .ok (.iload 6, 2) := by decide +kernel
theorem dX5_foretell_140 : decode cX5_foretell 140 = .ok (.iload 7, 2) := by decide +kernel
theorem dX5_foretell_142 : decode cX5_foretell 142 = .ok (.imul, 1) := by decide +kernel
theorem dX5_foretell_143 : decode cX5_foretell 143 = .ok (.ireturn, 1) := by decide +kernel
theorem dX5_call_0 : decode cX5_call 0 = .ok (.iload_n 1, 1) := by decide +kernel
theorem dX5_call_1 : decode cX5_call 1 = .ok (.invokestatic 44, 3) := by decide +kernel
theorem dX5_call_4 : decode cX5_call 4 = .ok (.iload_n 2, 1) := by decide +kernel
theorem dX5_call_5 : decode cX5_call 5 = .ok (.iconst 1, 1) := by decide +kernel
theorem dX5_call_6 : decode cX5_call 6 = .ok (.bipush 50, 2) := by decide +kernel
theorem dX5_call_8 : decode cX5_call 8 = .ok (.invokestatic 47, 3) := by decide +kernel
theorem dX5_call_11 : decode cX5_call 11 = .ok (.iload_n 3, 1) := by decide +kernel
theorem dX5_call_12 : decode cX5_call 12 = .ok (.aload_n 0, 1) := by decide +kernel
theorem dX5_call_13 : decode cX5_call 13 = .ok (.getfield 33, 3) := by decide +kernel
theorem dX5_call_16 : decode cX5_call 16 = .ok (.iconst 1, 1) := by decide +kernel
theorem dX5_call_17 : decode cX5_call 17 = .ok (.iadd, 1) := by decide +kernel
theorem dX5_call_18 : decode cX5_call 18 = .ok (.sipush 999, 3) := by decide +kernel
theorem dX5_call_21 : decode cX5_call 21 = .ok (.invokestatic 47, 3) := by decide +kernel
theorem dX5_call_24 : decode cX5_call 24 = .ok (.aload_n 0, 1) := by decide +kernel
theorem dX5_call_25 : decode cX5_call 25 = .ok (.getfield 30, 3) := by decide +kernel
theorem dX5_call_28 : decode cX5_call 28 = .ok (.invokeinterface 51 1, 5) := by decide +kernel
theorem dX5_call_33 : decode cX5_call 33 = .ok (.istore 4, 2) := by decide +kernel
theorem dX5_call_35 : decode cX5_call 35 = .ok (.iload 4, 2) := by decide +kernel
theorem dX5_call_37 : decode cX5_call 37 = .ok (.bipush 30, 2) := by decide +kernel
theorem dX5_call_39 : decode cX5_call 39 = .ok (.if_icmp .lt 13, 3) := by decide +kernel
theorem dX5_call_42 : decode cX5_call 42 = .ok (.new 57, 3) := by decide +kernel
theorem dX5_call_45 : decode cX5_call 45 = .ok (.dup, 1) := by decide +kernel
theorem dX5_call_46 : decode cX5_call 46 = .ok (.ldc 96, 2) := by decide +kernel
theorem dX5_call_48 : decode cX5_call 48 = .ok (.invokespecial 61, 3) := by decide +kernel
theorem dX5_call_51 : decode cX5_call 51 = .ok (.athrow, 1) := by decide +kernel
theorem dX5_call_52 : decode cX5_call 52 = .ok (.aload_n 0, 1) := by decide +kernel
theorem dX5_call_53 : decode cX5_call 53 = .ok (.getfield 30, 3) := by decide +kernel
theorem dX5_call_56 : decode cX5_call 56 = .ok (.new 98, 3) := by decide +kernel
theorem dX5_call_59 : decode cX5_call 59 = .ok (.dup, 1) := by decide +kernel
theorem dX5_call_60 : decode cX5_call 60 = .ok (.iload 4, 2) := by decide +kernel
theorem dX5_call_62 : decode cX5_call 62 = .ok (.iload_n 1, 1) := by decide +kernel
theorem dX5_call_63 : decode cX5_call 63 = .ok (.iload_n 2, 1) := by decide +kernel
theorem dX5_call_64 : decode cX5_call 64 = .ok (.iload_n 3, 1) := by decide +kernel
theorem dX5_call_65 : decode cX5_call 65 = .ok (.invokespecial 100, 3) := by decide +kernel
theorem dX5_call_68 : decode cX5_call 68 = .ok (.invokeinterface 69 2, 5) := by decide +kernel
theorem dX5_call_73 : decode cX5_call 73 = .ok (.pop, 1) := by decide +kernel
theorem dX5_call_74 : decode cX5_call 74 = .ok (.iload 4, 2) := by decide +kernel
theorem dX5_call_76 : decode cX5_call 76 = .ok (.ireturn, 1) := by decide +kernel
theorem dX5_cap_0 : decode cX5_cap 0 = .ok (.iload_n 1, 1) := by decide +kernel
theorem dX5_cap_1 : decode cX5_cap 1 = .ok (.iconst 0, 1) := by decide +kernel
theorem dX5_cap_2 : decode cX5_cap 2 = .ok (.sipush 1000, 3) := by decide +kernel
theorem dX5_cap_5 : decode cX5_cap 5 = .ok (.invokestatic 47, 3) := by decide +kernel
theorem dX5_cap_8 : decode cX5_cap 8 = .ok (.aload_n 0, 1) := by decide +kernel
theorem dX5_cap_9 : decode cX5_cap 9 = .ok (.getfield 37, 3) := by decide +kernel
theorem dX5_cap_12 : decode cX5_cap 12 = .ok (.istore_n 2, 1) := by decide +kernel
theorem dX5_cap_13 : decode cX5_cap 13 = .ok (.aload_n 0, 1) := by decide +kernel
theorem dX5_cap_14 : decode cX5_cap 14 = .ok (.iload_n 1, 1) := by decide +kernel
theorem dX5_cap_15 : decode cX5_cap 15 = .ok (.putfield 37, 3) := by decide +kernel
theorem dX5_cap_18 : decode cX5_cap 18 = .ok (.iload_n 2, 1) := by decide +kernel
theorem dX5_cap_19 : decode cX5_cap 19 = .ok (.ireturn, 1) := by decide +kernel
theorem dX5_pass_0 : decode cX5_pass 0 = .ok (.iload_n 1, 1) := by decide +kernel
theorem dX5_pass_1 : decode cX5_pass 1 = .ok (.iconst 1, 1) := by decide +kernel
theorem dX5_pass_2 : decode cX5_pass 2 = .ok (.bipush 48, 2) := by decide +kernel
theorem dX5_pass_4 : decode cX5_pass 4 = .ok (.invokestatic 47, 3) := by decide +kernel
theorem dX5_pass_7 : decode cX5_pass 7 = .ok (.aload_n 0, 1) := by decide +kernel
theorem dX5_pass_8 : decode cX5_pass 8 = .ok (.getfield 33, 3) := by decide +kernel
theorem dX5_pass_11 : decode cX5_pass 11 = .ok (.iload_n 1, 1) := by decide +kernel
theorem dX5_pass_12 : decode cX5_pass 12 = .ok (.iadd, 1) := by decide +kernel
theorem dX5_pass_13 : decode cX5_pass 13 = .ok (.sipush 999, 3) := by decide +kernel
theorem dX5_pass_16 : decode cX5_pass 16 = .ok (.if_icmp .le 13, 3) := by decide +kernel
theorem dX5_pass_19 : decode cX5_pass 19 = .ok (.new 57, 3) := by decide +kernel
theorem dX5_pass_22 : decode cX5_pass 22 = .ok (.dup, 1) := by decide +kernel
theorem dX5_pass_23 : decode cX5_pass 23 = .ok (.ldc 102, 2) := by decide +kernel
theorem dX5_pass_25 : decode cX5_pass 25 = .ok (.invokespecial 61, 3) := by decide +kernel
theorem dX5_pass_28 : decode cX5_pass 28 = .ok (.athrow, 1) := by decide +kernel
theorem dX5_pass_29 : decode cX5_pass 29 = .ok (.iconst 0, 1) := by decide +kernel
theorem dX5_pass_30 : decode cX5_pass 30 = .ok (.istore_n 2, 1) := by decide +kernel
theorem dX5_pass_31 : decode cX5_pass 31 = .ok (.iload_n 2, 1) := by decide +kernel
theorem dX5_pass_32 : decode cX5_pass 32 = .ok (.iload_n 1, 1) := by decide +kernel
theorem dX5_pass_33 : decode cX5_pass 33 = .ok (.if_icmp .ge 35, 3) := by decide +kernel
theorem dX5_pass_36 : decode cX5_pass 36 = .ok (.aload_n 0, 1) := by decide +kernel
theorem dX5_pass_37 : decode cX5_pass 37 = .ok (.dup, 1) := by decide +kernel
theorem dX5_pass_38 : decode cX5_pass 38 = .ok (.getfield 33, 3) := by decide +kernel
theorem dX5_pass_41 : decode cX5_pass 41 = .ok (.iconst 1, 1) := by decide +kernel
theorem dX5_pass_42 : decode cX5_pass 42 = .ok (.iadd, 1) := by decide +kernel
theorem dX5_pass_43 : decode cX5_pass 43 = .ok (.putfield 33, 3) := by decide +kernel
theorem dX5_pass_46 : decode cX5_pass 46 = .ok (.aload_n 0, 1) := by decide +kernel
theorem dX5_pass_47 : decode cX5_pass 47 = .ok (.invokevirtual 104, 3) := by decide +kernel
theorem dX5_pass_50 : decode cX5_pass 50 = .ok (.aload_n 0, 1) := by decide +kernel
theorem dX5_pass_51 : decode cX5_pass 51 = .ok (.invokevirtual 107, 3) := by decide +kernel
theorem dX5_pass_54 : decode cX5_pass 54 = .ok (.aload_n 0, 1) := by decide +kernel
theorem dX5_pass_55 : decode cX5_pass 55 = .ok (.invokevirtual 110, 3) := by decide +kernel
theorem dX5_pass_58 : decode cX5_pass 58 = .ok (.aload_n 0, 1) := by decide +kernel
theorem dX5_pass_59 : decode cX5_pass 59 = .ok (.invokevirtual 113, 3) := by decide +kernel
theorem dX5_pass_62 : decode cX5_pass 62 = .ok (.iinc 2 1, 3) := by decide +kernel
theorem dX5_pass_65 : decode cX5_pass 65 = .ok (.goto (-34), 3) := by decide +kernel
theorem dX5_pass_68 : decode cX5_pass 68 = .ok (.aload_n 0, 1) := by decide +kernel
theorem dX5_pass_69 : decode cX5_pass 69 = .ok (.getfield 33, 3) := by decide +kernel
theorem dX5_pass_72 : decode cX5_pass 72 = .ok (.ireturn, 1) := by decide +kernel
theorem dX5_storm_0 : decode cX5_storm 0 = .ok (.iload_n 1, 1) := by decide +kernel
theorem dX5_storm_1 : decode cX5_storm 1 = .ok (.invokestatic 44, 3) := by decide +kernel
theorem dX5_storm_4 : decode cX5_storm 4 = .ok (.iload_n 2, 1) := by decide +kernel
theorem dX5_storm_5 : decode cX5_storm 5 = .ok (.aload_n 0, 1) := by decide +kernel
theorem dX5_storm_6 : decode cX5_storm 6 = .ok (.getfield 33, 3) := by decide +kernel
theorem dX5_storm_9 : decode cX5_storm 9 = .ok (.sipush 999, 3) := by decide +kernel
theorem dX5_storm_12 : decode cX5_storm 12 = .ok (.invokestatic 47, 3) := by decide +kernel
theorem dX5_storm_15 : decode cX5_storm 15 = .ok (.aload_n 0, 1) := by decide +kernel
theorem dX5_storm_16 : decode cX5_storm 16 = .ok (.getfield 10, 3) := by decide +kernel
theorem dX5_storm_19 : decode cX5_storm 19 = .ok (.iload_n 1, 1) := by decide +kernel
theorem dX5_storm_20 : decode cX5_storm 20 = .ok (.iload_n 2, 1) := by decide +kernel
theorem dX5_storm_21 : decode cX5_storm 21 = .ok (.invokevirtual 116, 3) := by decide +kernel
theorem dX5_storm_24 : decode cX5_storm 24 = .ok (.ireturn, 1) := by decide +kernel
theorem dX5_ofBoat_0 : decode cX5_ofBoat 0 = .ok (.aload_n 0, 1) := by decide +kernel
theorem dX5_ofBoat_1 : decode cX5_ofBoat 1 = .ok (.iload_n 1, 1) := by decide +kernel
theorem dX5_ofBoat_2 : decode cX5_ofBoat 2 = .ok (.invokevirtual 73, 3) := by decide +kernel
theorem dX5_ofBoat_5 : decode cX5_ofBoat 5 = .ok (.astore_n 3, 1) := by decide +kernel
theorem dX5_ofBoat_6 : decode cX5_ofBoat 6 = .ok (.iload_n 2, 1) := by decide +kernel
theorem dX5_ofBoat_7 : decode cX5_ofBoat 7 = .ok (.iconst 0, 1) := by decide +kernel
theorem dX5_ofBoat_8 : decode cX5_ofBoat 8 = .ok (.iconst 3, 1) := by decide +kernel
theorem dX5_ofBoat_9 : decode cX5_ofBoat 9 = .ok (.invokestatic 47, 3) := by decide +kernel
theorem dX5_ofBoat_12 : decode cX5_ofBoat 12 = .ok (.iload_n 2, 1) := by decide +kernel
theorem dX5_ofBoat_13 : decode cX5_ofBoat 13 = .ok (.tableswitch 56 0 2 #[27, 32, 51], 27) := by decide +kernel
theorem dX5_ofBoat_40 : decode cX5_ofBoat 40 = .ok (.aload_n 3, 1) := by decide +kernel
theorem dX5_ofBoat_41 : decode cX5_ofBoat 41 = .ok (.getfield 120, 3) := by decide +kernel
theorem dX5_ofBoat_44 : decode cX5_ofBoat 44 = .ok (.ireturn, 1) := by decide +kernel
theorem dX5_ofBoat_45 : decode cX5_ofBoat 45 = .ok (.aload_n 3, 1) := by decide +kernel
theorem dX5_ofBoat_46 : decode cX5_ofBoat 46 = .ok (.getfield 123, 3) := by decide +kernel
theorem dX5_ofBoat_49 : decode cX5_ofBoat 49 = .ok (.ifnonnull 7, 3) := by decide +kernel
theorem dX5_ofBoat_52 : decode cX5_ofBoat 52 = .ok (.iconst (-1), 1) := by decide +kernel
theorem dX5_ofBoat_53 : decode cX5_ofBoat 53 = .ok (.goto 10, 3) := by decide +kernel
theorem dX5_ofBoat_56 : decode cX5_ofBoat 56 = .ok (.aload_n 3, 1) := by decide +kernel
theorem dX5_ofBoat_57 : decode cX5_ofBoat 57 = .ok (.getfield 123, 3) := by decide +kernel
theorem dX5_ofBoat_60 : decode cX5_ofBoat 60 = .ok (.getfield 127, 3) := by decide +kernel
theorem dX5_ofBoat_63 : decode cX5_ofBoat 63 = .ok (.ireturn, 1) := by decide +kernel
theorem dX5_ofBoat_64 : decode cX5_ofBoat 64 = .ok (.aload_n 3, 1) := by decide +kernel
theorem dX5_ofBoat_65 : decode cX5_ofBoat 65 = .ok (.getfield 130, 3) := by decide +kernel
theorem dX5_ofBoat_68 : decode cX5_ofBoat 68 = .ok (.ireturn, 1) := by decide +kernel
theorem dX5_ofBoat_69 : decode cX5_ofBoat 69 = .ok (.aload_n 3, 1) := by decide +kernel
theorem dX5_ofBoat_70 : decode cX5_ofBoat 70 = .ok (.getfield 133, 3) := by decide +kernel
theorem dX5_ofBoat_73 : decode cX5_ofBoat 73 = .ok (.ireturn, 1) := by decide +kernel
theorem dX5_ofCall_0 : decode cX5_ofCall 0 = .ok (.aload_n 0, 1) := by decide +kernel
theorem dX5_ofCall_1 : decode cX5_ofCall 1 = .ok (.iload_n 1, 1) := by decide +kernel
theorem dX5_ofCall_2 : decode cX5_ofCall 2 = .ok (.invokevirtual 136, 3) := by decide +kernel
theorem dX5_ofCall_5 : decode cX5_ofCall 5 = .ok (.astore_n 3, 1) := by decide +kernel
theorem dX5_ofCall_6 : decode cX5_ofCall 6 = .ok (.iload_n 2, 1) := by decide +kernel
theorem dX5_ofCall_7 : decode cX5_ofCall 7 = .ok (.iconst 0, 1) := by decide +kernel
theorem dX5_ofCall_8 : decode cX5_ofCall 8 = .ok (.iconst 3, 1) := by decide +kernel
theorem dX5_ofCall_9 : decode cX5_ofCall 9 = .ok (.invokestatic 47, 3) := by decide +kernel
theorem dX5_ofCall_12 : decode cX5_ofCall 12 = .ok (.iload_n 2, 1) := by decide +kernel
theorem dX5_ofCall_13 : decode cX5_ofCall 13 = .ok (.tableswitch 56 0 2 #[27, 32, 51], 27) := by decide +kernel
theorem dX5_ofCall_40 : decode cX5_ofCall 40 = .ok (.aload_n 3, 1) := by decide +kernel
theorem dX5_ofCall_41 : decode cX5_ofCall 41 = .ok (.getfield 140, 3) := by decide +kernel
theorem dX5_ofCall_44 : decode cX5_ofCall 44 = .ok (.ireturn, 1) := by decide +kernel
theorem dX5_ofCall_45 : decode cX5_ofCall 45 = .ok (.aload_n 3, 1) := by decide +kernel
theorem dX5_ofCall_46 : decode cX5_ofCall 46 = .ok (.getfield 141, 3) := by decide +kernel
theorem dX5_ofCall_49 : decode cX5_ofCall 49 = .ok (.ifnonnull 7, 3) := by decide +kernel
theorem dX5_ofCall_52 : decode cX5_ofCall 52 = .ok (.iconst (-1), 1) := by decide +kernel
theorem dX5_ofCall_53 : decode cX5_ofCall 53 = .ok (.goto 10, 3) := by decide +kernel
theorem dX5_ofCall_56 : decode cX5_ofCall 56 = .ok (.aload_n 3, 1) := by decide +kernel
theorem dX5_ofCall_57 : decode cX5_ofCall 57 = .ok (.getfield 141, 3) := by decide +kernel
theorem dX5_ofCall_60 : decode cX5_ofCall 60 = .ok (.getfield 145, 3) := by decide +kernel
theorem dX5_ofCall_63 : decode cX5_ofCall 63 = .ok (.ireturn, 1) := by decide +kernel
theorem dX5_ofCall_64 : decode cX5_ofCall 64 = .ok (.aload_n 3, 1) := by decide +kernel
theorem dX5_ofCall_65 : decode cX5_ofCall 65 = .ok (.getfield 146, 3) := by decide +kernel
theorem dX5_ofCall_68 : decode cX5_ofCall 68 = .ok (.ireturn, 1) := by decide +kernel
theorem dX5_ofCall_69 : decode cX5_ofCall 69 = .ok (.aload_n 3, 1) := by decide +kernel
theorem dX5_ofCall_70 : decode cX5_ofCall 70 = .ok (.getfield 149, 3) := by decide +kernel
theorem dX5_ofCall_73 : decode cX5_ofCall 73 = .ok (.ireturn, 1) := by decide +kernel
theorem dX5_rewards_0 : decode cX5_rewards 0 = .ok (.iload_n 1, 1) := by decide +kernel
theorem dX5_rewards_1 : decode cX5_rewards 1 = .ok (.invokestatic 40, 3) := by decide +kernel
theorem dX5_rewards_4 : decode cX5_rewards 4 = .ok (.aload_n 0, 1) := by decide +kernel
theorem dX5_rewards_5 : decode cX5_rewards 5 = .ok (.getfield 19, 3) := by decide +kernel
theorem dX5_rewards_8 : decode cX5_rewards 8 = .ok (.iload_n 1, 1) := by decide +kernel
theorem dX5_rewards_9 : decode cX5_rewards 9 = .ok (.invokevirtual 152, 3) := by decide +kernel
theorem dX5_rewards_12 : decode cX5_rewards 12 = .ok (.ireturn, 1) := by decide +kernel
theorem dX5_rewardsAnew_0 : decode cX5_rewardsAnew 0 = .ok (.iload_n 1, 1) := by decide +kernel
theorem dX5_rewardsAnew_1 : decode cX5_rewardsAnew 1 = .ok (.invokestatic 40, 3) := by decide +kernel
theorem dX5_rewardsAnew_4 : decode cX5_rewardsAnew 4 = .ok (.aload_n 0, 1) := by decide +kernel
theorem dX5_rewardsAnew_5 : decode cX5_rewardsAnew 5 = .ok (.getfield 19, 3) := by decide +kernel
theorem dX5_rewardsAnew_8 : decode cX5_rewardsAnew 8 = .ok (.iload_n 1, 1) := by decide +kernel
theorem dX5_rewardsAnew_9 : decode cX5_rewardsAnew 9 = .ok (.invokevirtual 155, 3) := by decide +kernel
theorem dX5_rewardsAnew_12 : decode cX5_rewardsAnew 12 = .ok (.ireturn, 1) := by decide +kernel
theorem dX5_premium_0 : decode cX5_premium 0 = .ok (.iload_n 1, 1) := by decide +kernel
theorem dX5_premium_1 : decode cX5_premium 1 = .ok (.invokestatic 44, 3) := by decide +kernel
theorem dX5_premium_4 : decode cX5_premium 4 = .ok (.aload_n 0, 1) := by decide +kernel
theorem dX5_premium_5 : decode cX5_premium 5 = .ok (.getfield 33, 3) := by decide +kernel
theorem dX5_premium_8 : decode cX5_premium 8 = .ok (.bipush 24, 2) := by decide +kernel
theorem dX5_premium_10 : decode cX5_premium 10 = .ok (.iadd, 1) := by decide +kernel
theorem dX5_premium_11 : decode cX5_premium 11 = .ok (.iconst 1, 1) := by decide +kernel
theorem dX5_premium_12 : decode cX5_premium 12 = .ok (.isub, 1) := by decide +kernel
theorem dX5_premium_13 : decode cX5_premium 13 = .ok (.sipush 999, 3) := by decide +kernel
theorem dX5_premium_16 : decode cX5_premium 16 = .ok (.invokestatic 158, 3) := by decide +kernel
theorem dX5_premium_19 : decode cX5_premium 19 = .ok (.istore_n 2, 1) := by decide +kernel
theorem dX5_premium_20 : decode cX5_premium 20 = .ok (.ldc 163, 2) := by decide +kernel
theorem dX5_premium_22 : decode cX5_premium 22 = .ok (.aload_n 0, 1) := by decide +kernel
theorem dX5_premium_23 : decode cX5_premium 23 = .ok (.getfield 10, 3) := by decide +kernel
theorem dX5_premium_26 : decode cX5_premium 26 = .ok (.iload_n 1, 1) := by decide +kernel
theorem dX5_premium_27 : decode cX5_premium 27 = .ok (.aload_n 0, 1) := by decide +kernel
theorem dX5_premium_28 : decode cX5_premium 28 = .ok (.getfield 33, 3) := by decide +kernel
theorem dX5_premium_31 : decode cX5_premium 31 = .ok (.iload_n 2, 1) := by decide +kernel
theorem dX5_premium_32 : decode cX5_premium 32 = .ok (.invokevirtual 164, 3) := by decide +kernel
theorem dX5_premium_35 : decode cX5_premium 35 = .ok (.i2f, 1) := by decide +kernel
theorem dX5_premium_36 : decode cX5_premium 36 = .ok (.fmul, 1) := by decide +kernel
theorem dX5_premium_37 : decode cX5_premium 37 = .ok (.ldc 168, 2) := by decide +kernel
theorem dX5_premium_39 : decode cX5_premium 39 = .ok (.aload_n 0, 1) := by decide +kernel
theorem dX5_premium_40 : decode cX5_premium 40 = .ok (.iload_n 1, 1) := by decide +kernel
theorem dX5_premium_41 : decode cX5_premium 41 = .ok (.invokevirtual 169, 3) := by decide +kernel
theorem dX5_premium_44 : decode cX5_premium 44 = .ok (.i2f, 1) := by decide +kernel
theorem dX5_premium_45 : decode cX5_premium 45 = .ok (.fmul, 1) := by decide +kernel
theorem dX5_premium_46 : decode cX5_premium 46 = .ok (.fadd, 1) := by decide +kernel
theorem dX5_premium_47 : decode cX5_premium 47 = .ok (.freturn, 1) := by decide +kernel
theorem dX5_turnBoatsBack_0 : decode cX5_turnBoatsBack 0 = .ok (.iconst 0, 1) := by decide +kernel
theorem dX5_turnBoatsBack_1 : decode cX5_turnBoatsBack 1 = .ok (.istore_n 1, 1) := by decide +kernel
theorem dX5_turnBoatsBack_2 : decode cX5_turnBoatsBack 2 = .ok (.iload_n 1, 1) := by decide +kernel
theorem dX5_turnBoatsBack_3 : decode cX5_turnBoatsBack 3 = .ok (.aload_n 0, 1) := by decide +kernel
theorem dX5_turnBoatsBack_4 : decode cX5_turnBoatsBack 4 = .ok (.getfield 26, 3) := by decide +kernel
theorem dX5_turnBoatsBack_7 : decode cX5_turnBoatsBack 7 = .ok (.invokeinterface 51 1, 5) := by decide +kernel
theorem dX5_turnBoatsBack_12 : decode cX5_turnBoatsBack 12 = .ok (.if_icmp .ge 67, 3) := by decide +kernel
theorem dX5_turnBoatsBack_15 : decode cX5_turnBoatsBack 15 = .ok (.aload_n 0, 1) := by decide +kernel
theorem dX5_turnBoatsBack_16 : decode cX5_turnBoatsBack 16 = .ok (.getfield 26, 3) := by decide +kernel
theorem dX5_turnBoatsBack_19 : decode cX5_turnBoatsBack 19 = .ok (.iload_n 1, 1) := by decide +kernel
theorem dX5_turnBoatsBack_20 : decode cX5_turnBoatsBack 20 = .ok (.invokeinterface 172 2, 5) := by decide +kernel
theorem dX5_turnBoatsBack_25 : decode cX5_turnBoatsBack 25 = .ok (.checkcast 64, 3) := by decide +kernel
theorem dX5_turnBoatsBack_28 : decode cX5_turnBoatsBack 28 = .ok (.astore_n 2, 1) := by decide +kernel
theorem dX5_turnBoatsBack_29 : decode cX5_turnBoatsBack 29 = .ok (.aload_n 2, 1) := by decide +kernel
theorem dX5_turnBoatsBack_30 : decode cX5_turnBoatsBack 30 = .ok (.getfield 123, 3) := by decide +kernel
theorem dX5_turnBoatsBack_33 : decode cX5_turnBoatsBack 33 = .ok (.astore_n 3, 1) := by decide +kernel
theorem dX5_turnBoatsBack_34 : decode cX5_turnBoatsBack 34 = .ok (.aload_n 3, 1) := by decide +kernel
theorem dX5_turnBoatsBack_35 : decode cX5_turnBoatsBack 35 = .ok (.ifnull 38, 3) := by decide +kernel
theorem dX5_turnBoatsBack_38 : decode cX5_turnBoatsBack 38 = .ok (.aload_n 0, 1) := by decide +kernel
theorem dX5_turnBoatsBack_39 : decode cX5_turnBoatsBack 39 = .ok (.getfield 10, 3) := by decide +kernel
theorem dX5_turnBoatsBack_42 : decode cX5_turnBoatsBack 42 = .ok (.aload_n 3, 1) := by decide +kernel
theorem dX5_turnBoatsBack_43 : decode cX5_turnBoatsBack 43 = .ok (.getfield 176, 3) := by decide +kernel
theorem dX5_turnBoatsBack_46 : decode cX5_turnBoatsBack 46 = .ok (.aload_n 2, 1) := by decide +kernel
theorem dX5_turnBoatsBack_47 : decode cX5_turnBoatsBack 47 = .ok (.getfield 130, 3) := by decide +kernel
theorem dX5_turnBoatsBack_50 : decode cX5_turnBoatsBack 50 = .ok (.invokevirtual 116, 3) := by decide +kernel
theorem dX5_turnBoatsBack_53 : decode cX5_turnBoatsBack 53 = .ok (.aload_n 2, 1) := by decide +kernel
theorem dX5_turnBoatsBack_54 : decode cX5_turnBoatsBack 54 = .ok (.getfield 179, 3) := by decide +kernel
theorem dX5_turnBoatsBack_57 : decode cX5_turnBoatsBack 57 = .ok (.if_icmp .le 16, 3) := by decide +kernel
theorem dX5_turnBoatsBack_60 : decode cX5_turnBoatsBack 60 = .ok (.aload_n 2, 1) := by decide +kernel
theorem dX5_turnBoatsBack_61 : decode cX5_turnBoatsBack 61 = .ok (.aload_n 0, 1) := by decide +kernel
theorem dX5_turnBoatsBack_62 : decode cX5_turnBoatsBack 62 = .ok (.getfield 33, 3) := by decide +kernel
theorem dX5_turnBoatsBack_65 : decode cX5_turnBoatsBack 65 = .ok (.invokevirtual 182, 3) := by decide +kernel
theorem dX5_turnBoatsBack_68 : decode cX5_turnBoatsBack 68 = .ok (.aload_n 3, 1) := by decide +kernel
theorem dX5_turnBoatsBack_69 : decode cX5_turnBoatsBack 69 = .ok (.iconst 0, 1) := by decide +kernel
theorem dX5_turnBoatsBack_70 : decode cX5_turnBoatsBack 70 = .ok (.putfield 140, 3) := by decide +kernel
theorem dX5_turnBoatsBack_73 : decode cX5_turnBoatsBack 73 = .ok (.iinc 1 1, 3) := by decide +kernel
theorem dX5_turnBoatsBack_76 : decode cX5_turnBoatsBack 76 = .ok (.goto (-74), 3) := by decide +kernel
theorem dX5_turnBoatsBack_79 : decode cX5_turnBoatsBack 79 = .ok (.return_, 1) := by decide +kernel
theorem dX5_letBoatsArrive_0 : decode cX5_letBoatsArrive 0 = .ok (.iconst 0, 1) := by decide +kernel
theorem dX5_letBoatsArrive_1 : decode cX5_letBoatsArrive 1 = .ok (.istore_n 1, 1) := by decide +kernel
theorem dX5_letBoatsArrive_2 : decode cX5_letBoatsArrive 2 = .ok (.iload_n 1, 1) := by decide +kernel
theorem dX5_letBoatsArrive_3 : decode cX5_letBoatsArrive 3 = .ok (.aload_n 0, 1) := by decide +kernel
theorem dX5_letBoatsArrive_4 : decode cX5_letBoatsArrive 4 = .ok (.getfield 26, 3) := by decide +kernel
theorem dX5_letBoatsArrive_7 : decode cX5_letBoatsArrive 7 = .ok (.invokeinterface 51 1, 5) := by decide +kernel
theorem dX5_letBoatsArrive_12 : decode cX5_letBoatsArrive 12 = .ok (.if_icmp .ge 69, 3) := by decide +kernel
theorem dX5_letBoatsArrive_15 : decode cX5_letBoatsArrive 15 = .ok (.aload_n 0, 1) := by decide +kernel
theorem dX5_letBoatsArrive_16 : decode cX5_letBoatsArrive 16 = .ok (.getfield 26, 3) := by decide +kernel
theorem dX5_letBoatsArrive_19 : decode cX5_letBoatsArrive 19 = .ok (.iload_n 1, 1) := by decide +kernel
theorem dX5_letBoatsArrive_20 : decode cX5_letBoatsArrive 20 = .ok (.invokeinterface 172 2, 5) := by decide +kernel
theorem dX5_letBoatsArrive_25 : decode cX5_letBoatsArrive 25 = .ok (.checkcast 64, 3) := by decide +kernel
theorem dX5_letBoatsArrive_28 : decode cX5_letBoatsArrive 28 = .ok (.astore_n 2, 1) := by decide +kernel
theorem dX5_letBoatsArrive_29 : decode cX5_letBoatsArrive 29 = .ok (.aload_n 2, 1) := by decide +kernel
theorem dX5_letBoatsArrive_30 : decode cX5_letBoatsArrive 30 = .ok (.getfield 120, 3) := by decide +kernel
theorem dX5_letBoatsArrive_33 : decode cX5_letBoatsArrive 33 = .ok (.iconst 1, 1) := by decide +kernel
theorem dX5_letBoatsArrive_34 : decode cX5_letBoatsArrive 34 = .ok (.if_icmp .ne 41, 3) := by decide +kernel
theorem dX5_letBoatsArrive_37 : decode cX5_letBoatsArrive 37 = .ok (.aload_n 2, 1) := by decide +kernel
theorem dX5_letBoatsArrive_38 : decode cX5_letBoatsArrive 38 = .ok (.getfield 130, 3) := by decide +kernel
theorem dX5_letBoatsArrive_41 : decode cX5_letBoatsArrive 41 = .ok (.aload_n 0, 1) := by decide +kernel
theorem dX5_letBoatsArrive_42 : decode cX5_letBoatsArrive 42 = .ok (.getfield 33, 3) := by decide +kernel
theorem dX5_letBoatsArrive_45 : decode cX5_letBoatsArrive 45 = .ok (.if_icmp .ne 30, 3) := by decide +kernel
theorem dX5_letBoatsArrive_48 : decode cX5_letBoatsArrive 48 = .ok (.aload_n 2, 1) := by decide +kernel
theorem dX5_letBoatsArrive_49 : decode cX5_letBoatsArrive 49 = .ok (.getfield 123, 3) := by decide +kernel
theorem dX5_letBoatsArrive_52 : decode cX5_letBoatsArrive 52 = .ok (.ifnonnull 14, 3) := by decide +kernel
theorem dX5_letBoatsArrive_55 : decode cX5_letBoatsArrive 55 = .ok (.aload_n 2, 1) := by decide +kernel
theorem dX5_letBoatsArrive_56 : decode cX5_letBoatsArrive 56 = .ok (.aload_n 0, 1) := by decide +kernel
theorem dX5_letBoatsArrive_57 : decode cX5_letBoatsArrive 57 = .ok (.getfield 33, 3) := by decide +kernel
theorem dX5_letBoatsArrive_60 : decode cX5_letBoatsArrive 60 = .ok (.invokevirtual 185, 3) := by decide +kernel
theorem dX5_letBoatsArrive_63 : decode cX5_letBoatsArrive 63 = .ok (.goto 12, 3) := by decide +kernel
theorem dX5_letBoatsArrive_66 : decode cX5_letBoatsArrive 66 = .ok (.aload_n 0, 1) := by decide +kernel
theorem dX5_letBoatsArrive_67 : decode cX5_letBoatsArrive 67 = .ok (.aload_n 2, 1) := by decide +kernel
theorem dX5_letBoatsArrive_68 : decode cX5_letBoatsArrive 68 = .ok (.aload_n 2, 1) := by decide +kernel
theorem dX5_letBoatsArrive_69 : decode cX5_letBoatsArrive 69 = .ok (.getfield 123, 3) := by decide +kernel
theorem dX5_letBoatsArrive_72 : decode cX5_letBoatsArrive 72 = .ok (.invokevirtual 188, 3) := by decide +kernel
theorem dX5_letBoatsArrive_75 : decode cX5_letBoatsArrive 75 = .ok (.iinc 1 1, 3) := by decide +kernel
theorem dX5_letBoatsArrive_78 : decode cX5_letBoatsArrive 78 = .ok (.goto (-76), 3) := by decide +kernel
theorem dX5_letBoatsArrive_81 : decode cX5_letBoatsArrive 81 = .ok (.return_, 1) := by decide +kernel
theorem dX5_finish_0 : decode cX5_finish 0 = .ok (.aload_n 1, 1) := by decide +kernel
theorem dX5_finish_1 : decode cX5_finish 1 = .ok (.aload_n 2, 1) := by decide +kernel
theorem dX5_finish_2 : decode cX5_finish 2 = .ok (.getfield 176, 3) := by decide +kernel
theorem dX5_finish_5 : decode cX5_finish 5 = .ok (.invokevirtual 192, 3) := by decide +kernel
theorem dX5_finish_8 : decode cX5_finish 8 = .ok (.istore_n 3, 1) := by decide +kernel
theorem dX5_finish_9 : decode cX5_finish 9 = .ok (.new 195, 3) := by decide +kernel
theorem dX5_finish_12 : decode cX5_finish 12 = .ok (.dup, 1) := by decide +kernel
theorem dX5_finish_13 : decode cX5_finish 13 = .ok (.aload_n 1, 1) := by decide +kernel
theorem dX5_finish_14 : decode cX5_finish 14 = .ok (.getfield 197, 3) := by decide +kernel
theorem dX5_finish_17 : decode cX5_finish 17 = .ok (.aload_n 1, 1) := by decide +kernel
theorem dX5_finish_18 : decode cX5_finish 18 = .ok (.getfield 200, 3) := by decide +kernel
theorem dX5_finish_21 : decode cX5_finish 21 = .ok (.iload_n 3, 1) := by decide +kernel
theorem dX5_finish_22 : decode cX5_finish 22 = .ok (.aload_n 2, 1) := by decide +kernel
theorem dX5_finish_23 : decode cX5_finish 23 = .ok (.getfield 203, 3) := by decide +kernel
theorem dX5_finish_26 : decode cX5_finish 26 = .ok (.aload_n 0, 1) := by decide +kernel
theorem dX5_finish_27 : decode cX5_finish 27 = .ok (.getfield 37, 3) := by decide +kernel
theorem dX5_finish_30 : decode cX5_finish 30 = .ok (.invokespecial 206, 3) := by decide +kernel
theorem dX5_finish_33 : decode cX5_finish 33 = .ok (.astore 4, 2) := by decide +kernel
theorem dX5_finish_35 : decode cX5_finish 35 = .ok (.aload_n 0, 1) := by decide +kernel
theorem dX5_finish_36 : decode cX5_finish 36 = .ok (.getfield 19, 3) := by decide +kernel
theorem dX5_finish_39 : decode cX5_finish 39 = .ok (.aload 4, 2) := by decide +kernel
theorem dX5_finish_41 : decode cX5_finish 41 = .ok (.invokevirtual 209, 3) := by decide +kernel
theorem dX5_finish_44 : decode cX5_finish 44 = .ok (.aload_n 2, 1) := by decide +kernel
theorem dX5_finish_45 : decode cX5_finish 45 = .ok (.iconst 2, 1) := by decide +kernel
theorem dX5_finish_46 : decode cX5_finish 46 = .ok (.putfield 140, 3) := by decide +kernel
theorem dX5_finish_49 : decode cX5_finish 49 = .ok (.aload_n 2, 1) := by decide +kernel
theorem dX5_finish_50 : decode cX5_finish 50 = .ok (.aload 4, 2) := by decide +kernel
theorem dX5_finish_52 : decode cX5_finish 52 = .ok (.invokevirtual 213, 3) := by decide +kernel
theorem dX5_finish_55 : decode cX5_finish 55 = .ok (.putfield 149, 3) := by decide +kernel
theorem dX5_finish_58 : decode cX5_finish 58 = .ok (.aload_n 1, 1) := by decide +kernel
theorem dX5_finish_59 : decode cX5_finish 59 = .ok (.aload_n 0, 1) := by decide +kernel
theorem dX5_finish_60 : decode cX5_finish 60 = .ok (.getfield 33, 3) := by decide +kernel
theorem dX5_finish_63 : decode cX5_finish 63 = .ok (.iload_n 3, 1) := by decide +kernel
theorem dX5_finish_64 : decode cX5_finish 64 = .ok (.invokevirtual 215, 3) := by decide +kernel
theorem dX5_finish_67 : decode cX5_finish 67 = .ok (.return_, 1) := by decide +kernel
theorem dX5_freeBoatsThatRested_0 : decode cX5_freeBoatsThatRested 0 = .ok (.iconst 0, 1) := by decide +kernel
theorem dX5_freeBoatsThatRested_1 : decode cX5_freeBoatsThatRested 1 = .ok (.istore_n 1, 1) := by decide +kernel
theorem dX5_freeBoatsThatRested_2 : decode cX5_freeBoatsThatRested 2 = .ok (.iload_n 1, 1) := by decide +kernel
theorem dX5_freeBoatsThatRested_3 : decode cX5_freeBoatsThatRested 3 = .ok (.aload_n 0, 1) := by decide +kernel
theorem dX5_freeBoatsThatRested_4 : decode cX5_freeBoatsThatRested 4 = .ok (.getfield 26, 3) := by decide +kernel
theorem dX5_freeBoatsThatRested_7 : decode cX5_freeBoatsThatRested 7 = .ok (.invokeinterface 51 1, 5) := by decide +kernel
theorem dX5_freeBoatsThatRested_12 : decode cX5_freeBoatsThatRested 12 = .ok (.if_icmp .ge 46, 3) := by decide +kernel
theorem dX5_freeBoatsThatRested_15 : decode cX5_freeBoatsThatRested 15 = .ok (.aload_n 0, 1) := by decide +kernel
theorem dX5_freeBoatsThatRested_16 : decode cX5_freeBoatsThatRested 16 = .ok (.getfield 26, 3) := by decide +kernel
theorem dX5_freeBoatsThatRested_19 : decode cX5_freeBoatsThatRested 19 = .ok (.iload_n 1, 1) := by decide +kernel
theorem dX5_freeBoatsThatRested_20 : decode cX5_freeBoatsThatRested 20 = .ok (.invokeinterface 172 2, 5) := by decide +kernel
theorem dX5_freeBoatsThatRested_25 : decode cX5_freeBoatsThatRested 25 = .ok (.checkcast 64, 3) := by decide +kernel
theorem dX5_freeBoatsThatRested_28 : decode cX5_freeBoatsThatRested 28 = .ok (.astore_n 2, 1) := by decide +kernel
theorem dX5_freeBoatsThatRested_29 : decode cX5_freeBoatsThatRested 29 = .ok (.aload_n 2, 1) := by decide +kernel
theorem dX5_freeBoatsThatRested_30 : decode cX5_freeBoatsThatRested 30 = .ok (.getfield 120, 3) := by decide +kernel
theorem dX5_freeBoatsThatRested_33 : decode cX5_freeBoatsThatRested 33 = .ok (.iconst 2, 1) := by decide +kernel
theorem dX5_freeBoatsThatRested_34 : decode cX5_freeBoatsThatRested 34 = .ok (.if_icmp .ne 18, 3) := by decide +kernel
theorem dX5_freeBoatsThatRested_37 : decode cX5_freeBoatsThatRested 37 = .ok (.aload_n 2, 1) := by decide +kernel
theorem dX5_freeBoatsThatRested_38 : decode cX5_freeBoatsThatRested 38 = .ok (.getfield 130, 3) := by decide +kernel
theorem dX5_freeBoatsThatRested_41 : decode cX5_freeBoatsThatRested 41 = .ok (.aload_n 0, 1) := by decide +kernel
theorem dX5_freeBoatsThatRested_42 : decode cX5_freeBoatsThatRested 42 = .ok (.getfield 33, 3) := by decide +kernel
theorem dX5_freeBoatsThatRested_45 : decode cX5_freeBoatsThatRested 45 = .ok (.if_icmp .ne 7, 3) := by decide +kernel
theorem dX5_freeBoatsThatRested_48 : decode cX5_freeBoatsThatRested 48 = .ok (.aload_n 2, 1) := by decide +kernel
theorem dX5_freeBoatsThatRested_49 : decode cX5_freeBoatsThatRested 49 = .ok (.invokevirtual 219, 3) := by decide +kernel
theorem dX5_freeBoatsThatRested_52 : decode cX5_freeBoatsThatRested 52 = .ok (.iinc 1 1, 3) := by decide +kernel
theorem dX5_freeBoatsThatRested_55 : decode cX5_freeBoatsThatRested 55 = .ok (.goto (-53), 3) := by decide +kernel
theorem dX5_freeBoatsThatRested_58 : decode cX5_freeBoatsThatRested 58 = .ok (.return_, 1) := by decide +kernel
theorem dX5_answerCalls_0 : decode cX5_answerCalls 0 = .ok (.iconst 0, 1) := by decide +kernel
theorem dX5_answerCalls_1 : decode cX5_answerCalls 1 = .ok (.istore_n 1, 1) := by decide +kernel
theorem dX5_answerCalls_2 : decode cX5_answerCalls 2 = .ok (.iload_n 1, 1) := by decide +kernel
theorem dX5_answerCalls_3 : decode cX5_answerCalls 3 = .ok (.aload_n 0, 1) := by decide +kernel
theorem dX5_answerCalls_4 : decode cX5_answerCalls 4 = .ok (.getfield 30, 3) := by decide +kernel
theorem dX5_answerCalls_7 : decode cX5_answerCalls 7 = .ok (.invokeinterface 51 1, 5) := by decide +kernel
theorem dX5_answerCalls_12 : decode cX5_answerCalls 12 = .ok (.if_icmp .ge 66, 3) := by decide +kernel
theorem dX5_answerCalls_15 : decode cX5_answerCalls 15 = .ok (.aload_n 0, 1) := by decide +kernel
theorem dX5_answerCalls_16 : decode cX5_answerCalls 16 = .ok (.getfield 30, 3) := by decide +kernel
theorem dX5_answerCalls_19 : decode cX5_answerCalls 19 = .ok (.iload_n 1, 1) := by decide +kernel
theorem dX5_answerCalls_20 : decode cX5_answerCalls 20 = .ok (.invokeinterface 172 2, 5) := by decide +kernel
theorem dX5_answerCalls_25 : decode cX5_answerCalls 25 = .ok (.checkcast 98, 3) := by decide +kernel
theorem dX5_answerCalls_28 : decode cX5_answerCalls 28 = .ok (.astore_n 2, 1) := by decide +kernel
theorem dX5_answerCalls_29 : decode cX5_answerCalls 29 = .ok (.aload_n 2, 1) := by decide +kernel
theorem dX5_answerCalls_30 : decode cX5_answerCalls 30 = .ok (.getfield 140, 3) := by decide +kernel
theorem dX5_answerCalls_33 : decode cX5_answerCalls 33 = .ok (.ifCond .ne 22, 3) := by decide +kernel
theorem dX5_answerCalls_36 : decode cX5_answerCalls 36 = .ok (.aload_n 2, 1) := by decide +kernel
theorem dX5_answerCalls_37 : decode cX5_answerCalls 37 = .ok (.getfield 222, 3) := by decide +kernel
theorem dX5_answerCalls_40 : decode cX5_answerCalls 40 = .ok (.aload_n 0, 1) := by decide +kernel
theorem dX5_answerCalls_41 : decode cX5_answerCalls 41 = .ok (.getfield 33, 3) := by decide +kernel
theorem dX5_answerCalls_44 : decode cX5_answerCalls 44 = .ok (.if_icmp .ge 11, 3) := by decide +kernel
theorem dX5_answerCalls_47 : decode cX5_answerCalls 47 = .ok (.aload_n 2, 1) := by decide +kernel
theorem dX5_answerCalls_48 : decode cX5_answerCalls 48 = .ok (.iconst 3, 1) := by decide +kernel
theorem dX5_answerCalls_49 : decode cX5_answerCalls 49 = .ok (.putfield 140, 3) := by decide +kernel
theorem dX5_answerCalls_52 : decode cX5_answerCalls 52 = .ok (.goto 20, 3) := by decide +kernel
theorem dX5_answerCalls_55 : decode cX5_answerCalls 55 = .ok (.aload_n 2, 1) := by decide +kernel
theorem dX5_answerCalls_56 : decode cX5_answerCalls 56 = .ok (.getfield 140, 3) := by decide +kernel
theorem dX5_answerCalls_59 : decode cX5_answerCalls 59 = .ok (.ifCond .ne 13, 3) := by decide +kernel
theorem dX5_answerCalls_62 : decode cX5_answerCalls 62 = .ok (.aload_n 0, 1) := by decide +kernel
theorem dX5_answerCalls_63 : decode cX5_answerCalls 63 = .ok (.aload_n 0, 1) := by decide +kernel
theorem dX5_answerCalls_64 : decode cX5_answerCalls 64 = .ok (.aload_n 2, 1) := by decide +kernel
theorem dX5_answerCalls_65 : decode cX5_answerCalls 65 = .ok (.invokevirtual 225, 3) := by decide +kernel
theorem dX5_answerCalls_68 : decode cX5_answerCalls 68 = .ok (.aload_n 2, 1) := by decide +kernel
theorem dX5_answerCalls_69 : decode cX5_answerCalls 69 = .ok (.invokevirtual 229, 3) := by decide +kernel
theorem dX5_answerCalls_72 : decode cX5_answerCalls 72 = .ok (.iinc 1 1, 3) := by decide +kernel
theorem dX5_answerCalls_75 : decode cX5_answerCalls 75 = .ok (.goto (-73), 3) := by decide +kernel
theorem dX5_answerCalls_78 : decode cX5_answerCalls 78 = .ok (.return_, 1) := by decide +kernel
theorem dX5_task_0 : decode cX5_task 0 = .ok (.aload_n 1, 1) := by decide +kernel
theorem dX5_task_1 : decode cX5_task 1 = .ok (.ifnull 38, 3) := by decide +kernel
theorem dX5_task_4 : decode cX5_task 4 = .ok (.aload_n 1, 1) := by decide +kernel
theorem dX5_task_5 : decode cX5_task 5 = .ok (.aload_n 2, 1) := by decide +kernel
theorem dX5_task_6 : decode cX5_task 6 = .ok (.aload_n 0, 1) := by decide +kernel
theorem dX5_task_7 : decode cX5_task 7 = .ok (.getfield 33, 3) := by decide +kernel
theorem dX5_task_10 : decode cX5_task 10 = .ok (.aload_n 0, 1) := by decide +kernel
theorem dX5_task_11 : decode cX5_task 11 = .ok (.aload_n 1, 1) := by decide +kernel
theorem dX5_task_12 : decode cX5_task 12 = .ok (.aload_n 2, 1) := by decide +kernel
theorem dX5_task_13 : decode cX5_task 13 = .ok (.invokevirtual 232, 3) := by decide +kernel
theorem dX5_task_16 : decode cX5_task 16 = .ok (.invokevirtual 236, 3) := by decide +kernel
theorem dX5_task_19 : decode cX5_task 19 = .ok (.aload_n 2, 1) := by decide +kernel
theorem dX5_task_20 : decode cX5_task 20 = .ok (.iconst 1, 1) := by decide +kernel
theorem dX5_task_21 : decode cX5_task 21 = .ok (.putfield 140, 3) := by decide +kernel
theorem dX5_task_24 : decode cX5_task 24 = .ok (.aload_n 2, 1) := by decide +kernel
theorem dX5_task_25 : decode cX5_task 25 = .ok (.aload_n 1, 1) := by decide +kernel
theorem dX5_task_26 : decode cX5_task 26 = .ok (.putfield 141, 3) := by decide +kernel
theorem dX5_task_29 : decode cX5_task 29 = .ok (.aload_n 2, 1) := by decide +kernel
theorem dX5_task_30 : decode cX5_task 30 = .ok (.dup, 1) := by decide +kernel
theorem dX5_task_31 : decode cX5_task 31 = .ok (.getfield 146, 3) := by decide +kernel
theorem dX5_task_34 : decode cX5_task 34 = .ok (.iconst 1, 1) := by decide +kernel
theorem dX5_task_35 : decode cX5_task 35 = .ok (.iadd, 1) := by decide +kernel
theorem dX5_task_36 : decode cX5_task 36 = .ok (.putfield 146, 3) := by decide +kernel
theorem dX5_task_39 : decode cX5_task 39 = .ok (.return_, 1) := by decide +kernel
theorem dX5_boatFirstThere_0 : decode cX5_boatFirstThere 0 = .ok (.aconst_null, 1) := by decide +kernel
theorem dX5_boatFirstThere_1 : decode cX5_boatFirstThere 1 = .ok (.astore_n 2, 1) := by decide +kernel
theorem dX5_boatFirstThere_2 : decode cX5_boatFirstThere 2 = .ok (.iconst (-1), 1) := by decide +kernel
theorem dX5_boatFirstThere_3 : decode cX5_boatFirstThere 3 = .ok (.istore_n 3, 1) := by decide +kernel
theorem dX5_boatFirstThere_4 : decode cX5_boatFirstThere 4 = .ok (.iconst 0, 1) := by decide +kernel
theorem dX5_boatFirstThere_5 : decode cX5_boatFirstThere 5 = .ok (.istore 4, 2) := by decide +kernel
theorem dX5_boatFirstThere_7 : decode cX5_boatFirstThere 7 = .ok (.iload 4, 2) := by decide +kernel
theorem dX5_boatFirstThere_9 : decode cX5_boatFirstThere 9 = .ok (.aload_n 0, 1) := by decide +kernel
theorem dX5_boatFirstThere_10 : decode cX5_boatFirstThere 10 = .ok (.getfield 26, 3) := by decide +kernel
theorem dX5_boatFirstThere_13 : decode cX5_boatFirstThere 13 = .ok (.invokeinterface 51 1, 5) := by decide +kernel
theorem dX5_boatFirstThere_18 : decode cX5_boatFirstThere 18 = .ok (.if_icmp .ge 56, 3) := by decide +kernel
theorem dX5_boatFirstThere_21 : decode cX5_boatFirstThere 21 = .ok (.aload_n 0, 1) := by decide +kernel
theorem dX5_boatFirstThere_22 : decode cX5_boatFirstThere 22 = .ok (.getfield 26, 3) := by decide +kernel
theorem dX5_boatFirstThere_25 : decode cX5_boatFirstThere 25 = .ok (.iload 4, 2) := by decide +kernel
theorem dX5_boatFirstThere_27 : decode cX5_boatFirstThere 27 = .ok (.invokeinterface 172 2, 5) := by decide +kernel
theorem dX5_boatFirstThere_32 : decode cX5_boatFirstThere 32 = .ok (.checkcast 64, 3) := by decide +kernel
theorem dX5_boatFirstThere_35 : decode cX5_boatFirstThere 35 = .ok (.astore 5, 2) := by decide +kernel
theorem dX5_boatFirstThere_37 : decode cX5_boatFirstThere 37 = .ok (.aload_n 0, 1) := by decide +kernel
theorem dX5_boatFirstThere_38 : decode cX5_boatFirstThere 38 = .ok (.aload 5, 2) := by decide +kernel
theorem dX5_boatFirstThere_40 : decode cX5_boatFirstThere 40 = .ok (.aload_n 1, 1) := by decide +kernel
theorem dX5_boatFirstThere_41 : decode cX5_boatFirstThere 41 = .ok (.invokevirtual 232, 3) := by decide +kernel
theorem dX5_boatFirstThere_44 : decode cX5_boatFirstThere 44 = .ok (.istore 6, 2) := by decide +kernel
theorem dX5_boatFirstThere_46 : decode cX5_boatFirstThere 46 = .ok (.iload 6, 2) := by decide +kernel
theorem dX5_boatFirstThere_48 : decode cX5_boatFirstThere 48 = .ok (.iconst (-1), 1) := by decide +kernel
theorem dX5_boatFirstThere_49 : decode cX5_boatFirstThere 49 = .ok (.if_icmp .eq 19, 3) := by decide +kernel
theorem dX5_boatFirstThere_52 : decode cX5_boatFirstThere 52 = .ok (.aload_n 2, 1) := by decide +kernel
theorem dX5_boatFirstThere_53 : decode cX5_boatFirstThere 53 = .ok (.ifnull 9, 3) := by decide +kernel
theorem dX5_boatFirstThere_56 : decode cX5_boatFirstThere 56 = .ok (.iload 6, 2) := by decide +kernel
theorem dX5_boatFirstThere_58 : decode cX5_boatFirstThere 58 = .ok (.iload_n 3, 1) := by decide +kernel
theorem dX5_boatFirstThere_59 : decode cX5_boatFirstThere 59 = .ok (.if_icmp .ge 9, 3) := by decide +kernel
theorem dX5_boatFirstThere_62 : decode cX5_boatFirstThere 62 = .ok (.aload 5, 2) := by decide +kernel
theorem dX5_boatFirstThere_64 : decode cX5_boatFirstThere 64 = .ok (.astore_n 2, 1) := by decide +kernel
theorem dX5_boatFirstThere_65 : decode cX5_boatFirstThere 65 = .ok (.iload 6, 2) := by decide +kernel
theorem dX5_boatFirstThere_67 : decode cX5_boatFirstThere 67 = .ok (.istore_n 3, 1) := by decide +kernel
theorem dX5_boatFirstThere_68 : decode cX5_boatFirstThere 68 = .ok (.iinc 4 1, 3) := by decide +kernel
theorem dX5_boatFirstThere_71 : decode cX5_boatFirstThere 71 = .ok (.goto (-64), 3) := by decide +kernel
theorem dX5_boatFirstThere_74 : decode cX5_boatFirstThere 74 = .ok (.aload_n 2, 1) := by decide +kernel
theorem dX5_boatFirstThere_75 : decode cX5_boatFirstThere 75 = .ok (.areturn, 1) := by decide +kernel
theorem dX5_hourThere_0 : decode cX5_hourThere 0 = .ok (.aload_n 1, 1) := by decide +kernel
theorem dX5_hourThere_1 : decode cX5_hourThere 1 = .ok (.aload_n 2, 1) := by decide +kernel
theorem dX5_hourThere_2 : decode cX5_hourThere 2 = .ok (.getfield 176, 3) := by decide +kernel
theorem dX5_hourThere_5 : decode cX5_hourThere 5 = .ok (.invokevirtual 192, 3) := by decide +kernel
theorem dX5_hourThere_8 : decode cX5_hourThere 8 = .ok (.istore_n 3, 1) := by decide +kernel
theorem dX5_hourThere_9 : decode cX5_hourThere 9 = .ok (.aload_n 1, 1) := by decide +kernel
theorem dX5_hourThere_10 : decode cX5_hourThere 10 = .ok (.iload_n 3, 1) := by decide +kernel
theorem dX5_hourThere_11 : decode cX5_hourThere 11 = .ok (.invokevirtual 240, 3) := by decide +kernel
theorem dX5_hourThere_14 : decode cX5_hourThere 14 = .ok (.istore 4, 2) := by decide +kernel
theorem dX5_hourThere_16 : decode cX5_hourThere 16 = .ok (.aload_n 1, 1) := by decide +kernel
theorem dX5_hourThere_17 : decode cX5_hourThere 17 = .ok (.getfield 120, 3) := by decide +kernel
theorem dX5_hourThere_20 : decode cX5_hourThere 20 = .ok (.ifCond .ne 19, 3) := by decide +kernel
theorem dX5_hourThere_23 : decode cX5_hourThere 23 = .ok (.iload 4, 2) := by decide +kernel
theorem dX5_hourThere_25 : decode cX5_hourThere 25 = .ok (.iconst (-1), 1) := by decide +kernel
theorem dX5_hourThere_26 : decode cX5_hourThere 26 = .ok (.if_icmp .eq 13, 3) := by decide +kernel
theorem dX5_hourThere_29 : decode cX5_hourThere 29 = .ok (.aload_n 1, 1) := by decide +kernel
theorem dX5_hourThere_30 : decode cX5_hourThere 30 = .ok (.getfield 133, 3) := by decide +kernel
theorem dX5_hourThere_33 : decode cX5_hourThere 33 = .ok (.iconst 2, 1) := by decide +kernel
theorem dX5_hourThere_34 : decode cX5_hourThere 34 = .ok (.iload_n 3, 1) := by decide +kernel
theorem dX5_hourThere_35 : decode cX5_hourThere 35 = .ok (.imul, 1) := by decide +kernel
theorem dX5_hourThere_36 : decode cX5_hourThere 36 = .ok (.if_icmp .ge 5, 3) := by decide +kernel
theorem dX5_hourThere_39 : decode cX5_hourThere 39 = .ok (.iconst (-1), 1) := by decide +kernel
theorem dX5_hourThere_40 : decode cX5_hourThere 40 = .ok (.ireturn, 1) := by decide +kernel
theorem dX5_hourThere_41 : decode cX5_hourThere 41 = .ok (.aload_n 0, 1) := by decide +kernel
theorem dX5_hourThere_42 : decode cX5_hourThere 42 = .ok (.getfield 33, 3) := by decide +kernel
theorem dX5_hourThere_45 : decode cX5_hourThere 45 = .ok (.iload 4, 2) := by decide +kernel
theorem dX5_hourThere_47 : decode cX5_hourThere 47 = .ok (.iadd, 1) := by decide +kernel
theorem dX5_hourThere_48 : decode cX5_hourThere 48 = .ok (.istore 5, 2) := by decide +kernel
theorem dX5_hourThere_50 : decode cX5_hourThere 50 = .ok (.iload 5, 2) := by decide +kernel
theorem dX5_hourThere_52 : decode cX5_hourThere 52 = .ok (.aload_n 2, 1) := by decide +kernel
theorem dX5_hourThere_53 : decode cX5_hourThere 53 = .ok (.getfield 222, 3) := by decide +kernel
theorem dX5_hourThere_56 : decode cX5_hourThere 56 = .ok (.if_icmp .gt 28, 3) := by decide +kernel
theorem dX5_hourThere_59 : decode cX5_hourThere 59 = .ok (.aload_n 0, 1) := by decide +kernel
theorem dX5_hourThere_60 : decode cX5_hourThere 60 = .ok (.getfield 10, 3) := by decide +kernel
theorem dX5_hourThere_63 : decode cX5_hourThere 63 = .ok (.aload_n 2, 1) := by decide +kernel
theorem dX5_hourThere_64 : decode cX5_hourThere 64 = .ok (.getfield 176, 3) := by decide +kernel
theorem dX5_hourThere_67 : decode cX5_hourThere 67 = .ok (.iload 5, 2) := by decide +kernel
theorem dX5_hourThere_69 : decode cX5_hourThere 69 = .ok (.invokevirtual 116, 3) := by decide +kernel
theorem dX5_hourThere_72 : decode cX5_hourThere 72 = .ok (.aload_n 1, 1) := by decide +kernel
theorem dX5_hourThere_73 : decode cX5_hourThere 73 = .ok (.getfield 179, 3) := by decide +kernel
theorem dX5_hourThere_76 : decode cX5_hourThere 76 = .ok (.if_icmp .gt 8, 3) := by decide +kernel
theorem dX5_hourThere_79 : decode cX5_hourThere 79 = .ok (.iload 5, 2) := by decide +kernel
theorem dX5_hourThere_81 : decode cX5_hourThere 81 = .ok (.goto 4, 3) := by decide +kernel
theorem dX5_hourThere_84 : decode cX5_hourThere 84 = .ok (.iconst (-1), 1) := by decide +kernel
theorem dX5_hourThere_85 : decode cX5_hourThere 85 = .ok (.ireturn, 1) := by decide +kernel
theorem dX5_callsEverAt_0 : decode cX5_callsEverAt 0 = .ok (.iconst 0, 1) := by decide +kernel
theorem dX5_callsEverAt_1 : decode cX5_callsEverAt 1 = .ok (.istore_n 2, 1) := by decide +kernel
theorem dX5_callsEverAt_2 : decode cX5_callsEverAt 2 = .ok (.iconst 0, 1) := by decide +kernel
theorem dX5_callsEverAt_3 : decode cX5_callsEverAt 3 = .ok (.istore_n 3, 1) := by decide +kernel
theorem dX5_callsEverAt_4 : decode cX5_callsEverAt 4 = .ok (.iload_n 3, 1) := by decide +kernel
theorem dX5_callsEverAt_5 : decode cX5_callsEverAt 5 = .ok (.aload_n 0, 1) := by decide +kernel
theorem dX5_callsEverAt_6 : decode cX5_callsEverAt 6 = .ok (.getfield 30, 3) := by decide +kernel
theorem dX5_callsEverAt_9 : decode cX5_callsEverAt 9 = .ok (.invokeinterface 51 1, 5) := by decide +kernel
theorem dX5_callsEverAt_14 : decode cX5_callsEverAt 14 = .ok (.if_icmp .ge 32, 3) := by decide +kernel
theorem dX5_callsEverAt_17 : decode cX5_callsEverAt 17 = .ok (.aload_n 0, 1) := by decide +kernel
theorem dX5_callsEverAt_18 : decode cX5_callsEverAt 18 = .ok (.getfield 30, 3) := by decide +kernel
theorem dX5_callsEverAt_21 : decode cX5_callsEverAt 21 = .ok (.iload_n 3, 1) := by decide +kernel
theorem dX5_callsEverAt_22 : decode cX5_callsEverAt 22 = .ok (.invokeinterface 172 2, 5) := by decide +kernel
theorem dX5_callsEverAt_27 : decode cX5_callsEverAt 27 = .ok (.checkcast 98, 3) := by decide +kernel
theorem dX5_callsEverAt_30 : decode cX5_callsEverAt 30 = .ok (.getfield 176, 3) := by decide +kernel
theorem dX5_callsEverAt_33 : decode cX5_callsEverAt 33 = .ok (.iload_n 1, 1) := by decide +kernel
theorem dX5_callsEverAt_34 : decode cX5_callsEverAt 34 = .ok (.if_icmp .ne 6, 3) := by decide +kernel
theorem dX5_callsEverAt_37 : decode cX5_callsEverAt 37 = .ok (.iinc 2 1, 3) := by decide +kernel
theorem dX5_callsEverAt_40 : decode cX5_callsEverAt 40 = .ok (.iinc 3 1, 3) := by decide +kernel
theorem dX5_callsEverAt_43 : decode cX5_callsEverAt 43 = .ok (.goto (-39), 3) := by decide +kernel
theorem dX5_callsEverAt_46 : decode cX5_callsEverAt 46 = .ok (.iload_n 2, 1) := by decide +kernel
theorem dX5_callsEverAt_47 : decode cX5_callsEverAt 47 = .ok (.ireturn, 1) := by decide +kernel
theorem dX5_boatNumbered_0 : decode cX5_boatNumbered 0 = .ok (.iload_n 1, 1) := by decide +kernel
theorem dX5_boatNumbered_1 : decode cX5_boatNumbered 1 = .ok (.ifCond .lt 16, 3) := by decide +kernel
theorem dX5_boatNumbered_4 : decode cX5_boatNumbered 4 = .ok (.iload_n 1, 1) := by decide +kernel
theorem dX5_boatNumbered_5 : decode cX5_boatNumbered 5 = .ok (.aload_n 0, 1) := by decide +kernel
theorem dX5_boatNumbered_6 : decode cX5_boatNumbered 6 = .ok (.getfield 26, 3) := by decide +kernel
theorem dX5_boatNumbered_9 : decode cX5_boatNumbered 9 = .ok (.invokeinterface 51 1, 5) := by decide +kernel
theorem dX5_boatNumbered_14 : decode cX5_boatNumbered 14 = .ok (.if_icmp .lt 13, 3) := by decide +kernel
theorem dX5_boatNumbered_17 : decode cX5_boatNumbered 17 = .ok (.new 243, 3) := by decide +kernel
theorem dX5_boatNumbered_20 : decode cX5_boatNumbered 20 = .ok (.dup, 1) := by decide +kernel
theorem dX5_boatNumbered_21 : decode cX5_boatNumbered 21 = .ok (.ldc 245, 2) := by decide +kernel
theorem dX5_boatNumbered_23 : decode cX5_boatNumbered 23 = .ok (.invokespecial 247, 3) := by decide +kernel
theorem dX5_boatNumbered_26 : decode cX5_boatNumbered 26 = .ok (.athrow, 1) := by decide +kernel
theorem dX5_boatNumbered_27 : decode cX5_boatNumbered 27 = .ok (.aload_n 0, 1) := by decide +kernel
theorem dX5_boatNumbered_28 : decode cX5_boatNumbered 28 = .ok (.getfield 26, 3) := by decide +kernel
theorem dX5_boatNumbered_31 : decode cX5_boatNumbered 31 = .ok (.iload_n 1, 1) := by decide +kernel
theorem dX5_boatNumbered_32 : decode cX5_boatNumbered 32 = .ok (.invokeinterface 172 2, 5) := by decide +kernel
theorem dX5_boatNumbered_37 : decode cX5_boatNumbered 37 = .ok (.checkcast 64, 3) := by decide +kernel
theorem dX5_boatNumbered_40 : decode cX5_boatNumbered 40 = .ok (.areturn, 1) := by decide +kernel
theorem dX5_callNumbered_0 : decode cX5_callNumbered 0 = .ok (.iload_n 1, 1) := by decide +kernel
theorem dX5_callNumbered_1 : decode cX5_callNumbered 1 = .ok (.ifCond .lt 16, 3) := by decide +kernel
theorem dX5_callNumbered_4 : decode cX5_callNumbered 4 = .ok (.iload_n 1, 1) := by decide +kernel
theorem dX5_callNumbered_5 : decode cX5_callNumbered 5 = .ok (.aload_n 0, 1) := by decide +kernel
theorem dX5_callNumbered_6 : decode cX5_callNumbered 6 = .ok (.getfield 30, 3) := by decide +kernel
theorem dX5_callNumbered_9 : decode cX5_callNumbered 9 = .ok (.invokeinterface 51 1, 5) := by decide +kernel
theorem dX5_callNumbered_14 : decode cX5_callNumbered 14 = .ok (.if_icmp .lt 13, 3) := by decide +kernel
theorem dX5_callNumbered_17 : decode cX5_callNumbered 17 = .ok (.new 243, 3) := by decide +kernel
theorem dX5_callNumbered_20 : decode cX5_callNumbered 20 = .ok (.dup, 1) := by decide +kernel
theorem dX5_callNumbered_21 : decode cX5_callNumbered 21 = .ok (.ldc 248, 2) := by decide +kernel
theorem dX5_callNumbered_23 : decode cX5_callNumbered 23 = .ok (.invokespecial 247, 3) := by decide +kernel
theorem dX5_callNumbered_26 : decode cX5_callNumbered 26 = .ok (.athrow, 1) := by decide +kernel
theorem dX5_callNumbered_27 : decode cX5_callNumbered 27 = .ok (.aload_n 0, 1) := by decide +kernel
theorem dX5_callNumbered_28 : decode cX5_callNumbered 28 = .ok (.getfield 30, 3) := by decide +kernel
theorem dX5_callNumbered_31 : decode cX5_callNumbered 31 = .ok (.iload_n 1, 1) := by decide +kernel
theorem dX5_callNumbered_32 : decode cX5_callNumbered 32 = .ok (.invokeinterface 172 2, 5) := by decide +kernel
theorem dX5_callNumbered_37 : decode cX5_callNumbered 37 = .ok (.checkcast 98, 3) := by decide +kernel
theorem dX5_callNumbered_40 : decode cX5_callNumbered 40 = .ok (.areturn, 1) := by decide +kernel
theorem dX5_checkClub_0 : decode cX5_checkClub 0 = .ok (.iload_n 0, 1) := by decide +kernel
theorem dX5_checkClub_1 : decode cX5_checkClub 1 = .ok (.ifCond .lt 8, 3) := by decide +kernel
theorem dX5_checkClub_4 : decode cX5_checkClub 4 = .ok (.iload_n 0, 1) := by decide +kernel
theorem dX5_checkClub_5 : decode cX5_checkClub 5 = .ok (.iconst 3, 1) := by decide +kernel
theorem dX5_checkClub_6 : decode cX5_checkClub 6 = .ok (.if_icmp .lt 13, 3) := by decide +kernel
theorem dX5_checkClub_9 : decode cX5_checkClub 9 = .ok (.new 243, 3) := by decide +kernel
theorem dX5_checkClub_12 : decode cX5_checkClub 12 = .ok (.dup, 1) := by decide +kernel
theorem dX5_checkClub_13 : decode cX5_checkClub 13 = .ok (.ldc 250, 2) := by decide +kernel
theorem dX5_checkClub_15 : decode cX5_checkClub 15 = .ok (.invokespecial 247, 3) := by decide +kernel
theorem dX5_checkClub_18 : decode cX5_checkClub 18 = .ok (.athrow, 1) := by decide +kernel
theorem dX5_checkClub_19 : decode cX5_checkClub 19 = .ok (.return_, 1) := by decide +kernel
theorem dX5_checkCell_0 : decode cX5_checkCell 0 = .ok (.iload_n 0, 1) := by decide +kernel
theorem dX5_checkCell_1 : decode cX5_checkCell 1 = .ok (.ifCond .lt 9, 3) := by decide +kernel
theorem dX5_checkCell_4 : decode cX5_checkCell 4 = .ok (.iload_n 0, 1) := by decide +kernel
theorem dX5_checkCell_5 : decode cX5_checkCell 5 = .ok (.bipush 48, 2) := by decide +kernel
theorem dX5_checkCell_7 : decode cX5_checkCell 7 = .ok (.if_icmp .lt 13, 3) := by decide +kernel
theorem dX5_checkCell_10 : decode cX5_checkCell 10 = .ok (.new 243, 3) := by decide +kernel
theorem dX5_checkCell_13 : decode cX5_checkCell 13 = .ok (.dup, 1) := by decide +kernel
theorem dX5_checkCell_14 : decode cX5_checkCell 14 = .ok (.ldc 252, 2) := by decide +kernel
theorem dX5_checkCell_16 : decode cX5_checkCell 16 = .ok (.invokespecial 247, 3) := by decide +kernel
theorem dX5_checkCell_19 : decode cX5_checkCell 19 = .ok (.athrow, 1) := by decide +kernel
theorem dX5_checkCell_20 : decode cX5_checkCell 20 = .ok (.return_, 1) := by decide +kernel
theorem dX5_checkWithin_0 : decode cX5_checkWithin 0 = .ok (.iload_n 0, 1) := by decide +kernel
theorem dX5_checkWithin_1 : decode cX5_checkWithin 1 = .ok (.iload_n 1, 1) := by decide +kernel
theorem dX5_checkWithin_2 : decode cX5_checkWithin 2 = .ok (.if_icmp .lt 8, 3) := by decide +kernel
theorem dX5_checkWithin_5 : decode cX5_checkWithin 5 = .ok (.iload_n 0, 1) := by decide +kernel
theorem dX5_checkWithin_6 : decode cX5_checkWithin 6 = .ok (.iload_n 2, 1) := by decide +kernel
theorem dX5_checkWithin_7 : decode cX5_checkWithin 7 = .ok (.if_icmp .le 13, 3) := by decide +kernel
theorem dX5_checkWithin_10 : decode cX5_checkWithin 10 = .ok (.new 87, 3) := by decide +kernel
theorem dX5_checkWithin_13 : decode cX5_checkWithin 13 = .ok (.dup, 1) := by decide +kernel
theorem dX5_checkWithin_14 : decode cX5_checkWithin 14 = .ok (.ldc 254, 2) := by decide +kernel
theorem dX5_checkWithin_16 : decode cX5_checkWithin 16 = .ok (.invokespecial 91, 3) := by decide +kernel
theorem dX5_checkWithin_19 : decode cX5_checkWithin 19 = .ok (.athrow, 1) := by decide +kernel
theorem dX5_checkWithin_20 : decode cX5_checkWithin 20 = .ok (.return_, 1) := by decide +kernel
theorem dX5_columnOf_0 : decode cX5_columnOf 0 = .ok (.iload_n 0, 1) := by decide +kernel
end
section
theorem dX5_columnOf_1 : decode cX5_columnOf 1 = .ok (.bipush 8, 2) := by decide +kernel
theorem dX5_columnOf_3 : decode cX5_columnOf 3 = .ok (.irem, 1) := by decide +kernel
theorem dX5_columnOf_4 : decode cX5_columnOf 4 = .ok (.ireturn, 1) := by decide +kernel
theorem dX5_rowOf_0 : decode cX5_rowOf 0 = .ok (.iload_n 0, 1) := by decide +kernel
theorem dX5_rowOf_1 : decode cX5_rowOf 1 = .ok (.bipush 8, 2) := by decide +kernel
theorem dX5_rowOf_3 : decode cX5_rowOf 3 = .ok (.idiv, 1) := by decide +kernel
theorem dX5_rowOf_4 : decode cX5_rowOf 4 = .ok (.ireturn, 1) := by decide +kernel
theorem dX6_init_0 : decode cX6_init 0 = .ok (.aload_n 0, 1) := by decide +kernel
theorem dX6_init_1 : decode cX6_init 1 = .ok (.invokespecial 1, 3) := by decide +kernel
theorem dX6_init_4 : decode cX6_init 4 = .ok (.aload_n 0, 1) := by decide +kernel
theorem dX6_init_5 : decode cX6_init 5 = .ok (.ldc 7, 2) := by decide +kernel
theorem dX6_init_7 : decode cX6_init 7 = .ok (.newarray .byte, 2) := by decide +kernel
theorem dX6_init_9 : decode cX6_init 9 = .ok (.putfield 8, 3) := by decide +kernel
theorem dX6_init_12 : decode cX6_init 12 = .ok (.aload_n 0, 1) := by decide +kernel
theorem dX6_init_13 : decode cX6_init 13 = .ok (.bipush 6, 2) := by decide +kernel
theorem dX6_init_15 : decode cX6_init 15 = .ok (.newarray .int, 2) := by decide +kernel
theorem dX6_init_17 : decode cX6_init 17 = .ok (.putfield 14, 3) := by decide +kernel
theorem dX6_init_20 : decode cX6_init 20 = .ok (.aload_n 0, 1) := by decide +kernel
theorem dX6_init_21 : decode cX6_init 21 = .ok (.bipush 6, 2) := by decide +kernel
theorem dX6_init_23 : decode cX6_init 23 = .ok (.newarray .int, 2) := by decide +kernel
theorem dX6_init_25 : decode cX6_init 25 = .ok (.putfield 18, 3) := by decide +kernel
theorem dX6_init_28 : decode cX6_init 28 = .ok (.aload_n 0, 1) := by decide +kernel
theorem dX6_init_29 : decode cX6_init 29 = .ok (.bipush 6, 2) := by decide +kernel
theorem dX6_init_31 : decode cX6_init 31 = .ok (.newarray .int, 2) := by decide +kernel
theorem dX6_init_33 : decode cX6_init 33 = .ok (.putfield 21, 3) := by decide +kernel
theorem dX6_init_36 : decode cX6_init 36 = .ok (.aload_n 0, 1) := by decide +kernel
theorem dX6_init_37 : decode cX6_init 37 = .ok (.bipush 6, 2) := by decide +kernel
theorem dX6_init_39 : decode cX6_init 39 = .ok (.newarray .int, 2) := by decide +kernel
theorem dX6_init_41 : decode cX6_init 41 = .ok (.putfield 24, 3) := by decide +kernel
theorem dX6_init_44 : decode cX6_init 44 = .ok (.aload_n 0, 1) := by decide +kernel
theorem dX6_init_45 : decode cX6_init 45 = .ok (.bipush 6, 2) := by decide +kernel
theorem dX6_init_47 : decode cX6_init 47 = .ok (.newarray .int, 2) := by decide +kernel
theorem dX6_init_49 : decode cX6_init 49 = .ok (.putfield 27, 3) := by decide +kernel
theorem dX6_init_52 : decode cX6_init 52 = .ok (.aload_n 0, 1) := by decide +kernel
theorem dX6_init_53 : decode cX6_init 53 = .ok (.bipush 6, 2) := by decide +kernel
theorem dX6_init_55 : decode cX6_init 55 = .ok (.newarray .int, 2) := by decide +kernel
theorem dX6_init_57 : decode cX6_init 57 = .ok (.putfield 30, 3) := by decide +kernel
theorem dX6_init_60 : decode cX6_init 60 = .ok (.aload_n 0, 1) := by decide +kernel
theorem dX6_init_61 : decode cX6_init 61 = .ok (.bipush 6, 2) := by decide +kernel
theorem dX6_init_63 : decode cX6_init 63 = .ok (.newarray .int, 2) := by decide +kernel
theorem dX6_init_65 : decode cX6_init 65 = .ok (.putfield 33, 3) := by decide +kernel
theorem dX6_init_68 : decode cX6_init 68 = .ok (.aload_n 0, 1) := by decide +kernel
theorem dX6_init_69 : decode cX6_init 69 = .ok (.bipush 6, 2) := by decide +kernel
theorem dX6_init_71 : decode cX6_init 71 = .ok (.newarray .int, 2) := by decide +kernel
theorem dX6_init_73 : decode cX6_init 73 = .ok (.putfield 36, 3) := by decide +kernel
theorem dX6_init_76 : decode cX6_init 76 = .ok (.aload_n 0, 1) := by decide +kernel
theorem dX6_init_77 : decode cX6_init 77 = .ok (.bipush 6, 2) := by decide +kernel
theorem dX6_init_79 : decode cX6_init 79 = .ok (.newarray .int, 2) := by decide +kernel
theorem dX6_init_81 : decode cX6_init 81 = .ok (.putfield 39, 3) := by decide +kernel
theorem dX6_init_84 : decode cX6_init 84 = .ok (.aload_n 0, 1) := by decide +kernel
theorem dX6_init_85 : decode cX6_init 85 = .ok (.bipush 6, 2) := by decide +kernel
theorem dX6_init_87 : decode cX6_init 87 = .ok (.newarray .int, 2) := by decide +kernel
theorem dX6_init_89 : decode cX6_init 89 = .ok (.putfield 42, 3) := by decide +kernel
theorem dX6_init_92 : decode cX6_init 92 = .ok (.aload_n 0, 1) := by decide +kernel
theorem dX6_init_93 : decode cX6_init 93 = .ok (.bipush 6, 2) := by decide +kernel
theorem dX6_init_95 : decode cX6_init 95 = .ok (.newarray .int, 2) := by decide +kernel
theorem dX6_init_97 : decode cX6_init 97 = .ok (.putfield 45, 3) := by decide +kernel
theorem dX6_init_100 : decode cX6_init 100 = .ok (.aload_n 0, 1) := by decide +kernel
theorem dX6_init_101 : decode cX6_init 101 = .ok (.bipush 6, 2) := by decide +kernel
theorem dX6_init_103 : decode cX6_init 103 = .ok (.newarray .int, 2) := by decide +kernel
theorem dX6_init_105 : decode cX6_init 105 = .ok (.putfield 48, 3) := by decide +kernel
theorem dX6_init_108 : decode cX6_init 108 = .ok (.aload_n 0, 1) := by decide +kernel
theorem dX6_init_109 : decode cX6_init 109 = .ok (.bipush 30, 2) := by decide +kernel
theorem dX6_init_111 : decode cX6_init 111 = .ok (.newarray .int, 2) := by decide +kernel
theorem dX6_init_113 : decode cX6_init 113 = .ok (.putfield 51, 3) := by decide +kernel
theorem dX6_init_116 : decode cX6_init 116 = .ok (.aload_n 0, 1) := by decide +kernel
theorem dX6_init_117 : decode cX6_init 117 = .ok (.bipush 30, 2) := by decide +kernel
theorem dX6_init_119 : decode cX6_init 119 = .ok (.newarray .int, 2) := by decide +kernel
theorem dX6_init_121 : decode cX6_init 121 = .ok (.putfield 54, 3) := by decide +kernel
theorem dX6_init_124 : decode cX6_init 124 = .ok (.aload_n 0, 1) := by decide +kernel
theorem dX6_init_125 : decode cX6_init 125 = .ok (.bipush 30, 2) := by decide +kernel
theorem dX6_init_127 : decode cX6_init 127 = .ok (.newarray .int, 2) := by decide +kernel
theorem dX6_init_129 : decode cX6_init 129 = .ok (.putfield 57, 3) := by decide +kernel
theorem dX6_init_132 : decode cX6_init 132 = .ok (.aload_n 0, 1) := by decide +kernel
theorem dX6_init_133 : decode cX6_init 133 = .ok (.bipush 30, 2) := by decide +kernel
theorem dX6_init_135 : decode cX6_init 135 = .ok (.newarray .int, 2) := by decide +kernel
theorem dX6_init_137 : decode cX6_init 137 = .ok (.putfield 60, 3) := by decide +kernel
theorem dX6_init_140 : decode cX6_init 140 = .ok (.aload_n 0, 1) := by decide +kernel
theorem dX6_init_141 : decode cX6_init 141 = .ok (.bipush 30, 2) := by decide +kernel
theorem dX6_init_143 : decode cX6_init 143 = .ok (.newarray .int, 2) := by decide +kernel
theorem dX6_init_145 : decode cX6_init 145 = .ok (.putfield 63, 3) := by decide +kernel
theorem dX6_init_148 : decode cX6_init 148 = .ok (.aload_n 0, 1) := by decide +kernel
theorem dX6_init_149 : decode cX6_init 149 = .ok (.bipush 30, 2) := by decide +kernel
theorem dX6_init_151 : decode cX6_init 151 = .ok (.newarray .int, 2) := by decide +kernel
theorem dX6_init_153 : decode cX6_init 153 = .ok (.putfield 66, 3) := by decide +kernel
theorem dX6_init_156 : decode cX6_init 156 = .ok (.aload_n 0, 1) := by decide +kernel
theorem dX6_init_157 : decode cX6_init 157 = .ok (.bipush 30, 2) := by decide +kernel
theorem dX6_init_159 : decode cX6_init 159 = .ok (.newarray .int, 2) := by decide +kernel
theorem dX6_init_161 : decode cX6_init 161 = .ok (.putfield 69, 3) := by decide +kernel
theorem dX6_init_164 : decode cX6_init 164 = .ok (.aload_n 0, 1) := by decide +kernel
theorem dX6_init_165 : decode cX6_init 165 = .ok (.iconst 3, 1) := by decide +kernel
theorem dX6_init_166 : decode cX6_init 166 = .ok (.newarray .int, 2) := by decide +kernel
theorem dX6_init_168 : decode cX6_init 168 = .ok (.putfield 72, 3) := by decide +kernel
theorem dX6_init_171 : decode cX6_init 171 = .ok (.aload_n 0, 1) := by decide +kernel
theorem dX6_init_172 : decode cX6_init 172 = .ok (.sipush 200, 3) := by decide +kernel
theorem dX6_init_175 : decode cX6_init 175 = .ok (.putfield 75, 3) := by decide +kernel
theorem dX6_init_178 : decode cX6_init 178 = .ok (.return_, 1) := by decide +kernel
theorem dX6_thrown_0 : decode cX6_thrown 0 = .ok (.aload_n 0, 1) := by decide +kernel
theorem dX6_thrown_1 : decode cX6_thrown 1 = .ok (.getfield 79, 3) := by decide +kernel
theorem dX6_thrown_4 : decode cX6_thrown 4 = .ok (.ireturn, 1) := by decide +kernel
theorem dX6_fails_0 : decode cX6_fails 0 = .ok (.aload_n 0, 1) := by decide +kernel
theorem dX6_fails_1 : decode cX6_fails 1 = .ok (.iload_n 1, 1) := by decide +kernel
theorem dX6_fails_2 : decode cX6_fails 2 = .ok (.putfield 79, 3) := by decide +kernel
theorem dX6_fails_5 : decode cX6_fails 5 = .ok (.iload_n 1, 1) := by decide +kernel
theorem dX6_fails_6 : decode cX6_fails 6 = .ok (.ifCond .le 7, 3) := by decide +kernel
theorem dX6_fails_9 : decode cX6_fails 9 = .ok (.iconst 1, 1) := by decide +kernel
theorem dX6_fails_10 : decode cX6_fails 10 = .ok (.goto 4, 3) := by decide +kernel
theorem dX6_fails_13 : decode cX6_fails 13 = .ok (.iconst 0, 1) := by decide +kernel
theorem dX6_fails_14 : decode cX6_fails 14 = .ok (.ireturn, 1) := by decide +kernel
theorem dX6_in_0 : decode cX6_in 0 = .ok (.iload_n 1, 1) := by decide +kernel
theorem dX6_in_1 : decode cX6_in 1 = .ok (.iload_n 2, 1) := by decide +kernel
theorem dX6_in_2 : decode cX6_in 2 = .ok (.if_icmp .lt 12, 3) := by decide +kernel
theorem dX6_in_5 : decode cX6_in 5 = .ok (.iload_n 1, 1) := by decide +kernel
theorem dX6_in_6 : decode cX6_in 6 = .ok (.iload_n 3, 1) := by decide +kernel
theorem dX6_in_7 : decode cX6_in 7 = .ok (.if_icmp .gt 7, 3) := by decide +kernel
theorem dX6_in_10 : decode cX6_in 10 = .ok (.iconst 1, 1) := by decide +kernel
theorem dX6_in_11 : decode cX6_in 11 = .ok (.goto 4, 3) := by decide +kernel
theorem dX6_in_14 : decode cX6_in 14 = .ok (.iconst 0, 1) := by decide +kernel
theorem dX6_in_15 : decode cX6_in 15 = .ok (.ireturn, 1) := by decide +kernel
theorem dX6_flat_0 : decode cX6_flat 0 = .ok (.iload_n 1, 1) := by decide +kernel
theorem dX6_flat_1 : decode cX6_flat 1 = .ok (.ifCond .ge 8, 3) := by decide +kernel
theorem dX6_flat_4 : decode cX6_flat 4 = .ok (.iload_n 1, 1) := by decide +kernel
theorem dX6_flat_5 : decode cX6_flat 5 = .ok (.ineg, 1) := by decide +kernel
theorem dX6_flat_6 : decode cX6_flat 6 = .ok (.goto 4, 3) := by decide +kernel
theorem dX6_flat_9 : decode cX6_flat 9 = .ok (.iload_n 1, 1) := by decide +kernel
theorem dX6_flat_10 : decode cX6_flat 10 = .ok (.ireturn, 1) := by decide +kernel
theorem dX6_way_0 : decode cX6_way 0 = .ok (.aload_n 0, 1) := by decide +kernel
theorem dX6_way_1 : decode cX6_way 1 = .ok (.iload_n 1, 1) := by decide +kernel
theorem dX6_way_2 : decode cX6_way 2 = .ok (.bipush 8, 2) := by decide +kernel
theorem dX6_way_4 : decode cX6_way 4 = .ok (.irem, 1) := by decide +kernel
theorem dX6_way_5 : decode cX6_way 5 = .ok (.iload_n 2, 1) := by decide +kernel
theorem dX6_way_6 : decode cX6_way 6 = .ok (.bipush 8, 2) := by decide +kernel
theorem dX6_way_8 : decode cX6_way 8 = .ok (.irem, 1) := by decide +kernel
theorem dX6_way_9 : decode cX6_way 9 = .ok (.isub, 1) := by decide +kernel
theorem dX6_way_10 : decode cX6_way 10 = .ok (.invokevirtual 82, 3) := by decide +kernel
theorem dX6_way_13 : decode cX6_way 13 = .ok (.aload_n 0, 1) := by decide +kernel
theorem dX6_way_14 : decode cX6_way 14 = .ok (.iload_n 1, 1) := by decide +kernel
theorem dX6_way_15 : decode cX6_way 15 = .ok (.bipush 8, 2) := by decide +kernel
theorem dX6_way_17 : decode cX6_way 17 = .ok (.idiv, 1) := by decide +kernel
theorem dX6_way_18 : decode cX6_way 18 = .ok (.iload_n 2, 1) := by decide +kernel
theorem dX6_way_19 : decode cX6_way 19 = .ok (.bipush 8, 2) := by decide +kernel
theorem dX6_way_21 : decode cX6_way 21 = .ok (.idiv, 1) := by decide +kernel
theorem dX6_way_22 : decode cX6_way 22 = .ok (.isub, 1) := by decide +kernel
theorem dX6_way_23 : decode cX6_way 23 = .ok (.invokevirtual 82, 3) := by decide +kernel
theorem dX6_way_26 : decode cX6_way 26 = .ok (.iadd, 1) := by decide +kernel
theorem dX6_way_27 : decode cX6_way 27 = .ok (.ireturn, 1) := by decide +kernel
theorem dX6_boat_0 : decode cX6_boat 0 = .ok (.aload_n 0, 1) := by decide +kernel
theorem dX6_boat_1 : decode cX6_boat 1 = .ok (.iload_n 1, 1) := by decide +kernel
theorem dX6_boat_2 : decode cX6_boat 2 = .ok (.iconst 0, 1) := by decide +kernel
theorem dX6_boat_3 : decode cX6_boat 3 = .ok (.iconst 2, 1) := by decide +kernel
theorem dX6_boat_4 : decode cX6_boat 4 = .ok (.invokevirtual 86, 3) := by decide +kernel
theorem dX6_boat_7 : decode cX6_boat 7 = .ok (.ifCond .eq 18, 3) := by decide +kernel
theorem dX6_boat_10 : decode cX6_boat 10 = .ok (.aload_n 0, 1) := by decide +kernel
theorem dX6_boat_11 : decode cX6_boat 11 = .ok (.iload_n 2, 1) := by decide +kernel
theorem dX6_boat_12 : decode cX6_boat 12 = .ok (.iconst 0, 1) := by decide +kernel
theorem dX6_boat_13 : decode cX6_boat 13 = .ok (.bipush 47, 2) := by decide +kernel
theorem dX6_boat_15 : decode cX6_boat 15 = .ok (.invokevirtual 86, 3) := by decide +kernel
theorem dX6_boat_18 : decode cX6_boat 18 = .ok (.ifCond .eq 7, 3) := by decide +kernel
theorem dX6_boat_21 : decode cX6_boat 21 = .ok (.iconst 1, 1) := by decide +kernel
theorem dX6_boat_22 : decode cX6_boat 22 = .ok (.goto 4, 3) := by decide +kernel
theorem dX6_boat_25 : decode cX6_boat 25 = .ok (.iconst 0, 1) := by decide +kernel
theorem dX6_boat_26 : decode cX6_boat 26 = .ok (.istore 6, 2) := by decide +kernel
theorem dX6_boat_28 : decode cX6_boat 28 = .ok (.aload_n 0, 1) := by decide +kernel
theorem dX6_boat_29 : decode cX6_boat 29 = .ok (.iload_n 3, 1) := by decide +kernel
theorem dX6_boat_30 : decode cX6_boat 30 = .ok (.iconst 1, 1) := by decide +kernel
theorem dX6_boat_31 : decode cX6_boat 31 = .ok (.iconst 3, 1) := by decide +kernel
theorem dX6_boat_32 : decode cX6_boat 32 = .ok (.invokevirtual 86, 3) := by decide +kernel
theorem dX6_boat_35 : decode cX6_boat 35 = .ok (.ifCond .eq 31, 3) := by decide +kernel
theorem dX6_boat_38 : decode cX6_boat 38 = .ok (.aload_n 0, 1) := by decide +kernel
theorem dX6_boat_39 : decode cX6_boat 39 = .ok (.iload 4, 2) := by decide +kernel
theorem dX6_boat_41 : decode cX6_boat 41 = .ok (.iconst 1, 1) := by decide +kernel
theorem dX6_boat_42 : decode cX6_boat 42 = .ok (.bipush 100, 2) := by decide +kernel
theorem dX6_boat_44 : decode cX6_boat 44 = .ok (.invokevirtual 86, 3) := by decide +kernel
theorem dX6_boat_47 : decode cX6_boat 47 = .ok (.ifCond .eq 19, 3) := by decide +kernel
theorem dX6_boat_50 : decode cX6_boat 50 = .ok (.aload_n 0, 1) := by decide +kernel
theorem dX6_boat_51 : decode cX6_boat 51 = .ok (.iload 5, 2) := by decide +kernel
theorem dX6_boat_53 : decode cX6_boat 53 = .ok (.iconst 0, 1) := by decide +kernel
theorem dX6_boat_54 : decode cX6_boat 54 = .ok (.bipush 9, 2) := by decide +kernel
theorem dX6_boat_56 : decode cX6_boat 56 = .ok (.invokevirtual 86, 3) := by decide +kernel
theorem dX6_boat_59 : decode cX6_boat 59 = .ok (.ifCond .eq 7, 3) := by decide +kernel
theorem dX6_boat_62 : decode cX6_boat 62 = .ok (.iconst 1, 1) := by decide +kernel
theorem dX6_boat_63 : decode cX6_boat 63 = .ok (.goto 4, 3) := by decide +kernel
theorem dX6_boat_66 : decode cX6_boat 66 = .ok (.iconst 0, 1) := by decide +kernel
theorem dX6_boat_67 : decode cX6_boat 67 = .ok (.istore 7, 2) := by decide +kernel
theorem dX6_boat_69 : decode cX6_boat 69 = .ok (.aload_n 0, 1) := by decide +kernel
theorem dX6_boat_70 : decode cX6_boat 70 = .ok (.iload 6, 2) := by decide +kernel
theorem dX6_boat_72 : decode cX6_boat 72 = .ok (.ifCond .ne 7, 3) := by decide +kernel
theorem dX6_boat_75 : decode cX6_boat 75 = .ok (.iconst 1, 1) := by decide +kernel
theorem dX6_boat_76 : decode cX6_boat 76 = .ok (.goto 26, 3) := by decide +kernel
theorem dX6_boat_79 : decode cX6_boat 79 = .ok (.iload 7, 2) := by decide +kernel
theorem dX6_boat_81 : decode cX6_boat 81 = .ok (.ifCond .ne 7, 3) := by decide +kernel
theorem dX6_boat_84 : decode cX6_boat 84 = .ok (.iconst 2, 1) := by decide +kernel
theorem dX6_boat_85 : decode cX6_boat 85 = .ok (.goto 17, 3) := by decide +kernel
theorem dX6_boat_88 : decode cX6_boat 88 = .ok (.aload_n 0, 1) := by decide +kernel
theorem dX6_boat_89 : decode cX6_boat 89 = .ok (.getfield 90, 3) := by decide +kernel
theorem dX6_boat_92 : decode cX6_boat 92 = .ok (.bipush 6, 2) := by decide +kernel
theorem dX6_boat_94 : decode cX6_boat 94 = .ok (.if_icmp .ne 7, 3) := by decide +kernel
theorem dX6_boat_97 : decode cX6_boat 97 = .ok (.iconst 3, 1) := by decide +kernel
theorem dX6_boat_98 : decode cX6_boat 98 = .ok (.goto 4, 3) := by decide +kernel
theorem dX6_boat_101 : decode cX6_boat 101 = .ok (.iconst 0, 1) := by decide +kernel
theorem dX6_boat_102 : decode cX6_boat 102 = .ok (.invokevirtual 93, 3) := by decide +kernel
theorem dX6_boat_105 : decode cX6_boat 105 = .ok (.ifCond .eq 5, 3) := by decide +kernel
theorem dX6_boat_108 : decode cX6_boat 108 = .ok (.iconst (-1), 1) := by decide +kernel
theorem dX6_boat_109 : decode cX6_boat 109 = .ok (.ireturn, 1) := by decide +kernel
theorem dX6_boat_110 : decode cX6_boat 110 = .ok (.aload_n 0, 1) := by decide +kernel
theorem dX6_boat_111 : decode cX6_boat 111 = .ok (.getfield 14, 3) := by decide +kernel
theorem dX6_boat_114 : decode cX6_boat 114 = .ok (.aload_n 0, 1) := by decide +kernel
theorem dX6_boat_115 : decode cX6_boat 115 = .ok (.getfield 90, 3) := by decide +kernel
theorem dX6_boat_118 : decode cX6_boat 118 = .ok (.iload_n 1, 1) := by decide +kernel
theorem dX6_boat_119 : decode cX6_boat 119 = .ok (.iastore, 1) := by decide +kernel
theorem dX6_boat_120 : decode cX6_boat 120 = .ok (.aload_n 0, 1) := by decide +kernel
theorem dX6_boat_121 : decode cX6_boat 121 = .ok (.getfield 18, 3) := by decide +kernel
theorem dX6_boat_124 : decode cX6_boat 124 = .ok (.aload_n 0, 1) := by decide +kernel
theorem dX6_boat_125 : decode cX6_boat 125 = .ok (.getfield 90, 3) := by decide +kernel
theorem dX6_boat_128 : decode cX6_boat 128 = .ok (.iload_n 1, 1) := by decide +kernel
theorem dX6_boat_129 : decode cX6_boat 129 = .ok (.iastore, 1) := by decide +kernel
theorem dX6_boat_130 : decode cX6_boat 130 = .ok (.aload_n 0, 1) := by decide +kernel
theorem dX6_boat_131 : decode cX6_boat 131 = .ok (.getfield 21, 3) := by decide +kernel
theorem dX6_boat_134 : decode cX6_boat 134 = .ok (.aload_n 0, 1) := by decide +kernel
theorem dX6_boat_135 : decode cX6_boat 135 = .ok (.getfield 90, 3) := by decide +kernel
theorem dX6_boat_138 : decode cX6_boat 138 = .ok (.iload_n 2, 1) := by decide +kernel
theorem dX6_boat_139 : decode cX6_boat 139 = .ok (.iastore, 1) := by decide +kernel
theorem dX6_boat_140 : decode cX6_boat 140 = .ok (.aload_n 0, 1) := by decide +kernel
theorem dX6_boat_141 : decode cX6_boat 141 = .ok (.getfield 24, 3) := by decide +kernel
theorem dX6_boat_144 : decode cX6_boat 144 = .ok (.aload_n 0, 1) := by decide +kernel
theorem dX6_boat_145 : decode cX6_boat 145 = .ok (.getfield 90, 3) := by decide +kernel
theorem dX6_boat_148 : decode cX6_boat 148 = .ok (.iload_n 3, 1) := by decide +kernel
theorem dX6_boat_149 : decode cX6_boat 149 = .ok (.iastore, 1) := by decide +kernel
theorem dX6_boat_150 : decode cX6_boat 150 = .ok (.aload_n 0, 1) := by decide +kernel
theorem dX6_boat_151 : decode cX6_boat 151 = .ok (.getfield 27, 3) := by decide +kernel
theorem dX6_boat_154 : decode cX6_boat 154 = .ok (.aload_n 0, 1) := by decide +kernel
theorem dX6_boat_155 : decode cX6_boat 155 = .ok (.getfield 90, 3) := by decide +kernel
theorem dX6_boat_158 : decode cX6_boat 158 = .ok (.iload 4, 2) := by decide +kernel
theorem dX6_boat_160 : decode cX6_boat 160 = .ok (.iastore, 1) := by decide +kernel
theorem dX6_boat_161 : decode cX6_boat 161 = .ok (.aload_n 0, 1) := by decide +kernel
theorem dX6_boat_162 : decode cX6_boat 162 = .ok (.getfield 30, 3) := by decide +kernel
theorem dX6_boat_165 : decode cX6_boat 165 = .ok (.aload_n 0, 1) := by decide +kernel
theorem dX6_boat_166 : decode cX6_boat 166 = .ok (.getfield 90, 3) := by decide +kernel
theorem dX6_boat_169 : decode cX6_boat 169 = .ok (.iload 4, 2) := by decide +kernel
theorem dX6_boat_171 : decode cX6_boat 171 = .ok (.iastore, 1) := by decide +kernel
theorem dX6_boat_172 : decode cX6_boat 172 = .ok (.aload_n 0, 1) := by decide +kernel
theorem dX6_boat_173 : decode cX6_boat 173 = .ok (.getfield 33, 3) := by decide +kernel
theorem dX6_boat_176 : decode cX6_boat 176 = .ok (.aload_n 0, 1) := by decide +kernel
theorem dX6_boat_177 : decode cX6_boat 177 = .ok (.getfield 90, 3) := by decide +kernel
theorem dX6_boat_180 : decode cX6_boat 180 = .ok (.iload 5, 2) := by decide +kernel
theorem dX6_boat_182 : decode cX6_boat 182 = .ok (.iastore, 1) := by decide +kernel
theorem dX6_boat_183 : decode cX6_boat 183 = .ok (.aload_n 0, 1) := by decide +kernel
theorem dX6_boat_184 : decode cX6_boat 184 = .ok (.getfield 39, 3) := by decide +kernel
theorem dX6_boat_187 : decode cX6_boat 187 = .ok (.aload_n 0, 1) := by decide +kernel
theorem dX6_boat_188 : decode cX6_boat 188 = .ok (.getfield 90, 3) := by decide +kernel
theorem dX6_boat_191 : decode cX6_boat 191 = .ok (.iconst (-1), 1) := by decide +kernel
theorem dX6_boat_192 : decode cX6_boat 192 = .ok (.iastore, 1) := by decide +kernel
theorem dX6_boat_193 : decode cX6_boat 193 = .ok (.aload_n 0, 1) := by decide +kernel
theorem dX6_boat_194 : decode cX6_boat 194 = .ok (.dup, 1) := by decide +kernel
theorem dX6_boat_195 : decode cX6_boat 195 = .ok (.getfield 90, 3) := by decide +kernel
theorem dX6_boat_198 : decode cX6_boat 198 = .ok (.iconst 1, 1) := by decide +kernel
theorem dX6_boat_199 : decode cX6_boat 199 = .ok (.iadd, 1) := by decide +kernel
theorem dX6_boat_200 : decode cX6_boat 200 = .ok (.putfield 90, 3) := by decide +kernel
theorem dX6_boat_203 : decode cX6_boat 203 = .ok (.aload_n 0, 1) := by decide +kernel
theorem dX6_boat_204 : decode cX6_boat 204 = .ok (.getfield 90, 3) := by decide +kernel
theorem dX6_boat_207 : decode cX6_boat 207 = .ok (.iconst 1, 1) := by decide +kernel
theorem dX6_boat_208 : decode cX6_boat 208 = .ok (.isub, 1) := by decide +kernel
theorem dX6_boat_209 : decode cX6_boat 209 = .ok (.ireturn, 1) := by decide +kernel
theorem dX6_isBoat_0 : decode cX6_isBoat 0 = .ok (.aload_n 0, 1) := by decide +kernel
theorem dX6_isBoat_1 : decode cX6_isBoat 1 = .ok (.iload_n 1, 1) := by decide +kernel
theorem dX6_isBoat_2 : decode cX6_isBoat 2 = .ok (.iconst 0, 1) := by decide +kernel
theorem dX6_isBoat_3 : decode cX6_isBoat 3 = .ok (.aload_n 0, 1) := by decide +kernel
theorem dX6_isBoat_4 : decode cX6_isBoat 4 = .ok (.getfield 90, 3) := by decide +kernel
theorem dX6_isBoat_7 : decode cX6_isBoat 7 = .ok (.iconst 1, 1) := by decide +kernel
theorem dX6_isBoat_8 : decode cX6_isBoat 8 = .ok (.isub, 1) := by decide +kernel
theorem dX6_isBoat_9 : decode cX6_isBoat 9 = .ok (.invokevirtual 86, 3) := by decide +kernel
theorem dX6_isBoat_12 : decode cX6_isBoat 12 = .ok (.ireturn, 1) := by decide +kernel
theorem dX6_lend_0 : decode cX6_lend 0 = .ok (.aload_n 0, 1) := by decide +kernel
theorem dX6_lend_1 : decode cX6_lend 1 = .ok (.aload_n 0, 1) := by decide +kernel
theorem dX6_lend_2 : decode cX6_lend 2 = .ok (.iload_n 1, 1) := by decide +kernel
theorem dX6_lend_3 : decode cX6_lend 3 = .ok (.invokevirtual 97, 3) := by decide +kernel
theorem dX6_lend_6 : decode cX6_lend 6 = .ok (.ifCond .eq 17, 3) := by decide +kernel
theorem dX6_lend_9 : decode cX6_lend 9 = .ok (.aload_n 0, 1) := by decide +kernel
theorem dX6_lend_10 : decode cX6_lend 10 = .ok (.iload_n 2, 1) := by decide +kernel
theorem dX6_lend_11 : decode cX6_lend 11 = .ok (.iconst 0, 1) := by decide +kernel
theorem dX6_lend_12 : decode cX6_lend 12 = .ok (.iconst 2, 1) := by decide +kernel
theorem dX6_lend_13 : decode cX6_lend 13 = .ok (.invokevirtual 86, 3) := by decide +kernel
theorem dX6_lend_16 : decode cX6_lend 16 = .ok (.ifCond .eq 7, 3) := by decide +kernel
theorem dX6_lend_19 : decode cX6_lend 19 = .ok (.iconst 0, 1) := by decide +kernel
theorem dX6_lend_20 : decode cX6_lend 20 = .ok (.goto 4, 3) := by decide +kernel
theorem dX6_lend_23 : decode cX6_lend 23 = .ok (.iconst 1, 1) := by decide +kernel
theorem dX6_lend_24 : decode cX6_lend 24 = .ok (.invokevirtual 93, 3) := by decide +kernel
theorem dX6_lend_27 : decode cX6_lend 27 = .ok (.ifCond .eq 5, 3) := by decide +kernel
theorem dX6_lend_30 : decode cX6_lend 30 = .ok (.iconst (-1), 1) := by decide +kernel
theorem dX6_lend_31 : decode cX6_lend 31 = .ok (.ireturn, 1) := by decide +kernel
theorem dX6_lend_32 : decode cX6_lend 32 = .ok (.aload_n 0, 1) := by decide +kernel
theorem dX6_lend_33 : decode cX6_lend 33 = .ok (.getfield 18, 3) := by decide +kernel
theorem dX6_lend_36 : decode cX6_lend 36 = .ok (.iload_n 1, 1) := by decide +kernel
theorem dX6_lend_37 : decode cX6_lend 37 = .ok (.iaload, 1) := by decide +kernel
theorem dX6_lend_38 : decode cX6_lend 38 = .ok (.istore_n 3, 1) := by decide +kernel
theorem dX6_lend_39 : decode cX6_lend 39 = .ok (.aload_n 0, 1) := by decide +kernel
theorem dX6_lend_40 : decode cX6_lend 40 = .ok (.getfield 18, 3) := by decide +kernel
theorem dX6_lend_43 : decode cX6_lend 43 = .ok (.iload_n 1, 1) := by decide +kernel
theorem dX6_lend_44 : decode cX6_lend 44 = .ok (.iload_n 2, 1) := by decide +kernel
theorem dX6_lend_45 : decode cX6_lend 45 = .ok (.iastore, 1) := by decide +kernel
theorem dX6_lend_46 : decode cX6_lend 46 = .ok (.iload_n 3, 1) := by decide +kernel
theorem dX6_lend_47 : decode cX6_lend 47 = .ok (.ireturn, 1) := by decide +kernel
theorem dX6_foretell_0 : decode cX6_foretell 0 = .ok (.aload_n 0, 1) := by decide +kernel
theorem dX6_foretell_1 : decode cX6_foretell 1 = .ok (.iload_n 1, 1) := by decide +kernel
theorem dX6_foretell_2 : decode cX6_foretell 2 = .ok (.iconst 0, 1) := by decide +kernel
theorem dX6_foretell_3 : decode cX6_foretell 3 = .ok (.bipush 47, 2) := by decide +kernel
theorem dX6_foretell_5 : decode cX6_foretell 5 = .ok (.invokevirtual 86, 3) := by decide +kernel
theorem dX6_foretell_8 : decode cX6_foretell 8 = .ok (.ifCond .eq 18, 3) := by decide +kernel
theorem dX6_foretell_11 : decode cX6_foretell 11 = .ok (.aload_n 0, 1) := by decide +kernel
theorem dX6_foretell_12 : decode cX6_foretell 12 = .ok (.iload_n 2, 1) := by decide +kernel
theorem dX6_foretell_13 : decode cX6_foretell 13 = .ok (.iconst 0, 1) := by decide +kernel
theorem dX6_foretell_14 : decode cX6_foretell 14 = .ok (.bipush 47, 2) := by decide +kernel
theorem dX6_foretell_16 : decode cX6_foretell 16 = .ok (.invokevirtual 86, 3) := by decide +kernel
theorem dX6_foretell_19 : decode cX6_foretell 19 = .ok (.ifCond .eq 7, 3) := by decide +kernel
theorem dX6_foretell_22 : decode cX6_foretell 22 = .ok (.iconst 1, 1) := by decide +kernel
theorem dX6_foretell_23 : decode cX6_foretell 23 = .ok (.goto 4, 3) := by decide +kernel
theorem dX6_foretell_26 : decode cX6_foretell 26 = .ok (.iconst 0, 1) := by decide +kernel
theorem dX6_foretell_27 : decode cX6_foretell 27 = .ok (.istore 6, 2) := by decide +kernel
theorem dX6_foretell_29 : decode cX6_foretell 29 = .ok (.iload_n 2, 1) := by decide +kernel
theorem dX6_foretell_30 : decode cX6_foretell 30 = .ok (.bipush 8, 2) := by decide +kernel
theorem dX6_foretell_32 : decode cX6_foretell 32 = .ok (.irem, 1) := by decide +kernel
theorem dX6_foretell_33 : decode cX6_foretell 33 = .ok (.iload_n 1, 1) := by decide +kernel
theorem dX6_foretell_34 : decode cX6_foretell 34 = .ok (.bipush 8, 2) := by decide +kernel
theorem dX6_foretell_36 : decode cX6_foretell 36 = .ok (.irem, 1) := by decide +kernel
theorem dX6_foretell_37 : decode cX6_foretell 37 = .ok (.if_icmp .lt 58, 3) := by decide +kernel
theorem dX6_foretell_40 : decode cX6_foretell 40 = .ok (.iload_n 2, 1) := by decide +kernel
theorem dX6_foretell_41 : decode cX6_foretell 41 = .ok (.bipush 8, 2) := by decide +kernel
theorem dX6_foretell_43 : decode cX6_foretell 43 = .ok (.idiv, 1) := by decide +kernel
theorem dX6_foretell_44 : decode cX6_foretell 44 = .ok (.iload_n 1, 1) := by decide +kernel
theorem dX6_foretell_45 : decode cX6_foretell 45 = .ok (.bipush 8, 2) := by decide +kernel
theorem dX6_foretell_47 : decode cX6_foretell 47 = .ok (.idiv, 1) := by decide +kernel
theorem dX6_foretell_48 : decode cX6_foretell 48 = .ok (.if_icmp .lt 47, 3) := by decide +kernel
theorem dX6_foretell_51 : decode cX6_foretell 51 = .ok (.aload_n 0, 1) := by decide +kernel
theorem dX6_foretell_52 : decode cX6_foretell 52 = .ok (.iload_n 3, 1) := by decide +kernel
theorem dX6_foretell_53 : decode cX6_foretell 53 = .ok (.aload_n 0, 1) := by decide +kernel
theorem dX6_foretell_54 : decode cX6_foretell 54 = .ok (.getfield 100, 3) := by decide +kernel
theorem dX6_foretell_57 : decode cX6_foretell 57 = .ok (.sipush 999, 3) := by decide +kernel
theorem dX6_foretell_60 : decode cX6_foretell 60 = .ok (.invokevirtual 86, 3) := by decide +kernel
theorem dX6_foretell_63 : decode cX6_foretell 63 = .ok (.ifCond .eq 32, 3) := by decide +kernel
theorem dX6_foretell_66 : decode cX6_foretell 66 = .ok (.aload_n 0, 1) := by decide +kernel
theorem dX6_foretell_67 : decode cX6_foretell 67 = .ok (.iload 4, 2) := by decide +kernel
theorem dX6_foretell_69 : decode cX6_foretell 69 = .ok (.iload_n 3, 1) := by decide +kernel
theorem dX6_foretell_70 : decode cX6_foretell 70 = .ok (.sipush 999, 3) := by decide +kernel
theorem dX6_foretell_73 : decode cX6_foretell 73 = .ok (.invokevirtual 86, 3) := by decide +kernel
theorem dX6_foretell_76 : decode cX6_foretell 76 = .ok (.ifCond .eq 19, 3) := by decide +kernel
theorem dX6_foretell_79 : decode cX6_foretell 79 = .ok (.aload_n 0, 1) := by decide +kernel
theorem dX6_foretell_80 : decode cX6_foretell 80 = .ok (.iload 5, 2) := by decide +kernel
theorem dX6_foretell_82 : decode cX6_foretell 82 = .ok (.iconst 0, 1) := by decide +kernel
theorem dX6_foretell_83 : decode cX6_foretell 83 = .ok (.bipush 9, 2) := by decide +kernel
theorem dX6_foretell_85 : decode cX6_foretell 85 = .ok (.invokevirtual 86, 3) := by decide +kernel
theorem dX6_foretell_88 : decode cX6_foretell 88 = .ok (.ifCond .eq 7, 3) := by decide +kernel
theorem dX6_foretell_91 : decode cX6_foretell 91 = .ok (.iconst 1, 1) := by decide +kernel
theorem dX6_foretell_92 : decode cX6_foretell 92 = .ok (.goto 4, 3) := by decide +kernel
theorem dX6_foretell_95 : decode cX6_foretell 95 = .ok (.iconst 0, 1) := by decide +kernel
theorem dX6_foretell_96 : decode cX6_foretell 96 = .ok (.istore 7, 2) := by decide +kernel
theorem dX6_foretell_98 : decode cX6_foretell 98 = .ok (.aload_n 0, 1) := by decide +kernel
theorem dX6_foretell_99 : decode cX6_foretell 99 = .ok (.iload 6, 2) := by decide +kernel
theorem dX6_foretell_101 : decode cX6_foretell 101 = .ok (.ifCond .ne 7, 3) := by decide +kernel
theorem dX6_foretell_104 : decode cX6_foretell 104 = .ok (.iconst 1, 1) := by decide +kernel
theorem dX6_foretell_105 : decode cX6_foretell 105 = .ok (.goto 13, 3) := by decide +kernel
theorem dX6_foretell_108 : decode cX6_foretell 108 = .ok (.iload 7, 2) := by decide +kernel
theorem dX6_foretell_110 : decode cX6_foretell 110 = .ok (.ifCond .eq 7, 3) := by decide +kernel
theorem dX6_foretell_113 : decode cX6_foretell 113 = .ok (.iconst 0, 1) := by decide +kernel
theorem dX6_foretell_114 : decode cX6_foretell 114 = .ok (.goto 4, 3) := by decide +kernel
theorem dX6_foretell_117 : decode cX6_foretell 117 = .ok (.iconst 2, 1) := by decide +kernel
theorem dX6_foretell_118 : decode cX6_foretell 118 = .ok (.invokevirtual 93, 3) := by decide +kernel
theorem dX6_foretell_121 : decode cX6_foretell 121 = .ok (.ifCond .eq 5, 3) := by decide +kernel
theorem dX6_foretell_124 : decode cX6_foretell 124 = .ok (.iconst (-1), 1) := by decide +kernel
theorem dX6_foretell_125 : decode cX6_foretell 125 = .ok (.ireturn, 1) := by decide +kernel
theorem dX6_foretell_126 : decode cX6_foretell 126 = .ok (.iconst 0, 1) := by decide +kernel
theorem dX6_foretell_127 : decode cX6_foretell 127 = .ok (.istore 8, 2) := by decide +kernel
theorem dX6_foretell_129 : decode cX6_foretell 129 = .ok (.iload 8, 2) := by decide +kernel
theorem dX6_foretell_131 : decode cX6_foretell 131 = .ok (.bipush 48, 2) := by decide +kernel
theorem dX6_foretell_133 : decode cX6_foretell 133 = .ok (.if_icmp .ge 94, 3) := by decide +kernel
theorem dX6_foretell_136 : decode cX6_foretell 136 = .ok (.aload_n 0, 1) := by decide +kernel
theorem dX6_foretell_137 : decode cX6_foretell 137 = .ok (.iload 8, 2) := by decide +kernel
theorem dX6_foretell_139 : decode cX6_foretell 139 = .ok (.bipush 8, 2) := by decide +kernel
theorem dX6_foretell_141 : decode cX6_foretell 141 = .ok (.irem, 1) := by decide +kernel
theorem dX6_foretell_142 : decode cX6_foretell 142 = .ok (.iload_n 1, 1) := by decide +kernel
theorem dX6_foretell_143 : decode cX6_foretell 143 = .ok (.bipush 8, 2) := by decide +kernel
theorem dX6_foretell_145 : decode cX6_foretell 145 = .ok (.irem, 1) := by decide +kernel
theorem dX6_foretell_146 : decode cX6_foretell 146 = .ok (.iload_n 2, 1) := by decide +kernel
theorem dX6_foretell_147 : decode cX6_foretell 147 = .ok (.bipush 8, 2) := by decide +kernel
theorem dX6_foretell_149 : decode cX6_foretell 149 = .ok (.irem, 1) := by decide +kernel
theorem dX6_foretell_150 : decode cX6_foretell 150 = .ok (.invokevirtual 86, 3) := by decide +kernel
theorem dX6_foretell_153 : decode cX6_foretell 153 = .ok (.ifCond .eq 27, 3) := by decide +kernel
theorem dX6_foretell_156 : decode cX6_foretell 156 = .ok (.aload_n 0, 1) := by decide +kernel
theorem dX6_foretell_157 : decode cX6_foretell 157 = .ok (.iload 8, 2) := by decide +kernel
theorem dX6_foretell_159 : decode cX6_foretell 159 = .ok (.bipush 8, 2) := by decide +kernel
theorem dX6_foretell_161 : decode cX6_foretell 161 = .ok (.idiv, 1) := by decide +kernel
theorem dX6_foretell_162 : decode cX6_foretell 162 = .ok (.iload_n 1, 1) := by decide +kernel
theorem dX6_foretell_163 : decode cX6_foretell 163 = .ok (.bipush 8, 2) := by decide +kernel
theorem dX6_foretell_165 : decode cX6_foretell 165 = .ok (.idiv, 1) := by decide +kernel
theorem dX6_foretell_166 : decode cX6_foretell 166 = .ok (.iload_n 2, 1) := by decide +kernel
theorem dX6_foretell_167 : decode cX6_foretell 167 = .ok (.bipush 8, 2) := by decide +kernel
theorem dX6_foretell_169 : decode cX6_foretell 169 = .ok (.idiv, 1) := by decide +kernel
theorem dX6_foretell_170 : decode cX6_foretell 170 = .ok (.invokevirtual 86, 3) := by decide +kernel
theorem dX6_foretell_173 : decode cX6_foretell 173 = .ok (.ifCond .eq 7, 3) := by decide +kernel
theorem dX6_foretell_176 : decode cX6_foretell 176 = .ok (.iconst 1, 1) := by decide +kernel
theorem dX6_foretell_177 : decode cX6_foretell 177 = .ok (.goto 4, 3) := by decide +kernel
theorem dX6_foretell_180 : decode cX6_foretell 180 = .ok (.iconst 0, 1) := by decide +kernel
theorem dX6_foretell_181 : decode cX6_foretell 181 = .ok (.istore 9, 2) := by decide +kernel
theorem dX6_foretell_183 : decode cX6_foretell 183 = .ok (.iload_n 3, 1) := by decide +kernel
theorem dX6_foretell_184 : decode cX6_foretell 184 = .ok (.istore 10, 2) := by decide +kernel
theorem dX6_foretell_186 : decode cX6_foretell 186 = .ok (.iload 10, 2) := by decide +kernel
theorem dX6_foretell_188 : decode cX6_foretell 188 = .ok (.iload 4, 2) := by decide +kernel
theorem dX6_foretell_190 : decode cX6_foretell 190 = .ok (.if_icmp .gt 31, 3) := by decide +kernel
theorem dX6_foretell_193 : decode cX6_foretell 193 = .ok (.iload 9, 2) := by decide +kernel
theorem dX6_foretell_195 : decode cX6_foretell 195 = .ok (.ifCond .eq 26, 3) := by decide +kernel
theorem dX6_foretell_198 : decode cX6_foretell 198 = .ok (.aload_n 0, 1) := by decide +kernel
theorem dX6_foretell_199 : decode cX6_foretell 199 = .ok (.getfield 8, 3) := by decide +kernel
theorem dX6_foretell_202 : decode cX6_foretell 202 = .ok (.sipush 1000, 3) := by decide +kernel
theorem dX6_foretell_205 : decode cX6_foretell 205 = .ok (.iload 8, 2) := by decide +kernel
theorem dX6_foretell_207 : decode cX6_foretell 207 = .ok (.imul, 1) := by decide +kernel
theorem dX6_foretell_208 : decode cX6_foretell 208 = .ok (.iload 10, 2) := by decide +kernel
theorem dX6_foretell_210 : decode cX6_foretell 210 = .ok (.iadd, 1) := by decide +kernel
theorem dX6_foretell_211 : decode cX6_foretell 211 = .ok (.iload 5, 2) := by decide +kernel
theorem dX6_foretell_213 : decode cX6_foretell 213 = .ok (.i2b, 1) := by decide +kernel
theorem dX6_foretell_214 : decode cX6_foretell 214 = .ok (.bastore, 1) := by decide +kernel
theorem dX6_foretell_215 : decode cX6_foretell 215 = .ok (.iinc 10 1, 3) := by decide +kernel
theorem dX6_foretell_218 : decode cX6_foretell 218 = .ok (.goto (-32), 3) := by decide +kernel
theorem dX6_foretell_221 : decode cX6_foretell 221 = .ok (.iinc 8 1, 3) := by decide +kernel
theorem dX6_foretell_224 : decode cX6_foretell 224 = .ok (.goto (-95), 3) := by decide +kernel
theorem dX6_foretell_227 : decode cX6_foretell 227 = .ok (.iload_n 2, 1) := by decide +kernel
theorem dX6_foretell_228 : decode cX6_foretell 228 = .ok (.bipush 8, 2) := by decide +kernel
theorem dX6_foretell_230 : decode cX6_foretell 230 = .ok (.irem, 1) := by decide +kernel
theorem dX6_foretell_231 : decode cX6_foretell 231 = .ok (.iload_n 1, 1) := by decide +kernel
theorem dX6_foretell_232 : decode cX6_foretell 232 = .ok (.bipush 8, 2) := by decide +kernel
theorem dX6_foretell_234 : decode cX6_foretell 234 = .ok (.irem, 1) := by decide +kernel
theorem dX6_foretell_235 : decode cX6_foretell 235 = .ok (.isub, 1) := by decide +kernel
theorem dX6_foretell_236 : decode cX6_foretell 236 = .ok (.iconst 1, 1) := by decide +kernel
theorem dX6_foretell_237 : decode cX6_foretell 237 = .ok (.iadd, 1) := by decide +kernel
theorem dX6_foretell_238 : decode cX6_foretell 238 = .ok (.iload_n 2, 1) := by decide +kernel
theorem dX6_foretell_239 : decode cX6_foretell 239 = .ok (.bipush 8, 2) := by decide +kernel
theorem dX6_foretell_241 : decode cX6_foretell 241 = .ok (.idiv, 1) := by decide +kernel
theorem dX6_foretell_242 : decode cX6_foretell 242 = .ok (.iload_n 1, 1) := by decide +kernel
theorem dX6_foretell_243 : decode cX6_foretell 243 = .ok (.bipush 8, 2) := by decide +kernel
theorem dX6_foretell_245 : decode cX6_foretell 245 = .ok (.idiv, 1) := by decide +kernel
theorem dX6_foretell_246 : decode cX6_foretell 246 = .ok (.isub, 1) := by decide +kernel
theorem dX6_foretell_247 : decode cX6_foretell 247 = .ok (.iconst 1, 1) := by decide +kernel
theorem dX6_foretell_248 : decode cX6_foretell 248 = .ok (.iadd, 1) := by decide +kernel
theorem dX6_foretell_249 : decode cX6_foretell 249 = .ok (.imul, 1) := by decide +kernel
theorem dX6_foretell_250 : decode cX6_foretell 250 = .ok (.ireturn, 1) := by decide +kernel
theorem dX6_call_0 : decode cX6_call 0 = .ok (.aload_n 0, 1) := by decide +kernel
theorem dX6_call_1 : decode cX6_call 1 = .ok (.iload_n 2, 1) := by decide +kernel
theorem dX6_call_2 : decode cX6_call 2 = .ok (.iconst 1, 1) := by decide +kernel
theorem dX6_call_3 : decode cX6_call 3 = .ok (.bipush 50, 2) := by decide +kernel
theorem dX6_call_5 : decode cX6_call 5 = .ok (.invokevirtual 86, 3) := by decide +kernel
theorem dX6_call_8 : decode cX6_call 8 = .ok (.ifCond .eq 24, 3) := by decide +kernel
theorem dX6_call_11 : decode cX6_call 11 = .ok (.aload_n 0, 1) := by decide +kernel
theorem dX6_call_12 : decode cX6_call 12 = .ok (.iload_n 3, 1) := by decide +kernel
theorem dX6_call_13 : decode cX6_call 13 = .ok (.aload_n 0, 1) := by decide +kernel
theorem dX6_call_14 : decode cX6_call 14 = .ok (.getfield 100, 3) := by decide +kernel
theorem dX6_call_17 : decode cX6_call 17 = .ok (.iconst 1, 1) := by decide +kernel
theorem dX6_call_18 : decode cX6_call 18 = .ok (.iadd, 1) := by decide +kernel
theorem dX6_call_19 : decode cX6_call 19 = .ok (.sipush 999, 3) := by decide +kernel
theorem dX6_call_22 : decode cX6_call 22 = .ok (.invokevirtual 86, 3) := by decide +kernel
theorem dX6_call_25 : decode cX6_call 25 = .ok (.ifCond .eq 7, 3) := by decide +kernel
theorem dX6_call_28 : decode cX6_call 28 = .ok (.iconst 1, 1) := by decide +kernel
theorem dX6_call_29 : decode cX6_call 29 = .ok (.goto 4, 3) := by decide +kernel
theorem dX6_call_32 : decode cX6_call 32 = .ok (.iconst 0, 1) := by decide +kernel
theorem dX6_call_33 : decode cX6_call 33 = .ok (.istore 4, 2) := by decide +kernel
theorem dX6_call_35 : decode cX6_call 35 = .ok (.aload_n 0, 1) := by decide +kernel
theorem dX6_call_36 : decode cX6_call 36 = .ok (.aload_n 0, 1) := by decide +kernel
theorem dX6_call_37 : decode cX6_call 37 = .ok (.iload_n 1, 1) := by decide +kernel
theorem dX6_call_38 : decode cX6_call 38 = .ok (.iconst 0, 1) := by decide +kernel
theorem dX6_call_39 : decode cX6_call 39 = .ok (.bipush 47, 2) := by decide +kernel
theorem dX6_call_41 : decode cX6_call 41 = .ok (.invokevirtual 86, 3) := by decide +kernel
theorem dX6_call_44 : decode cX6_call 44 = .ok (.ifCond .ne 7, 3) := by decide +kernel
theorem dX6_call_47 : decode cX6_call 47 = .ok (.iconst 1, 1) := by decide +kernel
theorem dX6_call_48 : decode cX6_call 48 = .ok (.goto 26, 3) := by decide +kernel
theorem dX6_call_51 : decode cX6_call 51 = .ok (.iload 4, 2) := by decide +kernel
theorem dX6_call_53 : decode cX6_call 53 = .ok (.ifCond .ne 7, 3) := by decide +kernel
theorem dX6_call_56 : decode cX6_call 56 = .ok (.iconst 2, 1) := by decide +kernel
theorem dX6_call_57 : decode cX6_call 57 = .ok (.goto 17, 3) := by decide +kernel
theorem dX6_call_60 : decode cX6_call 60 = .ok (.aload_n 0, 1) := by decide +kernel
theorem dX6_call_61 : decode cX6_call 61 = .ok (.getfield 103, 3) := by decide +kernel
theorem dX6_call_64 : decode cX6_call 64 = .ok (.bipush 30, 2) := by decide +kernel
theorem dX6_call_66 : decode cX6_call 66 = .ok (.if_icmp .ne 7, 3) := by decide +kernel
theorem dX6_call_69 : decode cX6_call 69 = .ok (.iconst 3, 1) := by decide +kernel
theorem dX6_call_70 : decode cX6_call 70 = .ok (.goto 4, 3) := by decide +kernel
theorem dX6_call_73 : decode cX6_call 73 = .ok (.iconst 0, 1) := by decide +kernel
theorem dX6_call_74 : decode cX6_call 74 = .ok (.invokevirtual 93, 3) := by decide +kernel
theorem dX6_call_77 : decode cX6_call 77 = .ok (.ifCond .eq 5, 3) := by decide +kernel
theorem dX6_call_80 : decode cX6_call 80 = .ok (.iconst (-1), 1) := by decide +kernel
theorem dX6_call_81 : decode cX6_call 81 = .ok (.ireturn, 1) := by decide +kernel
theorem dX6_call_82 : decode cX6_call 82 = .ok (.aload_n 0, 1) := by decide +kernel
theorem dX6_call_83 : decode cX6_call 83 = .ok (.getfield 51, 3) := by decide +kernel
theorem dX6_call_86 : decode cX6_call 86 = .ok (.aload_n 0, 1) := by decide +kernel
theorem dX6_call_87 : decode cX6_call 87 = .ok (.getfield 103, 3) := by decide +kernel
theorem dX6_call_90 : decode cX6_call 90 = .ok (.iload_n 1, 1) := by decide +kernel
theorem dX6_call_91 : decode cX6_call 91 = .ok (.iastore, 1) := by decide +kernel
theorem dX6_call_92 : decode cX6_call 92 = .ok (.aload_n 0, 1) := by decide +kernel
theorem dX6_call_93 : decode cX6_call 93 = .ok (.getfield 54, 3) := by decide +kernel
theorem dX6_call_96 : decode cX6_call 96 = .ok (.aload_n 0, 1) := by decide +kernel
theorem dX6_call_97 : decode cX6_call 97 = .ok (.getfield 103, 3) := by decide +kernel
theorem dX6_call_100 : decode cX6_call 100 = .ok (.iload_n 2, 1) := by decide +kernel
theorem dX6_call_101 : decode cX6_call 101 = .ok (.iastore, 1) := by decide +kernel
theorem dX6_call_102 : decode cX6_call 102 = .ok (.aload_n 0, 1) := by decide +kernel
theorem dX6_call_103 : decode cX6_call 103 = .ok (.getfield 57, 3) := by decide +kernel
theorem dX6_call_106 : decode cX6_call 106 = .ok (.aload_n 0, 1) := by decide +kernel
theorem dX6_call_107 : decode cX6_call 107 = .ok (.getfield 103, 3) := by decide +kernel
theorem dX6_call_110 : decode cX6_call 110 = .ok (.iload_n 3, 1) := by decide +kernel
theorem dX6_call_111 : decode cX6_call 111 = .ok (.iastore, 1) := by decide +kernel
theorem dX6_call_112 : decode cX6_call 112 = .ok (.aload_n 0, 1) := by decide +kernel
theorem dX6_call_113 : decode cX6_call 113 = .ok (.getfield 63, 3) := by decide +kernel
theorem dX6_call_116 : decode cX6_call 116 = .ok (.aload_n 0, 1) := by decide +kernel
theorem dX6_call_117 : decode cX6_call 117 = .ok (.getfield 103, 3) := by decide +kernel
theorem dX6_call_120 : decode cX6_call 120 = .ok (.iconst (-1), 1) := by decide +kernel
theorem dX6_call_121 : decode cX6_call 121 = .ok (.iastore, 1) := by decide +kernel
theorem dX6_call_122 : decode cX6_call 122 = .ok (.aload_n 0, 1) := by decide +kernel
theorem dX6_call_123 : decode cX6_call 123 = .ok (.dup, 1) := by decide +kernel
theorem dX6_call_124 : decode cX6_call 124 = .ok (.getfield 103, 3) := by decide +kernel
theorem dX6_call_127 : decode cX6_call 127 = .ok (.iconst 1, 1) := by decide +kernel
theorem dX6_call_128 : decode cX6_call 128 = .ok (.iadd, 1) := by decide +kernel
theorem dX6_call_129 : decode cX6_call 129 = .ok (.putfield 103, 3) := by decide +kernel
theorem dX6_call_132 : decode cX6_call 132 = .ok (.aload_n 0, 1) := by decide +kernel
theorem dX6_call_133 : decode cX6_call 133 = .ok (.getfield 103, 3) := by decide +kernel
theorem dX6_call_136 : decode cX6_call 136 = .ok (.iconst 1, 1) := by decide +kernel
theorem dX6_call_137 : decode cX6_call 137 = .ok (.isub, 1) := by decide +kernel
theorem dX6_call_138 : decode cX6_call 138 = .ok (.ireturn, 1) := by decide +kernel
theorem dX6_cap_0 : decode cX6_cap 0 = .ok (.aload_n 0, 1) := by decide +kernel
theorem dX6_cap_1 : decode cX6_cap 1 = .ok (.aload_n 0, 1) := by decide +kernel
theorem dX6_cap_2 : decode cX6_cap 2 = .ok (.iload_n 1, 1) := by decide +kernel
theorem dX6_cap_3 : decode cX6_cap 3 = .ok (.iconst 0, 1) := by decide +kernel
theorem dX6_cap_4 : decode cX6_cap 4 = .ok (.sipush 1000, 3) := by decide +kernel
theorem dX6_cap_7 : decode cX6_cap 7 = .ok (.invokevirtual 86, 3) := by decide +kernel
theorem dX6_cap_10 : decode cX6_cap 10 = .ok (.ifCond .eq 7, 3) := by decide +kernel
theorem dX6_cap_13 : decode cX6_cap 13 = .ok (.iconst 0, 1) := by decide +kernel
theorem dX6_cap_14 : decode cX6_cap 14 = .ok (.goto 4, 3) := by decide +kernel
theorem dX6_cap_17 : decode cX6_cap 17 = .ok (.iconst 1, 1) := by decide +kernel
theorem dX6_cap_18 : decode cX6_cap 18 = .ok (.invokevirtual 93, 3) := by decide +kernel
theorem dX6_cap_21 : decode cX6_cap 21 = .ok (.ifCond .eq 5, 3) := by decide +kernel
theorem dX6_cap_24 : decode cX6_cap 24 = .ok (.iconst (-1), 1) := by decide +kernel
theorem dX6_cap_25 : decode cX6_cap 25 = .ok (.ireturn, 1) := by decide +kernel
theorem dX6_cap_26 : decode cX6_cap 26 = .ok (.aload_n 0, 1) := by decide +kernel
theorem dX6_cap_27 : decode cX6_cap 27 = .ok (.getfield 75, 3) := by decide +kernel
theorem dX6_cap_30 : decode cX6_cap 30 = .ok (.istore_n 2, 1) := by decide +kernel
theorem dX6_cap_31 : decode cX6_cap 31 = .ok (.aload_n 0, 1) := by decide +kernel
theorem dX6_cap_32 : decode cX6_cap 32 = .ok (.iload_n 1, 1) := by decide +kernel
theorem dX6_cap_33 : decode cX6_cap 33 = .ok (.putfield 75, 3) := by decide +kernel
theorem dX6_cap_36 : decode cX6_cap 36 = .ok (.iload_n 2, 1) := by decide +kernel
theorem dX6_cap_37 : decode cX6_cap 37 = .ok (.ireturn, 1) := by decide +kernel
theorem dX6_turnsBack_0 : decode cX6_turnsBack 0 = .ok (.aload_n 0, 1) := by decide +kernel
theorem dX6_turnsBack_1 : decode cX6_turnsBack 1 = .ok (.getfield 39, 3) := by decide +kernel
theorem dX6_turnsBack_4 : decode cX6_turnsBack 4 = .ok (.iload_n 1, 1) := by decide +kernel
theorem dX6_turnsBack_5 : decode cX6_turnsBack 5 = .ok (.iaload, 1) := by decide +kernel
theorem dX6_turnsBack_6 : decode cX6_turnsBack 6 = .ok (.istore_n 2, 1) := by decide +kernel
theorem dX6_turnsBack_7 : decode cX6_turnsBack 7 = .ok (.iload_n 2, 1) := by decide +kernel
theorem dX6_turnsBack_8 : decode cX6_turnsBack 8 = .ok (.ifCond .lt 119, 3) := by decide +kernel
theorem dX6_turnsBack_11 : decode cX6_turnsBack 11 = .ok (.aload_n 0, 1) := by decide +kernel
theorem dX6_turnsBack_12 : decode cX6_turnsBack 12 = .ok (.getfield 8, 3) := by decide +kernel
theorem dX6_turnsBack_15 : decode cX6_turnsBack 15 = .ok (.sipush 1000, 3) := by decide +kernel
theorem dX6_turnsBack_18 : decode cX6_turnsBack 18 = .ok (.aload_n 0, 1) := by decide +kernel
theorem dX6_turnsBack_19 : decode cX6_turnsBack 19 = .ok (.getfield 51, 3) := by decide +kernel
theorem dX6_turnsBack_22 : decode cX6_turnsBack 22 = .ok (.iload_n 2, 1) := by decide +kernel
theorem dX6_turnsBack_23 : decode cX6_turnsBack 23 = .ok (.iaload, 1) := by decide +kernel
theorem dX6_turnsBack_24 : decode cX6_turnsBack 24 = .ok (.imul, 1) := by decide +kernel
theorem dX6_turnsBack_25 : decode cX6_turnsBack 25 = .ok (.aload_n 0, 1) := by decide +kernel
theorem dX6_turnsBack_26 : decode cX6_turnsBack 26 = .ok (.getfield 45, 3) := by decide +kernel
theorem dX6_turnsBack_29 : decode cX6_turnsBack 29 = .ok (.iload_n 1, 1) := by decide +kernel
theorem dX6_turnsBack_30 : decode cX6_turnsBack 30 = .ok (.iaload, 1) := by decide +kernel
theorem dX6_turnsBack_31 : decode cX6_turnsBack 31 = .ok (.iadd, 1) := by decide +kernel
theorem dX6_turnsBack_32 : decode cX6_turnsBack 32 = .ok (.baload, 1) := by decide +kernel
theorem dX6_turnsBack_33 : decode cX6_turnsBack 33 = .ok (.aload_n 0, 1) := by decide +kernel
theorem dX6_turnsBack_34 : decode cX6_turnsBack 34 = .ok (.getfield 33, 3) := by decide +kernel
theorem dX6_turnsBack_37 : decode cX6_turnsBack 37 = .ok (.iload_n 1, 1) := by decide +kernel
theorem dX6_turnsBack_38 : decode cX6_turnsBack 38 = .ok (.iaload, 1) := by decide +kernel
theorem dX6_turnsBack_39 : decode cX6_turnsBack 39 = .ok (.if_icmp .le 88, 3) := by decide +kernel
theorem dX6_turnsBack_42 : decode cX6_turnsBack 42 = .ok (.aload_n 0, 1) := by decide +kernel
theorem dX6_turnsBack_43 : decode cX6_turnsBack 43 = .ok (.getfield 100, 3) := by decide +kernel
theorem dX6_turnsBack_46 : decode cX6_turnsBack 46 = .ok (.aload_n 0, 1) := by decide +kernel
theorem dX6_turnsBack_47 : decode cX6_turnsBack 47 = .ok (.getfield 42, 3) := by decide +kernel
theorem dX6_turnsBack_50 : decode cX6_turnsBack 50 = .ok (.iload_n 1, 1) := by decide +kernel
theorem dX6_turnsBack_51 : decode cX6_turnsBack 51 = .ok (.iaload, 1) := by decide +kernel
theorem dX6_turnsBack_52 : decode cX6_turnsBack 52 = .ok (.isub, 1) := by decide +kernel
theorem dX6_turnsBack_53 : decode cX6_turnsBack 53 = .ok (.istore_n 3, 1) := by decide +kernel
theorem dX6_turnsBack_54 : decode cX6_turnsBack 54 = .ok (.aload_n 0, 1) := by decide +kernel
theorem dX6_turnsBack_55 : decode cX6_turnsBack 55 = .ok (.getfield 60, 3) := by decide +kernel
theorem dX6_turnsBack_58 : decode cX6_turnsBack 58 = .ok (.iload_n 2, 1) := by decide +kernel
theorem dX6_turnsBack_59 : decode cX6_turnsBack 59 = .ok (.iconst 0, 1) := by decide +kernel
theorem dX6_turnsBack_60 : decode cX6_turnsBack 60 = .ok (.iastore, 1) := by decide +kernel
theorem dX6_turnsBack_61 : decode cX6_turnsBack 61 = .ok (.aload_n 0, 1) := by decide +kernel
theorem dX6_turnsBack_62 : decode cX6_turnsBack 62 = .ok (.getfield 39, 3) := by decide +kernel
theorem dX6_turnsBack_65 : decode cX6_turnsBack 65 = .ok (.iload_n 1, 1) := by decide +kernel
theorem dX6_turnsBack_66 : decode cX6_turnsBack 66 = .ok (.iconst (-1), 1) := by decide +kernel
theorem dX6_turnsBack_67 : decode cX6_turnsBack 67 = .ok (.iastore, 1) := by decide +kernel
theorem dX6_turnsBack_68 : decode cX6_turnsBack 68 = .ok (.aload_n 0, 1) := by decide +kernel
theorem dX6_turnsBack_69 : decode cX6_turnsBack 69 = .ok (.getfield 45, 3) := by decide +kernel
theorem dX6_turnsBack_72 : decode cX6_turnsBack 72 = .ok (.iload_n 1, 1) := by decide +kernel
theorem dX6_turnsBack_73 : decode cX6_turnsBack 73 = .ok (.aload_n 0, 1) := by decide +kernel
theorem dX6_turnsBack_74 : decode cX6_turnsBack 74 = .ok (.getfield 100, 3) := by decide +kernel
theorem dX6_turnsBack_77 : decode cX6_turnsBack 77 = .ok (.iload_n 3, 1) := by decide +kernel
theorem dX6_turnsBack_78 : decode cX6_turnsBack 78 = .ok (.iadd, 1) := by decide +kernel
theorem dX6_turnsBack_79 : decode cX6_turnsBack 79 = .ok (.iastore, 1) := by decide +kernel
theorem dX6_turnsBack_80 : decode cX6_turnsBack 80 = .ok (.aload_n 0, 1) := by decide +kernel
theorem dX6_turnsBack_81 : decode cX6_turnsBack 81 = .ok (.getfield 30, 3) := by decide +kernel
theorem dX6_turnsBack_84 : decode cX6_turnsBack 84 = .ok (.iload_n 1, 1) := by decide +kernel
theorem dX6_turnsBack_85 : decode cX6_turnsBack 85 = .ok (.dup2, 1) := by decide +kernel
theorem dX6_turnsBack_86 : decode cX6_turnsBack 86 = .ok (.iaload, 1) := by decide +kernel
end
section
theorem dX6_turnsBack_87 : decode cX6_turnsBack 87 = .ok (.aload_n 0, 1) := by decide +kernel
theorem dX6_turnsBack_88 : decode cX6_turnsBack 88 = .ok (.getfield 30, 3) := by decide +kernel
theorem dX6_turnsBack_91 : decode cX6_turnsBack 91 = .ok (.iload_n 1, 1) := by decide +kernel
theorem dX6_turnsBack_92 : decode cX6_turnsBack 92 = .ok (.iaload, 1) := by decide +kernel
theorem dX6_turnsBack_93 : decode cX6_turnsBack 93 = .ok (.iconst 2, 1) := by decide +kernel
theorem dX6_turnsBack_94 : decode cX6_turnsBack 94 = .ok (.aload_n 0, 1) := by decide +kernel
theorem dX6_turnsBack_95 : decode cX6_turnsBack 95 = .ok (.getfield 24, 3) := by decide +kernel
theorem dX6_turnsBack_98 : decode cX6_turnsBack 98 = .ok (.iload_n 1, 1) := by decide +kernel
theorem dX6_turnsBack_99 : decode cX6_turnsBack 99 = .ok (.iaload, 1) := by decide +kernel
theorem dX6_turnsBack_100 : decode cX6_turnsBack 100 = .ok (.imul, 1) := by decide +kernel
theorem dX6_turnsBack_101 : decode cX6_turnsBack 101 = .ok (.iload_n 3, 1) := by decide +kernel
theorem dX6_turnsBack_102 : decode cX6_turnsBack 102 = .ok (.imul, 1) := by decide +kernel
theorem dX6_turnsBack_103 : decode cX6_turnsBack 103 = .ok (.if_icmp .ge 12, 3) := by decide +kernel
theorem dX6_turnsBack_106 : decode cX6_turnsBack 106 = .ok (.aload_n 0, 1) := by decide +kernel
theorem dX6_turnsBack_107 : decode cX6_turnsBack 107 = .ok (.getfield 30, 3) := by decide +kernel
theorem dX6_turnsBack_110 : decode cX6_turnsBack 110 = .ok (.iload_n 1, 1) := by decide +kernel
theorem dX6_turnsBack_111 : decode cX6_turnsBack 111 = .ok (.iaload, 1) := by decide +kernel
theorem dX6_turnsBack_112 : decode cX6_turnsBack 112 = .ok (.goto 13, 3) := by decide +kernel
theorem dX6_turnsBack_115 : decode cX6_turnsBack 115 = .ok (.iconst 2, 1) := by decide +kernel
theorem dX6_turnsBack_116 : decode cX6_turnsBack 116 = .ok (.aload_n 0, 1) := by decide +kernel
theorem dX6_turnsBack_117 : decode cX6_turnsBack 117 = .ok (.getfield 24, 3) := by decide +kernel
theorem dX6_turnsBack_120 : decode cX6_turnsBack 120 = .ok (.iload_n 1, 1) := by decide +kernel
theorem dX6_turnsBack_121 : decode cX6_turnsBack 121 = .ok (.iaload, 1) := by decide +kernel
theorem dX6_turnsBack_122 : decode cX6_turnsBack 122 = .ok (.imul, 1) := by decide +kernel
theorem dX6_turnsBack_123 : decode cX6_turnsBack 123 = .ok (.iload_n 3, 1) := by decide +kernel
theorem dX6_turnsBack_124 : decode cX6_turnsBack 124 = .ok (.imul, 1) := by decide +kernel
theorem dX6_turnsBack_125 : decode cX6_turnsBack 125 = .ok (.isub, 1) := by decide +kernel
theorem dX6_turnsBack_126 : decode cX6_turnsBack 126 = .ok (.iastore, 1) := by decide +kernel
theorem dX6_turnsBack_127 : decode cX6_turnsBack 127 = .ok (.return_, 1) := by decide +kernel
theorem dX6_pays_0 : decode cX6_pays 0 = .ok (.bipush 10, 2) := by decide +kernel
theorem dX6_pays_2 : decode cX6_pays 2 = .ok (.aload_n 0, 1) := by decide +kernel
theorem dX6_pays_3 : decode cX6_pays 3 = .ok (.aload_n 0, 1) := by decide +kernel
theorem dX6_pays_4 : decode cX6_pays 4 = .ok (.getfield 21, 3) := by decide +kernel
theorem dX6_pays_7 : decode cX6_pays 7 = .ok (.iload_n 1, 1) := by decide +kernel
theorem dX6_pays_8 : decode cX6_pays 8 = .ok (.iaload, 1) := by decide +kernel
theorem dX6_pays_9 : decode cX6_pays 9 = .ok (.aload_n 0, 1) := by decide +kernel
theorem dX6_pays_10 : decode cX6_pays 10 = .ok (.getfield 51, 3) := by decide +kernel
theorem dX6_pays_13 : decode cX6_pays 13 = .ok (.iload_n 2, 1) := by decide +kernel
theorem dX6_pays_14 : decode cX6_pays 14 = .ok (.iaload, 1) := by decide +kernel
theorem dX6_pays_15 : decode cX6_pays 15 = .ok (.invokevirtual 106, 3) := by decide +kernel
theorem dX6_pays_18 : decode cX6_pays 18 = .ok (.imul, 1) := by decide +kernel
theorem dX6_pays_19 : decode cX6_pays 19 = .ok (.iconst 5, 1) := by decide +kernel
theorem dX6_pays_20 : decode cX6_pays 20 = .ok (.aload_n 0, 1) := by decide +kernel
theorem dX6_pays_21 : decode cX6_pays 21 = .ok (.getfield 54, 3) := by decide +kernel
theorem dX6_pays_24 : decode cX6_pays 24 = .ok (.iload_n 2, 1) := by decide +kernel
theorem dX6_pays_25 : decode cX6_pays 25 = .ok (.iaload, 1) := by decide +kernel
theorem dX6_pays_26 : decode cX6_pays 26 = .ok (.imul, 1) := by decide +kernel
theorem dX6_pays_27 : decode cX6_pays 27 = .ok (.iadd, 1) := by decide +kernel
theorem dX6_pays_28 : decode cX6_pays 28 = .ok (.istore_n 3, 1) := by decide +kernel
theorem dX6_pays_29 : decode cX6_pays 29 = .ok (.aload_n 0, 1) := by decide +kernel
theorem dX6_pays_30 : decode cX6_pays 30 = .ok (.getfield 69, 3) := by decide +kernel
theorem dX6_pays_33 : decode cX6_pays 33 = .ok (.iload_n 2, 1) := by decide +kernel
theorem dX6_pays_34 : decode cX6_pays 34 = .ok (.iload_n 3, 1) := by decide +kernel
theorem dX6_pays_35 : decode cX6_pays 35 = .ok (.aload_n 0, 1) := by decide +kernel
theorem dX6_pays_36 : decode cX6_pays 36 = .ok (.getfield 75, 3) := by decide +kernel
theorem dX6_pays_39 : decode cX6_pays 39 = .ok (.if_icmp .ge 7, 3) := by decide +kernel
theorem dX6_pays_42 : decode cX6_pays 42 = .ok (.iload_n 3, 1) := by decide +kernel
theorem dX6_pays_43 : decode cX6_pays 43 = .ok (.goto 7, 3) := by decide +kernel
theorem dX6_pays_46 : decode cX6_pays 46 = .ok (.aload_n 0, 1) := by decide +kernel
theorem dX6_pays_47 : decode cX6_pays 47 = .ok (.getfield 75, 3) := by decide +kernel
theorem dX6_pays_50 : decode cX6_pays 50 = .ok (.iastore, 1) := by decide +kernel
theorem dX6_pays_51 : decode cX6_pays 51 = .ok (.aload_n 0, 1) := by decide +kernel
theorem dX6_pays_52 : decode cX6_pays 52 = .ok (.getfield 48, 3) := by decide +kernel
theorem dX6_pays_55 : decode cX6_pays 55 = .ok (.iload_n 1, 1) := by decide +kernel
theorem dX6_pays_56 : decode cX6_pays 56 = .ok (.iaload, 1) := by decide +kernel
theorem dX6_pays_57 : decode cX6_pays 57 = .ok (.aload_n 0, 1) := by decide +kernel
theorem dX6_pays_58 : decode cX6_pays 58 = .ok (.getfield 14, 3) := by decide +kernel
theorem dX6_pays_61 : decode cX6_pays 61 = .ok (.iload_n 1, 1) := by decide +kernel
theorem dX6_pays_62 : decode cX6_pays 62 = .ok (.iaload, 1) := by decide +kernel
theorem dX6_pays_63 : decode cX6_pays 63 = .ok (.if_icmp .ne 12, 3) := by decide +kernel
theorem dX6_pays_66 : decode cX6_pays 66 = .ok (.aload_n 0, 1) := by decide +kernel
theorem dX6_pays_67 : decode cX6_pays 67 = .ok (.getfield 69, 3) := by decide +kernel
theorem dX6_pays_70 : decode cX6_pays 70 = .ok (.iload_n 2, 1) := by decide +kernel
theorem dX6_pays_71 : decode cX6_pays 71 = .ok (.iaload, 1) := by decide +kernel
theorem dX6_pays_72 : decode cX6_pays 72 = .ok (.goto 11, 3) := by decide +kernel
theorem dX6_pays_75 : decode cX6_pays 75 = .ok (.aload_n 0, 1) := by decide +kernel
theorem dX6_pays_76 : decode cX6_pays 76 = .ok (.getfield 69, 3) := by decide +kernel
theorem dX6_pays_79 : decode cX6_pays 79 = .ok (.iload_n 2, 1) := by decide +kernel
theorem dX6_pays_80 : decode cX6_pays 80 = .ok (.iaload, 1) := by decide +kernel
theorem dX6_pays_81 : decode cX6_pays 81 = .ok (.iconst 2, 1) := by decide +kernel
theorem dX6_pays_82 : decode cX6_pays 82 = .ok (.idiv, 1) := by decide +kernel
theorem dX6_pays_83 : decode cX6_pays 83 = .ok (.istore 4, 2) := by decide +kernel
theorem dX6_pays_85 : decode cX6_pays 85 = .ok (.aload_n 0, 1) := by decide +kernel
theorem dX6_pays_86 : decode cX6_pays 86 = .ok (.getfield 72, 3) := by decide +kernel
theorem dX6_pays_89 : decode cX6_pays 89 = .ok (.aload_n 0, 1) := by decide +kernel
theorem dX6_pays_90 : decode cX6_pays 90 = .ok (.getfield 14, 3) := by decide +kernel
theorem dX6_pays_93 : decode cX6_pays 93 = .ok (.iload_n 1, 1) := by decide +kernel
theorem dX6_pays_94 : decode cX6_pays 94 = .ok (.iaload, 1) := by decide +kernel
theorem dX6_pays_95 : decode cX6_pays 95 = .ok (.dup2, 1) := by decide +kernel
theorem dX6_pays_96 : decode cX6_pays 96 = .ok (.iaload, 1) := by decide +kernel
theorem dX6_pays_97 : decode cX6_pays 97 = .ok (.iload 4, 2) := by decide +kernel
theorem dX6_pays_99 : decode cX6_pays 99 = .ok (.iadd, 1) := by decide +kernel
theorem dX6_pays_100 : decode cX6_pays 100 = .ok (.iastore, 1) := by decide +kernel
theorem dX6_pays_101 : decode cX6_pays 101 = .ok (.aload_n 0, 1) := by decide +kernel
theorem dX6_pays_102 : decode cX6_pays 102 = .ok (.getfield 72, 3) := by decide +kernel
theorem dX6_pays_105 : decode cX6_pays 105 = .ok (.aload_n 0, 1) := by decide +kernel
theorem dX6_pays_106 : decode cX6_pays 106 = .ok (.getfield 48, 3) := by decide +kernel
theorem dX6_pays_109 : decode cX6_pays 109 = .ok (.iload_n 1, 1) := by decide +kernel
theorem dX6_pays_110 : decode cX6_pays 110 = .ok (.iaload, 1) := by decide +kernel
theorem dX6_pays_111 : decode cX6_pays 111 = .ok (.dup2, 1) := by decide +kernel
theorem dX6_pays_112 : decode cX6_pays 112 = .ok (.iaload, 1) := by decide +kernel
theorem dX6_pays_113 : decode cX6_pays 113 = .ok (.aload_n 0, 1) := by decide +kernel
theorem dX6_pays_114 : decode cX6_pays 114 = .ok (.getfield 69, 3) := by decide +kernel
theorem dX6_pays_117 : decode cX6_pays 117 = .ok (.iload_n 2, 1) := by decide +kernel
theorem dX6_pays_118 : decode cX6_pays 118 = .ok (.iaload, 1) := by decide +kernel
theorem dX6_pays_119 : decode cX6_pays 119 = .ok (.iload 4, 2) := by decide +kernel
theorem dX6_pays_121 : decode cX6_pays 121 = .ok (.isub, 1) := by decide +kernel
theorem dX6_pays_122 : decode cX6_pays 122 = .ok (.iadd, 1) := by decide +kernel
theorem dX6_pays_123 : decode cX6_pays 123 = .ok (.iastore, 1) := by decide +kernel
theorem dX6_pays_124 : decode cX6_pays 124 = .ok (.return_, 1) := by decide +kernel
theorem dX6_arrives_0 : decode cX6_arrives 0 = .ok (.aload_n 0, 1) := by decide +kernel
theorem dX6_arrives_1 : decode cX6_arrives 1 = .ok (.getfield 36, 3) := by decide +kernel
theorem dX6_arrives_4 : decode cX6_arrives 4 = .ok (.iload_n 1, 1) := by decide +kernel
theorem dX6_arrives_5 : decode cX6_arrives 5 = .ok (.iaload, 1) := by decide +kernel
theorem dX6_arrives_6 : decode cX6_arrives 6 = .ok (.iconst 1, 1) := by decide +kernel
theorem dX6_arrives_7 : decode cX6_arrives 7 = .ok (.if_icmp .ne 16, 3) := by decide +kernel
theorem dX6_arrives_10 : decode cX6_arrives 10 = .ok (.aload_n 0, 1) := by decide +kernel
theorem dX6_arrives_11 : decode cX6_arrives 11 = .ok (.getfield 45, 3) := by decide +kernel
theorem dX6_arrives_14 : decode cX6_arrives 14 = .ok (.iload_n 1, 1) := by decide +kernel
theorem dX6_arrives_15 : decode cX6_arrives 15 = .ok (.iaload, 1) := by decide +kernel
theorem dX6_arrives_16 : decode cX6_arrives 16 = .ok (.aload_n 0, 1) := by decide +kernel
theorem dX6_arrives_17 : decode cX6_arrives 17 = .ok (.getfield 100, 3) := by decide +kernel
theorem dX6_arrives_20 : decode cX6_arrives 20 = .ok (.if_icmp .eq 4, 3) := by decide +kernel
theorem dX6_arrives_23 : decode cX6_arrives 23 = .ok (.return_, 1) := by decide +kernel
theorem dX6_arrives_24 : decode cX6_arrives 24 = .ok (.aload_n 0, 1) := by decide +kernel
theorem dX6_arrives_25 : decode cX6_arrives 25 = .ok (.getfield 100, 3) := by decide +kernel
theorem dX6_arrives_28 : decode cX6_arrives 28 = .ok (.aload_n 0, 1) := by decide +kernel
theorem dX6_arrives_29 : decode cX6_arrives 29 = .ok (.getfield 42, 3) := by decide +kernel
theorem dX6_arrives_32 : decode cX6_arrives 32 = .ok (.iload_n 1, 1) := by decide +kernel
theorem dX6_arrives_33 : decode cX6_arrives 33 = .ok (.iaload, 1) := by decide +kernel
theorem dX6_arrives_34 : decode cX6_arrives 34 = .ok (.isub, 1) := by decide +kernel
theorem dX6_arrives_35 : decode cX6_arrives 35 = .ok (.istore_n 2, 1) := by decide +kernel
theorem dX6_arrives_36 : decode cX6_arrives 36 = .ok (.aload_n 0, 1) := by decide +kernel
theorem dX6_arrives_37 : decode cX6_arrives 37 = .ok (.getfield 39, 3) := by decide +kernel
theorem dX6_arrives_40 : decode cX6_arrives 40 = .ok (.iload_n 1, 1) := by decide +kernel
theorem dX6_arrives_41 : decode cX6_arrives 41 = .ok (.iaload, 1) := by decide +kernel
theorem dX6_arrives_42 : decode cX6_arrives 42 = .ok (.istore_n 3, 1) := by decide +kernel
theorem dX6_arrives_43 : decode cX6_arrives 43 = .ok (.iload_n 3, 1) := by decide +kernel
theorem dX6_arrives_44 : decode cX6_arrives 44 = .ok (.ifCond .lt 65, 3) := by decide +kernel
theorem dX6_arrives_47 : decode cX6_arrives 47 = .ok (.aload_n 0, 1) := by decide +kernel
theorem dX6_arrives_48 : decode cX6_arrives 48 = .ok (.getfield 60, 3) := by decide +kernel
theorem dX6_arrives_51 : decode cX6_arrives 51 = .ok (.iload_n 3, 1) := by decide +kernel
theorem dX6_arrives_52 : decode cX6_arrives 52 = .ok (.iconst 2, 1) := by decide +kernel
theorem dX6_arrives_53 : decode cX6_arrives 53 = .ok (.iastore, 1) := by decide +kernel
theorem dX6_arrives_54 : decode cX6_arrives 54 = .ok (.aload_n 0, 1) := by decide +kernel
theorem dX6_arrives_55 : decode cX6_arrives 55 = .ok (.iload_n 1, 1) := by decide +kernel
theorem dX6_arrives_56 : decode cX6_arrives 56 = .ok (.iload_n 3, 1) := by decide +kernel
theorem dX6_arrives_57 : decode cX6_arrives 57 = .ok (.invokevirtual 110, 3) := by decide +kernel
theorem dX6_arrives_60 : decode cX6_arrives 60 = .ok (.aload_n 0, 1) := by decide +kernel
theorem dX6_arrives_61 : decode cX6_arrives 61 = .ok (.getfield 30, 3) := by decide +kernel
theorem dX6_arrives_64 : decode cX6_arrives 64 = .ok (.iload_n 1, 1) := by decide +kernel
theorem dX6_arrives_65 : decode cX6_arrives 65 = .ok (.dup2, 1) := by decide +kernel
theorem dX6_arrives_66 : decode cX6_arrives 66 = .ok (.iaload, 1) := by decide +kernel
theorem dX6_arrives_67 : decode cX6_arrives 67 = .ok (.iconst 2, 1) := by decide +kernel
theorem dX6_arrives_68 : decode cX6_arrives 68 = .ok (.aload_n 0, 1) := by decide +kernel
theorem dX6_arrives_69 : decode cX6_arrives 69 = .ok (.aload_n 0, 1) := by decide +kernel
theorem dX6_arrives_70 : decode cX6_arrives 70 = .ok (.getfield 21, 3) := by decide +kernel
theorem dX6_arrives_73 : decode cX6_arrives 73 = .ok (.iload_n 1, 1) := by decide +kernel
theorem dX6_arrives_74 : decode cX6_arrives 74 = .ok (.iaload, 1) := by decide +kernel
theorem dX6_arrives_75 : decode cX6_arrives 75 = .ok (.aload_n 0, 1) := by decide +kernel
theorem dX6_arrives_76 : decode cX6_arrives 76 = .ok (.getfield 51, 3) := by decide +kernel
theorem dX6_arrives_79 : decode cX6_arrives 79 = .ok (.iload_n 3, 1) := by decide +kernel
theorem dX6_arrives_80 : decode cX6_arrives 80 = .ok (.iaload, 1) := by decide +kernel
theorem dX6_arrives_81 : decode cX6_arrives 81 = .ok (.invokevirtual 106, 3) := by decide +kernel
theorem dX6_arrives_84 : decode cX6_arrives 84 = .ok (.imul, 1) := by decide +kernel
theorem dX6_arrives_85 : decode cX6_arrives 85 = .ok (.isub, 1) := by decide +kernel
theorem dX6_arrives_86 : decode cX6_arrives 86 = .ok (.iastore, 1) := by decide +kernel
theorem dX6_arrives_87 : decode cX6_arrives 87 = .ok (.aload_n 0, 1) := by decide +kernel
theorem dX6_arrives_88 : decode cX6_arrives 88 = .ok (.getfield 39, 3) := by decide +kernel
theorem dX6_arrives_91 : decode cX6_arrives 91 = .ok (.iload_n 1, 1) := by decide +kernel
theorem dX6_arrives_92 : decode cX6_arrives 92 = .ok (.iconst (-1), 1) := by decide +kernel
theorem dX6_arrives_93 : decode cX6_arrives 93 = .ok (.iastore, 1) := by decide +kernel
theorem dX6_arrives_94 : decode cX6_arrives 94 = .ok (.aload_n 0, 1) := by decide +kernel
theorem dX6_arrives_95 : decode cX6_arrives 95 = .ok (.getfield 45, 3) := by decide +kernel
theorem dX6_arrives_98 : decode cX6_arrives 98 = .ok (.iload_n 1, 1) := by decide +kernel
theorem dX6_arrives_99 : decode cX6_arrives 99 = .ok (.aload_n 0, 1) := by decide +kernel
theorem dX6_arrives_100 : decode cX6_arrives 100 = .ok (.getfield 100, 3) := by decide +kernel
theorem dX6_arrives_103 : decode cX6_arrives 103 = .ok (.iload_n 2, 1) := by decide +kernel
theorem dX6_arrives_104 : decode cX6_arrives 104 = .ok (.iadd, 1) := by decide +kernel
theorem dX6_arrives_105 : decode cX6_arrives 105 = .ok (.iastore, 1) := by decide +kernel
theorem dX6_arrives_106 : decode cX6_arrives 106 = .ok (.goto 34, 3) := by decide +kernel
theorem dX6_arrives_109 : decode cX6_arrives 109 = .ok (.aload_n 0, 1) := by decide +kernel
theorem dX6_arrives_110 : decode cX6_arrives 110 = .ok (.getfield 36, 3) := by decide +kernel
theorem dX6_arrives_113 : decode cX6_arrives 113 = .ok (.iload_n 1, 1) := by decide +kernel
theorem dX6_arrives_114 : decode cX6_arrives 114 = .ok (.iconst 2, 1) := by decide +kernel
theorem dX6_arrives_115 : decode cX6_arrives 115 = .ok (.iastore, 1) := by decide +kernel
theorem dX6_arrives_116 : decode cX6_arrives 116 = .ok (.aload_n 0, 1) := by decide +kernel
theorem dX6_arrives_117 : decode cX6_arrives 117 = .ok (.getfield 30, 3) := by decide +kernel
theorem dX6_arrives_120 : decode cX6_arrives 120 = .ok (.iload_n 1, 1) := by decide +kernel
theorem dX6_arrives_121 : decode cX6_arrives 121 = .ok (.aload_n 0, 1) := by decide +kernel
theorem dX6_arrives_122 : decode cX6_arrives 122 = .ok (.getfield 27, 3) := by decide +kernel
theorem dX6_arrives_125 : decode cX6_arrives 125 = .ok (.iload_n 1, 1) := by decide +kernel
theorem dX6_arrives_126 : decode cX6_arrives 126 = .ok (.iaload, 1) := by decide +kernel
theorem dX6_arrives_127 : decode cX6_arrives 127 = .ok (.iastore, 1) := by decide +kernel
theorem dX6_arrives_128 : decode cX6_arrives 128 = .ok (.aload_n 0, 1) := by decide +kernel
theorem dX6_arrives_129 : decode cX6_arrives 129 = .ok (.getfield 45, 3) := by decide +kernel
theorem dX6_arrives_132 : decode cX6_arrives 132 = .ok (.iload_n 1, 1) := by decide +kernel
theorem dX6_arrives_133 : decode cX6_arrives 133 = .ok (.aload_n 0, 1) := by decide +kernel
theorem dX6_arrives_134 : decode cX6_arrives 134 = .ok (.getfield 100, 3) := by decide +kernel
theorem dX6_arrives_137 : decode cX6_arrives 137 = .ok (.iload_n 2, 1) := by decide +kernel
theorem dX6_arrives_138 : decode cX6_arrives 138 = .ok (.iadd, 1) := by decide +kernel
theorem dX6_arrives_139 : decode cX6_arrives 139 = .ok (.iastore, 1) := by decide +kernel
theorem dX6_arrives_140 : decode cX6_arrives 140 = .ok (.return_, 1) := by decide +kernel
theorem dX6_hours_0 : decode cX6_hours 0 = .ok (.aload_n 0, 1) := by decide +kernel
theorem dX6_hours_1 : decode cX6_hours 1 = .ok (.aload_n 0, 1) := by decide +kernel
theorem dX6_hours_2 : decode cX6_hours 2 = .ok (.getfield 21, 3) := by decide +kernel
theorem dX6_hours_5 : decode cX6_hours 5 = .ok (.iload_n 1, 1) := by decide +kernel
theorem dX6_hours_6 : decode cX6_hours 6 = .ok (.iaload, 1) := by decide +kernel
theorem dX6_hours_7 : decode cX6_hours 7 = .ok (.aload_n 0, 1) := by decide +kernel
theorem dX6_hours_8 : decode cX6_hours 8 = .ok (.getfield 51, 3) := by decide +kernel
theorem dX6_hours_11 : decode cX6_hours 11 = .ok (.iload_n 2, 1) := by decide +kernel
theorem dX6_hours_12 : decode cX6_hours 12 = .ok (.iaload, 1) := by decide +kernel
theorem dX6_hours_13 : decode cX6_hours 13 = .ok (.invokevirtual 106, 3) := by decide +kernel
theorem dX6_hours_16 : decode cX6_hours 16 = .ok (.aload_n 0, 1) := by decide +kernel
theorem dX6_hours_17 : decode cX6_hours 17 = .ok (.getfield 24, 3) := by decide +kernel
theorem dX6_hours_20 : decode cX6_hours 20 = .ok (.iload_n 1, 1) := by decide +kernel
theorem dX6_hours_21 : decode cX6_hours 21 = .ok (.iaload, 1) := by decide +kernel
theorem dX6_hours_22 : decode cX6_hours 22 = .ok (.iadd, 1) := by decide +kernel
theorem dX6_hours_23 : decode cX6_hours 23 = .ok (.iconst 1, 1) := by decide +kernel
theorem dX6_hours_24 : decode cX6_hours 24 = .ok (.isub, 1) := by decide +kernel
theorem dX6_hours_25 : decode cX6_hours 25 = .ok (.aload_n 0, 1) := by decide +kernel
theorem dX6_hours_26 : decode cX6_hours 26 = .ok (.getfield 24, 3) := by decide +kernel
theorem dX6_hours_29 : decode cX6_hours 29 = .ok (.iload_n 1, 1) := by decide +kernel
theorem dX6_hours_30 : decode cX6_hours 30 = .ok (.iaload, 1) := by decide +kernel
theorem dX6_hours_31 : decode cX6_hours 31 = .ok (.idiv, 1) := by decide +kernel
theorem dX6_hours_32 : decode cX6_hours 32 = .ok (.istore_n 3, 1) := by decide +kernel
theorem dX6_hours_33 : decode cX6_hours 33 = .ok (.iload_n 3, 1) := by decide +kernel
theorem dX6_hours_34 : decode cX6_hours 34 = .ok (.iconst 1, 1) := by decide +kernel
theorem dX6_hours_35 : decode cX6_hours 35 = .ok (.if_icmp .ge 7, 3) := by decide +kernel
theorem dX6_hours_38 : decode cX6_hours 38 = .ok (.iconst 1, 1) := by decide +kernel
theorem dX6_hours_39 : decode cX6_hours 39 = .ok (.goto 4, 3) := by decide +kernel
theorem dX6_hours_42 : decode cX6_hours 42 = .ok (.iload_n 3, 1) := by decide +kernel
theorem dX6_hours_43 : decode cX6_hours 43 = .ok (.ireturn, 1) := by decide +kernel
theorem dX6_can_0 : decode cX6_can 0 = .ok (.aload_n 0, 1) := by decide +kernel
theorem dX6_can_1 : decode cX6_can 1 = .ok (.iload_n 1, 1) := by decide +kernel
theorem dX6_can_2 : decode cX6_can 2 = .ok (.iload_n 2, 1) := by decide +kernel
theorem dX6_can_3 : decode cX6_can 3 = .ok (.invokevirtual 114, 3) := by decide +kernel
theorem dX6_can_6 : decode cX6_can 6 = .ok (.istore_n 3, 1) := by decide +kernel
theorem dX6_can_7 : decode cX6_can 7 = .ok (.aload_n 0, 1) := by decide +kernel
theorem dX6_can_8 : decode cX6_can 8 = .ok (.getfield 36, 3) := by decide +kernel
theorem dX6_can_11 : decode cX6_can 11 = .ok (.iload_n 1, 1) := by decide +kernel
theorem dX6_can_12 : decode cX6_can 12 = .ok (.iaload, 1) := by decide +kernel
theorem dX6_can_13 : decode cX6_can 13 = .ok (.ifCond .ne 54, 3) := by decide +kernel
theorem dX6_can_16 : decode cX6_can 16 = .ok (.iload_n 3, 1) := by decide +kernel
theorem dX6_can_17 : decode cX6_can 17 = .ok (.iconst 5, 1) := by decide +kernel
theorem dX6_can_18 : decode cX6_can 18 = .ok (.if_icmp .gt 49, 3) := by decide +kernel
theorem dX6_can_21 : decode cX6_can 21 = .ok (.aload_n 0, 1) := by decide +kernel
theorem dX6_can_22 : decode cX6_can 22 = .ok (.getfield 100, 3) := by decide +kernel
theorem dX6_can_25 : decode cX6_can 25 = .ok (.iload_n 3, 1) := by decide +kernel
theorem dX6_can_26 : decode cX6_can 26 = .ok (.iadd, 1) := by decide +kernel
theorem dX6_can_27 : decode cX6_can 27 = .ok (.aload_n 0, 1) := by decide +kernel
theorem dX6_can_28 : decode cX6_can 28 = .ok (.getfield 57, 3) := by decide +kernel
theorem dX6_can_31 : decode cX6_can 31 = .ok (.iload_n 2, 1) := by decide +kernel
theorem dX6_can_32 : decode cX6_can 32 = .ok (.iaload, 1) := by decide +kernel
theorem dX6_can_33 : decode cX6_can 33 = .ok (.if_icmp .gt 34, 3) := by decide +kernel
theorem dX6_can_36 : decode cX6_can 36 = .ok (.aload_n 0, 1) := by decide +kernel
theorem dX6_can_37 : decode cX6_can 37 = .ok (.getfield 30, 3) := by decide +kernel
theorem dX6_can_40 : decode cX6_can 40 = .ok (.iload_n 1, 1) := by decide +kernel
theorem dX6_can_41 : decode cX6_can 41 = .ok (.iaload, 1) := by decide +kernel
theorem dX6_can_42 : decode cX6_can 42 = .ok (.iconst 2, 1) := by decide +kernel
theorem dX6_can_43 : decode cX6_can 43 = .ok (.aload_n 0, 1) := by decide +kernel
theorem dX6_can_44 : decode cX6_can 44 = .ok (.aload_n 0, 1) := by decide +kernel
theorem dX6_can_45 : decode cX6_can 45 = .ok (.getfield 21, 3) := by decide +kernel
theorem dX6_can_48 : decode cX6_can 48 = .ok (.iload_n 1, 1) := by decide +kernel
theorem dX6_can_49 : decode cX6_can 49 = .ok (.iaload, 1) := by decide +kernel
theorem dX6_can_50 : decode cX6_can 50 = .ok (.aload_n 0, 1) := by decide +kernel
theorem dX6_can_51 : decode cX6_can 51 = .ok (.getfield 51, 3) := by decide +kernel
theorem dX6_can_54 : decode cX6_can 54 = .ok (.iload_n 2, 1) := by decide +kernel
theorem dX6_can_55 : decode cX6_can 55 = .ok (.iaload, 1) := by decide +kernel
theorem dX6_can_56 : decode cX6_can 56 = .ok (.invokevirtual 106, 3) := by decide +kernel
theorem dX6_can_59 : decode cX6_can 59 = .ok (.imul, 1) := by decide +kernel
theorem dX6_can_60 : decode cX6_can 60 = .ok (.if_icmp .lt 7, 3) := by decide +kernel
theorem dX6_can_63 : decode cX6_can 63 = .ok (.iconst 1, 1) := by decide +kernel
theorem dX6_can_64 : decode cX6_can 64 = .ok (.goto 4, 3) := by decide +kernel
theorem dX6_can_67 : decode cX6_can 67 = .ok (.iconst 0, 1) := by decide +kernel
theorem dX6_can_68 : decode cX6_can 68 = .ok (.istore 4, 2) := by decide +kernel
theorem dX6_can_70 : decode cX6_can 70 = .ok (.iload 4, 2) := by decide +kernel
theorem dX6_can_72 : decode cX6_can 72 = .ok (.ifCond .eq 38, 3) := by decide +kernel
theorem dX6_can_75 : decode cX6_can 75 = .ok (.aload_n 0, 1) := by decide +kernel
theorem dX6_can_76 : decode cX6_can 76 = .ok (.getfield 8, 3) := by decide +kernel
theorem dX6_can_79 : decode cX6_can 79 = .ok (.sipush 1000, 3) := by decide +kernel
theorem dX6_can_82 : decode cX6_can 82 = .ok (.aload_n 0, 1) := by decide +kernel
theorem dX6_can_83 : decode cX6_can 83 = .ok (.getfield 51, 3) := by decide +kernel
theorem dX6_can_86 : decode cX6_can 86 = .ok (.iload_n 2, 1) := by decide +kernel
theorem dX6_can_87 : decode cX6_can 87 = .ok (.iaload, 1) := by decide +kernel
theorem dX6_can_88 : decode cX6_can 88 = .ok (.imul, 1) := by decide +kernel
theorem dX6_can_89 : decode cX6_can 89 = .ok (.aload_n 0, 1) := by decide +kernel
theorem dX6_can_90 : decode cX6_can 90 = .ok (.getfield 100, 3) := by decide +kernel
theorem dX6_can_93 : decode cX6_can 93 = .ok (.iadd, 1) := by decide +kernel
theorem dX6_can_94 : decode cX6_can 94 = .ok (.iload_n 3, 1) := by decide +kernel
theorem dX6_can_95 : decode cX6_can 95 = .ok (.iadd, 1) := by decide +kernel
theorem dX6_can_96 : decode cX6_can 96 = .ok (.baload, 1) := by decide +kernel
theorem dX6_can_97 : decode cX6_can 97 = .ok (.aload_n 0, 1) := by decide +kernel
theorem dX6_can_98 : decode cX6_can 98 = .ok (.getfield 33, 3) := by decide +kernel
theorem dX6_can_101 : decode cX6_can 101 = .ok (.iload_n 1, 1) := by decide +kernel
theorem dX6_can_102 : decode cX6_can 102 = .ok (.iaload, 1) := by decide +kernel
theorem dX6_can_103 : decode cX6_can 103 = .ok (.if_icmp .gt 7, 3) := by decide +kernel
theorem dX6_can_106 : decode cX6_can 106 = .ok (.iconst 1, 1) := by decide +kernel
theorem dX6_can_107 : decode cX6_can 107 = .ok (.goto 4, 3) := by decide +kernel
theorem dX6_can_110 : decode cX6_can 110 = .ok (.iconst 0, 1) := by decide +kernel
theorem dX6_can_111 : decode cX6_can 111 = .ok (.ireturn, 1) := by decide +kernel
theorem dX6_tasks_0 : decode cX6_tasks 0 = .ok (.iconst (-1), 1) := by decide +kernel
theorem dX6_tasks_1 : decode cX6_tasks 1 = .ok (.istore_n 2, 1) := by decide +kernel
theorem dX6_tasks_2 : decode cX6_tasks 2 = .ok (.iconst 0, 1) := by decide +kernel
theorem dX6_tasks_3 : decode cX6_tasks 3 = .ok (.istore_n 3, 1) := by decide +kernel
theorem dX6_tasks_4 : decode cX6_tasks 4 = .ok (.iload_n 3, 1) := by decide +kernel
theorem dX6_tasks_5 : decode cX6_tasks 5 = .ok (.aload_n 0, 1) := by decide +kernel
theorem dX6_tasks_6 : decode cX6_tasks 6 = .ok (.getfield 90, 3) := by decide +kernel
theorem dX6_tasks_9 : decode cX6_tasks 9 = .ok (.if_icmp .ge 43, 3) := by decide +kernel
theorem dX6_tasks_12 : decode cX6_tasks 12 = .ok (.aload_n 0, 1) := by decide +kernel
theorem dX6_tasks_13 : decode cX6_tasks 13 = .ok (.iload_n 3, 1) := by decide +kernel
theorem dX6_tasks_14 : decode cX6_tasks 14 = .ok (.iload_n 1, 1) := by decide +kernel
theorem dX6_tasks_15 : decode cX6_tasks 15 = .ok (.invokevirtual 117, 3) := by decide +kernel
theorem dX6_tasks_18 : decode cX6_tasks 18 = .ok (.ifCond .eq 26, 3) := by decide +kernel
theorem dX6_tasks_21 : decode cX6_tasks 21 = .ok (.iload_n 2, 1) := by decide +kernel
theorem dX6_tasks_22 : decode cX6_tasks 22 = .ok (.ifCond .lt 18, 3) := by decide +kernel
theorem dX6_tasks_25 : decode cX6_tasks 25 = .ok (.aload_n 0, 1) := by decide +kernel
theorem dX6_tasks_26 : decode cX6_tasks 26 = .ok (.iload_n 3, 1) := by decide +kernel
theorem dX6_tasks_27 : decode cX6_tasks 27 = .ok (.iload_n 1, 1) := by decide +kernel
theorem dX6_tasks_28 : decode cX6_tasks 28 = .ok (.invokevirtual 114, 3) := by decide +kernel
theorem dX6_tasks_31 : decode cX6_tasks 31 = .ok (.aload_n 0, 1) := by decide +kernel
theorem dX6_tasks_32 : decode cX6_tasks 32 = .ok (.iload_n 2, 1) := by decide +kernel
theorem dX6_tasks_33 : decode cX6_tasks 33 = .ok (.iload_n 1, 1) := by decide +kernel
theorem dX6_tasks_34 : decode cX6_tasks 34 = .ok (.invokevirtual 114, 3) := by decide +kernel
theorem dX6_tasks_37 : decode cX6_tasks 37 = .ok (.if_icmp .ge 7, 3) := by decide +kernel
theorem dX6_tasks_40 : decode cX6_tasks 40 = .ok (.iload_n 3, 1) := by decide +kernel
theorem dX6_tasks_41 : decode cX6_tasks 41 = .ok (.goto 4, 3) := by decide +kernel
theorem dX6_tasks_44 : decode cX6_tasks 44 = .ok (.iload_n 2, 1) := by decide +kernel
theorem dX6_tasks_45 : decode cX6_tasks 45 = .ok (.istore_n 2, 1) := by decide +kernel
theorem dX6_tasks_46 : decode cX6_tasks 46 = .ok (.iinc 3 1, 3) := by decide +kernel
theorem dX6_tasks_49 : decode cX6_tasks 49 = .ok (.goto (-45), 3) := by decide +kernel
theorem dX6_tasks_52 : decode cX6_tasks 52 = .ok (.iload_n 2, 1) := by decide +kernel
theorem dX6_tasks_53 : decode cX6_tasks 53 = .ok (.ifCond .lt 80, 3) := by decide +kernel
theorem dX6_tasks_56 : decode cX6_tasks 56 = .ok (.aload_n 0, 1) := by decide +kernel
theorem dX6_tasks_57 : decode cX6_tasks 57 = .ok (.getfield 36, 3) := by decide +kernel
theorem dX6_tasks_60 : decode cX6_tasks 60 = .ok (.iload_n 2, 1) := by decide +kernel
theorem dX6_tasks_61 : decode cX6_tasks 61 = .ok (.iconst 1, 1) := by decide +kernel
theorem dX6_tasks_62 : decode cX6_tasks 62 = .ok (.iastore, 1) := by decide +kernel
theorem dX6_tasks_63 : decode cX6_tasks 63 = .ok (.aload_n 0, 1) := by decide +kernel
theorem dX6_tasks_64 : decode cX6_tasks 64 = .ok (.getfield 39, 3) := by decide +kernel
theorem dX6_tasks_67 : decode cX6_tasks 67 = .ok (.iload_n 2, 1) := by decide +kernel
theorem dX6_tasks_68 : decode cX6_tasks 68 = .ok (.iload_n 1, 1) := by decide +kernel
theorem dX6_tasks_69 : decode cX6_tasks 69 = .ok (.iastore, 1) := by decide +kernel
theorem dX6_tasks_70 : decode cX6_tasks 70 = .ok (.aload_n 0, 1) := by decide +kernel
theorem dX6_tasks_71 : decode cX6_tasks 71 = .ok (.getfield 42, 3) := by decide +kernel
theorem dX6_tasks_74 : decode cX6_tasks 74 = .ok (.iload_n 2, 1) := by decide +kernel
theorem dX6_tasks_75 : decode cX6_tasks 75 = .ok (.aload_n 0, 1) := by decide +kernel
theorem dX6_tasks_76 : decode cX6_tasks 76 = .ok (.getfield 100, 3) := by decide +kernel
theorem dX6_tasks_79 : decode cX6_tasks 79 = .ok (.iastore, 1) := by decide +kernel
theorem dX6_tasks_80 : decode cX6_tasks 80 = .ok (.aload_n 0, 1) := by decide +kernel
theorem dX6_tasks_81 : decode cX6_tasks 81 = .ok (.getfield 45, 3) := by decide +kernel
theorem dX6_tasks_84 : decode cX6_tasks 84 = .ok (.iload_n 2, 1) := by decide +kernel
theorem dX6_tasks_85 : decode cX6_tasks 85 = .ok (.aload_n 0, 1) := by decide +kernel
theorem dX6_tasks_86 : decode cX6_tasks 86 = .ok (.getfield 100, 3) := by decide +kernel
theorem dX6_tasks_89 : decode cX6_tasks 89 = .ok (.aload_n 0, 1) := by decide +kernel
theorem dX6_tasks_90 : decode cX6_tasks 90 = .ok (.iload_n 2, 1) := by decide +kernel
theorem dX6_tasks_91 : decode cX6_tasks 91 = .ok (.iload_n 1, 1) := by decide +kernel
theorem dX6_tasks_92 : decode cX6_tasks 92 = .ok (.invokevirtual 114, 3) := by decide +kernel
theorem dX6_tasks_95 : decode cX6_tasks 95 = .ok (.iadd, 1) := by decide +kernel
theorem dX6_tasks_96 : decode cX6_tasks 96 = .ok (.iastore, 1) := by decide +kernel
theorem dX6_tasks_97 : decode cX6_tasks 97 = .ok (.aload_n 0, 1) := by decide +kernel
theorem dX6_tasks_98 : decode cX6_tasks 98 = .ok (.getfield 48, 3) := by decide +kernel
theorem dX6_tasks_101 : decode cX6_tasks 101 = .ok (.iload_n 2, 1) := by decide +kernel
theorem dX6_tasks_102 : decode cX6_tasks 102 = .ok (.aload_n 0, 1) := by decide +kernel
theorem dX6_tasks_103 : decode cX6_tasks 103 = .ok (.getfield 18, 3) := by decide +kernel
theorem dX6_tasks_106 : decode cX6_tasks 106 = .ok (.iload_n 2, 1) := by decide +kernel
theorem dX6_tasks_107 : decode cX6_tasks 107 = .ok (.iaload, 1) := by decide +kernel
theorem dX6_tasks_108 : decode cX6_tasks 108 = .ok (.iastore, 1) := by decide +kernel
theorem dX6_tasks_109 : decode cX6_tasks 109 = .ok (.aload_n 0, 1) := by decide +kernel
theorem dX6_tasks_110 : decode cX6_tasks 110 = .ok (.getfield 60, 3) := by decide +kernel
theorem dX6_tasks_113 : decode cX6_tasks 113 = .ok (.iload_n 1, 1) := by decide +kernel
theorem dX6_tasks_114 : decode cX6_tasks 114 = .ok (.iconst 1, 1) := by decide +kernel
theorem dX6_tasks_115 : decode cX6_tasks 115 = .ok (.iastore, 1) := by decide +kernel
theorem dX6_tasks_116 : decode cX6_tasks 116 = .ok (.aload_n 0, 1) := by decide +kernel
theorem dX6_tasks_117 : decode cX6_tasks 117 = .ok (.getfield 63, 3) := by decide +kernel
theorem dX6_tasks_120 : decode cX6_tasks 120 = .ok (.iload_n 1, 1) := by decide +kernel
theorem dX6_tasks_121 : decode cX6_tasks 121 = .ok (.iload_n 2, 1) := by decide +kernel
theorem dX6_tasks_122 : decode cX6_tasks 122 = .ok (.iastore, 1) := by decide +kernel
theorem dX6_tasks_123 : decode cX6_tasks 123 = .ok (.aload_n 0, 1) := by decide +kernel
theorem dX6_tasks_124 : decode cX6_tasks 124 = .ok (.getfield 66, 3) := by decide +kernel
theorem dX6_tasks_127 : decode cX6_tasks 127 = .ok (.iload_n 1, 1) := by decide +kernel
theorem dX6_tasks_128 : decode cX6_tasks 128 = .ok (.dup2, 1) := by decide +kernel
theorem dX6_tasks_129 : decode cX6_tasks 129 = .ok (.iaload, 1) := by decide +kernel
theorem dX6_tasks_130 : decode cX6_tasks 130 = .ok (.iconst 1, 1) := by decide +kernel
theorem dX6_tasks_131 : decode cX6_tasks 131 = .ok (.iadd, 1) := by decide +kernel
theorem dX6_tasks_132 : decode cX6_tasks 132 = .ok (.iastore, 1) := by decide +kernel
theorem dX6_tasks_133 : decode cX6_tasks 133 = .ok (.return_, 1) := by decide +kernel
theorem dX6_goes_0 : decode cX6_goes 0 = .ok (.aload_n 0, 1) := by decide +kernel
theorem dX6_goes_1 : decode cX6_goes 1 = .ok (.dup, 1) := by decide +kernel
theorem dX6_goes_2 : decode cX6_goes 2 = .ok (.getfield 100, 3) := by decide +kernel
theorem dX6_goes_5 : decode cX6_goes 5 = .ok (.iconst 1, 1) := by decide +kernel
theorem dX6_goes_6 : decode cX6_goes 6 = .ok (.iadd, 1) := by decide +kernel
theorem dX6_goes_7 : decode cX6_goes 7 = .ok (.putfield 100, 3) := by decide +kernel
theorem dX6_goes_10 : decode cX6_goes 10 = .ok (.iconst 0, 1) := by decide +kernel
theorem dX6_goes_11 : decode cX6_goes 11 = .ok (.istore_n 1, 1) := by decide +kernel
theorem dX6_goes_12 : decode cX6_goes 12 = .ok (.iload_n 1, 1) := by decide +kernel
theorem dX6_goes_13 : decode cX6_goes 13 = .ok (.aload_n 0, 1) := by decide +kernel
theorem dX6_goes_14 : decode cX6_goes 14 = .ok (.getfield 90, 3) := by decide +kernel
theorem dX6_goes_17 : decode cX6_goes 17 = .ok (.if_icmp .ge 14, 3) := by decide +kernel
theorem dX6_goes_20 : decode cX6_goes 20 = .ok (.aload_n 0, 1) := by decide +kernel
theorem dX6_goes_21 : decode cX6_goes 21 = .ok (.iload_n 1, 1) := by decide +kernel
theorem dX6_goes_22 : decode cX6_goes 22 = .ok (.invokevirtual 121, 3) := by decide +kernel
theorem dX6_goes_25 : decode cX6_goes 25 = .ok (.iinc 1 1, 3) := by decide +kernel
theorem dX6_goes_28 : decode cX6_goes 28 = .ok (.goto (-16), 3) := by decide +kernel
theorem dX6_goes_31 : decode cX6_goes 31 = .ok (.iconst 0, 1) := by decide +kernel
theorem dX6_goes_32 : decode cX6_goes 32 = .ok (.istore_n 1, 1) := by decide +kernel
theorem dX6_goes_33 : decode cX6_goes 33 = .ok (.iload_n 1, 1) := by decide +kernel
theorem dX6_goes_34 : decode cX6_goes 34 = .ok (.aload_n 0, 1) := by decide +kernel
theorem dX6_goes_35 : decode cX6_goes 35 = .ok (.getfield 90, 3) := by decide +kernel
theorem dX6_goes_38 : decode cX6_goes 38 = .ok (.if_icmp .ge 14, 3) := by decide +kernel
theorem dX6_goes_41 : decode cX6_goes 41 = .ok (.aload_n 0, 1) := by decide +kernel
theorem dX6_goes_42 : decode cX6_goes 42 = .ok (.iload_n 1, 1) := by decide +kernel
theorem dX6_goes_43 : decode cX6_goes 43 = .ok (.invokevirtual 125, 3) := by decide +kernel
theorem dX6_goes_46 : decode cX6_goes 46 = .ok (.iinc 1 1, 3) := by decide +kernel
theorem dX6_goes_49 : decode cX6_goes 49 = .ok (.goto (-16), 3) := by decide +kernel
theorem dX6_goes_52 : decode cX6_goes 52 = .ok (.iconst 0, 1) := by decide +kernel
theorem dX6_goes_53 : decode cX6_goes 53 = .ok (.istore_n 1, 1) := by decide +kernel
theorem dX6_goes_54 : decode cX6_goes 54 = .ok (.iload_n 1, 1) := by decide +kernel
theorem dX6_goes_55 : decode cX6_goes 55 = .ok (.aload_n 0, 1) := by decide +kernel
theorem dX6_goes_56 : decode cX6_goes 56 = .ok (.getfield 90, 3) := by decide +kernel
theorem dX6_goes_59 : decode cX6_goes 59 = .ok (.if_icmp .ge 48, 3) := by decide +kernel
theorem dX6_goes_62 : decode cX6_goes 62 = .ok (.aload_n 0, 1) := by decide +kernel
theorem dX6_goes_63 : decode cX6_goes 63 = .ok (.getfield 36, 3) := by decide +kernel
theorem dX6_goes_66 : decode cX6_goes 66 = .ok (.iload_n 1, 1) := by decide +kernel
theorem dX6_goes_67 : decode cX6_goes 67 = .ok (.aload_n 0, 1) := by decide +kernel
theorem dX6_goes_68 : decode cX6_goes 68 = .ok (.getfield 36, 3) := by decide +kernel
theorem dX6_goes_71 : decode cX6_goes 71 = .ok (.iload_n 1, 1) := by decide +kernel
theorem dX6_goes_72 : decode cX6_goes 72 = .ok (.iaload, 1) := by decide +kernel
theorem dX6_goes_73 : decode cX6_goes 73 = .ok (.iconst 2, 1) := by decide +kernel
theorem dX6_goes_74 : decode cX6_goes 74 = .ok (.if_icmp .ne 20, 3) := by decide +kernel
theorem dX6_goes_77 : decode cX6_goes 77 = .ok (.aload_n 0, 1) := by decide +kernel
theorem dX6_goes_78 : decode cX6_goes 78 = .ok (.getfield 45, 3) := by decide +kernel
theorem dX6_goes_81 : decode cX6_goes 81 = .ok (.iload_n 1, 1) := by decide +kernel
theorem dX6_goes_82 : decode cX6_goes 82 = .ok (.iaload, 1) := by decide +kernel
theorem dX6_goes_83 : decode cX6_goes 83 = .ok (.aload_n 0, 1) := by decide +kernel
theorem dX6_goes_84 : decode cX6_goes 84 = .ok (.getfield 100, 3) := by decide +kernel
theorem dX6_goes_87 : decode cX6_goes 87 = .ok (.if_icmp .ne 7, 3) := by decide +kernel
theorem dX6_goes_90 : decode cX6_goes 90 = .ok (.iconst 0, 1) := by decide +kernel
theorem dX6_goes_91 : decode cX6_goes 91 = .ok (.goto 9, 3) := by decide +kernel
theorem dX6_goes_94 : decode cX6_goes 94 = .ok (.aload_n 0, 1) := by decide +kernel
theorem dX6_goes_95 : decode cX6_goes 95 = .ok (.getfield 36, 3) := by decide +kernel
theorem dX6_goes_98 : decode cX6_goes 98 = .ok (.iload_n 1, 1) := by decide +kernel
theorem dX6_goes_99 : decode cX6_goes 99 = .ok (.iaload, 1) := by decide +kernel
theorem dX6_goes_100 : decode cX6_goes 100 = .ok (.iastore, 1) := by decide +kernel
theorem dX6_goes_101 : decode cX6_goes 101 = .ok (.iinc 1 1, 3) := by decide +kernel
theorem dX6_goes_104 : decode cX6_goes 104 = .ok (.goto (-50), 3) := by decide +kernel
theorem dX6_goes_107 : decode cX6_goes 107 = .ok (.iconst 0, 1) := by decide +kernel
theorem dX6_goes_108 : decode cX6_goes 108 = .ok (.istore_n 1, 1) := by decide +kernel
theorem dX6_goes_109 : decode cX6_goes 109 = .ok (.iload_n 1, 1) := by decide +kernel
theorem dX6_goes_110 : decode cX6_goes 110 = .ok (.aload_n 0, 1) := by decide +kernel
theorem dX6_goes_111 : decode cX6_goes 111 = .ok (.getfield 103, 3) := by decide +kernel
theorem dX6_goes_114 : decode cX6_goes 114 = .ok (.if_icmp .ge 52, 3) := by decide +kernel
theorem dX6_goes_117 : decode cX6_goes 117 = .ok (.aload_n 0, 1) := by decide +kernel
theorem dX6_goes_118 : decode cX6_goes 118 = .ok (.getfield 60, 3) := by decide +kernel
theorem dX6_goes_121 : decode cX6_goes 121 = .ok (.iload_n 1, 1) := by decide +kernel
theorem dX6_goes_122 : decode cX6_goes 122 = .ok (.iaload, 1) := by decide +kernel
theorem dX6_goes_123 : decode cX6_goes 123 = .ok (.ifCond .ne 23, 3) := by decide +kernel
theorem dX6_goes_126 : decode cX6_goes 126 = .ok (.aload_n 0, 1) := by decide +kernel
theorem dX6_goes_127 : decode cX6_goes 127 = .ok (.getfield 100, 3) := by decide +kernel
theorem dX6_goes_130 : decode cX6_goes 130 = .ok (.aload_n 0, 1) := by decide +kernel
theorem dX6_goes_131 : decode cX6_goes 131 = .ok (.getfield 57, 3) := by decide +kernel
theorem dX6_goes_134 : decode cX6_goes 134 = .ok (.iload_n 1, 1) := by decide +kernel
theorem dX6_goes_135 : decode cX6_goes 135 = .ok (.iaload, 1) := by decide +kernel
theorem dX6_goes_136 : decode cX6_goes 136 = .ok (.if_icmp .le 10, 3) := by decide +kernel
theorem dX6_goes_139 : decode cX6_goes 139 = .ok (.aload_n 0, 1) := by decide +kernel
theorem dX6_goes_140 : decode cX6_goes 140 = .ok (.getfield 60, 3) := by decide +kernel
theorem dX6_goes_143 : decode cX6_goes 143 = .ok (.iload_n 1, 1) := by decide +kernel
theorem dX6_goes_144 : decode cX6_goes 144 = .ok (.iconst 3, 1) := by decide +kernel
theorem dX6_goes_145 : decode cX6_goes 145 = .ok (.iastore, 1) := by decide +kernel
theorem dX6_goes_146 : decode cX6_goes 146 = .ok (.aload_n 0, 1) := by decide +kernel
theorem dX6_goes_147 : decode cX6_goes 147 = .ok (.getfield 60, 3) := by decide +kernel
theorem dX6_goes_150 : decode cX6_goes 150 = .ok (.iload_n 1, 1) := by decide +kernel
theorem dX6_goes_151 : decode cX6_goes 151 = .ok (.iaload, 1) := by decide +kernel
theorem dX6_goes_152 : decode cX6_goes 152 = .ok (.ifCond .ne 8, 3) := by decide +kernel
theorem dX6_goes_155 : decode cX6_goes 155 = .ok (.aload_n 0, 1) := by decide +kernel
theorem dX6_goes_156 : decode cX6_goes 156 = .ok (.iload_n 1, 1) := by decide +kernel
theorem dX6_goes_157 : decode cX6_goes 157 = .ok (.invokevirtual 128, 3) := by decide +kernel
theorem dX6_goes_160 : decode cX6_goes 160 = .ok (.iinc 1 1, 3) := by decide +kernel
theorem dX6_goes_163 : decode cX6_goes 163 = .ok (.goto (-54), 3) := by decide +kernel
theorem dX6_goes_166 : decode cX6_goes 166 = .ok (.return_, 1) := by decide +kernel
theorem dX6_pass_0 : decode cX6_pass 0 = .ok (.aload_n 0, 1) := by decide +kernel
theorem dX6_pass_1 : decode cX6_pass 1 = .ok (.aload_n 0, 1) := by decide +kernel
theorem dX6_pass_2 : decode cX6_pass 2 = .ok (.iload_n 1, 1) := by decide +kernel
theorem dX6_pass_3 : decode cX6_pass 3 = .ok (.iconst 1, 1) := by decide +kernel
theorem dX6_pass_4 : decode cX6_pass 4 = .ok (.bipush 48, 2) := by decide +kernel
theorem dX6_pass_6 : decode cX6_pass 6 = .ok (.invokevirtual 86, 3) := by decide +kernel
theorem dX6_pass_9 : decode cX6_pass 9 = .ok (.ifCond .ne 7, 3) := by decide +kernel
theorem dX6_pass_12 : decode cX6_pass 12 = .ok (.iconst 1, 1) := by decide +kernel
theorem dX6_pass_13 : decode cX6_pass 13 = .ok (.goto 20, 3) := by decide +kernel
theorem dX6_pass_16 : decode cX6_pass 16 = .ok (.aload_n 0, 1) := by decide +kernel
theorem dX6_pass_17 : decode cX6_pass 17 = .ok (.getfield 100, 3) := by decide +kernel
theorem dX6_pass_20 : decode cX6_pass 20 = .ok (.iload_n 1, 1) := by decide +kernel
theorem dX6_pass_21 : decode cX6_pass 21 = .ok (.iadd, 1) := by decide +kernel
theorem dX6_pass_22 : decode cX6_pass 22 = .ok (.sipush 999, 3) := by decide +kernel
theorem dX6_pass_25 : decode cX6_pass 25 = .ok (.if_icmp .le 7, 3) := by decide +kernel
theorem dX6_pass_28 : decode cX6_pass 28 = .ok (.iconst 2, 1) := by decide +kernel
theorem dX6_pass_29 : decode cX6_pass 29 = .ok (.goto 4, 3) := by decide +kernel
theorem dX6_pass_32 : decode cX6_pass 32 = .ok (.iconst 0, 1) := by decide +kernel
theorem dX6_pass_33 : decode cX6_pass 33 = .ok (.invokevirtual 93, 3) := by decide +kernel
theorem dX6_pass_36 : decode cX6_pass 36 = .ok (.ifCond .eq 5, 3) := by decide +kernel
theorem dX6_pass_39 : decode cX6_pass 39 = .ok (.iconst (-1), 1) := by decide +kernel
theorem dX6_pass_40 : decode cX6_pass 40 = .ok (.ireturn, 1) := by decide +kernel
theorem dX6_pass_41 : decode cX6_pass 41 = .ok (.iconst 0, 1) := by decide +kernel
theorem dX6_pass_42 : decode cX6_pass 42 = .ok (.istore_n 2, 1) := by decide +kernel
theorem dX6_pass_43 : decode cX6_pass 43 = .ok (.iload_n 2, 1) := by decide +kernel
theorem dX6_pass_44 : decode cX6_pass 44 = .ok (.iload_n 1, 1) := by decide +kernel
theorem dX6_pass_45 : decode cX6_pass 45 = .ok (.if_icmp .ge 13, 3) := by decide +kernel
theorem dX6_pass_48 : decode cX6_pass 48 = .ok (.aload_n 0, 1) := by decide +kernel
theorem dX6_pass_49 : decode cX6_pass 49 = .ok (.invokevirtual 131, 3) := by decide +kernel
theorem dX6_pass_52 : decode cX6_pass 52 = .ok (.iinc 2 1, 3) := by decide +kernel
theorem dX6_pass_55 : decode cX6_pass 55 = .ok (.goto (-12), 3) := by decide +kernel
theorem dX6_pass_58 : decode cX6_pass 58 = .ok (.aload_n 0, 1) := by decide +kernel
theorem dX6_pass_59 : decode cX6_pass 59 = .ok (.getfield 100, 3) := by decide +kernel
theorem dX6_pass_62 : decode cX6_pass 62 = .ok (.ireturn, 1) := by decide +kernel
theorem dX6_storm_0 : decode cX6_storm 0 = .ok (.aload_n 0, 1) := by decide +kernel
theorem dX6_storm_1 : decode cX6_storm 1 = .ok (.aload_n 0, 1) := by decide +kernel
theorem dX6_storm_2 : decode cX6_storm 2 = .ok (.iload_n 1, 1) := by decide +kernel
theorem dX6_storm_3 : decode cX6_storm 3 = .ok (.iconst 0, 1) := by decide +kernel
theorem dX6_storm_4 : decode cX6_storm 4 = .ok (.bipush 47, 2) := by decide +kernel
theorem dX6_storm_6 : decode cX6_storm 6 = .ok (.invokevirtual 86, 3) := by decide +kernel
theorem dX6_storm_9 : decode cX6_storm 9 = .ok (.ifCond .ne 7, 3) := by decide +kernel
theorem dX6_storm_12 : decode cX6_storm 12 = .ok (.iconst 1, 1) := by decide +kernel
theorem dX6_storm_13 : decode cX6_storm 13 = .ok (.goto 23, 3) := by decide +kernel
theorem dX6_storm_16 : decode cX6_storm 16 = .ok (.aload_n 0, 1) := by decide +kernel
theorem dX6_storm_17 : decode cX6_storm 17 = .ok (.iload_n 2, 1) := by decide +kernel
theorem dX6_storm_18 : decode cX6_storm 18 = .ok (.aload_n 0, 1) := by decide +kernel
theorem dX6_storm_19 : decode cX6_storm 19 = .ok (.getfield 100, 3) := by decide +kernel
theorem dX6_storm_22 : decode cX6_storm 22 = .ok (.sipush 999, 3) := by decide +kernel
theorem dX6_storm_25 : decode cX6_storm 25 = .ok (.invokevirtual 86, 3) := by decide +kernel
theorem dX6_storm_28 : decode cX6_storm 28 = .ok (.ifCond .eq 7, 3) := by decide +kernel
theorem dX6_storm_31 : decode cX6_storm 31 = .ok (.iconst 0, 1) := by decide +kernel
theorem dX6_storm_32 : decode cX6_storm 32 = .ok (.goto 4, 3) := by decide +kernel
theorem dX6_storm_35 : decode cX6_storm 35 = .ok (.iconst 2, 1) := by decide +kernel
theorem dX6_storm_36 : decode cX6_storm 36 = .ok (.invokevirtual 93, 3) := by decide +kernel
theorem dX6_storm_39 : decode cX6_storm 39 = .ok (.ifCond .eq 5, 3) := by decide +kernel
theorem dX6_storm_42 : decode cX6_storm 42 = .ok (.iconst (-1), 1) := by decide +kernel
theorem dX6_storm_43 : decode cX6_storm 43 = .ok (.ireturn, 1) := by decide +kernel
theorem dX6_storm_44 : decode cX6_storm 44 = .ok (.aload_n 0, 1) := by decide +kernel
theorem dX6_storm_45 : decode cX6_storm 45 = .ok (.getfield 8, 3) := by decide +kernel
theorem dX6_storm_48 : decode cX6_storm 48 = .ok (.sipush 1000, 3) := by decide +kernel
theorem dX6_storm_51 : decode cX6_storm 51 = .ok (.iload_n 1, 1) := by decide +kernel
theorem dX6_storm_52 : decode cX6_storm 52 = .ok (.imul, 1) := by decide +kernel
theorem dX6_storm_53 : decode cX6_storm 53 = .ok (.iload_n 2, 1) := by decide +kernel
theorem dX6_storm_54 : decode cX6_storm 54 = .ok (.iadd, 1) := by decide +kernel
theorem dX6_storm_55 : decode cX6_storm 55 = .ok (.baload, 1) := by decide +kernel
theorem dX6_storm_56 : decode cX6_storm 56 = .ok (.ireturn, 1) := by decide +kernel
theorem dX6_ofBoat_0 : decode cX6_ofBoat 0 = .ok (.aload_n 0, 1) := by decide +kernel
theorem dX6_ofBoat_1 : decode cX6_ofBoat 1 = .ok (.aload_n 0, 1) := by decide +kernel
theorem dX6_ofBoat_2 : decode cX6_ofBoat 2 = .ok (.iload_n 1, 1) := by decide +kernel
theorem dX6_ofBoat_3 : decode cX6_ofBoat 3 = .ok (.invokevirtual 97, 3) := by decide +kernel
theorem dX6_ofBoat_6 : decode cX6_ofBoat 6 = .ok (.ifCond .ne 7, 3) := by decide +kernel
theorem dX6_ofBoat_9 : decode cX6_ofBoat 9 = .ok (.iconst 1, 1) := by decide +kernel
theorem dX6_ofBoat_10 : decode cX6_ofBoat 10 = .ok (.goto 18, 3) := by decide +kernel
theorem dX6_ofBoat_13 : decode cX6_ofBoat 13 = .ok (.aload_n 0, 1) := by decide +kernel
theorem dX6_ofBoat_14 : decode cX6_ofBoat 14 = .ok (.iload_n 2, 1) := by decide +kernel
theorem dX6_ofBoat_15 : decode cX6_ofBoat 15 = .ok (.iconst 0, 1) := by decide +kernel
theorem dX6_ofBoat_16 : decode cX6_ofBoat 16 = .ok (.iconst 3, 1) := by decide +kernel
theorem dX6_ofBoat_17 : decode cX6_ofBoat 17 = .ok (.invokevirtual 86, 3) := by decide +kernel
theorem dX6_ofBoat_20 : decode cX6_ofBoat 20 = .ok (.ifCond .eq 7, 3) := by decide +kernel
theorem dX6_ofBoat_23 : decode cX6_ofBoat 23 = .ok (.iconst 0, 1) := by decide +kernel
theorem dX6_ofBoat_24 : decode cX6_ofBoat 24 = .ok (.goto 4, 3) := by decide +kernel
theorem dX6_ofBoat_27 : decode cX6_ofBoat 27 = .ok (.iconst 2, 1) := by decide +kernel
theorem dX6_ofBoat_28 : decode cX6_ofBoat 28 = .ok (.invokevirtual 93, 3) := by decide +kernel
theorem dX6_ofBoat_31 : decode cX6_ofBoat 31 = .ok (.ifCond .eq 5, 3) := by decide +kernel
theorem dX6_ofBoat_34 : decode cX6_ofBoat 34 = .ok (.iconst (-1), 1) := by decide +kernel
theorem dX6_ofBoat_35 : decode cX6_ofBoat 35 = .ok (.ireturn, 1) := by decide +kernel
theorem dX6_ofBoat_36 : decode cX6_ofBoat 36 = .ok (.iload_n 2, 1) := by decide +kernel
theorem dX6_ofBoat_37 : decode cX6_ofBoat 37 = .ok (.ifCond .ne 12, 3) := by decide +kernel
theorem dX6_ofBoat_40 : decode cX6_ofBoat 40 = .ok (.aload_n 0, 1) := by decide +kernel
theorem dX6_ofBoat_41 : decode cX6_ofBoat 41 = .ok (.getfield 36, 3) := by decide +kernel
theorem dX6_ofBoat_44 : decode cX6_ofBoat 44 = .ok (.iload_n 1, 1) := by decide +kernel
theorem dX6_ofBoat_45 : decode cX6_ofBoat 45 = .ok (.iaload, 1) := by decide +kernel
theorem dX6_ofBoat_46 : decode cX6_ofBoat 46 = .ok (.goto 50, 3) := by decide +kernel
theorem dX6_ofBoat_49 : decode cX6_ofBoat 49 = .ok (.iload_n 2, 1) := by decide +kernel
theorem dX6_ofBoat_50 : decode cX6_ofBoat 50 = .ok (.iconst 1, 1) := by decide +kernel
theorem dX6_ofBoat_51 : decode cX6_ofBoat 51 = .ok (.if_icmp .ne 12, 3) := by decide +kernel
theorem dX6_ofBoat_54 : decode cX6_ofBoat 54 = .ok (.aload_n 0, 1) := by decide +kernel
theorem dX6_ofBoat_55 : decode cX6_ofBoat 55 = .ok (.getfield 39, 3) := by decide +kernel
theorem dX6_ofBoat_58 : decode cX6_ofBoat 58 = .ok (.iload_n 1, 1) := by decide +kernel
theorem dX6_ofBoat_59 : decode cX6_ofBoat 59 = .ok (.iaload, 1) := by decide +kernel
theorem dX6_ofBoat_60 : decode cX6_ofBoat 60 = .ok (.goto 36, 3) := by decide +kernel
theorem dX6_ofBoat_63 : decode cX6_ofBoat 63 = .ok (.iload_n 2, 1) := by decide +kernel
theorem dX6_ofBoat_64 : decode cX6_ofBoat 64 = .ok (.iconst 2, 1) := by decide +kernel
theorem dX6_ofBoat_65 : decode cX6_ofBoat 65 = .ok (.if_icmp .ne 25, 3) := by decide +kernel
theorem dX6_ofBoat_68 : decode cX6_ofBoat 68 = .ok (.aload_n 0, 1) := by decide +kernel
theorem dX6_ofBoat_69 : decode cX6_ofBoat 69 = .ok (.getfield 36, 3) := by decide +kernel
theorem dX6_ofBoat_72 : decode cX6_ofBoat 72 = .ok (.iload_n 1, 1) := by decide +kernel
theorem dX6_ofBoat_73 : decode cX6_ofBoat 73 = .ok (.iaload, 1) := by decide +kernel
theorem dX6_ofBoat_74 : decode cX6_ofBoat 74 = .ok (.ifCond .ne 7, 3) := by decide +kernel
theorem dX6_ofBoat_77 : decode cX6_ofBoat 77 = .ok (.iconst (-1), 1) := by decide +kernel
theorem dX6_ofBoat_78 : decode cX6_ofBoat 78 = .ok (.goto 18, 3) := by decide +kernel
theorem dX6_ofBoat_81 : decode cX6_ofBoat 81 = .ok (.aload_n 0, 1) := by decide +kernel
theorem dX6_ofBoat_82 : decode cX6_ofBoat 82 = .ok (.getfield 45, 3) := by decide +kernel
theorem dX6_ofBoat_85 : decode cX6_ofBoat 85 = .ok (.iload_n 1, 1) := by decide +kernel
theorem dX6_ofBoat_86 : decode cX6_ofBoat 86 = .ok (.iaload, 1) := by decide +kernel
theorem dX6_ofBoat_87 : decode cX6_ofBoat 87 = .ok (.goto 9, 3) := by decide +kernel
theorem dX6_ofBoat_90 : decode cX6_ofBoat 90 = .ok (.aload_n 0, 1) := by decide +kernel
theorem dX6_ofBoat_91 : decode cX6_ofBoat 91 = .ok (.getfield 30, 3) := by decide +kernel
theorem dX6_ofBoat_94 : decode cX6_ofBoat 94 = .ok (.iload_n 1, 1) := by decide +kernel
theorem dX6_ofBoat_95 : decode cX6_ofBoat 95 = .ok (.iaload, 1) := by decide +kernel
end
section
theorem dX6_ofBoat_96 : decode cX6_ofBoat 96 = .ok (.ireturn, 1) := by decide +kernel
theorem dX6_ofCall_0 : decode cX6_ofCall 0 = .ok (.aload_n 0, 1) := by decide +kernel
theorem dX6_ofCall_1 : decode cX6_ofCall 1 = .ok (.aload_n 0, 1) := by decide +kernel
theorem dX6_ofCall_2 : decode cX6_ofCall 2 = .ok (.iload_n 1, 1) := by decide +kernel
theorem dX6_ofCall_3 : decode cX6_ofCall 3 = .ok (.iconst 0, 1) := by decide +kernel
theorem dX6_ofCall_4 : decode cX6_ofCall 4 = .ok (.aload_n 0, 1) := by decide +kernel
theorem dX6_ofCall_5 : decode cX6_ofCall 5 = .ok (.getfield 103, 3) := by decide +kernel
theorem dX6_ofCall_8 : decode cX6_ofCall 8 = .ok (.iconst 1, 1) := by decide +kernel
theorem dX6_ofCall_9 : decode cX6_ofCall 9 = .ok (.isub, 1) := by decide +kernel
theorem dX6_ofCall_10 : decode cX6_ofCall 10 = .ok (.invokevirtual 86, 3) := by decide +kernel
theorem dX6_ofCall_13 : decode cX6_ofCall 13 = .ok (.ifCond .ne 7, 3) := by decide +kernel
theorem dX6_ofCall_16 : decode cX6_ofCall 16 = .ok (.iconst 1, 1) := by decide +kernel
theorem dX6_ofCall_17 : decode cX6_ofCall 17 = .ok (.goto 18, 3) := by decide +kernel
theorem dX6_ofCall_20 : decode cX6_ofCall 20 = .ok (.aload_n 0, 1) := by decide +kernel
theorem dX6_ofCall_21 : decode cX6_ofCall 21 = .ok (.iload_n 2, 1) := by decide +kernel
theorem dX6_ofCall_22 : decode cX6_ofCall 22 = .ok (.iconst 0, 1) := by decide +kernel
theorem dX6_ofCall_23 : decode cX6_ofCall 23 = .ok (.iconst 3, 1) := by decide +kernel
theorem dX6_ofCall_24 : decode cX6_ofCall 24 = .ok (.invokevirtual 86, 3) := by decide +kernel
theorem dX6_ofCall_27 : decode cX6_ofCall 27 = .ok (.ifCond .eq 7, 3) := by decide +kernel
theorem dX6_ofCall_30 : decode cX6_ofCall 30 = .ok (.iconst 0, 1) := by decide +kernel
theorem dX6_ofCall_31 : decode cX6_ofCall 31 = .ok (.goto 4, 3) := by decide +kernel
theorem dX6_ofCall_34 : decode cX6_ofCall 34 = .ok (.iconst 2, 1) := by decide +kernel
theorem dX6_ofCall_35 : decode cX6_ofCall 35 = .ok (.invokevirtual 93, 3) := by decide +kernel
theorem dX6_ofCall_38 : decode cX6_ofCall 38 = .ok (.ifCond .eq 5, 3) := by decide +kernel
theorem dX6_ofCall_41 : decode cX6_ofCall 41 = .ok (.iconst (-1), 1) := by decide +kernel
theorem dX6_ofCall_42 : decode cX6_ofCall 42 = .ok (.ireturn, 1) := by decide +kernel
theorem dX6_ofCall_43 : decode cX6_ofCall 43 = .ok (.iload_n 2, 1) := by decide +kernel
theorem dX6_ofCall_44 : decode cX6_ofCall 44 = .ok (.ifCond .ne 12, 3) := by decide +kernel
theorem dX6_ofCall_47 : decode cX6_ofCall 47 = .ok (.aload_n 0, 1) := by decide +kernel
theorem dX6_ofCall_48 : decode cX6_ofCall 48 = .ok (.getfield 60, 3) := by decide +kernel
theorem dX6_ofCall_51 : decode cX6_ofCall 51 = .ok (.iload_n 1, 1) := by decide +kernel
theorem dX6_ofCall_52 : decode cX6_ofCall 52 = .ok (.iaload, 1) := by decide +kernel
theorem dX6_ofCall_53 : decode cX6_ofCall 53 = .ok (.goto 37, 3) := by decide +kernel
theorem dX6_ofCall_56 : decode cX6_ofCall 56 = .ok (.iload_n 2, 1) := by decide +kernel
theorem dX6_ofCall_57 : decode cX6_ofCall 57 = .ok (.iconst 1, 1) := by decide +kernel
theorem dX6_ofCall_58 : decode cX6_ofCall 58 = .ok (.if_icmp .ne 12, 3) := by decide +kernel
theorem dX6_ofCall_61 : decode cX6_ofCall 61 = .ok (.aload_n 0, 1) := by decide +kernel
theorem dX6_ofCall_62 : decode cX6_ofCall 62 = .ok (.getfield 63, 3) := by decide +kernel
theorem dX6_ofCall_65 : decode cX6_ofCall 65 = .ok (.iload_n 1, 1) := by decide +kernel
theorem dX6_ofCall_66 : decode cX6_ofCall 66 = .ok (.iaload, 1) := by decide +kernel
theorem dX6_ofCall_67 : decode cX6_ofCall 67 = .ok (.goto 23, 3) := by decide +kernel
theorem dX6_ofCall_70 : decode cX6_ofCall 70 = .ok (.iload_n 2, 1) := by decide +kernel
theorem dX6_ofCall_71 : decode cX6_ofCall 71 = .ok (.iconst 2, 1) := by decide +kernel
theorem dX6_ofCall_72 : decode cX6_ofCall 72 = .ok (.if_icmp .ne 12, 3) := by decide +kernel
theorem dX6_ofCall_75 : decode cX6_ofCall 75 = .ok (.aload_n 0, 1) := by decide +kernel
theorem dX6_ofCall_76 : decode cX6_ofCall 76 = .ok (.getfield 66, 3) := by decide +kernel
theorem dX6_ofCall_79 : decode cX6_ofCall 79 = .ok (.iload_n 1, 1) := by decide +kernel
theorem dX6_ofCall_80 : decode cX6_ofCall 80 = .ok (.iaload, 1) := by decide +kernel
theorem dX6_ofCall_81 : decode cX6_ofCall 81 = .ok (.goto 9, 3) := by decide +kernel
theorem dX6_ofCall_84 : decode cX6_ofCall 84 = .ok (.aload_n 0, 1) := by decide +kernel
theorem dX6_ofCall_85 : decode cX6_ofCall 85 = .ok (.getfield 69, 3) := by decide +kernel
theorem dX6_ofCall_88 : decode cX6_ofCall 88 = .ok (.iload_n 1, 1) := by decide +kernel
theorem dX6_ofCall_89 : decode cX6_ofCall 89 = .ok (.iaload, 1) := by decide +kernel
theorem dX6_ofCall_90 : decode cX6_ofCall 90 = .ok (.ireturn, 1) := by decide +kernel
theorem dX6_rewards_0 : decode cX6_rewards 0 = .ok (.aload_n 0, 1) := by decide +kernel
theorem dX6_rewards_1 : decode cX6_rewards 1 = .ok (.aload_n 0, 1) := by decide +kernel
theorem dX6_rewards_2 : decode cX6_rewards 2 = .ok (.iload_n 1, 1) := by decide +kernel
theorem dX6_rewards_3 : decode cX6_rewards 3 = .ok (.iconst 0, 1) := by decide +kernel
theorem dX6_rewards_4 : decode cX6_rewards 4 = .ok (.iconst 2, 1) := by decide +kernel
theorem dX6_rewards_5 : decode cX6_rewards 5 = .ok (.invokevirtual 86, 3) := by decide +kernel
theorem dX6_rewards_8 : decode cX6_rewards 8 = .ok (.ifCond .eq 7, 3) := by decide +kernel
theorem dX6_rewards_11 : decode cX6_rewards 11 = .ok (.iconst 0, 1) := by decide +kernel
theorem dX6_rewards_12 : decode cX6_rewards 12 = .ok (.goto 4, 3) := by decide +kernel
theorem dX6_rewards_15 : decode cX6_rewards 15 = .ok (.iconst 1, 1) := by decide +kernel
theorem dX6_rewards_16 : decode cX6_rewards 16 = .ok (.invokevirtual 93, 3) := by decide +kernel
theorem dX6_rewards_19 : decode cX6_rewards 19 = .ok (.ifCond .eq 7, 3) := by decide +kernel
theorem dX6_rewards_22 : decode cX6_rewards 22 = .ok (.iconst (-1), 1) := by decide +kernel
theorem dX6_rewards_23 : decode cX6_rewards 23 = .ok (.goto 9, 3) := by decide +kernel
theorem dX6_rewards_26 : decode cX6_rewards 26 = .ok (.aload_n 0, 1) := by decide +kernel
theorem dX6_rewards_27 : decode cX6_rewards 27 = .ok (.getfield 72, 3) := by decide +kernel
theorem dX6_rewards_30 : decode cX6_rewards 30 = .ok (.iload_n 1, 1) := by decide +kernel
theorem dX6_rewards_31 : decode cX6_rewards 31 = .ok (.iaload, 1) := by decide +kernel
theorem dX6_rewards_32 : decode cX6_rewards 32 = .ok (.ireturn, 1) := by decide +kernel
theorem dX6_rewardsAnew_0 : decode cX6_rewardsAnew 0 = .ok (.aload_n 0, 1) := by decide +kernel
theorem dX6_rewardsAnew_1 : decode cX6_rewardsAnew 1 = .ok (.aload_n 0, 1) := by decide +kernel
theorem dX6_rewardsAnew_2 : decode cX6_rewardsAnew 2 = .ok (.iload_n 1, 1) := by decide +kernel
theorem dX6_rewardsAnew_3 : decode cX6_rewardsAnew 3 = .ok (.iconst 0, 1) := by decide +kernel
theorem dX6_rewardsAnew_4 : decode cX6_rewardsAnew 4 = .ok (.iconst 2, 1) := by decide +kernel
theorem dX6_rewardsAnew_5 : decode cX6_rewardsAnew 5 = .ok (.invokevirtual 86, 3) := by decide +kernel
theorem dX6_rewardsAnew_8 : decode cX6_rewardsAnew 8 = .ok (.ifCond .eq 7, 3) := by decide +kernel
theorem dX6_rewardsAnew_11 : decode cX6_rewardsAnew 11 = .ok (.iconst 0, 1) := by decide +kernel
theorem dX6_rewardsAnew_12 : decode cX6_rewardsAnew 12 = .ok (.goto 4, 3) := by decide +kernel
theorem dX6_rewardsAnew_15 : decode cX6_rewardsAnew 15 = .ok (.iconst 1, 1) := by decide +kernel
theorem dX6_rewardsAnew_16 : decode cX6_rewardsAnew 16 = .ok (.invokevirtual 93, 3) := by decide +kernel
theorem dX6_rewardsAnew_19 : decode cX6_rewardsAnew 19 = .ok (.ifCond .eq 7, 3) := by decide +kernel
theorem dX6_rewardsAnew_22 : decode cX6_rewardsAnew 22 = .ok (.iconst (-1), 1) := by decide +kernel
theorem dX6_rewardsAnew_23 : decode cX6_rewardsAnew 23 = .ok (.goto 9, 3) := by decide +kernel
theorem dX6_rewardsAnew_26 : decode cX6_rewardsAnew 26 = .ok (.aload_n 0, 1) := by decide +kernel
theorem dX6_rewardsAnew_27 : decode cX6_rewardsAnew 27 = .ok (.getfield 72, 3) := by decide +kernel
theorem dX6_rewardsAnew_30 : decode cX6_rewardsAnew 30 = .ok (.iload_n 1, 1) := by decide +kernel
theorem dX6_rewardsAnew_31 : decode cX6_rewardsAnew 31 = .ok (.iaload, 1) := by decide +kernel
theorem dX6_rewardsAnew_32 : decode cX6_rewardsAnew 32 = .ok (.ireturn, 1) := by decide +kernel
theorem dX6_premium_0 : decode cX6_premium 0 = .ok (.aload_n 0, 1) := by decide +kernel
theorem dX6_premium_1 : decode cX6_premium 1 = .ok (.aload_n 0, 1) := by decide +kernel
theorem dX6_premium_2 : decode cX6_premium 2 = .ok (.iload_n 1, 1) := by decide +kernel
theorem dX6_premium_3 : decode cX6_premium 3 = .ok (.iconst 0, 1) := by decide +kernel
theorem dX6_premium_4 : decode cX6_premium 4 = .ok (.bipush 47, 2) := by decide +kernel
theorem dX6_premium_6 : decode cX6_premium 6 = .ok (.invokevirtual 86, 3) := by decide +kernel
theorem dX6_premium_9 : decode cX6_premium 9 = .ok (.ifCond .eq 7, 3) := by decide +kernel
theorem dX6_premium_12 : decode cX6_premium 12 = .ok (.iconst 0, 1) := by decide +kernel
theorem dX6_premium_13 : decode cX6_premium 13 = .ok (.goto 4, 3) := by decide +kernel
theorem dX6_premium_16 : decode cX6_premium 16 = .ok (.iconst 1, 1) := by decide +kernel
theorem dX6_premium_17 : decode cX6_premium 17 = .ok (.invokevirtual 93, 3) := by decide +kernel
theorem dX6_premium_20 : decode cX6_premium 20 = .ok (.ifCond .eq 6, 3) := by decide +kernel
theorem dX6_premium_23 : decode cX6_premium 23 = .ok (.ldc 134, 2) := by decide +kernel
theorem dX6_premium_25 : decode cX6_premium 25 = .ok (.freturn, 1) := by decide +kernel
theorem dX6_premium_26 : decode cX6_premium 26 = .ok (.iconst 0, 1) := by decide +kernel
theorem dX6_premium_27 : decode cX6_premium 27 = .ok (.istore_n 2, 1) := by decide +kernel
theorem dX6_premium_28 : decode cX6_premium 28 = .ok (.iconst 0, 1) := by decide +kernel
theorem dX6_premium_29 : decode cX6_premium 29 = .ok (.istore_n 3, 1) := by decide +kernel
theorem dX6_premium_30 : decode cX6_premium 30 = .ok (.aload_n 0, 1) := by decide +kernel
theorem dX6_premium_31 : decode cX6_premium 31 = .ok (.getfield 100, 3) := by decide +kernel
theorem dX6_premium_34 : decode cX6_premium 34 = .ok (.istore 4, 2) := by decide +kernel
theorem dX6_premium_36 : decode cX6_premium 36 = .ok (.iload 4, 2) := by decide +kernel
theorem dX6_premium_38 : decode cX6_premium 38 = .ok (.aload_n 0, 1) := by decide +kernel
theorem dX6_premium_39 : decode cX6_premium 39 = .ok (.getfield 100, 3) := by decide +kernel
theorem dX6_premium_42 : decode cX6_premium 42 = .ok (.bipush 24, 2) := by decide +kernel
theorem dX6_premium_44 : decode cX6_premium 44 = .ok (.iadd, 1) := by decide +kernel
theorem dX6_premium_45 : decode cX6_premium 45 = .ok (.if_icmp .ge 52, 3) := by decide +kernel
theorem dX6_premium_48 : decode cX6_premium 48 = .ok (.iload 4, 2) := by decide +kernel
theorem dX6_premium_50 : decode cX6_premium 50 = .ok (.sipush 1000, 3) := by decide +kernel
theorem dX6_premium_53 : decode cX6_premium 53 = .ok (.if_icmp .ge 44, 3) := by decide +kernel
theorem dX6_premium_56 : decode cX6_premium 56 = .ok (.aload_n 0, 1) := by decide +kernel
theorem dX6_premium_57 : decode cX6_premium 57 = .ok (.getfield 8, 3) := by decide +kernel
theorem dX6_premium_60 : decode cX6_premium 60 = .ok (.sipush 1000, 3) := by decide +kernel
theorem dX6_premium_63 : decode cX6_premium 63 = .ok (.iload_n 1, 1) := by decide +kernel
theorem dX6_premium_64 : decode cX6_premium 64 = .ok (.imul, 1) := by decide +kernel
theorem dX6_premium_65 : decode cX6_premium 65 = .ok (.iload 4, 2) := by decide +kernel
theorem dX6_premium_67 : decode cX6_premium 67 = .ok (.iadd, 1) := by decide +kernel
theorem dX6_premium_68 : decode cX6_premium 68 = .ok (.baload, 1) := by decide +kernel
theorem dX6_premium_69 : decode cX6_premium 69 = .ok (.iload_n 2, 1) := by decide +kernel
theorem dX6_premium_70 : decode cX6_premium 70 = .ok (.if_icmp .le 19, 3) := by decide +kernel
theorem dX6_premium_73 : decode cX6_premium 73 = .ok (.aload_n 0, 1) := by decide +kernel
theorem dX6_premium_74 : decode cX6_premium 74 = .ok (.getfield 8, 3) := by decide +kernel
theorem dX6_premium_77 : decode cX6_premium 77 = .ok (.sipush 1000, 3) := by decide +kernel
theorem dX6_premium_80 : decode cX6_premium 80 = .ok (.iload_n 1, 1) := by decide +kernel
theorem dX6_premium_81 : decode cX6_premium 81 = .ok (.imul, 1) := by decide +kernel
theorem dX6_premium_82 : decode cX6_premium 82 = .ok (.iload 4, 2) := by decide +kernel
theorem dX6_premium_84 : decode cX6_premium 84 = .ok (.iadd, 1) := by decide +kernel
theorem dX6_premium_85 : decode cX6_premium 85 = .ok (.baload, 1) := by decide +kernel
theorem dX6_premium_86 : decode cX6_premium 86 = .ok (.goto 4, 3) := by decide +kernel
theorem dX6_premium_89 : decode cX6_premium 89 = .ok (.iload_n 2, 1) := by decide +kernel
theorem dX6_premium_90 : decode cX6_premium 90 = .ok (.istore_n 2, 1) := by decide +kernel
theorem dX6_premium_91 : decode cX6_premium 91 = .ok (.iinc 4 1, 3) := by decide +kernel
theorem dX6_premium_94 : decode cX6_premium 94 = .ok (.goto (-58), 3) := by decide +kernel
theorem dX6_premium_97 : decode cX6_premium 97 = .ok (.iconst 0, 1) := by decide +kernel
theorem dX6_premium_98 : decode cX6_premium 98 = .ok (.istore 4, 2) := by decide +kernel
theorem dX6_premium_100 : decode cX6_premium 100 = .ok (.iload 4, 2) := by decide +kernel
theorem dX6_premium_102 : decode cX6_premium 102 = .ok (.aload_n 0, 1) := by decide +kernel
theorem dX6_premium_103 : decode cX6_premium 103 = .ok (.getfield 103, 3) := by decide +kernel
theorem dX6_premium_106 : decode cX6_premium 106 = .ok (.if_icmp .ge 28, 3) := by decide +kernel
theorem dX6_premium_109 : decode cX6_premium 109 = .ok (.iload_n 3, 1) := by decide +kernel
theorem dX6_premium_110 : decode cX6_premium 110 = .ok (.aload_n 0, 1) := by decide +kernel
theorem dX6_premium_111 : decode cX6_premium 111 = .ok (.getfield 51, 3) := by decide +kernel
theorem dX6_premium_114 : decode cX6_premium 114 = .ok (.iload 4, 2) := by decide +kernel
theorem dX6_premium_116 : decode cX6_premium 116 = .ok (.iaload, 1) := by decide +kernel
theorem dX6_premium_117 : decode cX6_premium 117 = .ok (.iload_n 1, 1) := by decide +kernel
theorem dX6_premium_118 : decode cX6_premium 118 = .ok (.if_icmp .ne 7, 3) := by decide +kernel
theorem dX6_premium_121 : decode cX6_premium 121 = .ok (.iconst 1, 1) := by decide +kernel
theorem dX6_premium_122 : decode cX6_premium 122 = .ok (.goto 4, 3) := by decide +kernel
theorem dX6_premium_125 : decode cX6_premium 125 = .ok (.iconst 0, 1) := by decide +kernel
theorem dX6_premium_126 : decode cX6_premium 126 = .ok (.iadd, 1) := by decide +kernel
theorem dX6_premium_127 : decode cX6_premium 127 = .ok (.istore_n 3, 1) := by decide +kernel
theorem dX6_premium_128 : decode cX6_premium 128 = .ok (.iinc 4 1, 3) := by decide +kernel
theorem dX6_premium_131 : decode cX6_premium 131 = .ok (.goto (-31), 3) := by decide +kernel
theorem dX6_premium_134 : decode cX6_premium 134 = .ok (.ldc 135, 2) := by decide +kernel
theorem dX6_premium_136 : decode cX6_premium 136 = .ok (.iload_n 2, 1) := by decide +kernel
theorem dX6_premium_137 : decode cX6_premium 137 = .ok (.i2f, 1) := by decide +kernel
theorem dX6_premium_138 : decode cX6_premium 138 = .ok (.fmul, 1) := by decide +kernel
theorem dX6_premium_139 : decode cX6_premium 139 = .ok (.ldc 136, 2) := by decide +kernel
theorem dX6_premium_141 : decode cX6_premium 141 = .ok (.iload_n 3, 1) := by decide +kernel
theorem dX6_premium_142 : decode cX6_premium 142 = .ok (.i2f, 1) := by decide +kernel
theorem dX6_premium_143 : decode cX6_premium 143 = .ok (.fmul, 1) := by decide +kernel
theorem dX6_premium_144 : decode cX6_premium 144 = .ok (.fadd, 1) := by decide +kernel
theorem dX6_premium_145 : decode cX6_premium 145 = .ok (.freturn, 1) := by decide +kernel
theorem dJ9_abs_0f7a4_0 : decode cJ9_abs_0f7a4 0 = .ok (.iload_n 0, 1) := by decide +kernel
theorem dJ9_abs_0f7a4_1 : decode cJ9_abs_0f7a4 1 = .ok (.ifCond .ge 8, 3) := by decide +kernel
theorem dJ9_abs_0f7a4_4 : decode cJ9_abs_0f7a4 4 = .ok (.iload_n 0, 1) := by decide +kernel
theorem dJ9_abs_0f7a4_5 : decode cJ9_abs_0f7a4 5 = .ok (.ineg, 1) := by decide +kernel
theorem dJ9_abs_0f7a4_6 : decode cJ9_abs_0f7a4 6 = .ok (.goto 4, 3) := by decide +kernel
theorem dJ9_abs_0f7a4_9 : decode cJ9_abs_0f7a4 9 = .ok (.iload_n 0, 1) := by decide +kernel
theorem dJ9_abs_0f7a4_10 : decode cJ9_abs_0f7a4 10 = .ok (.ireturn, 1) := by decide +kernel
theorem dJ9_max_7cf53_0 : decode cJ9_max_7cf53 0 = .ok (.iload_n 0, 1) := by decide +kernel
theorem dJ9_max_7cf53_1 : decode cJ9_max_7cf53 1 = .ok (.iload_n 1, 1) := by decide +kernel
theorem dJ9_max_7cf53_2 : decode cJ9_max_7cf53 2 = .ok (.if_icmp .lt 7, 3) := by decide +kernel
theorem dJ9_max_7cf53_5 : decode cJ9_max_7cf53 5 = .ok (.iload_n 0, 1) := by decide +kernel
theorem dJ9_max_7cf53_6 : decode cJ9_max_7cf53 6 = .ok (.goto 4, 3) := by decide +kernel
theorem dJ9_max_7cf53_9 : decode cJ9_max_7cf53 9 = .ok (.iload_n 1, 1) := by decide +kernel
theorem dJ9_max_7cf53_10 : decode cJ9_max_7cf53 10 = .ok (.ireturn, 1) := by decide +kernel
theorem dJ9_min_7cf53_0 : decode cJ9_min_7cf53 0 = .ok (.iload_n 0, 1) := by decide +kernel
theorem dJ9_min_7cf53_1 : decode cJ9_min_7cf53 1 = .ok (.iload_n 1, 1) := by decide +kernel
theorem dJ9_min_7cf53_2 : decode cJ9_min_7cf53 2 = .ok (.if_icmp .gt 7, 3) := by decide +kernel
theorem dJ9_min_7cf53_5 : decode cJ9_min_7cf53 5 = .ok (.iload_n 0, 1) := by decide +kernel
theorem dJ9_min_7cf53_6 : decode cJ9_min_7cf53 6 = .ok (.goto 4, 3) := by decide +kernel
theorem dJ9_min_7cf53_9 : decode cJ9_min_7cf53 9 = .ok (.iload_n 1, 1) := by decide +kernel
theorem dJ9_min_7cf53_10 : decode cJ9_min_7cf53 10 = .ok (.ireturn, 1) := by decide +kernel
theorem dJxa1e45_init_da8c8_0 : decode cJxa1e45_init_da8c8 0 = .ok (.aload_n 0, 1) := by decide +kernel
theorem dJxa1e45_init_da8c8_1 : decode cJxa1e45_init_da8c8 1 = .ok (.invokespecial 1, 3) := by decide +kernel
theorem dJxa1e45_init_da8c8_4 : decode cJxa1e45_init_da8c8 4 = .ok (.return_, 1) := by decide +kernel
theorem dJxc12de_init_da8c8_0 : decode cJxc12de_init_da8c8 0 = .ok (.aload_n 0, 1) := by decide +kernel
theorem dJxc12de_init_da8c8_1 : decode cJxc12de_init_da8c8 1 = .ok (.invokespecial 1, 3) := by decide +kernel
theorem dJxc12de_init_da8c8_4 : decode cJxc12de_init_da8c8 4 = .ok (.aload_n 0, 1) := by decide +kernel
theorem dJxc12de_init_da8c8_5 : decode cJxc12de_init_da8c8 5 = .ok (.iconst 0, 1) := by decide +kernel
theorem dJxc12de_init_da8c8_6 : decode cJxc12de_init_da8c8 6 = .ok (.putfield 7, 3) := by decide +kernel
theorem dJxc12de_init_da8c8_9 : decode cJxc12de_init_da8c8 9 = .ok (.return_, 1) := by decide +kernel
theorem dJx4a65c_init_da8c8_0 : decode cJx4a65c_init_da8c8 0 = .ok (.aload_n 0, 1) := by decide +kernel
theorem dJx4a65c_init_da8c8_1 : decode cJx4a65c_init_da8c8 1 = .ok (.invokespecial 1, 3) := by decide +kernel
theorem dJx4a65c_init_da8c8_4 : decode cJx4a65c_init_da8c8 4 = .ok (.aload_n 0, 1) := by decide +kernel
theorem dJx4a65c_init_da8c8_5 : decode cJx4a65c_init_da8c8 5 = .ok (.getstatic 39, 3) := by decide +kernel
theorem dJx4a65c_init_da8c8_8 : decode cJx4a65c_init_da8c8 8 = .ok (.putfield 9, 3) := by decide +kernel
theorem dJx4a65c_init_da8c8_11 : decode cJx4a65c_init_da8c8 11 = .ok (.return_, 1) := by decide +kernel
theorem dJx4a65c_grow_92f84_0 : decode cJx4a65c_grow_92f84 0 = .ok (.aload_n 0, 1) := by decide +kernel
theorem dJx4a65c_grow_92f84_1 : decode cJx4a65c_grow_92f84 1 = .ok (.getfield 9, 3) := by decide +kernel
theorem dJx4a65c_grow_92f84_4 : decode cJx4a65c_grow_92f84 4 = .ok (.arraylength, 1) := by decide +kernel
theorem dJx4a65c_grow_92f84_5 : decode cJx4a65c_grow_92f84 5 = .ok (.istore_n 2, 1) := by decide +kernel
theorem dJx4a65c_grow_92f84_6 : decode cJx4a65c_grow_92f84 6 = .ok (.iload_n 2, 1) := by decide +kernel
theorem dJx4a65c_grow_92f84_7 : decode cJx4a65c_grow_92f84 7 = .ok (.ifCond .gt 13, 3) := by decide +kernel
theorem dJx4a65c_grow_92f84_10 : decode cJx4a65c_grow_92f84 10 = .ok (.aload_n 0, 1) := by decide +kernel
theorem dJx4a65c_grow_92f84_11 : decode cJx4a65c_grow_92f84 11 = .ok (.getfield 9, 3) := by decide +kernel
theorem dJx4a65c_grow_92f84_14 : decode cJx4a65c_grow_92f84 14 = .ok (.getstatic 39, 3) := by decide +kernel
theorem dJx4a65c_grow_92f84_17 : decode cJx4a65c_grow_92f84 17 = .ok (.if_acmp .eq 28, 3) := by decide +kernel
theorem dJx4a65c_grow_92f84_20 : decode cJx4a65c_grow_92f84 20 = .ok (.iload_n 2, 1) := by decide +kernel
theorem dJx4a65c_grow_92f84_21 : decode cJx4a65c_grow_92f84 21 = .ok (.iload_n 1, 1) := by decide +kernel
theorem dJx4a65c_grow_92f84_22 : decode cJx4a65c_grow_92f84 22 = .ok (.iload_n 2, 1) := by decide +kernel
theorem dJx4a65c_grow_92f84_23 : decode cJx4a65c_grow_92f84 23 = .ok (.isub, 1) := by decide +kernel
theorem dJx4a65c_grow_92f84_24 : decode cJx4a65c_grow_92f84 24 = .ok (.iload_n 2, 1) := by decide +kernel
theorem dJx4a65c_grow_92f84_25 : decode cJx4a65c_grow_92f84 25 = .ok (.iconst 1, 1) := by decide +kernel
theorem dJx4a65c_grow_92f84_26 : decode cJx4a65c_grow_92f84 26 = .ok (.ishr, 1) := by decide +kernel
theorem dJx4a65c_grow_92f84_27 : decode cJx4a65c_grow_92f84 27 = .ok (.invokestatic 73, 3) := by decide +kernel
theorem dJx4a65c_grow_92f84_30 : decode cJx4a65c_grow_92f84 30 = .ok (.istore_n 3, 1) := by decide +kernel
theorem dJx4a65c_grow_92f84_31 : decode cJx4a65c_grow_92f84 31 = .ok (.aload_n 0, 1) := by decide +kernel
theorem dJx4a65c_grow_92f84_32 : decode cJx4a65c_grow_92f84 32 = .ok (.aload_n 0, 1) := by decide +kernel
theorem dJx4a65c_grow_92f84_33 : decode cJx4a65c_grow_92f84 33 = .ok (.getfield 9, 3) := by decide +kernel
theorem dJx4a65c_grow_92f84_36 : decode cJx4a65c_grow_92f84 36 = .ok (.iload_n 3, 1) := by decide +kernel
theorem dJx4a65c_grow_92f84_37 : decode cJx4a65c_grow_92f84 37 = .ok (.invokestatic 66, 3) := by decide +kernel
theorem dJx4a65c_grow_92f84_40 : decode cJx4a65c_grow_92f84 40 = .ok (.dup_x1, 1) := by decide +kernel
theorem dJx4a65c_grow_92f84_41 : decode cJx4a65c_grow_92f84 41 = .ok (.putfield 9, 3) := by decide +kernel
theorem dJx4a65c_grow_92f84_44 : decode cJx4a65c_grow_92f84 44 = .ok (.areturn, 1) := by decide +kernel
theorem dJx4a65c_grow_92f84_45 : decode cJx4a65c_grow_92f84 45 = .ok (.aload_n 0, 1) := by decide +kernel
theorem dJx4a65c_grow_92f84_46 : decode cJx4a65c_grow_92f84 46 = .ok (.bipush 10, 2) := by decide +kernel
theorem dJx4a65c_grow_92f84_48 : decode cJx4a65c_grow_92f84 48 = .ok (.iload_n 1, 1) := by decide +kernel
theorem dJx4a65c_grow_92f84_49 : decode cJx4a65c_grow_92f84 49 = .ok (.invokestatic 79, 3) := by decide +kernel
theorem dJx4a65c_grow_92f84_52 : decode cJx4a65c_grow_92f84 52 = .ok (.anewarray 7, 3) := by decide +kernel
theorem dJx4a65c_grow_92f84_55 : decode cJx4a65c_grow_92f84 55 = .ok (.dup_x1, 1) := by decide +kernel
theorem dJx4a65c_grow_92f84_56 : decode cJx4a65c_grow_92f84 56 = .ok (.putfield 9, 3) := by decide +kernel
theorem dJx4a65c_grow_92f84_59 : decode cJx4a65c_grow_92f84 59 = .ok (.areturn, 1) := by decide +kernel
theorem dJx4a65c_grow_d5877_0 : decode cJx4a65c_grow_d5877 0 = .ok (.aload_n 0, 1) := by decide +kernel
theorem dJx4a65c_grow_d5877_1 : decode cJx4a65c_grow_d5877 1 = .ok (.aload_n 0, 1) := by decide +kernel
theorem dJx4a65c_grow_d5877_2 : decode cJx4a65c_grow_d5877 2 = .ok (.getfield 48, 3) := by decide +kernel
theorem dJx4a65c_grow_d5877_5 : decode cJx4a65c_grow_d5877 5 = .ok (.iconst 1, 1) := by decide +kernel
theorem dJx4a65c_grow_d5877_6 : decode cJx4a65c_grow_d5877 6 = .ok (.iadd, 1) := by decide +kernel
theorem dJx4a65c_grow_d5877_7 : decode cJx4a65c_grow_d5877 7 = .ok (.invokevirtual 69, 3) := by decide +kernel
theorem dJx4a65c_grow_d5877_10 : decode cJx4a65c_grow_d5877 10 = .ok (.areturn, 1) := by decide +kernel
theorem dJx4a65c_size_8abf5_0 : decode cJx4a65c_size_8abf5 0 = .ok (.aload_n 0, 1) := by decide +kernel
theorem dJx4a65c_size_8abf5_1 : decode cJx4a65c_size_8abf5 1 = .ok (.getfield 48, 3) := by decide +kernel
theorem dJx4a65c_size_8abf5_4 : decode cJx4a65c_size_8abf5 4 = .ok (.ireturn, 1) := by decide +kernel
theorem dJx4a65c_elementData_915e3_0 : decode cJx4a65c_elementData_915e3 0 = .ok (.aload_n 0, 1) := by decide +kernel
theorem dJx4a65c_elementData_915e3_1 : decode cJx4a65c_elementData_915e3 1 = .ok (.getfield 9, 3) := by decide +kernel
theorem dJx4a65c_elementData_915e3_4 : decode cJx4a65c_elementData_915e3 4 = .ok (.iload_n 1, 1) := by decide +kernel
theorem dJx4a65c_elementData_915e3_5 : decode cJx4a65c_elementData_915e3 5 = .ok (.aaload, 1) := by decide +kernel
theorem dJx4a65c_elementData_915e3_6 : decode cJx4a65c_elementData_915e3 6 = .ok (.areturn, 1) := by decide +kernel
theorem dJx4a65c_get_915e3_0 : decode cJx4a65c_get_915e3 0 = .ok (.iload_n 1, 1) := by decide +kernel
theorem dJx4a65c_get_915e3_1 : decode cJx4a65c_get_915e3 1 = .ok (.aload_n 0, 1) := by decide +kernel
theorem dJx4a65c_get_915e3_2 : decode cJx4a65c_get_915e3 2 = .ok (.getfield 48, 3) := by decide +kernel
theorem dJx4a65c_get_915e3_5 : decode cJx4a65c_get_915e3 5 = .ok (.invokestatic 118, 3) := by decide +kernel
theorem dJx4a65c_get_915e3_8 : decode cJx4a65c_get_915e3 8 = .ok (.pop, 1) := by decide +kernel
theorem dJx4a65c_get_915e3_9 : decode cJx4a65c_get_915e3 9 = .ok (.aload_n 0, 1) := by decide +kernel
theorem dJx4a65c_get_915e3_10 : decode cJx4a65c_get_915e3 10 = .ok (.iload_n 1, 1) := by decide +kernel
theorem dJx4a65c_get_915e3_11 : decode cJx4a65c_get_915e3 11 = .ok (.invokevirtual 123, 3) := by decide +kernel
theorem dJx4a65c_get_915e3_14 : decode cJx4a65c_get_915e3 14 = .ok (.areturn, 1) := by decide +kernel
theorem dJx4a65c_add_72be8_0 : decode cJx4a65c_add_72be8 0 = .ok (.iload_n 3, 1) := by decide +kernel
theorem dJx4a65c_add_72be8_1 : decode cJx4a65c_add_72be8 1 = .ok (.aload_n 2, 1) := by decide +kernel
theorem dJx4a65c_add_72be8_2 : decode cJx4a65c_add_72be8 2 = .ok (.arraylength, 1) := by decide +kernel
theorem dJx4a65c_add_72be8_3 : decode cJx4a65c_add_72be8 3 = .ok (.if_icmp .ne 8, 3) := by decide +kernel
theorem dJx4a65c_add_72be8_6 : decode cJx4a65c_add_72be8 6 = .ok (.aload_n 0, 1) := by decide +kernel
theorem dJx4a65c_add_72be8_7 : decode cJx4a65c_add_72be8 7 = .ok (.invokevirtual 129, 3) := by decide +kernel
theorem dJx4a65c_add_72be8_10 : decode cJx4a65c_add_72be8 10 = .ok (.astore_n 2, 1) := by decide +kernel
theorem dJx4a65c_add_72be8_11 : decode cJx4a65c_add_72be8 11 = .ok (.aload_n 2, 1) := by decide +kernel
theorem dJx4a65c_add_72be8_12 : decode cJx4a65c_add_72be8 12 = .ok (.iload_n 3, 1) := by decide +kernel
theorem dJx4a65c_add_72be8_13 : decode cJx4a65c_add_72be8 13 = .ok (.aload_n 1, 1) := by decide +kernel
theorem dJx4a65c_add_72be8_14 : decode cJx4a65c_add_72be8 14 = .ok (.aastore, 1) := by decide +kernel
theorem dJx4a65c_add_72be8_15 : decode cJx4a65c_add_72be8 15 = .ok (.aload_n 0, 1) := by decide +kernel
theorem dJx4a65c_add_72be8_16 : decode cJx4a65c_add_72be8 16 = .ok (.iload_n 3, 1) := by decide +kernel
theorem dJx4a65c_add_72be8_17 : decode cJx4a65c_add_72be8 17 = .ok (.iconst 1, 1) := by decide +kernel
theorem dJx4a65c_add_72be8_18 : decode cJx4a65c_add_72be8 18 = .ok (.iadd, 1) := by decide +kernel
theorem dJx4a65c_add_72be8_19 : decode cJx4a65c_add_72be8 19 = .ok (.putfield 48, 3) := by decide +kernel
theorem dJx4a65c_add_72be8_22 : decode cJx4a65c_add_72be8 22 = .ok (.return_, 1) := by decide +kernel
theorem dJx4a65c_add_9ea2d_0 : decode cJx4a65c_add_9ea2d 0 = .ok (.aload_n 0, 1) := by decide +kernel
theorem dJx4a65c_add_9ea2d_1 : decode cJx4a65c_add_9ea2d 1 = .ok (.dup, 1) := by decide +kernel
theorem dJx4a65c_add_9ea2d_2 : decode cJx4a65c_add_9ea2d 2 = .ok (.getfield 63, 3) := by decide +kernel
theorem dJx4a65c_add_9ea2d_5 : decode cJx4a65c_add_9ea2d 5 = .ok (.iconst 1, 1) := by decide +kernel
theorem dJx4a65c_add_9ea2d_6 : decode cJx4a65c_add_9ea2d 6 = .ok (.iadd, 1) := by decide +kernel
theorem dJx4a65c_add_9ea2d_7 : decode cJx4a65c_add_9ea2d 7 = .ok (.putfield 63, 3) := by decide +kernel
theorem dJx4a65c_add_9ea2d_10 : decode cJx4a65c_add_9ea2d 10 = .ok (.aload_n 0, 1) := by decide +kernel
theorem dJx4a65c_add_9ea2d_11 : decode cJx4a65c_add_9ea2d 11 = .ok (.aload_n 1, 1) := by decide +kernel
theorem dJx4a65c_add_9ea2d_12 : decode cJx4a65c_add_9ea2d 12 = .ok (.aload_n 0, 1) := by decide +kernel
theorem dJx4a65c_add_9ea2d_13 : decode cJx4a65c_add_9ea2d 13 = .ok (.getfield 9, 3) := by decide +kernel
theorem dJx4a65c_add_9ea2d_16 : decode cJx4a65c_add_9ea2d 16 = .ok (.aload_n 0, 1) := by decide +kernel
theorem dJx4a65c_add_9ea2d_17 : decode cJx4a65c_add_9ea2d 17 = .ok (.getfield 48, 3) := by decide +kernel
theorem dJx4a65c_add_9ea2d_20 : decode cJx4a65c_add_9ea2d 20 = .ok (.invokevirtual 131, 3) := by decide +kernel
theorem dJx4a65c_add_9ea2d_23 : decode cJx4a65c_add_9ea2d 23 = .ok (.iconst 1, 1) := by decide +kernel
theorem dJx4a65c_add_9ea2d_24 : decode cJx4a65c_add_9ea2d 24 = .ok (.ireturn, 1) := by decide +kernel
theorem dJ7_copyOf_1904c_0 : decode cJ7_copyOf_1904c 0 = .ok (.aload_n 0, 1) := by decide +kernel
theorem dJ7_copyOf_1904c_1 : decode cJ7_copyOf_1904c 1 = .ok (.iload_n 1, 1) := by decide +kernel
theorem dJ7_copyOf_1904c_2 : decode cJ7_copyOf_1904c 2 = .ok (.aload_n 0, 1) := by decide +kernel
theorem dJ7_copyOf_1904c_3 : decode cJ7_copyOf_1904c 3 = .ok (.invokevirtual 86, 3) := by decide +kernel
theorem dJ7_copyOf_1904c_6 : decode cJ7_copyOf_1904c 6 = .ok (.invokestatic 300, 3) := by decide +kernel
theorem dJ7_copyOf_1904c_9 : decode cJ7_copyOf_1904c 9 = .ok (.areturn, 1) := by decide +kernel
theorem dJ7_copyOf_6403c_0 : decode cJ7_copyOf_6403c 0 = .ok (.aload_n 2, 1) := by decide +kernel
theorem dJ7_copyOf_6403c_1 : decode cJ7_copyOf_6403c 1 = .ok (.ldc 110, 2) := by decide +kernel
theorem dJ7_copyOf_6403c_3 : decode cJ7_copyOf_6403c 3 = .ok (.if_acmp .ne 10, 3) := by decide +kernel
theorem dJ7_copyOf_6403c_6 : decode cJ7_copyOf_6403c 6 = .ok (.iload_n 1, 1) := by decide +kernel
theorem dJ7_copyOf_6403c_7 : decode cJ7_copyOf_6403c 7 = .ok (.anewarray 2, 3) := by decide +kernel
theorem dJ7_copyOf_6403c_10 : decode cJ7_copyOf_6403c 10 = .ok (.goto 14, 3) := by decide +kernel
theorem dJ7_copyOf_6403c_13 : decode cJ7_copyOf_6403c 13 = .ok (.aload_n 2, 1) := by decide +kernel
theorem dJ7_copyOf_6403c_14 : decode cJ7_copyOf_6403c 14 = .ok (.invokevirtual 90, 3) := by decide +kernel
theorem dJ7_copyOf_6403c_17 : decode cJ7_copyOf_6403c 17 = .ok (.iload_n 1, 1) := by decide +kernel
theorem dJ7_copyOf_6403c_18 : decode cJ7_copyOf_6403c 18 = .ok (.invokestatic 95, 3) := by decide +kernel
theorem dJ7_copyOf_6403c_21 : decode cJ7_copyOf_6403c 21 = .ok (.checkcast 110, 3) := by decide +kernel
theorem dJ7_copyOf_6403c_24 : decode cJ7_copyOf_6403c 24 = .ok (.astore_n 3, 1) := by decide +kernel
theorem dJ7_copyOf_6403c_25 : decode cJ7_copyOf_6403c 25 = .ok (.aload_n 0, 1) := by decide +kernel
theorem dJ7_copyOf_6403c_26 : decode cJ7_copyOf_6403c 26 = .ok (.iconst 0, 1) := by decide +kernel
theorem dJ7_copyOf_6403c_27 : decode cJ7_copyOf_6403c 27 = .ok (.aload_n 3, 1) := by decide +kernel
theorem dJ7_copyOf_6403c_28 : decode cJ7_copyOf_6403c 28 = .ok (.iconst 0, 1) := by decide +kernel
theorem dJ7_copyOf_6403c_29 : decode cJ7_copyOf_6403c 29 = .ok (.aload_n 0, 1) := by decide +kernel
theorem dJ7_copyOf_6403c_30 : decode cJ7_copyOf_6403c 30 = .ok (.arraylength, 1) := by decide +kernel
theorem dJ7_copyOf_6403c_31 : decode cJ7_copyOf_6403c 31 = .ok (.iload_n 1, 1) := by decide +kernel
theorem dJ7_copyOf_6403c_32 : decode cJ7_copyOf_6403c 32 = .ok (.invokestatic 304, 3) := by decide +kernel
theorem dJ7_copyOf_6403c_35 : decode cJ7_copyOf_6403c 35 = .ok (.invokestatic 150, 3) := by decide +kernel
theorem dJ7_copyOf_6403c_38 : decode cJ7_copyOf_6403c 38 = .ok (.aload_n 3, 1) := by decide +kernel
theorem dJ7_copyOf_6403c_39 : decode cJ7_copyOf_6403c 39 = .ok (.areturn, 1) := by decide +kernel
theorem dJ15_checkIndex_7cf53_0 : decode cJ15_checkIndex_7cf53 0 = .ok (.iload_n 0, 1) := by decide +kernel
theorem dJ15_checkIndex_7cf53_1 : decode cJ15_checkIndex_7cf53 1 = .ok (.iload_n 1, 1) := by decide +kernel
theorem dJ15_checkIndex_7cf53_2 : decode cJ15_checkIndex_7cf53 2 = .ok (.aconst_null, 1) := by decide +kernel
theorem dJ15_checkIndex_7cf53_3 : decode cJ15_checkIndex_7cf53 3 = .ok (.invokestatic 105, 3) := by decide +kernel
theorem dJ15_checkIndex_7cf53_6 : decode cJ15_checkIndex_7cf53 6 = .ok (.ireturn, 1) := by decide +kernel
theorem dJ8_newLength_cabcc_0 : decode cJ8_newLength_cabcc 0 = .ok (.iload_n 0, 1) := by decide +kernel
theorem dJ8_newLength_cabcc_1 : decode cJ8_newLength_cabcc 1 = .ok (.iload_n 1, 1) := by decide +kernel
theorem dJ8_newLength_cabcc_2 : decode cJ8_newLength_cabcc 2 = .ok (.iload_n 2, 1) := by decide +kernel
theorem dJ8_newLength_cabcc_3 : decode cJ8_newLength_cabcc 3 = .ok (.invokestatic 194, 3) := by decide +kernel
theorem dJ8_newLength_cabcc_6 : decode cJ8_newLength_cabcc 6 = .ok (.iadd, 1) := by decide +kernel
theorem dJ8_newLength_cabcc_7 : decode cJ8_newLength_cabcc 7 = .ok (.istore_n 3, 1) := by decide +kernel
theorem dJ8_newLength_cabcc_8 : decode cJ8_newLength_cabcc 8 = .ok (.iconst 0, 1) := by decide +kernel
theorem dJ8_newLength_cabcc_9 : decode cJ8_newLength_cabcc 9 = .ok (.iload_n 3, 1) := by decide +kernel
theorem dJ8_newLength_cabcc_10 : decode cJ8_newLength_cabcc 10 = .ok (.if_icmp .ge 11, 3) := by decide +kernel
theorem dJ8_newLength_cabcc_13 : decode cJ8_newLength_cabcc 13 = .ok (.iload_n 3, 1) := by decide +kernel
theorem dJ8_newLength_cabcc_14 : decode cJ8_newLength_cabcc 14 = .ok (.ldc 200, 2) := by decide +kernel
theorem dJ8_newLength_cabcc_16 : decode cJ8_newLength_cabcc 16 = .ok (.if_icmp .gt 5, 3) := by decide +kernel
theorem dJ8_newLength_cabcc_19 : decode cJ8_newLength_cabcc 19 = .ok (.iload_n 3, 1) := by decide +kernel
theorem dJ8_newLength_cabcc_20 : decode cJ8_newLength_cabcc 20 = .ok (.ireturn, 1) := by decide +kernel
theorem dJ8_newLength_cabcc_21 : decode cJ8_newLength_cabcc 21 = .ok (.iload_n 0, 1) := by decide +kernel
theorem dJ8_newLength_cabcc_22 : decode cJ8_newLength_cabcc 22 = .ok (.iload_n 1, 1) := by decide +kernel
theorem dJ8_newLength_cabcc_23 : decode cJ8_newLength_cabcc 23 = .ok (.invokestatic 201, 3) := by decide +kernel
theorem dJ8_newLength_cabcc_26 : decode cJ8_newLength_cabcc 26 = .ok (.ireturn, 1) := by decide +kernel
theorem dJ8_hugeLength_7cf53_0 : decode cJ8_hugeLength_7cf53 0 = .ok (.iload_n 0, 1) := by decide +kernel
theorem dJ8_hugeLength_7cf53_1 : decode cJ8_hugeLength_7cf53 1 = .ok (.iload_n 1, 1) := by decide +kernel
theorem dJ8_hugeLength_7cf53_2 : decode cJ8_hugeLength_7cf53 2 = .ok (.iadd, 1) := by decide +kernel
theorem dJ8_hugeLength_7cf53_3 : decode cJ8_hugeLength_7cf53 3 = .ok (.istore_n 2, 1) := by decide +kernel
theorem dJ8_hugeLength_7cf53_4 : decode cJ8_hugeLength_7cf53 4 = .ok (.iload_n 2, 1) := by decide +kernel
theorem dJ8_hugeLength_7cf53_5 : decode cJ8_hugeLength_7cf53 5 = .ok (.ifCond .ge 44, 3) := by decide +kernel
theorem dJ8_hugeLength_7cf53_8 : decode cJ8_hugeLength_7cf53 8 = .ok (.new 204, 3) := by decide +kernel
theorem dJ8_hugeLength_7cf53_11 : decode cJ8_hugeLength_7cf53 11 = .ok (.dup, 1) := by decide +kernel
theorem dJ8_hugeLength_7cf53_12 : decode cJ8_hugeLength_7cf53 12 = .ok (.new 89, 3) := by decide +kernel
theorem dJ8_hugeLength_7cf53_15 : decode cJ8_hugeLength_7cf53 15 = .ok (.dup, 1) := by decide +kernel
theorem dJ8_hugeLength_7cf53_16 : decode cJ8_hugeLength_7cf53 16 = .ok (.invokespecial 91, 3) := by decide +kernel
theorem dJ8_hugeLength_7cf53_19 : decode cJ8_hugeLength_7cf53 19 = .ok (.ldc 206, 2) := by decide +kernel
theorem dJ8_hugeLength_7cf53_21 : decode cJ8_hugeLength_7cf53 21 = .ok (.invokevirtual 94, 3) := by decide +kernel
theorem dJ8_hugeLength_7cf53_24 : decode cJ8_hugeLength_7cf53 24 = .ok (.iload_n 0, 1) := by decide +kernel
theorem dJ8_hugeLength_7cf53_25 : decode cJ8_hugeLength_7cf53 25 = .ok (.invokevirtual 98, 3) := by decide +kernel
theorem dJ8_hugeLength_7cf53_28 : decode cJ8_hugeLength_7cf53 28 = .ok (.ldc 208, 2) := by decide +kernel
theorem dJ8_hugeLength_7cf53_30 : decode cJ8_hugeLength_7cf53 30 = .ok (.invokevirtual 94, 3) := by decide +kernel
theorem dJ8_hugeLength_7cf53_33 : decode cJ8_hugeLength_7cf53 33 = .ok (.iload_n 1, 1) := by decide +kernel
theorem dJ8_hugeLength_7cf53_34 : decode cJ8_hugeLength_7cf53 34 = .ok (.invokevirtual 98, 3) := by decide +kernel
theorem dJ8_hugeLength_7cf53_37 : decode cJ8_hugeLength_7cf53 37 = .ok (.ldc 210, 2) := by decide +kernel
theorem dJ8_hugeLength_7cf53_39 : decode cJ8_hugeLength_7cf53 39 = .ok (.invokevirtual 94, 3) := by decide +kernel
theorem dJ8_hugeLength_7cf53_42 : decode cJ8_hugeLength_7cf53 42 = .ok (.invokevirtual 101, 3) := by decide +kernel
theorem dJ8_hugeLength_7cf53_45 : decode cJ8_hugeLength_7cf53 45 = .ok (.invokespecial 212, 3) := by decide +kernel
theorem dJ8_hugeLength_7cf53_48 : decode cJ8_hugeLength_7cf53 48 = .ok (.athrow, 1) := by decide +kernel
theorem dJ8_hugeLength_7cf53_49 : decode cJ8_hugeLength_7cf53 49 = .ok (.iload_n 2, 1) := by decide +kernel
theorem dJ8_hugeLength_7cf53_50 : decode cJ8_hugeLength_7cf53 50 = .ok (.ldc 200, 2) := by decide +kernel
theorem dJ8_hugeLength_7cf53_52 : decode cJ8_hugeLength_7cf53 52 = .ok (.if_icmp .gt 6, 3) := by decide +kernel
theorem dJ8_hugeLength_7cf53_55 : decode cJ8_hugeLength_7cf53 55 = .ok (.ldc 200, 2) := by decide +kernel
theorem dJ8_hugeLength_7cf53_57 : decode cJ8_hugeLength_7cf53 57 = .ok (.ireturn, 1) := by decide +kernel
theorem dJ8_hugeLength_7cf53_58 : decode cJ8_hugeLength_7cf53 58 = .ok (.iload_n 2, 1) := by decide +kernel
theorem dJ8_hugeLength_7cf53_59 : decode cJ8_hugeLength_7cf53 59 = .ok (.ireturn, 1) := by decide +kernel
theorem dJ3_checkIndex_8e157_0 : decode cJ3_checkIndex_8e157 0 = .ok (.iload_n 0, 1) := by decide +kernel
theorem dJ3_checkIndex_8e157_1 : decode cJ3_checkIndex_8e157 1 = .ok (.ifCond .lt 8, 3) := by decide +kernel
theorem dJ3_checkIndex_8e157_4 : decode cJ3_checkIndex_8e157 4 = .ok (.iload_n 0, 1) := by decide +kernel
theorem dJ3_checkIndex_8e157_5 : decode cJ3_checkIndex_8e157 5 = .ok (.iload_n 1, 1) := by decide +kernel
theorem dJ3_checkIndex_8e157_6 : decode cJ3_checkIndex_8e157 6 = .ok (.if_icmp .lt 10, 3) := by decide +kernel
theorem dJ3_checkIndex_8e157_9 : decode cJ3_checkIndex_8e157 9 = .ok (.aload_n 2, 1) := by decide +kernel
theorem dJ3_checkIndex_8e157_10 : decode cJ3_checkIndex_8e157 10 = .ok (.iload_n 0, 1) := by decide +kernel
theorem dJ3_checkIndex_8e157_11 : decode cJ3_checkIndex_8e157 11 = .ok (.iload_n 1, 1) := by decide +kernel
theorem dJ3_checkIndex_8e157_12 : decode cJ3_checkIndex_8e157 12 = .ok (.invokestatic 95, 3) := by decide +kernel
theorem dJ3_checkIndex_8e157_15 : decode cJ3_checkIndex_8e157 15 = .ok (.athrow, 1) := by decide +kernel
theorem dJ3_checkIndex_8e157_16 : decode cJ3_checkIndex_8e157 16 = .ok (.iload_n 0, 1) := by decide +kernel
theorem dJ3_checkIndex_8e157_17 : decode cJ3_checkIndex_8e157 17 = .ok (.ireturn, 1) := by decide +kernel
theorem dL_boat_0 : decode cL_boat 0 = .ok (.aload 6, 2) := by decide +kernel
theorem dL_boat_2 : decode cL_boat 2 = .ok (.iconst 0, 1) := by decide +kernel
theorem dL_boat_3 : decode cL_boat 3 = .ok (.aload_n 0, 1) := by decide +kernel
theorem dL_boat_4 : decode cL_boat 4 = .ok (.iload_n 1, 1) := by decide +kernel
theorem dL_boat_5 : decode cL_boat 5 = .ok (.iload_n 2, 1) := by decide +kernel
theorem dL_boat_6 : decode cL_boat 6 = .ok (.iload_n 3, 1) := by decide +kernel
theorem dL_boat_7 : decode cL_boat 7 = .ok (.iload 4, 2) := by decide +kernel
theorem dL_boat_9 : decode cL_boat 9 = .ok (.iload 5, 2) := by decide +kernel
theorem dL_boat_11 : decode cL_boat 11 = .ok (.invokevirtual 7, 3) := by decide +kernel
theorem dL_boat_14 : decode cL_boat 14 = .ok (.i2l, 1) := by decide +kernel
theorem dL_boat_15 : decode cL_boat 15 = .ok (.lastore, 1) := by decide +kernel
theorem dL_boat_16 : decode cL_boat 16 = .ok (.goto 15, 3) := by decide +kernel
theorem dL_boat_19 : decode cL_boat 19 = .ok (.astore 7, 2) := by decide +kernel
theorem dL_boat_21 : decode cL_boat 21 = .ok (.iconst 1, 1) := by decide +kernel
theorem dL_boat_22 : decode cL_boat 22 = .ok (.ireturn, 1) := by decide +kernel
theorem dL_boat_23 : decode cL_boat 23 = .ok (.astore 7, 2) := by decide +kernel
theorem dL_boat_25 : decode cL_boat 25 = .ok (.iconst 2, 1) := by decide +kernel
theorem dL_boat_26 : decode cL_boat 26 = .ok (.ireturn, 1) := by decide +kernel
theorem dL_boat_27 : decode cL_boat 27 = .ok (.astore 7, 2) := by decide +kernel
theorem dL_boat_29 : decode cL_boat 29 = .ok (.iconst 3, 1) := by decide +kernel
theorem dL_boat_30 : decode cL_boat 30 = .ok (.ireturn, 1) := by decide +kernel
theorem dL_boat_31 : decode cL_boat 31 = .ok (.iconst 0, 1) := by decide +kernel
theorem dL_boat_32 : decode cL_boat 32 = .ok (.ireturn, 1) := by decide +kernel
theorem dL_lend_0 : decode cL_lend 0 = .ok (.aload_n 3, 1) := by decide +kernel
theorem dL_lend_1 : decode cL_lend 1 = .ok (.iconst 0, 1) := by decide +kernel
theorem dL_lend_2 : decode cL_lend 2 = .ok (.aload_n 0, 1) := by decide +kernel
theorem dL_lend_3 : decode cL_lend 3 = .ok (.iload_n 1, 1) := by decide +kernel
theorem dL_lend_4 : decode cL_lend 4 = .ok (.iload_n 2, 1) := by decide +kernel
theorem dL_lend_5 : decode cL_lend 5 = .ok (.invokevirtual 19, 3) := by decide +kernel
theorem dL_lend_8 : decode cL_lend 8 = .ok (.i2l, 1) := by decide +kernel
theorem dL_lend_9 : decode cL_lend 9 = .ok (.lastore, 1) := by decide +kernel
theorem dL_lend_10 : decode cL_lend 10 = .ok (.goto 7, 3) := by decide +kernel
theorem dL_lend_13 : decode cL_lend 13 = .ok (.astore 4, 2) := by decide +kernel
theorem dL_lend_15 : decode cL_lend 15 = .ok (.iconst 1, 1) := by decide +kernel
theorem dL_lend_16 : decode cL_lend 16 = .ok (.ireturn, 1) := by decide +kernel
theorem dL_lend_17 : decode cL_lend 17 = .ok (.iconst 0, 1) := by decide +kernel
theorem dL_lend_18 : decode cL_lend 18 = .ok (.ireturn, 1) := by decide +kernel
theorem dL_foretell_0 : decode cL_foretell 0 = .ok (.aload 6, 2) := by decide +kernel
theorem dL_foretell_2 : decode cL_foretell 2 = .ok (.iconst 0, 1) := by decide +kernel
theorem dL_foretell_3 : decode cL_foretell 3 = .ok (.aload_n 0, 1) := by decide +kernel
theorem dL_foretell_4 : decode cL_foretell 4 = .ok (.iload_n 1, 1) := by decide +kernel
theorem dL_foretell_5 : decode cL_foretell 5 = .ok (.iload_n 2, 1) := by decide +kernel
theorem dL_foretell_6 : decode cL_foretell 6 = .ok (.iload_n 3, 1) := by decide +kernel
theorem dL_foretell_7 : decode cL_foretell 7 = .ok (.iload 4, 2) := by decide +kernel
theorem dL_foretell_9 : decode cL_foretell 9 = .ok (.iload 5, 2) := by decide +kernel
theorem dL_foretell_11 : decode cL_foretell 11 = .ok (.invokevirtual 23, 3) := by decide +kernel
theorem dL_foretell_14 : decode cL_foretell 14 = .ok (.i2l, 1) := by decide +kernel
theorem dL_foretell_15 : decode cL_foretell 15 = .ok (.lastore, 1) := by decide +kernel
theorem dL_foretell_16 : decode cL_foretell 16 = .ok (.goto 11, 3) := by decide +kernel
theorem dL_foretell_19 : decode cL_foretell 19 = .ok (.astore 7, 2) := by decide +kernel
theorem dL_foretell_21 : decode cL_foretell 21 = .ok (.iconst 1, 1) := by decide +kernel
theorem dL_foretell_22 : decode cL_foretell 22 = .ok (.ireturn, 1) := by decide +kernel
theorem dL_foretell_23 : decode cL_foretell 23 = .ok (.astore 7, 2) := by decide +kernel
theorem dL_foretell_25 : decode cL_foretell 25 = .ok (.iconst 2, 1) := by decide +kernel
theorem dL_foretell_26 : decode cL_foretell 26 = .ok (.ireturn, 1) := by decide +kernel
theorem dL_foretell_27 : decode cL_foretell 27 = .ok (.iconst 0, 1) := by decide +kernel
theorem dL_foretell_28 : decode cL_foretell 28 = .ok (.ireturn, 1) := by decide +kernel
theorem dL_call_0 : decode cL_call 0 = .ok (.aload 4, 2) := by decide +kernel
theorem dL_call_2 : decode cL_call 2 = .ok (.iconst 0, 1) := by decide +kernel
theorem dL_call_3 : decode cL_call 3 = .ok (.aload_n 0, 1) := by decide +kernel
theorem dL_call_4 : decode cL_call 4 = .ok (.iload_n 1, 1) := by decide +kernel
theorem dL_call_5 : decode cL_call 5 = .ok (.iload_n 2, 1) := by decide +kernel
theorem dL_call_6 : decode cL_call 6 = .ok (.iload_n 3, 1) := by decide +kernel
theorem dL_call_7 : decode cL_call 7 = .ok (.invokevirtual 26, 3) := by decide +kernel
theorem dL_call_10 : decode cL_call 10 = .ok (.i2l, 1) := by decide +kernel
theorem dL_call_11 : decode cL_call 11 = .ok (.lastore, 1) := by decide +kernel
theorem dL_call_12 : decode cL_call 12 = .ok (.goto 15, 3) := by decide +kernel
theorem dL_call_15 : decode cL_call 15 = .ok (.astore 5, 2) := by decide +kernel
theorem dL_call_17 : decode cL_call 17 = .ok (.iconst 1, 1) := by decide +kernel
theorem dL_call_18 : decode cL_call 18 = .ok (.ireturn, 1) := by decide +kernel
theorem dL_call_19 : decode cL_call 19 = .ok (.astore 5, 2) := by decide +kernel
theorem dL_call_21 : decode cL_call 21 = .ok (.iconst 2, 1) := by decide +kernel
theorem dL_call_22 : decode cL_call 22 = .ok (.ireturn, 1) := by decide +kernel
theorem dL_call_23 : decode cL_call 23 = .ok (.astore 5, 2) := by decide +kernel
theorem dL_call_25 : decode cL_call 25 = .ok (.iconst 3, 1) := by decide +kernel
theorem dL_call_26 : decode cL_call 26 = .ok (.ireturn, 1) := by decide +kernel
theorem dL_call_27 : decode cL_call 27 = .ok (.iconst 0, 1) := by decide +kernel
theorem dL_call_28 : decode cL_call 28 = .ok (.ireturn, 1) := by decide +kernel
theorem dL_cap_0 : decode cL_cap 0 = .ok (.aload_n 2, 1) := by decide +kernel
theorem dL_cap_1 : decode cL_cap 1 = .ok (.iconst 0, 1) := by decide +kernel
theorem dL_cap_2 : decode cL_cap 2 = .ok (.aload_n 0, 1) := by decide +kernel
theorem dL_cap_3 : decode cL_cap 3 = .ok (.iload_n 1, 1) := by decide +kernel
theorem dL_cap_4 : decode cL_cap 4 = .ok (.invokevirtual 30, 3) := by decide +kernel
theorem dL_cap_7 : decode cL_cap 7 = .ok (.i2l, 1) := by decide +kernel
theorem dL_cap_8 : decode cL_cap 8 = .ok (.lastore, 1) := by decide +kernel
theorem dL_cap_9 : decode cL_cap 9 = .ok (.goto 6, 3) := by decide +kernel
theorem dL_cap_12 : decode cL_cap 12 = .ok (.astore_n 3, 1) := by decide +kernel
theorem dL_cap_13 : decode cL_cap 13 = .ok (.iconst 1, 1) := by decide +kernel
theorem dL_cap_14 : decode cL_cap 14 = .ok (.ireturn, 1) := by decide +kernel
theorem dL_cap_15 : decode cL_cap 15 = .ok (.iconst 0, 1) := by decide +kernel
theorem dL_cap_16 : decode cL_cap 16 = .ok (.ireturn, 1) := by decide +kernel
theorem dL_pass_0 : decode cL_pass 0 = .ok (.aload_n 2, 1) := by decide +kernel
theorem dL_pass_1 : decode cL_pass 1 = .ok (.iconst 0, 1) := by decide +kernel
theorem dL_pass_2 : decode cL_pass 2 = .ok (.aload_n 0, 1) := by decide +kernel
theorem dL_pass_3 : decode cL_pass 3 = .ok (.iload_n 1, 1) := by decide +kernel
theorem dL_pass_4 : decode cL_pass 4 = .ok (.invokevirtual 34, 3) := by decide +kernel
theorem dL_pass_7 : decode cL_pass 7 = .ok (.i2l, 1) := by decide +kernel
theorem dL_pass_8 : decode cL_pass 8 = .ok (.lastore, 1) := by decide +kernel
theorem dL_pass_9 : decode cL_pass 9 = .ok (.goto 9, 3) := by decide +kernel
theorem dL_pass_12 : decode cL_pass 12 = .ok (.astore_n 3, 1) := by decide +kernel
theorem dL_pass_13 : decode cL_pass 13 = .ok (.iconst 1, 1) := by decide +kernel
theorem dL_pass_14 : decode cL_pass 14 = .ok (.ireturn, 1) := by decide +kernel
theorem dL_pass_15 : decode cL_pass 15 = .ok (.astore_n 3, 1) := by decide +kernel
theorem dL_pass_16 : decode cL_pass 16 = .ok (.iconst 2, 1) := by decide +kernel
theorem dL_pass_17 : decode cL_pass 17 = .ok (.ireturn, 1) := by decide +kernel
theorem dL_pass_18 : decode cL_pass 18 = .ok (.iconst 0, 1) := by decide +kernel
theorem dL_pass_19 : decode cL_pass 19 = .ok (.ireturn, 1) := by decide +kernel
theorem dL_storm_0 : decode cL_storm 0 = .ok (.aload_n 3, 1) := by decide +kernel
theorem dL_storm_1 : decode cL_storm 1 = .ok (.iconst 0, 1) := by decide +kernel
theorem dL_storm_2 : decode cL_storm 2 = .ok (.aload_n 0, 1) := by decide +kernel
theorem dL_storm_3 : decode cL_storm 3 = .ok (.iload_n 1, 1) := by decide +kernel
theorem dL_storm_4 : decode cL_storm 4 = .ok (.iload_n 2, 1) := by decide +kernel
theorem dL_storm_5 : decode cL_storm 5 = .ok (.invokevirtual 37, 3) := by decide +kernel
theorem dL_storm_8 : decode cL_storm 8 = .ok (.i2l, 1) := by decide +kernel
theorem dL_storm_9 : decode cL_storm 9 = .ok (.lastore, 1) := by decide +kernel
theorem dL_storm_10 : decode cL_storm 10 = .ok (.goto 11, 3) := by decide +kernel
theorem dL_storm_13 : decode cL_storm 13 = .ok (.astore 4, 2) := by decide +kernel
theorem dL_storm_15 : decode cL_storm 15 = .ok (.iconst 1, 1) := by decide +kernel
theorem dL_storm_16 : decode cL_storm 16 = .ok (.ireturn, 1) := by decide +kernel
theorem dL_storm_17 : decode cL_storm 17 = .ok (.astore 4, 2) := by decide +kernel
theorem dL_storm_19 : decode cL_storm 19 = .ok (.iconst 2, 1) := by decide +kernel
theorem dL_storm_20 : decode cL_storm 20 = .ok (.ireturn, 1) := by decide +kernel
theorem dL_storm_21 : decode cL_storm 21 = .ok (.iconst 0, 1) := by decide +kernel
theorem dL_storm_22 : decode cL_storm 22 = .ok (.ireturn, 1) := by decide +kernel
theorem dL_ofBoat_0 : decode cL_ofBoat 0 = .ok (.aload_n 3, 1) := by decide +kernel
theorem dL_ofBoat_1 : decode cL_ofBoat 1 = .ok (.iconst 0, 1) := by decide +kernel
theorem dL_ofBoat_2 : decode cL_ofBoat 2 = .ok (.aload_n 0, 1) := by decide +kernel
theorem dL_ofBoat_3 : decode cL_ofBoat 3 = .ok (.iload_n 1, 1) := by decide +kernel
theorem dL_ofBoat_4 : decode cL_ofBoat 4 = .ok (.iload_n 2, 1) := by decide +kernel
theorem dL_ofBoat_5 : decode cL_ofBoat 5 = .ok (.invokevirtual 40, 3) := by decide +kernel
theorem dL_ofBoat_8 : decode cL_ofBoat 8 = .ok (.i2l, 1) := by decide +kernel
theorem dL_ofBoat_9 : decode cL_ofBoat 9 = .ok (.lastore, 1) := by decide +kernel
theorem dL_ofBoat_10 : decode cL_ofBoat 10 = .ok (.goto 11, 3) := by decide +kernel
theorem dL_ofBoat_13 : decode cL_ofBoat 13 = .ok (.astore 4, 2) := by decide +kernel
theorem dL_ofBoat_15 : decode cL_ofBoat 15 = .ok (.iconst 1, 1) := by decide +kernel
theorem dL_ofBoat_16 : decode cL_ofBoat 16 = .ok (.ireturn, 1) := by decide +kernel
theorem dL_ofBoat_17 : decode cL_ofBoat 17 = .ok (.astore 4, 2) := by decide +kernel
theorem dL_ofBoat_19 : decode cL_ofBoat 19 = .ok (.iconst 2, 1) := by decide +kernel
theorem dL_ofBoat_20 : decode cL_ofBoat 20 = .ok (.ireturn, 1) := by decide +kernel
theorem dL_ofBoat_21 : decode cL_ofBoat 21 = .ok (.iconst 0, 1) := by decide +kernel
theorem dL_ofBoat_22 : decode cL_ofBoat 22 = .ok (.ireturn, 1) := by decide +kernel
theorem dL_ofCall_0 : decode cL_ofCall 0 = .ok (.aload_n 3, 1) := by decide +kernel
theorem dL_ofCall_1 : decode cL_ofCall 1 = .ok (.iconst 0, 1) := by decide +kernel
theorem dL_ofCall_2 : decode cL_ofCall 2 = .ok (.aload_n 0, 1) := by decide +kernel
theorem dL_ofCall_3 : decode cL_ofCall 3 = .ok (.iload_n 1, 1) := by decide +kernel
theorem dL_ofCall_4 : decode cL_ofCall 4 = .ok (.iload_n 2, 1) := by decide +kernel
theorem dL_ofCall_5 : decode cL_ofCall 5 = .ok (.invokevirtual 43, 3) := by decide +kernel
theorem dL_ofCall_8 : decode cL_ofCall 8 = .ok (.i2l, 1) := by decide +kernel
theorem dL_ofCall_9 : decode cL_ofCall 9 = .ok (.lastore, 1) := by decide +kernel
theorem dL_ofCall_10 : decode cL_ofCall 10 = .ok (.goto 11, 3) := by decide +kernel
theorem dL_ofCall_13 : decode cL_ofCall 13 = .ok (.astore 4, 2) := by decide +kernel
theorem dL_ofCall_15 : decode cL_ofCall 15 = .ok (.iconst 1, 1) := by decide +kernel
theorem dL_ofCall_16 : decode cL_ofCall 16 = .ok (.ireturn, 1) := by decide +kernel
theorem dL_ofCall_17 : decode cL_ofCall 17 = .ok (.astore 4, 2) := by decide +kernel
theorem dL_ofCall_19 : decode cL_ofCall 19 = .ok (.iconst 2, 1) := by decide +kernel
theorem dL_ofCall_20 : decode cL_ofCall 20 = .ok (.ireturn, 1) := by decide +kernel
theorem dL_ofCall_21 : decode cL_ofCall 21 = .ok (.iconst 0, 1) := by decide +kernel
theorem dL_ofCall_22 : decode cL_ofCall 22 = .ok (.ireturn, 1) := by decide +kernel
theorem dL_rewards_0 : decode cL_rewards 0 = .ok (.aload_n 2, 1) := by decide +kernel
theorem dL_rewards_1 : decode cL_rewards 1 = .ok (.iconst 0, 1) := by decide +kernel
theorem dL_rewards_2 : decode cL_rewards 2 = .ok (.aload_n 0, 1) := by decide +kernel
theorem dL_rewards_3 : decode cL_rewards 3 = .ok (.iload_n 1, 1) := by decide +kernel
theorem dL_rewards_4 : decode cL_rewards 4 = .ok (.invokevirtual 46, 3) := by decide +kernel
theorem dL_rewards_7 : decode cL_rewards 7 = .ok (.i2l, 1) := by decide +kernel
theorem dL_rewards_8 : decode cL_rewards 8 = .ok (.lastore, 1) := by decide +kernel
theorem dL_rewards_9 : decode cL_rewards 9 = .ok (.goto 6, 3) := by decide +kernel
theorem dL_rewards_12 : decode cL_rewards 12 = .ok (.astore_n 3, 1) := by decide +kernel
theorem dL_rewards_13 : decode cL_rewards 13 = .ok (.iconst 1, 1) := by decide +kernel
theorem dL_rewards_14 : decode cL_rewards 14 = .ok (.ireturn, 1) := by decide +kernel
theorem dL_rewards_15 : decode cL_rewards 15 = .ok (.iconst 0, 1) := by decide +kernel
theorem dL_rewards_16 : decode cL_rewards 16 = .ok (.ireturn, 1) := by decide +kernel
theorem dL_rewardsAnew_0 : decode cL_rewardsAnew 0 = .ok (.aload_n 2, 1) := by decide +kernel
theorem dL_rewardsAnew_1 : decode cL_rewardsAnew 1 = .ok (.iconst 0, 1) := by decide +kernel
theorem dL_rewardsAnew_2 : decode cL_rewardsAnew 2 = .ok (.aload_n 0, 1) := by decide +kernel
theorem dL_rewardsAnew_3 : decode cL_rewardsAnew 3 = .ok (.iload_n 1, 1) := by decide +kernel
theorem dL_rewardsAnew_4 : decode cL_rewardsAnew 4 = .ok (.invokevirtual 49, 3) := by decide +kernel
theorem dL_rewardsAnew_7 : decode cL_rewardsAnew 7 = .ok (.i2l, 1) := by decide +kernel
theorem dL_rewardsAnew_8 : decode cL_rewardsAnew 8 = .ok (.lastore, 1) := by decide +kernel
theorem dL_rewardsAnew_9 : decode cL_rewardsAnew 9 = .ok (.goto 6, 3) := by decide +kernel
theorem dL_rewardsAnew_12 : decode cL_rewardsAnew 12 = .ok (.astore_n 3, 1) := by decide +kernel
theorem dL_rewardsAnew_13 : decode cL_rewardsAnew 13 = .ok (.iconst 1, 1) := by decide +kernel
theorem dL_rewardsAnew_14 : decode cL_rewardsAnew 14 = .ok (.ireturn, 1) := by decide +kernel
theorem dL_rewardsAnew_15 : decode cL_rewardsAnew 15 = .ok (.iconst 0, 1) := by decide +kernel
theorem dL_rewardsAnew_16 : decode cL_rewardsAnew 16 = .ok (.ireturn, 1) := by decide +kernel
theorem dL_premium_0 : decode cL_premium 0 = .ok (.aload_n 2, 1) := by decide +kernel
theorem dL_premium_1 : decode cL_premium 1 = .ok (.iconst 0, 1) := by decide +kernel
theorem dL_premium_2 : decode cL_premium 2 = .ok (.aload_n 0, 1) := by decide +kernel
theorem dL_premium_3 : decode cL_premium 3 = .ok (.iload_n 1, 1) := by decide +kernel
theorem dL_premium_4 : decode cL_premium 4 = .ok (.invokevirtual 52, 3) := by decide +kernel
theorem dL_premium_7 : decode cL_premium 7 = .ok (.f2d, 1) := by decide +kernel
theorem dL_premium_8 : decode cL_premium 8 = .ok (.dastore, 1) := by decide +kernel
theorem dL_premium_9 : decode cL_premium 9 = .ok (.goto 6, 3) := by decide +kernel
theorem dL_premium_12 : decode cL_premium 12 = .ok (.astore_n 3, 1) := by decide +kernel
theorem dL_premium_13 : decode cL_premium 13 = .ok (.iconst 1, 1) := by decide +kernel
theorem dL_premium_14 : decode cL_premium 14 = .ok (.ireturn, 1) := by decide +kernel
theorem dL_premium_15 : decode cL_premium 15 = .ok (.iconst 0, 1) := by decide +kernel
theorem dL_premium_16 : decode cL_premium 16 = .ok (.ireturn, 1) := by decide +kernel
theorem dL_law_0 : decode cL_law 0 = .ok (.new 8, 3) := by decide +kernel
theorem dL_law_3 : decode cL_law 3 = .ok (.dup, 1) := by decide +kernel
theorem dL_law_4 : decode cL_law 4 = .ok (.invokespecial 56, 3) := by decide +kernel
theorem dL_law_7 : decode cL_law 7 = .ok (.astore_n 1, 1) := by decide +kernel
theorem dL_law_8 : decode cL_law 8 = .ok (.new 57, 3) := by decide +kernel
theorem dL_law_11 : decode cL_law 11 = .ok (.dup, 1) := by decide +kernel
end
section
theorem dL_law_12 : decode cL_law 12 = .ok (.invokespecial 59, 3) := by decide +kernel
theorem dL_law_15 : decode cL_law 15 = .ok (.astore_n 2, 1) := by decide +kernel
theorem dL_law_16 : decode cL_law 16 = .ok (.iconst 1, 1) := by decide +kernel
theorem dL_law_17 : decode cL_law 17 = .ok (.newarray .long, 2) := by decide +kernel
theorem dL_law_19 : decode cL_law 19 = .ok (.astore_n 3, 1) := by decide +kernel
theorem dL_law_20 : decode cL_law 20 = .ok (.iconst 1, 1) := by decide +kernel
theorem dL_law_21 : decode cL_law 21 = .ok (.newarray .double, 2) := by decide +kernel
theorem dL_law_23 : decode cL_law 23 = .ok (.astore 4, 2) := by decide +kernel
theorem dL_law_25 : decode cL_law 25 = .ok (.iconst 0, 1) := by decide +kernel
theorem dL_law_26 : decode cL_law 26 = .ok (.istore 5, 2) := by decide +kernel
theorem dL_law_28 : decode cL_law 28 = .ok (.iload 5, 2) := by decide +kernel
theorem dL_law_30 : decode cL_law 30 = .ok (.aload_n 0, 1) := by decide +kernel
theorem dL_law_31 : decode cL_law 31 = .ok (.arraylength, 1) := by decide +kernel
theorem dL_law_32 : decode cL_law 32 = .ok (.bipush 6, 2) := by decide +kernel
theorem dL_law_34 : decode cL_law 34 = .ok (.isub, 1) := by decide +kernel
theorem dL_law_35 : decode cL_law 35 = .ok (.if_icmp .gt 941, 3) := by decide +kernel
theorem dL_law_38 : decode cL_law 38 = .ok (.aload_n 0, 1) := by decide +kernel
theorem dL_law_39 : decode cL_law 39 = .ok (.iload 5, 2) := by decide +kernel
theorem dL_law_41 : decode cL_law 41 = .ok (.iaload, 1) := by decide +kernel
theorem dL_law_42 : decode cL_law 42 = .ok (.bipush 15, 2) := by decide +kernel
theorem dL_law_44 : decode cL_law 44 = .ok (.iand, 1) := by decide +kernel
theorem dL_law_45 : decode cL_law 45 = .ok (.tableswitch 925 0 11 #[63, 167, 235, 339, 419, 475, 531, 599, 667, 735, 791, 847], 63) := by decide +kernel
theorem dL_law_108 : decode cL_law 108 = .ok (.aload_n 1, 1) := by decide +kernel
theorem dL_law_109 : decode cL_law 109 = .ok (.aload_n 0, 1) := by decide +kernel
theorem dL_law_110 : decode cL_law 110 = .ok (.iload 5, 2) := by decide +kernel
theorem dL_law_112 : decode cL_law 112 = .ok (.iconst 1, 1) := by decide +kernel
theorem dL_law_113 : decode cL_law 113 = .ok (.iadd, 1) := by decide +kernel
theorem dL_law_114 : decode cL_law 114 = .ok (.iaload, 1) := by decide +kernel
theorem dL_law_115 : decode cL_law 115 = .ok (.aload_n 0, 1) := by decide +kernel
theorem dL_law_116 : decode cL_law 116 = .ok (.iload 5, 2) := by decide +kernel
theorem dL_law_118 : decode cL_law 118 = .ok (.iconst 2, 1) := by decide +kernel
theorem dL_law_119 : decode cL_law 119 = .ok (.iadd, 1) := by decide +kernel
theorem dL_law_120 : decode cL_law 120 = .ok (.iaload, 1) := by decide +kernel
theorem dL_law_121 : decode cL_law 121 = .ok (.aload_n 0, 1) := by decide +kernel
theorem dL_law_122 : decode cL_law 122 = .ok (.iload 5, 2) := by decide +kernel
theorem dL_law_124 : decode cL_law 124 = .ok (.iconst 3, 1) := by decide +kernel
theorem dL_law_125 : decode cL_law 125 = .ok (.iadd, 1) := by decide +kernel
theorem dL_law_126 : decode cL_law 126 = .ok (.iaload, 1) := by decide +kernel
theorem dL_law_127 : decode cL_law 127 = .ok (.aload_n 0, 1) := by decide +kernel
theorem dL_law_128 : decode cL_law 128 = .ok (.iload 5, 2) := by decide +kernel
theorem dL_law_130 : decode cL_law 130 = .ok (.iconst 4, 1) := by decide +kernel
theorem dL_law_131 : decode cL_law 131 = .ok (.iadd, 1) := by decide +kernel
theorem dL_law_132 : decode cL_law 132 = .ok (.iaload, 1) := by decide +kernel
theorem dL_law_133 : decode cL_law 133 = .ok (.aload_n 0, 1) := by decide +kernel
theorem dL_law_134 : decode cL_law 134 = .ok (.iload 5, 2) := by decide +kernel
theorem dL_law_136 : decode cL_law 136 = .ok (.iconst 5, 1) := by decide +kernel
theorem dL_law_137 : decode cL_law 137 = .ok (.iadd, 1) := by decide +kernel
theorem dL_law_138 : decode cL_law 138 = .ok (.iaload, 1) := by decide +kernel
theorem dL_law_139 : decode cL_law 139 = .ok (.aload_n 3, 1) := by decide +kernel
theorem dL_law_140 : decode cL_law 140 = .ok (.invokestatic 60, 3) := by decide +kernel
theorem dL_law_143 : decode cL_law 143 = .ok (.istore 6, 2) := by decide +kernel
theorem dL_law_145 : decode cL_law 145 = .ok (.aload_n 2, 1) := by decide +kernel
theorem dL_law_146 : decode cL_law 146 = .ok (.aload_n 0, 1) := by decide +kernel
theorem dL_law_147 : decode cL_law 147 = .ok (.iload 5, 2) := by decide +kernel
theorem dL_law_149 : decode cL_law 149 = .ok (.iconst 1, 1) := by decide +kernel
theorem dL_law_150 : decode cL_law 150 = .ok (.iadd, 1) := by decide +kernel
theorem dL_law_151 : decode cL_law 151 = .ok (.iaload, 1) := by decide +kernel
theorem dL_law_152 : decode cL_law 152 = .ok (.aload_n 0, 1) := by decide +kernel
theorem dL_law_153 : decode cL_law 153 = .ok (.iload 5, 2) := by decide +kernel
theorem dL_law_155 : decode cL_law 155 = .ok (.iconst 2, 1) := by decide +kernel
theorem dL_law_156 : decode cL_law 156 = .ok (.iadd, 1) := by decide +kernel
theorem dL_law_157 : decode cL_law 157 = .ok (.iaload, 1) := by decide +kernel
theorem dL_law_158 : decode cL_law 158 = .ok (.aload_n 0, 1) := by decide +kernel
theorem dL_law_159 : decode cL_law 159 = .ok (.iload 5, 2) := by decide +kernel
theorem dL_law_161 : decode cL_law 161 = .ok (.iconst 3, 1) := by decide +kernel
theorem dL_law_162 : decode cL_law 162 = .ok (.iadd, 1) := by decide +kernel
theorem dL_law_163 : decode cL_law 163 = .ok (.iaload, 1) := by decide +kernel
theorem dL_law_164 : decode cL_law 164 = .ok (.aload_n 0, 1) := by decide +kernel
theorem dL_law_165 : decode cL_law 165 = .ok (.iload 5, 2) := by decide +kernel
theorem dL_law_167 : decode cL_law 167 = .ok (.iconst 4, 1) := by decide +kernel
theorem dL_law_168 : decode cL_law 168 = .ok (.iadd, 1) := by decide +kernel
theorem dL_law_169 : decode cL_law 169 = .ok (.iaload, 1) := by decide +kernel
theorem dL_law_170 : decode cL_law 170 = .ok (.aload_n 0, 1) := by decide +kernel
theorem dL_law_171 : decode cL_law 171 = .ok (.iload 5, 2) := by decide +kernel
theorem dL_law_173 : decode cL_law 173 = .ok (.iconst 5, 1) := by decide +kernel
theorem dL_law_174 : decode cL_law 174 = .ok (.iadd, 1) := by decide +kernel
theorem dL_law_175 : decode cL_law 175 = .ok (.iaload, 1) := by decide +kernel
theorem dL_law_176 : decode cL_law 176 = .ok (.invokevirtual 65, 3) := by decide +kernel
theorem dL_law_179 : decode cL_law 179 = .ok (.istore 7, 2) := by decide +kernel
theorem dL_law_181 : decode cL_law 181 = .ok (.aload_n 2, 1) := by decide +kernel
theorem dL_law_182 : decode cL_law 182 = .ok (.invokevirtual 66, 3) := by decide +kernel
theorem dL_law_185 : decode cL_law 185 = .ok (.iload 6, 2) := by decide +kernel
theorem dL_law_187 : decode cL_law 187 = .ok (.if_icmp .eq 5, 3) := by decide +kernel
theorem dL_law_190 : decode cL_law 190 = .ok (.iconst 0, 1) := by decide +kernel
theorem dL_law_191 : decode cL_law 191 = .ok (.ireturn, 1) := by decide +kernel
theorem dL_law_192 : decode cL_law 192 = .ok (.iload 6, 2) := by decide +kernel
theorem dL_law_194 : decode cL_law 194 = .ok (.ifCond .ne 15, 3) := by decide +kernel
theorem dL_law_197 : decode cL_law 197 = .ok (.aload_n 3, 1) := by decide +kernel
theorem dL_law_198 : decode cL_law 198 = .ok (.iconst 0, 1) := by decide +kernel
theorem dL_law_199 : decode cL_law 199 = .ok (.laload, 1) := by decide +kernel
theorem dL_law_200 : decode cL_law 200 = .ok (.iload 7, 2) := by decide +kernel
theorem dL_law_202 : decode cL_law 202 = .ok (.i2l, 1) := by decide +kernel
theorem dL_law_203 : decode cL_law 203 = .ok (.lcmp, 1) := by decide +kernel
theorem dL_law_204 : decode cL_law 204 = .ok (.ifCond .eq 5, 3) := by decide +kernel
theorem dL_law_207 : decode cL_law 207 = .ok (.iconst 0, 1) := by decide +kernel
theorem dL_law_208 : decode cL_law 208 = .ok (.ireturn, 1) := by decide +kernel
theorem dL_law_209 : decode cL_law 209 = .ok (.goto 761, 3) := by decide +kernel
theorem dL_law_212 : decode cL_law 212 = .ok (.aload_n 1, 1) := by decide +kernel
theorem dL_law_213 : decode cL_law 213 = .ok (.aload_n 0, 1) := by decide +kernel
theorem dL_law_214 : decode cL_law 214 = .ok (.iload 5, 2) := by decide +kernel
theorem dL_law_216 : decode cL_law 216 = .ok (.iconst 1, 1) := by decide +kernel
theorem dL_law_217 : decode cL_law 217 = .ok (.iadd, 1) := by decide +kernel
theorem dL_law_218 : decode cL_law 218 = .ok (.iaload, 1) := by decide +kernel
theorem dL_law_219 : decode cL_law 219 = .ok (.aload_n 0, 1) := by decide +kernel
theorem dL_law_220 : decode cL_law 220 = .ok (.iload 5, 2) := by decide +kernel
theorem dL_law_222 : decode cL_law 222 = .ok (.iconst 2, 1) := by decide +kernel
theorem dL_law_223 : decode cL_law 223 = .ok (.iadd, 1) := by decide +kernel
theorem dL_law_224 : decode cL_law 224 = .ok (.iaload, 1) := by decide +kernel
theorem dL_law_225 : decode cL_law 225 = .ok (.aload_n 3, 1) := by decide +kernel
theorem dL_law_226 : decode cL_law 226 = .ok (.invokestatic 70, 3) := by decide +kernel
theorem dL_law_229 : decode cL_law 229 = .ok (.istore 6, 2) := by decide +kernel
theorem dL_law_231 : decode cL_law 231 = .ok (.aload_n 2, 1) := by decide +kernel
theorem dL_law_232 : decode cL_law 232 = .ok (.aload_n 0, 1) := by decide +kernel
theorem dL_law_233 : decode cL_law 233 = .ok (.iload 5, 2) := by decide +kernel
theorem dL_law_235 : decode cL_law 235 = .ok (.iconst 1, 1) := by decide +kernel
theorem dL_law_236 : decode cL_law 236 = .ok (.iadd, 1) := by decide +kernel
theorem dL_law_237 : decode cL_law 237 = .ok (.iaload, 1) := by decide +kernel
theorem dL_law_238 : decode cL_law 238 = .ok (.aload_n 0, 1) := by decide +kernel
theorem dL_law_239 : decode cL_law 239 = .ok (.iload 5, 2) := by decide +kernel
theorem dL_law_241 : decode cL_law 241 = .ok (.iconst 2, 1) := by decide +kernel
theorem dL_law_242 : decode cL_law 242 = .ok (.iadd, 1) := by decide +kernel
theorem dL_law_243 : decode cL_law 243 = .ok (.iaload, 1) := by decide +kernel
theorem dL_law_244 : decode cL_law 244 = .ok (.invokevirtual 73, 3) := by decide +kernel
theorem dL_law_247 : decode cL_law 247 = .ok (.istore 7, 2) := by decide +kernel
theorem dL_law_249 : decode cL_law 249 = .ok (.aload_n 2, 1) := by decide +kernel
theorem dL_law_250 : decode cL_law 250 = .ok (.invokevirtual 66, 3) := by decide +kernel
theorem dL_law_253 : decode cL_law 253 = .ok (.iload 6, 2) := by decide +kernel
theorem dL_law_255 : decode cL_law 255 = .ok (.if_icmp .eq 5, 3) := by decide +kernel
theorem dL_law_258 : decode cL_law 258 = .ok (.iconst 0, 1) := by decide +kernel
theorem dL_law_259 : decode cL_law 259 = .ok (.ireturn, 1) := by decide +kernel
theorem dL_law_260 : decode cL_law 260 = .ok (.iload 6, 2) := by decide +kernel
theorem dL_law_262 : decode cL_law 262 = .ok (.ifCond .ne 15, 3) := by decide +kernel
theorem dL_law_265 : decode cL_law 265 = .ok (.aload_n 3, 1) := by decide +kernel
theorem dL_law_266 : decode cL_law 266 = .ok (.iconst 0, 1) := by decide +kernel
theorem dL_law_267 : decode cL_law 267 = .ok (.laload, 1) := by decide +kernel
theorem dL_law_268 : decode cL_law 268 = .ok (.iload 7, 2) := by decide +kernel
theorem dL_law_270 : decode cL_law 270 = .ok (.i2l, 1) := by decide +kernel
theorem dL_law_271 : decode cL_law 271 = .ok (.lcmp, 1) := by decide +kernel
theorem dL_law_272 : decode cL_law 272 = .ok (.ifCond .eq 5, 3) := by decide +kernel
theorem dL_law_275 : decode cL_law 275 = .ok (.iconst 0, 1) := by decide +kernel
theorem dL_law_276 : decode cL_law 276 = .ok (.ireturn, 1) := by decide +kernel
theorem dL_law_277 : decode cL_law 277 = .ok (.goto 693, 3) := by decide +kernel
theorem dL_law_280 : decode cL_law 280 = .ok (.aload_n 1, 1) := by decide +kernel
theorem dL_law_281 : decode cL_law 281 = .ok (.aload_n 0, 1) := by decide +kernel
theorem dL_law_282 : decode cL_law 282 = .ok (.iload 5, 2) := by decide +kernel
theorem dL_law_284 : decode cL_law 284 = .ok (.iconst 1, 1) := by decide +kernel
theorem dL_law_285 : decode cL_law 285 = .ok (.iadd, 1) := by decide +kernel
theorem dL_law_286 : decode cL_law 286 = .ok (.iaload, 1) := by decide +kernel
theorem dL_law_287 : decode cL_law 287 = .ok (.aload_n 0, 1) := by decide +kernel
theorem dL_law_288 : decode cL_law 288 = .ok (.iload 5, 2) := by decide +kernel
theorem dL_law_290 : decode cL_law 290 = .ok (.iconst 2, 1) := by decide +kernel
theorem dL_law_291 : decode cL_law 291 = .ok (.iadd, 1) := by decide +kernel
theorem dL_law_292 : decode cL_law 292 = .ok (.iaload, 1) := by decide +kernel
theorem dL_law_293 : decode cL_law 293 = .ok (.aload_n 0, 1) := by decide +kernel
theorem dL_law_294 : decode cL_law 294 = .ok (.iload 5, 2) := by decide +kernel
theorem dL_law_296 : decode cL_law 296 = .ok (.iconst 3, 1) := by decide +kernel
theorem dL_law_297 : decode cL_law 297 = .ok (.iadd, 1) := by decide +kernel
theorem dL_law_298 : decode cL_law 298 = .ok (.iaload, 1) := by decide +kernel
theorem dL_law_299 : decode cL_law 299 = .ok (.aload_n 0, 1) := by decide +kernel
theorem dL_law_300 : decode cL_law 300 = .ok (.iload 5, 2) := by decide +kernel
theorem dL_law_302 : decode cL_law 302 = .ok (.iconst 4, 1) := by decide +kernel
theorem dL_law_303 : decode cL_law 303 = .ok (.iadd, 1) := by decide +kernel
theorem dL_law_304 : decode cL_law 304 = .ok (.iaload, 1) := by decide +kernel
theorem dL_law_305 : decode cL_law 305 = .ok (.aload_n 0, 1) := by decide +kernel
theorem dL_law_306 : decode cL_law 306 = .ok (.iload 5, 2) := by decide +kernel
theorem dL_law_308 : decode cL_law 308 = .ok (.iconst 5, 1) := by decide +kernel
theorem dL_law_309 : decode cL_law 309 = .ok (.iadd, 1) := by decide +kernel
theorem dL_law_310 : decode cL_law 310 = .ok (.iaload, 1) := by decide +kernel
theorem dL_law_311 : decode cL_law 311 = .ok (.aload_n 3, 1) := by decide +kernel
theorem dL_law_312 : decode cL_law 312 = .ok (.invokestatic 74, 3) := by decide +kernel
theorem dL_law_315 : decode cL_law 315 = .ok (.istore 6, 2) := by decide +kernel
theorem dL_law_317 : decode cL_law 317 = .ok (.aload_n 2, 1) := by decide +kernel
theorem dL_law_318 : decode cL_law 318 = .ok (.aload_n 0, 1) := by decide +kernel
theorem dL_law_319 : decode cL_law 319 = .ok (.iload 5, 2) := by decide +kernel
theorem dL_law_321 : decode cL_law 321 = .ok (.iconst 1, 1) := by decide +kernel
theorem dL_law_322 : decode cL_law 322 = .ok (.iadd, 1) := by decide +kernel
theorem dL_law_323 : decode cL_law 323 = .ok (.iaload, 1) := by decide +kernel
theorem dL_law_324 : decode cL_law 324 = .ok (.aload_n 0, 1) := by decide +kernel
theorem dL_law_325 : decode cL_law 325 = .ok (.iload 5, 2) := by decide +kernel
theorem dL_law_327 : decode cL_law 327 = .ok (.iconst 2, 1) := by decide +kernel
theorem dL_law_328 : decode cL_law 328 = .ok (.iadd, 1) := by decide +kernel
theorem dL_law_329 : decode cL_law 329 = .ok (.iaload, 1) := by decide +kernel
theorem dL_law_330 : decode cL_law 330 = .ok (.aload_n 0, 1) := by decide +kernel
theorem dL_law_331 : decode cL_law 331 = .ok (.iload 5, 2) := by decide +kernel
theorem dL_law_333 : decode cL_law 333 = .ok (.iconst 3, 1) := by decide +kernel
theorem dL_law_334 : decode cL_law 334 = .ok (.iadd, 1) := by decide +kernel
theorem dL_law_335 : decode cL_law 335 = .ok (.iaload, 1) := by decide +kernel
theorem dL_law_336 : decode cL_law 336 = .ok (.aload_n 0, 1) := by decide +kernel
theorem dL_law_337 : decode cL_law 337 = .ok (.iload 5, 2) := by decide +kernel
theorem dL_law_339 : decode cL_law 339 = .ok (.iconst 4, 1) := by decide +kernel
theorem dL_law_340 : decode cL_law 340 = .ok (.iadd, 1) := by decide +kernel
theorem dL_law_341 : decode cL_law 341 = .ok (.iaload, 1) := by decide +kernel
theorem dL_law_342 : decode cL_law 342 = .ok (.aload_n 0, 1) := by decide +kernel
theorem dL_law_343 : decode cL_law 343 = .ok (.iload 5, 2) := by decide +kernel
theorem dL_law_345 : decode cL_law 345 = .ok (.iconst 5, 1) := by decide +kernel
theorem dL_law_346 : decode cL_law 346 = .ok (.iadd, 1) := by decide +kernel
theorem dL_law_347 : decode cL_law 347 = .ok (.iaload, 1) := by decide +kernel
theorem dL_law_348 : decode cL_law 348 = .ok (.invokevirtual 76, 3) := by decide +kernel
theorem dL_law_351 : decode cL_law 351 = .ok (.istore 7, 2) := by decide +kernel
theorem dL_law_353 : decode cL_law 353 = .ok (.aload_n 2, 1) := by decide +kernel
theorem dL_law_354 : decode cL_law 354 = .ok (.invokevirtual 66, 3) := by decide +kernel
theorem dL_law_357 : decode cL_law 357 = .ok (.iload 6, 2) := by decide +kernel
theorem dL_law_359 : decode cL_law 359 = .ok (.if_icmp .eq 5, 3) := by decide +kernel
theorem dL_law_362 : decode cL_law 362 = .ok (.iconst 0, 1) := by decide +kernel
theorem dL_law_363 : decode cL_law 363 = .ok (.ireturn, 1) := by decide +kernel
theorem dL_law_364 : decode cL_law 364 = .ok (.iload 6, 2) := by decide +kernel
theorem dL_law_366 : decode cL_law 366 = .ok (.ifCond .ne 15, 3) := by decide +kernel
theorem dL_law_369 : decode cL_law 369 = .ok (.aload_n 3, 1) := by decide +kernel
theorem dL_law_370 : decode cL_law 370 = .ok (.iconst 0, 1) := by decide +kernel
theorem dL_law_371 : decode cL_law 371 = .ok (.laload, 1) := by decide +kernel
theorem dL_law_372 : decode cL_law 372 = .ok (.iload 7, 2) := by decide +kernel
theorem dL_law_374 : decode cL_law 374 = .ok (.i2l, 1) := by decide +kernel
theorem dL_law_375 : decode cL_law 375 = .ok (.lcmp, 1) := by decide +kernel
theorem dL_law_376 : decode cL_law 376 = .ok (.ifCond .eq 5, 3) := by decide +kernel
theorem dL_law_379 : decode cL_law 379 = .ok (.iconst 0, 1) := by decide +kernel
theorem dL_law_380 : decode cL_law 380 = .ok (.ireturn, 1) := by decide +kernel
theorem dL_law_381 : decode cL_law 381 = .ok (.goto 589, 3) := by decide +kernel
theorem dL_law_384 : decode cL_law 384 = .ok (.aload_n 1, 1) := by decide +kernel
theorem dL_law_385 : decode cL_law 385 = .ok (.aload_n 0, 1) := by decide +kernel
theorem dL_law_386 : decode cL_law 386 = .ok (.iload 5, 2) := by decide +kernel
theorem dL_law_388 : decode cL_law 388 = .ok (.iconst 1, 1) := by decide +kernel
theorem dL_law_389 : decode cL_law 389 = .ok (.iadd, 1) := by decide +kernel
theorem dL_law_390 : decode cL_law 390 = .ok (.iaload, 1) := by decide +kernel
theorem dL_law_391 : decode cL_law 391 = .ok (.aload_n 0, 1) := by decide +kernel
theorem dL_law_392 : decode cL_law 392 = .ok (.iload 5, 2) := by decide +kernel
theorem dL_law_394 : decode cL_law 394 = .ok (.iconst 2, 1) := by decide +kernel
theorem dL_law_395 : decode cL_law 395 = .ok (.iadd, 1) := by decide +kernel
theorem dL_law_396 : decode cL_law 396 = .ok (.iaload, 1) := by decide +kernel
theorem dL_law_397 : decode cL_law 397 = .ok (.aload_n 0, 1) := by decide +kernel
theorem dL_law_398 : decode cL_law 398 = .ok (.iload 5, 2) := by decide +kernel
theorem dL_law_400 : decode cL_law 400 = .ok (.iconst 3, 1) := by decide +kernel
theorem dL_law_401 : decode cL_law 401 = .ok (.iadd, 1) := by decide +kernel
theorem dL_law_402 : decode cL_law 402 = .ok (.iaload, 1) := by decide +kernel
theorem dL_law_403 : decode cL_law 403 = .ok (.aload_n 3, 1) := by decide +kernel
theorem dL_law_404 : decode cL_law 404 = .ok (.invokestatic 77, 3) := by decide +kernel
theorem dL_law_407 : decode cL_law 407 = .ok (.istore 6, 2) := by decide +kernel
theorem dL_law_409 : decode cL_law 409 = .ok (.aload_n 2, 1) := by decide +kernel
theorem dL_law_410 : decode cL_law 410 = .ok (.aload_n 0, 1) := by decide +kernel
theorem dL_law_411 : decode cL_law 411 = .ok (.iload 5, 2) := by decide +kernel
theorem dL_law_413 : decode cL_law 413 = .ok (.iconst 1, 1) := by decide +kernel
theorem dL_law_414 : decode cL_law 414 = .ok (.iadd, 1) := by decide +kernel
theorem dL_law_415 : decode cL_law 415 = .ok (.iaload, 1) := by decide +kernel
theorem dL_law_416 : decode cL_law 416 = .ok (.aload_n 0, 1) := by decide +kernel
theorem dL_law_417 : decode cL_law 417 = .ok (.iload 5, 2) := by decide +kernel
theorem dL_law_419 : decode cL_law 419 = .ok (.iconst 2, 1) := by decide +kernel
theorem dL_law_420 : decode cL_law 420 = .ok (.iadd, 1) := by decide +kernel
theorem dL_law_421 : decode cL_law 421 = .ok (.iaload, 1) := by decide +kernel
theorem dL_law_422 : decode cL_law 422 = .ok (.aload_n 0, 1) := by decide +kernel
theorem dL_law_423 : decode cL_law 423 = .ok (.iload 5, 2) := by decide +kernel
theorem dL_law_425 : decode cL_law 425 = .ok (.iconst 3, 1) := by decide +kernel
theorem dL_law_426 : decode cL_law 426 = .ok (.iadd, 1) := by decide +kernel
theorem dL_law_427 : decode cL_law 427 = .ok (.iaload, 1) := by decide +kernel
theorem dL_law_428 : decode cL_law 428 = .ok (.invokevirtual 80, 3) := by decide +kernel
theorem dL_law_431 : decode cL_law 431 = .ok (.istore 7, 2) := by decide +kernel
theorem dL_law_433 : decode cL_law 433 = .ok (.aload_n 2, 1) := by decide +kernel
theorem dL_law_434 : decode cL_law 434 = .ok (.invokevirtual 66, 3) := by decide +kernel
theorem dL_law_437 : decode cL_law 437 = .ok (.iload 6, 2) := by decide +kernel
theorem dL_law_439 : decode cL_law 439 = .ok (.if_icmp .eq 5, 3) := by decide +kernel
theorem dL_law_442 : decode cL_law 442 = .ok (.iconst 0, 1) := by decide +kernel
theorem dL_law_443 : decode cL_law 443 = .ok (.ireturn, 1) := by decide +kernel
theorem dL_law_444 : decode cL_law 444 = .ok (.iload 6, 2) := by decide +kernel
theorem dL_law_446 : decode cL_law 446 = .ok (.ifCond .ne 15, 3) := by decide +kernel
theorem dL_law_449 : decode cL_law 449 = .ok (.aload_n 3, 1) := by decide +kernel
theorem dL_law_450 : decode cL_law 450 = .ok (.iconst 0, 1) := by decide +kernel
theorem dL_law_451 : decode cL_law 451 = .ok (.laload, 1) := by decide +kernel
theorem dL_law_452 : decode cL_law 452 = .ok (.iload 7, 2) := by decide +kernel
theorem dL_law_454 : decode cL_law 454 = .ok (.i2l, 1) := by decide +kernel
theorem dL_law_455 : decode cL_law 455 = .ok (.lcmp, 1) := by decide +kernel
theorem dL_law_456 : decode cL_law 456 = .ok (.ifCond .eq 5, 3) := by decide +kernel
theorem dL_law_459 : decode cL_law 459 = .ok (.iconst 0, 1) := by decide +kernel
theorem dL_law_460 : decode cL_law 460 = .ok (.ireturn, 1) := by decide +kernel
theorem dL_law_461 : decode cL_law 461 = .ok (.goto 509, 3) := by decide +kernel
theorem dL_law_464 : decode cL_law 464 = .ok (.aload_n 1, 1) := by decide +kernel
theorem dL_law_465 : decode cL_law 465 = .ok (.aload_n 0, 1) := by decide +kernel
theorem dL_law_466 : decode cL_law 466 = .ok (.iload 5, 2) := by decide +kernel
theorem dL_law_468 : decode cL_law 468 = .ok (.iconst 1, 1) := by decide +kernel
theorem dL_law_469 : decode cL_law 469 = .ok (.iadd, 1) := by decide +kernel
theorem dL_law_470 : decode cL_law 470 = .ok (.iaload, 1) := by decide +kernel
theorem dL_law_471 : decode cL_law 471 = .ok (.aload_n 3, 1) := by decide +kernel
theorem dL_law_472 : decode cL_law 472 = .ok (.invokestatic 81, 3) := by decide +kernel
theorem dL_law_475 : decode cL_law 475 = .ok (.istore 6, 2) := by decide +kernel
theorem dL_law_477 : decode cL_law 477 = .ok (.aload_n 2, 1) := by decide +kernel
theorem dL_law_478 : decode cL_law 478 = .ok (.aload_n 0, 1) := by decide +kernel
theorem dL_law_479 : decode cL_law 479 = .ok (.iload 5, 2) := by decide +kernel
theorem dL_law_481 : decode cL_law 481 = .ok (.iconst 1, 1) := by decide +kernel
theorem dL_law_482 : decode cL_law 482 = .ok (.iadd, 1) := by decide +kernel
theorem dL_law_483 : decode cL_law 483 = .ok (.iaload, 1) := by decide +kernel
theorem dL_law_484 : decode cL_law 484 = .ok (.invokevirtual 84, 3) := by decide +kernel
theorem dL_law_487 : decode cL_law 487 = .ok (.istore 7, 2) := by decide +kernel
theorem dL_law_489 : decode cL_law 489 = .ok (.aload_n 2, 1) := by decide +kernel
theorem dL_law_490 : decode cL_law 490 = .ok (.invokevirtual 66, 3) := by decide +kernel
theorem dL_law_493 : decode cL_law 493 = .ok (.iload 6, 2) := by decide +kernel
theorem dL_law_495 : decode cL_law 495 = .ok (.if_icmp .eq 5, 3) := by decide +kernel
theorem dL_law_498 : decode cL_law 498 = .ok (.iconst 0, 1) := by decide +kernel
theorem dL_law_499 : decode cL_law 499 = .ok (.ireturn, 1) := by decide +kernel
theorem dL_law_500 : decode cL_law 500 = .ok (.iload 6, 2) := by decide +kernel
theorem dL_law_502 : decode cL_law 502 = .ok (.ifCond .ne 15, 3) := by decide +kernel
theorem dL_law_505 : decode cL_law 505 = .ok (.aload_n 3, 1) := by decide +kernel
theorem dL_law_506 : decode cL_law 506 = .ok (.iconst 0, 1) := by decide +kernel
theorem dL_law_507 : decode cL_law 507 = .ok (.laload, 1) := by decide +kernel
theorem dL_law_508 : decode cL_law 508 = .ok (.iload 7, 2) := by decide +kernel
theorem dL_law_510 : decode cL_law 510 = .ok (.i2l, 1) := by decide +kernel
theorem dL_law_511 : decode cL_law 511 = .ok (.lcmp, 1) := by decide +kernel
theorem dL_law_512 : decode cL_law 512 = .ok (.ifCond .eq 5, 3) := by decide +kernel
theorem dL_law_515 : decode cL_law 515 = .ok (.iconst 0, 1) := by decide +kernel
theorem dL_law_516 : decode cL_law 516 = .ok (.ireturn, 1) := by decide +kernel
theorem dL_law_517 : decode cL_law 517 = .ok (.goto 453, 3) := by decide +kernel
theorem dL_law_520 : decode cL_law 520 = .ok (.aload_n 1, 1) := by decide +kernel
theorem dL_law_521 : decode cL_law 521 = .ok (.aload_n 0, 1) := by decide +kernel
theorem dL_law_522 : decode cL_law 522 = .ok (.iload 5, 2) := by decide +kernel
theorem dL_law_524 : decode cL_law 524 = .ok (.iconst 1, 1) := by decide +kernel
theorem dL_law_525 : decode cL_law 525 = .ok (.iadd, 1) := by decide +kernel
theorem dL_law_526 : decode cL_law 526 = .ok (.iaload, 1) := by decide +kernel
theorem dL_law_527 : decode cL_law 527 = .ok (.aload_n 3, 1) := by decide +kernel
theorem dL_law_528 : decode cL_law 528 = .ok (.invokestatic 85, 3) := by decide +kernel
theorem dL_law_531 : decode cL_law 531 = .ok (.istore 6, 2) := by decide +kernel
theorem dL_law_533 : decode cL_law 533 = .ok (.aload_n 2, 1) := by decide +kernel
theorem dL_law_534 : decode cL_law 534 = .ok (.aload_n 0, 1) := by decide +kernel
theorem dL_law_535 : decode cL_law 535 = .ok (.iload 5, 2) := by decide +kernel
theorem dL_law_537 : decode cL_law 537 = .ok (.iconst 1, 1) := by decide +kernel
theorem dL_law_538 : decode cL_law 538 = .ok (.iadd, 1) := by decide +kernel
theorem dL_law_539 : decode cL_law 539 = .ok (.iaload, 1) := by decide +kernel
theorem dL_law_540 : decode cL_law 540 = .ok (.invokevirtual 87, 3) := by decide +kernel
theorem dL_law_543 : decode cL_law 543 = .ok (.istore 7, 2) := by decide +kernel
theorem dL_law_545 : decode cL_law 545 = .ok (.aload_n 2, 1) := by decide +kernel
theorem dL_law_546 : decode cL_law 546 = .ok (.invokevirtual 66, 3) := by decide +kernel
theorem dL_law_549 : decode cL_law 549 = .ok (.iload 6, 2) := by decide +kernel
theorem dL_law_551 : decode cL_law 551 = .ok (.if_icmp .eq 5, 3) := by decide +kernel
theorem dL_law_554 : decode cL_law 554 = .ok (.iconst 0, 1) := by decide +kernel
theorem dL_law_555 : decode cL_law 555 = .ok (.ireturn, 1) := by decide +kernel
theorem dL_law_556 : decode cL_law 556 = .ok (.iload 6, 2) := by decide +kernel
theorem dL_law_558 : decode cL_law 558 = .ok (.ifCond .ne 15, 3) := by decide +kernel
theorem dL_law_561 : decode cL_law 561 = .ok (.aload_n 3, 1) := by decide +kernel
theorem dL_law_562 : decode cL_law 562 = .ok (.iconst 0, 1) := by decide +kernel
theorem dL_law_563 : decode cL_law 563 = .ok (.laload, 1) := by decide +kernel
theorem dL_law_564 : decode cL_law 564 = .ok (.iload 7, 2) := by decide +kernel
theorem dL_law_566 : decode cL_law 566 = .ok (.i2l, 1) := by decide +kernel
theorem dL_law_567 : decode cL_law 567 = .ok (.lcmp, 1) := by decide +kernel
theorem dL_law_568 : decode cL_law 568 = .ok (.ifCond .eq 5, 3) := by decide +kernel
theorem dL_law_571 : decode cL_law 571 = .ok (.iconst 0, 1) := by decide +kernel
theorem dL_law_572 : decode cL_law 572 = .ok (.ireturn, 1) := by decide +kernel
theorem dL_law_573 : decode cL_law 573 = .ok (.goto 397, 3) := by decide +kernel
theorem dL_law_576 : decode cL_law 576 = .ok (.aload_n 1, 1) := by decide +kernel
theorem dL_law_577 : decode cL_law 577 = .ok (.aload_n 0, 1) := by decide +kernel
theorem dL_law_578 : decode cL_law 578 = .ok (.iload 5, 2) := by decide +kernel
theorem dL_law_580 : decode cL_law 580 = .ok (.iconst 1, 1) := by decide +kernel
theorem dL_law_581 : decode cL_law 581 = .ok (.iadd, 1) := by decide +kernel
theorem dL_law_582 : decode cL_law 582 = .ok (.iaload, 1) := by decide +kernel
theorem dL_law_583 : decode cL_law 583 = .ok (.aload_n 0, 1) := by decide +kernel
theorem dL_law_584 : decode cL_law 584 = .ok (.iload 5, 2) := by decide +kernel
theorem dL_law_586 : decode cL_law 586 = .ok (.iconst 2, 1) := by decide +kernel
theorem dL_law_587 : decode cL_law 587 = .ok (.iadd, 1) := by decide +kernel
theorem dL_law_588 : decode cL_law 588 = .ok (.iaload, 1) := by decide +kernel
theorem dL_law_589 : decode cL_law 589 = .ok (.aload_n 3, 1) := by decide +kernel
theorem dL_law_590 : decode cL_law 590 = .ok (.invokestatic 88, 3) := by decide +kernel
theorem dL_law_593 : decode cL_law 593 = .ok (.istore 6, 2) := by decide +kernel
theorem dL_law_595 : decode cL_law 595 = .ok (.aload_n 2, 1) := by decide +kernel
theorem dL_law_596 : decode cL_law 596 = .ok (.aload_n 0, 1) := by decide +kernel
theorem dL_law_597 : decode cL_law 597 = .ok (.iload 5, 2) := by decide +kernel
theorem dL_law_599 : decode cL_law 599 = .ok (.iconst 1, 1) := by decide +kernel
theorem dL_law_600 : decode cL_law 600 = .ok (.iadd, 1) := by decide +kernel
theorem dL_law_601 : decode cL_law 601 = .ok (.iaload, 1) := by decide +kernel
theorem dL_law_602 : decode cL_law 602 = .ok (.aload_n 0, 1) := by decide +kernel
theorem dL_law_603 : decode cL_law 603 = .ok (.iload 5, 2) := by decide +kernel
theorem dL_law_605 : decode cL_law 605 = .ok (.iconst 2, 1) := by decide +kernel
theorem dL_law_606 : decode cL_law 606 = .ok (.iadd, 1) := by decide +kernel
theorem dL_law_607 : decode cL_law 607 = .ok (.iaload, 1) := by decide +kernel
theorem dL_law_608 : decode cL_law 608 = .ok (.invokevirtual 90, 3) := by decide +kernel
theorem dL_law_611 : decode cL_law 611 = .ok (.istore 7, 2) := by decide +kernel
theorem dL_law_613 : decode cL_law 613 = .ok (.aload_n 2, 1) := by decide +kernel
theorem dL_law_614 : decode cL_law 614 = .ok (.invokevirtual 66, 3) := by decide +kernel
theorem dL_law_617 : decode cL_law 617 = .ok (.iload 6, 2) := by decide +kernel
theorem dL_law_619 : decode cL_law 619 = .ok (.if_icmp .eq 5, 3) := by decide +kernel
theorem dL_law_622 : decode cL_law 622 = .ok (.iconst 0, 1) := by decide +kernel
theorem dL_law_623 : decode cL_law 623 = .ok (.ireturn, 1) := by decide +kernel
theorem dL_law_624 : decode cL_law 624 = .ok (.iload 6, 2) := by decide +kernel
theorem dL_law_626 : decode cL_law 626 = .ok (.ifCond .ne 15, 3) := by decide +kernel
theorem dL_law_629 : decode cL_law 629 = .ok (.aload_n 3, 1) := by decide +kernel
theorem dL_law_630 : decode cL_law 630 = .ok (.iconst 0, 1) := by decide +kernel
theorem dL_law_631 : decode cL_law 631 = .ok (.laload, 1) := by decide +kernel
theorem dL_law_632 : decode cL_law 632 = .ok (.iload 7, 2) := by decide +kernel
theorem dL_law_634 : decode cL_law 634 = .ok (.i2l, 1) := by decide +kernel
theorem dL_law_635 : decode cL_law 635 = .ok (.lcmp, 1) := by decide +kernel
theorem dL_law_636 : decode cL_law 636 = .ok (.ifCond .eq 5, 3) := by decide +kernel
theorem dL_law_639 : decode cL_law 639 = .ok (.iconst 0, 1) := by decide +kernel
theorem dL_law_640 : decode cL_law 640 = .ok (.ireturn, 1) := by decide +kernel
theorem dL_law_641 : decode cL_law 641 = .ok (.goto 329, 3) := by decide +kernel
theorem dL_law_644 : decode cL_law 644 = .ok (.aload_n 1, 1) := by decide +kernel
theorem dL_law_645 : decode cL_law 645 = .ok (.aload_n 0, 1) := by decide +kernel
theorem dL_law_646 : decode cL_law 646 = .ok (.iload 5, 2) := by decide +kernel
theorem dL_law_648 : decode cL_law 648 = .ok (.iconst 1, 1) := by decide +kernel
theorem dL_law_649 : decode cL_law 649 = .ok (.iadd, 1) := by decide +kernel
theorem dL_law_650 : decode cL_law 650 = .ok (.iaload, 1) := by decide +kernel
theorem dL_law_651 : decode cL_law 651 = .ok (.aload_n 0, 1) := by decide +kernel
theorem dL_law_652 : decode cL_law 652 = .ok (.iload 5, 2) := by decide +kernel
theorem dL_law_654 : decode cL_law 654 = .ok (.iconst 2, 1) := by decide +kernel
theorem dL_law_655 : decode cL_law 655 = .ok (.iadd, 1) := by decide +kernel
theorem dL_law_656 : decode cL_law 656 = .ok (.iaload, 1) := by decide +kernel
theorem dL_law_657 : decode cL_law 657 = .ok (.aload_n 3, 1) := by decide +kernel
theorem dL_law_658 : decode cL_law 658 = .ok (.invokestatic 91, 3) := by decide +kernel
theorem dL_law_661 : decode cL_law 661 = .ok (.istore 6, 2) := by decide +kernel
theorem dL_law_663 : decode cL_law 663 = .ok (.aload_n 2, 1) := by decide +kernel
theorem dL_law_664 : decode cL_law 664 = .ok (.aload_n 0, 1) := by decide +kernel
theorem dL_law_665 : decode cL_law 665 = .ok (.iload 5, 2) := by decide +kernel
theorem dL_law_667 : decode cL_law 667 = .ok (.iconst 1, 1) := by decide +kernel
theorem dL_law_668 : decode cL_law 668 = .ok (.iadd, 1) := by decide +kernel
theorem dL_law_669 : decode cL_law 669 = .ok (.iaload, 1) := by decide +kernel
theorem dL_law_670 : decode cL_law 670 = .ok (.aload_n 0, 1) := by decide +kernel
theorem dL_law_671 : decode cL_law 671 = .ok (.iload 5, 2) := by decide +kernel
theorem dL_law_673 : decode cL_law 673 = .ok (.iconst 2, 1) := by decide +kernel
theorem dL_law_674 : decode cL_law 674 = .ok (.iadd, 1) := by decide +kernel
theorem dL_law_675 : decode cL_law 675 = .ok (.iaload, 1) := by decide +kernel
theorem dL_law_676 : decode cL_law 676 = .ok (.invokevirtual 93, 3) := by decide +kernel
theorem dL_law_679 : decode cL_law 679 = .ok (.istore 7, 2) := by decide +kernel
theorem dL_law_681 : decode cL_law 681 = .ok (.aload_n 2, 1) := by decide +kernel
theorem dL_law_682 : decode cL_law 682 = .ok (.invokevirtual 66, 3) := by decide +kernel
theorem dL_law_685 : decode cL_law 685 = .ok (.iload 6, 2) := by decide +kernel
theorem dL_law_687 : decode cL_law 687 = .ok (.if_icmp .eq 5, 3) := by decide +kernel
theorem dL_law_690 : decode cL_law 690 = .ok (.iconst 0, 1) := by decide +kernel
theorem dL_law_691 : decode cL_law 691 = .ok (.ireturn, 1) := by decide +kernel
theorem dL_law_692 : decode cL_law 692 = .ok (.iload 6, 2) := by decide +kernel
theorem dL_law_694 : decode cL_law 694 = .ok (.ifCond .ne 15, 3) := by decide +kernel
theorem dL_law_697 : decode cL_law 697 = .ok (.aload_n 3, 1) := by decide +kernel
theorem dL_law_698 : decode cL_law 698 = .ok (.iconst 0, 1) := by decide +kernel
theorem dL_law_699 : decode cL_law 699 = .ok (.laload, 1) := by decide +kernel
theorem dL_law_700 : decode cL_law 700 = .ok (.iload 7, 2) := by decide +kernel
theorem dL_law_702 : decode cL_law 702 = .ok (.i2l, 1) := by decide +kernel
theorem dL_law_703 : decode cL_law 703 = .ok (.lcmp, 1) := by decide +kernel
theorem dL_law_704 : decode cL_law 704 = .ok (.ifCond .eq 5, 3) := by decide +kernel
theorem dL_law_707 : decode cL_law 707 = .ok (.iconst 0, 1) := by decide +kernel
theorem dL_law_708 : decode cL_law 708 = .ok (.ireturn, 1) := by decide +kernel
theorem dL_law_709 : decode cL_law 709 = .ok (.goto 261, 3) := by decide +kernel
theorem dL_law_712 : decode cL_law 712 = .ok (.aload_n 1, 1) := by decide +kernel
theorem dL_law_713 : decode cL_law 713 = .ok (.aload_n 0, 1) := by decide +kernel
theorem dL_law_714 : decode cL_law 714 = .ok (.iload 5, 2) := by decide +kernel
theorem dL_law_716 : decode cL_law 716 = .ok (.iconst 1, 1) := by decide +kernel
theorem dL_law_717 : decode cL_law 717 = .ok (.iadd, 1) := by decide +kernel
theorem dL_law_718 : decode cL_law 718 = .ok (.iaload, 1) := by decide +kernel
theorem dL_law_719 : decode cL_law 719 = .ok (.aload_n 0, 1) := by decide +kernel
theorem dL_law_720 : decode cL_law 720 = .ok (.iload 5, 2) := by decide +kernel
theorem dL_law_722 : decode cL_law 722 = .ok (.iconst 2, 1) := by decide +kernel
theorem dL_law_723 : decode cL_law 723 = .ok (.iadd, 1) := by decide +kernel
theorem dL_law_724 : decode cL_law 724 = .ok (.iaload, 1) := by decide +kernel
theorem dL_law_725 : decode cL_law 725 = .ok (.aload_n 3, 1) := by decide +kernel
theorem dL_law_726 : decode cL_law 726 = .ok (.invokestatic 94, 3) := by decide +kernel
theorem dL_law_729 : decode cL_law 729 = .ok (.istore 6, 2) := by decide +kernel
theorem dL_law_731 : decode cL_law 731 = .ok (.aload_n 2, 1) := by decide +kernel
theorem dL_law_732 : decode cL_law 732 = .ok (.aload_n 0, 1) := by decide +kernel
theorem dL_law_733 : decode cL_law 733 = .ok (.iload 5, 2) := by decide +kernel
theorem dL_law_735 : decode cL_law 735 = .ok (.iconst 1, 1) := by decide +kernel
theorem dL_law_736 : decode cL_law 736 = .ok (.iadd, 1) := by decide +kernel
theorem dL_law_737 : decode cL_law 737 = .ok (.iaload, 1) := by decide +kernel
theorem dL_law_738 : decode cL_law 738 = .ok (.aload_n 0, 1) := by decide +kernel
theorem dL_law_739 : decode cL_law 739 = .ok (.iload 5, 2) := by decide +kernel
theorem dL_law_741 : decode cL_law 741 = .ok (.iconst 2, 1) := by decide +kernel
theorem dL_law_742 : decode cL_law 742 = .ok (.iadd, 1) := by decide +kernel
theorem dL_law_743 : decode cL_law 743 = .ok (.iaload, 1) := by decide +kernel
theorem dL_law_744 : decode cL_law 744 = .ok (.invokevirtual 96, 3) := by decide +kernel
theorem dL_law_747 : decode cL_law 747 = .ok (.istore 7, 2) := by decide +kernel
theorem dL_law_749 : decode cL_law 749 = .ok (.aload_n 2, 1) := by decide +kernel
theorem dL_law_750 : decode cL_law 750 = .ok (.invokevirtual 66, 3) := by decide +kernel
theorem dL_law_753 : decode cL_law 753 = .ok (.iload 6, 2) := by decide +kernel
theorem dL_law_755 : decode cL_law 755 = .ok (.if_icmp .eq 5, 3) := by decide +kernel
theorem dL_law_758 : decode cL_law 758 = .ok (.iconst 0, 1) := by decide +kernel
theorem dL_law_759 : decode cL_law 759 = .ok (.ireturn, 1) := by decide +kernel
theorem dL_law_760 : decode cL_law 760 = .ok (.iload 6, 2) := by decide +kernel
theorem dL_law_762 : decode cL_law 762 = .ok (.ifCond .ne 15, 3) := by decide +kernel
theorem dL_law_765 : decode cL_law 765 = .ok (.aload_n 3, 1) := by decide +kernel
theorem dL_law_766 : decode cL_law 766 = .ok (.iconst 0, 1) := by decide +kernel
theorem dL_law_767 : decode cL_law 767 = .ok (.laload, 1) := by decide +kernel
theorem dL_law_768 : decode cL_law 768 = .ok (.iload 7, 2) := by decide +kernel
theorem dL_law_770 : decode cL_law 770 = .ok (.i2l, 1) := by decide +kernel
theorem dL_law_771 : decode cL_law 771 = .ok (.lcmp, 1) := by decide +kernel
theorem dL_law_772 : decode cL_law 772 = .ok (.ifCond .eq 5, 3) := by decide +kernel
theorem dL_law_775 : decode cL_law 775 = .ok (.iconst 0, 1) := by decide +kernel
theorem dL_law_776 : decode cL_law 776 = .ok (.ireturn, 1) := by decide +kernel
theorem dL_law_777 : decode cL_law 777 = .ok (.goto 193, 3) := by decide +kernel
theorem dL_law_780 : decode cL_law 780 = .ok (.aload_n 1, 1) := by decide +kernel
theorem dL_law_781 : decode cL_law 781 = .ok (.aload_n 0, 1) := by decide +kernel
theorem dL_law_782 : decode cL_law 782 = .ok (.iload 5, 2) := by decide +kernel
theorem dL_law_784 : decode cL_law 784 = .ok (.iconst 1, 1) := by decide +kernel
theorem dL_law_785 : decode cL_law 785 = .ok (.iadd, 1) := by decide +kernel
theorem dL_law_786 : decode cL_law 786 = .ok (.iaload, 1) := by decide +kernel
theorem dL_law_787 : decode cL_law 787 = .ok (.aload_n 3, 1) := by decide +kernel
theorem dL_law_788 : decode cL_law 788 = .ok (.invokestatic 97, 3) := by decide +kernel
theorem dL_law_791 : decode cL_law 791 = .ok (.istore 6, 2) := by decide +kernel
theorem dL_law_793 : decode cL_law 793 = .ok (.aload_n 2, 1) := by decide +kernel
theorem dL_law_794 : decode cL_law 794 = .ok (.aload_n 0, 1) := by decide +kernel
theorem dL_law_795 : decode cL_law 795 = .ok (.iload 5, 2) := by decide +kernel
theorem dL_law_797 : decode cL_law 797 = .ok (.iconst 1, 1) := by decide +kernel
theorem dL_law_798 : decode cL_law 798 = .ok (.iadd, 1) := by decide +kernel
theorem dL_law_799 : decode cL_law 799 = .ok (.iaload, 1) := by decide +kernel
theorem dL_law_800 : decode cL_law 800 = .ok (.invokevirtual 99, 3) := by decide +kernel
theorem dL_law_803 : decode cL_law 803 = .ok (.istore 7, 2) := by decide +kernel
theorem dL_law_805 : decode cL_law 805 = .ok (.aload_n 2, 1) := by decide +kernel
theorem dL_law_806 : decode cL_law 806 = .ok (.invokevirtual 66, 3) := by decide +kernel
theorem dL_law_809 : decode cL_law 809 = .ok (.iload 6, 2) := by decide +kernel
theorem dL_law_811 : decode cL_law 811 = .ok (.if_icmp .eq 5, 3) := by decide +kernel
theorem dL_law_814 : decode cL_law 814 = .ok (.iconst 0, 1) := by decide +kernel
theorem dL_law_815 : decode cL_law 815 = .ok (.ireturn, 1) := by decide +kernel
theorem dL_law_816 : decode cL_law 816 = .ok (.iload 6, 2) := by decide +kernel
theorem dL_law_818 : decode cL_law 818 = .ok (.ifCond .ne 15, 3) := by decide +kernel
theorem dL_law_821 : decode cL_law 821 = .ok (.aload_n 3, 1) := by decide +kernel
theorem dL_law_822 : decode cL_law 822 = .ok (.iconst 0, 1) := by decide +kernel
theorem dL_law_823 : decode cL_law 823 = .ok (.laload, 1) := by decide +kernel
theorem dL_law_824 : decode cL_law 824 = .ok (.iload 7, 2) := by decide +kernel
theorem dL_law_826 : decode cL_law 826 = .ok (.i2l, 1) := by decide +kernel
theorem dL_law_827 : decode cL_law 827 = .ok (.lcmp, 1) := by decide +kernel
theorem dL_law_828 : decode cL_law 828 = .ok (.ifCond .eq 5, 3) := by decide +kernel
theorem dL_law_831 : decode cL_law 831 = .ok (.iconst 0, 1) := by decide +kernel
theorem dL_law_832 : decode cL_law 832 = .ok (.ireturn, 1) := by decide +kernel
theorem dL_law_833 : decode cL_law 833 = .ok (.goto 137, 3) := by decide +kernel
theorem dL_law_836 : decode cL_law 836 = .ok (.aload_n 1, 1) := by decide +kernel
theorem dL_law_837 : decode cL_law 837 = .ok (.aload_n 0, 1) := by decide +kernel
theorem dL_law_838 : decode cL_law 838 = .ok (.iload 5, 2) := by decide +kernel
theorem dL_law_840 : decode cL_law 840 = .ok (.iconst 1, 1) := by decide +kernel
theorem dL_law_841 : decode cL_law 841 = .ok (.iadd, 1) := by decide +kernel
theorem dL_law_842 : decode cL_law 842 = .ok (.iaload, 1) := by decide +kernel
theorem dL_law_843 : decode cL_law 843 = .ok (.aload_n 3, 1) := by decide +kernel
theorem dL_law_844 : decode cL_law 844 = .ok (.invokestatic 100, 3) := by decide +kernel
theorem dL_law_847 : decode cL_law 847 = .ok (.istore 6, 2) := by decide +kernel
theorem dL_law_849 : decode cL_law 849 = .ok (.aload_n 2, 1) := by decide +kernel
theorem dL_law_850 : decode cL_law 850 = .ok (.aload_n 0, 1) := by decide +kernel
theorem dL_law_851 : decode cL_law 851 = .ok (.iload 5, 2) := by decide +kernel
theorem dL_law_853 : decode cL_law 853 = .ok (.iconst 1, 1) := by decide +kernel
theorem dL_law_854 : decode cL_law 854 = .ok (.iadd, 1) := by decide +kernel
theorem dL_law_855 : decode cL_law 855 = .ok (.iaload, 1) := by decide +kernel
theorem dL_law_856 : decode cL_law 856 = .ok (.invokevirtual 102, 3) := by decide +kernel
theorem dL_law_859 : decode cL_law 859 = .ok (.istore 7, 2) := by decide +kernel
theorem dL_law_861 : decode cL_law 861 = .ok (.aload_n 2, 1) := by decide +kernel
theorem dL_law_862 : decode cL_law 862 = .ok (.invokevirtual 66, 3) := by decide +kernel
theorem dL_law_865 : decode cL_law 865 = .ok (.iload 6, 2) := by decide +kernel
theorem dL_law_867 : decode cL_law 867 = .ok (.if_icmp .eq 5, 3) := by decide +kernel
theorem dL_law_870 : decode cL_law 870 = .ok (.iconst 0, 1) := by decide +kernel
theorem dL_law_871 : decode cL_law 871 = .ok (.ireturn, 1) := by decide +kernel
theorem dL_law_872 : decode cL_law 872 = .ok (.iload 6, 2) := by decide +kernel
theorem dL_law_874 : decode cL_law 874 = .ok (.ifCond .ne 15, 3) := by decide +kernel
theorem dL_law_877 : decode cL_law 877 = .ok (.aload_n 3, 1) := by decide +kernel
theorem dL_law_878 : decode cL_law 878 = .ok (.iconst 0, 1) := by decide +kernel
theorem dL_law_879 : decode cL_law 879 = .ok (.laload, 1) := by decide +kernel
theorem dL_law_880 : decode cL_law 880 = .ok (.iload 7, 2) := by decide +kernel
theorem dL_law_882 : decode cL_law 882 = .ok (.i2l, 1) := by decide +kernel
theorem dL_law_883 : decode cL_law 883 = .ok (.lcmp, 1) := by decide +kernel
theorem dL_law_884 : decode cL_law 884 = .ok (.ifCond .eq 5, 3) := by decide +kernel
theorem dL_law_887 : decode cL_law 887 = .ok (.iconst 0, 1) := by decide +kernel
theorem dL_law_888 : decode cL_law 888 = .ok (.ireturn, 1) := by decide +kernel
theorem dL_law_889 : decode cL_law 889 = .ok (.goto 81, 3) := by decide +kernel
theorem dL_law_892 : decode cL_law 892 = .ok (.aload_n 1, 1) := by decide +kernel
theorem dL_law_893 : decode cL_law 893 = .ok (.aload_n 0, 1) := by decide +kernel
theorem dL_law_894 : decode cL_law 894 = .ok (.iload 5, 2) := by decide +kernel
theorem dL_law_896 : decode cL_law 896 = .ok (.iconst 1, 1) := by decide +kernel
theorem dL_law_897 : decode cL_law 897 = .ok (.iadd, 1) := by decide +kernel
theorem dL_law_898 : decode cL_law 898 = .ok (.iaload, 1) := by decide +kernel
theorem dL_law_899 : decode cL_law 899 = .ok (.aload 4, 2) := by decide +kernel
theorem dL_law_901 : decode cL_law 901 = .ok (.invokestatic 103, 3) := by decide +kernel
theorem dL_law_904 : decode cL_law 904 = .ok (.istore 6, 2) := by decide +kernel
theorem dL_law_906 : decode cL_law 906 = .ok (.aload_n 2, 1) := by decide +kernel
theorem dL_law_907 : decode cL_law 907 = .ok (.aload_n 0, 1) := by decide +kernel
theorem dL_law_908 : decode cL_law 908 = .ok (.iload 5, 2) := by decide +kernel
theorem dL_law_910 : decode cL_law 910 = .ok (.iconst 1, 1) := by decide +kernel
theorem dL_law_911 : decode cL_law 911 = .ok (.iadd, 1) := by decide +kernel
theorem dL_law_912 : decode cL_law 912 = .ok (.iaload, 1) := by decide +kernel
theorem dL_law_913 : decode cL_law 913 = .ok (.invokevirtual 106, 3) := by decide +kernel
theorem dL_law_916 : decode cL_law 916 = .ok (.fstore 7, 2) := by decide +kernel
theorem dL_law_918 : decode cL_law 918 = .ok (.aload_n 2, 1) := by decide +kernel
theorem dL_law_919 : decode cL_law 919 = .ok (.invokevirtual 66, 3) := by decide +kernel
theorem dL_law_922 : decode cL_law 922 = .ok (.iload 6, 2) := by decide +kernel
theorem dL_law_924 : decode cL_law 924 = .ok (.if_icmp .eq 5, 3) := by decide +kernel
theorem dL_law_927 : decode cL_law 927 = .ok (.iconst 0, 1) := by decide +kernel
theorem dL_law_928 : decode cL_law 928 = .ok (.ireturn, 1) := by decide +kernel
theorem dL_law_929 : decode cL_law 929 = .ok (.iload 6, 2) := by decide +kernel
theorem dL_law_931 : decode cL_law 931 = .ok (.ifCond .ne 36, 3) := by decide +kernel
theorem dL_law_934 : decode cL_law 934 = .ok (.aload 4, 2) := by decide +kernel
theorem dL_law_936 : decode cL_law 936 = .ok (.iconst 0, 1) := by decide +kernel
theorem dL_law_937 : decode cL_law 937 = .ok (.daload, 1) := by decide +kernel
theorem dL_law_938 : decode cL_law 938 = .ok (.fload 7, 2) := by decide +kernel
theorem dL_law_940 : decode cL_law 940 = .ok (.f2d, 1) := by decide +kernel
theorem dL_law_941 : decode cL_law 941 = .ok (.dcmp .l, 1) := by decide +kernel
theorem dL_law_942 : decode cL_law 942 = .ok (.ifCond .eq 25, 3) := by decide +kernel
theorem dL_law_945 : decode cL_law 945 = .ok (.aload 4, 2) := by decide +kernel
theorem dL_law_947 : decode cL_law 947 = .ok (.iconst 0, 1) := by decide +kernel
theorem dL_law_948 : decode cL_law 948 = .ok (.daload, 1) := by decide +kernel
theorem dL_law_949 : decode cL_law 949 = .ok (.aload 4, 2) := by decide +kernel
theorem dL_law_951 : decode cL_law 951 = .ok (.iconst 0, 1) := by decide +kernel
theorem dL_law_952 : decode cL_law 952 = .ok (.daload, 1) := by decide +kernel
theorem dL_law_953 : decode cL_law 953 = .ok (.dcmp .l, 1) := by decide +kernel
theorem dL_law_954 : decode cL_law 954 = .ok (.ifCond .eq 11, 3) := by decide +kernel
theorem dL_law_957 : decode cL_law 957 = .ok (.fload 7, 2) := by decide +kernel
theorem dL_law_959 : decode cL_law 959 = .ok (.fload 7, 2) := by decide +kernel
theorem dL_law_961 : decode cL_law 961 = .ok (.fcmp .l, 1) := by decide +kernel
theorem dL_law_962 : decode cL_law 962 = .ok (.ifCond .ne 5, 3) := by decide +kernel
theorem dL_law_965 : decode cL_law 965 = .ok (.iconst 0, 1) := by decide +kernel
theorem dL_law_966 : decode cL_law 966 = .ok (.ireturn, 1) := by decide +kernel
theorem dL_law_967 : decode cL_law 967 = .ok (.goto 3, 3) := by decide +kernel
theorem dL_law_970 : decode cL_law 970 = .ok (.iinc 5 6, 3) := by decide +kernel
theorem dL_law_973 : decode cL_law 973 = .ok (.goto (-945), 3) := by decide +kernel
theorem dL_law_976 : decode cL_law 976 = .ok (.iconst 1, 1) := by decide +kernel
theorem dL_law_977 : decode cL_law 977 = .ok (.ireturn, 1) := by decide +kernel
end
section
/-! numbers: an Int seen as an Int32 -/
def zi (z : Int) : Int32 := Int32.ofInt z
theorem zi_toInt {a : Int} (h : -2147483648 ≤ a ∧ a ≤ 2147483647) : (zi a).toInt = a := Int32.toInt_ofInt_of_le (by omega) (by omega)
theorem zi_of (x : Int32) : zi x.toInt = x := Int32.ofInt_toInt x
theorem zi_ex (x : Int32) : ∃ z : Int, (-2147483648 ≤ z ∧ z ≤ 2147483647) ∧ x = zi z := by
  refine ⟨x.toInt, ⟨?_, ?_⟩, (zi_of x).symm⟩
  · have := Int32.le_toInt x; omega
  · have := Int32.toInt_lt x; omega
theorem zi_add (a b : Int) : zi a + zi b = zi (a + b) := (Int32.ofInt_add a b).symm
theorem zi_sub (a b : Int) : zi a - zi b = zi (a - b) := (Int32.ofInt_sub a b).symm
theorem zi_mul (a b : Int) : zi a * zi b = zi (a * b) := (Int32.ofInt_mul a b).symm
theorem zi_neg (a : Int) : -zi a = zi (-a) := (Int32.ofInt_neg a).symm
theorem zi_lt {a b : Int} (h : -2147483648 ≤ a ∧ a ≤ 2147483647 ∧ -2147483648 ≤ b ∧ b ≤ 2147483647) : zi a < zi b ↔ a < b := by
  rw [Int32.lt_iff_toInt_lt, zi_toInt ⟨h.1, h.2.1⟩, zi_toInt h.2.2]
theorem zi_le {a b : Int} (h : -2147483648 ≤ a ∧ a ≤ 2147483647 ∧ -2147483648 ≤ b ∧ b ≤ 2147483647) : zi a ≤ zi b ↔ a ≤ b := by
  rw [Int32.le_iff_toInt_le, zi_toInt ⟨h.1, h.2.1⟩, zi_toInt h.2.2]
theorem zi_eq {a b : Int} (h : -2147483648 ≤ a ∧ a ≤ 2147483647 ∧ -2147483648 ≤ b ∧ b ≤ 2147483647) : zi a = zi b ↔ a = b := by
  rw [← Int32.toInt_inj, zi_toInt ⟨h.1, h.2.1⟩, zi_toInt h.2.2]
theorem zi_0 : zi 0 = 0 := rfl
theorem zi_tdiv {a b : Int} (h : -2147483648 ≤ a ∧ a ≤ 2147483647 ∧ 0 < b ∧ b ≤ 2147483647) : zi a / zi b = zi (a.tdiv b) := by
  have hb : (zi b).toInt = b := zi_toInt (by omega)
  have ha : (zi a).toInt = a := zi_toInt (by omega)
  have hne : zi b ≠ -1 := by
    intro e
    have := congrArg Int32.toInt e
    rw [hb] at this
    have h1 : (-1 : Int32).toInt = -1 := by decide
    omega
  rw [← Int32.toInt_inj, Int32.toInt_div_of_ne_right _ _ hne, ha, hb]
  have h1 : a.tdiv b ≤ 2147483647 ∧ -2147483648 ≤ a.tdiv b := by
    rcases Int.le_total 0 a with p | p
    · have q1 : a.tdiv b = a / b := Int.tdiv_eq_ediv_of_nonneg p
      have q2 := Int.ediv_nonneg p (Int.le_of_lt h.2.2.1)
      have q3 := Int.ediv_le_self b p
      omega
    · have q1 : a.tdiv b = -((-a) / b) := by
        rw [← Int.neg_tdiv_neg, Int.tdiv_neg, Int.tdiv_eq_ediv_of_nonneg (by omega)]
      have q2 := Int.ediv_nonneg (a := -a) (b := b) (by omega) (by omega)
      have q3 := Int.ediv_le_self (a := -a) b (by omega)
      omega
  exact (zi_toInt ⟨h1.2, h1.1⟩).symm
theorem zi_div {a b : Int} (h : 0 ≤ a ∧ a ≤ 2147483647 ∧ 0 < b ∧ b ≤ 2147483647) : zi a / zi b = zi (a / b) := by
  rw [zi_tdiv ⟨by omega, h.2⟩, Int.tdiv_eq_ediv_of_nonneg h.1]
theorem zi_rem {a b : Int} (h : 0 ≤ a ∧ a ≤ 2147483647 ∧ 0 < b ∧ b ≤ 2147483647) : zi a - zi a / zi b * zi b = zi (a % b) := by
  rw [zi_div h, zi_mul, zi_sub, Int.emod_def, Int.mul_comm]
theorem zi_ne0 {b : Int} (h : 0 < b ∧ b ≤ 2147483647) : ¬ zi b = 0 := by
  intro e
  rw [← zi_0, zi_eq (by omega)] at e
  omega
theorem zi_nI (n : Nat) : nI n = zi (n : Int) := (Int32.ofInt_eq_ofNat).symm
theorem zi_clamp {a : Int} (h : 0 ≤ a ∧ a ≤ 2147483647) : (zi a).toNatClampNeg = a.toNat := by
  unfold Int32.toNatClampNeg
  rw [zi_toInt (by omega)]
theorem zi_in {a : Int} {n : Nat} (h : 0 ≤ a ∧ a < n ∧ n ≤ 2147483647) : vp_in (zi a) n := by
  unfold vp_in
  rw [zi_clamp (by omega), ← zi_0, zi_lt (by omega)]
  omega
/-- a truth value as an int -/
def zb (c : Bool) : Int := if c then 1 else 0
theorem zb_t : zb true = 1 := rfl
theorem zb_f : zb false = 0 := rfl

section ZN
variable {p : Program} {l : Launch} {e : Env} {R : Room} {s : State} {m : MethodId} {args : Array Value} {below : List Frame} {meth : Method} {c : Code} {H : Heap} {locs : List Loc} {cells slots : Nat} {Q : State → Prop}
variable {cc : ByteArray} {pc : Nat} {ls : Array Slot} {rest : List Value} {a b : Int}

theorem z_iadd (hexec : p.tables.exec = Jvm.exec) (hb : c.code = cc) (hdg : decode cc pc = .ok (.iadd, 1)) (k : W p l e R s m args below meth c H locs cells slots Q (F0 m (pc + 1) ls (.int (zi (a + b)) :: rest))) : W p l e R s m args below meth c H locs cells slots Q (F0 m pc ls (.int (zi b) :: .int (zi a) :: rest)) := lv_iadd hexec hb hdg (by rw [zi_add]; exact k)
theorem z_isub (hexec : p.tables.exec = Jvm.exec) (hb : c.code = cc) (hdg : decode cc pc = .ok (.isub, 1)) (k : W p l e R s m args below meth c H locs cells slots Q (F0 m (pc + 1) ls (.int (zi (a - b)) :: rest))) : W p l e R s m args below meth c H locs cells slots Q (F0 m pc ls (.int (zi b) :: .int (zi a) :: rest)) := lv_isub hexec hb hdg (by rw [zi_sub]; exact k)
theorem z_imul (hexec : p.tables.exec = Jvm.exec) (hb : c.code = cc) (hdg : decode cc pc = .ok (.imul, 1)) (k : W p l e R s m args below meth c H locs cells slots Q (F0 m (pc + 1) ls (.int (zi (a * b)) :: rest))) : W p l e R s m args below meth c H locs cells slots Q (F0 m pc ls (.int (zi b) :: .int (zi a) :: rest)) := lv_imul hexec hb hdg (by rw [zi_mul]; exact k)
theorem z_ineg (hexec : p.tables.exec = Jvm.exec) (hb : c.code = cc) (hdg : decode cc pc = .ok (.ineg, 1)) (k : W p l e R s m args below meth c H locs cells slots Q (F0 m (pc + 1) ls (.int (zi (-a)) :: rest))) : W p l e R s m args below meth c H locs cells slots Q (F0 m pc ls (.int (zi a) :: rest)) := lv_ineg hexec hb hdg (by rw [zi_neg]; exact k)
theorem z_idiv (hexec : p.tables.exec = Jvm.exec) (hb : c.code = cc) (hdg : decode cc pc = .ok (.idiv, 1)) (h : 0 ≤ a ∧ a ≤ 2147483647 ∧ 0 < b ∧ b ≤ 2147483647) (k : W p l e R s m args below meth c H locs cells slots Q (F0 m (pc + 1) ls (.int (zi (a / b)) :: rest))) : W p l e R s m args below meth c H locs cells slots Q (F0 m pc ls (.int (zi b) :: .int (zi a) :: rest)) := lv_idiv hexec hb hdg (zi_ne0 (by omega)) (by rw [zi_div h]; exact k)
theorem z_irem (hexec : p.tables.exec = Jvm.exec) (hb : c.code = cc) (hdg : decode cc pc = .ok (.irem, 1)) (h : 0 ≤ a ∧ a ≤ 2147483647 ∧ 0 < b ∧ b ≤ 2147483647) (k : W p l e R s m args below meth c H locs cells slots Q (F0 m (pc + 1) ls (.int (zi (a % b)) :: rest))) : W p l e R s m args below meth c H locs cells slots Q (F0 m pc ls (.int (zi b) :: .int (zi a) :: rest)) := lv_irem hexec hb hdg (zi_ne0 (by omega)) (by rw [zi_rem h]; exact k)
theorem z_idivA (hexec : p.tables.exec = Jvm.exec) (hb : c.code = cc) (hdg : decode cc pc = .ok (.idiv, 1)) (h : a ≤ 2147483647 ∧ 0 < b ∧ b ≤ 2147483647) (k : ∀ r : Int, (-2147483648 ≤ r ∧ r ≤ 2147483647) → (0 ≤ a → r = a / b) → W p l e R s m args below meth c H locs cells slots Q (F0 m (pc + 1) ls (.int (zi r) :: rest))) : W p l e R s m args below meth c H locs cells slots Q (F0 m pc ls (.int (zi b) :: .int (zi a) :: rest)) := by
  refine lv_idiv hexec hb hdg (zi_ne0 (by omega)) ?_
  by_cases h0 : 0 ≤ a
  · rw [zi_div ⟨h0, h⟩]
    refine k _ ?_ (fun _ => rfl)
    have q1 := Int.ediv_nonneg h0 (Int.le_of_lt h.2.1)
    have q2 := Int.ediv_le_self b h0
    have q3 := Int.emod_nonneg a (Int.ne_of_gt h.2.1)
    have q4 := Int.emod_lt_of_pos a h.2.1
    omega
  · obtain ⟨r, hr, e⟩ := zi_ex (zi a / zi b)
    rw [e]
    exact k r hr (fun z => absurd z h0)
theorem z_iremA (hexec : p.tables.exec = Jvm.exec) (hb : c.code = cc) (hdg : decode cc pc = .ok (.irem, 1)) (h : a ≤ 2147483647 ∧ 0 < b ∧ b ≤ 2147483647) (k : ∀ r : Int, (-2147483648 ≤ r ∧ r ≤ 2147483647) → (0 ≤ a → r = a % b) → W p l e R s m args below meth c H locs cells slots Q (F0 m (pc + 1) ls (.int (zi r) :: rest))) : W p l e R s m args below meth c H locs cells slots Q (F0 m pc ls (.int (zi b) :: .int (zi a) :: rest)) := by
  refine lv_irem hexec hb hdg (zi_ne0 (by omega)) ?_
  by_cases h0 : 0 ≤ a
  · rw [zi_rem ⟨h0, h⟩]
    refine k _ ?_ (fun _ => rfl)
    have q1 := Int.ediv_nonneg h0 (Int.le_of_lt h.2.1)
    have q2 := Int.ediv_le_self b h0
    have q3 := Int.emod_nonneg a (Int.ne_of_gt h.2.1)
    have q4 := Int.emod_lt_of_pos a h.2.1
    omega
  · obtain ⟨r, hr, e⟩ := zi_ex (zi a - zi a / zi b * zi b)
    rw [e]
    exact k r hr (fun z => absurd z h0)
theorem z_icmp_lt (hexec : p.tables.exec = Jvm.exec) (hb : c.code = cc) {off : Int} {tgt : Nat} (hdg : decode cc pc = .ok (.if_icmp .lt off, 3)) (ht : (pc : Int) + off = (tgt : Int)) (h : -2147483648 ≤ a ∧ a ≤ 2147483647 ∧ -2147483648 ≤ b ∧ b ≤ 2147483647) (kt : a < b → W p l e R s m args below meth c H locs cells slots Q (F0 m tgt ls rest)) (kf : ¬ (a < b) → W p l e R s m args below meth c H locs cells slots Q (F0 m (pc + 3) ls rest)) : W p l e R s m args below meth c H locs cells slots Q (F0 m pc ls (.int (zi b) :: .int (zi a) :: rest)) := by
  refine lv_icmp_lt (tgt := tgt) hexec hb hdg ht (fun q => kt ?_) (fun q => kf ?_)
  · first | exact (zi_lt (by omega)).mp q | exact fun z => q ((zi_lt (by omega)).mpr z)
  · first | exact (zi_lt (by omega)).mp q | exact fun z => q ((zi_lt (by omega)).mpr z) | exact fun z => z ((zi_lt (by omega)).mp (Decidable.of_not_not q)) | exact fun z => q fun y => z ((zi_lt (by omega)).mp y)
theorem z_if_lt (hexec : p.tables.exec = Jvm.exec) (hb : c.code = cc) {off : Int} {tgt : Nat} (hdg : decode cc pc = .ok (.ifCond .lt off, 3)) (ht : (pc : Int) + off = (tgt : Int)) (h : -2147483648 ≤ a ∧ a ≤ 2147483647) (kt : a < 0 → W p l e R s m args below meth c H locs cells slots Q (F0 m tgt ls rest)) (kf : ¬ (a < 0) → W p l e R s m args below meth c H locs cells slots Q (F0 m (pc + 3) ls rest)) : W p l e R s m args below meth c H locs cells slots Q (F0 m pc ls (.int (zi a) :: rest)) := by
  refine lv_if_lt (tgt := tgt) hexec hb hdg ht (fun q => kt ?_) (fun q => kf ?_)
  · rw [← zi_0] at q
    first | exact (zi_lt (by omega)).mp q | exact fun z => q ((zi_lt (by omega)).mpr z)
  · rw [← zi_0] at q
    first | exact (zi_lt (by omega)).mp q | exact fun z => q ((zi_lt (by omega)).mpr z) | exact fun z => z ((zi_lt (by omega)).mp (Decidable.of_not_not q)) | exact fun z => q fun y => z ((zi_lt (by omega)).mp y)
theorem z_icmp_ge (hexec : p.tables.exec = Jvm.exec) (hb : c.code = cc) {off : Int} {tgt : Nat} (hdg : decode cc pc = .ok (.if_icmp .ge off, 3)) (ht : (pc : Int) + off = (tgt : Int)) (h : -2147483648 ≤ a ∧ a ≤ 2147483647 ∧ -2147483648 ≤ b ∧ b ≤ 2147483647) (kt : b ≤ a → W p l e R s m args below meth c H locs cells slots Q (F0 m tgt ls rest)) (kf : ¬ (b ≤ a) → W p l e R s m args below meth c H locs cells slots Q (F0 m (pc + 3) ls rest)) : W p l e R s m args below meth c H locs cells slots Q (F0 m pc ls (.int (zi b) :: .int (zi a) :: rest)) := by
  refine lv_icmp_ge (tgt := tgt) hexec hb hdg ht (fun q => kt ?_) (fun q => kf ?_)
  · first | exact (zi_le (by omega)).mp q | exact fun z => q ((zi_le (by omega)).mpr z)
  · first | exact (zi_le (by omega)).mp q | exact fun z => q ((zi_le (by omega)).mpr z) | exact fun z => z ((zi_le (by omega)).mp (Decidable.of_not_not q)) | exact fun z => q fun y => z ((zi_le (by omega)).mp y)
theorem z_if_ge (hexec : p.tables.exec = Jvm.exec) (hb : c.code = cc) {off : Int} {tgt : Nat} (hdg : decode cc pc = .ok (.ifCond .ge off, 3)) (ht : (pc : Int) + off = (tgt : Int)) (h : -2147483648 ≤ a ∧ a ≤ 2147483647) (kt : 0 ≤ a → W p l e R s m args below meth c H locs cells slots Q (F0 m tgt ls rest)) (kf : ¬ (0 ≤ a) → W p l e R s m args below meth c H locs cells slots Q (F0 m (pc + 3) ls rest)) : W p l e R s m args below meth c H locs cells slots Q (F0 m pc ls (.int (zi a) :: rest)) := by
  refine lv_if_ge (tgt := tgt) hexec hb hdg ht (fun q => kt ?_) (fun q => kf ?_)
  · rw [← zi_0] at q
    first | exact (zi_le (by omega)).mp q | exact fun z => q ((zi_le (by omega)).mpr z)
  · rw [← zi_0] at q
    first | exact (zi_le (by omega)).mp q | exact fun z => q ((zi_le (by omega)).mpr z) | exact fun z => z ((zi_le (by omega)).mp (Decidable.of_not_not q)) | exact fun z => q fun y => z ((zi_le (by omega)).mp y)
theorem z_icmp_gt (hexec : p.tables.exec = Jvm.exec) (hb : c.code = cc) {off : Int} {tgt : Nat} (hdg : decode cc pc = .ok (.if_icmp .gt off, 3)) (ht : (pc : Int) + off = (tgt : Int)) (h : -2147483648 ≤ a ∧ a ≤ 2147483647 ∧ -2147483648 ≤ b ∧ b ≤ 2147483647) (kt : b < a → W p l e R s m args below meth c H locs cells slots Q (F0 m tgt ls rest)) (kf : ¬ (b < a) → W p l e R s m args below meth c H locs cells slots Q (F0 m (pc + 3) ls rest)) : W p l e R s m args below meth c H locs cells slots Q (F0 m pc ls (.int (zi b) :: .int (zi a) :: rest)) := by
  refine lv_icmp_gt (tgt := tgt) hexec hb hdg ht (fun q => kt ?_) (fun q => kf ?_)
  · first | exact (zi_lt (by omega)).mp q | exact fun z => q ((zi_lt (by omega)).mpr z)
  · first | exact (zi_lt (by omega)).mp q | exact fun z => q ((zi_lt (by omega)).mpr z) | exact fun z => z ((zi_lt (by omega)).mp (Decidable.of_not_not q)) | exact fun z => q fun y => z ((zi_lt (by omega)).mp y)
theorem z_if_gt (hexec : p.tables.exec = Jvm.exec) (hb : c.code = cc) {off : Int} {tgt : Nat} (hdg : decode cc pc = .ok (.ifCond .gt off, 3)) (ht : (pc : Int) + off = (tgt : Int)) (h : -2147483648 ≤ a ∧ a ≤ 2147483647) (kt : 0 < a → W p l e R s m args below meth c H locs cells slots Q (F0 m tgt ls rest)) (kf : ¬ (0 < a) → W p l e R s m args below meth c H locs cells slots Q (F0 m (pc + 3) ls rest)) : W p l e R s m args below meth c H locs cells slots Q (F0 m pc ls (.int (zi a) :: rest)) := by
  refine lv_if_gt (tgt := tgt) hexec hb hdg ht (fun q => kt ?_) (fun q => kf ?_)
  · rw [← zi_0] at q
    first | exact (zi_lt (by omega)).mp q | exact fun z => q ((zi_lt (by omega)).mpr z)
  · rw [← zi_0] at q
    first | exact (zi_lt (by omega)).mp q | exact fun z => q ((zi_lt (by omega)).mpr z) | exact fun z => z ((zi_lt (by omega)).mp (Decidable.of_not_not q)) | exact fun z => q fun y => z ((zi_lt (by omega)).mp y)
theorem z_icmp_le (hexec : p.tables.exec = Jvm.exec) (hb : c.code = cc) {off : Int} {tgt : Nat} (hdg : decode cc pc = .ok (.if_icmp .le off, 3)) (ht : (pc : Int) + off = (tgt : Int)) (h : -2147483648 ≤ a ∧ a ≤ 2147483647 ∧ -2147483648 ≤ b ∧ b ≤ 2147483647) (kt : a ≤ b → W p l e R s m args below meth c H locs cells slots Q (F0 m tgt ls rest)) (kf : ¬ (a ≤ b) → W p l e R s m args below meth c H locs cells slots Q (F0 m (pc + 3) ls rest)) : W p l e R s m args below meth c H locs cells slots Q (F0 m pc ls (.int (zi b) :: .int (zi a) :: rest)) := by
  refine lv_icmp_le (tgt := tgt) hexec hb hdg ht (fun q => kt ?_) (fun q => kf ?_)
  · first | exact (zi_le (by omega)).mp q | exact fun z => q ((zi_le (by omega)).mpr z)
  · first | exact (zi_le (by omega)).mp q | exact fun z => q ((zi_le (by omega)).mpr z) | exact fun z => z ((zi_le (by omega)).mp (Decidable.of_not_not q)) | exact fun z => q fun y => z ((zi_le (by omega)).mp y)
theorem z_if_le (hexec : p.tables.exec = Jvm.exec) (hb : c.code = cc) {off : Int} {tgt : Nat} (hdg : decode cc pc = .ok (.ifCond .le off, 3)) (ht : (pc : Int) + off = (tgt : Int)) (h : -2147483648 ≤ a ∧ a ≤ 2147483647) (kt : a ≤ 0 → W p l e R s m args below meth c H locs cells slots Q (F0 m tgt ls rest)) (kf : ¬ (a ≤ 0) → W p l e R s m args below meth c H locs cells slots Q (F0 m (pc + 3) ls rest)) : W p l e R s m args below meth c H locs cells slots Q (F0 m pc ls (.int (zi a) :: rest)) := by
  refine lv_if_le (tgt := tgt) hexec hb hdg ht (fun q => kt ?_) (fun q => kf ?_)
  · rw [← zi_0] at q
    first | exact (zi_le (by omega)).mp q | exact fun z => q ((zi_le (by omega)).mpr z)
  · rw [← zi_0] at q
    first | exact (zi_le (by omega)).mp q | exact fun z => q ((zi_le (by omega)).mpr z) | exact fun z => z ((zi_le (by omega)).mp (Decidable.of_not_not q)) | exact fun z => q fun y => z ((zi_le (by omega)).mp y)
theorem z_icmp_eq (hexec : p.tables.exec = Jvm.exec) (hb : c.code = cc) {off : Int} {tgt : Nat} (hdg : decode cc pc = .ok (.if_icmp .eq off, 3)) (ht : (pc : Int) + off = (tgt : Int)) (h : -2147483648 ≤ a ∧ a ≤ 2147483647 ∧ -2147483648 ≤ b ∧ b ≤ 2147483647) (kt : a = b → W p l e R s m args below meth c H locs cells slots Q (F0 m tgt ls rest)) (kf : ¬ (a = b) → W p l e R s m args below meth c H locs cells slots Q (F0 m (pc + 3) ls rest)) : W p l e R s m args below meth c H locs cells slots Q (F0 m pc ls (.int (zi b) :: .int (zi a) :: rest)) := by
  refine lv_icmp_eq (tgt := tgt) hexec hb hdg ht (fun q => kt ?_) (fun q => kf ?_)
  · first | exact (zi_eq (by omega)).mp q | exact fun z => q ((zi_eq (by omega)).mpr z)
  · first | exact (zi_eq (by omega)).mp q | exact fun z => q ((zi_eq (by omega)).mpr z) | exact fun z => z ((zi_eq (by omega)).mp (Decidable.of_not_not q)) | exact fun z => q fun y => z ((zi_eq (by omega)).mp y)
theorem z_if_eq (hexec : p.tables.exec = Jvm.exec) (hb : c.code = cc) {off : Int} {tgt : Nat} (hdg : decode cc pc = .ok (.ifCond .eq off, 3)) (ht : (pc : Int) + off = (tgt : Int)) (h : -2147483648 ≤ a ∧ a ≤ 2147483647) (kt : a = 0 → W p l e R s m args below meth c H locs cells slots Q (F0 m tgt ls rest)) (kf : ¬ (a = 0) → W p l e R s m args below meth c H locs cells slots Q (F0 m (pc + 3) ls rest)) : W p l e R s m args below meth c H locs cells slots Q (F0 m pc ls (.int (zi a) :: rest)) := by
  refine lv_if_eq (tgt := tgt) hexec hb hdg ht (fun q => kt ?_) (fun q => kf ?_)
  · rw [← zi_0] at q
    first | exact (zi_eq (by omega)).mp q | exact fun z => q ((zi_eq (by omega)).mpr z)
  · rw [← zi_0] at q
    first | exact (zi_eq (by omega)).mp q | exact fun z => q ((zi_eq (by omega)).mpr z) | exact fun z => z ((zi_eq (by omega)).mp (Decidable.of_not_not q)) | exact fun z => q fun y => z ((zi_eq (by omega)).mp y)
theorem z_icmp_ne (hexec : p.tables.exec = Jvm.exec) (hb : c.code = cc) {off : Int} {tgt : Nat} (hdg : decode cc pc = .ok (.if_icmp .ne off, 3)) (ht : (pc : Int) + off = (tgt : Int)) (h : -2147483648 ≤ a ∧ a ≤ 2147483647 ∧ -2147483648 ≤ b ∧ b ≤ 2147483647) (kt : ¬ a = b → W p l e R s m args below meth c H locs cells slots Q (F0 m tgt ls rest)) (kf : a = b → W p l e R s m args below meth c H locs cells slots Q (F0 m (pc + 3) ls rest)) : W p l e R s m args below meth c H locs cells slots Q (F0 m pc ls (.int (zi b) :: .int (zi a) :: rest)) := by
  refine lv_icmp_ne (tgt := tgt) hexec hb hdg ht (fun q => kt ?_) (fun q => kf ?_)
  · first | exact (zi_eq (by omega)).mp q | exact fun z => q ((zi_eq (by omega)).mpr z)
  · first | exact (zi_eq (by omega)).mp q | exact fun z => q ((zi_eq (by omega)).mpr z) | exact fun z => z ((zi_eq (by omega)).mp (Decidable.of_not_not q)) | exact fun z => q fun y => z ((zi_eq (by omega)).mp y)
theorem z_if_ne (hexec : p.tables.exec = Jvm.exec) (hb : c.code = cc) {off : Int} {tgt : Nat} (hdg : decode cc pc = .ok (.ifCond .ne off, 3)) (ht : (pc : Int) + off = (tgt : Int)) (h : -2147483648 ≤ a ∧ a ≤ 2147483647) (kt : ¬ a = 0 → W p l e R s m args below meth c H locs cells slots Q (F0 m tgt ls rest)) (kf : a = 0 → W p l e R s m args below meth c H locs cells slots Q (F0 m (pc + 3) ls rest)) : W p l e R s m args below meth c H locs cells slots Q (F0 m pc ls (.int (zi a) :: rest)) := by
  refine lv_if_ne (tgt := tgt) hexec hb hdg ht (fun q => kt ?_) (fun q => kf ?_)
  · rw [← zi_0] at q
    first | exact (zi_eq (by omega)).mp q | exact fun z => q ((zi_eq (by omega)).mpr z)
  · rw [← zi_0] at q
    first | exact (zi_eq (by omega)).mp q | exact fun z => q ((zi_eq (by omega)).mpr z) | exact fun z => z ((zi_eq (by omega)).mp (Decidable.of_not_not q)) | exact fun z => q fun y => z ((zi_eq (by omega)).mp y)
theorem z_iinc (hexec : p.tables.exec = Jvm.exec) (hb : c.code = cc) {i nL k : Nat} {n : Int} {lv lv' : List (Nat × Value)} (hdg : decode cc pc = .ok (.iinc i n, 3)) (h : lv_has ls nL lv) (hk : lv[k]? = some (i, .int (zi a))) (hn : i < nL) (hl : (i, Value.int (zi (a + n))) :: lv.filter (fun q => !(q.1 == i) && !(q.1 + 1 == i && q.2.category == 2)) = lv')
    (kk : ∀ ls' : Array Slot, lv_has ls' nL lv' → W p l e R s m args below meth c H locs cells slots Q (F0 m (pc + 3) ls' rest)) : W p l e R s m args below meth c H locs cells slots Q (F0 m pc ls rest) := lv_iinc hexec hb hdg h hk (zi_add a n) hn hl kk
end ZN
end
section
/-! a world as a partial map of addresses; contracts over any predicate of the heap -/
abbrev zW : Type := Nat → Option va_E
def zu (w : zW) (a : Nat) (e : va_E) : zW := fun q => if q = a then some e else w q
theorem zu_eq {w : zW} {a : Nat} {e : va_E} : zu w a e a = some e := if_pos rfl
theorem zu_ne {w : zW} {a q : Nat} {e : va_E} (h : q ≠ a) : zu w a e q = w q := if_neg h
theorem zu_zu {w : zW} {a : Nat} {e e' : va_E} : zu (zu w a e) a e' = zu w a e' := by
  funext q
  unfold zu
  by_cases h : q = a
  · simp [h]
  · simp [h]
def zR (D : va_G) (A : Nat → Prop) (w : zW) (H : Heap) : Prop := ∃ ws : va_W, va_P D vwCl ws H ∧ va_D A ws ∧ ∀ (q : Nat) (e : va_E), w q = some e → ∃ k : Nat, ws[k]? = some (q, e)
theorem zR_set {w : zW} {ws : va_W} {k a : Nat} {e0 e : va_E} (hk : ws[k]? = some (a, e0)) (hw : ∀ (q : Nat) (e : va_E), w q = some e → ∃ k : Nat, ws[k]? = some (q, e)) : ∀ (q : Nat) (e' : va_E), zu w a e q = some e' → ∃ k' : Nat, (ws.set k (a, e))[k']? = some (q, e') := by
  intro q e' h
  have hl := (List.getElem?_eq_some_iff.mp hk).1
  by_cases hq : q = a
  · subst hq
    rw [zu_eq] at h
    cases h
    exact ⟨k, List.getElem?_set_self hl⟩
  · rw [zu_ne hq] at h
    obtain ⟨k', hk'⟩ := hw q e' h
    refine ⟨k', ?_⟩
    rw [List.getElem?_set_ne]
    · exact hk'
    · intro z
      subst z
      rw [hk] at hk'
      cases hk'
      exact hq rfl
theorem zR_push {w : zW} {ws : va_W} {a : Nat} {e : va_E} (hw : ∀ (q : Nat) (e : va_E), w q = some e → ∃ k : Nat, ws[k]? = some (q, e)) : ∀ (q : Nat) (e' : va_E), zu w a e q = some e' → ∃ k' : Nat, (ws ++ [(a, e)])[k']? = some (q, e') := by
  intro q e' h
  by_cases hq : q = a
  · subst hq
    rw [zu_eq] at h
    cases h
    exact ⟨ws.length, by simp⟩
  · rw [zu_ne hq] at h
    obtain ⟨k', hk'⟩ := hw q e' h
    exact ⟨k', by rw [List.getElem?_append_left (List.getElem?_eq_some_iff.mp hk').1]; exact hk'⟩
theorem zR_fresh {A : Nat → Prop} {w : zW} {ws : va_W} {a : Nat} {e : va_E} (hw : ∀ (q : Nat) (e : va_E), w q = some e → ∃ k : Nat, ws[k]? = some (q, e)) (hD : va_D A (ws ++ [(a, e)])) : ∀ (q : Nat) (e' : va_E), w q = some e' → q ≠ a := by
  intro q e' h z
  subst z
  obtain ⟨k, hk⟩ := hw q e' h
  have hl := (List.getElem?_eq_some_iff.mp hk).1
  have h1 : (ws ++ [(q, e)])[k]? = some (q, e') := by rw [List.getElem?_append_left hl]; exact hk
  have h2 : (ws ++ [(q, e)])[ws.length]? = some (q, e) := by simp
  have := hD.1 k ws.length _ _ h1 h2 rfl
  omega
theorem zR.lt {D : va_G} {A : Nat → Prop} {w : zW} {H : Heap} (h : zR D A w H) {q : Nat} {e : va_E} (he : w q = some e) : q < H.size := by
  obtain ⟨ws, hP, hD, hw⟩ := h
  obtain ⟨k, hk⟩ := hw q e he
  exact (hP k _ hk).lt
theorem zR.inA {D : va_G} {A : Nat → Prop} {w : zW} {H : Heap} (h : zR D A w H) {q : Nat} {e : va_E} (he : w q = some e) : A q := by
  obtain ⟨ws, hP, hD, hw⟩ := h
  obtain ⟨k, hk⟩ := hw q e he
  exact hD.2 k _ hk
/-- a world of cells that stay -/
theorem zR.kept {D : va_G} {A : Nat → Prop} {w : zW} {H H1 : Heap} (h : zR D A w H) (hq : ∀ q, q < H.size → A q → H1[q]? = H[q]?) : zR D A w H1 := by
  obtain ⟨ws, hP, hD, hw⟩ := h
  exact ⟨ws, hP.kept (fun k q hk => hq q.1 (hP k q hk).lt (hD.2 k q hk)), hD, hw⟩
theorem zR.sub {D : va_G} {A : Nat → Prop} {w w' : zW} {H : Heap} (h : zR D A w H) (hw : ∀ q e, w' q = some e → w q = some e) : zR D A w' H := by
  obtain ⟨ws, hP, hD, hw0⟩ := h
  exact ⟨ws, hP, hD, fun q e he => hw0 q e (hw q e he)⟩
/-- the arrays' classes -/
def zt (tc : Nat → ClassId) : List (ClassId × FieldType) := [(tc 0, .int), (tc 1, .byte), (tc 2, .long), (tc 3, .double), (tc 4, .object "java/lang/Object")]
/-- the tables' words at the base state -/
def zT (S : State) : Prop := ∀ w ∈ lw_tbl, w.before #[] S = true
theorem zT_w {S s : State} {args : Array Value} {w : Cond} (hT : zT S) (hW : S.WarmedH s.vm) (hg : (w.onTables && w.keeps) = true ∨ ∃ ty, w = .arrayClass ty) (i : Nat) (hi : tables_1[i]? = some w) : w.before args s = true := word_at hW hg (hT _ (List.mem_append_right _ (List.mem_of_getElem? hi)))
theorem zT_p {S s : State} {args : Array Value} {w : Cond} (hT : zT S) (hW : S.WarmedH s.vm) (hg : (w.onTables && w.keeps) = true ∨ ∃ ty, w = .arrayClass ty) (i : Nat) (hi : (k2_sels lw_privs)[i]? = some w) : w.before args s = true := word_at hW hg (hT _ (List.mem_append_left _ (List.mem_of_getElem? hi)))
/-- all that was there at the base is as it was -/
def zP (S : State) (H : Heap) : Prop := S.heap.size ≤ H.size ∧ ∀ q : Nat, q < S.heap.size → H[q]? = S.heap[q]?
theorem zP.of {S s : State} {A : Nat → Prop} {H : Heap} {locs : List Loc} (h : zP S s.heap) (hAz : ∀ q, A q → S.heap.size ≤ q) (hS : va_S A s.heap H locs) : zP S H := by
  refine ⟨Nat.le_trans h.1 hS.1, fun q hq => ?_⟩
  rw [hS.2.1 q (Nat.lt_of_lt_of_le hq h.1) (fun z => absurd (hAz q z) (by omega))]
  exact h.2 q hq
def zI (S : State) (A : Nat → Prop) (P : Heap → Prop) (U : State) : Prop := S.WarmedH U.vm ∧ zP S U.heap ∧ (∀ q, U.heap.size ≤ q → A q) ∧ P U.heap
def zQ (A : Nat → Prop) (post : Option Value → Heap → Prop) : Array Value → State → Outcome → State → Prop := fun _ st oc t => (∃ v, oc = .returned v ∧ post v t.heap) ∧ va_F A st t
/-- what a method may throw, and the heap then -/
def zXC (A : Nat → Prop) (px : String → Heap → Prop) : String → State → State → Prop := fun E st t => px E t.heap ∧ va_F A st t
/-- a contract: from every state that holds P the method returns, and its answer and the heap hold post -/
def zM (l : Launch) (S : State) (A : Nat → Prop) (y : MethodName) (cc : ByteArray) (maxL : Nat) (ret : Option FieldType) (rm : Room) (av : List Value) (P : Heap → Prop) (post : Option Value → Heap → Prop) : Prop :=
  Met l y [.code y cc maxL ret] rm (va_Pc av (zI S A P)) (zQ A post) rm.cells rm.slots A
/-- .. or throws -/
def zMX (l : Launch) (S : State) (A : Nat → Prop) (y : MethodName) (cc : ByteArray) (maxL : Nat) (ret : Option FieldType) (rm : Room) (av : List Value) (P : Heap → Prop) (post : Option Value → Heap → Prop) (px : String → Heap → Prop) : Prop :=
  vx_Met l y [.code y cc maxL ret] rm (va_Pc av (zI S A P)) (zQ A post) (zXC A px) rm.cells rm.slots A
/-- what stands at a method's entry -/
def zX (S : State) (A : Nat → Prop) (p : Program) (s : State) (m : MethodId) (meth : Method) (c : Code) (y : MethodName) (cc : ByteArray) (maxL : Nat) (ret : Option FieldType) : Prop :=
  p.tables.exec = Jvm.exec ∧ c.code = cc ∧ c.maxLocals = maxL ∧ meth.sig.returnType = ret ∧ meth.locks = false ∧ s.vm.findClass y.cls = some m.cls ∧ meth.name = y.name ∧ S.WarmedH s.vm ∧ zP S s.heap ∧ (∀ q, s.heap.size ≤ q → A q)
theorem zI_blind {S : State} {A : Nat → Prop} {P : Heap → Prop} {av : List Value} : FrameBlind (va_Pc av (zI S A P)) := fun _ _ _ _ h => h
theorem zM.mk {l : Launch} {S : State} {A : Nat → Prop} {y : MethodName} {cc : ByteArray} {maxL : Nat} {ret : Option FieldType} {rm : Room} {av : List Value} {P : Heap → Prop} {post : Option Value → Heap → Prop} (hy : plainName y.cls = true) (hn : (lg_sl av).length ≤ maxL)
    (body : ∀ p e s m below meth c ls, zX S A p s m meth c y cc maxL ret → P s.heap → lv_has ls maxL (lv_args 0 av) → W p l e rm s m av.toArray below meth c s.heap [] 0 0 (MQ below (zQ A post) av.toArray s rm.cells rm.slots A) (F0 m 0 ls [])) : zM l S A y cc maxL ret rm av P post := by
  refine Met.ofW (cc := cc) (maxL := maxL) (ret := ret) hy rfl ?_
  intro p e s m args below meth c s₁ B hml hv
  obtain ⟨rfl, h1, h2, h3, h4⟩ := hv
  have hl := lv_entry av hn
  rw [lg_entry_eq]
  generalize (lg_sl av ++ List.replicate (maxL - (lg_sl av).length) Slot.unset).toArray = ls at hl ⊢
  exact body p e s m below meth c ls ⟨B.exec, B.bytes, hml, B.returns, B.notSynchronized, findClass_of_methodNamed B.named, (name_of_methodNamed B.named B.method).1, h1, h2, h3⟩ h4 hl
theorem zMX.mk {l : Launch} {S : State} {A : Nat → Prop} {y : MethodName} {cc : ByteArray} {maxL : Nat} {ret : Option FieldType} {rm : Room} {av : List Value} {P : Heap → Prop} {post : Option Value → Heap → Prop} {px : String → Heap → Prop} (hy : plainName y.cls = true) (hn : (lg_sl av).length ≤ maxL)
    (body : ∀ p e s m below meth c ls, zX S A p s m meth c y cc maxL ret → (∀ x ∈ c.exceptionTable.toList, False) → P s.heap → lv_has ls maxL (lv_args 0 av) → W p l e rm s m av.toArray below meth c s.heap [] 0 0 (vx_MQ below (zQ A post) (zXC A px) av.toArray s rm.cells rm.slots A) (F0 m 0 ls [])) : zMX l S A y cc maxL ret rm av P post px := by
  refine vx_ofW (cc := cc) (maxL := maxL) (ret := ret) hy rfl ?_
  intro p e s m args below meth c s₁ B hml hnt hv
  obtain ⟨rfl, h1, h2, h3, h4⟩ := hv
  have hl := lv_entry av hn
  rw [lg_entry_eq]
  generalize (lg_sl av ++ List.replicate (maxL - (lg_sl av).length) Slot.unset).toArray = ls at hl ⊢
  exact body p e s m below meth c ls ⟨B.exec, B.bytes, hml, B.returns, B.notSynchronized, findClass_of_methodNamed B.named, (name_of_methodNamed B.named B.method).1, h1, h2, h3⟩ hnt h4 hl
section ZE
variable {p : Program} {l : Launch} {e : Env} {R : Room} {s : State} {m : MethodId} {args : Array Value} {below : List Frame} {meth : Method} {c : Code} {H : Heap} {locs : List Loc} {cells slots mc ms : Nat} {Q : State → Prop} {A : Nat → Prop} {post : Option Value → Heap → Prop}
variable {cc : ByteArray} {pc : Nat} {ls : Array Slot} {rest st0 : List Value}
theorem z_iret {v : Int32} (hx : p.tables.exec = Jvm.exec) (hb : c.code = cc) (hr : meth.sig.returnType = some .int) (hlocks : meth.locks = false) (hS : va_S A s.heap H locs) (hc : cells ≤ mc) (hs : slots ≤ ms) (hdg : decode cc pc = .ok (.ireturn, 1)) (hq : post (some (.int v)) H) : W p l e R s m args below meth c H locs cells slots (MQ below (zQ A post) args s mc ms A) (F0 m pc ls [.int v]) :=
  W.widen hc hs (W.iret hx hb hr (fun t ht _ => ⟨⟨_, rfl, by rw [ht]; exact hq⟩, hS.F ht⟩) hS.2.2 hdg hlocks)
theorem z_zret {v : Int32} {ty : FieldType} (hx : p.tables.exec = Jvm.exec) (hb : c.code = cc) (hr : meth.sig.returnType = some ty) (hn : narrow ty (.int v) = .int v) (hlocks : meth.locks = false) (hS : va_S A s.heap H locs) (hc : cells ≤ mc) (hs : slots ≤ ms) (hdg : decode cc pc = .ok (.ireturn, 1)) (hq : post (some (.int v)) H) : W p l e R s m args below meth c H locs cells slots (MQ below (zQ A post) args s mc ms A) (F0 m pc ls [.int v]) :=
  W.widen hc hs (W.zret hx hb hr hn (fun t ht _ => ⟨⟨_, rfl, by rw [ht]; exact hq⟩, hS.F ht⟩) hS.2.2 hdg hlocks)
theorem z_vret (hx : p.tables.exec = Jvm.exec) (hb : c.code = cc) (hr : meth.sig.returnType = none) (hlocks : meth.locks = false) (hS : va_S A s.heap H locs) (hc : cells ≤ mc) (hs : slots ≤ ms) (hdg : decode cc pc = .ok (.return_, 1)) (hq : post none H) : W p l e R s m args below meth c H locs cells slots (MQ below (zQ A post) args s mc ms A) (F0 m pc ls []) :=
  W.widen hc hs (W.vret hx hb hr (fun t ht _ => ⟨⟨_, rfl, by rw [ht]; exact hq⟩, hS.F ht⟩) hS.2.2 hdg hlocks)
theorem z_aret {r : Option Nat} {rt : FieldType} (hx : p.tables.exec = Jvm.exec) (hb : c.code = cc) (hr : meth.sig.returnType = some rt) (hrt : (∃ n, rt = .object n) ∨ ∃ t, rt = .array t) (hlocks : meth.locks = false) (hS : va_S A s.heap H locs) (hc : cells ≤ mc) (hs : slots ≤ ms) (hdg : decode cc pc = .ok (.areturn, 1)) (hq : post (some (va_rf r)) H) : W p l e R s m args below meth c H locs cells slots (MQ below (zQ A post) args s mc ms A) (F0 m pc ls [va_rf r]) :=
  W.widen hc hs (W.aret hx hb hr hrt (by cases r with | none => exact Or.inl rfl | some x => exact Or.inr ⟨x, rfl⟩) (fun t ht _ => ⟨⟨_, rfl, by rw [ht]; exact hq⟩, hS.F ht⟩) hS.2.2 hdg hlocks)
theorem z_lret {v : Int64} (hx : p.tables.exec = Jvm.exec) (hb : c.code = cc) (hr : meth.sig.returnType = some .long) (hlocks : meth.locks = false) (hS : va_S A s.heap H locs) (hc : cells ≤ mc) (hs : slots ≤ ms) (hdg : decode cc pc = .ok (.lreturn, 1)) (hq : post (some (.long v)) H) : W p l e R s m args below meth c H locs cells slots (MQ below (zQ A post) args s mc ms A) (F0 m pc ls [.long v]) :=
  W.widen hc hs (W.lret hx hb hr (fun t ht _ => ⟨⟨_, rfl, by rw [ht]; exact hq⟩, hS.F ht⟩) hS.2.2 hdg hlocks)
theorem z_fret {v : UInt32} (hx : p.tables.exec = Jvm.exec) (hb : c.code = cc) (hr : meth.sig.returnType = some .float) (hlocks : meth.locks = false) (hS : va_S A s.heap H locs) (hc : cells ≤ mc) (hs : slots ≤ ms) (hdg : decode cc pc = .ok (.freturn, 1)) (hq : post (some (.float v)) H) : W p l e R s m args below meth c H locs cells slots (MQ below (zQ A post) args s mc ms A) (F0 m pc ls [.float v]) :=
  W.widen hc hs (W.fret hx hb hr (fun t ht _ => ⟨⟨_, rfl, by rw [ht]; exact hq⟩, hS.F ht⟩) hS.2.2 hdg hlocks)
/-- behind a call -/
theorem z_call {a : Array Value} {k n : Nat} (hr : va_Run p l e R s m args below meth c H locs cells slots k n (F0 m pc ls st0) rest (zQ A post a) A) (hS : va_S A s.heap H locs)
    (kk : ∀ (v : Option Value) (H1 : Heap) (locs1 : List Loc), post v H1 → va_S A s.heap H1 locs1 → W p l e R s m args below meth c H1 locs1 (cells + k) (slots + n) Q (F0 m (pc + 3) ls (v.toList ++ rest))) : W p l e R s m args below meth c H locs cells slots Q (F0 m pc ls st0) := by
  intro T hT X
  obtain ⟨v, st₀, t, T', L, h0, X', hL, e1, e2, ⟨⟨v', hv, hp⟩, hz, hk⟩, st⟩ := hr T hT X
  cases hv
  rw [h0] at hz hk
  obtain ⟨t2, a1, b1⟩ := kk v T'.heap (locs ++ L) (by rw [e1]; exact hp) ⟨Nat.le_trans hS.1 (by rw [e1]; exact hz), fun q h1 h2 => by rw [e1, hk q (Nat.lt_of_lt_of_le h1 hS.1) h2]; exact hS.2.1 q h1 h2, fun q hq => by
      rcases List.mem_append.mp hq with h | h
      · exact hS.2.2 q h
      · exact hL q h⟩ T' rfl X'
  exact ⟨t2, st t2 a1, b1⟩
theorem z_call5 {a : Array Value} {k n : Nat} (hr : va_Run5 p l e R s m args below meth c H locs cells slots k n (F0 m pc ls st0) rest (zQ A post a) A) (hS : va_S A s.heap H locs)
    (kk : ∀ (v : Option Value) (H1 : Heap) (locs1 : List Loc), post v H1 → va_S A s.heap H1 locs1 → W p l e R s m args below meth c H1 locs1 (cells + k) (slots + n) Q (F0 m (pc + 5) ls (v.toList ++ rest))) : W p l e R s m args below meth c H locs cells slots Q (F0 m pc ls st0) := by
  intro T hT X
  obtain ⟨v, st₀, t, T', L, h0, X', hL, e1, e2, ⟨⟨v', hv, hp⟩, hz, hk⟩, st⟩ := hr T hT X
  cases hv
  rw [h0] at hz hk
  obtain ⟨t2, a1, b1⟩ := kk v T'.heap (locs ++ L) (by rw [e1]; exact hp) ⟨Nat.le_trans hS.1 (by rw [e1]; exact hz), fun q h1 h2 => by rw [e1, hk q (Nat.lt_of_lt_of_le h1 hS.1) h2]; exact hS.2.1 q h1 h2, fun q hq => by
      rcases List.mem_append.mp hq with h | h
      · exact hS.2.2 q h
      · exact hL q h⟩ T' rfl X'
  exact ⟨t2, st t2 a1, b1⟩
/-- behind a call that may throw -/
theorem z_callX {a : Array Value} {k n : Nat} {px : String → Heap → Prop} (hr : vx_Run p l e R s m args below meth c H locs cells slots k n (F0 m pc ls st0) rest (zQ A post a) (zXC A px) A) (hS : va_S A s.heap H locs)
    (kx : ∀ (E : String) (ce : Cell) (q9 : Addr) (H1 : Heap) (locs1 : List Loc), px E H1 → va_S A s.heap H1 locs1 → H1[q9]? = some ce → ce.vm = .none → s.vm.findClass E = some ce.cls → vx_W p l e R s m args below meth c H1 locs1 (cells + k) (slots + n) Q (F0 m pc ls rest) q9)
    (kk : ∀ (v : Option Value) (H1 : Heap) (locs1 : List Loc), post v H1 → va_S A s.heap H1 locs1 → W p l e R s m args below meth c H1 locs1 (cells + k) (slots + n) Q (F0 m (pc + 3) ls (v.toList ++ rest))) : W p l e R s m args below meth c H locs cells slots Q (F0 m pc ls st0) := by
  intro T hT X
  have key : ∀ {st₀ t T' : State} {L : List Loc}, st₀.heap = H → T'.heap = t.heap → (∀ q ∈ L, A q.base) → va_F A st₀ t → va_S A s.heap T'.heap (locs ++ L) := by
    intro st₀ t T' L h0 e1 hL hF
    obtain ⟨hz, hk⟩ := hF
    rw [h0] at hz hk
    exact ⟨Nat.le_trans hS.1 (by rw [e1]; exact hz), fun q h1 h2 => by rw [e1, hk q (Nat.lt_of_lt_of_le h1 hS.1) h2]; exact hS.2.1 q h1 h2, fun q hq => by
      rcases List.mem_append.mp hq with h | h
      · exact hS.2.2 q h
      · exact hL q h⟩
  rcases hr T hT X with ⟨v, st₀, t, T', L, h0, X', hL, e1, e2, ⟨⟨v', hv, hp⟩, hF⟩, st⟩ | ⟨q, st₀, t, T', L, E, ce, h0, X', hL, e1, e2, ⟨hp, hF⟩, hce, hcv, hcl, st⟩
  · cases hv
    obtain ⟨t2, a1, b1⟩ := kk v T'.heap (locs ++ L) (by rw [e1]; exact hp) (key h0 e1 hL hF) T' rfl X'
    exact ⟨t2, st t2 a1, b1⟩
  · obtain ⟨t2, a1, b1⟩ := kx E ce q T'.heap (locs ++ L) (by rw [e1]; exact hp) (key h0 e1 hL hF) (by rw [e1]; exact hce) hcv hcl T' rfl X'
    exact ⟨t2, st.trans a1, b1⟩
end ZE
end
section
/-! the kit's heap rows over a world as a partial map -/
section ZR
variable {p : Program} {l : Launch} {e : Env} {R : Room} {s : State} {m : MethodId} {args : Array Value} {below : List Frame} {meth : Method} {c : Code} {H : Heap} {locs : List Loc} {cells slots : Nat} {Q : State → Prop}
variable {cc : ByteArray} {pc : Nat} {ls : Array Slot} {rest : List Value} {D : va_G} {A : Nat → Prop} {a : Nat} {tys : List (ClassId × FieldType)} {w : zW}
theorem z_get (hx : p.tables.exec = Jvm.exec) (hb : c.code = cc) {own ref C : String} {T : u_T} {N ci index : Nat} (hts : ∀ w ∈ u_ws C T N, w.before args s = true) (hown : s.vm.findClass own = some m.cls) (hK : va_K D vwCl tys s) (hR : zR D A w H) {fs : List Value} (he : w a = some (.inr (ci, fs))) (hc : vwCl[ci]? = some (C, T, N)) (k : Nat) (hk : k < N) (hlink : (Cond.fieldLink own index ref (T k).2.1 (T k).2.2.1).before args s = true) (hsame : ∀ x, s.fieldFound? (T k).1 (T k).2.1 (T k).2.2.1 = some x → s.fieldFound? ref (T k).2.1 (T k).2.2.1 = some x) {v : Value} (hv : fs[k]? = some v) (hdg : decode cc pc = .ok (.getfield index, 3))
    (kk : W p l e R s m args below meth c H locs cells slots Q (F0 m (pc + 3) ls (v :: rest))) : W p l e R s m args below meth c H locs cells slots Q (F0 m pc ls (.ref a :: rest)) := by
  obtain ⟨ws, hP, hD, hw⟩ := hR
  obtain ⟨q0, h0⟩ := hw _ _ he
  exact va_get hx hb hts (fun _ h => h) hown hK hP q0 h0 hc k hk hlink hsame hv hdg kk
theorem z_put (hx : p.tables.exec = Jvm.exec) (hb : c.code = cc) {own ref C : String} {T : u_T} {N ci index : Nat} (hts : ∀ w ∈ u_ws C T N, w.before args s = true) (ty0 : Nat → FieldType) (hty : ∀ k, k < N → parseFieldDescriptor (T k).2.2.1 = some (ty0 k)) (hnm : ∀ a, a < N → ∀ b, b < N → a ≠ b → (T a).2.1 ≠ (T b).2.1) (hown : s.vm.findClass own = some m.cls) (hK : va_K D vwCl tys s) (hR : zR D A w H) (hS : va_S A s.heap H locs) {fs : List Value} (he : w a = some (.inr (ci, fs))) (hc : vwCl[ci]? = some (C, T, N)) (k : Nat) (hk : k < N) (hlink : (Cond.fieldLink own index ref (T k).2.1 (T k).2.2.1).before args s = true) (hsame : ∀ x, s.fieldFound? (T k).1 (T k).2.1 (T k).2.2.1 = some x → s.fieldFound? ref (T k).2.1 (T k).2.2.1 = some x) (hfin : (T k).2.2.2 = false) {ty : FieldType} {v : Value} (hd : parseFieldDescriptor (T k).2.2.1 = some ty) (hn : narrow ty v = v) (hfit : fits ty v = true) (hl : k < fs.length)
    (hdg : decode cc pc = .ok (.putfield index, 3)) (kk : ∀ (H1 : Heap) (locs1 : List Loc), zR D A (zu w a (.inr (ci, fs.set k v))) H1 → va_S A s.heap H1 locs1 → W p l e R s m args below meth c H1 locs1 cells slots Q (F0 m (pc + 3) ls rest)) : W p l e R s m args below meth c H locs cells slots Q (F0 m pc ls (v :: .ref a :: rest)) := by
  obtain ⟨ws, hP, hD, hw⟩ := hR
  obtain ⟨q0, h0⟩ := hw _ _ he
  exact va_put hx hb hts (fun _ h => h) ty0 hty hnm hown hK hP hD hS q0 h0 hc k hk hlink hsame hfin hd hn hfit hl hdg (fun H1 locs1 hP1 hD1 hS1 => kk H1 locs1 ⟨_, hP1, hD1, zR_set h0 hw⟩ hS1)
theorem z_putF (hx : p.tables.exec = Jvm.exec) (hb : c.code = cc) {own ref C : String} {T : u_T} {N ci index : Nat} (hts : ∀ w ∈ u_ws C T N, w.before args s = true) (ty0 : Nat → FieldType) (hty : ∀ k, k < N → parseFieldDescriptor (T k).2.2.1 = some (ty0 k)) (hnm : ∀ a, a < N → ∀ b, b < N → a ≠ b → (T a).2.1 ≠ (T b).2.1) (hown : s.vm.findClass own = some m.cls) (hK : va_K D vwCl tys s) (hR : zR D A w H) (hS : va_S A s.heap H locs) {fs : List Value} (he : w a = some (.inr (ci, fs))) (hc : vwCl[ci]? = some (C, T, N)) (k : Nat) (hk : k < N) (hlink : (Cond.fieldLink own index ref (T k).2.1 (T k).2.2.1).before args s = true) (hsame : ∀ x, s.fieldFound? (T k).1 (T k).2.1 (T k).2.2.1 = some x → s.fieldFound? ref (T k).2.1 (T k).2.2.1 = some x) (hfin : (T k).2.2.2 = true) (hin2 : meth.name = "<init>") (hdecl : (T k).1 = own) {ty : FieldType} {v : Value} (hd : parseFieldDescriptor (T k).2.2.1 = some ty) (hn : narrow ty v = v) (hfit : fits ty v = true) (hl : k < fs.length)
    (hdg : decode cc pc = .ok (.putfield index, 3)) (kk : ∀ (H1 : Heap) (locs1 : List Loc), zR D A (zu w a (.inr (ci, fs.set k v))) H1 → va_S A s.heap H1 locs1 → W p l e R s m args below meth c H1 locs1 cells slots Q (F0 m (pc + 3) ls rest)) : W p l e R s m args below meth c H locs cells slots Q (F0 m pc ls (v :: .ref a :: rest)) := by
  obtain ⟨ws, hP, hD, hw⟩ := hR
  obtain ⟨q0, h0⟩ := hw _ _ he
  exact va_putF hx hb hts (fun _ h => h) ty0 hty hnm hown hK hP hD hS q0 h0 hc k hk hlink hsame hfin hin2 hdecl hd hn hfit hl hdg (fun H1 locs1 hP1 hD1 hS1 => kk H1 locs1 ⟨_, hP1, hD1, zR_set h0 hw⟩ hS1)
theorem z_iald (hx : p.tables.exec = Jvm.exec) (hb : c.code = cc) (hK : va_K D vwCl tys s) (hR : zR D A w H) (t0 : Nat) {cA : ClassId} {n : Nat} {f : Nat → Int32} (ha : w a = some (.inl (cA, n, .inl f))) (ht : tys[t0]? = some (cA, .int)) {i : Int} (hin : 0 ≤ i ∧ i < n ∧ n ≤ 2147483647) (hdg : decode cc pc = .ok (.iaload, 1))
    (kk : W p l e R s m args below meth c H locs cells slots Q (F0 m (pc + 1) ls (.int (f i.toNat) :: rest))) : W p l e R s m args below meth c H locs cells slots Q (F0 m pc ls (.int (zi i) :: .ref a :: rest)) := by
  obtain ⟨ws, hP, hD, hw⟩ := hR
  obtain ⟨q0, h0⟩ := hw _ _ ha
  exact va_iald hx hb hK hP q0 t0 h0 ht (zi_in hin) hdg (by rw [zi_clamp (by omega)]; exact kk)
theorem z_bald (hx : p.tables.exec = Jvm.exec) (hb : c.code = cc) (hK : va_K D vwCl tys s) (hR : zR D A w H) (t0 : Nat) {cA : ClassId} {n : Nat} {f : Nat → Int32} (ha : w a = some (.inl (cA, n, .inl f))) (ht : tys[t0]? = some (cA, .byte)) {i : Int} (hin : 0 ≤ i ∧ i < n ∧ n ≤ 2147483647) (hdg : decode cc pc = .ok (.baload, 1))
    (kk : W p l e R s m args below meth c H locs cells slots Q (F0 m (pc + 1) ls (.int (f i.toNat) :: rest))) : W p l e R s m args below meth c H locs cells slots Q (F0 m pc ls (.int (zi i) :: .ref a :: rest)) := by
  obtain ⟨ws, hP, hD, hw⟩ := hR
  obtain ⟨q0, h0⟩ := hw _ _ ha
  exact va_bald hx hb hK hP q0 t0 h0 ht (zi_in hin) hdg (by rw [zi_clamp (by omega)]; exact kk)
theorem z_lald (hx : p.tables.exec = Jvm.exec) (hb : c.code = cc) (hK : va_K D vwCl tys s) (hR : zR D A w H) (t0 : Nat) {cA : ClassId} {n : Nat} {f : Nat → Int64} (ha : w a = some (.inl (cA, n, .inr (.inl f)))) (ht : tys[t0]? = some (cA, .long)) {i : Int} (hin : 0 ≤ i ∧ i < n ∧ n ≤ 2147483647) (hdg : decode cc pc = .ok (.laload, 1))
    (kk : W p l e R s m args below meth c H locs cells slots Q (F0 m (pc + 1) ls (.long (f i.toNat) :: rest))) : W p l e R s m args below meth c H locs cells slots Q (F0 m pc ls (.int (zi i) :: .ref a :: rest)) := by
  obtain ⟨ws, hP, hD, hw⟩ := hR
  obtain ⟨q0, h0⟩ := hw _ _ ha
  exact va_lald hx hb hK hP q0 t0 h0 ht (zi_in hin) hdg (by rw [zi_clamp (by omega)]; exact kk)
theorem z_dald (hx : p.tables.exec = Jvm.exec) (hb : c.code = cc) (hK : va_K D vwCl tys s) (hR : zR D A w H) (t0 : Nat) {cA : ClassId} {n : Nat} {f : Nat → UInt64} (ha : w a = some (.inl (cA, n, .inr (.inr (.inr (.inl f)))))) (ht : tys[t0]? = some (cA, .double)) {i : Int} (hin : 0 ≤ i ∧ i < n ∧ n ≤ 2147483647) (hdg : decode cc pc = .ok (.daload, 1))
    (kk : W p l e R s m args below meth c H locs cells slots Q (F0 m (pc + 1) ls (.double (f i.toNat) :: rest))) : W p l e R s m args below meth c H locs cells slots Q (F0 m pc ls (.int (zi i) :: .ref a :: rest)) := by
  obtain ⟨ws, hP, hD, hw⟩ := hR
  obtain ⟨q0, h0⟩ := hw _ _ ha
  exact va_dald hx hb hK hP q0 t0 h0 ht (zi_in hin) hdg (by rw [zi_clamp (by omega)]; exact kk)
theorem z_aald (hx : p.tables.exec = Jvm.exec) (hb : c.code = cc) (hK : va_K D vwCl tys s) (hR : zR D A w H) (t0 : Nat) {cA : ClassId} {C : String} {n : Nat} {f : Nat → Option Nat} (ha : w a = some (.inl (cA, n, .inr (.inr (.inr (.inr f)))))) (ht : tys[t0]? = some (cA, .object C)) {i : Int} (hin : 0 ≤ i ∧ i < n ∧ n ≤ 2147483647) (hdg : decode cc pc = .ok (.aaload, 1))
    (kk : W p l e R s m args below meth c H locs cells slots Q (F0 m (pc + 1) ls (va_rf (f i.toNat) :: rest))) : W p l e R s m args below meth c H locs cells slots Q (F0 m pc ls (.int (zi i) :: .ref a :: rest)) := by
  obtain ⟨ws, hP, hD, hw⟩ := hR
  obtain ⟨q0, h0⟩ := hw _ _ ha
  exact va_aldq hx hb hK hP q0 t0 h0 ht (zi_in hin) hdg (by rw [zi_clamp (by omega)]; exact kk)
theorem z_iast (hx : p.tables.exec = Jvm.exec) (hb : c.code = cc) (hK : va_K D vwCl tys s) (hR : zR D A w H) (hS : va_S A s.heap H locs) (t0 : Nat) {cA : ClassId} {n : Nat} {f : Nat → Int32} (ha : w a = some (.inl (cA, n, .inl f))) (ht : tys[t0]? = some (cA, .int)) {i : Int} {x : Int32} (hin : 0 ≤ i ∧ i < n ∧ n ≤ 2147483647) (hdg : decode cc pc = .ok (.iastore, 1))
    (kk : ∀ (H1 : Heap) (locs1 : List Loc), zR D A (zu w a (.inl (cA, n, .inl (upd f i.toNat x)))) H1 → va_S A s.heap H1 locs1 → W p l e R s m args below meth c H1 locs1 cells slots Q (F0 m (pc + 1) ls rest)) : W p l e R s m args below meth c H locs cells slots Q (F0 m pc ls (.int x :: .int (zi i) :: .ref a :: rest)) := by
  obtain ⟨ws, hP, hD, hw⟩ := hR
  obtain ⟨q0, h0⟩ := hw _ _ ha
  exact va_iast hx hb hK hP hD hS q0 t0 h0 ht (zi_in hin) hdg (by rw [zi_clamp (by omega)]; exact fun H1 locs1 hP1 hD1 hS1 => kk H1 locs1 ⟨_, hP1, hD1, zR_set h0 hw⟩ hS1)
theorem z_bast (hx : p.tables.exec = Jvm.exec) (hb : c.code = cc) (hK : va_K D vwCl tys s) (hR : zR D A w H) (hS : va_S A s.heap H locs) (t0 : Nat) {cA : ClassId} {n : Nat} {f : Nat → Int32} (ha : w a = some (.inl (cA, n, .inl f))) (ht : tys[t0]? = some (cA, .byte)) {i : Int} {x : Int32} (hin : 0 ≤ i ∧ i < n ∧ n ≤ 2147483647) (hdg : decode cc pc = .ok (.bastore, 1))
    (kk : ∀ (H1 : Heap) (locs1 : List Loc), zR D A (zu w a (.inl (cA, n, .inl (upd f i.toNat (vp_nar .byte x))))) H1 → va_S A s.heap H1 locs1 → W p l e R s m args below meth c H1 locs1 cells slots Q (F0 m (pc + 1) ls rest)) : W p l e R s m args below meth c H locs cells slots Q (F0 m pc ls (.int x :: .int (zi i) :: .ref a :: rest)) := by
  obtain ⟨ws, hP, hD, hw⟩ := hR
  obtain ⟨q0, h0⟩ := hw _ _ ha
  exact va_bast hx hb hK hP hD hS q0 t0 h0 ht (zi_in hin) hdg (by rw [zi_clamp (by omega)]; exact fun H1 locs1 hP1 hD1 hS1 => kk H1 locs1 ⟨_, hP1, hD1, zR_set h0 hw⟩ hS1)
theorem z_last (hx : p.tables.exec = Jvm.exec) (hb : c.code = cc) (hK : va_K D vwCl tys s) (hR : zR D A w H) (hS : va_S A s.heap H locs) (t0 : Nat) {cA : ClassId} {n : Nat} {f : Nat → Int64} (ha : w a = some (.inl (cA, n, .inr (.inl f)))) (ht : tys[t0]? = some (cA, .long)) {i : Int} {x : Int64} (hin : 0 ≤ i ∧ i < n ∧ n ≤ 2147483647) (hdg : decode cc pc = .ok (.lastore, 1))
    (kk : ∀ (H1 : Heap) (locs1 : List Loc), zR D A (zu w a (.inl (cA, n, .inr (.inl (vp_updL f i.toNat x))))) H1 → va_S A s.heap H1 locs1 → W p l e R s m args below meth c H1 locs1 cells slots Q (F0 m (pc + 1) ls rest)) : W p l e R s m args below meth c H locs cells slots Q (F0 m pc ls (.long x :: .int (zi i) :: .ref a :: rest)) := by
  obtain ⟨ws, hP, hD, hw⟩ := hR
  obtain ⟨q0, h0⟩ := hw _ _ ha
  exact va_last hx hb hK hP hD hS q0 t0 h0 ht (zi_in hin) hdg (by rw [zi_clamp (by omega)]; exact fun H1 locs1 hP1 hD1 hS1 => kk H1 locs1 ⟨_, hP1, hD1, zR_set h0 hw⟩ hS1)
theorem z_dast (hx : p.tables.exec = Jvm.exec) (hb : c.code = cc) (hK : va_K D vwCl tys s) (hR : zR D A w H) (hS : va_S A s.heap H locs) (t0 : Nat) {cA : ClassId} {n : Nat} {f : Nat → UInt64} (ha : w a = some (.inl (cA, n, .inr (.inr (.inr (.inl f)))))) (ht : tys[t0]? = some (cA, .double)) {i : Int} {x : UInt64} (hin : 0 ≤ i ∧ i < n ∧ n ≤ 2147483647) (hdg : decode cc pc = .ok (.dastore, 1))
    (kk : ∀ (H1 : Heap) (locs1 : List Loc), zR D A (zu w a (.inl (cA, n, .inr (.inr (.inr (.inl (vf_upd f i.toNat x))))))) H1 → va_S A s.heap H1 locs1 → W p l e R s m args below meth c H1 locs1 cells slots Q (F0 m (pc + 1) ls rest)) : W p l e R s m args below meth c H locs cells slots Q (F0 m pc ls (.double x :: .int (zi i) :: .ref a :: rest)) := by
  obtain ⟨ws, hP, hD, hw⟩ := hR
  obtain ⟨q0, h0⟩ := hw _ _ ha
  exact va_dast hx hb hK hP hD hS q0 t0 h0 ht (zi_in hin) hdg (by rw [zi_clamp (by omega)]; exact fun H1 locs1 hP1 hD1 hS1 => kk H1 locs1 ⟨_, hP1, hD1, zR_set h0 hw⟩ hS1)
/-- an object is put into a row of Objects -/
theorem z_aast (hx : p.tables.exec = Jvm.exec) (hb : c.code = cc) (hK : va_K D vwCl tys s) (hR : zR D A w H) (hS : va_S A s.heap H locs) (t0 : Nat) {E C : String} {cA : ClassId} {n v ci N : Nat} {T : u_T} {fs : List Value} {f : Nat → Option Nat} (ha : w a = some (.inl (cA, n, .inr (.inr (.inr (.inr f)))))) (ht : tys[t0]? = some (cA, .object E)) (hv : w v = some (.inr (ci, fs))) (hc : vwCl[ci]? = some (C, T, N)) (hcast : (Cond.castable C E).before args s = true) {i : Int} (hin : 0 ≤ i ∧ i < n ∧ n ≤ 2147483647) (hdg : decode cc pc = .ok (.aastore, 1))
    (kk : ∀ (H1 : Heap) (locs1 : List Loc), zR D A (zu w a (.inl (cA, n, .inr (.inr (.inr (.inr (va_up f i.toNat (some v)))))))) H1 → va_S A s.heap H1 locs1 → W p l e R s m args below meth c H1 locs1 cells slots Q (F0 m (pc + 1) ls rest)) : W p l e R s m args below meth c H locs cells slots Q (F0 m pc ls (.ref v :: .int (zi i) :: .ref a :: rest)) := by
  obtain ⟨ws, hP, hD, hw⟩ := hR
  obtain ⟨q0, h0⟩ := hw _ _ ha
  obtain ⟨qv, hqv⟩ := hw _ _ hv
  have hany : va_Any E s H v := va_rAny hK hP hqv hc (fun comp c0 h1 h2 => by
    obtain ⟨c3, c4, hc3, hc4, hasg⟩ := Cond.castable_spec hcast
    cases Option.some.inj (hc3.symm.trans h2)
    cases Option.some.inj (hc4.symm.trans h1)
    exact hasg)
  exact va_astqM hx hb hK hP hD hS q0 t0 h0 ht hany (zi_in hin) hdg (by rw [zi_clamp (by omega)]; exact fun H1 locs1 hP1 hD1 hS1 => kk H1 locs1 ⟨_, hP1, hD1, zR_set h0 hw⟩ hS1)
theorem z_alen (hx : p.tables.exec = Jvm.exec) (hb : c.code = cc) (hK : va_K D vwCl tys s) (hR : zR D A w H) (t0 : Nat) {cA : ClassId} {x : vp_A} (ha : w a = some (.inl (cA, x))) {ty : FieldType} (ht : tys[t0]? = some (cA, ty)) (hdg : decode cc pc = .ok (.arraylength, 1))
    (kk : W p l e R s m args below meth c H locs cells slots Q (F0 m (pc + 1) ls (.int (zi (x.1 : Int)) :: rest))) : W p l e R s m args below meth c H locs cells slots Q (F0 m pc ls (.ref a :: rest)) := by
  obtain ⟨ws, hP, hD, hw⟩ := hR
  obtain ⟨q0, h0⟩ := hw _ _ ha
  exact va_alen hx hb hK hP q0 t0 h0 ht (v := zi (x.1 : Int)) (zi_nI x.1) hdg kk
theorem z_new (hx : p.tables.exec = Jvm.exec) (hb : c.code = cc) {own C : String} {T : u_T} {N ci index : Nat} (hts : ∀ w ∈ u_ws C T N, w.before args s = true) (ty : Nat → FieldType) (hty : ∀ k, k < N → parseFieldDescriptor (T k).2.2.1 = some (ty k)) (hown : s.vm.findClass own = some m.cls) (hcl : (Cond.classLink own index C).before args s = true) (hinst : (Cond.instantiable C N).before args s = true) (hini : (Cond.initialized C).before args s = true)
    (hK : va_K D vwCl tys s) (hR : zR D A w H) (hS : va_S A s.heap H locs) (hA : ∀ q, s.heap.size ≤ q → A q) (hc : vwCl[ci]? = some (C, T, N)) {fs : List Value} (hfs : ∀ j, j < N → defaultValue (ty j) = vp_V fs j) (hcells : cells + 1 ≤ R.cells) (hslots : slots + N ≤ R.slots) (hdg : decode cc pc = .ok (.new index, 3))
    (kk : ∀ (q : Nat) (H1 : Heap), (∀ (q' : Nat) (e' : va_E), w q' = some e' → q' ≠ q) → zR D A (zu w q (.inr (ci, fs))) H1 → va_S A s.heap H1 locs → W p l e R s m args below meth c H1 locs (cells + 1) (slots + N) Q (F0 m (pc + 3) ls (.ref q :: rest))) : W p l e R s m args below meth c H locs cells slots Q (F0 m pc ls rest) := by
  obtain ⟨ws, hP, hD, hw⟩ := hR
  exact va_new hx hb hts (fun _ h => h) ty hty hown hcl hinst hini hK hP hD hS hA hc hfs hcells hslots hdg (fun q H1 hP1 hD1 hS1 => kk q H1 (zR_fresh hw hD1) ⟨_, hP1, hD1, zR_push hw⟩ hS1)
theorem z_RA {C : FieldType} {cA cB : ClassId} (h1 : va_RA s cA C) (h2 : va_RA s cB C) : cA = cB := by
  cases C with
  | object C =>
    obtain ⟨-, -, -, -, -, e1⟩ := h1
    obtain ⟨-, -, -, -, -, e2⟩ := h2
    exact Option.some.inj (e1.symm.trans e2)
  | _ => exact Option.some.inj (Eq.trans (Eq.symm h1) h2)
theorem z_newa (hx : p.tables.exec = Jvm.exec) (hb : c.code = cc) {atype : ArrayType} (harr : (Cond.arrayClass (newarray.typeOf atype)).before args s = true) {ty : FieldType} (hty : newarray.typeOf atype = ty) (hK : va_K D vwCl tys s) (hR : zR D A w H) (hS : va_S A s.heap H locs) (hA : ∀ q, s.heap.size ≤ q → A q)
    {n : Int} {a0 : vp_A} (t0 : Nat) {cB : ClassId} (ht : tys[t0]? = some (cB, ty)) (ha : ∀ cA : ClassId, vp_cell cA a0 = arrV cA n.toNat (fun _ => defaultValue ty)) (hn : 0 ≤ n ∧ n ≤ 1000000) (hbytes : n.toNat * componentBytes ty ≤ 536870912) (hcells : cells + 1 ≤ R.cells) (hslots : slots + n.toNat ≤ R.slots) (hdg : decode cc pc = .ok (.newarray atype, 2))
    (kk : ∀ (q : Nat) (H1 : Heap), (∀ (q' : Nat) (e' : va_E), w q' = some e' → q' ≠ q) → zR D A (zu w q (.inl (cB, a0))) H1 → va_S A s.heap H1 locs →
      W p l e R s m args below meth c H1 locs (cells + 1) (slots + n.toNat) Q (F0 m (pc + 2) ls (.ref q :: rest))) : W p l e R s m args below meth c H locs cells slots Q (F0 m pc ls (.int (zi n) :: rest)) := by
  obtain ⟨ws, hP, hD, hw⟩ := hR
  refine va_newa hx hb harr hty hK hP hD hS hA ha (by rw [← zi_0, zi_lt (by omega)]; omega) (zi_clamp (by omega)) hbytes hcells hslots hdg (fun q cA H1 hK1 hP1 hD1 hS1 => ?_)
  have h1 : (tys ++ [(cA, ty)])[tys.length]? = some (cA, ty) := by simp
  have h2 := (hK1.2 _ _ h1).2
  have h3 := (hK.2 _ _ ht).2
  cases z_RA h2 h3
  exact kk q H1 (zR_fresh hw hD1) ⟨_, hP1, hD1, zR_push hw⟩ hS1
theorem z_newq (hx : p.tables.exec = Jvm.exec) (hb : c.code = cc) {own C : String} {index : Nat} (hown : s.vm.findClass own = some m.cls) (hclink : (Cond.classLink own index C).before args s = true) (hover : va_AO C s) (hK : va_K D vwCl tys s) (hR : zR D A w H) (hS : va_S A s.heap H locs) (hA : ∀ q, s.heap.size ≤ q → A q)
    {n : Int} (t0 : Nat) {cB : ClassId} (ht : tys[t0]? = some (cB, .object C)) (hn : 0 ≤ n ∧ n ≤ 1000000) (hcells : cells + 1 ≤ R.cells) (hslots : slots + n.toNat ≤ R.slots) (hdg : decode cc pc = .ok (.anewarray index, 3))
    (kk : ∀ (q : Nat) (H1 : Heap), (∀ (q' : Nat) (e' : va_E), w q' = some e' → q' ≠ q) → zR D A (zu w q (.inl (cB, n.toNat, .inr (.inr (.inr (.inr (fun _ => none))))))) H1 → va_S A s.heap H1 locs →
      W p l e R s m args below meth c H1 locs (cells + 1) (slots + n.toNat) Q (F0 m (pc + 3) ls (.ref q :: rest))) : W p l e R s m args below meth c H locs cells slots Q (F0 m pc ls (.int (zi n) :: rest)) := by
  obtain ⟨ws, hP, hD, hw⟩ := hR
  refine va_newq hx hb hown hclink hover hK hP hD hS hA (by rw [← zi_0, zi_lt (by omega)]; omega) (zi_clamp (by omega)) (by omega) hcells hslots hdg (fun q cA H1 hK1 hP1 hD1 hS1 => ?_)
  have h1 : (tys ++ [(cA, FieldType.object C)])[tys.length]? = some (cA, .object C) := by simp
  have h2 := (hK1.2 _ _ h1).2
  have h3 := (hK.2 _ _ ht).2
  cases z_RA h2 h3
  exact kk q H1 (zR_fresh hw hD1) ⟨_, hP1, hD1, zR_push hw⟩ hS1
/-- the object at a is of its class: what a call through it asks -/
theorem z_recv {ci N : Nat} {C : String} {T : u_T} {fs : List Value} (hK : va_K D vwCl tys s) (hR : zR D A w H) (he : w a = some (.inr (ci, fs))) (hc : vwCl[ci]? = some (C, T, N)) : ∃ cell : Cell, H[a]? = some cell ∧ cell.vm.isStatics = false ∧ s.vm.findClass C = some cell.cls := by
  obtain ⟨ws, hP, hD, hw⟩ := hR
  obtain ⟨q0, h0⟩ := hw _ _ he
  exact va_recv hK hP hc h0
theorem z_cast (hx : p.tables.exec = Jvm.exec) (hb : c.code = cc) {own C nm : String} {index : Nat} (hown : s.vm.findClass own = some m.cls) (hlink : (Cond.classLink own index nm).before args s = true) (hcast : va_Nw (.castable C nm) s)
    (hr : ∃ cell : Cell, H[a]? = some cell ∧ cell.vm.isStatics = false ∧ s.vm.findClass C = some cell.cls) (hdg : decode cc pc = .ok (.checkcast index, 3))
    (k : W p l e R s m args below meth c H locs cells slots Q (F0 m (pc + 3) ls (.ref a :: rest))) : W p l e R s m args below meth c H locs cells slots Q (F0 m pc ls (.ref a :: rest)) := va_castY hx hb hown hlink hcast hr hdg k
end ZR
section ZV
variable {p : Program} {l : Launch} {e : Env} {R : Room} {s : State} {m : MethodId} {args : Array Value} {below : List Frame} {meth : Method} {c : Code} {H : Heap} {locs : List Loc} {cells slots : Nat} {Q : State → Prop}
variable {cc : ByteArray} {pc : Nat} {ls : Array Slot} {rest : List Value} {A : Nat → Prop} {S : State} {nL : Nat}
variable {y : MethodName} {bytes : ByteArray} {maxL n index : Nat} {ret : Option FieldType} {rm : Room} {As : List Value} {P : Heap → Prop} {post : Option Value → Heap → Prop} {px : String → Heap → Prop} {own C : String} {b : Nat}
/-- what a caller has at hand all the time -/
abbrev zH (S : State) (A : Nat → Prop) (p : Program) (s : State) (m : MethodId) (c : Code) (cc : ByteArray) (nL : Nat) (own : String) : Prop := p.tables.exec = Jvm.exec ∧ c.code = cc ∧ c.maxLocals = nL ∧ s.vm.findClass own = some m.cls ∧ S.WarmedH s.vm ∧ zP S s.heap ∧ (∀ q, s.heap.size ≤ q → A q) ∧ (∀ q, A q → S.heap.size ≤ q)
theorem z_pre (X : zH S A p s m c cc nL own) (hS : va_S A s.heap H locs) (hP : P H) {av : List Value} : ∀ U : State, U.heap = H → s.WarmedH U.vm → va_Pc av (zI S A P) av.toArray U := by
  obtain ⟨-, -, -, -, hW, hp, hA, hAz⟩ := X
  intro U hU hWU
  refine ⟨rfl, State.WarmedH.trans hW hWU, by rw [hU]; exact zP.of hp hAz hS, fun q hq => ?_, by rw [hU]; exact hP⟩
  rw [hU] at hq
  exact hA q (Nat.le_trans hS.1 hq)
theorem z_cb (X : zH S A p s m c cc nL own) (hcode : (Cond.code y bytes maxL ret).before args s = true) (hini : (Cond.initialized y.cls).before args s = true) (hlink : (Cond.methodLink own index y).before args s = true)
    (hd : y.cls ≠ "java/lang/invoke/MethodHandle" ∧ y.cls ≠ "java/lang/invoke/VarHandle" ∧ (parseMethodDescriptor y.desc).map (fun d => d.parameters.length) = some n) (hR : rm.frames + 1 ≤ R.frames ∧ 8 + (maxL + 11) + rm.locals ≤ R.locals) : CallB R s args own index y bytes maxL ret [.code y bytes maxL ret] rm rm.cells rm.slots n := by
  refine ⟨rfl, rfl, hR.1, hR.2, ?_, List.mem_cons_self, hcode, hini, ⟨hd.1, hd.2.1⟩, fun sig h => ?_, hlink⟩
  · intro w hw a' U hWU
    rw [List.mem_singleton.mp hw]
    exact word_at hWU (Or.inl (by simp [Cond.onTables, Cond.keeps, Cond.steady])) hcode
  · have h2 := hd.2.2
    rw [h] at h2
    exact (Option.some.inj h2).symm
theorem z_invV (hM : zM l S A y bytes maxL ret rm (.ref b :: As) P post) (X : zH S A p s m c cc nL own) (hS : va_S A s.heap H locs) (hP : P H) (hlv : ls.size = nL)
    (hcode : (Cond.code y bytes maxL ret).before args s = true) (hini : (Cond.initialized y.cls).before args s = true) (hlink : (Cond.methodLink own index y).before args s = true) (hinst : (Cond.instanceMethod y).before args s = true) (hsel : (Cond.selects C y y).before args s = true)
    (hrecv : ∃ cell : Cell, H[b]? = some cell ∧ cell.vm.isStatics = false ∧ s.vm.findClass C = some cell.cls)
    (hd : y.cls ≠ "java/lang/invoke/MethodHandle" ∧ y.cls ≠ "java/lang/invoke/VarHandle" ∧ (parseMethodDescriptor y.desc).map (fun d => d.parameters.length) = some n) (hn : As.length = n) (hR : rm.frames + 1 ≤ R.frames ∧ 8 + (maxL + 11) + rm.locals ≤ R.locals) (hf : cells + rm.cells ≤ R.cells ∧ slots + rm.slots ≤ R.slots) (hrest : (rest.map fun v => v.category).sum ≤ 8) (hdg : decode cc pc = .ok (.invokevirtual index, 3))
    (kk : ∀ (v : Option Value) (H1 : Heap) (locs1 : List Loc), post v H1 → va_S A s.heap H1 locs1 → W p l e R s m args below meth c H1 locs1 (cells + rm.cells) (slots + rm.slots) Q (F0 m (pc + 3) ls (v.toList ++ rest))) {st0 : List Value} (hst : st0 = As.reverse ++ .ref b :: rest) : W p l e R s m args below meth c H locs cells slots Q (F0 m pc ls st0) := by
  have hX := X
  obtain ⟨hx, hb, hml, hown, -⟩ := hX
  exact z_call (va_runV (Ts := []) (rest := rest) (C := C) ⟨hx, hb, hml, hown, fun _ h => nomatch h⟩ hM ⟨z_cb X hcode hini hlink hd hR, hinst, hsel⟩ ⟨zI_blind, hrecv, z_pre X hS hP⟩ rfl hn hlv hst (lv_room hrest) hdg hf) hS kk
theorem z_invS (hM : zM l S A y bytes maxL ret rm As P post) (X : zH S A p s m c cc nL own) (hS : va_S A s.heap H locs) (hP : P H) (hlv : ls.size = nL)
    (hcode : (Cond.code y bytes maxL ret).before args s = true) (hini : (Cond.initialized y.cls).before args s = true) (hlink : (Cond.methodLink own index y).before args s = true) (hstat : (Cond.static y).before args s = true)
    (hd : y.cls ≠ "java/lang/invoke/MethodHandle" ∧ y.cls ≠ "java/lang/invoke/VarHandle" ∧ (parseMethodDescriptor y.desc).map (fun d => d.parameters.length) = some n) (hn : As.length = n) (hR : rm.frames + 1 ≤ R.frames ∧ 8 + (maxL + 11) + rm.locals ≤ R.locals) (hf : cells + rm.cells ≤ R.cells ∧ slots + rm.slots ≤ R.slots) (hrest : (rest.map fun v => v.category).sum ≤ 8) (hdg : decode cc pc = .ok (.invokestatic index, 3))
    (kk : ∀ (v : Option Value) (H1 : Heap) (locs1 : List Loc), post v H1 → va_S A s.heap H1 locs1 → W p l e R s m args below meth c H1 locs1 (cells + rm.cells) (slots + rm.slots) Q (F0 m (pc + 3) ls (v.toList ++ rest))) {st0 : List Value} (hst : st0 = As.reverse ++ rest) : W p l e R s m args below meth c H locs cells slots Q (F0 m pc ls st0) := by
  have hX := X
  obtain ⟨hx, hb, hml, hown, -⟩ := hX
  exact z_call (va_runS (Ts := []) (rest := rest) ⟨hx, hb, hml, hown, fun _ h => nomatch h⟩ hM ⟨z_cb X hcode hini hlink hd hR, hstat⟩ ⟨zI_blind, z_pre X hS hP⟩ rfl hn hlv hst (lv_room hrest) hdg hf) hS kk
theorem z_invI (hM : zM l S A y bytes maxL none rm (.ref b :: As) P post) (X : zH S A p s m c cc nL own) (hS : va_S A s.heap H locs) (hP : P H) (hlv : ls.size = nL) (hy1 : y.name = "<init>")
    (hcode : (Cond.code y bytes maxL none).before args s = true) (hini : (Cond.initialized y.cls).before args s = true) (hlink : (Cond.methodLink own index y).before args s = true) (hinst : (Cond.instanceMethod y).before args s = true)
    (hd : y.cls ≠ "java/lang/invoke/MethodHandle" ∧ y.cls ≠ "java/lang/invoke/VarHandle" ∧ (parseMethodDescriptor y.desc).map (fun d => d.parameters.length) = some n) (hn : As.length = n) (hR : rm.frames + 1 ≤ R.frames ∧ 8 + (maxL + 11) + rm.locals ≤ R.locals) (hf : cells + rm.cells ≤ R.cells ∧ slots + rm.slots ≤ R.slots) (hrest : (rest.map fun v => v.category).sum ≤ 8) (hdg : decode cc pc = .ok (.invokespecial index, 3))
    (kk : ∀ (v : Option Value) (H1 : Heap) (locs1 : List Loc), post v H1 → va_S A s.heap H1 locs1 → W p l e R s m args below meth c H1 locs1 (cells + rm.cells) (slots + rm.slots) Q (F0 m (pc + 3) ls (v.toList ++ rest))) {st0 : List Value} (hst : st0 = As.reverse ++ .ref b :: rest) : W p l e R s m args below meth c H locs cells slots Q (F0 m pc ls st0) := by
  have hX := X
  obtain ⟨hx, hb, hml, hown, -⟩ := hX
  exact z_call (va_runI (Ts := []) (rest := rest) ⟨hx, hb, hml, hown, fun _ h => nomatch h⟩ hM ⟨z_cb X hcode hini hlink hd hR, hy1, hinst⟩ ⟨zI_blind, z_pre X hS hP⟩ rfl hn hlv hst (lv_room hrest) hdg hf) hS kk
/-- a nest mate's private static method -/
theorem z_invSN {host : String} (hM : zM l S A y bytes maxL ret rm As P post) (X : zH S A p s m c cc nL own) (hS : va_S A s.heap H locs) (hP : P H) (hlv : ls.size = nL)
    (hcode : (Cond.code y bytes maxL ret).before args s = true) (hini : (Cond.initialized y.cls).before args s = true) (hlink : (Cond.methodLinkNest own index y host).before args s = true) (hstat : (Cond.static y).before args s = true)
    (hd : y.cls ≠ "java/lang/invoke/MethodHandle" ∧ y.cls ≠ "java/lang/invoke/VarHandle" ∧ (parseMethodDescriptor y.desc).map (fun d => d.parameters.length) = some n) (hn : As.length = n) (hR : rm.frames + 1 ≤ R.frames ∧ 8 + (maxL + 11) + rm.locals ≤ R.locals) (hf : cells + rm.cells ≤ R.cells ∧ slots + rm.slots ≤ R.slots) (hrest : (rest.map fun v => v.category).sum ≤ 8) (hdg : decode cc pc = .ok (.invokestatic index, 3))
    (kk : ∀ (v : Option Value) (H1 : Heap) (locs1 : List Loc), post v H1 → va_S A s.heap H1 locs1 → W p l e R s m args below meth c H1 locs1 (cells + rm.cells) (slots + rm.slots) Q (F0 m (pc + 3) ls (v.toList ++ rest))) {st0 : List Value} (hst : st0 = As.reverse ++ rest) : W p l e R s m args below meth c H locs cells slots Q (F0 m pc ls st0) := by
  have hX := X
  obtain ⟨hx, hb, hml, hown, -⟩ := hX
  refine z_call (va_runSN (Ts := []) (rest := rest) (host := host) ⟨hx, hb, hml, hown, fun _ h => nomatch h⟩ hM ⟨⟨⟨rfl, rfl, hR.1, hR.2, ?_, List.mem_cons_self⟩, hcode, hini, ⟨hd.1, hd.2.1⟩, fun sig h => ?_, hlink⟩, hstat, trivial⟩ ⟨zI_blind, z_pre X hS hP⟩ rfl hn hlv hst (lv_room hrest) hdg hf) hS kk
  · intro w hw a' U hWU
    rw [List.mem_singleton.mp hw]
    exact word_at hWU (Or.inl (by simp [Cond.onTables, Cond.keeps, Cond.steady])) hcode
  · have h2 := hd.2.2
    rw [h] at h2
    exact (Option.some.inj h2).symm
/-- through an interface -/
theorem z_invF {x : MethodName} {count : Nat} {cC : ClassId} (hat : ClassAt s C cC) (hM : zM l S A y bytes maxL ret rm (.ref b :: As) P post) (X : zH S A p s m c cc nL own) (hS : va_S A s.heap H locs) (hP : P H) (hlv : ls.size = nL)
    (hcode : (Cond.code y bytes maxL ret).before args s = true) (hini : (Cond.initialized y.cls).before args s = true) (hlink : (Cond.methodLink own index x).before args s = true) (hinst : (Cond.instanceMethod y).before args s = true) (hsel : (Cond.selects C x y).before args s = true) (hF : va_Fw C x y s)
    (hrecv : ∃ cell : Cell, H[b]? = some cell ∧ cell.vm.isStatics = false ∧ s.vm.findClass C = some cell.cls)
    (hd : x.cls ≠ "java/lang/invoke/MethodHandle" ∧ x.cls ≠ "java/lang/invoke/VarHandle" ∧ (parseMethodDescriptor x.desc).map (fun d => d.parameters.length) = some n) (hn : As.length = n) (hR : rm.frames + 1 ≤ R.frames ∧ 8 + (maxL + 11) + rm.locals ≤ R.locals) (hf : cells + rm.cells ≤ R.cells ∧ slots + rm.slots ≤ R.slots) (hrest : (rest.map fun v => v.category).sum ≤ 8) (hdg : decode cc pc = .ok (.invokeinterface index count, 5))
    (kk : ∀ (v : Option Value) (H1 : Heap) (locs1 : List Loc), post v H1 → va_S A s.heap H1 locs1 → W p l e R s m args below meth c H1 locs1 (cells + rm.cells) (slots + rm.slots) Q (F0 m (pc + 5) ls (v.toList ++ rest))) {st0 : List Value} (hst : st0 = As.reverse ++ .ref b :: rest) : W p l e R s m args below meth c H locs cells slots Q (F0 m pc ls st0) := by
  have hX := X
  obtain ⟨hx, hb, hml, hown, -⟩ := hX
  refine z_call5 (va_runF (Ts := []) (rest := rest) (C := C) (x := x) hat ⟨hx, hb, hml, hown, fun _ h => nomatch h⟩ hM ⟨⟨rfl, rfl, hR.1, hR.2, ?_, List.mem_cons_self⟩, hlink, va_any rfl hF.1, va_any rfl hF.2.1, hsel, hinst, va_any rfl hF.2.2.1, va_any rfl hF.2.2.2.1, va_any rfl hF.2.2.2.2, hini, hcode, ⟨hd.1, hd.2.1⟩, fun sig h => ?_⟩ ⟨zI_blind, hrecv, z_pre X hS hP⟩ rfl hn hlv hst (lv_room hrest) hdg hf) hS kk
  · intro w hw a' U hWU
    rw [List.mem_singleton.mp hw]
    exact word_at hWU (Or.inl (by simp [Cond.onTables, Cond.keeps, Cond.steady])) hcode
  · have h2 := hd.2.2
    rw [h] at h2
    exact (Option.some.inj h2).symm
/-- calls that may throw -/
theorem z_invVX (hM : zMX l S A y bytes maxL ret rm (.ref b :: As) P post px) (X : zH S A p s m c cc nL own) (hS : va_S A s.heap H locs) (hP : P H) (hlv : ls.size = nL)
    (hcode : (Cond.code y bytes maxL ret).before args s = true) (hini : (Cond.initialized y.cls).before args s = true) (hlink : (Cond.methodLink own index y).before args s = true) (hinst : (Cond.instanceMethod y).before args s = true) (hsel : (Cond.selects C y y).before args s = true)
    (hrecv : ∃ cell : Cell, H[b]? = some cell ∧ cell.vm.isStatics = false ∧ s.vm.findClass C = some cell.cls)
    (hd : y.cls ≠ "java/lang/invoke/MethodHandle" ∧ y.cls ≠ "java/lang/invoke/VarHandle" ∧ (parseMethodDescriptor y.desc).map (fun d => d.parameters.length) = some n) (hn : As.length = n) (hR : rm.frames + 1 ≤ R.frames ∧ 8 + (maxL + 11) + rm.locals ≤ R.locals) (hf : cells + rm.cells ≤ R.cells ∧ slots + rm.slots ≤ R.slots) (hrest : (rest.map fun v => v.category).sum ≤ 8) (hdg : decode cc pc = .ok (.invokevirtual index, 3))
    (kx : ∀ (E : String) (ce : Cell) (q9 : Addr) (H1 : Heap) (locs1 : List Loc), px E H1 → va_S A s.heap H1 locs1 → H1[q9]? = some ce → ce.vm = .none → s.vm.findClass E = some ce.cls → vx_W p l e R s m args below meth c H1 locs1 (cells + rm.cells) (slots + rm.slots) Q (F0 m pc ls rest) q9)
    (kk : ∀ (v : Option Value) (H1 : Heap) (locs1 : List Loc), post v H1 → va_S A s.heap H1 locs1 → W p l e R s m args below meth c H1 locs1 (cells + rm.cells) (slots + rm.slots) Q (F0 m (pc + 3) ls (v.toList ++ rest))) {st0 : List Value} (hst : st0 = As.reverse ++ .ref b :: rest) : W p l e R s m args below meth c H locs cells slots Q (F0 m pc ls st0) := by
  have hX := X
  obtain ⟨hx, hb, hml, hown, -⟩ := hX
  exact z_callX (vx_runV (Ts := []) (rest := rest) (C := C) ⟨hx, hb, hml, hown, fun _ h => nomatch h⟩ hM ⟨z_cb X hcode hini hlink hd hR, hinst, hsel⟩ ⟨zI_blind, hrecv, z_pre X hS hP⟩ rfl hn hlv hst (lv_room hrest) hdg hf) hS kx kk
theorem z_invSX (hM : zMX l S A y bytes maxL ret rm As P post px) (X : zH S A p s m c cc nL own) (hS : va_S A s.heap H locs) (hP : P H) (hlv : ls.size = nL)
    (hcode : (Cond.code y bytes maxL ret).before args s = true) (hini : (Cond.initialized y.cls).before args s = true) (hlink : (Cond.methodLink own index y).before args s = true) (hstat : (Cond.static y).before args s = true)
    (hd : y.cls ≠ "java/lang/invoke/MethodHandle" ∧ y.cls ≠ "java/lang/invoke/VarHandle" ∧ (parseMethodDescriptor y.desc).map (fun d => d.parameters.length) = some n) (hn : As.length = n) (hR : rm.frames + 1 ≤ R.frames ∧ 8 + (maxL + 11) + rm.locals ≤ R.locals) (hf : cells + rm.cells ≤ R.cells ∧ slots + rm.slots ≤ R.slots) (hrest : (rest.map fun v => v.category).sum ≤ 8) (hdg : decode cc pc = .ok (.invokestatic index, 3))
    (kx : ∀ (E : String) (ce : Cell) (q9 : Addr) (H1 : Heap) (locs1 : List Loc), px E H1 → va_S A s.heap H1 locs1 → H1[q9]? = some ce → ce.vm = .none → s.vm.findClass E = some ce.cls → vx_W p l e R s m args below meth c H1 locs1 (cells + rm.cells) (slots + rm.slots) Q (F0 m pc ls rest) q9)
    (kk : ∀ (v : Option Value) (H1 : Heap) (locs1 : List Loc), post v H1 → va_S A s.heap H1 locs1 → W p l e R s m args below meth c H1 locs1 (cells + rm.cells) (slots + rm.slots) Q (F0 m (pc + 3) ls (v.toList ++ rest))) {st0 : List Value} (hst : st0 = As.reverse ++ rest) : W p l e R s m args below meth c H locs cells slots Q (F0 m pc ls st0) := by
  have hX := X
  obtain ⟨hx, hb, hml, hown, -⟩ := hX
  exact z_callX (vx_runS (Ts := []) (rest := rest) ⟨hx, hb, hml, hown, fun _ h => nomatch h⟩ hM ⟨z_cb X hcode hini hlink hd hR, hstat⟩ ⟨zI_blind, z_pre X hS hP⟩ rfl hn hlv hst (lv_room hrest) hdg hf) hS kx kk
/-- thrown in a callee, not caught here -/
theorem z_out {pc : Nat} {E : String} {ce : Cell} {q : Addr} {mc ms : Nat} (hnt : ∀ x ∈ c.exceptionTable.toList, False) (hlocks : meth.locks = false) (hcell : H[q]? = some ce) (hv : ce.vm = .none) (hcl : s.vm.findClass E = some ce.cls) (hS : va_S A s.heap H locs)
    (hx : px E H) (hc : cells ≤ mc) (hs : slots ≤ ms) :
    vx_W p l e R s m args below meth c H locs cells slots (vx_MQ below (zQ A post) (zXC A px) args s mc ms A) (F0 m pc ls rest) q :=
  vx_out (fun x h => (hnt x h).elim) hlocks hcell hv hcl (fun t ht _ => ⟨by rw [ht]; exact hx, hS.F ht⟩) hS.2.2 hc hs
end ZV
end
section
theorem q_0 {S s : State} {args : Array Value} (hT : zT S) (hW : S.WarmedH s.vm) : (Jvm.Cond.initialized "RescuemarketLaw").before args s = true := zT_w hT hW (Or.inl (by first | rfl | decide)) 0 (by decide +kernel)
theorem q_1 {S s : State} {args : Array Value} (hT : zT S) (hW : S.WarmedH s.vm) : (Jvm.Cond.initialized "Rescuemarket").before args s = true := zT_w hT hW (Or.inl (by first | rfl | decide)) 1 (by decide +kernel)
theorem q_2 {S s : State} {args : Array Value} (hT : zT S) (hW : S.WarmedH s.vm) : (Jvm.Cond.initialized "Rescuemarket$Weather").before args s = true := zT_w hT hW (Or.inl (by first | rfl | decide)) 2 (by decide +kernel)
theorem q_3 {S s : State} {args : Array Value} (hT : zT S) (hW : S.WarmedH s.vm) : (Jvm.Cond.initialized "Rescuemarket$Ledger").before args s = true := zT_w hT hW (Or.inl (by first | rfl | decide)) 3 (by decide +kernel)
theorem q_4 {S s : State} {args : Array Value} (hT : zT S) (hW : S.WarmedH s.vm) : (Jvm.Cond.initialized "java/util/AbstractCollection").before args s = true := zT_w hT hW (Or.inl (by first | rfl | decide)) 4 (by decide +kernel)
theorem q_5 {S s : State} {args : Array Value} (hT : zT S) (hW : S.WarmedH s.vm) : (Jvm.Cond.initialized "java/util/AbstractList").before args s = true := zT_w hT hW (Or.inl (by first | rfl | decide)) 5 (by decide +kernel)
theorem q_6 {S s : State} {args : Array Value} (hT : zT S) (hW : S.WarmedH s.vm) : (Jvm.Cond.initialized "java/util/ArrayList").before args s = true := zT_w hT hW (Or.inl (by first | rfl | decide)) 6 (by decide +kernel)
theorem q_7 {S s : State} {args : Array Value} (hT : zT S) (hW : S.WarmedH s.vm) : (Jvm.Cond.initialized "RescuemarketModel").before args s = true := zT_w hT hW (Or.inl (by first | rfl | decide)) 7 (by decide +kernel)
theorem q_8 {S s : State} {args : Array Value} (hT : zT S) (hW : S.WarmedH s.vm) : (Jvm.Cond.initialized "java/lang/Throwable").before args s = true := zT_w hT hW (Or.inl (by first | rfl | decide)) 8 (by decide +kernel)
theorem q_9 {S s : State} {args : Array Value} (hT : zT S) (hW : S.WarmedH s.vm) : (Jvm.Cond.initialized "java/lang/Exception").before args s = true := zT_w hT hW (Or.inl (by first | rfl | decide)) 9 (by decide +kernel)
theorem q_10 {S s : State} {args : Array Value} (hT : zT S) (hW : S.WarmedH s.vm) : (Jvm.Cond.initialized "java/lang/RuntimeException").before args s = true := zT_w hT hW (Or.inl (by first | rfl | decide)) 10 (by decide +kernel)
theorem q_11 {S s : State} {args : Array Value} (hT : zT S) (hW : S.WarmedH s.vm) : (Jvm.Cond.initialized "java/lang/IndexOutOfBoundsException").before args s = true := zT_w hT hW (Or.inl (by first | rfl | decide)) 11 (by decide +kernel)
theorem q_12 {S s : State} {args : Array Value} (hT : zT S) (hW : S.WarmedH s.vm) : (Jvm.Cond.initialized "java/lang/IllegalArgumentException").before args s = true := zT_w hT hW (Or.inl (by first | rfl | decide)) 12 (by decide +kernel)
theorem q_13 {S s : State} {args : Array Value} (hT : zT S) (hW : S.WarmedH s.vm) : (Jvm.Cond.initialized "java/lang/IllegalStateException").before args s = true := zT_w hT hW (Or.inl (by first | rfl | decide)) 13 (by decide +kernel)
theorem q_14 {S s : State} {args : Array Value} (hT : zT S) (hW : S.WarmedH s.vm) : (Jvm.Cond.initialized "Rescuemarket$Boat").before args s = true := zT_w hT hW (Or.inl (by first | rfl | decide)) 14 (by decide +kernel)
theorem q_15 {S s : State} {args : Array Value} (hT : zT S) (hW : S.WarmedH s.vm) : (Jvm.Cond.initialized "jdk/internal/util/ArraysSupport").before args s = true := zT_w hT hW (Or.inl (by first | rfl | decide)) 15 (by decide +kernel)
theorem q_16 {S s : State} {args : Array Value} (hT : zT S) (hW : S.WarmedH s.vm) : (Jvm.Cond.initialized "java/lang/Math").before args s = true := zT_w hT hW (Or.inl (by first | rfl | decide)) 16 (by decide +kernel)
theorem q_17 {S s : State} {args : Array Value} (hT : zT S) (hW : S.WarmedH s.vm) : (Jvm.Cond.initialized "java/util/Arrays").before args s = true := zT_w hT hW (Or.inl (by first | rfl | decide)) 17 (by decide +kernel)
theorem q_18 {S s : State} {args : Array Value} (hT : zT S) (hW : S.WarmedH s.vm) : (Jvm.Cond.initialized "java/lang/System").before args s = true := zT_w hT hW (Or.inl (by first | rfl | decide)) 18 (by decide +kernel)
theorem q_19 {S s : State} {args : Array Value} (hT : zT S) (hW : S.WarmedH s.vm) : (Jvm.Cond.initialized "java/util/Objects").before args s = true := zT_w hT hW (Or.inl (by first | rfl | decide)) 19 (by decide +kernel)
theorem q_20 {S s : State} {args : Array Value} (hT : zT S) (hW : S.WarmedH s.vm) : (Jvm.Cond.initialized "jdk/internal/util/Preconditions").before args s = true := zT_w hT hW (Or.inl (by first | rfl | decide)) 20 (by decide +kernel)
theorem q_21 {S s : State} {args : Array Value} (hT : zT S) (hW : S.WarmedH s.vm) : (Jvm.Cond.initialized "Rescuemarket$Call").before args s = true := zT_w hT hW (Or.inl (by first | rfl | decide)) 21 (by decide +kernel)
theorem q_22 {S s : State} {args : Array Value} (hT : zT S) (hW : S.WarmedH s.vm) : (Jvm.Cond.initialized "Rescuemarket$Deed").before args s = true := zT_w hT hW (Or.inl (by first | rfl | decide)) 22 (by decide +kernel)
theorem q_23 {S s : State} {args : Array Value} (hT : zT S) (hW : S.WarmedH s.vm) : (Jvm.Cond.classLink "RescuemarketLaw" (8 : Nat) "Rescuemarket").before args s = true := zT_w hT hW (Or.inl (by first | rfl | decide)) 23 (by decide +kernel)
theorem q_24 {S s : State} {args : Array Value} (hT : zT S) (hW : S.WarmedH s.vm) : (Jvm.Cond.instantiable "Rescuemarket" (6 : Nat)).before args s = true := zT_w hT hW (Or.inl (by first | rfl | decide)) 24 (by decide +kernel)
theorem q_25 {S s : State} {args : Array Value} (hT : zT S) (hW : S.WarmedH s.vm) : (Jvm.Cond.methodLink "RescuemarketLaw" (56 : Nat) ({ cls := "Rescuemarket", name := "<init>", desc := "()V" } : Jvm.MethodName)).before args s = true := zT_w hT hW (Or.inl (by first | rfl | decide)) 25 (by decide +kernel)
theorem q_26 {S s : State} {args : Array Value} (hT : zT S) (hW : S.WarmedH s.vm) : (Jvm.Cond.instanceMethod ({ cls := "Rescuemarket", name := "<init>", desc := "()V" } : Jvm.MethodName)).before args s = true := zT_w hT hW (Or.inl (by first | rfl | decide)) 26 (by decide +kernel)
theorem q_27 {S s : State} {args : Array Value} (hT : zT S) (hW : S.WarmedH s.vm) : (Jvm.Cond.code ({ cls := "Rescuemarket", name := "<init>", desc := "()V" } : Jvm.MethodName) prog_1_method_1_code (1 : Nat) (Option.none : Option Jvm.ClassFile.FieldType)).before args s = true := zT_w hT hW (Or.inl (by first | rfl | decide)) 27 (by decide +kernel)
theorem q_28 {S s : State} {args : Array Value} (hT : zT S) (hW : S.WarmedH s.vm) : (Jvm.Cond.methodLink "Rescuemarket" (1 : Nat) ({ cls := "java/lang/Object", name := "<init>", desc := "()V" } : Jvm.MethodName)).before args s = true := zT_w hT hW (Or.inl (by first | rfl | decide)) 28 (by decide +kernel)
theorem q_29 {S s : State} {args : Array Value} (hT : zT S) (hW : S.WarmedH s.vm) : (Jvm.Cond.instanceMethod ({ cls := "java/lang/Object", name := "<init>", desc := "()V" } : Jvm.MethodName)).before args s = true := zT_w hT hW (Or.inl (by first | rfl | decide)) 29 (by decide +kernel)
theorem q_30 {S s : State} {args : Array Value} (hT : zT S) (hW : S.WarmedH s.vm) : (Jvm.Cond.code ({ cls := "java/lang/Object", name := "<init>", desc := "()V" } : Jvm.MethodName) object_method_1_code (1 : Nat) (Option.none : Option Jvm.ClassFile.FieldType)).before args s = true := zT_w hT hW (Or.inl (by first | rfl | decide)) 30 (by decide +kernel)
theorem q_31 {S s : State} {args : Array Value} (hT : zT S) (hW : S.WarmedH s.vm) : (Jvm.Cond.classLink "Rescuemarket" (7 : Nat) "Rescuemarket$Weather").before args s = true := zT_w hT hW (Or.inl (by first | rfl | decide)) 31 (by decide +kernel)
theorem q_32 {S s : State} {args : Array Value} (hT : zT S) (hW : S.WarmedH s.vm) : (Jvm.Cond.instantiable "Rescuemarket$Weather" (1 : Nat)).before args s = true := zT_w hT hW (Or.inl (by first | rfl | decide)) 32 (by decide +kernel)
theorem q_33 {S s : State} {args : Array Value} (hT : zT S) (hW : S.WarmedH s.vm) : (Jvm.Cond.methodLink "Rescuemarket" (9 : Nat) ({ cls := "Rescuemarket$Weather", name := "<init>", desc := "()V" } : Jvm.MethodName)).before args s = true := zT_w hT hW (Or.inl (by first | rfl | decide)) 33 (by decide +kernel)
theorem q_34 {S s : State} {args : Array Value} (hT : zT S) (hW : S.WarmedH s.vm) : (Jvm.Cond.instanceMethod ({ cls := "Rescuemarket$Weather", name := "<init>", desc := "()V" } : Jvm.MethodName)).before args s = true := zT_w hT hW (Or.inl (by first | rfl | decide)) 34 (by decide +kernel)
theorem q_35 {S s : State} {args : Array Value} (hT : zT S) (hW : S.WarmedH s.vm) : (Jvm.Cond.code ({ cls := "Rescuemarket$Weather", name := "<init>", desc := "()V" } : Jvm.MethodName) prog_6_method_1_code (1 : Nat) (Option.none : Option Jvm.ClassFile.FieldType)).before args s = true := zT_w hT hW (Or.inl (by first | rfl | decide)) 35 (by decide +kernel)
theorem q_36 {S s : State} {args : Array Value} (hT : zT S) (hW : S.WarmedH s.vm) : (Jvm.Cond.methodLink "Rescuemarket$Weather" (3 : Nat) ({ cls := "java/lang/Object", name := "<init>", desc := "()V" } : Jvm.MethodName)).before args s = true := zT_w hT hW (Or.inl (by first | rfl | decide)) 36 (by decide +kernel)
theorem q_37 {S s : State} {args : Array Value} (hT : zT S) (hW : S.WarmedH s.vm) : (Jvm.Cond.fieldLink "Rescuemarket$Weather" (11 : Nat) "Rescuemarket$Weather" "words" "[J").before args s = true := zT_w hT hW (Or.inl (by first | rfl | decide)) 37 (by decide +kernel)
theorem q_40 {S s : State} {args : Array Value} (hT : zT S) (hW : S.WarmedH s.vm) : (Jvm.Cond.superclass "Rescuemarket$Weather" "java/lang/Object").before args s = true := zT_w hT hW (Or.inl (by first | rfl | decide)) 40 (by decide +kernel)
theorem q_41 {S s : State} {args : Array Value} (hT : zT S) (hW : S.WarmedH s.vm) : (Jvm.Cond.arrayClass Jvm.ClassFile.FieldType.long).before args s = true := zT_w hT hW (Or.inr ⟨_, rfl⟩) 41 (by decide +kernel)
theorem q_42 {S s : State} {args : Array Value} (hT : zT S) (hW : S.WarmedH s.vm) : (Jvm.Cond.classLink "Rescuemarket" (16 : Nat) "Rescuemarket$Ledger").before args s = true := zT_w hT hW (Or.inl (by first | rfl | decide)) 42 (by decide +kernel)
theorem q_43 {S s : State} {args : Array Value} (hT : zT S) (hW : S.WarmedH s.vm) : (Jvm.Cond.instantiable "Rescuemarket$Ledger" (2 : Nat)).before args s = true := zT_w hT hW (Or.inl (by first | rfl | decide)) 43 (by decide +kernel)
theorem q_44 {S s : State} {args : Array Value} (hT : zT S) (hW : S.WarmedH s.vm) : (Jvm.Cond.methodLink "Rescuemarket" (18 : Nat) ({ cls := "Rescuemarket$Ledger", name := "<init>", desc := "()V" } : Jvm.MethodName)).before args s = true := zT_w hT hW (Or.inl (by first | rfl | decide)) 44 (by decide +kernel)
theorem q_45 {S s : State} {args : Array Value} (hT : zT S) (hW : S.WarmedH s.vm) : (Jvm.Cond.instanceMethod ({ cls := "Rescuemarket$Ledger", name := "<init>", desc := "()V" } : Jvm.MethodName)).before args s = true := zT_w hT hW (Or.inl (by first | rfl | decide)) 45 (by decide +kernel)
theorem q_46 {S s : State} {args : Array Value} (hT : zT S) (hW : S.WarmedH s.vm) : (Jvm.Cond.code ({ cls := "Rescuemarket$Ledger", name := "<init>", desc := "()V" } : Jvm.MethodName) prog_5_method_1_code (1 : Nat) (Option.none : Option Jvm.ClassFile.FieldType)).before args s = true := zT_w hT hW (Or.inl (by first | rfl | decide)) 46 (by decide +kernel)
theorem q_47 {S s : State} {args : Array Value} (hT : zT S) (hW : S.WarmedH s.vm) : (Jvm.Cond.methodLink "Rescuemarket$Ledger" (3 : Nat) ({ cls := "java/lang/Object", name := "<init>", desc := "()V" } : Jvm.MethodName)).before args s = true := zT_w hT hW (Or.inl (by first | rfl | decide)) 47 (by decide +kernel)
theorem q_48 {S s : State} {args : Array Value} (hT : zT S) (hW : S.WarmedH s.vm) : (Jvm.Cond.classLink "Rescuemarket$Ledger" (15 : Nat) "java/util/ArrayList").before args s = true := zT_w hT hW (Or.inl (by first | rfl | decide)) 48 (by decide +kernel)
theorem q_49 {S s : State} {args : Array Value} (hT : zT S) (hW : S.WarmedH s.vm) : (Jvm.Cond.instantiable "java/util/ArrayList" (3 : Nat)).before args s = true := zT_w hT hW (Or.inl (by first | rfl | decide)) 49 (by decide +kernel)
theorem q_50 {S s : State} {args : Array Value} (hT : zT S) (hW : S.WarmedH s.vm) : (Jvm.Cond.methodLink "Rescuemarket$Ledger" (17 : Nat) ({ cls := "java/util/ArrayList", name := "<init>", desc := "()V" } : Jvm.MethodName)).before args s = true := zT_w hT hW (Or.inl (by first | rfl | decide)) 50 (by decide +kernel)
theorem q_51 {S s : State} {args : Array Value} (hT : zT S) (hW : S.WarmedH s.vm) : (Jvm.Cond.instanceMethod ({ cls := "java/util/ArrayList", name := "<init>", desc := "()V" } : Jvm.MethodName)).before args s = true := zT_w hT hW (Or.inl (by first | rfl | decide)) 51 (by decide +kernel)
theorem q_52 {S s : State} {args : Array Value} (hT : zT S) (hW : S.WarmedH s.vm) : (Jvm.Cond.code ({ cls := "java/util/ArrayList", name := "<init>", desc := "()V" } : Jvm.MethodName) prog_23_method_2_code (1 : Nat) (Option.none : Option Jvm.ClassFile.FieldType)).before args s = true := zT_w hT hW (Or.inl (by first | rfl | decide)) 52 (by decide +kernel)
theorem q_53 {S s : State} {args : Array Value} (hT : zT S) (hW : S.WarmedH s.vm) : (Jvm.Cond.methodLink "java/util/ArrayList" (1 : Nat) ({ cls := "java/util/AbstractList", name := "<init>", desc := "()V" } : Jvm.MethodName)).before args s = true := zT_w hT hW (Or.inl (by first | rfl | decide)) 53 (by decide +kernel)
theorem q_54 {S s : State} {args : Array Value} (hT : zT S) (hW : S.WarmedH s.vm) : (Jvm.Cond.instanceMethod ({ cls := "java/util/AbstractList", name := "<init>", desc := "()V" } : Jvm.MethodName)).before args s = true := zT_w hT hW (Or.inl (by first | rfl | decide)) 54 (by decide +kernel)
theorem q_55 {S s : State} {args : Array Value} (hT : zT S) (hW : S.WarmedH s.vm) : (Jvm.Cond.code ({ cls := "java/util/AbstractList", name := "<init>", desc := "()V" } : Jvm.MethodName) prog_22_method_1_code (1 : Nat) (Option.none : Option Jvm.ClassFile.FieldType)).before args s = true := zT_w hT hW (Or.inl (by first | rfl | decide)) 55 (by decide +kernel)
theorem q_56 {S s : State} {args : Array Value} (hT : zT S) (hW : S.WarmedH s.vm) : (Jvm.Cond.methodLink "java/util/AbstractList" (1 : Nat) ({ cls := "java/util/AbstractCollection", name := "<init>", desc := "()V" } : Jvm.MethodName)).before args s = true := zT_w hT hW (Or.inl (by first | rfl | decide)) 56 (by decide +kernel)
theorem q_57 {S s : State} {args : Array Value} (hT : zT S) (hW : S.WarmedH s.vm) : (Jvm.Cond.instanceMethod ({ cls := "java/util/AbstractCollection", name := "<init>", desc := "()V" } : Jvm.MethodName)).before args s = true := zT_w hT hW (Or.inl (by first | rfl | decide)) 57 (by decide +kernel)
theorem q_58 {S s : State} {args : Array Value} (hT : zT S) (hW : S.WarmedH s.vm) : (Jvm.Cond.code ({ cls := "java/util/AbstractCollection", name := "<init>", desc := "()V" } : Jvm.MethodName) prog_21_method_1_code (1 : Nat) (Option.none : Option Jvm.ClassFile.FieldType)).before args s = true := zT_w hT hW (Or.inl (by first | rfl | decide)) 58 (by decide +kernel)
theorem q_59 {S s : State} {args : Array Value} (hT : zT S) (hW : S.WarmedH s.vm) : (Jvm.Cond.methodLink "java/util/AbstractCollection" (1 : Nat) ({ cls := "java/lang/Object", name := "<init>", desc := "()V" } : Jvm.MethodName)).before args s = true := zT_w hT hW (Or.inl (by first | rfl | decide)) 59 (by decide +kernel)
theorem q_60 {S s : State} {args : Array Value} (hT : zT S) (hW : S.WarmedH s.vm) : (Jvm.Cond.fieldLink "java/util/ArrayList" (39 : Nat) "java/util/ArrayList" "DEFAULTCAPACITY_EMPTY_ELEMENTDATA" "[Ljava/lang/Object;").before args s = true := zT_w hT hW (Or.inl (by first | rfl | decide)) 60 (by decide +kernel)
theorem q_61 {S : State} (hT : zT S) : (Jvm.Cond.laysStatic "java/util/ArrayList" "DEFAULTCAPACITY_EMPTY_ELEMENTDATA" "[Ljava/lang/Object;").before #[] S = true := hT _ (List.mem_append_right _ (List.mem_of_getElem? (i := 61) (by decide +kernel)))
theorem q_62 {S s : State} {args : Array Value} (hT : zT S) (hW : S.WarmedH s.vm) : (Jvm.Cond.fieldLink "java/util/ArrayList" (9 : Nat) "java/util/ArrayList" "elementData" "[Ljava/lang/Object;").before args s = true := zT_w hT hW (Or.inl (by first | rfl | decide)) 62 (by decide +kernel)
theorem q_63 {S s : State} {args : Array Value} (hT : zT S) (hW : S.WarmedH s.vm) : (Jvm.Cond.fieldLink "java/util/ArrayList" (48 : Nat) "java/util/ArrayList" "size" "I").before args s = true := zT_w hT hW (Or.inl (by first | rfl | decide)) 63 (by decide +kernel)
theorem q_64 {S s : State} {args : Array Value} (hT : zT S) (hW : S.WarmedH s.vm) : (Jvm.Cond.fieldLink "java/util/AbstractList" (7 : Nat) "java/util/AbstractList" "modCount" "I").before args s = true := zT_w hT hW (Or.inl (by first | rfl | decide)) 64 (by decide +kernel)
theorem q_65 {S s : State} {args : Array Value} (hT : zT S) (hW : S.WarmedH s.vm) : (Jvm.Cond.fieldLink "java/util/ArrayList" (63 : Nat) "java/util/ArrayList" "modCount" "I").before args s = true := zT_w hT hW (Or.inl (by first | rfl | decide)) 65 (by decide +kernel)
theorem q_66 {S s : State} {args : Array Value} (hT : zT S) (hW : S.WarmedH s.vm) : (Jvm.Cond.sameField "java/util/ArrayList" "java/util/AbstractList" "modCount" "I").before args s = true := zT_w hT hW (Or.inl (by first | rfl | decide)) 66 (by decide +kernel)
theorem q_73 {S s : State} {args : Array Value} (hT : zT S) (hW : S.WarmedH s.vm) : (Jvm.Cond.superclass "java/util/ArrayList" "java/util/AbstractList").before args s = true := zT_w hT hW (Or.inl (by first | rfl | decide)) 73 (by decide +kernel)
theorem q_74 {S s : State} {args : Array Value} (hT : zT S) (hW : S.WarmedH s.vm) : (Jvm.Cond.arrayClass Jvm.ClassFile.FieldType.int).before args s = true := zT_w hT hW (Or.inr ⟨_, rfl⟩) 74 (by decide +kernel)
theorem q_75 {S s : State} {args : Array Value} (hT : zT S) (hW : S.WarmedH s.vm) : (Jvm.Cond.fieldLink "Rescuemarket$Ledger" (9 : Nat) "Rescuemarket$Ledger" "paid" "[I").before args s = true := zT_w hT hW (Or.inl (by first | rfl | decide)) 75 (by decide +kernel)
theorem q_76 {S s : State} {args : Array Value} (hT : zT S) (hW : S.WarmedH s.vm) : (Jvm.Cond.fieldLink "Rescuemarket$Ledger" (18 : Nat) "Rescuemarket$Ledger" "log" "Ljava/util/List;").before args s = true := zT_w hT hW (Or.inl (by first | rfl | decide)) 76 (by decide +kernel)
theorem q_81 {S s : State} {args : Array Value} (hT : zT S) (hW : S.WarmedH s.vm) : (Jvm.Cond.superclass "Rescuemarket$Ledger" "java/lang/Object").before args s = true := zT_w hT hW (Or.inl (by first | rfl | decide)) 81 (by decide +kernel)
theorem q_82 {S s : State} {args : Array Value} (hT : zT S) (hW : S.WarmedH s.vm) : (Jvm.Cond.classLink "Rescuemarket" (23 : Nat) "java/util/ArrayList").before args s = true := zT_w hT hW (Or.inl (by first | rfl | decide)) 82 (by decide +kernel)
theorem q_83 {S s : State} {args : Array Value} (hT : zT S) (hW : S.WarmedH s.vm) : (Jvm.Cond.methodLink "Rescuemarket" (25 : Nat) ({ cls := "java/util/ArrayList", name := "<init>", desc := "()V" } : Jvm.MethodName)).before args s = true := zT_w hT hW (Or.inl (by first | rfl | decide)) 83 (by decide +kernel)
theorem q_84 {S s : State} {args : Array Value} (hT : zT S) (hW : S.WarmedH s.vm) : (Jvm.Cond.fieldLink "Rescuemarket" (10 : Nat) "Rescuemarket" "weather" "LRescuemarket$Weather;").before args s = true := zT_w hT hW (Or.inl (by first | rfl | decide)) 84 (by decide +kernel)
theorem q_85 {S s : State} {args : Array Value} (hT : zT S) (hW : S.WarmedH s.vm) : (Jvm.Cond.fieldLink "Rescuemarket" (19 : Nat) "Rescuemarket" "ledger" "LRescuemarket$Ledger;").before args s = true := zT_w hT hW (Or.inl (by first | rfl | decide)) 85 (by decide +kernel)
theorem q_86 {S s : State} {args : Array Value} (hT : zT S) (hW : S.WarmedH s.vm) : (Jvm.Cond.fieldLink "Rescuemarket" (26 : Nat) "Rescuemarket" "boats" "Ljava/util/List;").before args s = true := zT_w hT hW (Or.inl (by first | rfl | decide)) 86 (by decide +kernel)
theorem q_87 {S s : State} {args : Array Value} (hT : zT S) (hW : S.WarmedH s.vm) : (Jvm.Cond.fieldLink "Rescuemarket" (30 : Nat) "Rescuemarket" "calls" "Ljava/util/List;").before args s = true := zT_w hT hW (Or.inl (by first | rfl | decide)) 87 (by decide +kernel)
theorem q_88 {S s : State} {args : Array Value} (hT : zT S) (hW : S.WarmedH s.vm) : (Jvm.Cond.fieldLink "Rescuemarket" (33 : Nat) "Rescuemarket" "now" "I").before args s = true := zT_w hT hW (Or.inl (by first | rfl | decide)) 88 (by decide +kernel)
theorem q_89 {S s : State} {args : Array Value} (hT : zT S) (hW : S.WarmedH s.vm) : (Jvm.Cond.fieldLink "Rescuemarket" (37 : Nat) "Rescuemarket" "highestReward" "I").before args s = true := zT_w hT hW (Or.inl (by first | rfl | decide)) 89 (by decide +kernel)
theorem q_102 {S s : State} {args : Array Value} (hT : zT S) (hW : S.WarmedH s.vm) : (Jvm.Cond.superclass "Rescuemarket" "java/lang/Object").before args s = true := zT_w hT hW (Or.inl (by first | rfl | decide)) 102 (by decide +kernel)
theorem q_103 {S s : State} {args : Array Value} (hT : zT S) (hW : S.WarmedH s.vm) : (Jvm.Cond.methodLink "RescuemarketLaw" (60 : Nat) ({ cls := "RescuemarketLaw", name := "boat", desc := "(LRescuemarket;IIIII[J)I" } : Jvm.MethodName)).before args s = true := zT_w hT hW (Or.inl (by first | rfl | decide)) 103 (by decide +kernel)
theorem q_104 {S s : State} {args : Array Value} (hT : zT S) (hW : S.WarmedH s.vm) : (Jvm.Cond.static ({ cls := "RescuemarketLaw", name := "boat", desc := "(LRescuemarket;IIIII[J)I" } : Jvm.MethodName)).before args s = true := zT_w hT hW (Or.inl (by first | rfl | decide)) 104 (by decide +kernel)
theorem q_106 {S s : State} {args : Array Value} (hT : zT S) (hW : S.WarmedH s.vm) : (Jvm.Cond.classLink "RescuemarketLaw" (13 : Nat) "java/lang/IndexOutOfBoundsException").before args s = true := zT_w hT hW (Or.inl (by first | rfl | decide)) 106 (by decide +kernel)
theorem q_107 {S s : State} {args : Array Value} (hT : zT S) (hW : S.WarmedH s.vm) : (Jvm.Cond.classLink "RescuemarketLaw" (15 : Nat) "java/lang/IllegalArgumentException").before args s = true := zT_w hT hW (Or.inl (by first | rfl | decide)) 107 (by decide +kernel)
theorem q_108 {S s : State} {args : Array Value} (hT : zT S) (hW : S.WarmedH s.vm) : (Jvm.Cond.classLink "RescuemarketLaw" (17 : Nat) "java/lang/IllegalStateException").before args s = true := zT_w hT hW (Or.inl (by first | rfl | decide)) 108 (by decide +kernel)
theorem q_109 {S s : State} {args : Array Value} (hT : zT S) (hW : S.WarmedH s.vm) : (Jvm.Cond.methodLink "RescuemarketLaw" (7 : Nat) ({ cls := "Rescuemarket", name := "boat", desc := "(IIIII)I" } : Jvm.MethodName)).before args s = true := zT_w hT hW (Or.inl (by first | rfl | decide)) 109 (by decide +kernel)
theorem q_110 {S s : State} {args : Array Value} (hT : zT S) (hW : S.WarmedH s.vm) : (Jvm.Cond.instanceMethod ({ cls := "Rescuemarket", name := "boat", desc := "(IIIII)I" } : Jvm.MethodName)).before args s = true := zT_w hT hW (Or.inl (by first | rfl | decide)) 110 (by decide +kernel)
theorem q_111 {S s : State} {args : Array Value} (hT : zT S) (hW : S.WarmedH s.vm) : (Jvm.Cond.selects "Rescuemarket" ({ cls := "Rescuemarket", name := "boat", desc := "(IIIII)I" } : Jvm.MethodName) ({ cls := "Rescuemarket", name := "boat", desc := "(IIIII)I" } : Jvm.MethodName)).before args s = true := zT_w hT hW (Or.inl (by first | rfl | decide)) 111 (by decide +kernel)
theorem q_112 {S s : State} {args : Array Value} (hT : zT S) (hW : S.WarmedH s.vm) : (Jvm.Cond.code ({ cls := "Rescuemarket", name := "boat", desc := "(IIIII)I" } : Jvm.MethodName) prog_1_method_2_code (7 : Nat) (Option.some Jvm.ClassFile.FieldType.int)).before args s = true := zT_w hT hW (Or.inl (by first | rfl | decide)) 112 (by decide +kernel)
theorem q_113 {S s : State} {args : Array Value} (hT : zT S) (hW : S.WarmedH s.vm) : (Jvm.Cond.methodLink "Rescuemarket" (40 : Nat) ({ cls := "Rescuemarket", name := "checkClub", desc := "(I)V" } : Jvm.MethodName)).before args s = true := zT_w hT hW (Or.inl (by first | rfl | decide)) 113 (by decide +kernel)
theorem q_114 {S s : State} {args : Array Value} (hT : zT S) (hW : S.WarmedH s.vm) : (Jvm.Cond.static ({ cls := "Rescuemarket", name := "checkClub", desc := "(I)V" } : Jvm.MethodName)).before args s = true := zT_w hT hW (Or.inl (by first | rfl | decide)) 114 (by decide +kernel)
theorem q_115 {S s : State} {args : Array Value} (hT : zT S) (hW : S.WarmedH s.vm) : (Jvm.Cond.code ({ cls := "Rescuemarket", name := "checkClub", desc := "(I)V" } : Jvm.MethodName) prog_1_method_25_code (1 : Nat) (Option.none : Option Jvm.ClassFile.FieldType)).before args s = true := zT_w hT hW (Or.inl (by first | rfl | decide)) 115 (by decide +kernel)
theorem q_116 {S s : State} {args : Array Value} (hT : zT S) (hW : S.WarmedH s.vm) : (Jvm.Cond.classLink "Rescuemarket" (243 : Nat) "java/lang/IndexOutOfBoundsException").before args s = true := zT_w hT hW (Or.inl (by first | rfl | decide)) 116 (by decide +kernel)
theorem q_117 {S s : State} {args : Array Value} (hT : zT S) (hW : S.WarmedH s.vm) : (Jvm.Cond.instantiable "java/lang/IndexOutOfBoundsException" (6 : Nat)).before args s = true := zT_w hT hW (Or.inl (by first | rfl | decide)) 117 (by decide +kernel)
theorem q_118 {S s : State} (hT : zT S) (hW : S.WarmedH s.vm) : va_Nw (Jvm.Cond.castable "java/lang/IndexOutOfBoundsException" "java/lang/IndexOutOfBoundsException") s := va_Nw.warmC hW (va_Nw.of rfl (hT _ (List.mem_append_right _ (List.mem_of_getElem? (i := 118) (by decide +kernel)))))
theorem q_119 {S : State} (hT : zT S) : (Jvm.Cond.declares ({ cls := "java/lang/RuntimeException", name := "<init>", desc := "()V" } : Jvm.MethodName)).before #[] S = true := hT _ (List.mem_append_right _ (List.mem_of_getElem? (i := 119) (by decide +kernel)))
theorem q_120 {S : State} (hT : zT S) : (Jvm.Cond.declares ({ cls := "java/lang/RuntimeException", name := "<init>", desc := "(Ljava/lang/String;)V" } : Jvm.MethodName)).before #[] S = true := hT _ (List.mem_append_right _ (List.mem_of_getElem? (i := 120) (by decide +kernel)))
theorem q_121 {S : State} (hT : zT S) : (Jvm.Cond.declares ({ cls := "java/lang/Exception", name := "<init>", desc := "()V" } : Jvm.MethodName)).before #[] S = true := hT _ (List.mem_append_right _ (List.mem_of_getElem? (i := 121) (by decide +kernel)))
theorem q_122 {S : State} (hT : zT S) : (Jvm.Cond.declares ({ cls := "java/lang/Exception", name := "<init>", desc := "(Ljava/lang/String;)V" } : Jvm.MethodName)).before #[] S = true := hT _ (List.mem_append_right _ (List.mem_of_getElem? (i := 122) (by decide +kernel)))
theorem q_123 {S : State} (hT : zT S) : (Jvm.Cond.declares ({ cls := "java/lang/Throwable", name := "<init>", desc := "()V" } : Jvm.MethodName)).before #[] S = true := hT _ (List.mem_append_right _ (List.mem_of_getElem? (i := 123) (by decide +kernel)))
theorem q_124 {S : State} (hT : zT S) : (Jvm.Cond.declares ({ cls := "java/lang/Throwable", name := "<init>", desc := "(Ljava/lang/String;)V" } : Jvm.MethodName)).before #[] S = true := hT _ (List.mem_append_right _ (List.mem_of_getElem? (i := 124) (by decide +kernel)))
theorem q_125 {S s : State} {args : Array Value} (hT : zT S) (hW : S.WarmedH s.vm) : (Jvm.Cond.selects "java/lang/IndexOutOfBoundsException" ({ cls := "java/lang/Throwable", name := "fillInStackTrace", desc := "(I)Ljava/lang/Throwable;" } : Jvm.MethodName) ({ cls := "java/lang/Throwable", name := "fillInStackTrace", desc := "(I)Ljava/lang/Throwable;" } : Jvm.MethodName)).before args s = true := zT_w hT hW (Or.inl (by first | rfl | decide)) 125 (by decide +kernel)
theorem q_126 {S s : State} {args : Array Value} (hT : zT S) (hW : S.WarmedH s.vm) : (Jvm.Cond.selects "java/lang/IndexOutOfBoundsException" ({ cls := "java/lang/Throwable", name := "fillInStackTrace", desc := "()Ljava/lang/Throwable;" } : Jvm.MethodName) ({ cls := "java/lang/Throwable", name := "fillInStackTrace", desc := "()Ljava/lang/Throwable;" } : Jvm.MethodName)).before args s = true := zT_w hT hW (Or.inl (by first | rfl | decide)) 126 (by decide +kernel)
theorem q_137 {S s : State} {args : Array Value} (hT : zT S) (hW : S.WarmedH s.vm) : (Jvm.Cond.fieldLink "java/lang/Throwable" (198 : Nat) "java/lang/Throwable" "backtrace" "Ljava/lang/Object;").before args s = true := zT_w hT hW (Or.inl (by first | rfl | decide)) 137 (by decide +kernel)
theorem q_138 {S s : State} {args : Array Value} (hT : zT S) (hW : S.WarmedH s.vm) : (Jvm.Cond.superclass "java/lang/Throwable" "java/lang/Object").before args s = true := zT_w hT hW (Or.inl (by first | rfl | decide)) 138 (by decide +kernel)
theorem q_139 {S s : State} {args : Array Value} (hT : zT S) (hW : S.WarmedH s.vm) : (Jvm.Cond.instanceMethod ({ cls := "java/lang/Throwable", name := "<init>", desc := "()V" } : Jvm.MethodName)).before args s = true := zT_w hT hW (Or.inl (by first | rfl | decide)) 139 (by decide +kernel)
theorem q_140 {S s : State} {args : Array Value} (hT : zT S) (hW : S.WarmedH s.vm) : (Jvm.Cond.code ({ cls := "java/lang/Throwable", name := "<init>", desc := "()V" } : Jvm.MethodName) prog_20_method_1_code (1 : Nat) (Option.none : Option Jvm.ClassFile.FieldType)).before args s = true := zT_w hT hW (Or.inl (by first | rfl | decide)) 140 (by decide +kernel)
theorem q_141 {S s : State} {args : Array Value} (hT : zT S) (hW : S.WarmedH s.vm) : (Jvm.Cond.methodLink "java/lang/Throwable" (1 : Nat) ({ cls := "java/lang/Object", name := "<init>", desc := "()V" } : Jvm.MethodName)).before args s = true := zT_w hT hW (Or.inl (by first | rfl | decide)) 141 (by decide +kernel)
theorem q_142 {S s : State} {args : Array Value} (hT : zT S) (hW : S.WarmedH s.vm) : (Jvm.Cond.fieldLink "java/lang/Throwable" (13 : Nat) "java/lang/Throwable" "UNASSIGNED_STACK" "[Ljava/lang/StackTraceElement;").before args s = true := zT_w hT hW (Or.inl (by first | rfl | decide)) 142 (by decide +kernel)
theorem q_143 {S : State} (hT : zT S) : (Jvm.Cond.laysStatic "java/lang/Throwable" "UNASSIGNED_STACK" "[Ljava/lang/StackTraceElement;").before #[] S = true := hT _ (List.mem_append_right _ (List.mem_of_getElem? (i := 143) (by decide +kernel)))
theorem q_144 {S s : State} {args : Array Value} (hT : zT S) (hW : S.WarmedH s.vm) : (Jvm.Cond.fieldLink "java/lang/Throwable" (20 : Nat) "java/lang/Throwable" "SUPPRESSED_SENTINEL" "Ljava/util/List;").before args s = true := zT_w hT hW (Or.inl (by first | rfl | decide)) 144 (by decide +kernel)
theorem q_145 {S : State} (hT : zT S) : (Jvm.Cond.laysStatic "java/lang/Throwable" "SUPPRESSED_SENTINEL" "Ljava/util/List;").before #[] S = true := hT _ (List.mem_append_right _ (List.mem_of_getElem? (i := 145) (by decide +kernel)))
theorem q_146 {S s : State} {args : Array Value} (hT : zT S) (hW : S.WarmedH s.vm) : (Jvm.Cond.methodLink "java/lang/Throwable" (27 : Nat) ({ cls := "java/lang/Throwable", name := "fillInStackTrace", desc := "()Ljava/lang/Throwable;" } : Jvm.MethodName)).before args s = true := zT_w hT hW (Or.inl (by first | rfl | decide)) 146 (by decide +kernel)
theorem q_147 {S s : State} {args : Array Value} (hT : zT S) (hW : S.WarmedH s.vm) : (Jvm.Cond.instanceMethod ({ cls := "java/lang/Throwable", name := "fillInStackTrace", desc := "()Ljava/lang/Throwable;" } : Jvm.MethodName)).before args s = true := zT_w hT hW (Or.inl (by first | rfl | decide)) 147 (by decide +kernel)
theorem q_148 {S s : State} {args : Array Value} (hT : zT S) (hW : S.WarmedH s.vm) : (Jvm.Cond.sameMethod "java/lang/Throwable" "java/lang/Throwable" "fillInStackTrace" "()Ljava/lang/Throwable;").before args s = true := zT_w hT hW (Or.inl (by first | rfl | decide)) 148 (by decide +kernel)
theorem q_149 {S s : State} {args : Array Value} (hT : zT S) (hW : S.WarmedH s.vm) : (Jvm.Cond.selects "java/lang/IllegalArgumentException" ({ cls := "java/lang/Throwable", name := "fillInStackTrace", desc := "()Ljava/lang/Throwable;" } : Jvm.MethodName) ({ cls := "java/lang/Throwable", name := "fillInStackTrace", desc := "()Ljava/lang/Throwable;" } : Jvm.MethodName)).before args s = true := zT_w hT hW (Or.inl (by first | rfl | decide)) 149 (by decide +kernel)
theorem q_150 {S s : State} {args : Array Value} (hT : zT S) (hW : S.WarmedH s.vm) : (Jvm.Cond.selects "java/lang/IllegalStateException" ({ cls := "java/lang/Throwable", name := "fillInStackTrace", desc := "()Ljava/lang/Throwable;" } : Jvm.MethodName) ({ cls := "java/lang/Throwable", name := "fillInStackTrace", desc := "()Ljava/lang/Throwable;" } : Jvm.MethodName)).before args s = true := zT_w hT hW (Or.inl (by first | rfl | decide)) 150 (by decide +kernel)
theorem q_151 {S s : State} {args : Array Value} (hT : zT S) (hW : S.WarmedH s.vm) : (Jvm.Cond.codeSync ({ cls := "java/lang/Throwable", name := "fillInStackTrace", desc := "()Ljava/lang/Throwable;" } : Jvm.MethodName) prog_20_method_18_code (1 : Nat) (Option.some (Jvm.ClassFile.FieldType.object "java/lang/Throwable"))).before args s = true := zT_w hT hW (Or.inl (by first | rfl | decide)) 151 (by decide +kernel)
theorem q_152 {S s : State} {args : Array Value} (hT : zT S) (hW : S.WarmedH s.vm) : (Jvm.Cond.methodLink "java/lang/Throwable" (202 : Nat) ({ cls := "java/lang/Throwable", name := "fillInStackTrace", desc := "(I)Ljava/lang/Throwable;" } : Jvm.MethodName)).before args s = true := zT_w hT hW (Or.inl (by first | rfl | decide)) 152 (by decide +kernel)
theorem q_154 {S s : State} {args : Array Value} (hT : zT S) (hW : S.WarmedH s.vm) : (Jvm.Cond.instanceMethod ({ cls := "java/lang/Throwable", name := "fillInStackTrace", desc := "(I)Ljava/lang/Throwable;" } : Jvm.MethodName)).before args s = true := zT_w hT hW (Or.inl (by first | rfl | decide)) 154 (by decide +kernel)
theorem q_155 {S s : State} {args : Array Value} (hT : zT S) (hW : S.WarmedH s.vm) : (Jvm.Cond.instantiable "java/lang/Throwable" (6 : Nat)).before args s = true := zT_w hT hW (Or.inl (by first | rfl | decide)) 155 (by decide +kernel)
theorem q_156 {S s : State} {args : Array Value} (hT : zT S) (hW : S.WarmedH s.vm) : (Jvm.Cond.native ({ cls := "java/lang/Throwable", name := "fillInStackTrace", desc := "(I)Ljava/lang/Throwable;" } : Jvm.MethodName)).before args s = true := zT_w hT hW (Or.inl (by first | rfl | decide)) 156 (by decide +kernel)
theorem q_157 {S : State} (hT : zT S) : (Jvm.Cond.stringRef "Rescuemarket" (250 : Nat) "there is no such club").before #[] S = true := hT _ (List.mem_append_right _ (List.mem_of_getElem? (i := 157) (by decide +kernel)))
theorem q_158 {S s : State} {args : Array Value} (hT : zT S) (hW : S.WarmedH s.vm) : (Jvm.Cond.methodLink "Rescuemarket" (247 : Nat) ({ cls := "java/lang/IndexOutOfBoundsException", name := "<init>", desc := "(Ljava/lang/String;)V" } : Jvm.MethodName)).before args s = true := zT_w hT hW (Or.inl (by first | rfl | decide)) 158 (by decide +kernel)
theorem q_159 {S s : State} {args : Array Value} (hT : zT S) (hW : S.WarmedH s.vm) : (Jvm.Cond.instanceMethod ({ cls := "java/lang/IndexOutOfBoundsException", name := "<init>", desc := "(Ljava/lang/String;)V" } : Jvm.MethodName)).before args s = true := zT_w hT hW (Or.inl (by first | rfl | decide)) 159 (by decide +kernel)
theorem q_160 {S s : State} {args : Array Value} (hT : zT S) (hW : S.WarmedH s.vm) : (Jvm.Cond.code ({ cls := "java/lang/IndexOutOfBoundsException", name := "<init>", desc := "(Ljava/lang/String;)V" } : Jvm.MethodName) prog_14_method_2_code (2 : Nat) (Option.none : Option Jvm.ClassFile.FieldType)).before args s = true := zT_w hT hW (Or.inl (by first | rfl | decide)) 160 (by decide +kernel)
theorem q_161 {S s : State} {args : Array Value} (hT : zT S) (hW : S.WarmedH s.vm) : (Jvm.Cond.methodLink "java/lang/IndexOutOfBoundsException" (7 : Nat) ({ cls := "java/lang/RuntimeException", name := "<init>", desc := "(Ljava/lang/String;)V" } : Jvm.MethodName)).before args s = true := zT_w hT hW (Or.inl (by first | rfl | decide)) 161 (by decide +kernel)
theorem q_162 {S s : State} {args : Array Value} (hT : zT S) (hW : S.WarmedH s.vm) : (Jvm.Cond.instanceMethod ({ cls := "java/lang/RuntimeException", name := "<init>", desc := "(Ljava/lang/String;)V" } : Jvm.MethodName)).before args s = true := zT_w hT hW (Or.inl (by first | rfl | decide)) 162 (by decide +kernel)
theorem q_163 {S s : State} {args : Array Value} (hT : zT S) (hW : S.WarmedH s.vm) : (Jvm.Cond.code ({ cls := "java/lang/RuntimeException", name := "<init>", desc := "(Ljava/lang/String;)V" } : Jvm.MethodName) prog_17_method_2_code (2 : Nat) (Option.none : Option Jvm.ClassFile.FieldType)).before args s = true := zT_w hT hW (Or.inl (by first | rfl | decide)) 163 (by decide +kernel)
theorem q_164 {S s : State} {args : Array Value} (hT : zT S) (hW : S.WarmedH s.vm) : (Jvm.Cond.methodLink "java/lang/RuntimeException" (7 : Nat) ({ cls := "java/lang/Exception", name := "<init>", desc := "(Ljava/lang/String;)V" } : Jvm.MethodName)).before args s = true := zT_w hT hW (Or.inl (by first | rfl | decide)) 164 (by decide +kernel)
theorem q_165 {S s : State} {args : Array Value} (hT : zT S) (hW : S.WarmedH s.vm) : (Jvm.Cond.instanceMethod ({ cls := "java/lang/Exception", name := "<init>", desc := "(Ljava/lang/String;)V" } : Jvm.MethodName)).before args s = true := zT_w hT hW (Or.inl (by first | rfl | decide)) 165 (by decide +kernel)
theorem q_166 {S s : State} {args : Array Value} (hT : zT S) (hW : S.WarmedH s.vm) : (Jvm.Cond.code ({ cls := "java/lang/Exception", name := "<init>", desc := "(Ljava/lang/String;)V" } : Jvm.MethodName) prog_11_method_2_code (2 : Nat) (Option.none : Option Jvm.ClassFile.FieldType)).before args s = true := zT_w hT hW (Or.inl (by first | rfl | decide)) 166 (by decide +kernel)
theorem q_167 {S s : State} {args : Array Value} (hT : zT S) (hW : S.WarmedH s.vm) : (Jvm.Cond.methodLink "java/lang/Exception" (7 : Nat) ({ cls := "java/lang/Throwable", name := "<init>", desc := "(Ljava/lang/String;)V" } : Jvm.MethodName)).before args s = true := zT_w hT hW (Or.inl (by first | rfl | decide)) 167 (by decide +kernel)
theorem q_168 {S s : State} {args : Array Value} (hT : zT S) (hW : S.WarmedH s.vm) : (Jvm.Cond.instanceMethod ({ cls := "java/lang/Throwable", name := "<init>", desc := "(Ljava/lang/String;)V" } : Jvm.MethodName)).before args s = true := zT_w hT hW (Or.inl (by first | rfl | decide)) 168 (by decide +kernel)
theorem q_169 {S s : State} {args : Array Value} (hT : zT S) (hW : S.WarmedH s.vm) : (Jvm.Cond.code ({ cls := "java/lang/Throwable", name := "<init>", desc := "(Ljava/lang/String;)V" } : Jvm.MethodName) prog_20_method_2_code (2 : Nat) (Option.none : Option Jvm.ClassFile.FieldType)).before args s = true := zT_w hT hW (Or.inl (by first | rfl | decide)) 169 (by decide +kernel)
theorem q_170 {S s : State} {args : Array Value} (hT : zT S) (hW : S.WarmedH s.vm) : (Jvm.Cond.fieldLink "java/lang/Throwable" (198 : Nat) "java/lang/Throwable" "backtrace" "Ljava/lang/Object;").before args s = true := zT_w hT hW (Or.inl (by first | rfl | decide)) 170 (by decide +kernel)
theorem q_171 {S s : State} {args : Array Value} (hT : zT S) (hW : S.WarmedH s.vm) : (Jvm.Cond.fieldLink "java/lang/Throwable" (31 : Nat) "java/lang/Throwable" "detailMessage" "Ljava/lang/String;").before args s = true := zT_w hT hW (Or.inl (by first | rfl | decide)) 171 (by decide +kernel)
theorem q_172 {S s : State} {args : Array Value} (hT : zT S) (hW : S.WarmedH s.vm) : (Jvm.Cond.fieldLink "java/lang/Throwable" (7 : Nat) "java/lang/Throwable" "cause" "Ljava/lang/Throwable;").before args s = true := zT_w hT hW (Or.inl (by first | rfl | decide)) 172 (by decide +kernel)
theorem q_173 {S s : State} {args : Array Value} (hT : zT S) (hW : S.WarmedH s.vm) : (Jvm.Cond.fieldLink "java/lang/Throwable" (17 : Nat) "java/lang/Throwable" "stackTrace" "[Ljava/lang/StackTraceElement;").before args s = true := zT_w hT hW (Or.inl (by first | rfl | decide)) 173 (by decide +kernel)
theorem q_174 {S s : State} {args : Array Value} (hT : zT S) (hW : S.WarmedH s.vm) : (Jvm.Cond.fieldLink "java/lang/Throwable" (24 : Nat) "java/lang/Throwable" "suppressedExceptions" "Ljava/util/List;").before args s = true := zT_w hT hW (Or.inl (by first | rfl | decide)) 174 (by decide +kernel)
theorem q_182 {S s : State} {args : Array Value} (hT : zT S) (hW : S.WarmedH s.vm) : (Jvm.Cond.superclass "java/lang/IndexOutOfBoundsException" "java/lang/RuntimeException").before args s = true := zT_w hT hW (Or.inl (by first | rfl | decide)) 182 (by decide +kernel)
theorem q_183 {S s : State} {args : Array Value} (hT : zT S) (hW : S.WarmedH s.vm) : (Jvm.Cond.arrayClass Jvm.ClassFile.FieldType.byte).before args s = true := zT_w hT hW (Or.inr ⟨_, rfl⟩) 183 (by decide +kernel)
theorem q_184 {S s : State} {args : Array Value} (hT : zT S) (hW : S.WarmedH s.vm) : (Jvm.Cond.methodLink "Rescuemarket" (44 : Nat) ({ cls := "Rescuemarket", name := "checkCell", desc := "(I)V" } : Jvm.MethodName)).before args s = true := zT_w hT hW (Or.inl (by first | rfl | decide)) 184 (by decide +kernel)
theorem q_185 {S s : State} {args : Array Value} (hT : zT S) (hW : S.WarmedH s.vm) : (Jvm.Cond.static ({ cls := "Rescuemarket", name := "checkCell", desc := "(I)V" } : Jvm.MethodName)).before args s = true := zT_w hT hW (Or.inl (by first | rfl | decide)) 185 (by decide +kernel)
theorem q_186 {S s : State} {args : Array Value} (hT : zT S) (hW : S.WarmedH s.vm) : (Jvm.Cond.code ({ cls := "Rescuemarket", name := "checkCell", desc := "(I)V" } : Jvm.MethodName) prog_1_method_26_code (1 : Nat) (Option.none : Option Jvm.ClassFile.FieldType)).before args s = true := zT_w hT hW (Or.inl (by first | rfl | decide)) 186 (by decide +kernel)
theorem q_187 {S : State} (hT : zT S) : (Jvm.Cond.stringRef "Rescuemarket" (252 : Nat) "there is no such cell").before #[] S = true := hT _ (List.mem_append_right _ (List.mem_of_getElem? (i := 187) (by decide +kernel)))
theorem q_188 {S s : State} {args : Array Value} (hT : zT S) (hW : S.WarmedH s.vm) : (Jvm.Cond.methodLink "Rescuemarket" (47 : Nat) ({ cls := "Rescuemarket", name := "checkWithin", desc := "(III)V" } : Jvm.MethodName)).before args s = true := zT_w hT hW (Or.inl (by first | rfl | decide)) 188 (by decide +kernel)
theorem q_189 {S s : State} {args : Array Value} (hT : zT S) (hW : S.WarmedH s.vm) : (Jvm.Cond.static ({ cls := "Rescuemarket", name := "checkWithin", desc := "(III)V" } : Jvm.MethodName)).before args s = true := zT_w hT hW (Or.inl (by first | rfl | decide)) 189 (by decide +kernel)
theorem q_190 {S s : State} {args : Array Value} (hT : zT S) (hW : S.WarmedH s.vm) : (Jvm.Cond.code ({ cls := "Rescuemarket", name := "checkWithin", desc := "(III)V" } : Jvm.MethodName) prog_1_method_27_code (3 : Nat) (Option.none : Option Jvm.ClassFile.FieldType)).before args s = true := zT_w hT hW (Or.inl (by first | rfl | decide)) 190 (by decide +kernel)
theorem q_191 {S s : State} {args : Array Value} (hT : zT S) (hW : S.WarmedH s.vm) : (Jvm.Cond.classLink "Rescuemarket" (87 : Nat) "java/lang/IllegalArgumentException").before args s = true := zT_w hT hW (Or.inl (by first | rfl | decide)) 191 (by decide +kernel)
theorem q_192 {S s : State} {args : Array Value} (hT : zT S) (hW : S.WarmedH s.vm) : (Jvm.Cond.instantiable "java/lang/IllegalArgumentException" (6 : Nat)).before args s = true := zT_w hT hW (Or.inl (by first | rfl | decide)) 192 (by decide +kernel)
theorem q_193 {S s : State} (hT : zT S) (hW : S.WarmedH s.vm) : va_Nw (Jvm.Cond.castable "java/lang/IllegalArgumentException" "java/lang/IllegalArgumentException") s := va_Nw.warmC hW (va_Nw.of rfl (hT _ (List.mem_append_right _ (List.mem_of_getElem? (i := 193) (by decide +kernel)))))
theorem q_194 {S s : State} {args : Array Value} (hT : zT S) (hW : S.WarmedH s.vm) : (Jvm.Cond.selects "java/lang/IllegalArgumentException" ({ cls := "java/lang/Throwable", name := "fillInStackTrace", desc := "(I)Ljava/lang/Throwable;" } : Jvm.MethodName) ({ cls := "java/lang/Throwable", name := "fillInStackTrace", desc := "(I)Ljava/lang/Throwable;" } : Jvm.MethodName)).before args s = true := zT_w hT hW (Or.inl (by first | rfl | decide)) 194 (by decide +kernel)
theorem q_200 {S : State} (hT : zT S) : (Jvm.Cond.stringRef "Rescuemarket" (254 : Nat) "an argument is out of range").before #[] S = true := hT _ (List.mem_append_right _ (List.mem_of_getElem? (i := 200) (by decide +kernel)))
theorem q_201 {S s : State} {args : Array Value} (hT : zT S) (hW : S.WarmedH s.vm) : (Jvm.Cond.methodLink "Rescuemarket" (91 : Nat) ({ cls := "java/lang/IllegalArgumentException", name := "<init>", desc := "(Ljava/lang/String;)V" } : Jvm.MethodName)).before args s = true := zT_w hT hW (Or.inl (by first | rfl | decide)) 201 (by decide +kernel)
theorem q_202 {S s : State} {args : Array Value} (hT : zT S) (hW : S.WarmedH s.vm) : (Jvm.Cond.instanceMethod ({ cls := "java/lang/IllegalArgumentException", name := "<init>", desc := "(Ljava/lang/String;)V" } : Jvm.MethodName)).before args s = true := zT_w hT hW (Or.inl (by first | rfl | decide)) 202 (by decide +kernel)
theorem q_203 {S s : State} {args : Array Value} (hT : zT S) (hW : S.WarmedH s.vm) : (Jvm.Cond.code ({ cls := "java/lang/IllegalArgumentException", name := "<init>", desc := "(Ljava/lang/String;)V" } : Jvm.MethodName) prog_12_method_2_code (2 : Nat) (Option.none : Option Jvm.ClassFile.FieldType)).before args s = true := zT_w hT hW (Or.inl (by first | rfl | decide)) 203 (by decide +kernel)
theorem q_204 {S s : State} {args : Array Value} (hT : zT S) (hW : S.WarmedH s.vm) : (Jvm.Cond.methodLink "java/lang/IllegalArgumentException" (7 : Nat) ({ cls := "java/lang/RuntimeException", name := "<init>", desc := "(Ljava/lang/String;)V" } : Jvm.MethodName)).before args s = true := zT_w hT hW (Or.inl (by first | rfl | decide)) 204 (by decide +kernel)
theorem q_206 {S s : State} {args : Array Value} (hT : zT S) (hW : S.WarmedH s.vm) : (Jvm.Cond.superclass "java/lang/IllegalArgumentException" "java/lang/RuntimeException").before args s = true := zT_w hT hW (Or.inl (by first | rfl | decide)) 206 (by decide +kernel)
theorem q_208 {S s : State} {args : Array Value} (hT : zT S) (hW : S.WarmedH s.vm) : (Jvm.Cond.methodLink "Rescuemarket" (51 : Nat) ({ cls := "java/util/List", name := "size", desc := "()I" } : Jvm.MethodName)).before args s = true := zT_w hT hW (Or.inl (by first | rfl | decide)) 208 (by decide +kernel)
theorem q_209 {S : State} (hT : zT S) : (Jvm.Cond.interfaceMethod "java/util/List" "java/util/List" "size" "()I").before #[] S = true := hT _ (List.mem_append_right _ (List.mem_of_getElem? (i := 209) (by decide +kernel)))
theorem q_210 {S : State} (hT : zT S) : (Jvm.Cond.declares ({ cls := "java/util/List", name := "size", desc := "()I" } : Jvm.MethodName)).before #[] S = true := hT _ (List.mem_append_right _ (List.mem_of_getElem? (i := 210) (by decide +kernel)))
theorem q_211 {S s : State} (hT : zT S) (hW : S.WarmedH s.vm) : va_Nw (Jvm.Cond.castable "java/util/ArrayList" "java/util/List") s := va_Nw.warmC hW (va_Nw.of rfl (hT _ (List.mem_append_right _ (List.mem_of_getElem? (i := 211) (by decide +kernel)))))
theorem q_212 {S s : State} {args : Array Value} (hT : zT S) (hW : S.WarmedH s.vm) : (Jvm.Cond.selects "java/util/ArrayList" ({ cls := "java/util/List", name := "size", desc := "()I" } : Jvm.MethodName) ({ cls := "java/util/ArrayList", name := "size", desc := "()I" } : Jvm.MethodName)).before args s = true := zT_w hT hW (Or.inl (by first | rfl | decide)) 212 (by decide +kernel)
theorem q_213 {S : State} (hT : zT S) : (Jvm.Cond.unhidden "java/util/ArrayList" "size" "()I").before #[] S = true := hT _ (List.mem_append_right _ (List.mem_of_getElem? (i := 213) (by decide +kernel)))
theorem q_214 {S s : State} {args : Array Value} (hT : zT S) (hW : S.WarmedH s.vm) : (Jvm.Cond.instanceMethod ({ cls := "java/util/ArrayList", name := "size", desc := "()I" } : Jvm.MethodName)).before args s = true := zT_w hT hW (Or.inl (by first | rfl | decide)) 214 (by decide +kernel)
theorem q_215 {S : State} (hT : zT S) : (Jvm.Cond.publicMethod ({ cls := "java/util/ArrayList", name := "size", desc := "()I" } : Jvm.MethodName)).before #[] S = true := hT _ (List.mem_append_right _ (List.mem_of_getElem? (i := 215) (by decide +kernel)))
theorem q_216 {S s : State} {args : Array Value} (hT : zT S) (hW : S.WarmedH s.vm) : (Jvm.Cond.code ({ cls := "java/util/ArrayList", name := "size", desc := "()I" } : Jvm.MethodName) prog_23_method_8_code (1 : Nat) (Option.some Jvm.ClassFile.FieldType.int)).before args s = true := zT_w hT hW (Or.inl (by first | rfl | decide)) 216 (by decide +kernel)
theorem q_217 {S s : State} {args : Array Value} (hT : zT S) (hW : S.WarmedH s.vm) : (Jvm.Cond.classLink "Rescuemarket" (57 : Nat) "java/lang/IllegalStateException").before args s = true := zT_w hT hW (Or.inl (by first | rfl | decide)) 217 (by decide +kernel)
theorem q_218 {S s : State} {args : Array Value} (hT : zT S) (hW : S.WarmedH s.vm) : (Jvm.Cond.instantiable "java/lang/IllegalStateException" (6 : Nat)).before args s = true := zT_w hT hW (Or.inl (by first | rfl | decide)) 218 (by decide +kernel)
theorem q_219 {S s : State} (hT : zT S) (hW : S.WarmedH s.vm) : va_Nw (Jvm.Cond.castable "java/lang/IllegalStateException" "java/lang/IllegalStateException") s := va_Nw.warmC hW (va_Nw.of rfl (hT _ (List.mem_append_right _ (List.mem_of_getElem? (i := 219) (by decide +kernel)))))
theorem q_220 {S s : State} {args : Array Value} (hT : zT S) (hW : S.WarmedH s.vm) : (Jvm.Cond.selects "java/lang/IllegalStateException" ({ cls := "java/lang/Throwable", name := "fillInStackTrace", desc := "(I)Ljava/lang/Throwable;" } : Jvm.MethodName) ({ cls := "java/lang/Throwable", name := "fillInStackTrace", desc := "(I)Ljava/lang/Throwable;" } : Jvm.MethodName)).before args s = true := zT_w hT hW (Or.inl (by first | rfl | decide)) 220 (by decide +kernel)
theorem q_226 {S : State} (hT : zT S) : (Jvm.Cond.stringRef "Rescuemarket" (59 : Nat) "there are as many boats as there may be").before #[] S = true := hT _ (List.mem_append_right _ (List.mem_of_getElem? (i := 226) (by decide +kernel)))
theorem q_227 {S s : State} {args : Array Value} (hT : zT S) (hW : S.WarmedH s.vm) : (Jvm.Cond.methodLink "Rescuemarket" (61 : Nat) ({ cls := "java/lang/IllegalStateException", name := "<init>", desc := "(Ljava/lang/String;)V" } : Jvm.MethodName)).before args s = true := zT_w hT hW (Or.inl (by first | rfl | decide)) 227 (by decide +kernel)
theorem q_228 {S s : State} {args : Array Value} (hT : zT S) (hW : S.WarmedH s.vm) : (Jvm.Cond.instanceMethod ({ cls := "java/lang/IllegalStateException", name := "<init>", desc := "(Ljava/lang/String;)V" } : Jvm.MethodName)).before args s = true := zT_w hT hW (Or.inl (by first | rfl | decide)) 228 (by decide +kernel)
theorem q_229 {S s : State} {args : Array Value} (hT : zT S) (hW : S.WarmedH s.vm) : (Jvm.Cond.code ({ cls := "java/lang/IllegalStateException", name := "<init>", desc := "(Ljava/lang/String;)V" } : Jvm.MethodName) prog_13_method_2_code (2 : Nat) (Option.none : Option Jvm.ClassFile.FieldType)).before args s = true := zT_w hT hW (Or.inl (by first | rfl | decide)) 229 (by decide +kernel)
theorem q_230 {S s : State} {args : Array Value} (hT : zT S) (hW : S.WarmedH s.vm) : (Jvm.Cond.methodLink "java/lang/IllegalStateException" (7 : Nat) ({ cls := "java/lang/RuntimeException", name := "<init>", desc := "(Ljava/lang/String;)V" } : Jvm.MethodName)).before args s = true := zT_w hT hW (Or.inl (by first | rfl | decide)) 230 (by decide +kernel)
theorem q_232 {S s : State} {args : Array Value} (hT : zT S) (hW : S.WarmedH s.vm) : (Jvm.Cond.superclass "java/lang/IllegalStateException" "java/lang/RuntimeException").before args s = true := zT_w hT hW (Or.inl (by first | rfl | decide)) 232 (by decide +kernel)
theorem q_233 {S s : State} {args : Array Value} (hT : zT S) (hW : S.WarmedH s.vm) : (Jvm.Cond.classLink "Rescuemarket" (64 : Nat) "Rescuemarket$Boat").before args s = true := zT_w hT hW (Or.inl (by first | rfl | decide)) 233 (by decide +kernel)
theorem q_234 {S s : State} {args : Array Value} (hT : zT S) (hW : S.WarmedH s.vm) : (Jvm.Cond.instantiable "Rescuemarket$Boat" (13 : Nat)).before args s = true := zT_w hT hW (Or.inl (by first | rfl | decide)) 234 (by decide +kernel)
theorem q_235 {S s : State} {args : Array Value} (hT : zT S) (hW : S.WarmedH s.vm) : (Jvm.Cond.methodLink "Rescuemarket" (66 : Nat) ({ cls := "Rescuemarket$Boat", name := "<init>", desc := "(IIIIII)V" } : Jvm.MethodName)).before args s = true := zT_w hT hW (Or.inl (by first | rfl | decide)) 235 (by decide +kernel)
theorem q_236 {S s : State} {args : Array Value} (hT : zT S) (hW : S.WarmedH s.vm) : (Jvm.Cond.instanceMethod ({ cls := "Rescuemarket$Boat", name := "<init>", desc := "(IIIIII)V" } : Jvm.MethodName)).before args s = true := zT_w hT hW (Or.inl (by first | rfl | decide)) 236 (by decide +kernel)
theorem q_237 {S s : State} {args : Array Value} (hT : zT S) (hW : S.WarmedH s.vm) : (Jvm.Cond.code ({ cls := "Rescuemarket$Boat", name := "<init>", desc := "(IIIIII)V" } : Jvm.MethodName) prog_2_method_1_code (7 : Nat) (Option.none : Option Jvm.ClassFile.FieldType)).before args s = true := zT_w hT hW (Or.inl (by first | rfl | decide)) 237 (by decide +kernel)
theorem q_238 {S s : State} {args : Array Value} (hT : zT S) (hW : S.WarmedH s.vm) : (Jvm.Cond.methodLink "Rescuemarket$Boat" (3 : Nat) ({ cls := "java/lang/Object", name := "<init>", desc := "()V" } : Jvm.MethodName)).before args s = true := zT_w hT hW (Or.inl (by first | rfl | decide)) 238 (by decide +kernel)
theorem q_239 {S s : State} {args : Array Value} (hT : zT S) (hW : S.WarmedH s.vm) : (Jvm.Cond.fieldLink "Rescuemarket$Boat" (9 : Nat) "Rescuemarket$Boat" "number" "I").before args s = true := zT_w hT hW (Or.inl (by first | rfl | decide)) 239 (by decide +kernel)
theorem q_240 {S s : State} {args : Array Value} (hT : zT S) (hW : S.WarmedH s.vm) : (Jvm.Cond.fieldLink "Rescuemarket" (145 : Nat) "Rescuemarket$Boat" "number" "I").before args s = true := zT_w hT hW (Or.inl (by first | rfl | decide)) 240 (by decide +kernel)
theorem q_241 {S s : State} {args : Array Value} (hT : zT S) (hW : S.WarmedH s.vm) : (Jvm.Cond.fieldLink "Rescuemarket$Boat" (15 : Nat) "Rescuemarket$Boat" "club" "I").before args s = true := zT_w hT hW (Or.inl (by first | rfl | decide)) 241 (by decide +kernel)
theorem q_242 {S s : State} {args : Array Value} (hT : zT S) (hW : S.WarmedH s.vm) : (Jvm.Cond.fieldLink "Rescuemarket" (197 : Nat) "Rescuemarket$Boat" "club" "I").before args s = true := zT_w hT hW (Or.inl (by first | rfl | decide)) 242 (by decide +kernel)
theorem q_243 {S s : State} {args : Array Value} (hT : zT S) (hW : S.WarmedH s.vm) : (Jvm.Cond.fieldLink "Rescuemarket$Boat" (24 : Nat) "Rescuemarket$Boat" "bears" "I").before args s = true := zT_w hT hW (Or.inl (by first | rfl | decide)) 243 (by decide +kernel)
theorem q_244 {S s : State} {args : Array Value} (hT : zT S) (hW : S.WarmedH s.vm) : (Jvm.Cond.fieldLink "Rescuemarket" (179 : Nat) "Rescuemarket$Boat" "bears" "I").before args s = true := zT_w hT hW (Or.inl (by first | rfl | decide)) 244 (by decide +kernel)
theorem q_245 {S s : State} {args : Array Value} (hT : zT S) (hW : S.WarmedH s.vm) : (Jvm.Cond.fieldLink "Rescuemarket$Boat" (18 : Nat) "Rescuemarket$Boat" "home" "I").before args s = true := zT_w hT hW (Or.inl (by first | rfl | decide)) 245 (by decide +kernel)
theorem q_246 {S s : State} {args : Array Value} (hT : zT S) (hW : S.WarmedH s.vm) : (Jvm.Cond.fieldLink "Rescuemarket$Boat" (21 : Nat) "Rescuemarket$Boat" "speed" "I").before args s = true := zT_w hT hW (Or.inl (by first | rfl | decide)) 246 (by decide +kernel)
theorem q_247 {S s : State} {args : Array Value} (hT : zT S) (hW : S.WarmedH s.vm) : (Jvm.Cond.fieldLink "Rescuemarket$Boat" (27 : Nat) "Rescuemarket$Boat" "tank" "I").before args s = true := zT_w hT hW (Or.inl (by first | rfl | decide)) 247 (by decide +kernel)
theorem q_248 {S s : State} {args : Array Value} (hT : zT S) (hW : S.WarmedH s.vm) : (Jvm.Cond.fieldLink "Rescuemarket$Boat" (33 : Nat) "Rescuemarket$Boat" "user" "I").before args s = true := zT_w hT hW (Or.inl (by first | rfl | decide)) 248 (by decide +kernel)
theorem q_249 {S s : State} {args : Array Value} (hT : zT S) (hW : S.WarmedH s.vm) : (Jvm.Cond.fieldLink "Rescuemarket" (77 : Nat) "Rescuemarket$Boat" "user" "I").before args s = true := zT_w hT hW (Or.inl (by first | rfl | decide)) 249 (by decide +kernel)
theorem q_250 {S s : State} {args : Array Value} (hT : zT S) (hW : S.WarmedH s.vm) : (Jvm.Cond.fieldLink "Rescuemarket$Boat" (36 : Nat) "Rescuemarket$Boat" "userOfTask" "I").before args s = true := zT_w hT hW (Or.inl (by first | rfl | decide)) 250 (by decide +kernel)
theorem q_251 {S s : State} {args : Array Value} (hT : zT S) (hW : S.WarmedH s.vm) : (Jvm.Cond.fieldLink "Rescuemarket" (200 : Nat) "Rescuemarket$Boat" "userOfTask" "I").before args s = true := zT_w hT hW (Or.inl (by first | rfl | decide)) 251 (by decide +kernel)
theorem q_252 {S s : State} {args : Array Value} (hT : zT S) (hW : S.WarmedH s.vm) : (Jvm.Cond.fieldLink "Rescuemarket$Boat" (39 : Nat) "Rescuemarket$Boat" "state" "I").before args s = true := zT_w hT hW (Or.inl (by first | rfl | decide)) 252 (by decide +kernel)
theorem q_253 {S s : State} {args : Array Value} (hT : zT S) (hW : S.WarmedH s.vm) : (Jvm.Cond.fieldLink "Rescuemarket" (120 : Nat) "Rescuemarket$Boat" "state" "I").before args s = true := zT_w hT hW (Or.inl (by first | rfl | decide)) 253 (by decide +kernel)
theorem q_254 {S s : State} {args : Array Value} (hT : zT S) (hW : S.WarmedH s.vm) : (Jvm.Cond.fieldLink "Rescuemarket$Boat" (42 : Nat) "Rescuemarket$Boat" "call" "LRescuemarket$Call;").before args s = true := zT_w hT hW (Or.inl (by first | rfl | decide)) 254 (by decide +kernel)
theorem q_255 {S s : State} {args : Array Value} (hT : zT S) (hW : S.WarmedH s.vm) : (Jvm.Cond.fieldLink "Rescuemarket" (123 : Nat) "Rescuemarket$Boat" "call" "LRescuemarket$Call;").before args s = true := zT_w hT hW (Or.inl (by first | rfl | decide)) 255 (by decide +kernel)
theorem q_256 {S s : State} {args : Array Value} (hT : zT S) (hW : S.WarmedH s.vm) : (Jvm.Cond.fieldLink "Rescuemarket$Boat" (46 : Nat) "Rescuemarket$Boat" "next" "I").before args s = true := zT_w hT hW (Or.inl (by first | rfl | decide)) 256 (by decide +kernel)
theorem q_257 {S s : State} {args : Array Value} (hT : zT S) (hW : S.WarmedH s.vm) : (Jvm.Cond.fieldLink "Rescuemarket" (130 : Nat) "Rescuemarket$Boat" "next" "I").before args s = true := zT_w hT hW (Or.inl (by first | rfl | decide)) 257 (by decide +kernel)
theorem q_258 {S s : State} {args : Array Value} (hT : zT S) (hW : S.WarmedH s.vm) : (Jvm.Cond.fieldLink "Rescuemarket$Boat" (30 : Nat) "Rescuemarket$Boat" "fuel" "I").before args s = true := zT_w hT hW (Or.inl (by first | rfl | decide)) 258 (by decide +kernel)
theorem q_259 {S s : State} {args : Array Value} (hT : zT S) (hW : S.WarmedH s.vm) : (Jvm.Cond.fieldLink "Rescuemarket" (133 : Nat) "Rescuemarket$Boat" "fuel" "I").before args s = true := zT_w hT hW (Or.inl (by first | rfl | decide)) 259 (by decide +kernel)
theorem q_260 {S s : State} {args : Array Value} (hT : zT S) (hW : S.WarmedH s.vm) : (Jvm.Cond.fieldLink "Rescuemarket$Boat" (49 : Nat) "Rescuemarket$Boat" "left" "I").before args s = true := zT_w hT hW (Or.inl (by first | rfl | decide)) 260 (by decide +kernel)
theorem q_287 {S s : State} {args : Array Value} (hT : zT S) (hW : S.WarmedH s.vm) : (Jvm.Cond.superclass "Rescuemarket$Boat" "java/lang/Object").before args s = true := zT_w hT hW (Or.inl (by first | rfl | decide)) 287 (by decide +kernel)
theorem q_289 {S s : State} {args : Array Value} (hT : zT S) (hW : S.WarmedH s.vm) : (Jvm.Cond.methodLink "Rescuemarket" (69 : Nat) ({ cls := "java/util/List", name := "add", desc := "(Ljava/lang/Object;)Z" } : Jvm.MethodName)).before args s = true := zT_w hT hW (Or.inl (by first | rfl | decide)) 289 (by decide +kernel)
theorem q_290 {S : State} (hT : zT S) : (Jvm.Cond.interfaceMethod "java/util/List" "java/util/List" "add" "(Ljava/lang/Object;)Z").before #[] S = true := hT _ (List.mem_append_right _ (List.mem_of_getElem? (i := 290) (by decide +kernel)))
theorem q_291 {S : State} (hT : zT S) : (Jvm.Cond.declares ({ cls := "java/util/List", name := "add", desc := "(Ljava/lang/Object;)Z" } : Jvm.MethodName)).before #[] S = true := hT _ (List.mem_append_right _ (List.mem_of_getElem? (i := 291) (by decide +kernel)))
theorem q_292 {S s : State} {args : Array Value} (hT : zT S) (hW : S.WarmedH s.vm) : (Jvm.Cond.selects "java/util/ArrayList" ({ cls := "java/util/List", name := "add", desc := "(Ljava/lang/Object;)Z" } : Jvm.MethodName) ({ cls := "java/util/ArrayList", name := "add", desc := "(Ljava/lang/Object;)Z" } : Jvm.MethodName)).before args s = true := zT_w hT hW (Or.inl (by first | rfl | decide)) 292 (by decide +kernel)
theorem q_293 {S : State} (hT : zT S) : (Jvm.Cond.unhidden "java/util/ArrayList" "add" "(Ljava/lang/Object;)Z").before #[] S = true := hT _ (List.mem_append_right _ (List.mem_of_getElem? (i := 293) (by decide +kernel)))
theorem q_294 {S s : State} {args : Array Value} (hT : zT S) (hW : S.WarmedH s.vm) : (Jvm.Cond.instanceMethod ({ cls := "java/util/ArrayList", name := "add", desc := "(Ljava/lang/Object;)Z" } : Jvm.MethodName)).before args s = true := zT_w hT hW (Or.inl (by first | rfl | decide)) 294 (by decide +kernel)
theorem q_295 {S : State} (hT : zT S) : (Jvm.Cond.publicMethod ({ cls := "java/util/ArrayList", name := "add", desc := "(Ljava/lang/Object;)Z" } : Jvm.MethodName)).before #[] S = true := hT _ (List.mem_append_right _ (List.mem_of_getElem? (i := 295) (by decide +kernel)))
theorem q_296 {S s : State} {args : Array Value} (hT : zT S) (hW : S.WarmedH s.vm) : (Jvm.Cond.code ({ cls := "java/util/ArrayList", name := "add", desc := "(Ljava/lang/Object;)Z" } : Jvm.MethodName) prog_23_method_25_code (2 : Nat) (Option.some Jvm.ClassFile.FieldType.boolean)).before args s = true := zT_w hT hW (Or.inl (by first | rfl | decide)) 296 (by decide +kernel)
theorem q_297 {S s : State} {args : Array Value} (hT : zT S) (hW : S.WarmedH s.vm) : (Jvm.Cond.methodLink "java/util/ArrayList" (131 : Nat) ({ cls := "java/util/ArrayList", name := "add", desc := "(Ljava/lang/Object;[Ljava/lang/Object;I)V" } : Jvm.MethodName)).before args s = true := zT_w hT hW (Or.inl (by first | rfl | decide)) 297 (by decide +kernel)
theorem q_299 {S s : State} {args : Array Value} (hT : zT S) (hW : S.WarmedH s.vm) : (Jvm.Cond.instanceMethod ({ cls := "java/util/ArrayList", name := "add", desc := "(Ljava/lang/Object;[Ljava/lang/Object;I)V" } : Jvm.MethodName)).before args s = true := zT_w hT hW (Or.inl (by first | rfl | decide)) 299 (by decide +kernel)
theorem q_300 {S s : State} {args : Array Value} (hT : zT S) (hW : S.WarmedH s.vm) : (Jvm.Cond.code ({ cls := "java/util/ArrayList", name := "add", desc := "(Ljava/lang/Object;[Ljava/lang/Object;I)V" } : Jvm.MethodName) prog_23_method_24_code (4 : Nat) (Option.none : Option Jvm.ClassFile.FieldType)).before args s = true := zT_w hT hW (Or.inl (by first | rfl | decide)) 300 (by decide +kernel)
theorem q_301 {S s : State} {args : Array Value} (hT : zT S) (hW : S.WarmedH s.vm) : (Jvm.Cond.methodLink "java/util/ArrayList" (129 : Nat) ({ cls := "java/util/ArrayList", name := "grow", desc := "()[Ljava/lang/Object;" } : Jvm.MethodName)).before args s = true := zT_w hT hW (Or.inl (by first | rfl | decide)) 301 (by decide +kernel)
theorem q_303 {S s : State} {args : Array Value} (hT : zT S) (hW : S.WarmedH s.vm) : (Jvm.Cond.instanceMethod ({ cls := "java/util/ArrayList", name := "grow", desc := "()[Ljava/lang/Object;" } : Jvm.MethodName)).before args s = true := zT_w hT hW (Or.inl (by first | rfl | decide)) 303 (by decide +kernel)
theorem q_304 {S s : State} {args : Array Value} (hT : zT S) (hW : S.WarmedH s.vm) : (Jvm.Cond.code ({ cls := "java/util/ArrayList", name := "grow", desc := "()[Ljava/lang/Object;" } : Jvm.MethodName) prog_23_method_7_code (1 : Nat) (Option.some (Jvm.ClassFile.FieldType.array (Jvm.ClassFile.FieldType.object "java/lang/Object")))).before args s = true := zT_w hT hW (Or.inl (by first | rfl | decide)) 304 (by decide +kernel)
theorem q_305 {S s : State} {args : Array Value} (hT : zT S) (hW : S.WarmedH s.vm) : (Jvm.Cond.methodLink "java/util/ArrayList" (69 : Nat) ({ cls := "java/util/ArrayList", name := "grow", desc := "(I)[Ljava/lang/Object;" } : Jvm.MethodName)).before args s = true := zT_w hT hW (Or.inl (by first | rfl | decide)) 305 (by decide +kernel)
theorem q_307 {S s : State} {args : Array Value} (hT : zT S) (hW : S.WarmedH s.vm) : (Jvm.Cond.instanceMethod ({ cls := "java/util/ArrayList", name := "grow", desc := "(I)[Ljava/lang/Object;" } : Jvm.MethodName)).before args s = true := zT_w hT hW (Or.inl (by first | rfl | decide)) 307 (by decide +kernel)
theorem q_308 {S s : State} {args : Array Value} (hT : zT S) (hW : S.WarmedH s.vm) : (Jvm.Cond.code ({ cls := "java/util/ArrayList", name := "grow", desc := "(I)[Ljava/lang/Object;" } : Jvm.MethodName) prog_23_method_6_code (4 : Nat) (Option.some (Jvm.ClassFile.FieldType.array (Jvm.ClassFile.FieldType.object "java/lang/Object")))).before args s = true := zT_w hT hW (Or.inl (by first | rfl | decide)) 308 (by decide +kernel)
theorem q_309 {S s : State} {args : Array Value} (hT : zT S) (hW : S.WarmedH s.vm) : (Jvm.Cond.methodLink "java/util/ArrayList" (73 : Nat) ({ cls := "jdk/internal/util/ArraysSupport", name := "newLength", desc := "(III)I" } : Jvm.MethodName)).before args s = true := zT_w hT hW (Or.inl (by first | rfl | decide)) 309 (by decide +kernel)
theorem q_310 {S s : State} {args : Array Value} (hT : zT S) (hW : S.WarmedH s.vm) : (Jvm.Cond.static ({ cls := "jdk/internal/util/ArraysSupport", name := "newLength", desc := "(III)I" } : Jvm.MethodName)).before args s = true := zT_w hT hW (Or.inl (by first | rfl | decide)) 310 (by decide +kernel)
theorem q_311 {S s : State} {args : Array Value} (hT : zT S) (hW : S.WarmedH s.vm) : (Jvm.Cond.code ({ cls := "jdk/internal/util/ArraysSupport", name := "newLength", desc := "(III)I" } : Jvm.MethodName) prog_30_method_27_code (4 : Nat) (Option.some Jvm.ClassFile.FieldType.int)).before args s = true := zT_w hT hW (Or.inl (by first | rfl | decide)) 311 (by decide +kernel)
theorem q_312 {S s : State} {args : Array Value} (hT : zT S) (hW : S.WarmedH s.vm) : (Jvm.Cond.methodLink "jdk/internal/util/ArraysSupport" (194 : Nat) ({ cls := "java/lang/Math", name := "max", desc := "(II)I" } : Jvm.MethodName)).before args s = true := zT_w hT hW (Or.inl (by first | rfl | decide)) 312 (by decide +kernel)
theorem q_313 {S s : State} {args : Array Value} (hT : zT S) (hW : S.WarmedH s.vm) : (Jvm.Cond.static ({ cls := "java/lang/Math", name := "max", desc := "(II)I" } : Jvm.MethodName)).before args s = true := zT_w hT hW (Or.inl (by first | rfl | decide)) 313 (by decide +kernel)
theorem q_314 {S s : State} {args : Array Value} (hT : zT S) (hW : S.WarmedH s.vm) : (Jvm.Cond.code ({ cls := "java/lang/Math", name := "max", desc := "(II)I" } : Jvm.MethodName) prog_16_method_65_code (2 : Nat) (Option.some Jvm.ClassFile.FieldType.int)).before args s = true := zT_w hT hW (Or.inl (by first | rfl | decide)) 314 (by decide +kernel)
theorem q_315 {S s : State} {args : Array Value} (hT : zT S) (hW : S.WarmedH s.vm) : (Jvm.Cond.constant "jdk/internal/util/ArraysSupport" (200 : Nat) (2147483639 : Int32)).before args s = true := zT_w hT hW (Or.inl (by first | rfl | decide)) 315 (by decide +kernel)
theorem q_316 {S s : State} {args : Array Value} (hT : zT S) (hW : S.WarmedH s.vm) : (Jvm.Cond.methodLink "jdk/internal/util/ArraysSupport" (201 : Nat) ({ cls := "jdk/internal/util/ArraysSupport", name := "hugeLength", desc := "(II)I" } : Jvm.MethodName)).before args s = true := zT_w hT hW (Or.inl (by first | rfl | decide)) 316 (by decide +kernel)
theorem q_317 {S s : State} {args : Array Value} (hT : zT S) (hW : S.WarmedH s.vm) : (Jvm.Cond.static ({ cls := "jdk/internal/util/ArraysSupport", name := "hugeLength", desc := "(II)I" } : Jvm.MethodName)).before args s = true := zT_w hT hW (Or.inl (by first | rfl | decide)) 317 (by decide +kernel)
theorem q_318 {S s : State} {args : Array Value} (hT : zT S) (hW : S.WarmedH s.vm) : (Jvm.Cond.code ({ cls := "jdk/internal/util/ArraysSupport", name := "hugeLength", desc := "(II)I" } : Jvm.MethodName) prog_30_method_28_code (3 : Nat) (Option.some Jvm.ClassFile.FieldType.int)).before args s = true := zT_w hT hW (Or.inl (by first | rfl | decide)) 318 (by decide +kernel)
theorem q_319 {S s : State} {args : Array Value} (hT : zT S) (hW : S.WarmedH s.vm) : (Jvm.Cond.methodLink "java/util/ArrayList" (66 : Nat) ({ cls := "java/util/Arrays", name := "copyOf", desc := "([Ljava/lang/Object;I)[Ljava/lang/Object;" } : Jvm.MethodName)).before args s = true := zT_w hT hW (Or.inl (by first | rfl | decide)) 319 (by decide +kernel)
theorem q_320 {S s : State} {args : Array Value} (hT : zT S) (hW : S.WarmedH s.vm) : (Jvm.Cond.static ({ cls := "java/util/Arrays", name := "copyOf", desc := "([Ljava/lang/Object;I)[Ljava/lang/Object;" } : Jvm.MethodName)).before args s = true := zT_w hT hW (Or.inl (by first | rfl | decide)) 320 (by decide +kernel)
theorem q_321 {S s : State} {args : Array Value} (hT : zT S) (hW : S.WarmedH s.vm) : (Jvm.Cond.code ({ cls := "java/util/Arrays", name := "copyOf", desc := "([Ljava/lang/Object;I)[Ljava/lang/Object;" } : Jvm.MethodName) prog_24_method_119_code (2 : Nat) (Option.some (Jvm.ClassFile.FieldType.array (Jvm.ClassFile.FieldType.object "java/lang/Object")))).before args s = true := zT_w hT hW (Or.inl (by first | rfl | decide)) 321 (by decide +kernel)
theorem q_322 {S s : State} {args : Array Value} (hT : zT S) (hW : S.WarmedH s.vm) : (Jvm.Cond.methodLink "java/util/Arrays" (86 : Nat) ({ cls := "java/lang/Object", name := "getClass", desc := "()Ljava/lang/Class;" } : Jvm.MethodName)).before args s = true := zT_w hT hW (Or.inl (by first | rfl | decide)) 322 (by decide +kernel)
theorem q_323 {S s : State} {args : Array Value} (hT : zT S) (hW : S.WarmedH s.vm) : (Jvm.Cond.instanceMethod ({ cls := "java/lang/Object", name := "getClass", desc := "()Ljava/lang/Class;" } : Jvm.MethodName)).before args s = true := zT_w hT hW (Or.inl (by first | rfl | decide)) 323 (by decide +kernel)
theorem q_324 {S s : State} {args : Array Value} (hT : zT S) (hW : S.WarmedH s.vm) : (Jvm.Cond.sameMethod "java/lang/Object" "java/lang/Object" "getClass" "()Ljava/lang/Class;").before args s = true := zT_w hT hW (Or.inl (by first | rfl | decide)) 324 (by decide +kernel)
theorem q_325 {S s : State} {args : Array Value} (hT : zT S) (hW : S.WarmedH s.vm) : (Jvm.Cond.selects "Rescuemarket" ({ cls := "java/lang/Object", name := "getClass", desc := "()Ljava/lang/Class;" } : Jvm.MethodName) ({ cls := "java/lang/Object", name := "getClass", desc := "()Ljava/lang/Class;" } : Jvm.MethodName)).before args s = true := zT_w hT hW (Or.inl (by first | rfl | decide)) 325 (by decide +kernel)
theorem q_326 {S s : State} {args : Array Value} (hT : zT S) (hW : S.WarmedH s.vm) : (Jvm.Cond.selects "Rescuemarket$Boat" ({ cls := "java/lang/Object", name := "getClass", desc := "()Ljava/lang/Class;" } : Jvm.MethodName) ({ cls := "java/lang/Object", name := "getClass", desc := "()Ljava/lang/Class;" } : Jvm.MethodName)).before args s = true := zT_w hT hW (Or.inl (by first | rfl | decide)) 326 (by decide +kernel)
theorem q_327 {S s : State} {args : Array Value} (hT : zT S) (hW : S.WarmedH s.vm) : (Jvm.Cond.selects "Rescuemarket$Call" ({ cls := "java/lang/Object", name := "getClass", desc := "()Ljava/lang/Class;" } : Jvm.MethodName) ({ cls := "java/lang/Object", name := "getClass", desc := "()Ljava/lang/Class;" } : Jvm.MethodName)).before args s = true := zT_w hT hW (Or.inl (by first | rfl | decide)) 327 (by decide +kernel)
theorem q_328 {S s : State} {args : Array Value} (hT : zT S) (hW : S.WarmedH s.vm) : (Jvm.Cond.selects "Rescuemarket$Deed" ({ cls := "java/lang/Object", name := "getClass", desc := "()Ljava/lang/Class;" } : Jvm.MethodName) ({ cls := "java/lang/Object", name := "getClass", desc := "()Ljava/lang/Class;" } : Jvm.MethodName)).before args s = true := zT_w hT hW (Or.inl (by first | rfl | decide)) 328 (by decide +kernel)
theorem q_329 {S s : State} {args : Array Value} (hT : zT S) (hW : S.WarmedH s.vm) : (Jvm.Cond.selects "Rescuemarket$Ledger" ({ cls := "java/lang/Object", name := "getClass", desc := "()Ljava/lang/Class;" } : Jvm.MethodName) ({ cls := "java/lang/Object", name := "getClass", desc := "()Ljava/lang/Class;" } : Jvm.MethodName)).before args s = true := zT_w hT hW (Or.inl (by first | rfl | decide)) 329 (by decide +kernel)
theorem q_330 {S s : State} {args : Array Value} (hT : zT S) (hW : S.WarmedH s.vm) : (Jvm.Cond.selects "Rescuemarket$Weather" ({ cls := "java/lang/Object", name := "getClass", desc := "()Ljava/lang/Class;" } : Jvm.MethodName) ({ cls := "java/lang/Object", name := "getClass", desc := "()Ljava/lang/Class;" } : Jvm.MethodName)).before args s = true := zT_w hT hW (Or.inl (by first | rfl | decide)) 330 (by decide +kernel)
theorem q_331 {S s : State} {args : Array Value} (hT : zT S) (hW : S.WarmedH s.vm) : (Jvm.Cond.selects "RescuemarketModel" ({ cls := "java/lang/Object", name := "getClass", desc := "()Ljava/lang/Class;" } : Jvm.MethodName) ({ cls := "java/lang/Object", name := "getClass", desc := "()Ljava/lang/Class;" } : Jvm.MethodName)).before args s = true := zT_w hT hW (Or.inl (by first | rfl | decide)) 331 (by decide +kernel)
theorem q_332 {S s : State} {args : Array Value} (hT : zT S) (hW : S.WarmedH s.vm) : (Jvm.Cond.selects "java/lang/IllegalArgumentException" ({ cls := "java/lang/Object", name := "getClass", desc := "()Ljava/lang/Class;" } : Jvm.MethodName) ({ cls := "java/lang/Object", name := "getClass", desc := "()Ljava/lang/Class;" } : Jvm.MethodName)).before args s = true := zT_w hT hW (Or.inl (by first | rfl | decide)) 332 (by decide +kernel)
theorem q_333 {S s : State} {args : Array Value} (hT : zT S) (hW : S.WarmedH s.vm) : (Jvm.Cond.selects "java/lang/IllegalStateException" ({ cls := "java/lang/Object", name := "getClass", desc := "()Ljava/lang/Class;" } : Jvm.MethodName) ({ cls := "java/lang/Object", name := "getClass", desc := "()Ljava/lang/Class;" } : Jvm.MethodName)).before args s = true := zT_w hT hW (Or.inl (by first | rfl | decide)) 333 (by decide +kernel)
theorem q_334 {S s : State} {args : Array Value} (hT : zT S) (hW : S.WarmedH s.vm) : (Jvm.Cond.selects "java/lang/IndexOutOfBoundsException" ({ cls := "java/lang/Object", name := "getClass", desc := "()Ljava/lang/Class;" } : Jvm.MethodName) ({ cls := "java/lang/Object", name := "getClass", desc := "()Ljava/lang/Class;" } : Jvm.MethodName)).before args s = true := zT_w hT hW (Or.inl (by first | rfl | decide)) 334 (by decide +kernel)
theorem q_335 {S s : State} {args : Array Value} (hT : zT S) (hW : S.WarmedH s.vm) : (Jvm.Cond.selects "java/util/ArrayList" ({ cls := "java/lang/Object", name := "getClass", desc := "()Ljava/lang/Class;" } : Jvm.MethodName) ({ cls := "java/lang/Object", name := "getClass", desc := "()Ljava/lang/Class;" } : Jvm.MethodName)).before args s = true := zT_w hT hW (Or.inl (by first | rfl | decide)) 335 (by decide +kernel)
theorem q_336 {S s : State} {args : Array Value} (hT : zT S) (hW : S.WarmedH s.vm) : (Jvm.Cond.native ({ cls := "java/lang/Object", name := "getClass", desc := "()Ljava/lang/Class;" } : Jvm.MethodName)).before args s = true := zT_w hT hW (Or.inl (by first | rfl | decide)) 336 (by decide +kernel)
theorem q_337 {S s : State} {args : Array Value} (hT : zT S) (hW : S.WarmedH s.vm) : (Jvm.Cond.methodLink "java/util/Arrays" (300 : Nat) ({ cls := "java/util/Arrays", name := "copyOf", desc := "([Ljava/lang/Object;ILjava/lang/Class;)[Ljava/lang/Object;" } : Jvm.MethodName)).before args s = true := zT_w hT hW (Or.inl (by first | rfl | decide)) 337 (by decide +kernel)
theorem q_338 {S s : State} {args : Array Value} (hT : zT S) (hW : S.WarmedH s.vm) : (Jvm.Cond.static ({ cls := "java/util/Arrays", name := "copyOf", desc := "([Ljava/lang/Object;ILjava/lang/Class;)[Ljava/lang/Object;" } : Jvm.MethodName)).before args s = true := zT_w hT hW (Or.inl (by first | rfl | decide)) 338 (by decide +kernel)
theorem q_339 {S s : State} {args : Array Value} (hT : zT S) (hW : S.WarmedH s.vm) : (Jvm.Cond.code ({ cls := "java/util/Arrays", name := "copyOf", desc := "([Ljava/lang/Object;ILjava/lang/Class;)[Ljava/lang/Object;" } : Jvm.MethodName) prog_24_method_120_code (4 : Nat) (Option.some (Jvm.ClassFile.FieldType.array (Jvm.ClassFile.FieldType.object "java/lang/Object")))).before args s = true := zT_w hT hW (Or.inl (by first | rfl | decide)) 339 (by decide +kernel)
theorem q_340 {S s : State} {args : Array Value} (hT : zT S) (hW : S.WarmedH s.vm) : (Jvm.Cond.classLink "java/util/Arrays" (110 : Nat) "[Ljava/lang/Object;").before args s = true := zT_w hT hW (Or.inl (by first | rfl | decide)) 340 (by decide +kernel)
theorem q_341 {S : State} (hT : zT S) : (Jvm.Cond.arrayOver (Jvm.ClassFile.FieldType.object "java/lang/Object")).before #[] S = true := hT _ (List.mem_append_right _ (List.mem_of_getElem? (i := 341) (by decide +kernel)))
theorem q_342 {S s : State} {args : Array Value} (hT : zT S) (hW : S.WarmedH s.vm) : (Jvm.Cond.classLink "java/util/Arrays" (2 : Nat) "java/lang/Object").before args s = true := zT_w hT hW (Or.inl (by first | rfl | decide)) 342 (by decide +kernel)
theorem q_343 {S s : State} {args : Array Value} (hT : zT S) (hW : S.WarmedH s.vm) : (Jvm.Cond.methodLink "java/util/Arrays" (304 : Nat) ({ cls := "java/lang/Math", name := "min", desc := "(II)I" } : Jvm.MethodName)).before args s = true := zT_w hT hW (Or.inl (by first | rfl | decide)) 343 (by decide +kernel)
theorem q_344 {S s : State} {args : Array Value} (hT : zT S) (hW : S.WarmedH s.vm) : (Jvm.Cond.static ({ cls := "java/lang/Math", name := "min", desc := "(II)I" } : Jvm.MethodName)).before args s = true := zT_w hT hW (Or.inl (by first | rfl | decide)) 344 (by decide +kernel)
theorem q_345 {S s : State} {args : Array Value} (hT : zT S) (hW : S.WarmedH s.vm) : (Jvm.Cond.code ({ cls := "java/lang/Math", name := "min", desc := "(II)I" } : Jvm.MethodName) prog_16_method_69_code (2 : Nat) (Option.some Jvm.ClassFile.FieldType.int)).before args s = true := zT_w hT hW (Or.inl (by first | rfl | decide)) 345 (by decide +kernel)
theorem q_346 {S s : State} {args : Array Value} (hT : zT S) (hW : S.WarmedH s.vm) : (Jvm.Cond.methodLink "java/util/Arrays" (150 : Nat) ({ cls := "java/lang/System", name := "arraycopy", desc := "(Ljava/lang/Object;ILjava/lang/Object;II)V" } : Jvm.MethodName)).before args s = true := zT_w hT hW (Or.inl (by first | rfl | decide)) 346 (by decide +kernel)
theorem q_347 {S s : State} {args : Array Value} (hT : zT S) (hW : S.WarmedH s.vm) : (Jvm.Cond.static ({ cls := "java/lang/System", name := "arraycopy", desc := "(Ljava/lang/Object;ILjava/lang/Object;II)V" } : Jvm.MethodName)).before args s = true := zT_w hT hW (Or.inl (by first | rfl | decide)) 347 (by decide +kernel)
theorem q_348 {S s : State} {args : Array Value} (hT : zT S) (hW : S.WarmedH s.vm) : (Jvm.Cond.native ({ cls := "java/lang/System", name := "arraycopy", desc := "(Ljava/lang/Object;ILjava/lang/Object;II)V" } : Jvm.MethodName)).before args s = true := zT_w hT hW (Or.inl (by first | rfl | decide)) 348 (by decide +kernel)
theorem q_349 {S s : State} {args : Array Value} (hT : zT S) (hW : S.WarmedH s.vm) : (Jvm.Cond.methodLink "java/util/ArrayList" (79 : Nat) ({ cls := "java/lang/Math", name := "max", desc := "(II)I" } : Jvm.MethodName)).before args s = true := zT_w hT hW (Or.inl (by first | rfl | decide)) 349 (by decide +kernel)
theorem q_350 {S s : State} {args : Array Value} (hT : zT S) (hW : S.WarmedH s.vm) : (Jvm.Cond.classLink "java/util/ArrayList" (7 : Nat) "java/lang/Object").before args s = true := zT_w hT hW (Or.inl (by first | rfl | decide)) 350 (by decide +kernel)
theorem q_351 {S s : State} {args : Array Value} (hT : zT S) (hW : S.WarmedH s.vm) : (Jvm.Cond.methodLink "RescuemarketLaw" (70 : Nat) ({ cls := "RescuemarketLaw", name := "lend", desc := "(LRescuemarket;II[J)I" } : Jvm.MethodName)).before args s = true := zT_w hT hW (Or.inl (by first | rfl | decide)) 351 (by decide +kernel)
theorem q_352 {S s : State} {args : Array Value} (hT : zT S) (hW : S.WarmedH s.vm) : (Jvm.Cond.static ({ cls := "RescuemarketLaw", name := "lend", desc := "(LRescuemarket;II[J)I" } : Jvm.MethodName)).before args s = true := zT_w hT hW (Or.inl (by first | rfl | decide)) 352 (by decide +kernel)
theorem q_354 {S s : State} {args : Array Value} (hT : zT S) (hW : S.WarmedH s.vm) : (Jvm.Cond.methodLink "RescuemarketLaw" (19 : Nat) ({ cls := "Rescuemarket", name := "lend", desc := "(II)I" } : Jvm.MethodName)).before args s = true := zT_w hT hW (Or.inl (by first | rfl | decide)) 354 (by decide +kernel)
theorem q_355 {S s : State} {args : Array Value} (hT : zT S) (hW : S.WarmedH s.vm) : (Jvm.Cond.instanceMethod ({ cls := "Rescuemarket", name := "lend", desc := "(II)I" } : Jvm.MethodName)).before args s = true := zT_w hT hW (Or.inl (by first | rfl | decide)) 355 (by decide +kernel)
theorem q_356 {S s : State} {args : Array Value} (hT : zT S) (hW : S.WarmedH s.vm) : (Jvm.Cond.selects "Rescuemarket" ({ cls := "Rescuemarket", name := "lend", desc := "(II)I" } : Jvm.MethodName) ({ cls := "Rescuemarket", name := "lend", desc := "(II)I" } : Jvm.MethodName)).before args s = true := zT_w hT hW (Or.inl (by first | rfl | decide)) 356 (by decide +kernel)
theorem q_357 {S s : State} {args : Array Value} (hT : zT S) (hW : S.WarmedH s.vm) : (Jvm.Cond.code ({ cls := "Rescuemarket", name := "lend", desc := "(II)I" } : Jvm.MethodName) prog_1_method_3_code (5 : Nat) (Option.some Jvm.ClassFile.FieldType.int)).before args s = true := zT_w hT hW (Or.inl (by first | rfl | decide)) 357 (by decide +kernel)
theorem q_358 {S s : State} {args : Array Value} (hT : zT S) (hW : S.WarmedH s.vm) : (Jvm.Cond.methodLink "Rescuemarket" (73 : Nat) ({ cls := "Rescuemarket", name := "boatNumbered", desc := "(I)LRescuemarket$Boat;" } : Jvm.MethodName)).before args s = true := zT_w hT hW (Or.inl (by first | rfl | decide)) 358 (by decide +kernel)
theorem q_360 {S s : State} {args : Array Value} (hT : zT S) (hW : S.WarmedH s.vm) : (Jvm.Cond.instanceMethod ({ cls := "Rescuemarket", name := "boatNumbered", desc := "(I)LRescuemarket$Boat;" } : Jvm.MethodName)).before args s = true := zT_w hT hW (Or.inl (by first | rfl | decide)) 360 (by decide +kernel)
theorem q_361 {S s : State} {args : Array Value} (hT : zT S) (hW : S.WarmedH s.vm) : (Jvm.Cond.code ({ cls := "Rescuemarket", name := "boatNumbered", desc := "(I)LRescuemarket$Boat;" } : Jvm.MethodName) prog_1_method_23_code (2 : Nat) (Option.some (Jvm.ClassFile.FieldType.object "Rescuemarket$Boat"))).before args s = true := zT_w hT hW (Or.inl (by first | rfl | decide)) 361 (by decide +kernel)
theorem q_362 {S : State} (hT : zT S) : (Jvm.Cond.stringRef "Rescuemarket" (245 : Nat) "there is no such boat").before #[] S = true := hT _ (List.mem_append_right _ (List.mem_of_getElem? (i := 362) (by decide +kernel)))
theorem q_364 {S s : State} {args : Array Value} (hT : zT S) (hW : S.WarmedH s.vm) : (Jvm.Cond.methodLink "Rescuemarket" (172 : Nat) ({ cls := "java/util/List", name := "get", desc := "(I)Ljava/lang/Object;" } : Jvm.MethodName)).before args s = true := zT_w hT hW (Or.inl (by first | rfl | decide)) 364 (by decide +kernel)
theorem q_365 {S : State} (hT : zT S) : (Jvm.Cond.interfaceMethod "java/util/List" "java/util/List" "get" "(I)Ljava/lang/Object;").before #[] S = true := hT _ (List.mem_append_right _ (List.mem_of_getElem? (i := 365) (by decide +kernel)))
theorem q_366 {S : State} (hT : zT S) : (Jvm.Cond.declares ({ cls := "java/util/List", name := "get", desc := "(I)Ljava/lang/Object;" } : Jvm.MethodName)).before #[] S = true := hT _ (List.mem_append_right _ (List.mem_of_getElem? (i := 366) (by decide +kernel)))
theorem q_367 {S s : State} {args : Array Value} (hT : zT S) (hW : S.WarmedH s.vm) : (Jvm.Cond.selects "java/util/ArrayList" ({ cls := "java/util/List", name := "get", desc := "(I)Ljava/lang/Object;" } : Jvm.MethodName) ({ cls := "java/util/ArrayList", name := "get", desc := "(I)Ljava/lang/Object;" } : Jvm.MethodName)).before args s = true := zT_w hT hW (Or.inl (by first | rfl | decide)) 367 (by decide +kernel)
theorem q_368 {S : State} (hT : zT S) : (Jvm.Cond.unhidden "java/util/ArrayList" "get" "(I)Ljava/lang/Object;").before #[] S = true := hT _ (List.mem_append_right _ (List.mem_of_getElem? (i := 368) (by decide +kernel)))
theorem q_369 {S s : State} {args : Array Value} (hT : zT S) (hW : S.WarmedH s.vm) : (Jvm.Cond.instanceMethod ({ cls := "java/util/ArrayList", name := "get", desc := "(I)Ljava/lang/Object;" } : Jvm.MethodName)).before args s = true := zT_w hT hW (Or.inl (by first | rfl | decide)) 369 (by decide +kernel)
theorem q_370 {S : State} (hT : zT S) : (Jvm.Cond.publicMethod ({ cls := "java/util/ArrayList", name := "get", desc := "(I)Ljava/lang/Object;" } : Jvm.MethodName)).before #[] S = true := hT _ (List.mem_append_right _ (List.mem_of_getElem? (i := 370) (by decide +kernel)))
theorem q_371 {S s : State} {args : Array Value} (hT : zT S) (hW : S.WarmedH s.vm) : (Jvm.Cond.code ({ cls := "java/util/ArrayList", name := "get", desc := "(I)Ljava/lang/Object;" } : Jvm.MethodName) prog_23_method_20_code (2 : Nat) (Option.some (Jvm.ClassFile.FieldType.object "java/lang/Object"))).before args s = true := zT_w hT hW (Or.inl (by first | rfl | decide)) 371 (by decide +kernel)
theorem q_372 {S s : State} {args : Array Value} (hT : zT S) (hW : S.WarmedH s.vm) : (Jvm.Cond.methodLink "java/util/ArrayList" (118 : Nat) ({ cls := "java/util/Objects", name := "checkIndex", desc := "(II)I" } : Jvm.MethodName)).before args s = true := zT_w hT hW (Or.inl (by first | rfl | decide)) 372 (by decide +kernel)
theorem q_373 {S s : State} {args : Array Value} (hT : zT S) (hW : S.WarmedH s.vm) : (Jvm.Cond.static ({ cls := "java/util/Objects", name := "checkIndex", desc := "(II)I" } : Jvm.MethodName)).before args s = true := zT_w hT hW (Or.inl (by first | rfl | decide)) 373 (by decide +kernel)
theorem q_374 {S s : State} {args : Array Value} (hT : zT S) (hW : S.WarmedH s.vm) : (Jvm.Cond.code ({ cls := "java/util/Objects", name := "checkIndex", desc := "(II)I" } : Jvm.MethodName) prog_27_method_17_code (2 : Nat) (Option.some Jvm.ClassFile.FieldType.int)).before args s = true := zT_w hT hW (Or.inl (by first | rfl | decide)) 374 (by decide +kernel)
theorem q_375 {S s : State} {args : Array Value} (hT : zT S) (hW : S.WarmedH s.vm) : (Jvm.Cond.methodLink "java/util/Objects" (105 : Nat) ({ cls := "jdk/internal/util/Preconditions", name := "checkIndex", desc := "(IILjava/util/function/BiFunction;)I" } : Jvm.MethodName)).before args s = true := zT_w hT hW (Or.inl (by first | rfl | decide)) 375 (by decide +kernel)
theorem q_376 {S s : State} {args : Array Value} (hT : zT S) (hW : S.WarmedH s.vm) : (Jvm.Cond.static ({ cls := "jdk/internal/util/Preconditions", name := "checkIndex", desc := "(IILjava/util/function/BiFunction;)I" } : Jvm.MethodName)).before args s = true := zT_w hT hW (Or.inl (by first | rfl | decide)) 376 (by decide +kernel)
theorem q_377 {S s : State} {args : Array Value} (hT : zT S) (hW : S.WarmedH s.vm) : (Jvm.Cond.code ({ cls := "jdk/internal/util/Preconditions", name := "checkIndex", desc := "(IILjava/util/function/BiFunction;)I" } : Jvm.MethodName) prog_31_method_11_code (3 : Nat) (Option.some Jvm.ClassFile.FieldType.int)).before args s = true := zT_w hT hW (Or.inl (by first | rfl | decide)) 377 (by decide +kernel)
theorem q_378 {S s : State} {args : Array Value} (hT : zT S) (hW : S.WarmedH s.vm) : (Jvm.Cond.methodLink "java/util/ArrayList" (123 : Nat) ({ cls := "java/util/ArrayList", name := "elementData", desc := "(I)Ljava/lang/Object;" } : Jvm.MethodName)).before args s = true := zT_w hT hW (Or.inl (by first | rfl | decide)) 378 (by decide +kernel)
theorem q_379 {S s : State} {args : Array Value} (hT : zT S) (hW : S.WarmedH s.vm) : (Jvm.Cond.instanceMethod ({ cls := "java/util/ArrayList", name := "elementData", desc := "(I)Ljava/lang/Object;" } : Jvm.MethodName)).before args s = true := zT_w hT hW (Or.inl (by first | rfl | decide)) 379 (by decide +kernel)
theorem q_380 {S s : State} {args : Array Value} (hT : zT S) (hW : S.WarmedH s.vm) : (Jvm.Cond.selects "java/util/ArrayList" ({ cls := "java/util/ArrayList", name := "elementData", desc := "(I)Ljava/lang/Object;" } : Jvm.MethodName) ({ cls := "java/util/ArrayList", name := "elementData", desc := "(I)Ljava/lang/Object;" } : Jvm.MethodName)).before args s = true := zT_w hT hW (Or.inl (by first | rfl | decide)) 380 (by decide +kernel)
theorem q_381 {S s : State} {args : Array Value} (hT : zT S) (hW : S.WarmedH s.vm) : (Jvm.Cond.code ({ cls := "java/util/ArrayList", name := "elementData", desc := "(I)Ljava/lang/Object;" } : Jvm.MethodName) prog_23_method_18_code (2 : Nat) (Option.some (Jvm.ClassFile.FieldType.object "java/lang/Object"))).before args s = true := zT_w hT hW (Or.inl (by first | rfl | decide)) 381 (by decide +kernel)
theorem q_382 {S s : State} {args : Array Value} (hT : zT S) (hW : S.WarmedH s.vm) : (Jvm.Cond.methodLink "RescuemarketLaw" (74 : Nat) ({ cls := "RescuemarketLaw", name := "foretell", desc := "(LRescuemarket;IIIII[J)I" } : Jvm.MethodName)).before args s = true := zT_w hT hW (Or.inl (by first | rfl | decide)) 382 (by decide +kernel)
theorem q_383 {S s : State} {args : Array Value} (hT : zT S) (hW : S.WarmedH s.vm) : (Jvm.Cond.static ({ cls := "RescuemarketLaw", name := "foretell", desc := "(LRescuemarket;IIIII[J)I" } : Jvm.MethodName)).before args s = true := zT_w hT hW (Or.inl (by first | rfl | decide)) 383 (by decide +kernel)
theorem q_385 {S s : State} {args : Array Value} (hT : zT S) (hW : S.WarmedH s.vm) : (Jvm.Cond.methodLink "RescuemarketLaw" (23 : Nat) ({ cls := "Rescuemarket", name := "foretell", desc := "(IIIII)I" } : Jvm.MethodName)).before args s = true := zT_w hT hW (Or.inl (by first | rfl | decide)) 385 (by decide +kernel)
theorem q_386 {S s : State} {args : Array Value} (hT : zT S) (hW : S.WarmedH s.vm) : (Jvm.Cond.instanceMethod ({ cls := "Rescuemarket", name := "foretell", desc := "(IIIII)I" } : Jvm.MethodName)).before args s = true := zT_w hT hW (Or.inl (by first | rfl | decide)) 386 (by decide +kernel)
theorem q_387 {S s : State} {args : Array Value} (hT : zT S) (hW : S.WarmedH s.vm) : (Jvm.Cond.selects "Rescuemarket" ({ cls := "Rescuemarket", name := "foretell", desc := "(IIIII)I" } : Jvm.MethodName) ({ cls := "Rescuemarket", name := "foretell", desc := "(IIIII)I" } : Jvm.MethodName)).before args s = true := zT_w hT hW (Or.inl (by first | rfl | decide)) 387 (by decide +kernel)
theorem q_388 {S s : State} {args : Array Value} (hT : zT S) (hW : S.WarmedH s.vm) : (Jvm.Cond.code ({ cls := "Rescuemarket", name := "foretell", desc := "(IIIII)I" } : Jvm.MethodName) prog_1_method_4_code (10 : Nat) (Option.some Jvm.ClassFile.FieldType.int)).before args s = true := zT_w hT hW (Or.inl (by first | rfl | decide)) 388 (by decide +kernel)
theorem q_389 {S s : State} {args : Array Value} (hT : zT S) (hW : S.WarmedH s.vm) : (Jvm.Cond.methodLink "Rescuemarket" (80 : Nat) ({ cls := "Rescuemarket", name := "columnOf", desc := "(I)I" } : Jvm.MethodName)).before args s = true := zT_w hT hW (Or.inl (by first | rfl | decide)) 389 (by decide +kernel)
theorem q_390 {S s : State} {args : Array Value} (hT : zT S) (hW : S.WarmedH s.vm) : (Jvm.Cond.static ({ cls := "Rescuemarket", name := "columnOf", desc := "(I)I" } : Jvm.MethodName)).before args s = true := zT_w hT hW (Or.inl (by first | rfl | decide)) 390 (by decide +kernel)
theorem q_391 {S s : State} {args : Array Value} (hT : zT S) (hW : S.WarmedH s.vm) : (Jvm.Cond.code ({ cls := "Rescuemarket", name := "columnOf", desc := "(I)I" } : Jvm.MethodName) prog_1_method_28_code (1 : Nat) (Option.some Jvm.ClassFile.FieldType.int)).before args s = true := zT_w hT hW (Or.inl (by first | rfl | decide)) 391 (by decide +kernel)
theorem q_392 {S s : State} {args : Array Value} (hT : zT S) (hW : S.WarmedH s.vm) : (Jvm.Cond.methodLink "Rescuemarket" (84 : Nat) ({ cls := "Rescuemarket", name := "rowOf", desc := "(I)I" } : Jvm.MethodName)).before args s = true := zT_w hT hW (Or.inl (by first | rfl | decide)) 392 (by decide +kernel)
theorem q_393 {S s : State} {args : Array Value} (hT : zT S) (hW : S.WarmedH s.vm) : (Jvm.Cond.static ({ cls := "Rescuemarket", name := "rowOf", desc := "(I)I" } : Jvm.MethodName)).before args s = true := zT_w hT hW (Or.inl (by first | rfl | decide)) 393 (by decide +kernel)
theorem q_394 {S s : State} {args : Array Value} (hT : zT S) (hW : S.WarmedH s.vm) : (Jvm.Cond.code ({ cls := "Rescuemarket", name := "rowOf", desc := "(I)I" } : Jvm.MethodName) prog_1_method_29_code (1 : Nat) (Option.some Jvm.ClassFile.FieldType.int)).before args s = true := zT_w hT hW (Or.inl (by first | rfl | decide)) 394 (by decide +kernel)
theorem q_395 {S : State} (hT : zT S) : (Jvm.Cond.stringRef "Rescuemarket" (89 : Nat) "the last cell is ahead of the first").before #[] S = true := hT _ (List.mem_append_right _ (List.mem_of_getElem? (i := 395) (by decide +kernel)))
theorem q_396 {S s : State} {args : Array Value} (hT : zT S) (hW : S.WarmedH s.vm) : (Jvm.Cond.methodLink "Rescuemarket" (92 : Nat) ({ cls := "Rescuemarket$Weather", name := "put", desc := "(IIII)V" } : Jvm.MethodName)).before args s = true := zT_w hT hW (Or.inl (by first | rfl | decide)) 396 (by decide +kernel)
theorem q_397 {S s : State} {args : Array Value} (hT : zT S) (hW : S.WarmedH s.vm) : (Jvm.Cond.instanceMethod ({ cls := "Rescuemarket$Weather", name := "put", desc := "(IIII)V" } : Jvm.MethodName)).before args s = true := zT_w hT hW (Or.inl (by first | rfl | decide)) 397 (by decide +kernel)
theorem q_398 {S s : State} {args : Array Value} (hT : zT S) (hW : S.WarmedH s.vm) : (Jvm.Cond.selects "Rescuemarket$Weather" ({ cls := "Rescuemarket$Weather", name := "put", desc := "(IIII)V" } : Jvm.MethodName) ({ cls := "Rescuemarket$Weather", name := "put", desc := "(IIII)V" } : Jvm.MethodName)).before args s = true := zT_w hT hW (Or.inl (by first | rfl | decide)) 398 (by decide +kernel)
theorem q_399 {S s : State} {args : Array Value} (hT : zT S) (hW : S.WarmedH s.vm) : (Jvm.Cond.code ({ cls := "Rescuemarket$Weather", name := "put", desc := "(IIII)V" } : Jvm.MethodName) prog_6_method_2_code (12 : Nat) (Option.none : Option Jvm.ClassFile.FieldType)).before args s = true := zT_w hT hW (Or.inl (by first | rfl | decide)) 399 (by decide +kernel)
theorem q_400 {S s : State} {args : Array Value} (hT : zT S) (hW : S.WarmedH s.vm) : (Jvm.Cond.constantLong "Rescuemarket$Weather" (15 : Nat) (1229782938247303441 : Int64)).before args s = true := zT_w hT hW (Or.inl (by first | rfl | decide)) 400 (by decide +kernel)
theorem q_401 {S s : State} {args : Array Value} (hT : zT S) (hW : S.WarmedH s.vm) : (Jvm.Cond.methodLink "Rescuemarket$Weather" (17 : Nat) ({ cls := "java/lang/Math", name := "max", desc := "(II)I" } : Jvm.MethodName)).before args s = true := zT_w hT hW (Or.inl (by first | rfl | decide)) 401 (by decide +kernel)
theorem q_402 {S s : State} {args : Array Value} (hT : zT S) (hW : S.WarmedH s.vm) : (Jvm.Cond.methodLink "Rescuemarket$Weather" (23 : Nat) ({ cls := "java/lang/Math", name := "min", desc := "(II)I" } : Jvm.MethodName)).before args s = true := zT_w hT hW (Or.inl (by first | rfl | decide)) 402 (by decide +kernel)
theorem q_403 {S s : State} {args : Array Value} (hT : zT S) (hW : S.WarmedH s.vm) : (Jvm.Cond.methodLink "Rescuemarket$Weather" (26 : Nat) ({ cls := "Rescuemarket$Weather", name := "maskOf", desc := "(II)J" } : Jvm.MethodName)).before args s = true := zT_w hT hW (Or.inl (by first | rfl | decide)) 403 (by decide +kernel)
theorem q_404 {S s : State} {args : Array Value} (hT : zT S) (hW : S.WarmedH s.vm) : (Jvm.Cond.static ({ cls := "Rescuemarket$Weather", name := "maskOf", desc := "(II)J" } : Jvm.MethodName)).before args s = true := zT_w hT hW (Or.inl (by first | rfl | decide)) 404 (by decide +kernel)
theorem q_405 {S s : State} {args : Array Value} (hT : zT S) (hW : S.WarmedH s.vm) : (Jvm.Cond.code ({ cls := "Rescuemarket$Weather", name := "maskOf", desc := "(II)J" } : Jvm.MethodName) prog_6_method_5_code (6 : Nat) (Option.some Jvm.ClassFile.FieldType.long)).before args s = true := zT_w hT hW (Or.inl (by first | rfl | decide)) 405 (by decide +kernel)
theorem q_406 {S s : State} {args : Array Value} (hT : zT S) (hW : S.WarmedH s.vm) : (Jvm.Cond.constantLong "Rescuemarket$Weather" (30 : Nat) (-1 : Int64)).before args s = true := zT_w hT hW (Or.inl (by first | rfl | decide)) 406 (by decide +kernel)
theorem q_407 {S s : State} {args : Array Value} (hT : zT S) (hW : S.WarmedH s.vm) : (Jvm.Cond.methodLink "RescuemarketLaw" (77 : Nat) ({ cls := "RescuemarketLaw", name := "call", desc := "(LRescuemarket;III[J)I" } : Jvm.MethodName)).before args s = true := zT_w hT hW (Or.inl (by first | rfl | decide)) 407 (by decide +kernel)
theorem q_408 {S s : State} {args : Array Value} (hT : zT S) (hW : S.WarmedH s.vm) : (Jvm.Cond.static ({ cls := "RescuemarketLaw", name := "call", desc := "(LRescuemarket;III[J)I" } : Jvm.MethodName)).before args s = true := zT_w hT hW (Or.inl (by first | rfl | decide)) 408 (by decide +kernel)
theorem q_410 {S s : State} {args : Array Value} (hT : zT S) (hW : S.WarmedH s.vm) : (Jvm.Cond.methodLink "RescuemarketLaw" (26 : Nat) ({ cls := "Rescuemarket", name := "call", desc := "(III)I" } : Jvm.MethodName)).before args s = true := zT_w hT hW (Or.inl (by first | rfl | decide)) 410 (by decide +kernel)
theorem q_411 {S s : State} {args : Array Value} (hT : zT S) (hW : S.WarmedH s.vm) : (Jvm.Cond.instanceMethod ({ cls := "Rescuemarket", name := "call", desc := "(III)I" } : Jvm.MethodName)).before args s = true := zT_w hT hW (Or.inl (by first | rfl | decide)) 411 (by decide +kernel)
theorem q_412 {S s : State} {args : Array Value} (hT : zT S) (hW : S.WarmedH s.vm) : (Jvm.Cond.selects "Rescuemarket" ({ cls := "Rescuemarket", name := "call", desc := "(III)I" } : Jvm.MethodName) ({ cls := "Rescuemarket", name := "call", desc := "(III)I" } : Jvm.MethodName)).before args s = true := zT_w hT hW (Or.inl (by first | rfl | decide)) 412 (by decide +kernel)
theorem q_413 {S s : State} {args : Array Value} (hT : zT S) (hW : S.WarmedH s.vm) : (Jvm.Cond.code ({ cls := "Rescuemarket", name := "call", desc := "(III)I" } : Jvm.MethodName) prog_1_method_5_code (5 : Nat) (Option.some Jvm.ClassFile.FieldType.int)).before args s = true := zT_w hT hW (Or.inl (by first | rfl | decide)) 413 (by decide +kernel)
theorem q_414 {S : State} (hT : zT S) : (Jvm.Cond.stringRef "Rescuemarket" (96 : Nat) "there are as many calls as there may be").before #[] S = true := hT _ (List.mem_append_right _ (List.mem_of_getElem? (i := 414) (by decide +kernel)))
theorem q_415 {S s : State} {args : Array Value} (hT : zT S) (hW : S.WarmedH s.vm) : (Jvm.Cond.classLink "Rescuemarket" (98 : Nat) "Rescuemarket$Call").before args s = true := zT_w hT hW (Or.inl (by first | rfl | decide)) 415 (by decide +kernel)
theorem q_416 {S s : State} {args : Array Value} (hT : zT S) (hW : S.WarmedH s.vm) : (Jvm.Cond.instantiable "Rescuemarket$Call" (8 : Nat)).before args s = true := zT_w hT hW (Or.inl (by first | rfl | decide)) 416 (by decide +kernel)
theorem q_417 {S s : State} {args : Array Value} (hT : zT S) (hW : S.WarmedH s.vm) : (Jvm.Cond.methodLink "Rescuemarket" (100 : Nat) ({ cls := "Rescuemarket$Call", name := "<init>", desc := "(IIII)V" } : Jvm.MethodName)).before args s = true := zT_w hT hW (Or.inl (by first | rfl | decide)) 417 (by decide +kernel)
theorem q_418 {S s : State} {args : Array Value} (hT : zT S) (hW : S.WarmedH s.vm) : (Jvm.Cond.instanceMethod ({ cls := "Rescuemarket$Call", name := "<init>", desc := "(IIII)V" } : Jvm.MethodName)).before args s = true := zT_w hT hW (Or.inl (by first | rfl | decide)) 418 (by decide +kernel)
theorem q_419 {S s : State} {args : Array Value} (hT : zT S) (hW : S.WarmedH s.vm) : (Jvm.Cond.code ({ cls := "Rescuemarket$Call", name := "<init>", desc := "(IIII)V" } : Jvm.MethodName) prog_3_method_1_code (5 : Nat) (Option.none : Option Jvm.ClassFile.FieldType)).before args s = true := zT_w hT hW (Or.inl (by first | rfl | decide)) 419 (by decide +kernel)
theorem q_420 {S s : State} {args : Array Value} (hT : zT S) (hW : S.WarmedH s.vm) : (Jvm.Cond.methodLink "Rescuemarket$Call" (3 : Nat) ({ cls := "java/lang/Object", name := "<init>", desc := "()V" } : Jvm.MethodName)).before args s = true := zT_w hT hW (Or.inl (by first | rfl | decide)) 420 (by decide +kernel)
theorem q_421 {S s : State} {args : Array Value} (hT : zT S) (hW : S.WarmedH s.vm) : (Jvm.Cond.fieldLink "Rescuemarket$Call" (9 : Nat) "Rescuemarket$Call" "number" "I").before args s = true := zT_w hT hW (Or.inl (by first | rfl | decide)) 421 (by decide +kernel)
theorem q_422 {S s : State} {args : Array Value} (hT : zT S) (hW : S.WarmedH s.vm) : (Jvm.Cond.fieldLink "Rescuemarket" (127 : Nat) "Rescuemarket$Call" "number" "I").before args s = true := zT_w hT hW (Or.inl (by first | rfl | decide)) 422 (by decide +kernel)
theorem q_423 {S s : State} {args : Array Value} (hT : zT S) (hW : S.WarmedH s.vm) : (Jvm.Cond.fieldLink "Rescuemarket$Call" (15 : Nat) "Rescuemarket$Call" "cell" "I").before args s = true := zT_w hT hW (Or.inl (by first | rfl | decide)) 423 (by decide +kernel)
theorem q_424 {S s : State} {args : Array Value} (hT : zT S) (hW : S.WarmedH s.vm) : (Jvm.Cond.fieldLink "Rescuemarket" (176 : Nat) "Rescuemarket$Call" "cell" "I").before args s = true := zT_w hT hW (Or.inl (by first | rfl | decide)) 424 (by decide +kernel)
theorem q_425 {S s : State} {args : Array Value} (hT : zT S) (hW : S.WarmedH s.vm) : (Jvm.Cond.fieldLink "Rescuemarket$Call" (18 : Nat) "Rescuemarket$Call" "need" "I").before args s = true := zT_w hT hW (Or.inl (by first | rfl | decide)) 425 (by decide +kernel)
theorem q_426 {S s : State} {args : Array Value} (hT : zT S) (hW : S.WarmedH s.vm) : (Jvm.Cond.fieldLink "Rescuemarket" (203 : Nat) "Rescuemarket$Call" "need" "I").before args s = true := zT_w hT hW (Or.inl (by first | rfl | decide)) 426 (by decide +kernel)
theorem q_427 {S s : State} {args : Array Value} (hT : zT S) (hW : S.WarmedH s.vm) : (Jvm.Cond.fieldLink "Rescuemarket$Call" (21 : Nat) "Rescuemarket$Call" "last" "I").before args s = true := zT_w hT hW (Or.inl (by first | rfl | decide)) 427 (by decide +kernel)
theorem q_428 {S s : State} {args : Array Value} (hT : zT S) (hW : S.WarmedH s.vm) : (Jvm.Cond.fieldLink "Rescuemarket" (222 : Nat) "Rescuemarket$Call" "last" "I").before args s = true := zT_w hT hW (Or.inl (by first | rfl | decide)) 428 (by decide +kernel)
theorem q_429 {S s : State} {args : Array Value} (hT : zT S) (hW : S.WarmedH s.vm) : (Jvm.Cond.fieldLink "Rescuemarket$Call" (24 : Nat) "Rescuemarket$Call" "state" "I").before args s = true := zT_w hT hW (Or.inl (by first | rfl | decide)) 429 (by decide +kernel)
theorem q_430 {S s : State} {args : Array Value} (hT : zT S) (hW : S.WarmedH s.vm) : (Jvm.Cond.fieldLink "Rescuemarket" (140 : Nat) "Rescuemarket$Call" "state" "I").before args s = true := zT_w hT hW (Or.inl (by first | rfl | decide)) 430 (by decide +kernel)
theorem q_431 {S s : State} {args : Array Value} (hT : zT S) (hW : S.WarmedH s.vm) : (Jvm.Cond.fieldLink "Rescuemarket$Call" (27 : Nat) "Rescuemarket$Call" "boat" "LRescuemarket$Boat;").before args s = true := zT_w hT hW (Or.inl (by first | rfl | decide)) 431 (by decide +kernel)
theorem q_432 {S s : State} {args : Array Value} (hT : zT S) (hW : S.WarmedH s.vm) : (Jvm.Cond.fieldLink "Rescuemarket" (141 : Nat) "Rescuemarket$Call" "boat" "LRescuemarket$Boat;").before args s = true := zT_w hT hW (Or.inl (by first | rfl | decide)) 432 (by decide +kernel)
theorem q_433 {S s : State} {args : Array Value} (hT : zT S) (hW : S.WarmedH s.vm) : (Jvm.Cond.fieldLink "Rescuemarket$Call" (31 : Nat) "Rescuemarket$Call" "tasks" "I").before args s = true := zT_w hT hW (Or.inl (by first | rfl | decide)) 433 (by decide +kernel)
theorem q_434 {S s : State} {args : Array Value} (hT : zT S) (hW : S.WarmedH s.vm) : (Jvm.Cond.fieldLink "Rescuemarket" (146 : Nat) "Rescuemarket$Call" "tasks" "I").before args s = true := zT_w hT hW (Or.inl (by first | rfl | decide)) 434 (by decide +kernel)
theorem q_435 {S s : State} {args : Array Value} (hT : zT S) (hW : S.WarmedH s.vm) : (Jvm.Cond.fieldLink "Rescuemarket$Call" (34 : Nat) "Rescuemarket$Call" "reward" "I").before args s = true := zT_w hT hW (Or.inl (by first | rfl | decide)) 435 (by decide +kernel)
theorem q_436 {S s : State} {args : Array Value} (hT : zT S) (hW : S.WarmedH s.vm) : (Jvm.Cond.fieldLink "Rescuemarket" (149 : Nat) "Rescuemarket$Call" "reward" "I").before args s = true := zT_w hT hW (Or.inl (by first | rfl | decide)) 436 (by decide +kernel)
theorem q_453 {S s : State} {args : Array Value} (hT : zT S) (hW : S.WarmedH s.vm) : (Jvm.Cond.superclass "Rescuemarket$Call" "java/lang/Object").before args s = true := zT_w hT hW (Or.inl (by first | rfl | decide)) 453 (by decide +kernel)
theorem q_454 {S s : State} {args : Array Value} (hT : zT S) (hW : S.WarmedH s.vm) : (Jvm.Cond.methodLink "RescuemarketLaw" (81 : Nat) ({ cls := "RescuemarketLaw", name := "cap", desc := "(LRescuemarket;I[J)I" } : Jvm.MethodName)).before args s = true := zT_w hT hW (Or.inl (by first | rfl | decide)) 454 (by decide +kernel)
theorem q_455 {S s : State} {args : Array Value} (hT : zT S) (hW : S.WarmedH s.vm) : (Jvm.Cond.static ({ cls := "RescuemarketLaw", name := "cap", desc := "(LRescuemarket;I[J)I" } : Jvm.MethodName)).before args s = true := zT_w hT hW (Or.inl (by first | rfl | decide)) 455 (by decide +kernel)
theorem q_457 {S s : State} {args : Array Value} (hT : zT S) (hW : S.WarmedH s.vm) : (Jvm.Cond.methodLink "RescuemarketLaw" (30 : Nat) ({ cls := "Rescuemarket", name := "cap", desc := "(I)I" } : Jvm.MethodName)).before args s = true := zT_w hT hW (Or.inl (by first | rfl | decide)) 457 (by decide +kernel)
theorem q_458 {S s : State} {args : Array Value} (hT : zT S) (hW : S.WarmedH s.vm) : (Jvm.Cond.instanceMethod ({ cls := "Rescuemarket", name := "cap", desc := "(I)I" } : Jvm.MethodName)).before args s = true := zT_w hT hW (Or.inl (by first | rfl | decide)) 458 (by decide +kernel)
theorem q_459 {S s : State} {args : Array Value} (hT : zT S) (hW : S.WarmedH s.vm) : (Jvm.Cond.selects "Rescuemarket" ({ cls := "Rescuemarket", name := "cap", desc := "(I)I" } : Jvm.MethodName) ({ cls := "Rescuemarket", name := "cap", desc := "(I)I" } : Jvm.MethodName)).before args s = true := zT_w hT hW (Or.inl (by first | rfl | decide)) 459 (by decide +kernel)
theorem q_460 {S s : State} {args : Array Value} (hT : zT S) (hW : S.WarmedH s.vm) : (Jvm.Cond.code ({ cls := "Rescuemarket", name := "cap", desc := "(I)I" } : Jvm.MethodName) prog_1_method_6_code (3 : Nat) (Option.some Jvm.ClassFile.FieldType.int)).before args s = true := zT_w hT hW (Or.inl (by first | rfl | decide)) 460 (by decide +kernel)
theorem q_461 {S s : State} {args : Array Value} (hT : zT S) (hW : S.WarmedH s.vm) : (Jvm.Cond.methodLink "RescuemarketLaw" (85 : Nat) ({ cls := "RescuemarketLaw", name := "pass", desc := "(LRescuemarket;I[J)I" } : Jvm.MethodName)).before args s = true := zT_w hT hW (Or.inl (by first | rfl | decide)) 461 (by decide +kernel)
theorem q_462 {S s : State} {args : Array Value} (hT : zT S) (hW : S.WarmedH s.vm) : (Jvm.Cond.static ({ cls := "RescuemarketLaw", name := "pass", desc := "(LRescuemarket;I[J)I" } : Jvm.MethodName)).before args s = true := zT_w hT hW (Or.inl (by first | rfl | decide)) 462 (by decide +kernel)
theorem q_464 {S s : State} {args : Array Value} (hT : zT S) (hW : S.WarmedH s.vm) : (Jvm.Cond.methodLink "RescuemarketLaw" (34 : Nat) ({ cls := "Rescuemarket", name := "pass", desc := "(I)I" } : Jvm.MethodName)).before args s = true := zT_w hT hW (Or.inl (by first | rfl | decide)) 464 (by decide +kernel)
theorem q_465 {S s : State} {args : Array Value} (hT : zT S) (hW : S.WarmedH s.vm) : (Jvm.Cond.instanceMethod ({ cls := "Rescuemarket", name := "pass", desc := "(I)I" } : Jvm.MethodName)).before args s = true := zT_w hT hW (Or.inl (by first | rfl | decide)) 465 (by decide +kernel)
theorem q_466 {S s : State} {args : Array Value} (hT : zT S) (hW : S.WarmedH s.vm) : (Jvm.Cond.selects "Rescuemarket" ({ cls := "Rescuemarket", name := "pass", desc := "(I)I" } : Jvm.MethodName) ({ cls := "Rescuemarket", name := "pass", desc := "(I)I" } : Jvm.MethodName)).before args s = true := zT_w hT hW (Or.inl (by first | rfl | decide)) 466 (by decide +kernel)
theorem q_467 {S s : State} {args : Array Value} (hT : zT S) (hW : S.WarmedH s.vm) : (Jvm.Cond.code ({ cls := "Rescuemarket", name := "pass", desc := "(I)I" } : Jvm.MethodName) prog_1_method_7_code (3 : Nat) (Option.some Jvm.ClassFile.FieldType.int)).before args s = true := zT_w hT hW (Or.inl (by first | rfl | decide)) 467 (by decide +kernel)
theorem q_468 {S : State} (hT : zT S) : (Jvm.Cond.stringRef "Rescuemarket" (102 : Nat) "there are no hours behind the last one").before #[] S = true := hT _ (List.mem_append_right _ (List.mem_of_getElem? (i := 468) (by decide +kernel)))
theorem q_469 {S s : State} {args : Array Value} (hT : zT S) (hW : S.WarmedH s.vm) : (Jvm.Cond.methodLink "Rescuemarket" (104 : Nat) ({ cls := "Rescuemarket", name := "turnBoatsBack", desc := "()V" } : Jvm.MethodName)).before args s = true := zT_w hT hW (Or.inl (by first | rfl | decide)) 469 (by decide +kernel)
theorem q_471 {S s : State} {args : Array Value} (hT : zT S) (hW : S.WarmedH s.vm) : (Jvm.Cond.instanceMethod ({ cls := "Rescuemarket", name := "turnBoatsBack", desc := "()V" } : Jvm.MethodName)).before args s = true := zT_w hT hW (Or.inl (by first | rfl | decide)) 471 (by decide +kernel)
theorem q_472 {S s : State} {args : Array Value} (hT : zT S) (hW : S.WarmedH s.vm) : (Jvm.Cond.code ({ cls := "Rescuemarket", name := "turnBoatsBack", desc := "()V" } : Jvm.MethodName) prog_1_method_14_code (4 : Nat) (Option.none : Option Jvm.ClassFile.FieldType)).before args s = true := zT_w hT hW (Or.inl (by first | rfl | decide)) 472 (by decide +kernel)
theorem q_473 {S s : State} {args : Array Value} (hT : zT S) (hW : S.WarmedH s.vm) : (Jvm.Cond.methodLink "Rescuemarket" (116 : Nat) ({ cls := "Rescuemarket$Weather", name := "at", desc := "(II)I" } : Jvm.MethodName)).before args s = true := zT_w hT hW (Or.inl (by first | rfl | decide)) 473 (by decide +kernel)
theorem q_474 {S s : State} {args : Array Value} (hT : zT S) (hW : S.WarmedH s.vm) : (Jvm.Cond.instanceMethod ({ cls := "Rescuemarket$Weather", name := "at", desc := "(II)I" } : Jvm.MethodName)).before args s = true := zT_w hT hW (Or.inl (by first | rfl | decide)) 474 (by decide +kernel)
theorem q_475 {S s : State} {args : Array Value} (hT : zT S) (hW : S.WarmedH s.vm) : (Jvm.Cond.selects "Rescuemarket$Weather" ({ cls := "Rescuemarket$Weather", name := "at", desc := "(II)I" } : Jvm.MethodName) ({ cls := "Rescuemarket$Weather", name := "at", desc := "(II)I" } : Jvm.MethodName)).before args s = true := zT_w hT hW (Or.inl (by first | rfl | decide)) 475 (by decide +kernel)
theorem q_476 {S s : State} {args : Array Value} (hT : zT S) (hW : S.WarmedH s.vm) : (Jvm.Cond.code ({ cls := "Rescuemarket$Weather", name := "at", desc := "(II)I" } : Jvm.MethodName) prog_6_method_3_code (4 : Nat) (Option.some Jvm.ClassFile.FieldType.int)).before args s = true := zT_w hT hW (Or.inl (by first | rfl | decide)) 476 (by decide +kernel)
theorem q_477 {S s : State} {args : Array Value} (hT : zT S) (hW : S.WarmedH s.vm) : (Jvm.Cond.methodLink "Rescuemarket" (182 : Nat) ({ cls := "Rescuemarket$Boat", name := "turnBack", desc := "(I)V" } : Jvm.MethodName)).before args s = true := zT_w hT hW (Or.inl (by first | rfl | decide)) 477 (by decide +kernel)
theorem q_478 {S s : State} {args : Array Value} (hT : zT S) (hW : S.WarmedH s.vm) : (Jvm.Cond.instanceMethod ({ cls := "Rescuemarket$Boat", name := "turnBack", desc := "(I)V" } : Jvm.MethodName)).before args s = true := zT_w hT hW (Or.inl (by first | rfl | decide)) 478 (by decide +kernel)
theorem q_479 {S s : State} {args : Array Value} (hT : zT S) (hW : S.WarmedH s.vm) : (Jvm.Cond.selects "Rescuemarket$Boat" ({ cls := "Rescuemarket$Boat", name := "turnBack", desc := "(I)V" } : Jvm.MethodName) ({ cls := "Rescuemarket$Boat", name := "turnBack", desc := "(I)V" } : Jvm.MethodName)).before args s = true := zT_w hT hW (Or.inl (by first | rfl | decide)) 479 (by decide +kernel)
theorem q_480 {S s : State} {args : Array Value} (hT : zT S) (hW : S.WarmedH s.vm) : (Jvm.Cond.code ({ cls := "Rescuemarket$Boat", name := "turnBack", desc := "(I)V" } : Jvm.MethodName) prog_2_method_5_code (2 : Nat) (Option.none : Option Jvm.ClassFile.FieldType)).before args s = true := zT_w hT hW (Or.inl (by first | rfl | decide)) 480 (by decide +kernel)
theorem q_481 {S s : State} {args : Array Value} (hT : zT S) (hW : S.WarmedH s.vm) : (Jvm.Cond.methodLink "Rescuemarket$Boat" (64 : Nat) ({ cls := "Rescuemarket$Boat", name := "burn", desc := "(I)V" } : Jvm.MethodName)).before args s = true := zT_w hT hW (Or.inl (by first | rfl | decide)) 481 (by decide +kernel)
theorem q_483 {S s : State} {args : Array Value} (hT : zT S) (hW : S.WarmedH s.vm) : (Jvm.Cond.instanceMethod ({ cls := "Rescuemarket$Boat", name := "burn", desc := "(I)V" } : Jvm.MethodName)).before args s = true := zT_w hT hW (Or.inl (by first | rfl | decide)) 483 (by decide +kernel)
theorem q_484 {S s : State} {args : Array Value} (hT : zT S) (hW : S.WarmedH s.vm) : (Jvm.Cond.code ({ cls := "Rescuemarket$Boat", name := "burn", desc := "(I)V" } : Jvm.MethodName) prog_2_method_9_code (2 : Nat) (Option.none : Option Jvm.ClassFile.FieldType)).before args s = true := zT_w hT hW (Or.inl (by first | rfl | decide)) 484 (by decide +kernel)
theorem q_485 {S s : State} {args : Array Value} (hT : zT S) (hW : S.WarmedH s.vm) : (Jvm.Cond.methodLink "Rescuemarket$Boat" (71 : Nat) ({ cls := "java/lang/Math", name := "min", desc := "(II)I" } : Jvm.MethodName)).before args s = true := zT_w hT hW (Or.inl (by first | rfl | decide)) 485 (by decide +kernel)
theorem q_486 {S s : State} {args : Array Value} (hT : zT S) (hW : S.WarmedH s.vm) : (Jvm.Cond.methodLink "Rescuemarket$Boat" (68 : Nat) ({ cls := "Rescuemarket$Boat", name := "headHome", desc := "(I)V" } : Jvm.MethodName)).before args s = true := zT_w hT hW (Or.inl (by first | rfl | decide)) 486 (by decide +kernel)
theorem q_488 {S s : State} {args : Array Value} (hT : zT S) (hW : S.WarmedH s.vm) : (Jvm.Cond.instanceMethod ({ cls := "Rescuemarket$Boat", name := "headHome", desc := "(I)V" } : Jvm.MethodName)).before args s = true := zT_w hT hW (Or.inl (by first | rfl | decide)) 488 (by decide +kernel)
theorem q_489 {S s : State} {args : Array Value} (hT : zT S) (hW : S.WarmedH s.vm) : (Jvm.Cond.code ({ cls := "Rescuemarket$Boat", name := "headHome", desc := "(I)V" } : Jvm.MethodName) prog_2_method_10_code (2 : Nat) (Option.none : Option Jvm.ClassFile.FieldType)).before args s = true := zT_w hT hW (Or.inl (by first | rfl | decide)) 489 (by decide +kernel)
theorem q_490 {S s : State} {args : Array Value} (hT : zT S) (hW : S.WarmedH s.vm) : (Jvm.Cond.methodLink "Rescuemarket" (107 : Nat) ({ cls := "Rescuemarket", name := "letBoatsArrive", desc := "()V" } : Jvm.MethodName)).before args s = true := zT_w hT hW (Or.inl (by first | rfl | decide)) 490 (by decide +kernel)
theorem q_492 {S s : State} {args : Array Value} (hT : zT S) (hW : S.WarmedH s.vm) : (Jvm.Cond.instanceMethod ({ cls := "Rescuemarket", name := "letBoatsArrive", desc := "()V" } : Jvm.MethodName)).before args s = true := zT_w hT hW (Or.inl (by first | rfl | decide)) 492 (by decide +kernel)
theorem q_493 {S s : State} {args : Array Value} (hT : zT S) (hW : S.WarmedH s.vm) : (Jvm.Cond.code ({ cls := "Rescuemarket", name := "letBoatsArrive", desc := "()V" } : Jvm.MethodName) prog_1_method_15_code (3 : Nat) (Option.none : Option Jvm.ClassFile.FieldType)).before args s = true := zT_w hT hW (Or.inl (by first | rfl | decide)) 493 (by decide +kernel)
theorem q_494 {S s : State} {args : Array Value} (hT : zT S) (hW : S.WarmedH s.vm) : (Jvm.Cond.methodLink "Rescuemarket" (185 : Nat) ({ cls := "Rescuemarket$Boat", name := "rest", desc := "(I)V" } : Jvm.MethodName)).before args s = true := zT_w hT hW (Or.inl (by first | rfl | decide)) 494 (by decide +kernel)
theorem q_495 {S s : State} {args : Array Value} (hT : zT S) (hW : S.WarmedH s.vm) : (Jvm.Cond.instanceMethod ({ cls := "Rescuemarket$Boat", name := "rest", desc := "(I)V" } : Jvm.MethodName)).before args s = true := zT_w hT hW (Or.inl (by first | rfl | decide)) 495 (by decide +kernel)
theorem q_496 {S s : State} {args : Array Value} (hT : zT S) (hW : S.WarmedH s.vm) : (Jvm.Cond.selects "Rescuemarket$Boat" ({ cls := "Rescuemarket$Boat", name := "rest", desc := "(I)V" } : Jvm.MethodName) ({ cls := "Rescuemarket$Boat", name := "rest", desc := "(I)V" } : Jvm.MethodName)).before args s = true := zT_w hT hW (Or.inl (by first | rfl | decide)) 496 (by decide +kernel)
theorem q_497 {S s : State} {args : Array Value} (hT : zT S) (hW : S.WarmedH s.vm) : (Jvm.Cond.code ({ cls := "Rescuemarket$Boat", name := "rest", desc := "(I)V" } : Jvm.MethodName) prog_2_method_7_code (2 : Nat) (Option.none : Option Jvm.ClassFile.FieldType)).before args s = true := zT_w hT hW (Or.inl (by first | rfl | decide)) 497 (by decide +kernel)
theorem q_498 {S s : State} {args : Array Value} (hT : zT S) (hW : S.WarmedH s.vm) : (Jvm.Cond.methodLink "Rescuemarket" (188 : Nat) ({ cls := "Rescuemarket", name := "finish", desc := "(LRescuemarket$Boat;LRescuemarket$Call;)V" } : Jvm.MethodName)).before args s = true := zT_w hT hW (Or.inl (by first | rfl | decide)) 498 (by decide +kernel)
theorem q_500 {S s : State} {args : Array Value} (hT : zT S) (hW : S.WarmedH s.vm) : (Jvm.Cond.instanceMethod ({ cls := "Rescuemarket", name := "finish", desc := "(LRescuemarket$Boat;LRescuemarket$Call;)V" } : Jvm.MethodName)).before args s = true := zT_w hT hW (Or.inl (by first | rfl | decide)) 500 (by decide +kernel)
theorem q_501 {S s : State} {args : Array Value} (hT : zT S) (hW : S.WarmedH s.vm) : (Jvm.Cond.code ({ cls := "Rescuemarket", name := "finish", desc := "(LRescuemarket$Boat;LRescuemarket$Call;)V" } : Jvm.MethodName) prog_1_method_16_code (5 : Nat) (Option.none : Option Jvm.ClassFile.FieldType)).before args s = true := zT_w hT hW (Or.inl (by first | rfl | decide)) 501 (by decide +kernel)
theorem q_502 {S s : State} {args : Array Value} (hT : zT S) (hW : S.WarmedH s.vm) : (Jvm.Cond.methodLink "Rescuemarket" (192 : Nat) ({ cls := "Rescuemarket$Boat", name := "wayTo", desc := "(I)I" } : Jvm.MethodName)).before args s = true := zT_w hT hW (Or.inl (by first | rfl | decide)) 502 (by decide +kernel)
theorem q_503 {S s : State} {args : Array Value} (hT : zT S) (hW : S.WarmedH s.vm) : (Jvm.Cond.instanceMethod ({ cls := "Rescuemarket$Boat", name := "wayTo", desc := "(I)I" } : Jvm.MethodName)).before args s = true := zT_w hT hW (Or.inl (by first | rfl | decide)) 503 (by decide +kernel)
theorem q_504 {S s : State} {args : Array Value} (hT : zT S) (hW : S.WarmedH s.vm) : (Jvm.Cond.selects "Rescuemarket$Boat" ({ cls := "Rescuemarket$Boat", name := "wayTo", desc := "(I)I" } : Jvm.MethodName) ({ cls := "Rescuemarket$Boat", name := "wayTo", desc := "(I)I" } : Jvm.MethodName)).before args s = true := zT_w hT hW (Or.inl (by first | rfl | decide)) 504 (by decide +kernel)
theorem q_505 {S s : State} {args : Array Value} (hT : zT S) (hW : S.WarmedH s.vm) : (Jvm.Cond.code ({ cls := "Rescuemarket$Boat", name := "wayTo", desc := "(I)I" } : Jvm.MethodName) prog_2_method_2_code (2 : Nat) (Option.some Jvm.ClassFile.FieldType.int)).before args s = true := zT_w hT hW (Or.inl (by first | rfl | decide)) 505 (by decide +kernel)
theorem q_506 {S s : State} (hT : zT S) (hW : S.WarmedH s.vm) : va_Nw (Jvm.Cond.methodLinkNest "Rescuemarket$Boat" (52 : Nat) ({ cls := "Rescuemarket", name := "columnOf", desc := "(I)I" } : Jvm.MethodName) "Rescuemarket") s := va_Nw.warmM hW (va_Nw.of rfl (hT _ (List.mem_append_right _ (List.mem_of_getElem? (i := 506) (by decide +kernel)))))
theorem q_507 {S s : State} {args : Array Value} (hT : zT S) (hW : S.WarmedH s.vm) : (Jvm.Cond.methodLink "Rescuemarket$Boat" (56 : Nat) ({ cls := "java/lang/Math", name := "abs", desc := "(I)I" } : Jvm.MethodName)).before args s = true := zT_w hT hW (Or.inl (by first | rfl | decide)) 507 (by decide +kernel)
theorem q_508 {S s : State} {args : Array Value} (hT : zT S) (hW : S.WarmedH s.vm) : (Jvm.Cond.static ({ cls := "java/lang/Math", name := "abs", desc := "(I)I" } : Jvm.MethodName)).before args s = true := zT_w hT hW (Or.inl (by first | rfl | decide)) 508 (by decide +kernel)
theorem q_509 {S s : State} {args : Array Value} (hT : zT S) (hW : S.WarmedH s.vm) : (Jvm.Cond.code ({ cls := "java/lang/Math", name := "abs", desc := "(I)I" } : Jvm.MethodName) prog_16_method_59_code (1 : Nat) (Option.some Jvm.ClassFile.FieldType.int)).before args s = true := zT_w hT hW (Or.inl (by first | rfl | decide)) 509 (by decide +kernel)
theorem q_510 {S s : State} (hT : zT S) (hW : S.WarmedH s.vm) : va_Nw (Jvm.Cond.methodLinkNest "Rescuemarket$Boat" (61 : Nat) ({ cls := "Rescuemarket", name := "rowOf", desc := "(I)I" } : Jvm.MethodName) "Rescuemarket") s := va_Nw.warmM hW (va_Nw.of rfl (hT _ (List.mem_append_right _ (List.mem_of_getElem? (i := 510) (by decide +kernel)))))
theorem q_511 {S s : State} {args : Array Value} (hT : zT S) (hW : S.WarmedH s.vm) : (Jvm.Cond.classLink "Rescuemarket" (195 : Nat) "Rescuemarket$Deed").before args s = true := zT_w hT hW (Or.inl (by first | rfl | decide)) 511 (by decide +kernel)
theorem q_512 {S s : State} {args : Array Value} (hT : zT S) (hW : S.WarmedH s.vm) : (Jvm.Cond.instantiable "Rescuemarket$Deed" (5 : Nat)).before args s = true := zT_w hT hW (Or.inl (by first | rfl | decide)) 512 (by decide +kernel)
theorem q_513 {S s : State} {args : Array Value} (hT : zT S) (hW : S.WarmedH s.vm) : (Jvm.Cond.methodLink "Rescuemarket" (206 : Nat) ({ cls := "Rescuemarket$Deed", name := "<init>", desc := "(IIIII)V" } : Jvm.MethodName)).before args s = true := zT_w hT hW (Or.inl (by first | rfl | decide)) 513 (by decide +kernel)
theorem q_514 {S s : State} {args : Array Value} (hT : zT S) (hW : S.WarmedH s.vm) : (Jvm.Cond.instanceMethod ({ cls := "Rescuemarket$Deed", name := "<init>", desc := "(IIIII)V" } : Jvm.MethodName)).before args s = true := zT_w hT hW (Or.inl (by first | rfl | decide)) 514 (by decide +kernel)
theorem q_515 {S s : State} {args : Array Value} (hT : zT S) (hW : S.WarmedH s.vm) : (Jvm.Cond.code ({ cls := "Rescuemarket$Deed", name := "<init>", desc := "(IIIII)V" } : Jvm.MethodName) prog_4_method_1_code (6 : Nat) (Option.none : Option Jvm.ClassFile.FieldType)).before args s = true := zT_w hT hW (Or.inl (by first | rfl | decide)) 515 (by decide +kernel)
theorem q_516 {S s : State} {args : Array Value} (hT : zT S) (hW : S.WarmedH s.vm) : (Jvm.Cond.methodLink "Rescuemarket$Deed" (1 : Nat) ({ cls := "java/lang/Object", name := "<init>", desc := "()V" } : Jvm.MethodName)).before args s = true := zT_w hT hW (Or.inl (by first | rfl | decide)) 516 (by decide +kernel)
theorem q_517 {S s : State} {args : Array Value} (hT : zT S) (hW : S.WarmedH s.vm) : (Jvm.Cond.fieldLink "Rescuemarket$Deed" (7 : Nat) "Rescuemarket$Deed" "owner" "I").before args s = true := zT_w hT hW (Or.inl (by first | rfl | decide)) 517 (by decide +kernel)
theorem q_518 {S s : State} {args : Array Value} (hT : zT S) (hW : S.WarmedH s.vm) : (Jvm.Cond.fieldLink "Rescuemarket$Deed" (13 : Nat) "Rescuemarket$Deed" "user" "I").before args s = true := zT_w hT hW (Or.inl (by first | rfl | decide)) 518 (by decide +kernel)
theorem q_519 {S s : State} {args : Array Value} (hT : zT S) (hW : S.WarmedH s.vm) : (Jvm.Cond.fieldLink "Rescuemarket$Deed" (16 : Nat) "Rescuemarket$Deed" "way" "I").before args s = true := zT_w hT hW (Or.inl (by first | rfl | decide)) 519 (by decide +kernel)
theorem q_520 {S s : State} {args : Array Value} (hT : zT S) (hW : S.WarmedH s.vm) : (Jvm.Cond.fieldLink "Rescuemarket$Deed" (19 : Nat) "Rescuemarket$Deed" "need" "I").before args s = true := zT_w hT hW (Or.inl (by first | rfl | decide)) 520 (by decide +kernel)
theorem q_521 {S s : State} {args : Array Value} (hT : zT S) (hW : S.WarmedH s.vm) : (Jvm.Cond.fieldLink "Rescuemarket$Deed" (22 : Nat) "Rescuemarket$Deed" "cap" "I").before args s = true := zT_w hT hW (Or.inl (by first | rfl | decide)) 521 (by decide +kernel)
theorem q_532 {S s : State} {args : Array Value} (hT : zT S) (hW : S.WarmedH s.vm) : (Jvm.Cond.superclass "Rescuemarket$Deed" "java/lang/Object").before args s = true := zT_w hT hW (Or.inl (by first | rfl | decide)) 532 (by decide +kernel)
theorem q_533 {S s : State} {args : Array Value} (hT : zT S) (hW : S.WarmedH s.vm) : (Jvm.Cond.methodLink "Rescuemarket" (209 : Nat) ({ cls := "Rescuemarket$Ledger", name := "pay", desc := "(LRescuemarket$Deed;)V" } : Jvm.MethodName)).before args s = true := zT_w hT hW (Or.inl (by first | rfl | decide)) 533 (by decide +kernel)
theorem q_534 {S s : State} {args : Array Value} (hT : zT S) (hW : S.WarmedH s.vm) : (Jvm.Cond.instanceMethod ({ cls := "Rescuemarket$Ledger", name := "pay", desc := "(LRescuemarket$Deed;)V" } : Jvm.MethodName)).before args s = true := zT_w hT hW (Or.inl (by first | rfl | decide)) 534 (by decide +kernel)
theorem q_535 {S s : State} {args : Array Value} (hT : zT S) (hW : S.WarmedH s.vm) : (Jvm.Cond.selects "Rescuemarket$Ledger" ({ cls := "Rescuemarket$Ledger", name := "pay", desc := "(LRescuemarket$Deed;)V" } : Jvm.MethodName) ({ cls := "Rescuemarket$Ledger", name := "pay", desc := "(LRescuemarket$Deed;)V" } : Jvm.MethodName)).before args s = true := zT_w hT hW (Or.inl (by first | rfl | decide)) 535 (by decide +kernel)
theorem q_536 {S s : State} {args : Array Value} (hT : zT S) (hW : S.WarmedH s.vm) : (Jvm.Cond.code ({ cls := "Rescuemarket$Ledger", name := "pay", desc := "(LRescuemarket$Deed;)V" } : Jvm.MethodName) prog_5_method_2_code (3 : Nat) (Option.none : Option Jvm.ClassFile.FieldType)).before args s = true := zT_w hT hW (Or.inl (by first | rfl | decide)) 536 (by decide +kernel)
theorem q_538 {S s : State} {args : Array Value} (hT : zT S) (hW : S.WarmedH s.vm) : (Jvm.Cond.methodLink "Rescuemarket$Ledger" (22 : Nat) ({ cls := "java/util/List", name := "add", desc := "(Ljava/lang/Object;)Z" } : Jvm.MethodName)).before args s = true := zT_w hT hW (Or.inl (by first | rfl | decide)) 538 (by decide +kernel)
theorem q_539 {S s : State} {args : Array Value} (hT : zT S) (hW : S.WarmedH s.vm) : (Jvm.Cond.methodLink "Rescuemarket$Ledger" (28 : Nat) ({ cls := "Rescuemarket$Deed", name := "shareOf", desc := "(I)I" } : Jvm.MethodName)).before args s = true := zT_w hT hW (Or.inl (by first | rfl | decide)) 539 (by decide +kernel)
theorem q_540 {S s : State} {args : Array Value} (hT : zT S) (hW : S.WarmedH s.vm) : (Jvm.Cond.instanceMethod ({ cls := "Rescuemarket$Deed", name := "shareOf", desc := "(I)I" } : Jvm.MethodName)).before args s = true := zT_w hT hW (Or.inl (by first | rfl | decide)) 540 (by decide +kernel)
theorem q_541 {S s : State} {args : Array Value} (hT : zT S) (hW : S.WarmedH s.vm) : (Jvm.Cond.selects "Rescuemarket$Deed" ({ cls := "Rescuemarket$Deed", name := "shareOf", desc := "(I)I" } : Jvm.MethodName) ({ cls := "Rescuemarket$Deed", name := "shareOf", desc := "(I)I" } : Jvm.MethodName)).before args s = true := zT_w hT hW (Or.inl (by first | rfl | decide)) 541 (by decide +kernel)
theorem q_542 {S s : State} {args : Array Value} (hT : zT S) (hW : S.WarmedH s.vm) : (Jvm.Cond.code ({ cls := "Rescuemarket$Deed", name := "shareOf", desc := "(I)I" } : Jvm.MethodName) prog_4_method_3_code (5 : Nat) (Option.some Jvm.ClassFile.FieldType.int)).before args s = true := zT_w hT hW (Or.inl (by first | rfl | decide)) 542 (by decide +kernel)
theorem q_543 {S s : State} {args : Array Value} (hT : zT S) (hW : S.WarmedH s.vm) : (Jvm.Cond.methodLink "Rescuemarket$Deed" (31 : Nat) ({ cls := "Rescuemarket$Deed", name := "reward", desc := "()I" } : Jvm.MethodName)).before args s = true := zT_w hT hW (Or.inl (by first | rfl | decide)) 543 (by decide +kernel)
theorem q_544 {S s : State} {args : Array Value} (hT : zT S) (hW : S.WarmedH s.vm) : (Jvm.Cond.instanceMethod ({ cls := "Rescuemarket$Deed", name := "reward", desc := "()I" } : Jvm.MethodName)).before args s = true := zT_w hT hW (Or.inl (by first | rfl | decide)) 544 (by decide +kernel)
theorem q_545 {S s : State} {args : Array Value} (hT : zT S) (hW : S.WarmedH s.vm) : (Jvm.Cond.selects "Rescuemarket$Deed" ({ cls := "Rescuemarket$Deed", name := "reward", desc := "()I" } : Jvm.MethodName) ({ cls := "Rescuemarket$Deed", name := "reward", desc := "()I" } : Jvm.MethodName)).before args s = true := zT_w hT hW (Or.inl (by first | rfl | decide)) 545 (by decide +kernel)
theorem q_546 {S s : State} {args : Array Value} (hT : zT S) (hW : S.WarmedH s.vm) : (Jvm.Cond.code ({ cls := "Rescuemarket$Deed", name := "reward", desc := "()I" } : Jvm.MethodName) prog_4_method_2_code (1 : Nat) (Option.some Jvm.ClassFile.FieldType.int)).before args s = true := zT_w hT hW (Or.inl (by first | rfl | decide)) 546 (by decide +kernel)
theorem q_547 {S s : State} {args : Array Value} (hT : zT S) (hW : S.WarmedH s.vm) : (Jvm.Cond.methodLink "Rescuemarket$Deed" (25 : Nat) ({ cls := "java/lang/Math", name := "min", desc := "(II)I" } : Jvm.MethodName)).before args s = true := zT_w hT hW (Or.inl (by first | rfl | decide)) 547 (by decide +kernel)
theorem q_548 {S s : State} {args : Array Value} (hT : zT S) (hW : S.WarmedH s.vm) : (Jvm.Cond.methodLink "Rescuemarket" (213 : Nat) ({ cls := "Rescuemarket$Deed", name := "reward", desc := "()I" } : Jvm.MethodName)).before args s = true := zT_w hT hW (Or.inl (by first | rfl | decide)) 548 (by decide +kernel)
theorem q_549 {S s : State} {args : Array Value} (hT : zT S) (hW : S.WarmedH s.vm) : (Jvm.Cond.methodLink "Rescuemarket" (215 : Nat) ({ cls := "Rescuemarket$Boat", name := "goHome", desc := "(II)V" } : Jvm.MethodName)).before args s = true := zT_w hT hW (Or.inl (by first | rfl | decide)) 549 (by decide +kernel)
theorem q_550 {S s : State} {args : Array Value} (hT : zT S) (hW : S.WarmedH s.vm) : (Jvm.Cond.instanceMethod ({ cls := "Rescuemarket$Boat", name := "goHome", desc := "(II)V" } : Jvm.MethodName)).before args s = true := zT_w hT hW (Or.inl (by first | rfl | decide)) 550 (by decide +kernel)
theorem q_551 {S s : State} {args : Array Value} (hT : zT S) (hW : S.WarmedH s.vm) : (Jvm.Cond.selects "Rescuemarket$Boat" ({ cls := "Rescuemarket$Boat", name := "goHome", desc := "(II)V" } : Jvm.MethodName) ({ cls := "Rescuemarket$Boat", name := "goHome", desc := "(II)V" } : Jvm.MethodName)).before args s = true := zT_w hT hW (Or.inl (by first | rfl | decide)) 551 (by decide +kernel)
theorem q_552 {S s : State} {args : Array Value} (hT : zT S) (hW : S.WarmedH s.vm) : (Jvm.Cond.code ({ cls := "Rescuemarket$Boat", name := "goHome", desc := "(II)V" } : Jvm.MethodName) prog_2_method_6_code (3 : Nat) (Option.none : Option Jvm.ClassFile.FieldType)).before args s = true := zT_w hT hW (Or.inl (by first | rfl | decide)) 552 (by decide +kernel)
theorem q_553 {S s : State} {args : Array Value} (hT : zT S) (hW : S.WarmedH s.vm) : (Jvm.Cond.methodLink "Rescuemarket" (110 : Nat) ({ cls := "Rescuemarket", name := "freeBoatsThatRested", desc := "()V" } : Jvm.MethodName)).before args s = true := zT_w hT hW (Or.inl (by first | rfl | decide)) 553 (by decide +kernel)
theorem q_555 {S s : State} {args : Array Value} (hT : zT S) (hW : S.WarmedH s.vm) : (Jvm.Cond.instanceMethod ({ cls := "Rescuemarket", name := "freeBoatsThatRested", desc := "()V" } : Jvm.MethodName)).before args s = true := zT_w hT hW (Or.inl (by first | rfl | decide)) 555 (by decide +kernel)
theorem q_556 {S s : State} {args : Array Value} (hT : zT S) (hW : S.WarmedH s.vm) : (Jvm.Cond.code ({ cls := "Rescuemarket", name := "freeBoatsThatRested", desc := "()V" } : Jvm.MethodName) prog_1_method_17_code (3 : Nat) (Option.none : Option Jvm.ClassFile.FieldType)).before args s = true := zT_w hT hW (Or.inl (by first | rfl | decide)) 556 (by decide +kernel)
theorem q_557 {S s : State} {args : Array Value} (hT : zT S) (hW : S.WarmedH s.vm) : (Jvm.Cond.methodLink "Rescuemarket" (219 : Nat) ({ cls := "Rescuemarket$Boat", name := "becomeFree", desc := "()V" } : Jvm.MethodName)).before args s = true := zT_w hT hW (Or.inl (by first | rfl | decide)) 557 (by decide +kernel)
theorem q_558 {S s : State} {args : Array Value} (hT : zT S) (hW : S.WarmedH s.vm) : (Jvm.Cond.instanceMethod ({ cls := "Rescuemarket$Boat", name := "becomeFree", desc := "()V" } : Jvm.MethodName)).before args s = true := zT_w hT hW (Or.inl (by first | rfl | decide)) 558 (by decide +kernel)
theorem q_559 {S s : State} {args : Array Value} (hT : zT S) (hW : S.WarmedH s.vm) : (Jvm.Cond.selects "Rescuemarket$Boat" ({ cls := "Rescuemarket$Boat", name := "becomeFree", desc := "()V" } : Jvm.MethodName) ({ cls := "Rescuemarket$Boat", name := "becomeFree", desc := "()V" } : Jvm.MethodName)).before args s = true := zT_w hT hW (Or.inl (by first | rfl | decide)) 559 (by decide +kernel)
theorem q_560 {S s : State} {args : Array Value} (hT : zT S) (hW : S.WarmedH s.vm) : (Jvm.Cond.code ({ cls := "Rescuemarket$Boat", name := "becomeFree", desc := "()V" } : Jvm.MethodName) prog_2_method_8_code (1 : Nat) (Option.none : Option Jvm.ClassFile.FieldType)).before args s = true := zT_w hT hW (Or.inl (by first | rfl | decide)) 560 (by decide +kernel)
theorem q_561 {S s : State} {args : Array Value} (hT : zT S) (hW : S.WarmedH s.vm) : (Jvm.Cond.methodLink "Rescuemarket" (113 : Nat) ({ cls := "Rescuemarket", name := "answerCalls", desc := "()V" } : Jvm.MethodName)).before args s = true := zT_w hT hW (Or.inl (by first | rfl | decide)) 561 (by decide +kernel)
theorem q_563 {S s : State} {args : Array Value} (hT : zT S) (hW : S.WarmedH s.vm) : (Jvm.Cond.instanceMethod ({ cls := "Rescuemarket", name := "answerCalls", desc := "()V" } : Jvm.MethodName)).before args s = true := zT_w hT hW (Or.inl (by first | rfl | decide)) 563 (by decide +kernel)
theorem q_564 {S s : State} {args : Array Value} (hT : zT S) (hW : S.WarmedH s.vm) : (Jvm.Cond.code ({ cls := "Rescuemarket", name := "answerCalls", desc := "()V" } : Jvm.MethodName) prog_1_method_18_code (3 : Nat) (Option.none : Option Jvm.ClassFile.FieldType)).before args s = true := zT_w hT hW (Or.inl (by first | rfl | decide)) 564 (by decide +kernel)
theorem q_565 {S s : State} {args : Array Value} (hT : zT S) (hW : S.WarmedH s.vm) : (Jvm.Cond.methodLink "Rescuemarket" (225 : Nat) ({ cls := "Rescuemarket", name := "boatFirstThere", desc := "(LRescuemarket$Call;)LRescuemarket$Boat;" } : Jvm.MethodName)).before args s = true := zT_w hT hW (Or.inl (by first | rfl | decide)) 565 (by decide +kernel)
theorem q_567 {S s : State} {args : Array Value} (hT : zT S) (hW : S.WarmedH s.vm) : (Jvm.Cond.instanceMethod ({ cls := "Rescuemarket", name := "boatFirstThere", desc := "(LRescuemarket$Call;)LRescuemarket$Boat;" } : Jvm.MethodName)).before args s = true := zT_w hT hW (Or.inl (by first | rfl | decide)) 567 (by decide +kernel)
theorem q_568 {S s : State} {args : Array Value} (hT : zT S) (hW : S.WarmedH s.vm) : (Jvm.Cond.code ({ cls := "Rescuemarket", name := "boatFirstThere", desc := "(LRescuemarket$Call;)LRescuemarket$Boat;" } : Jvm.MethodName) prog_1_method_20_code (7 : Nat) (Option.some (Jvm.ClassFile.FieldType.object "Rescuemarket$Boat"))).before args s = true := zT_w hT hW (Or.inl (by first | rfl | decide)) 568 (by decide +kernel)
theorem q_569 {S s : State} {args : Array Value} (hT : zT S) (hW : S.WarmedH s.vm) : (Jvm.Cond.methodLink "Rescuemarket" (232 : Nat) ({ cls := "Rescuemarket", name := "hourThere", desc := "(LRescuemarket$Boat;LRescuemarket$Call;)I" } : Jvm.MethodName)).before args s = true := zT_w hT hW (Or.inl (by first | rfl | decide)) 569 (by decide +kernel)
theorem q_571 {S s : State} {args : Array Value} (hT : zT S) (hW : S.WarmedH s.vm) : (Jvm.Cond.instanceMethod ({ cls := "Rescuemarket", name := "hourThere", desc := "(LRescuemarket$Boat;LRescuemarket$Call;)I" } : Jvm.MethodName)).before args s = true := zT_w hT hW (Or.inl (by first | rfl | decide)) 571 (by decide +kernel)
theorem q_572 {S s : State} {args : Array Value} (hT : zT S) (hW : S.WarmedH s.vm) : (Jvm.Cond.code ({ cls := "Rescuemarket", name := "hourThere", desc := "(LRescuemarket$Boat;LRescuemarket$Call;)I" } : Jvm.MethodName) prog_1_method_21_code (6 : Nat) (Option.some Jvm.ClassFile.FieldType.int)).before args s = true := zT_w hT hW (Or.inl (by first | rfl | decide)) 572 (by decide +kernel)
theorem q_573 {S s : State} {args : Array Value} (hT : zT S) (hW : S.WarmedH s.vm) : (Jvm.Cond.methodLink "Rescuemarket" (240 : Nat) ({ cls := "Rescuemarket$Boat", name := "hoursFor", desc := "(I)I" } : Jvm.MethodName)).before args s = true := zT_w hT hW (Or.inl (by first | rfl | decide)) 573 (by decide +kernel)
theorem q_574 {S s : State} {args : Array Value} (hT : zT S) (hW : S.WarmedH s.vm) : (Jvm.Cond.instanceMethod ({ cls := "Rescuemarket$Boat", name := "hoursFor", desc := "(I)I" } : Jvm.MethodName)).before args s = true := zT_w hT hW (Or.inl (by first | rfl | decide)) 574 (by decide +kernel)
theorem q_575 {S s : State} {args : Array Value} (hT : zT S) (hW : S.WarmedH s.vm) : (Jvm.Cond.selects "Rescuemarket$Boat" ({ cls := "Rescuemarket$Boat", name := "hoursFor", desc := "(I)I" } : Jvm.MethodName) ({ cls := "Rescuemarket$Boat", name := "hoursFor", desc := "(I)I" } : Jvm.MethodName)).before args s = true := zT_w hT hW (Or.inl (by first | rfl | decide)) 575 (by decide +kernel)
theorem q_576 {S s : State} {args : Array Value} (hT : zT S) (hW : S.WarmedH s.vm) : (Jvm.Cond.code ({ cls := "Rescuemarket$Boat", name := "hoursFor", desc := "(I)I" } : Jvm.MethodName) prog_2_method_3_code (3 : Nat) (Option.some Jvm.ClassFile.FieldType.int)).before args s = true := zT_w hT hW (Or.inl (by first | rfl | decide)) 576 (by decide +kernel)
theorem q_577 {S s : State} {args : Array Value} (hT : zT S) (hW : S.WarmedH s.vm) : (Jvm.Cond.methodLink "Rescuemarket" (229 : Nat) ({ cls := "Rescuemarket", name := "task", desc := "(LRescuemarket$Boat;LRescuemarket$Call;)V" } : Jvm.MethodName)).before args s = true := zT_w hT hW (Or.inl (by first | rfl | decide)) 577 (by decide +kernel)
theorem q_579 {S s : State} {args : Array Value} (hT : zT S) (hW : S.WarmedH s.vm) : (Jvm.Cond.instanceMethod ({ cls := "Rescuemarket", name := "task", desc := "(LRescuemarket$Boat;LRescuemarket$Call;)V" } : Jvm.MethodName)).before args s = true := zT_w hT hW (Or.inl (by first | rfl | decide)) 579 (by decide +kernel)
theorem q_580 {S s : State} {args : Array Value} (hT : zT S) (hW : S.WarmedH s.vm) : (Jvm.Cond.code ({ cls := "Rescuemarket", name := "task", desc := "(LRescuemarket$Boat;LRescuemarket$Call;)V" } : Jvm.MethodName) prog_1_method_19_code (3 : Nat) (Option.none : Option Jvm.ClassFile.FieldType)).before args s = true := zT_w hT hW (Or.inl (by first | rfl | decide)) 580 (by decide +kernel)
theorem q_581 {S s : State} {args : Array Value} (hT : zT S) (hW : S.WarmedH s.vm) : (Jvm.Cond.methodLink "Rescuemarket" (236 : Nat) ({ cls := "Rescuemarket$Boat", name := "leaveFor", desc := "(LRescuemarket$Call;II)V" } : Jvm.MethodName)).before args s = true := zT_w hT hW (Or.inl (by first | rfl | decide)) 581 (by decide +kernel)
theorem q_582 {S s : State} {args : Array Value} (hT : zT S) (hW : S.WarmedH s.vm) : (Jvm.Cond.instanceMethod ({ cls := "Rescuemarket$Boat", name := "leaveFor", desc := "(LRescuemarket$Call;II)V" } : Jvm.MethodName)).before args s = true := zT_w hT hW (Or.inl (by first | rfl | decide)) 582 (by decide +kernel)
theorem q_583 {S s : State} {args : Array Value} (hT : zT S) (hW : S.WarmedH s.vm) : (Jvm.Cond.selects "Rescuemarket$Boat" ({ cls := "Rescuemarket$Boat", name := "leaveFor", desc := "(LRescuemarket$Call;II)V" } : Jvm.MethodName) ({ cls := "Rescuemarket$Boat", name := "leaveFor", desc := "(LRescuemarket$Call;II)V" } : Jvm.MethodName)).before args s = true := zT_w hT hW (Or.inl (by first | rfl | decide)) 583 (by decide +kernel)
theorem q_584 {S s : State} {args : Array Value} (hT : zT S) (hW : S.WarmedH s.vm) : (Jvm.Cond.code ({ cls := "Rescuemarket$Boat", name := "leaveFor", desc := "(LRescuemarket$Call;II)V" } : Jvm.MethodName) prog_2_method_4_code (4 : Nat) (Option.none : Option Jvm.ClassFile.FieldType)).before args s = true := zT_w hT hW (Or.inl (by first | rfl | decide)) 584 (by decide +kernel)
theorem q_585 {S s : State} {args : Array Value} (hT : zT S) (hW : S.WarmedH s.vm) : (Jvm.Cond.methodLink "RescuemarketLaw" (88 : Nat) ({ cls := "RescuemarketLaw", name := "storm", desc := "(LRescuemarket;II[J)I" } : Jvm.MethodName)).before args s = true := zT_w hT hW (Or.inl (by first | rfl | decide)) 585 (by decide +kernel)
theorem q_586 {S s : State} {args : Array Value} (hT : zT S) (hW : S.WarmedH s.vm) : (Jvm.Cond.static ({ cls := "RescuemarketLaw", name := "storm", desc := "(LRescuemarket;II[J)I" } : Jvm.MethodName)).before args s = true := zT_w hT hW (Or.inl (by first | rfl | decide)) 586 (by decide +kernel)
theorem q_588 {S s : State} {args : Array Value} (hT : zT S) (hW : S.WarmedH s.vm) : (Jvm.Cond.methodLink "RescuemarketLaw" (37 : Nat) ({ cls := "Rescuemarket", name := "storm", desc := "(II)I" } : Jvm.MethodName)).before args s = true := zT_w hT hW (Or.inl (by first | rfl | decide)) 588 (by decide +kernel)
theorem q_589 {S s : State} {args : Array Value} (hT : zT S) (hW : S.WarmedH s.vm) : (Jvm.Cond.instanceMethod ({ cls := "Rescuemarket", name := "storm", desc := "(II)I" } : Jvm.MethodName)).before args s = true := zT_w hT hW (Or.inl (by first | rfl | decide)) 589 (by decide +kernel)
theorem q_590 {S s : State} {args : Array Value} (hT : zT S) (hW : S.WarmedH s.vm) : (Jvm.Cond.selects "Rescuemarket" ({ cls := "Rescuemarket", name := "storm", desc := "(II)I" } : Jvm.MethodName) ({ cls := "Rescuemarket", name := "storm", desc := "(II)I" } : Jvm.MethodName)).before args s = true := zT_w hT hW (Or.inl (by first | rfl | decide)) 590 (by decide +kernel)
theorem q_591 {S s : State} {args : Array Value} (hT : zT S) (hW : S.WarmedH s.vm) : (Jvm.Cond.code ({ cls := "Rescuemarket", name := "storm", desc := "(II)I" } : Jvm.MethodName) prog_1_method_8_code (3 : Nat) (Option.some Jvm.ClassFile.FieldType.int)).before args s = true := zT_w hT hW (Or.inl (by first | rfl | decide)) 591 (by decide +kernel)
theorem q_592 {S s : State} {args : Array Value} (hT : zT S) (hW : S.WarmedH s.vm) : (Jvm.Cond.methodLink "RescuemarketLaw" (91 : Nat) ({ cls := "RescuemarketLaw", name := "ofBoat", desc := "(LRescuemarket;II[J)I" } : Jvm.MethodName)).before args s = true := zT_w hT hW (Or.inl (by first | rfl | decide)) 592 (by decide +kernel)
theorem q_593 {S s : State} {args : Array Value} (hT : zT S) (hW : S.WarmedH s.vm) : (Jvm.Cond.static ({ cls := "RescuemarketLaw", name := "ofBoat", desc := "(LRescuemarket;II[J)I" } : Jvm.MethodName)).before args s = true := zT_w hT hW (Or.inl (by first | rfl | decide)) 593 (by decide +kernel)
theorem q_595 {S s : State} {args : Array Value} (hT : zT S) (hW : S.WarmedH s.vm) : (Jvm.Cond.methodLink "RescuemarketLaw" (40 : Nat) ({ cls := "Rescuemarket", name := "ofBoat", desc := "(II)I" } : Jvm.MethodName)).before args s = true := zT_w hT hW (Or.inl (by first | rfl | decide)) 595 (by decide +kernel)
theorem q_596 {S s : State} {args : Array Value} (hT : zT S) (hW : S.WarmedH s.vm) : (Jvm.Cond.instanceMethod ({ cls := "Rescuemarket", name := "ofBoat", desc := "(II)I" } : Jvm.MethodName)).before args s = true := zT_w hT hW (Or.inl (by first | rfl | decide)) 596 (by decide +kernel)
theorem q_597 {S s : State} {args : Array Value} (hT : zT S) (hW : S.WarmedH s.vm) : (Jvm.Cond.selects "Rescuemarket" ({ cls := "Rescuemarket", name := "ofBoat", desc := "(II)I" } : Jvm.MethodName) ({ cls := "Rescuemarket", name := "ofBoat", desc := "(II)I" } : Jvm.MethodName)).before args s = true := zT_w hT hW (Or.inl (by first | rfl | decide)) 597 (by decide +kernel)
theorem q_598 {S s : State} {args : Array Value} (hT : zT S) (hW : S.WarmedH s.vm) : (Jvm.Cond.code ({ cls := "Rescuemarket", name := "ofBoat", desc := "(II)I" } : Jvm.MethodName) prog_1_method_9_code (4 : Nat) (Option.some Jvm.ClassFile.FieldType.int)).before args s = true := zT_w hT hW (Or.inl (by first | rfl | decide)) 598 (by decide +kernel)
theorem q_599 {S s : State} {args : Array Value} (hT : zT S) (hW : S.WarmedH s.vm) : (Jvm.Cond.methodLink "RescuemarketLaw" (94 : Nat) ({ cls := "RescuemarketLaw", name := "ofCall", desc := "(LRescuemarket;II[J)I" } : Jvm.MethodName)).before args s = true := zT_w hT hW (Or.inl (by first | rfl | decide)) 599 (by decide +kernel)
theorem q_600 {S s : State} {args : Array Value} (hT : zT S) (hW : S.WarmedH s.vm) : (Jvm.Cond.static ({ cls := "RescuemarketLaw", name := "ofCall", desc := "(LRescuemarket;II[J)I" } : Jvm.MethodName)).before args s = true := zT_w hT hW (Or.inl (by first | rfl | decide)) 600 (by decide +kernel)
theorem q_602 {S s : State} {args : Array Value} (hT : zT S) (hW : S.WarmedH s.vm) : (Jvm.Cond.methodLink "RescuemarketLaw" (43 : Nat) ({ cls := "Rescuemarket", name := "ofCall", desc := "(II)I" } : Jvm.MethodName)).before args s = true := zT_w hT hW (Or.inl (by first | rfl | decide)) 602 (by decide +kernel)
theorem q_603 {S s : State} {args : Array Value} (hT : zT S) (hW : S.WarmedH s.vm) : (Jvm.Cond.instanceMethod ({ cls := "Rescuemarket", name := "ofCall", desc := "(II)I" } : Jvm.MethodName)).before args s = true := zT_w hT hW (Or.inl (by first | rfl | decide)) 603 (by decide +kernel)
theorem q_604 {S s : State} {args : Array Value} (hT : zT S) (hW : S.WarmedH s.vm) : (Jvm.Cond.selects "Rescuemarket" ({ cls := "Rescuemarket", name := "ofCall", desc := "(II)I" } : Jvm.MethodName) ({ cls := "Rescuemarket", name := "ofCall", desc := "(II)I" } : Jvm.MethodName)).before args s = true := zT_w hT hW (Or.inl (by first | rfl | decide)) 604 (by decide +kernel)
theorem q_605 {S s : State} {args : Array Value} (hT : zT S) (hW : S.WarmedH s.vm) : (Jvm.Cond.code ({ cls := "Rescuemarket", name := "ofCall", desc := "(II)I" } : Jvm.MethodName) prog_1_method_10_code (4 : Nat) (Option.some Jvm.ClassFile.FieldType.int)).before args s = true := zT_w hT hW (Or.inl (by first | rfl | decide)) 605 (by decide +kernel)
theorem q_606 {S s : State} {args : Array Value} (hT : zT S) (hW : S.WarmedH s.vm) : (Jvm.Cond.methodLink "Rescuemarket" (136 : Nat) ({ cls := "Rescuemarket", name := "callNumbered", desc := "(I)LRescuemarket$Call;" } : Jvm.MethodName)).before args s = true := zT_w hT hW (Or.inl (by first | rfl | decide)) 606 (by decide +kernel)
theorem q_608 {S s : State} {args : Array Value} (hT : zT S) (hW : S.WarmedH s.vm) : (Jvm.Cond.instanceMethod ({ cls := "Rescuemarket", name := "callNumbered", desc := "(I)LRescuemarket$Call;" } : Jvm.MethodName)).before args s = true := zT_w hT hW (Or.inl (by first | rfl | decide)) 608 (by decide +kernel)
theorem q_609 {S s : State} {args : Array Value} (hT : zT S) (hW : S.WarmedH s.vm) : (Jvm.Cond.code ({ cls := "Rescuemarket", name := "callNumbered", desc := "(I)LRescuemarket$Call;" } : Jvm.MethodName) prog_1_method_24_code (2 : Nat) (Option.some (Jvm.ClassFile.FieldType.object "Rescuemarket$Call"))).before args s = true := zT_w hT hW (Or.inl (by first | rfl | decide)) 609 (by decide +kernel)
theorem q_610 {S : State} (hT : zT S) : (Jvm.Cond.stringRef "Rescuemarket" (248 : Nat) "there is no such call").before #[] S = true := hT _ (List.mem_append_right _ (List.mem_of_getElem? (i := 610) (by decide +kernel)))
theorem q_611 {S s : State} {args : Array Value} (hT : zT S) (hW : S.WarmedH s.vm) : (Jvm.Cond.methodLink "RescuemarketLaw" (97 : Nat) ({ cls := "RescuemarketLaw", name := "rewards", desc := "(LRescuemarket;I[J)I" } : Jvm.MethodName)).before args s = true := zT_w hT hW (Or.inl (by first | rfl | decide)) 611 (by decide +kernel)
theorem q_612 {S s : State} {args : Array Value} (hT : zT S) (hW : S.WarmedH s.vm) : (Jvm.Cond.static ({ cls := "RescuemarketLaw", name := "rewards", desc := "(LRescuemarket;I[J)I" } : Jvm.MethodName)).before args s = true := zT_w hT hW (Or.inl (by first | rfl | decide)) 612 (by decide +kernel)
theorem q_614 {S s : State} {args : Array Value} (hT : zT S) (hW : S.WarmedH s.vm) : (Jvm.Cond.methodLink "RescuemarketLaw" (46 : Nat) ({ cls := "Rescuemarket", name := "rewards", desc := "(I)I" } : Jvm.MethodName)).before args s = true := zT_w hT hW (Or.inl (by first | rfl | decide)) 614 (by decide +kernel)
theorem q_615 {S s : State} {args : Array Value} (hT : zT S) (hW : S.WarmedH s.vm) : (Jvm.Cond.instanceMethod ({ cls := "Rescuemarket", name := "rewards", desc := "(I)I" } : Jvm.MethodName)).before args s = true := zT_w hT hW (Or.inl (by first | rfl | decide)) 615 (by decide +kernel)
theorem q_616 {S s : State} {args : Array Value} (hT : zT S) (hW : S.WarmedH s.vm) : (Jvm.Cond.selects "Rescuemarket" ({ cls := "Rescuemarket", name := "rewards", desc := "(I)I" } : Jvm.MethodName) ({ cls := "Rescuemarket", name := "rewards", desc := "(I)I" } : Jvm.MethodName)).before args s = true := zT_w hT hW (Or.inl (by first | rfl | decide)) 616 (by decide +kernel)
theorem q_617 {S s : State} {args : Array Value} (hT : zT S) (hW : S.WarmedH s.vm) : (Jvm.Cond.code ({ cls := "Rescuemarket", name := "rewards", desc := "(I)I" } : Jvm.MethodName) prog_1_method_11_code (2 : Nat) (Option.some Jvm.ClassFile.FieldType.int)).before args s = true := zT_w hT hW (Or.inl (by first | rfl | decide)) 617 (by decide +kernel)
theorem q_618 {S s : State} {args : Array Value} (hT : zT S) (hW : S.WarmedH s.vm) : (Jvm.Cond.methodLink "Rescuemarket" (152 : Nat) ({ cls := "Rescuemarket$Ledger", name := "paidTo", desc := "(I)I" } : Jvm.MethodName)).before args s = true := zT_w hT hW (Or.inl (by first | rfl | decide)) 618 (by decide +kernel)
theorem q_619 {S s : State} {args : Array Value} (hT : zT S) (hW : S.WarmedH s.vm) : (Jvm.Cond.instanceMethod ({ cls := "Rescuemarket$Ledger", name := "paidTo", desc := "(I)I" } : Jvm.MethodName)).before args s = true := zT_w hT hW (Or.inl (by first | rfl | decide)) 619 (by decide +kernel)
theorem q_620 {S s : State} {args : Array Value} (hT : zT S) (hW : S.WarmedH s.vm) : (Jvm.Cond.selects "Rescuemarket$Ledger" ({ cls := "Rescuemarket$Ledger", name := "paidTo", desc := "(I)I" } : Jvm.MethodName) ({ cls := "Rescuemarket$Ledger", name := "paidTo", desc := "(I)I" } : Jvm.MethodName)).before args s = true := zT_w hT hW (Or.inl (by first | rfl | decide)) 620 (by decide +kernel)
theorem q_621 {S s : State} {args : Array Value} (hT : zT S) (hW : S.WarmedH s.vm) : (Jvm.Cond.code ({ cls := "Rescuemarket$Ledger", name := "paidTo", desc := "(I)I" } : Jvm.MethodName) prog_5_method_3_code (2 : Nat) (Option.some Jvm.ClassFile.FieldType.int)).before args s = true := zT_w hT hW (Or.inl (by first | rfl | decide)) 621 (by decide +kernel)
theorem q_622 {S s : State} {args : Array Value} (hT : zT S) (hW : S.WarmedH s.vm) : (Jvm.Cond.methodLink "RescuemarketLaw" (100 : Nat) ({ cls := "RescuemarketLaw", name := "rewardsAnew", desc := "(LRescuemarket;I[J)I" } : Jvm.MethodName)).before args s = true := zT_w hT hW (Or.inl (by first | rfl | decide)) 622 (by decide +kernel)
theorem q_623 {S s : State} {args : Array Value} (hT : zT S) (hW : S.WarmedH s.vm) : (Jvm.Cond.static ({ cls := "RescuemarketLaw", name := "rewardsAnew", desc := "(LRescuemarket;I[J)I" } : Jvm.MethodName)).before args s = true := zT_w hT hW (Or.inl (by first | rfl | decide)) 623 (by decide +kernel)
theorem q_625 {S s : State} {args : Array Value} (hT : zT S) (hW : S.WarmedH s.vm) : (Jvm.Cond.methodLink "RescuemarketLaw" (49 : Nat) ({ cls := "Rescuemarket", name := "rewardsAnew", desc := "(I)I" } : Jvm.MethodName)).before args s = true := zT_w hT hW (Or.inl (by first | rfl | decide)) 625 (by decide +kernel)
theorem q_626 {S s : State} {args : Array Value} (hT : zT S) (hW : S.WarmedH s.vm) : (Jvm.Cond.instanceMethod ({ cls := "Rescuemarket", name := "rewardsAnew", desc := "(I)I" } : Jvm.MethodName)).before args s = true := zT_w hT hW (Or.inl (by first | rfl | decide)) 626 (by decide +kernel)
theorem q_627 {S s : State} {args : Array Value} (hT : zT S) (hW : S.WarmedH s.vm) : (Jvm.Cond.selects "Rescuemarket" ({ cls := "Rescuemarket", name := "rewardsAnew", desc := "(I)I" } : Jvm.MethodName) ({ cls := "Rescuemarket", name := "rewardsAnew", desc := "(I)I" } : Jvm.MethodName)).before args s = true := zT_w hT hW (Or.inl (by first | rfl | decide)) 627 (by decide +kernel)
theorem q_628 {S s : State} {args : Array Value} (hT : zT S) (hW : S.WarmedH s.vm) : (Jvm.Cond.code ({ cls := "Rescuemarket", name := "rewardsAnew", desc := "(I)I" } : Jvm.MethodName) prog_1_method_12_code (2 : Nat) (Option.some Jvm.ClassFile.FieldType.int)).before args s = true := zT_w hT hW (Or.inl (by first | rfl | decide)) 628 (by decide +kernel)
theorem q_629 {S s : State} {args : Array Value} (hT : zT S) (hW : S.WarmedH s.vm) : (Jvm.Cond.methodLink "Rescuemarket" (155 : Nat) ({ cls := "Rescuemarket$Ledger", name := "foundInLogFor", desc := "(I)I" } : Jvm.MethodName)).before args s = true := zT_w hT hW (Or.inl (by first | rfl | decide)) 629 (by decide +kernel)
theorem q_630 {S s : State} {args : Array Value} (hT : zT S) (hW : S.WarmedH s.vm) : (Jvm.Cond.instanceMethod ({ cls := "Rescuemarket$Ledger", name := "foundInLogFor", desc := "(I)I" } : Jvm.MethodName)).before args s = true := zT_w hT hW (Or.inl (by first | rfl | decide)) 630 (by decide +kernel)
theorem q_631 {S s : State} {args : Array Value} (hT : zT S) (hW : S.WarmedH s.vm) : (Jvm.Cond.selects "Rescuemarket$Ledger" ({ cls := "Rescuemarket$Ledger", name := "foundInLogFor", desc := "(I)I" } : Jvm.MethodName) ({ cls := "Rescuemarket$Ledger", name := "foundInLogFor", desc := "(I)I" } : Jvm.MethodName)).before args s = true := zT_w hT hW (Or.inl (by first | rfl | decide)) 631 (by decide +kernel)
theorem q_632 {S s : State} {args : Array Value} (hT : zT S) (hW : S.WarmedH s.vm) : (Jvm.Cond.code ({ cls := "Rescuemarket$Ledger", name := "foundInLogFor", desc := "(I)I" } : Jvm.MethodName) prog_5_method_4_code (4 : Nat) (Option.some Jvm.ClassFile.FieldType.int)).before args s = true := zT_w hT hW (Or.inl (by first | rfl | decide)) 632 (by decide +kernel)
theorem q_634 {S s : State} {args : Array Value} (hT : zT S) (hW : S.WarmedH s.vm) : (Jvm.Cond.methodLink "Rescuemarket$Ledger" (34 : Nat) ({ cls := "java/util/List", name := "size", desc := "()I" } : Jvm.MethodName)).before args s = true := zT_w hT hW (Or.inl (by first | rfl | decide)) 634 (by decide +kernel)
theorem q_636 {S s : State} {args : Array Value} (hT : zT S) (hW : S.WarmedH s.vm) : (Jvm.Cond.methodLink "Rescuemarket$Ledger" (38 : Nat) ({ cls := "java/util/List", name := "get", desc := "(I)Ljava/lang/Object;" } : Jvm.MethodName)).before args s = true := zT_w hT hW (Or.inl (by first | rfl | decide)) 636 (by decide +kernel)
theorem q_637 {S s : State} {args : Array Value} (hT : zT S) (hW : S.WarmedH s.vm) : (Jvm.Cond.classLink "Rescuemarket$Ledger" (29 : Nat) "Rescuemarket$Deed").before args s = true := zT_w hT hW (Or.inl (by first | rfl | decide)) 637 (by decide +kernel)
theorem q_638 {S s : State} {args : Array Value} (hT : zT S) (hW : S.WarmedH s.vm) : (Jvm.Cond.methodLink "RescuemarketLaw" (103 : Nat) ({ cls := "RescuemarketLaw", name := "premium", desc := "(LRescuemarket;I[D)I" } : Jvm.MethodName)).before args s = true := zT_w hT hW (Or.inl (by first | rfl | decide)) 638 (by decide +kernel)
theorem q_639 {S s : State} {args : Array Value} (hT : zT S) (hW : S.WarmedH s.vm) : (Jvm.Cond.static ({ cls := "RescuemarketLaw", name := "premium", desc := "(LRescuemarket;I[D)I" } : Jvm.MethodName)).before args s = true := zT_w hT hW (Or.inl (by first | rfl | decide)) 639 (by decide +kernel)
theorem q_641 {S s : State} {args : Array Value} (hT : zT S) (hW : S.WarmedH s.vm) : (Jvm.Cond.methodLink "RescuemarketLaw" (52 : Nat) ({ cls := "Rescuemarket", name := "premium", desc := "(I)F" } : Jvm.MethodName)).before args s = true := zT_w hT hW (Or.inl (by first | rfl | decide)) 641 (by decide +kernel)
theorem q_642 {S s : State} {args : Array Value} (hT : zT S) (hW : S.WarmedH s.vm) : (Jvm.Cond.instanceMethod ({ cls := "Rescuemarket", name := "premium", desc := "(I)F" } : Jvm.MethodName)).before args s = true := zT_w hT hW (Or.inl (by first | rfl | decide)) 642 (by decide +kernel)
theorem q_643 {S s : State} {args : Array Value} (hT : zT S) (hW : S.WarmedH s.vm) : (Jvm.Cond.selects "Rescuemarket" ({ cls := "Rescuemarket", name := "premium", desc := "(I)F" } : Jvm.MethodName) ({ cls := "Rescuemarket", name := "premium", desc := "(I)F" } : Jvm.MethodName)).before args s = true := zT_w hT hW (Or.inl (by first | rfl | decide)) 643 (by decide +kernel)
theorem q_644 {S s : State} {args : Array Value} (hT : zT S) (hW : S.WarmedH s.vm) : (Jvm.Cond.code ({ cls := "Rescuemarket", name := "premium", desc := "(I)F" } : Jvm.MethodName) prog_1_method_13_code (3 : Nat) (Option.some Jvm.ClassFile.FieldType.float)).before args s = true := zT_w hT hW (Or.inl (by first | rfl | decide)) 644 (by decide +kernel)
theorem q_645 {S s : State} {args : Array Value} (hT : zT S) (hW : S.WarmedH s.vm) : (Jvm.Cond.methodLink "Rescuemarket" (158 : Nat) ({ cls := "java/lang/Math", name := "min", desc := "(II)I" } : Jvm.MethodName)).before args s = true := zT_w hT hW (Or.inl (by first | rfl | decide)) 645 (by decide +kernel)
theorem q_646 {S s : State} {args : Array Value} (hT : zT S) (hW : S.WarmedH s.vm) : (Jvm.Cond.constantFloat "Rescuemarket" (163 : Nat) (1069547520 : UInt32)).before args s = true := zT_w hT hW (Or.inl (by first | rfl | decide)) 646 (by decide +kernel)
theorem q_647 {S s : State} {args : Array Value} (hT : zT S) (hW : S.WarmedH s.vm) : (Jvm.Cond.methodLink "Rescuemarket" (164 : Nat) ({ cls := "Rescuemarket$Weather", name := "greatest", desc := "(III)I" } : Jvm.MethodName)).before args s = true := zT_w hT hW (Or.inl (by first | rfl | decide)) 647 (by decide +kernel)
theorem q_648 {S s : State} {args : Array Value} (hT : zT S) (hW : S.WarmedH s.vm) : (Jvm.Cond.instanceMethod ({ cls := "Rescuemarket$Weather", name := "greatest", desc := "(III)I" } : Jvm.MethodName)).before args s = true := zT_w hT hW (Or.inl (by first | rfl | decide)) 648 (by decide +kernel)
theorem q_649 {S s : State} {args : Array Value} (hT : zT S) (hW : S.WarmedH s.vm) : (Jvm.Cond.selects "Rescuemarket$Weather" ({ cls := "Rescuemarket$Weather", name := "greatest", desc := "(III)I" } : Jvm.MethodName) ({ cls := "Rescuemarket$Weather", name := "greatest", desc := "(III)I" } : Jvm.MethodName)).before args s = true := zT_w hT hW (Or.inl (by first | rfl | decide)) 649 (by decide +kernel)
theorem q_650 {S s : State} {args : Array Value} (hT : zT S) (hW : S.WarmedH s.vm) : (Jvm.Cond.code ({ cls := "Rescuemarket$Weather", name := "greatest", desc := "(III)I" } : Jvm.MethodName) prog_6_method_4_code (6 : Nat) (Option.some Jvm.ClassFile.FieldType.int)).before args s = true := zT_w hT hW (Or.inl (by first | rfl | decide)) 650 (by decide +kernel)
theorem q_651 {S s : State} {args : Array Value} (hT : zT S) (hW : S.WarmedH s.vm) : (Jvm.Cond.methodLink "Rescuemarket$Weather" (32 : Nat) ({ cls := "Rescuemarket$Weather", name := "at", desc := "(II)I" } : Jvm.MethodName)).before args s = true := zT_w hT hW (Or.inl (by first | rfl | decide)) 651 (by decide +kernel)
theorem q_652 {S s : State} {args : Array Value} (hT : zT S) (hW : S.WarmedH s.vm) : (Jvm.Cond.constantFloat "Rescuemarket" (168 : Nat) (1048576000 : UInt32)).before args s = true := zT_w hT hW (Or.inl (by first | rfl | decide)) 652 (by decide +kernel)
theorem q_653 {S s : State} {args : Array Value} (hT : zT S) (hW : S.WarmedH s.vm) : (Jvm.Cond.methodLink "Rescuemarket" (169 : Nat) ({ cls := "Rescuemarket", name := "callsEverAt", desc := "(I)I" } : Jvm.MethodName)).before args s = true := zT_w hT hW (Or.inl (by first | rfl | decide)) 653 (by decide +kernel)
theorem q_655 {S s : State} {args : Array Value} (hT : zT S) (hW : S.WarmedH s.vm) : (Jvm.Cond.instanceMethod ({ cls := "Rescuemarket", name := "callsEverAt", desc := "(I)I" } : Jvm.MethodName)).before args s = true := zT_w hT hW (Or.inl (by first | rfl | decide)) 655 (by decide +kernel)
theorem q_656 {S s : State} {args : Array Value} (hT : zT S) (hW : S.WarmedH s.vm) : (Jvm.Cond.code ({ cls := "Rescuemarket", name := "callsEverAt", desc := "(I)I" } : Jvm.MethodName) prog_1_method_22_code (4 : Nat) (Option.some Jvm.ClassFile.FieldType.int)).before args s = true := zT_w hT hW (Or.inl (by first | rfl | decide)) 656 (by decide +kernel)
theorem q_657 {S s : State} {args : Array Value} (hT : zT S) (hW : S.WarmedH s.vm) : (Jvm.Cond.classLink "RescuemarketLaw" (57 : Nat) "RescuemarketModel").before args s = true := zT_w hT hW (Or.inl (by first | rfl | decide)) 657 (by decide +kernel)
theorem q_658 {S s : State} {args : Array Value} (hT : zT S) (hW : S.WarmedH s.vm) : (Jvm.Cond.instantiable "RescuemarketModel" (26 : Nat)).before args s = true := zT_w hT hW (Or.inl (by first | rfl | decide)) 658 (by decide +kernel)
theorem q_659 {S s : State} {args : Array Value} (hT : zT S) (hW : S.WarmedH s.vm) : (Jvm.Cond.methodLink "RescuemarketLaw" (59 : Nat) ({ cls := "RescuemarketModel", name := "<init>", desc := "()V" } : Jvm.MethodName)).before args s = true := zT_w hT hW (Or.inl (by first | rfl | decide)) 659 (by decide +kernel)
theorem q_660 {S s : State} {args : Array Value} (hT : zT S) (hW : S.WarmedH s.vm) : (Jvm.Cond.instanceMethod ({ cls := "RescuemarketModel", name := "<init>", desc := "()V" } : Jvm.MethodName)).before args s = true := zT_w hT hW (Or.inl (by first | rfl | decide)) 660 (by decide +kernel)
theorem q_661 {S s : State} {args : Array Value} (hT : zT S) (hW : S.WarmedH s.vm) : (Jvm.Cond.code ({ cls := "RescuemarketModel", name := "<init>", desc := "()V" } : Jvm.MethodName) prog_8_method_1_code (1 : Nat) (Option.none : Option Jvm.ClassFile.FieldType)).before args s = true := zT_w hT hW (Or.inl (by first | rfl | decide)) 661 (by decide +kernel)
theorem q_662 {S s : State} {args : Array Value} (hT : zT S) (hW : S.WarmedH s.vm) : (Jvm.Cond.methodLink "RescuemarketModel" (1 : Nat) ({ cls := "java/lang/Object", name := "<init>", desc := "()V" } : Jvm.MethodName)).before args s = true := zT_w hT hW (Or.inl (by first | rfl | decide)) 662 (by decide +kernel)
theorem q_663 {S s : State} {args : Array Value} (hT : zT S) (hW : S.WarmedH s.vm) : (Jvm.Cond.constant "RescuemarketModel" (7 : Nat) (48000 : Int32)).before args s = true := zT_w hT hW (Or.inl (by first | rfl | decide)) 663 (by decide +kernel)
theorem q_664 {S s : State} {args : Array Value} (hT : zT S) (hW : S.WarmedH s.vm) : (Jvm.Cond.fieldLink "RescuemarketModel" (8 : Nat) "RescuemarketModel" "storm" "[B").before args s = true := zT_w hT hW (Or.inl (by first | rfl | decide)) 664 (by decide +kernel)
theorem q_665 {S s : State} {args : Array Value} (hT : zT S) (hW : S.WarmedH s.vm) : (Jvm.Cond.fieldLink "RescuemarketModel" (14 : Nat) "RescuemarketModel" "bc" "[I").before args s = true := zT_w hT hW (Or.inl (by first | rfl | decide)) 665 (by decide +kernel)
theorem q_666 {S s : State} {args : Array Value} (hT : zT S) (hW : S.WarmedH s.vm) : (Jvm.Cond.fieldLink "RescuemarketModel" (18 : Nat) "RescuemarketModel" "bl" "[I").before args s = true := zT_w hT hW (Or.inl (by first | rfl | decide)) 666 (by decide +kernel)
theorem q_667 {S s : State} {args : Array Value} (hT : zT S) (hW : S.WarmedH s.vm) : (Jvm.Cond.fieldLink "RescuemarketModel" (21 : Nat) "RescuemarketModel" "bh" "[I").before args s = true := zT_w hT hW (Or.inl (by first | rfl | decide)) 667 (by decide +kernel)
theorem q_668 {S s : State} {args : Array Value} (hT : zT S) (hW : S.WarmedH s.vm) : (Jvm.Cond.fieldLink "RescuemarketModel" (24 : Nat) "RescuemarketModel" "bs" "[I").before args s = true := zT_w hT hW (Or.inl (by first | rfl | decide)) 668 (by decide +kernel)
theorem q_669 {S s : State} {args : Array Value} (hT : zT S) (hW : S.WarmedH s.vm) : (Jvm.Cond.fieldLink "RescuemarketModel" (27 : Nat) "RescuemarketModel" "holding" "[I").before args s = true := zT_w hT hW (Or.inl (by first | rfl | decide)) 669 (by decide +kernel)
theorem q_670 {S s : State} {args : Array Value} (hT : zT S) (hW : S.WarmedH s.vm) : (Jvm.Cond.fieldLink "RescuemarketModel" (30 : Nat) "RescuemarketModel" "fuel" "[I").before args s = true := zT_w hT hW (Or.inl (by first | rfl | decide)) 670 (by decide +kernel)
theorem q_671 {S s : State} {args : Array Value} (hT : zT S) (hW : S.WarmedH s.vm) : (Jvm.Cond.fieldLink "RescuemarketModel" (33 : Nat) "RescuemarketModel" "bears" "[I").before args s = true := zT_w hT hW (Or.inl (by first | rfl | decide)) 671 (by decide +kernel)
theorem q_672 {S s : State} {args : Array Value} (hT : zT S) (hW : S.WarmedH s.vm) : (Jvm.Cond.fieldLink "RescuemarketModel" (36 : Nat) "RescuemarketModel" "how" "[I").before args s = true := zT_w hT hW (Or.inl (by first | rfl | decide)) 672 (by decide +kernel)
theorem q_673 {S s : State} {args : Array Value} (hT : zT S) (hW : S.WarmedH s.vm) : (Jvm.Cond.fieldLink "RescuemarketModel" (39 : Nat) "RescuemarketModel" "task" "[I").before args s = true := zT_w hT hW (Or.inl (by first | rfl | decide)) 673 (by decide +kernel)
theorem q_674 {S s : State} {args : Array Value} (hT : zT S) (hW : S.WarmedH s.vm) : (Jvm.Cond.fieldLink "RescuemarketModel" (42 : Nat) "RescuemarketModel" "since" "[I").before args s = true := zT_w hT hW (Or.inl (by first | rfl | decide)) 674 (by decide +kernel)
theorem q_675 {S s : State} {args : Array Value} (hT : zT S) (hW : S.WarmedH s.vm) : (Jvm.Cond.fieldLink "RescuemarketModel" (45 : Nat) "RescuemarketModel" "next" "[I").before args s = true := zT_w hT hW (Or.inl (by first | rfl | decide)) 675 (by decide +kernel)
theorem q_676 {S s : State} {args : Array Value} (hT : zT S) (hW : S.WarmedH s.vm) : (Jvm.Cond.fieldLink "RescuemarketModel" (48 : Nat) "RescuemarketModel" "by" "[I").before args s = true := zT_w hT hW (Or.inl (by first | rfl | decide)) 676 (by decide +kernel)
theorem q_677 {S s : State} {args : Array Value} (hT : zT S) (hW : S.WarmedH s.vm) : (Jvm.Cond.fieldLink "RescuemarketModel" (90 : Nat) "RescuemarketModel" "boats" "I").before args s = true := zT_w hT hW (Or.inl (by first | rfl | decide)) 677 (by decide +kernel)
theorem q_678 {S s : State} {args : Array Value} (hT : zT S) (hW : S.WarmedH s.vm) : (Jvm.Cond.fieldLink "RescuemarketModel" (51 : Nat) "RescuemarketModel" "cc" "[I").before args s = true := zT_w hT hW (Or.inl (by first | rfl | decide)) 678 (by decide +kernel)
theorem q_679 {S s : State} {args : Array Value} (hT : zT S) (hW : S.WarmedH s.vm) : (Jvm.Cond.fieldLink "RescuemarketModel" (54 : Nat) "RescuemarketModel" "cn" "[I").before args s = true := zT_w hT hW (Or.inl (by first | rfl | decide)) 679 (by decide +kernel)
theorem q_680 {S s : State} {args : Array Value} (hT : zT S) (hW : S.WarmedH s.vm) : (Jvm.Cond.fieldLink "RescuemarketModel" (57 : Nat) "RescuemarketModel" "cl" "[I").before args s = true := zT_w hT hW (Or.inl (by first | rfl | decide)) 680 (by decide +kernel)
theorem q_681 {S s : State} {args : Array Value} (hT : zT S) (hW : S.WarmedH s.vm) : (Jvm.Cond.fieldLink "RescuemarketModel" (60 : Nat) "RescuemarketModel" "ck" "[I").before args s = true := zT_w hT hW (Or.inl (by first | rfl | decide)) 681 (by decide +kernel)
theorem q_682 {S s : State} {args : Array Value} (hT : zT S) (hW : S.WarmedH s.vm) : (Jvm.Cond.fieldLink "RescuemarketModel" (63 : Nat) "RescuemarketModel" "cb" "[I").before args s = true := zT_w hT hW (Or.inl (by first | rfl | decide)) 682 (by decide +kernel)
theorem q_683 {S s : State} {args : Array Value} (hT : zT S) (hW : S.WarmedH s.vm) : (Jvm.Cond.fieldLink "RescuemarketModel" (66 : Nat) "RescuemarketModel" "often" "[I").before args s = true := zT_w hT hW (Or.inl (by first | rfl | decide)) 683 (by decide +kernel)
theorem q_684 {S s : State} {args : Array Value} (hT : zT S) (hW : S.WarmedH s.vm) : (Jvm.Cond.fieldLink "RescuemarketModel" (69 : Nat) "RescuemarketModel" "reward" "[I").before args s = true := zT_w hT hW (Or.inl (by first | rfl | decide)) 684 (by decide +kernel)
theorem q_685 {S s : State} {args : Array Value} (hT : zT S) (hW : S.WarmedH s.vm) : (Jvm.Cond.fieldLink "RescuemarketModel" (103 : Nat) "RescuemarketModel" "calls" "I").before args s = true := zT_w hT hW (Or.inl (by first | rfl | decide)) 685 (by decide +kernel)
theorem q_686 {S s : State} {args : Array Value} (hT : zT S) (hW : S.WarmedH s.vm) : (Jvm.Cond.fieldLink "RescuemarketModel" (72 : Nat) "RescuemarketModel" "got" "[I").before args s = true := zT_w hT hW (Or.inl (by first | rfl | decide)) 686 (by decide +kernel)
theorem q_687 {S s : State} {args : Array Value} (hT : zT S) (hW : S.WarmedH s.vm) : (Jvm.Cond.fieldLink "RescuemarketModel" (75 : Nat) "RescuemarketModel" "cap" "I").before args s = true := zT_w hT hW (Or.inl (by first | rfl | decide)) 687 (by decide +kernel)
theorem q_688 {S s : State} {args : Array Value} (hT : zT S) (hW : S.WarmedH s.vm) : (Jvm.Cond.fieldLink "RescuemarketModel" (100 : Nat) "RescuemarketModel" "now" "I").before args s = true := zT_w hT hW (Or.inl (by first | rfl | decide)) 688 (by decide +kernel)
theorem q_689 {S s : State} {args : Array Value} (hT : zT S) (hW : S.WarmedH s.vm) : (Jvm.Cond.fieldLink "RescuemarketModel" (79 : Nat) "RescuemarketModel" "thrown" "I").before args s = true := zT_w hT hW (Or.inl (by first | rfl | decide)) 689 (by decide +kernel)
theorem q_742 {S s : State} {args : Array Value} (hT : zT S) (hW : S.WarmedH s.vm) : (Jvm.Cond.superclass "RescuemarketModel" "java/lang/Object").before args s = true := zT_w hT hW (Or.inl (by first | rfl | decide)) 742 (by decide +kernel)
theorem q_743 {S s : State} {args : Array Value} (hT : zT S) (hW : S.WarmedH s.vm) : (Jvm.Cond.methodLink "RescuemarketLaw" (66 : Nat) ({ cls := "RescuemarketModel", name := "thrown", desc := "()I" } : Jvm.MethodName)).before args s = true := zT_w hT hW (Or.inl (by first | rfl | decide)) 743 (by decide +kernel)
theorem q_744 {S s : State} {args : Array Value} (hT : zT S) (hW : S.WarmedH s.vm) : (Jvm.Cond.instanceMethod ({ cls := "RescuemarketModel", name := "thrown", desc := "()I" } : Jvm.MethodName)).before args s = true := zT_w hT hW (Or.inl (by first | rfl | decide)) 744 (by decide +kernel)
theorem q_745 {S s : State} {args : Array Value} (hT : zT S) (hW : S.WarmedH s.vm) : (Jvm.Cond.selects "RescuemarketModel" ({ cls := "RescuemarketModel", name := "thrown", desc := "()I" } : Jvm.MethodName) ({ cls := "RescuemarketModel", name := "thrown", desc := "()I" } : Jvm.MethodName)).before args s = true := zT_w hT hW (Or.inl (by first | rfl | decide)) 745 (by decide +kernel)
theorem q_746 {S s : State} {args : Array Value} (hT : zT S) (hW : S.WarmedH s.vm) : (Jvm.Cond.code ({ cls := "RescuemarketModel", name := "thrown", desc := "()I" } : Jvm.MethodName) prog_8_method_2_code (1 : Nat) (Option.some Jvm.ClassFile.FieldType.int)).before args s = true := zT_w hT hW (Or.inl (by first | rfl | decide)) 746 (by decide +kernel)
theorem q_747 {S s : State} {args : Array Value} (hT : zT S) (hW : S.WarmedH s.vm) : (Jvm.Cond.methodLink "RescuemarketLaw" (65 : Nat) ({ cls := "RescuemarketModel", name := "boat", desc := "(IIIII)I" } : Jvm.MethodName)).before args s = true := zT_w hT hW (Or.inl (by first | rfl | decide)) 747 (by decide +kernel)
theorem q_748 {S s : State} {args : Array Value} (hT : zT S) (hW : S.WarmedH s.vm) : (Jvm.Cond.instanceMethod ({ cls := "RescuemarketModel", name := "boat", desc := "(IIIII)I" } : Jvm.MethodName)).before args s = true := zT_w hT hW (Or.inl (by first | rfl | decide)) 748 (by decide +kernel)
theorem q_749 {S s : State} {args : Array Value} (hT : zT S) (hW : S.WarmedH s.vm) : (Jvm.Cond.selects "RescuemarketModel" ({ cls := "RescuemarketModel", name := "boat", desc := "(IIIII)I" } : Jvm.MethodName) ({ cls := "RescuemarketModel", name := "boat", desc := "(IIIII)I" } : Jvm.MethodName)).before args s = true := zT_w hT hW (Or.inl (by first | rfl | decide)) 749 (by decide +kernel)
theorem q_750 {S s : State} {args : Array Value} (hT : zT S) (hW : S.WarmedH s.vm) : (Jvm.Cond.code ({ cls := "RescuemarketModel", name := "boat", desc := "(IIIII)I" } : Jvm.MethodName) prog_8_method_7_code (8 : Nat) (Option.some Jvm.ClassFile.FieldType.int)).before args s = true := zT_w hT hW (Or.inl (by first | rfl | decide)) 750 (by decide +kernel)
theorem q_751 {S s : State} {args : Array Value} (hT : zT S) (hW : S.WarmedH s.vm) : (Jvm.Cond.methodLink "RescuemarketModel" (86 : Nat) ({ cls := "RescuemarketModel", name := "in", desc := "(III)Z" } : Jvm.MethodName)).before args s = true := zT_w hT hW (Or.inl (by first | rfl | decide)) 751 (by decide +kernel)
theorem q_753 {S s : State} {args : Array Value} (hT : zT S) (hW : S.WarmedH s.vm) : (Jvm.Cond.instanceMethod ({ cls := "RescuemarketModel", name := "in", desc := "(III)Z" } : Jvm.MethodName)).before args s = true := zT_w hT hW (Or.inl (by first | rfl | decide)) 753 (by decide +kernel)
theorem q_754 {S s : State} {args : Array Value} (hT : zT S) (hW : S.WarmedH s.vm) : (Jvm.Cond.code ({ cls := "RescuemarketModel", name := "in", desc := "(III)Z" } : Jvm.MethodName) prog_8_method_4_code (4 : Nat) (Option.some Jvm.ClassFile.FieldType.boolean)).before args s = true := zT_w hT hW (Or.inl (by first | rfl | decide)) 754 (by decide +kernel)
theorem q_755 {S s : State} {args : Array Value} (hT : zT S) (hW : S.WarmedH s.vm) : (Jvm.Cond.methodLink "RescuemarketModel" (93 : Nat) ({ cls := "RescuemarketModel", name := "fails", desc := "(I)Z" } : Jvm.MethodName)).before args s = true := zT_w hT hW (Or.inl (by first | rfl | decide)) 755 (by decide +kernel)
theorem q_757 {S s : State} {args : Array Value} (hT : zT S) (hW : S.WarmedH s.vm) : (Jvm.Cond.instanceMethod ({ cls := "RescuemarketModel", name := "fails", desc := "(I)Z" } : Jvm.MethodName)).before args s = true := zT_w hT hW (Or.inl (by first | rfl | decide)) 757 (by decide +kernel)
theorem q_758 {S s : State} {args : Array Value} (hT : zT S) (hW : S.WarmedH s.vm) : (Jvm.Cond.code ({ cls := "RescuemarketModel", name := "fails", desc := "(I)Z" } : Jvm.MethodName) prog_8_method_3_code (2 : Nat) (Option.some Jvm.ClassFile.FieldType.boolean)).before args s = true := zT_w hT hW (Or.inl (by first | rfl | decide)) 758 (by decide +kernel)
theorem q_759 {S s : State} {args : Array Value} (hT : zT S) (hW : S.WarmedH s.vm) : (Jvm.Cond.methodLink "RescuemarketLaw" (73 : Nat) ({ cls := "RescuemarketModel", name := "lend", desc := "(II)I" } : Jvm.MethodName)).before args s = true := zT_w hT hW (Or.inl (by first | rfl | decide)) 759 (by decide +kernel)
theorem q_760 {S s : State} {args : Array Value} (hT : zT S) (hW : S.WarmedH s.vm) : (Jvm.Cond.instanceMethod ({ cls := "RescuemarketModel", name := "lend", desc := "(II)I" } : Jvm.MethodName)).before args s = true := zT_w hT hW (Or.inl (by first | rfl | decide)) 760 (by decide +kernel)
theorem q_761 {S s : State} {args : Array Value} (hT : zT S) (hW : S.WarmedH s.vm) : (Jvm.Cond.selects "RescuemarketModel" ({ cls := "RescuemarketModel", name := "lend", desc := "(II)I" } : Jvm.MethodName) ({ cls := "RescuemarketModel", name := "lend", desc := "(II)I" } : Jvm.MethodName)).before args s = true := zT_w hT hW (Or.inl (by first | rfl | decide)) 761 (by decide +kernel)
theorem q_762 {S s : State} {args : Array Value} (hT : zT S) (hW : S.WarmedH s.vm) : (Jvm.Cond.code ({ cls := "RescuemarketModel", name := "lend", desc := "(II)I" } : Jvm.MethodName) prog_8_method_9_code (4 : Nat) (Option.some Jvm.ClassFile.FieldType.int)).before args s = true := zT_w hT hW (Or.inl (by first | rfl | decide)) 762 (by decide +kernel)
theorem q_763 {S s : State} {args : Array Value} (hT : zT S) (hW : S.WarmedH s.vm) : (Jvm.Cond.methodLink "RescuemarketModel" (97 : Nat) ({ cls := "RescuemarketModel", name := "isBoat", desc := "(I)Z" } : Jvm.MethodName)).before args s = true := zT_w hT hW (Or.inl (by first | rfl | decide)) 763 (by decide +kernel)
theorem q_765 {S s : State} {args : Array Value} (hT : zT S) (hW : S.WarmedH s.vm) : (Jvm.Cond.instanceMethod ({ cls := "RescuemarketModel", name := "isBoat", desc := "(I)Z" } : Jvm.MethodName)).before args s = true := zT_w hT hW (Or.inl (by first | rfl | decide)) 765 (by decide +kernel)
theorem q_766 {S s : State} {args : Array Value} (hT : zT S) (hW : S.WarmedH s.vm) : (Jvm.Cond.code ({ cls := "RescuemarketModel", name := "isBoat", desc := "(I)Z" } : Jvm.MethodName) prog_8_method_8_code (2 : Nat) (Option.some Jvm.ClassFile.FieldType.boolean)).before args s = true := zT_w hT hW (Or.inl (by first | rfl | decide)) 766 (by decide +kernel)
theorem q_767 {S s : State} {args : Array Value} (hT : zT S) (hW : S.WarmedH s.vm) : (Jvm.Cond.methodLink "RescuemarketLaw" (76 : Nat) ({ cls := "RescuemarketModel", name := "foretell", desc := "(IIIII)I" } : Jvm.MethodName)).before args s = true := zT_w hT hW (Or.inl (by first | rfl | decide)) 767 (by decide +kernel)
theorem q_768 {S s : State} {args : Array Value} (hT : zT S) (hW : S.WarmedH s.vm) : (Jvm.Cond.instanceMethod ({ cls := "RescuemarketModel", name := "foretell", desc := "(IIIII)I" } : Jvm.MethodName)).before args s = true := zT_w hT hW (Or.inl (by first | rfl | decide)) 768 (by decide +kernel)
theorem q_769 {S s : State} {args : Array Value} (hT : zT S) (hW : S.WarmedH s.vm) : (Jvm.Cond.selects "RescuemarketModel" ({ cls := "RescuemarketModel", name := "foretell", desc := "(IIIII)I" } : Jvm.MethodName) ({ cls := "RescuemarketModel", name := "foretell", desc := "(IIIII)I" } : Jvm.MethodName)).before args s = true := zT_w hT hW (Or.inl (by first | rfl | decide)) 769 (by decide +kernel)
theorem q_770 {S s : State} {args : Array Value} (hT : zT S) (hW : S.WarmedH s.vm) : (Jvm.Cond.code ({ cls := "RescuemarketModel", name := "foretell", desc := "(IIIII)I" } : Jvm.MethodName) prog_8_method_10_code (11 : Nat) (Option.some Jvm.ClassFile.FieldType.int)).before args s = true := zT_w hT hW (Or.inl (by first | rfl | decide)) 770 (by decide +kernel)
theorem q_771 {S s : State} {args : Array Value} (hT : zT S) (hW : S.WarmedH s.vm) : (Jvm.Cond.methodLink "RescuemarketLaw" (80 : Nat) ({ cls := "RescuemarketModel", name := "call", desc := "(III)I" } : Jvm.MethodName)).before args s = true := zT_w hT hW (Or.inl (by first | rfl | decide)) 771 (by decide +kernel)
theorem q_772 {S s : State} {args : Array Value} (hT : zT S) (hW : S.WarmedH s.vm) : (Jvm.Cond.instanceMethod ({ cls := "RescuemarketModel", name := "call", desc := "(III)I" } : Jvm.MethodName)).before args s = true := zT_w hT hW (Or.inl (by first | rfl | decide)) 772 (by decide +kernel)
theorem q_773 {S s : State} {args : Array Value} (hT : zT S) (hW : S.WarmedH s.vm) : (Jvm.Cond.selects "RescuemarketModel" ({ cls := "RescuemarketModel", name := "call", desc := "(III)I" } : Jvm.MethodName) ({ cls := "RescuemarketModel", name := "call", desc := "(III)I" } : Jvm.MethodName)).before args s = true := zT_w hT hW (Or.inl (by first | rfl | decide)) 773 (by decide +kernel)
theorem q_774 {S s : State} {args : Array Value} (hT : zT S) (hW : S.WarmedH s.vm) : (Jvm.Cond.code ({ cls := "RescuemarketModel", name := "call", desc := "(III)I" } : Jvm.MethodName) prog_8_method_11_code (5 : Nat) (Option.some Jvm.ClassFile.FieldType.int)).before args s = true := zT_w hT hW (Or.inl (by first | rfl | decide)) 774 (by decide +kernel)
theorem q_775 {S s : State} {args : Array Value} (hT : zT S) (hW : S.WarmedH s.vm) : (Jvm.Cond.methodLink "RescuemarketLaw" (84 : Nat) ({ cls := "RescuemarketModel", name := "cap", desc := "(I)I" } : Jvm.MethodName)).before args s = true := zT_w hT hW (Or.inl (by first | rfl | decide)) 775 (by decide +kernel)
theorem q_776 {S s : State} {args : Array Value} (hT : zT S) (hW : S.WarmedH s.vm) : (Jvm.Cond.instanceMethod ({ cls := "RescuemarketModel", name := "cap", desc := "(I)I" } : Jvm.MethodName)).before args s = true := zT_w hT hW (Or.inl (by first | rfl | decide)) 776 (by decide +kernel)
theorem q_777 {S s : State} {args : Array Value} (hT : zT S) (hW : S.WarmedH s.vm) : (Jvm.Cond.selects "RescuemarketModel" ({ cls := "RescuemarketModel", name := "cap", desc := "(I)I" } : Jvm.MethodName) ({ cls := "RescuemarketModel", name := "cap", desc := "(I)I" } : Jvm.MethodName)).before args s = true := zT_w hT hW (Or.inl (by first | rfl | decide)) 777 (by decide +kernel)
theorem q_778 {S s : State} {args : Array Value} (hT : zT S) (hW : S.WarmedH s.vm) : (Jvm.Cond.code ({ cls := "RescuemarketModel", name := "cap", desc := "(I)I" } : Jvm.MethodName) prog_8_method_12_code (3 : Nat) (Option.some Jvm.ClassFile.FieldType.int)).before args s = true := zT_w hT hW (Or.inl (by first | rfl | decide)) 778 (by decide +kernel)
theorem q_779 {S s : State} {args : Array Value} (hT : zT S) (hW : S.WarmedH s.vm) : (Jvm.Cond.methodLink "RescuemarketLaw" (87 : Nat) ({ cls := "RescuemarketModel", name := "pass", desc := "(I)I" } : Jvm.MethodName)).before args s = true := zT_w hT hW (Or.inl (by first | rfl | decide)) 779 (by decide +kernel)
theorem q_780 {S s : State} {args : Array Value} (hT : zT S) (hW : S.WarmedH s.vm) : (Jvm.Cond.instanceMethod ({ cls := "RescuemarketModel", name := "pass", desc := "(I)I" } : Jvm.MethodName)).before args s = true := zT_w hT hW (Or.inl (by first | rfl | decide)) 780 (by decide +kernel)
theorem q_781 {S s : State} {args : Array Value} (hT : zT S) (hW : S.WarmedH s.vm) : (Jvm.Cond.selects "RescuemarketModel" ({ cls := "RescuemarketModel", name := "pass", desc := "(I)I" } : Jvm.MethodName) ({ cls := "RescuemarketModel", name := "pass", desc := "(I)I" } : Jvm.MethodName)).before args s = true := zT_w hT hW (Or.inl (by first | rfl | decide)) 781 (by decide +kernel)
theorem q_782 {S s : State} {args : Array Value} (hT : zT S) (hW : S.WarmedH s.vm) : (Jvm.Cond.code ({ cls := "RescuemarketModel", name := "pass", desc := "(I)I" } : Jvm.MethodName) prog_8_method_20_code (3 : Nat) (Option.some Jvm.ClassFile.FieldType.int)).before args s = true := zT_w hT hW (Or.inl (by first | rfl | decide)) 782 (by decide +kernel)
theorem q_783 {S s : State} {args : Array Value} (hT : zT S) (hW : S.WarmedH s.vm) : (Jvm.Cond.methodLink "RescuemarketModel" (131 : Nat) ({ cls := "RescuemarketModel", name := "goes", desc := "()V" } : Jvm.MethodName)).before args s = true := zT_w hT hW (Or.inl (by first | rfl | decide)) 783 (by decide +kernel)
theorem q_785 {S s : State} {args : Array Value} (hT : zT S) (hW : S.WarmedH s.vm) : (Jvm.Cond.instanceMethod ({ cls := "RescuemarketModel", name := "goes", desc := "()V" } : Jvm.MethodName)).before args s = true := zT_w hT hW (Or.inl (by first | rfl | decide)) 785 (by decide +kernel)
theorem q_786 {S s : State} {args : Array Value} (hT : zT S) (hW : S.WarmedH s.vm) : (Jvm.Cond.code ({ cls := "RescuemarketModel", name := "goes", desc := "()V" } : Jvm.MethodName) prog_8_method_19_code (2 : Nat) (Option.none : Option Jvm.ClassFile.FieldType)).before args s = true := zT_w hT hW (Or.inl (by first | rfl | decide)) 786 (by decide +kernel)
theorem q_787 {S s : State} {args : Array Value} (hT : zT S) (hW : S.WarmedH s.vm) : (Jvm.Cond.methodLink "RescuemarketModel" (121 : Nat) ({ cls := "RescuemarketModel", name := "turnsBack", desc := "(I)V" } : Jvm.MethodName)).before args s = true := zT_w hT hW (Or.inl (by first | rfl | decide)) 787 (by decide +kernel)
theorem q_789 {S s : State} {args : Array Value} (hT : zT S) (hW : S.WarmedH s.vm) : (Jvm.Cond.instanceMethod ({ cls := "RescuemarketModel", name := "turnsBack", desc := "(I)V" } : Jvm.MethodName)).before args s = true := zT_w hT hW (Or.inl (by first | rfl | decide)) 789 (by decide +kernel)
theorem q_790 {S s : State} {args : Array Value} (hT : zT S) (hW : S.WarmedH s.vm) : (Jvm.Cond.code ({ cls := "RescuemarketModel", name := "turnsBack", desc := "(I)V" } : Jvm.MethodName) prog_8_method_13_code (4 : Nat) (Option.none : Option Jvm.ClassFile.FieldType)).before args s = true := zT_w hT hW (Or.inl (by first | rfl | decide)) 790 (by decide +kernel)
theorem q_791 {S s : State} {args : Array Value} (hT : zT S) (hW : S.WarmedH s.vm) : (Jvm.Cond.methodLink "RescuemarketModel" (125 : Nat) ({ cls := "RescuemarketModel", name := "arrives", desc := "(I)V" } : Jvm.MethodName)).before args s = true := zT_w hT hW (Or.inl (by first | rfl | decide)) 791 (by decide +kernel)
theorem q_793 {S s : State} {args : Array Value} (hT : zT S) (hW : S.WarmedH s.vm) : (Jvm.Cond.instanceMethod ({ cls := "RescuemarketModel", name := "arrives", desc := "(I)V" } : Jvm.MethodName)).before args s = true := zT_w hT hW (Or.inl (by first | rfl | decide)) 793 (by decide +kernel)
theorem q_794 {S s : State} {args : Array Value} (hT : zT S) (hW : S.WarmedH s.vm) : (Jvm.Cond.code ({ cls := "RescuemarketModel", name := "arrives", desc := "(I)V" } : Jvm.MethodName) prog_8_method_15_code (4 : Nat) (Option.none : Option Jvm.ClassFile.FieldType)).before args s = true := zT_w hT hW (Or.inl (by first | rfl | decide)) 794 (by decide +kernel)
theorem q_795 {S s : State} {args : Array Value} (hT : zT S) (hW : S.WarmedH s.vm) : (Jvm.Cond.methodLink "RescuemarketModel" (110 : Nat) ({ cls := "RescuemarketModel", name := "pays", desc := "(II)V" } : Jvm.MethodName)).before args s = true := zT_w hT hW (Or.inl (by first | rfl | decide)) 795 (by decide +kernel)
theorem q_797 {S s : State} {args : Array Value} (hT : zT S) (hW : S.WarmedH s.vm) : (Jvm.Cond.instanceMethod ({ cls := "RescuemarketModel", name := "pays", desc := "(II)V" } : Jvm.MethodName)).before args s = true := zT_w hT hW (Or.inl (by first | rfl | decide)) 797 (by decide +kernel)
theorem q_798 {S s : State} {args : Array Value} (hT : zT S) (hW : S.WarmedH s.vm) : (Jvm.Cond.code ({ cls := "RescuemarketModel", name := "pays", desc := "(II)V" } : Jvm.MethodName) prog_8_method_14_code (5 : Nat) (Option.none : Option Jvm.ClassFile.FieldType)).before args s = true := zT_w hT hW (Or.inl (by first | rfl | decide)) 798 (by decide +kernel)
theorem q_799 {S s : State} {args : Array Value} (hT : zT S) (hW : S.WarmedH s.vm) : (Jvm.Cond.methodLink "RescuemarketModel" (106 : Nat) ({ cls := "RescuemarketModel", name := "way", desc := "(II)I" } : Jvm.MethodName)).before args s = true := zT_w hT hW (Or.inl (by first | rfl | decide)) 799 (by decide +kernel)
theorem q_801 {S s : State} {args : Array Value} (hT : zT S) (hW : S.WarmedH s.vm) : (Jvm.Cond.instanceMethod ({ cls := "RescuemarketModel", name := "way", desc := "(II)I" } : Jvm.MethodName)).before args s = true := zT_w hT hW (Or.inl (by first | rfl | decide)) 801 (by decide +kernel)
theorem q_802 {S s : State} {args : Array Value} (hT : zT S) (hW : S.WarmedH s.vm) : (Jvm.Cond.code ({ cls := "RescuemarketModel", name := "way", desc := "(II)I" } : Jvm.MethodName) prog_8_method_6_code (3 : Nat) (Option.some Jvm.ClassFile.FieldType.int)).before args s = true := zT_w hT hW (Or.inl (by first | rfl | decide)) 802 (by decide +kernel)
theorem q_803 {S s : State} {args : Array Value} (hT : zT S) (hW : S.WarmedH s.vm) : (Jvm.Cond.methodLink "RescuemarketModel" (82 : Nat) ({ cls := "RescuemarketModel", name := "flat", desc := "(I)I" } : Jvm.MethodName)).before args s = true := zT_w hT hW (Or.inl (by first | rfl | decide)) 803 (by decide +kernel)
theorem q_805 {S s : State} {args : Array Value} (hT : zT S) (hW : S.WarmedH s.vm) : (Jvm.Cond.instanceMethod ({ cls := "RescuemarketModel", name := "flat", desc := "(I)I" } : Jvm.MethodName)).before args s = true := zT_w hT hW (Or.inl (by first | rfl | decide)) 805 (by decide +kernel)
theorem q_806 {S s : State} {args : Array Value} (hT : zT S) (hW : S.WarmedH s.vm) : (Jvm.Cond.code ({ cls := "RescuemarketModel", name := "flat", desc := "(I)I" } : Jvm.MethodName) prog_8_method_5_code (2 : Nat) (Option.some Jvm.ClassFile.FieldType.int)).before args s = true := zT_w hT hW (Or.inl (by first | rfl | decide)) 806 (by decide +kernel)
theorem q_807 {S s : State} {args : Array Value} (hT : zT S) (hW : S.WarmedH s.vm) : (Jvm.Cond.methodLink "RescuemarketModel" (128 : Nat) ({ cls := "RescuemarketModel", name := "tasks", desc := "(I)V" } : Jvm.MethodName)).before args s = true := zT_w hT hW (Or.inl (by first | rfl | decide)) 807 (by decide +kernel)
theorem q_809 {S s : State} {args : Array Value} (hT : zT S) (hW : S.WarmedH s.vm) : (Jvm.Cond.instanceMethod ({ cls := "RescuemarketModel", name := "tasks", desc := "(I)V" } : Jvm.MethodName)).before args s = true := zT_w hT hW (Or.inl (by first | rfl | decide)) 809 (by decide +kernel)
theorem q_810 {S s : State} {args : Array Value} (hT : zT S) (hW : S.WarmedH s.vm) : (Jvm.Cond.code ({ cls := "RescuemarketModel", name := "tasks", desc := "(I)V" } : Jvm.MethodName) prog_8_method_18_code (4 : Nat) (Option.none : Option Jvm.ClassFile.FieldType)).before args s = true := zT_w hT hW (Or.inl (by first | rfl | decide)) 810 (by decide +kernel)
theorem q_811 {S s : State} {args : Array Value} (hT : zT S) (hW : S.WarmedH s.vm) : (Jvm.Cond.methodLink "RescuemarketModel" (117 : Nat) ({ cls := "RescuemarketModel", name := "can", desc := "(II)Z" } : Jvm.MethodName)).before args s = true := zT_w hT hW (Or.inl (by first | rfl | decide)) 811 (by decide +kernel)
theorem q_813 {S s : State} {args : Array Value} (hT : zT S) (hW : S.WarmedH s.vm) : (Jvm.Cond.instanceMethod ({ cls := "RescuemarketModel", name := "can", desc := "(II)Z" } : Jvm.MethodName)).before args s = true := zT_w hT hW (Or.inl (by first | rfl | decide)) 813 (by decide +kernel)
theorem q_814 {S s : State} {args : Array Value} (hT : zT S) (hW : S.WarmedH s.vm) : (Jvm.Cond.code ({ cls := "RescuemarketModel", name := "can", desc := "(II)Z" } : Jvm.MethodName) prog_8_method_17_code (5 : Nat) (Option.some Jvm.ClassFile.FieldType.boolean)).before args s = true := zT_w hT hW (Or.inl (by first | rfl | decide)) 814 (by decide +kernel)
theorem q_815 {S s : State} {args : Array Value} (hT : zT S) (hW : S.WarmedH s.vm) : (Jvm.Cond.methodLink "RescuemarketModel" (114 : Nat) ({ cls := "RescuemarketModel", name := "hours", desc := "(II)I" } : Jvm.MethodName)).before args s = true := zT_w hT hW (Or.inl (by first | rfl | decide)) 815 (by decide +kernel)
theorem q_817 {S s : State} {args : Array Value} (hT : zT S) (hW : S.WarmedH s.vm) : (Jvm.Cond.instanceMethod ({ cls := "RescuemarketModel", name := "hours", desc := "(II)I" } : Jvm.MethodName)).before args s = true := zT_w hT hW (Or.inl (by first | rfl | decide)) 817 (by decide +kernel)
theorem q_818 {S s : State} {args : Array Value} (hT : zT S) (hW : S.WarmedH s.vm) : (Jvm.Cond.code ({ cls := "RescuemarketModel", name := "hours", desc := "(II)I" } : Jvm.MethodName) prog_8_method_16_code (4 : Nat) (Option.some Jvm.ClassFile.FieldType.int)).before args s = true := zT_w hT hW (Or.inl (by first | rfl | decide)) 818 (by decide +kernel)
theorem q_819 {S s : State} {args : Array Value} (hT : zT S) (hW : S.WarmedH s.vm) : (Jvm.Cond.methodLink "RescuemarketLaw" (90 : Nat) ({ cls := "RescuemarketModel", name := "storm", desc := "(II)I" } : Jvm.MethodName)).before args s = true := zT_w hT hW (Or.inl (by first | rfl | decide)) 819 (by decide +kernel)
theorem q_820 {S s : State} {args : Array Value} (hT : zT S) (hW : S.WarmedH s.vm) : (Jvm.Cond.instanceMethod ({ cls := "RescuemarketModel", name := "storm", desc := "(II)I" } : Jvm.MethodName)).before args s = true := zT_w hT hW (Or.inl (by first | rfl | decide)) 820 (by decide +kernel)
theorem q_821 {S s : State} {args : Array Value} (hT : zT S) (hW : S.WarmedH s.vm) : (Jvm.Cond.selects "RescuemarketModel" ({ cls := "RescuemarketModel", name := "storm", desc := "(II)I" } : Jvm.MethodName) ({ cls := "RescuemarketModel", name := "storm", desc := "(II)I" } : Jvm.MethodName)).before args s = true := zT_w hT hW (Or.inl (by first | rfl | decide)) 821 (by decide +kernel)
theorem q_822 {S s : State} {args : Array Value} (hT : zT S) (hW : S.WarmedH s.vm) : (Jvm.Cond.code ({ cls := "RescuemarketModel", name := "storm", desc := "(II)I" } : Jvm.MethodName) prog_8_method_21_code (3 : Nat) (Option.some Jvm.ClassFile.FieldType.int)).before args s = true := zT_w hT hW (Or.inl (by first | rfl | decide)) 822 (by decide +kernel)
theorem q_823 {S s : State} {args : Array Value} (hT : zT S) (hW : S.WarmedH s.vm) : (Jvm.Cond.methodLink "RescuemarketLaw" (93 : Nat) ({ cls := "RescuemarketModel", name := "ofBoat", desc := "(II)I" } : Jvm.MethodName)).before args s = true := zT_w hT hW (Or.inl (by first | rfl | decide)) 823 (by decide +kernel)
theorem q_824 {S s : State} {args : Array Value} (hT : zT S) (hW : S.WarmedH s.vm) : (Jvm.Cond.instanceMethod ({ cls := "RescuemarketModel", name := "ofBoat", desc := "(II)I" } : Jvm.MethodName)).before args s = true := zT_w hT hW (Or.inl (by first | rfl | decide)) 824 (by decide +kernel)
theorem q_825 {S s : State} {args : Array Value} (hT : zT S) (hW : S.WarmedH s.vm) : (Jvm.Cond.selects "RescuemarketModel" ({ cls := "RescuemarketModel", name := "ofBoat", desc := "(II)I" } : Jvm.MethodName) ({ cls := "RescuemarketModel", name := "ofBoat", desc := "(II)I" } : Jvm.MethodName)).before args s = true := zT_w hT hW (Or.inl (by first | rfl | decide)) 825 (by decide +kernel)
theorem q_826 {S s : State} {args : Array Value} (hT : zT S) (hW : S.WarmedH s.vm) : (Jvm.Cond.code ({ cls := "RescuemarketModel", name := "ofBoat", desc := "(II)I" } : Jvm.MethodName) prog_8_method_22_code (3 : Nat) (Option.some Jvm.ClassFile.FieldType.int)).before args s = true := zT_w hT hW (Or.inl (by first | rfl | decide)) 826 (by decide +kernel)
theorem q_827 {S s : State} {args : Array Value} (hT : zT S) (hW : S.WarmedH s.vm) : (Jvm.Cond.methodLink "RescuemarketLaw" (96 : Nat) ({ cls := "RescuemarketModel", name := "ofCall", desc := "(II)I" } : Jvm.MethodName)).before args s = true := zT_w hT hW (Or.inl (by first | rfl | decide)) 827 (by decide +kernel)
theorem q_828 {S s : State} {args : Array Value} (hT : zT S) (hW : S.WarmedH s.vm) : (Jvm.Cond.instanceMethod ({ cls := "RescuemarketModel", name := "ofCall", desc := "(II)I" } : Jvm.MethodName)).before args s = true := zT_w hT hW (Or.inl (by first | rfl | decide)) 828 (by decide +kernel)
theorem q_829 {S s : State} {args : Array Value} (hT : zT S) (hW : S.WarmedH s.vm) : (Jvm.Cond.selects "RescuemarketModel" ({ cls := "RescuemarketModel", name := "ofCall", desc := "(II)I" } : Jvm.MethodName) ({ cls := "RescuemarketModel", name := "ofCall", desc := "(II)I" } : Jvm.MethodName)).before args s = true := zT_w hT hW (Or.inl (by first | rfl | decide)) 829 (by decide +kernel)
theorem q_830 {S s : State} {args : Array Value} (hT : zT S) (hW : S.WarmedH s.vm) : (Jvm.Cond.code ({ cls := "RescuemarketModel", name := "ofCall", desc := "(II)I" } : Jvm.MethodName) prog_8_method_23_code (3 : Nat) (Option.some Jvm.ClassFile.FieldType.int)).before args s = true := zT_w hT hW (Or.inl (by first | rfl | decide)) 830 (by decide +kernel)
theorem q_831 {S s : State} {args : Array Value} (hT : zT S) (hW : S.WarmedH s.vm) : (Jvm.Cond.methodLink "RescuemarketLaw" (99 : Nat) ({ cls := "RescuemarketModel", name := "rewards", desc := "(I)I" } : Jvm.MethodName)).before args s = true := zT_w hT hW (Or.inl (by first | rfl | decide)) 831 (by decide +kernel)
theorem q_832 {S s : State} {args : Array Value} (hT : zT S) (hW : S.WarmedH s.vm) : (Jvm.Cond.instanceMethod ({ cls := "RescuemarketModel", name := "rewards", desc := "(I)I" } : Jvm.MethodName)).before args s = true := zT_w hT hW (Or.inl (by first | rfl | decide)) 832 (by decide +kernel)
theorem q_833 {S s : State} {args : Array Value} (hT : zT S) (hW : S.WarmedH s.vm) : (Jvm.Cond.selects "RescuemarketModel" ({ cls := "RescuemarketModel", name := "rewards", desc := "(I)I" } : Jvm.MethodName) ({ cls := "RescuemarketModel", name := "rewards", desc := "(I)I" } : Jvm.MethodName)).before args s = true := zT_w hT hW (Or.inl (by first | rfl | decide)) 833 (by decide +kernel)
theorem q_834 {S s : State} {args : Array Value} (hT : zT S) (hW : S.WarmedH s.vm) : (Jvm.Cond.code ({ cls := "RescuemarketModel", name := "rewards", desc := "(I)I" } : Jvm.MethodName) prog_8_method_24_code (2 : Nat) (Option.some Jvm.ClassFile.FieldType.int)).before args s = true := zT_w hT hW (Or.inl (by first | rfl | decide)) 834 (by decide +kernel)
theorem q_835 {S s : State} {args : Array Value} (hT : zT S) (hW : S.WarmedH s.vm) : (Jvm.Cond.methodLink "RescuemarketLaw" (102 : Nat) ({ cls := "RescuemarketModel", name := "rewardsAnew", desc := "(I)I" } : Jvm.MethodName)).before args s = true := zT_w hT hW (Or.inl (by first | rfl | decide)) 835 (by decide +kernel)
theorem q_836 {S s : State} {args : Array Value} (hT : zT S) (hW : S.WarmedH s.vm) : (Jvm.Cond.instanceMethod ({ cls := "RescuemarketModel", name := "rewardsAnew", desc := "(I)I" } : Jvm.MethodName)).before args s = true := zT_w hT hW (Or.inl (by first | rfl | decide)) 836 (by decide +kernel)
theorem q_837 {S s : State} {args : Array Value} (hT : zT S) (hW : S.WarmedH s.vm) : (Jvm.Cond.selects "RescuemarketModel" ({ cls := "RescuemarketModel", name := "rewardsAnew", desc := "(I)I" } : Jvm.MethodName) ({ cls := "RescuemarketModel", name := "rewardsAnew", desc := "(I)I" } : Jvm.MethodName)).before args s = true := zT_w hT hW (Or.inl (by first | rfl | decide)) 837 (by decide +kernel)
theorem q_838 {S s : State} {args : Array Value} (hT : zT S) (hW : S.WarmedH s.vm) : (Jvm.Cond.code ({ cls := "RescuemarketModel", name := "rewardsAnew", desc := "(I)I" } : Jvm.MethodName) prog_8_method_25_code (2 : Nat) (Option.some Jvm.ClassFile.FieldType.int)).before args s = true := zT_w hT hW (Or.inl (by first | rfl | decide)) 838 (by decide +kernel)
theorem q_839 {S s : State} {args : Array Value} (hT : zT S) (hW : S.WarmedH s.vm) : (Jvm.Cond.methodLink "RescuemarketLaw" (106 : Nat) ({ cls := "RescuemarketModel", name := "premium", desc := "(I)F" } : Jvm.MethodName)).before args s = true := zT_w hT hW (Or.inl (by first | rfl | decide)) 839 (by decide +kernel)
theorem q_840 {S s : State} {args : Array Value} (hT : zT S) (hW : S.WarmedH s.vm) : (Jvm.Cond.instanceMethod ({ cls := "RescuemarketModel", name := "premium", desc := "(I)F" } : Jvm.MethodName)).before args s = true := zT_w hT hW (Or.inl (by first | rfl | decide)) 840 (by decide +kernel)
theorem q_841 {S s : State} {args : Array Value} (hT : zT S) (hW : S.WarmedH s.vm) : (Jvm.Cond.selects "RescuemarketModel" ({ cls := "RescuemarketModel", name := "premium", desc := "(I)F" } : Jvm.MethodName) ({ cls := "RescuemarketModel", name := "premium", desc := "(I)F" } : Jvm.MethodName)).before args s = true := zT_w hT hW (Or.inl (by first | rfl | decide)) 841 (by decide +kernel)
theorem q_842 {S s : State} {args : Array Value} (hT : zT S) (hW : S.WarmedH s.vm) : (Jvm.Cond.code ({ cls := "RescuemarketModel", name := "premium", desc := "(I)F" } : Jvm.MethodName) prog_8_method_26_code (5 : Nat) (Option.some Jvm.ClassFile.FieldType.float)).before args s = true := zT_w hT hW (Or.inl (by first | rfl | decide)) 842 (by decide +kernel)
theorem q_843 {S s : State} {args : Array Value} (hT : zT S) (hW : S.WarmedH s.vm) : (Jvm.Cond.constantFloat "RescuemarketModel" (134 : Nat) (3212836864 : UInt32)).before args s = true := zT_w hT hW (Or.inl (by first | rfl | decide)) 843 (by decide +kernel)
theorem q_844 {S s : State} {args : Array Value} (hT : zT S) (hW : S.WarmedH s.vm) : (Jvm.Cond.constantFloat "RescuemarketModel" (135 : Nat) (1069547520 : UInt32)).before args s = true := zT_w hT hW (Or.inl (by first | rfl | decide)) 844 (by decide +kernel)
theorem q_845 {S s : State} {args : Array Value} (hT : zT S) (hW : S.WarmedH s.vm) : (Jvm.Cond.constantFloat "RescuemarketModel" (136 : Nat) (1048576000 : UInt32)).before args s = true := zT_w hT hW (Or.inl (by first | rfl | decide)) 845 (by decide +kernel)
theorem q_846 {S s : State} {args : Array Value} (hT : zT S) (hW : S.WarmedH s.vm) : (Jvm.Cond.arrayClass Jvm.ClassFile.FieldType.double).before args s = true := zT_w hT hW (Or.inr ⟨_, rfl⟩) 846 (by decide +kernel)
theorem q_847 {S s : State} {args : Array Value} (hT : zT S) (hW : S.WarmedH s.vm) : (Jvm.Cond.sameMethod "java/lang/Throwable" "java/lang/Throwable" "fillInStackTrace" "(I)Ljava/lang/Throwable;").before args s = true := zT_w hT hW (Or.inl (by first | rfl | decide)) 847 (by decide +kernel)
theorem q_848 {S s : State} (hT : zT S) (hW : S.WarmedH s.vm) : va_Nw (Jvm.Cond.castable "Rescuemarket" "java/lang/Object") s := va_Nw.warmC hW (va_Nw.of rfl (hT _ (List.mem_append_right _ (List.mem_of_getElem? (i := 848) (by decide +kernel)))))
theorem q_849 {S s : State} (hT : zT S) (hW : S.WarmedH s.vm) : va_Nw (Jvm.Cond.castable "Rescuemarket$Weather" "java/lang/Object") s := va_Nw.warmC hW (va_Nw.of rfl (hT _ (List.mem_append_right _ (List.mem_of_getElem? (i := 849) (by decide +kernel)))))
theorem q_850 {S s : State} (hT : zT S) (hW : S.WarmedH s.vm) : va_Nw (Jvm.Cond.castable "Rescuemarket$Ledger" "java/lang/Object") s := va_Nw.warmC hW (va_Nw.of rfl (hT _ (List.mem_append_right _ (List.mem_of_getElem? (i := 850) (by decide +kernel)))))
theorem q_851 {S s : State} (hT : zT S) (hW : S.WarmedH s.vm) : va_Nw (Jvm.Cond.castable "java/util/ArrayList" "java/lang/Object") s := va_Nw.warmC hW (va_Nw.of rfl (hT _ (List.mem_append_right _ (List.mem_of_getElem? (i := 851) (by decide +kernel)))))
theorem q_852 {S s : State} (hT : zT S) (hW : S.WarmedH s.vm) : va_Nw (Jvm.Cond.castable "RescuemarketModel" "java/lang/Object") s := va_Nw.warmC hW (va_Nw.of rfl (hT _ (List.mem_append_right _ (List.mem_of_getElem? (i := 852) (by decide +kernel)))))
theorem q_853 {S s : State} (hT : zT S) (hW : S.WarmedH s.vm) : va_Nw (Jvm.Cond.castable "java/lang/IndexOutOfBoundsException" "java/lang/Object") s := va_Nw.warmC hW (va_Nw.of rfl (hT _ (List.mem_append_right _ (List.mem_of_getElem? (i := 853) (by decide +kernel)))))
theorem q_854 {S s : State} (hT : zT S) (hW : S.WarmedH s.vm) : va_Nw (Jvm.Cond.castable "java/lang/IllegalArgumentException" "java/lang/Object") s := va_Nw.warmC hW (va_Nw.of rfl (hT _ (List.mem_append_right _ (List.mem_of_getElem? (i := 854) (by decide +kernel)))))
theorem q_855 {S s : State} (hT : zT S) (hW : S.WarmedH s.vm) : va_Nw (Jvm.Cond.castable "java/lang/IllegalStateException" "java/lang/Object") s := va_Nw.warmC hW (va_Nw.of rfl (hT _ (List.mem_append_right _ (List.mem_of_getElem? (i := 855) (by decide +kernel)))))
theorem q_856 {S s : State} (hT : zT S) (hW : S.WarmedH s.vm) : va_Nw (Jvm.Cond.castable "Rescuemarket$Boat" "java/lang/Object") s := va_Nw.warmC hW (va_Nw.of rfl (hT _ (List.mem_append_right _ (List.mem_of_getElem? (i := 856) (by decide +kernel)))))
theorem q_857 {S s : State} (hT : zT S) (hW : S.WarmedH s.vm) : va_Nw (Jvm.Cond.castable "Rescuemarket$Call" "java/lang/Object") s := va_Nw.warmC hW (va_Nw.of rfl (hT _ (List.mem_append_right _ (List.mem_of_getElem? (i := 857) (by decide +kernel)))))
theorem q_858 {S s : State} (hT : zT S) (hW : S.WarmedH s.vm) : va_Nw (Jvm.Cond.castable "Rescuemarket$Deed" "java/lang/Object") s := va_Nw.warmC hW (va_Nw.of rfl (hT _ (List.mem_append_right _ (List.mem_of_getElem? (i := 858) (by decide +kernel)))))
theorem q_859 {S s : State} (hT : zT S) (hW : S.WarmedH s.vm) : va_Nw (Jvm.Cond.castable "java/lang/Throwable" "java/lang/Object") s := va_Nw.warmC hW (va_Nw.of rfl (hT _ (List.mem_append_right _ (List.mem_of_getElem? (i := 859) (by decide +kernel)))))
theorem q_860 {S s : State} (hT : zT S) (hW : S.WarmedH s.vm) : va_Nw (Jvm.Cond.castable "java/lang/String" "java/lang/Object") s := va_Nw.warmC hW (va_Nw.of rfl (hT _ (List.mem_append_right _ (List.mem_of_getElem? (i := 860) (by decide +kernel)))))
theorem q_861 {S s : State} {args : Array Value} (hT : zT S) (hW : S.WarmedH s.vm) : (Jvm.Cond.sameMethod "[Ljava/lang/Object;" "java/lang/Object" "getClass" "()Ljava/lang/Class;").before args s = true := zT_w hT hW (Or.inl (by first | rfl | decide)) 861 (by decide +kernel)
theorem q_862 {S s : State} {args : Array Value} (hT : zT S) (hW : S.WarmedH s.vm) : (Jvm.Cond.selects "[Ljava/lang/Object;" ({ cls := "java/lang/Object", name := "getClass", desc := "()Ljava/lang/Class;" } : Jvm.MethodName) ({ cls := "java/lang/Object", name := "getClass", desc := "()Ljava/lang/Class;" } : Jvm.MethodName)).before args s = true := zT_w hT hW (Or.inl (by first | rfl | decide)) 862 (by decide +kernel)
theorem q_863 {S : State} (hT : zT S) : (Jvm.Cond.declares ({ cls := "java/lang/Object", name := "getClass", desc := "()Ljava/lang/Class;" } : Jvm.MethodName)).before #[] S = true := hT _ (List.mem_append_right _ (List.mem_of_getElem? (i := 863) (by decide +kernel)))
theorem q_864 {S s : State} (hT : zT S) (hW : S.WarmedH s.vm) : va_Nw (Jvm.Cond.castable "[J" "java/lang/Object") s := va_Nw.warmC hW (va_Nw.of rfl (hT _ (List.mem_append_right _ (List.mem_of_getElem? (i := 864) (by decide +kernel)))))
theorem q_865 {S s : State} (hT : zT S) (hW : S.WarmedH s.vm) : va_Nw (Jvm.Cond.castable "[I" "java/lang/Object") s := va_Nw.warmC hW (va_Nw.of rfl (hT _ (List.mem_append_right _ (List.mem_of_getElem? (i := 865) (by decide +kernel)))))
theorem q_866 {S s : State} (hT : zT S) (hW : S.WarmedH s.vm) : va_Nw (Jvm.Cond.castable "[B" "java/lang/Object") s := va_Nw.warmC hW (va_Nw.of rfl (hT _ (List.mem_append_right _ (List.mem_of_getElem? (i := 866) (by decide +kernel)))))
theorem q_867 {S s : State} (hT : zT S) (hW : S.WarmedH s.vm) : va_Nw (Jvm.Cond.castable "[Ljava/lang/Object;" "java/lang/Object") s := va_Nw.warmC hW (va_Nw.of rfl (hT _ (List.mem_append_right _ (List.mem_of_getElem? (i := 867) (by decide +kernel)))))
theorem q_868 {S s : State} (hT : zT S) (hW : S.WarmedH s.vm) : va_Nw (Jvm.Cond.castable "[D" "java/lang/Object") s := va_Nw.warmC hW (va_Nw.of rfl (hT _ (List.mem_append_right _ (List.mem_of_getElem? (i := 868) (by decide +kernel)))))
theorem q_p0 {S s : State} {args : Array Value} (hT : zT S) (hW : S.WarmedH s.vm) : (Cond.selects "java/lang/Throwable" ⟨"java/lang/Throwable", "fillInStackTrace", "(I)Ljava/lang/Throwable;"⟩ ⟨"java/lang/Throwable", "fillInStackTrace", "(I)Ljava/lang/Throwable;"⟩).before args s = true := zT_p hT hW (Or.inl (by first | rfl | decide)) 0 (by decide +kernel)
theorem q_p1 {S s : State} {args : Array Value} (hT : zT S) (hW : S.WarmedH s.vm) : (Cond.selects "java/util/ArrayList" ⟨"java/util/ArrayList", "add", "(Ljava/lang/Object;[Ljava/lang/Object;I)V"⟩ ⟨"java/util/ArrayList", "add", "(Ljava/lang/Object;[Ljava/lang/Object;I)V"⟩).before args s = true := zT_p hT hW (Or.inl (by first | rfl | decide)) 1 (by decide +kernel)
theorem q_p2 {S s : State} {args : Array Value} (hT : zT S) (hW : S.WarmedH s.vm) : (Cond.selects "java/util/ArrayList" ⟨"java/util/ArrayList", "grow", "()[Ljava/lang/Object;"⟩ ⟨"java/util/ArrayList", "grow", "()[Ljava/lang/Object;"⟩).before args s = true := zT_p hT hW (Or.inl (by first | rfl | decide)) 2 (by decide +kernel)
theorem q_p3 {S s : State} {args : Array Value} (hT : zT S) (hW : S.WarmedH s.vm) : (Cond.selects "java/util/ArrayList" ⟨"java/util/ArrayList", "grow", "(I)[Ljava/lang/Object;"⟩ ⟨"java/util/ArrayList", "grow", "(I)[Ljava/lang/Object;"⟩).before args s = true := zT_p hT hW (Or.inl (by first | rfl | decide)) 3 (by decide +kernel)
theorem q_p4 {S s : State} {args : Array Value} (hT : zT S) (hW : S.WarmedH s.vm) : (Cond.selects "Rescuemarket" ⟨"Rescuemarket", "boatNumbered", "(I)LRescuemarket$Boat;"⟩ ⟨"Rescuemarket", "boatNumbered", "(I)LRescuemarket$Boat;"⟩).before args s = true := zT_p hT hW (Or.inl (by first | rfl | decide)) 4 (by decide +kernel)
theorem q_p5 {S s : State} {args : Array Value} (hT : zT S) (hW : S.WarmedH s.vm) : (Cond.selects "Rescuemarket" ⟨"Rescuemarket", "turnBoatsBack", "()V"⟩ ⟨"Rescuemarket", "turnBoatsBack", "()V"⟩).before args s = true := zT_p hT hW (Or.inl (by first | rfl | decide)) 5 (by decide +kernel)
theorem q_p6 {S s : State} {args : Array Value} (hT : zT S) (hW : S.WarmedH s.vm) : (Cond.selects "Rescuemarket$Boat" ⟨"Rescuemarket$Boat", "burn", "(I)V"⟩ ⟨"Rescuemarket$Boat", "burn", "(I)V"⟩).before args s = true := zT_p hT hW (Or.inl (by first | rfl | decide)) 6 (by decide +kernel)
theorem q_p7 {S s : State} {args : Array Value} (hT : zT S) (hW : S.WarmedH s.vm) : (Cond.selects "Rescuemarket$Boat" ⟨"Rescuemarket$Boat", "headHome", "(I)V"⟩ ⟨"Rescuemarket$Boat", "headHome", "(I)V"⟩).before args s = true := zT_p hT hW (Or.inl (by first | rfl | decide)) 7 (by decide +kernel)
theorem q_p8 {S s : State} {args : Array Value} (hT : zT S) (hW : S.WarmedH s.vm) : (Cond.selects "Rescuemarket" ⟨"Rescuemarket", "letBoatsArrive", "()V"⟩ ⟨"Rescuemarket", "letBoatsArrive", "()V"⟩).before args s = true := zT_p hT hW (Or.inl (by first | rfl | decide)) 8 (by decide +kernel)
theorem q_p9 {S s : State} {args : Array Value} (hT : zT S) (hW : S.WarmedH s.vm) : (Cond.selects "Rescuemarket" ⟨"Rescuemarket", "finish", "(LRescuemarket$Boat;LRescuemarket$Call;)V"⟩ ⟨"Rescuemarket", "finish", "(LRescuemarket$Boat;LRescuemarket$Call;)V"⟩).before args s = true := zT_p hT hW (Or.inl (by first | rfl | decide)) 9 (by decide +kernel)
theorem q_p10 {S s : State} {args : Array Value} (hT : zT S) (hW : S.WarmedH s.vm) : (Cond.selects "Rescuemarket" ⟨"Rescuemarket", "freeBoatsThatRested", "()V"⟩ ⟨"Rescuemarket", "freeBoatsThatRested", "()V"⟩).before args s = true := zT_p hT hW (Or.inl (by first | rfl | decide)) 10 (by decide +kernel)
theorem q_p11 {S s : State} {args : Array Value} (hT : zT S) (hW : S.WarmedH s.vm) : (Cond.selects "Rescuemarket" ⟨"Rescuemarket", "answerCalls", "()V"⟩ ⟨"Rescuemarket", "answerCalls", "()V"⟩).before args s = true := zT_p hT hW (Or.inl (by first | rfl | decide)) 11 (by decide +kernel)
theorem q_p12 {S s : State} {args : Array Value} (hT : zT S) (hW : S.WarmedH s.vm) : (Cond.selects "Rescuemarket" ⟨"Rescuemarket", "boatFirstThere", "(LRescuemarket$Call;)LRescuemarket$Boat;"⟩ ⟨"Rescuemarket", "boatFirstThere", "(LRescuemarket$Call;)LRescuemarket$Boat;"⟩).before args s = true := zT_p hT hW (Or.inl (by first | rfl | decide)) 12 (by decide +kernel)
theorem q_p13 {S s : State} {args : Array Value} (hT : zT S) (hW : S.WarmedH s.vm) : (Cond.selects "Rescuemarket" ⟨"Rescuemarket", "hourThere", "(LRescuemarket$Boat;LRescuemarket$Call;)I"⟩ ⟨"Rescuemarket", "hourThere", "(LRescuemarket$Boat;LRescuemarket$Call;)I"⟩).before args s = true := zT_p hT hW (Or.inl (by first | rfl | decide)) 13 (by decide +kernel)
theorem q_p14 {S s : State} {args : Array Value} (hT : zT S) (hW : S.WarmedH s.vm) : (Cond.selects "Rescuemarket" ⟨"Rescuemarket", "task", "(LRescuemarket$Boat;LRescuemarket$Call;)V"⟩ ⟨"Rescuemarket", "task", "(LRescuemarket$Boat;LRescuemarket$Call;)V"⟩).before args s = true := zT_p hT hW (Or.inl (by first | rfl | decide)) 14 (by decide +kernel)
theorem q_p15 {S s : State} {args : Array Value} (hT : zT S) (hW : S.WarmedH s.vm) : (Cond.selects "Rescuemarket" ⟨"Rescuemarket", "callNumbered", "(I)LRescuemarket$Call;"⟩ ⟨"Rescuemarket", "callNumbered", "(I)LRescuemarket$Call;"⟩).before args s = true := zT_p hT hW (Or.inl (by first | rfl | decide)) 15 (by decide +kernel)
theorem q_p16 {S s : State} {args : Array Value} (hT : zT S) (hW : S.WarmedH s.vm) : (Cond.selects "Rescuemarket" ⟨"Rescuemarket", "callsEverAt", "(I)I"⟩ ⟨"Rescuemarket", "callsEverAt", "(I)I"⟩).before args s = true := zT_p hT hW (Or.inl (by first | rfl | decide)) 16 (by decide +kernel)
theorem q_p17 {S s : State} {args : Array Value} (hT : zT S) (hW : S.WarmedH s.vm) : (Cond.selects "RescuemarketModel" ⟨"RescuemarketModel", "in", "(III)Z"⟩ ⟨"RescuemarketModel", "in", "(III)Z"⟩).before args s = true := zT_p hT hW (Or.inl (by first | rfl | decide)) 17 (by decide +kernel)
theorem q_p18 {S s : State} {args : Array Value} (hT : zT S) (hW : S.WarmedH s.vm) : (Cond.selects "RescuemarketModel" ⟨"RescuemarketModel", "fails", "(I)Z"⟩ ⟨"RescuemarketModel", "fails", "(I)Z"⟩).before args s = true := zT_p hT hW (Or.inl (by first | rfl | decide)) 18 (by decide +kernel)
theorem q_p19 {S s : State} {args : Array Value} (hT : zT S) (hW : S.WarmedH s.vm) : (Cond.selects "RescuemarketModel" ⟨"RescuemarketModel", "isBoat", "(I)Z"⟩ ⟨"RescuemarketModel", "isBoat", "(I)Z"⟩).before args s = true := zT_p hT hW (Or.inl (by first | rfl | decide)) 19 (by decide +kernel)
theorem q_p20 {S s : State} {args : Array Value} (hT : zT S) (hW : S.WarmedH s.vm) : (Cond.selects "RescuemarketModel" ⟨"RescuemarketModel", "goes", "()V"⟩ ⟨"RescuemarketModel", "goes", "()V"⟩).before args s = true := zT_p hT hW (Or.inl (by first | rfl | decide)) 20 (by decide +kernel)
theorem q_p21 {S s : State} {args : Array Value} (hT : zT S) (hW : S.WarmedH s.vm) : (Cond.selects "RescuemarketModel" ⟨"RescuemarketModel", "turnsBack", "(I)V"⟩ ⟨"RescuemarketModel", "turnsBack", "(I)V"⟩).before args s = true := zT_p hT hW (Or.inl (by first | rfl | decide)) 21 (by decide +kernel)
theorem q_p22 {S s : State} {args : Array Value} (hT : zT S) (hW : S.WarmedH s.vm) : (Cond.selects "RescuemarketModel" ⟨"RescuemarketModel", "arrives", "(I)V"⟩ ⟨"RescuemarketModel", "arrives", "(I)V"⟩).before args s = true := zT_p hT hW (Or.inl (by first | rfl | decide)) 22 (by decide +kernel)
theorem q_p23 {S s : State} {args : Array Value} (hT : zT S) (hW : S.WarmedH s.vm) : (Cond.selects "RescuemarketModel" ⟨"RescuemarketModel", "pays", "(II)V"⟩ ⟨"RescuemarketModel", "pays", "(II)V"⟩).before args s = true := zT_p hT hW (Or.inl (by first | rfl | decide)) 23 (by decide +kernel)
theorem q_p24 {S s : State} {args : Array Value} (hT : zT S) (hW : S.WarmedH s.vm) : (Cond.selects "RescuemarketModel" ⟨"RescuemarketModel", "way", "(II)I"⟩ ⟨"RescuemarketModel", "way", "(II)I"⟩).before args s = true := zT_p hT hW (Or.inl (by first | rfl | decide)) 24 (by decide +kernel)
theorem q_p25 {S s : State} {args : Array Value} (hT : zT S) (hW : S.WarmedH s.vm) : (Cond.selects "RescuemarketModel" ⟨"RescuemarketModel", "flat", "(I)I"⟩ ⟨"RescuemarketModel", "flat", "(I)I"⟩).before args s = true := zT_p hT hW (Or.inl (by first | rfl | decide)) 25 (by decide +kernel)
theorem q_p26 {S s : State} {args : Array Value} (hT : zT S) (hW : S.WarmedH s.vm) : (Cond.selects "RescuemarketModel" ⟨"RescuemarketModel", "tasks", "(I)V"⟩ ⟨"RescuemarketModel", "tasks", "(I)V"⟩).before args s = true := zT_p hT hW (Or.inl (by first | rfl | decide)) 26 (by decide +kernel)
theorem q_p27 {S s : State} {args : Array Value} (hT : zT S) (hW : S.WarmedH s.vm) : (Cond.selects "RescuemarketModel" ⟨"RescuemarketModel", "can", "(II)Z"⟩ ⟨"RescuemarketModel", "can", "(II)Z"⟩).before args s = true := zT_p hT hW (Or.inl (by first | rfl | decide)) 27 (by decide +kernel)
theorem q_p28 {S s : State} {args : Array Value} (hT : zT S) (hW : S.WarmedH s.vm) : (Cond.selects "RescuemarketModel" ⟨"RescuemarketModel", "hours", "(II)I"⟩ ⟨"RescuemarketModel", "hours", "(II)I"⟩).before args s = true := zT_p hT hW (Or.inl (by first | rfl | decide)) 28 (by decide +kernel)
theorem q_wsX0 {S s : State} {args : Array Value} (hT : zT S) (hW : S.WarmedH s.vm) : ∀ w ∈ wsX00, w.before args s = true := fun w h => by
  have g : GoodIn tables_1 wsX00 := goodIn_r _ [261, 263, 265, 267, 269, 271, 273, 275, 277, 279, 281, 283, 285] (by decide +kernel) (by decide +kernel)
  exact word_at hW (g w h).2 (hT _ (List.mem_append_right _ (g w h).1))
theorem q_wsX1 {S s : State} {args : Array Value} (hT : zT S) (hW : S.WarmedH s.vm) : ∀ w ∈ wsX10, w.before args s = true := fun w h => by
  have g : GoodIn tables_1 wsX10 := goodIn_r _ [437, 439, 441, 443, 445, 447, 449, 451] (by decide +kernel) (by decide +kernel)
  exact word_at hW (g w h).2 (hT _ (List.mem_append_right _ (g w h).1))
theorem q_wsX2 {S s : State} {args : Array Value} (hT : zT S) (hW : S.WarmedH s.vm) : ∀ w ∈ wsX20, w.before args s = true := fun w h => by
  have g : GoodIn tables_1 wsX20 := goodIn_r _ [522, 524, 526, 528, 530] (by decide +kernel) (by decide +kernel)
  exact word_at hW (g w h).2 (hT _ (List.mem_append_right _ (g w h).1))
theorem q_wsX3 {S s : State} {args : Array Value} (hT : zT S) (hW : S.WarmedH s.vm) : ∀ w ∈ wsX30, w.before args s = true := fun w h => by
  have g : GoodIn tables_1 wsX30 := goodIn_r _ [77, 79] (by decide +kernel) (by decide +kernel)
  exact word_at hW (g w h).2 (hT _ (List.mem_append_right _ (g w h).1))
theorem q_wsX4 {S s : State} {args : Array Value} (hT : zT S) (hW : S.WarmedH s.vm) : ∀ w ∈ wsX40, w.before args s = true := fun w h => by
  have g : GoodIn tables_1 wsX40 := goodIn_r _ [38] (by decide +kernel) (by decide +kernel)
  exact word_at hW (g w h).2 (hT _ (List.mem_append_right _ (g w h).1))
theorem q_wsX5 {S s : State} {args : Array Value} (hT : zT S) (hW : S.WarmedH s.vm) : ∀ w ∈ wsX50, w.before args s = true := fun w h => by
  have g : GoodIn tables_1 wsX50 := goodIn_r _ [90, 92, 94, 96, 98, 100] (by decide +kernel) (by decide +kernel)
  exact word_at hW (g w h).2 (hT _ (List.mem_append_right _ (g w h).1))
theorem q_wsX6 {S s : State} {args : Array Value} (hT : zT S) (hW : S.WarmedH s.vm) : ∀ w ∈ wsX60, w.before args s = true := fun w h => by
  have g : GoodIn tables_1 wsX60 := goodIn_r _ [690, 692, 694, 696, 698, 700, 702, 704, 706, 708, 710, 712, 714, 716, 718, 720, 722, 724, 726, 728, 730, 732, 734, 736, 738, 740] (by decide +kernel) (by decide +kernel)
  exact word_at hW (g w h).2 (hT _ (List.mem_append_right _ (g w h).1))
theorem q_wsJx4a65c {S s : State} {args : Array Value} (hT : zT S) (hW : S.WarmedH s.vm) : ∀ w ∈ wsJx4a65c0, w.before args s = true := fun w h => by
  have g : GoodIn tables_1 wsJx4a65c0 := goodIn_r _ [71, 67, 69] (by decide +kernel) (by decide +kernel)
  exact word_at hW (g w h).2 (hT _ (List.mem_append_right _ (g w h).1))
end
section
/-! what holds at the base: the law's start -/
def zSt (S : State) (dz : Nat) : Prop :=
  va_Z "java/util/ArrayList" "DEFAULTCAPACITY_EMPTY_ELEMENTDATA" "[Ljava/lang/Object;" (.ref dz) (fun q => S.heap.size ≤ q) S S.heap ∧
  va_T (.object "java/lang/Object") dz 0 (fun _ => .null) (fun q => S.heap.size ≤ q) S S.heap ∧
  vx_Zq Bundle.tN "UNASSIGNED_STACK" Bundle.steD (fun q => S.heap.size ≤ q) S S.heap ∧
  vx_Zq Bundle.tN "SUPPRESSED_SENTINEL" Bundle.listD (fun q => S.heap.size ≤ q) S S.heap ∧
  (∃ mi : Nat, va_Mi "[Ljava/lang/Object;" mi S) ∧
  ∀ (k : Nat) (tx : String), (Cond.stringRef RX5 k tx).before #[] S = true → ∃ sa : Nat, vk_R RX5 k tx sa S
def zB (S : State) (D : va_G) (tc : Nat → ClassId) (A : Nat → Prop) (dz : Nat) : Prop := zT S ∧ va_K D vwCl (zt tc) S ∧ (∀ q, A q → S.heap.size ≤ q) ∧ zSt S dz
theorem z_Fw_size {S s : State} (hT : zT S) (hW : S.WarmedH s.vm) : va_Fw "java/util/ArrayList" ⟨"java/util/List", "size", "()I"⟩ yJx4a65c_size_8abf5 s :=
  va_Fw.moved ⟨by decide +kernel, by decide +kernel⟩ hW.alike (va_Fw.of (q_210 hT) (q_209 hT) (q_215 hT) (q_213 hT) (va_Nw.use rfl (q_211 hT (State.WarmedH.refl S))))
theorem z_Fw_get {S s : State} (hT : zT S) (hW : S.WarmedH s.vm) : va_Fw "java/util/ArrayList" ⟨"java/util/List", "get", "(I)Ljava/lang/Object;"⟩ yJx4a65c_get_915e3 s :=
  va_Fw.moved ⟨by decide +kernel, by decide +kernel⟩ hW.alike (va_Fw.of (q_366 hT) (q_365 hT) (q_370 hT) (q_368 hT) (va_Nw.use rfl (q_211 hT (State.WarmedH.refl S))))
theorem z_Fw_add {S s : State} (hT : zT S) (hW : S.WarmedH s.vm) : va_Fw "java/util/ArrayList" ⟨"java/util/List", "add", "(Ljava/lang/Object;)Z"⟩ yJx4a65c_add_9ea2d s :=
  va_Fw.moved ⟨by decide +kernel, by decide +kernel⟩ hW.alike (va_Fw.of (q_291 hT) (q_290 hT) (q_295 hT) (q_293 hT) (va_Nw.use rfl (q_211 hT (State.WarmedH.refl S))))
section ZMM
variable {p : Program} {l : Launch} {e : Env} {R : Room} {s : State} {m : MethodId} {args : Array Value} {below : List Frame} {meth : Method} {c : Code} {H : Heap} {locs : List Loc} {cells slots : Nat} {Q : State → Prop}
variable {cc : ByteArray} {pc : Nat} {ls : Array Slot} {rest : List Value} {a b : Int} {S : State} {nL : Nat} {A : Nat → Prop} {own : String} {index : Nat}
theorem z_abs (hT : zT S) (X : zH S A p s m c cc nL own) (hlv : ls.size = nL) (hlink : (Cond.methodLink own index Lib.Math.abs.name).before args s = true) (h : -2147483647 ≤ a ∧ a ≤ 2147483647) (hframes : 1 ≤ R.frames) (hlocals : (rest.map fun v => v.category).sum + 13 ≤ R.locals) (hc : cells ≤ R.cells) (hs : slots ≤ R.slots) (hdg : decode cc pc = .ok (.invokestatic index, 3))
    (k : W p l e R s m args below meth c H locs cells slots Q (F0 m (pc + 3) ls (.int (zi (if 0 ≤ a then a else -a)) :: rest))) : W p l e R s m args below meth c H locs cells slots Q (F0 m pc ls (.int (zi a) :: rest)) := by
  have e1 : (if 0 ≤ zi a then zi a else 0 - zi a) = zi (if 0 ≤ a then a else -a) := by
    by_cases h0 : 0 ≤ a
    · rw [if_pos h0, if_pos (by rw [← zi_0, zi_le (by omega)]; exact h0)]
    · rw [if_neg h0, if_neg (by rw [← zi_0, zi_le (by omega)]; exact h0), ← zi_0, zi_sub]
      congr 1; omega
  exact va_mabs X.1 X.2.1 (X.2.2.1.trans hlv.symm) X.2.2.2.1 hlink (q_508 hT X.2.2.2.2.1) (q_16 hT X.2.2.2.2.1) (q_509 hT X.2.2.2.2.1) hframes hlocals hc hs hdg (by rw [e1]; exact k)
theorem z_max (hT : zT S) (X : zH S A p s m c cc nL own) (hlv : ls.size = nL) (hlink : (Cond.methodLink own index Lib.Math.max.name).before args s = true) (h : -2147483648 ≤ a ∧ a ≤ 2147483647 ∧ -2147483648 ≤ b ∧ b ≤ 2147483647) (hframes : 1 ≤ R.frames) (hlocals : (rest.map fun v => v.category).sum + 13 ≤ R.locals) (hc : cells ≤ R.cells) (hs : slots ≤ R.slots) (hdg : decode cc pc = .ok (.invokestatic index, 3))
    (k : W p l e R s m args below meth c H locs cells slots Q (F0 m (pc + 3) ls (.int (zi (max a b)) :: rest))) : W p l e R s m args below meth c H locs cells slots Q (F0 m pc ls (.int (zi b) :: .int (zi a) :: rest)) := by
  have e1 : (if zi a < zi b then zi b else zi a) = zi (max a b) := by
    by_cases h0 : a < b
    · rw [if_pos (by rw [zi_lt h]; exact h0)]
      congr 1; omega
    · rw [if_neg (by rw [zi_lt h]; exact h0)]
      congr 1; omega
  exact va_mmax X.1 X.2.1 (X.2.2.1.trans hlv.symm) X.2.2.2.1 hlink (q_313 hT X.2.2.2.2.1) (q_16 hT X.2.2.2.2.1) (q_314 hT X.2.2.2.2.1) hframes hlocals hc hs hdg (by rw [e1]; exact k)
theorem z_min (hT : zT S) (X : zH S A p s m c cc nL own) (hlv : ls.size = nL) (hlink : (Cond.methodLink own index Lib.Math.min.name).before args s = true) (h : -2147483648 ≤ a ∧ a ≤ 2147483647 ∧ -2147483648 ≤ b ∧ b ≤ 2147483647) (hframes : 1 ≤ R.frames) (hlocals : (rest.map fun v => v.category).sum + 13 ≤ R.locals) (hc : cells ≤ R.cells) (hs : slots ≤ R.slots) (hdg : decode cc pc = .ok (.invokestatic index, 3))
    (k : W p l e R s m args below meth c H locs cells slots Q (F0 m (pc + 3) ls (.int (zi (min a b)) :: rest))) : W p l e R s m args below meth c H locs cells slots Q (F0 m pc ls (.int (zi b) :: .int (zi a) :: rest)) := by
  have e1 : (if zi b < zi a then zi b else zi a) = zi (min a b) := by
    by_cases h0 : b < a
    · rw [if_pos (by rw [zi_lt (by omega)]; exact h0)]
      congr 1; omega
    · rw [if_neg (by rw [zi_lt (by omega)]; exact h0)]
      congr 1; omega
  exact va_mmin X.1 X.2.1 (X.2.2.1.trans hlv.symm) X.2.2.2.1 hlink (q_344 hT X.2.2.2.2.1) (q_16 hT X.2.2.2.2.1) (q_345 hT X.2.2.2.2.1) hframes hlocals hc hs hdg (by rw [e1]; exact k)
end ZMM
end
section
/-! Boat: its methods on its own fields -/
set_option maxHeartbeats 4000000 in
set_option maxRecDepth 100000 in
theorem c_X5_columnOf (l : Launch) {S : State} {D : va_G} {tc : Nat → ClassId} {A : Nat → Prop} {dz : Nat} (hZ : zB S D tc A dz) {P : Heap → Prop} {n : Int} (h0 : 0 ≤ n ∧ n ≤ 47) : zM l S A yX5_columnOf cX5_columnOf 1 (Option.some Jvm.ClassFile.FieldType.int) { frames := 1, locals := 20, cells := 0, slots := 0 } [.int (zi (n))] (P) (fun v H => v = some (.int (zi (n % 8))) ∧ P H) := by
  refine zM.mk (by decide +kernel) (Nat.le_of_ble_eq_true rfl) ?_
  intro p e s m below meth c ls X0 hR hl
  obtain ⟨hx, hb, hml, hr, hlocks, hown, hnm, hW, hpre, hA⟩ := X0
  have X : zH S A p s m c cX5_columnOf 1 RX5 := ⟨hx, hb, hml, hown, hW, hpre, hA, hZ.2.2.1⟩
  have hT := hZ.1
  have hK := va_K.moved hW.alike hZ.2.1
  have hS : va_S A s.heap s.heap [] := va_S.rf
  have hl : lv_has ls 1 [(0, .int (zi (n)))] := hl
  skip
  refine lv_iload_n hx hb dX5_columnOf_0 rfl (lv_at hl 0 rfl) ?_
  refine lv_bipush (v := zi (8)) hx hb dX5_columnOf_1 rfl ?_
  refine z_irem (a := n) (b := 8) hx hb dX5_columnOf_3 (by omega) ?_
  exact z_iret hx hb hr hlocks hS (by decide) (by decide) dX5_columnOf_4 ⟨rfl, hR⟩
set_option maxHeartbeats 4000000 in
set_option maxRecDepth 100000 in
theorem c_X5_rowOf (l : Launch) {S : State} {D : va_G} {tc : Nat → ClassId} {A : Nat → Prop} {dz : Nat} (hZ : zB S D tc A dz) {P : Heap → Prop} {n : Int} (h0 : 0 ≤ n ∧ n ≤ 47) : zM l S A yX5_rowOf cX5_rowOf 1 (Option.some Jvm.ClassFile.FieldType.int) { frames := 1, locals := 20, cells := 0, slots := 0 } [.int (zi (n))] (P) (fun v H => v = some (.int (zi (n / 8))) ∧ P H) := by
  refine zM.mk (by decide +kernel) (Nat.le_of_ble_eq_true rfl) ?_
  intro p e s m below meth c ls X0 hR hl
  obtain ⟨hx, hb, hml, hr, hlocks, hown, hnm, hW, hpre, hA⟩ := X0
  have X : zH S A p s m c cX5_rowOf 1 RX5 := ⟨hx, hb, hml, hown, hW, hpre, hA, hZ.2.2.1⟩
  have hT := hZ.1
  have hK := va_K.moved hW.alike hZ.2.1
  have hS : va_S A s.heap s.heap [] := va_S.rf
  have hl : lv_has ls 1 [(0, .int (zi (n)))] := hl
  skip
  refine lv_iload_n hx hb dX5_rowOf_0 rfl (lv_at hl 0 rfl) ?_
  refine lv_bipush (v := zi (8)) hx hb dX5_rowOf_1 rfl ?_
  refine z_idiv (a := n) (b := 8) hx hb dX5_rowOf_3 (by omega) ?_
  exact z_iret hx hb hr hlocks hS (by decide) (by decide) dX5_rowOf_4 ⟨rfl, hR⟩
set_option maxHeartbeats 4000000 in
set_option maxRecDepth 100000 in
theorem c_X0_burn (l : Launch) {S : State} {D : va_G} {tc : Nat → ClassId} {A : Nat → Prop} {dz : Nat} (hZ : zB S D tc A dz) {w : zW} {b : Nat} {num club bears home speed tank user uot st next fuel left : Int} {co : Option Nat} (hb0 : w b = some (.inr (1, [.int (zi (num)), .int (zi (club)), .int (zi (bears)), .int (zi (home)), .int (zi (speed)), .int (zi (tank)), .int (zi (user)), .int (zi (uot)), .int (zi (st)), va_rf (co), .int (zi (next)), .int (zi (fuel)), .int (zi (left))]))) {am : Int} (h0 : 0 ≤ am ∧ am ≤ 1000000 ∧ 0 ≤ fuel ∧ fuel ≤ 1000000) : zM l S A yX0_burn cX0_burn 2 (Option.none : Option Jvm.ClassFile.FieldType) { frames := 1, locals := 20, cells := 0, slots := 0 } [.ref (b), .int (zi (am))] (zR D A w) (fun v H => v = none ∧ zR D A (zu w b (.inr (1, [.int (zi (num)), .int (zi (club)), .int (zi (bears)), .int (zi (home)), .int (zi (speed)), .int (zi (tank)), .int (zi (user)), .int (zi (uot)), .int (zi (st)), va_rf (co), .int (zi (next)), .int (zi ((fuel - (min am fuel)))), .int (zi (left))]))) H) := by
  refine zM.mk (by decide +kernel) (Nat.le_of_ble_eq_true rfl) ?_
  intro p e s m below meth c ls X0 hR hl
  obtain ⟨hx, hb, hml, hr, hlocks, hown, hnm, hW, hpre, hA⟩ := X0
  have X : zH S A p s m c cX0_burn 2 RX0 := ⟨hx, hb, hml, hown, hW, hpre, hA, hZ.2.2.1⟩
  have hT := hZ.1
  have hK := va_K.moved hW.alike hZ.2.1
  have hS : va_S A s.heap s.heap [] := va_S.rf
  have hl : lv_has ls 2 [(0, .ref (b)), (1, .int (zi (am)))] := hl
  skip
  refine lv_aload_n hx hb dX0_burn_0 rfl (lv_at hl 0 rfl) ?_
  refine lv_dup hx hb dX0_burn_1 rfl ?_
  refine z_get hx hb (q_wsX0 hT hW) hown hK hR hb0 rfl 11 (by decide) (q_258 hT hW) (fun _ h => h) rfl dX0_burn_2 ?_
  refine lv_iload_n hx hb dX0_burn_5 rfl (lv_at hl 1 rfl) ?_
  refine lv_aload_n hx hb dX0_burn_6 rfl (lv_at hl 0 rfl) ?_
  refine z_get hx hb (q_wsX0 hT hW) hown hK hR hb0 rfl 11 (by decide) (q_258 hT hW) (fun _ h => h) rfl dX0_burn_7 ?_
  refine z_min (a := am) (b := fuel) hT X hl.1 (q_485 hT hW) (by omega) (Nat.le_of_ble_eq_true rfl) (Nat.le_of_ble_eq_true rfl) (Nat.le_of_ble_eq_true rfl) (Nat.le_of_ble_eq_true rfl) dX0_burn_10 ?_
  refine z_isub (a := fuel) (b := (min am fuel)) hx hb dX0_burn_13 ?_
  refine z_put hx hb (q_wsX0 hT hW) tyX0 tyX0_ok nmX0 hown hK hR hS hb0 rfl 11 (by decide) (q_258 hT hW) (fun _ h => h) rfl (tyX0_ok 11 (by decide)) rfl rfl (Nat.le_of_ble_eq_true rfl) dX0_burn_14 (fun H locs hR hS => ?_)
  have hR : zR D A (zu w (b) (.inr (1, [.int (zi (num)), .int (zi (club)), .int (zi (bears)), .int (zi (home)), .int (zi (speed)), .int (zi (tank)), .int (zi (user)), .int (zi (uot)), .int (zi (st)), va_rf (co), .int (zi (next)), .int (zi ((fuel - (min am fuel)))), .int (zi (left))]))) H := hR
  have he_1 : (zu w (b) (.inr (1, [.int (zi (num)), .int (zi (club)), .int (zi (bears)), .int (zi (home)), .int (zi (speed)), .int (zi (tank)), .int (zi (user)), .int (zi (uot)), .int (zi (st)), va_rf (co), .int (zi (next)), .int (zi ((fuel - (min am fuel)))), .int (zi (left))]))) (b) = some (.inr (1, [.int (zi (num)), .int (zi (club)), .int (zi (bears)), .int (zi (home)), .int (zi (speed)), .int (zi (tank)), .int (zi (user)), .int (zi (uot)), .int (zi (st)), va_rf (co), .int (zi (next)), .int (zi ((fuel - (min am fuel)))), .int (zi (left))])) := zu_eq
  exact z_vret hx hb hr hlocks hS (by decide) (by decide) dX0_burn_17 ⟨rfl, hR⟩
set_option maxHeartbeats 4000000 in
set_option maxRecDepth 100000 in
theorem c_X0_headHome (l : Launch) {S : State} {D : va_G} {tc : Nat → ClassId} {A : Nat → Prop} {dz : Nat} (hZ : zB S D tc A dz) {w : zW} {b : Nat} {num club bears home speed tank user uot st next fuel left : Int} {co : Option Nat} (hb0 : w b = some (.inr (1, [.int (zi (num)), .int (zi (club)), .int (zi (bears)), .int (zi (home)), .int (zi (speed)), .int (zi (tank)), .int (zi (user)), .int (zi (uot)), .int (zi (st)), va_rf (co), .int (zi (next)), .int (zi (fuel)), .int (zi (left))]))) {h : Int} : zM l S A yX0_headHome cX0_headHome 2 (Option.none : Option Jvm.ClassFile.FieldType) { frames := 1, locals := 20, cells := 0, slots := 0 } [.ref (b), .int (zi (h))] (zR D A w) (fun v H => v = none ∧ zR D A (zu w b (.inr (1, [.int (zi (num)), .int (zi (club)), .int (zi (bears)), .int (zi (home)), .int (zi (speed)), .int (zi (tank)), .int (zi (user)), .int (zi (uot)), .int (zi (st)), .null, .int (zi ((h + (h - left)))), .int (zi (fuel)), .int (zi (left))]))) H) := by
  refine zM.mk (by decide +kernel) (Nat.le_of_ble_eq_true rfl) ?_
  intro p e s m below meth c ls X0 hR hl
  obtain ⟨hx, hb, hml, hr, hlocks, hown, hnm, hW, hpre, hA⟩ := X0
  have X : zH S A p s m c cX0_headHome 2 RX0 := ⟨hx, hb, hml, hown, hW, hpre, hA, hZ.2.2.1⟩
  have hT := hZ.1
  have hK := va_K.moved hW.alike hZ.2.1
  have hS : va_S A s.heap s.heap [] := va_S.rf
  have hl : lv_has ls 2 [(0, .ref (b)), (1, .int (zi (h)))] := hl
  skip
  refine lv_aload_n hx hb dX0_headHome_0 rfl (lv_at hl 0 rfl) ?_
  refine lv_null hx hb dX0_headHome_1 ?_
  refine z_put hx hb (q_wsX0 hT hW) tyX0 tyX0_ok nmX0 hown hK hR hS hb0 rfl 9 (by decide) (q_254 hT hW) (fun _ h => h) rfl (tyX0_ok 9 (by decide)) rfl rfl (Nat.le_of_ble_eq_true rfl) dX0_headHome_2 (fun H locs hR hS => ?_)
  have hR : zR D A (zu w (b) (.inr (1, [.int (zi (num)), .int (zi (club)), .int (zi (bears)), .int (zi (home)), .int (zi (speed)), .int (zi (tank)), .int (zi (user)), .int (zi (uot)), .int (zi (st)), .null, .int (zi (next)), .int (zi (fuel)), .int (zi (left))]))) H := hR
  have he_1 : (zu w (b) (.inr (1, [.int (zi (num)), .int (zi (club)), .int (zi (bears)), .int (zi (home)), .int (zi (speed)), .int (zi (tank)), .int (zi (user)), .int (zi (uot)), .int (zi (st)), .null, .int (zi (next)), .int (zi (fuel)), .int (zi (left))]))) (b) = some (.inr (1, [.int (zi (num)), .int (zi (club)), .int (zi (bears)), .int (zi (home)), .int (zi (speed)), .int (zi (tank)), .int (zi (user)), .int (zi (uot)), .int (zi (st)), .null, .int (zi (next)), .int (zi (fuel)), .int (zi (left))])) := zu_eq
  refine lv_aload_n hx hb dX0_headHome_5 rfl (lv_at hl 0 rfl) ?_
  refine lv_iload_n hx hb dX0_headHome_6 rfl (lv_at hl 1 rfl) ?_
  refine lv_iload_n hx hb dX0_headHome_7 rfl (lv_at hl 1 rfl) ?_
  refine lv_aload_n hx hb dX0_headHome_8 rfl (lv_at hl 0 rfl) ?_
  refine z_get hx hb (q_wsX0 hT hW) hown hK hR he_1 rfl 12 (by decide) (q_260 hT hW) (fun _ h => h) rfl dX0_headHome_9 ?_
  refine z_isub (a := h) (b := left) hx hb dX0_headHome_12 ?_
  refine z_iadd (a := h) (b := (h - left)) hx hb dX0_headHome_13 ?_
  refine z_put hx hb (q_wsX0 hT hW) tyX0 tyX0_ok nmX0 hown hK hR hS he_1 rfl 10 (by decide) (q_256 hT hW) (fun _ h => h) rfl (tyX0_ok 10 (by decide)) rfl rfl (Nat.le_of_ble_eq_true rfl) dX0_headHome_14 (fun H locs hR hS => ?_)
  rw [zu_zu] at hR
  have hR : zR D A (zu w (b) (.inr (1, [.int (zi (num)), .int (zi (club)), .int (zi (bears)), .int (zi (home)), .int (zi (speed)), .int (zi (tank)), .int (zi (user)), .int (zi (uot)), .int (zi (st)), .null, .int (zi ((h + (h - left)))), .int (zi (fuel)), .int (zi (left))]))) H := hR
  have he_2 : (zu w (b) (.inr (1, [.int (zi (num)), .int (zi (club)), .int (zi (bears)), .int (zi (home)), .int (zi (speed)), .int (zi (tank)), .int (zi (user)), .int (zi (uot)), .int (zi (st)), .null, .int (zi ((h + (h - left)))), .int (zi (fuel)), .int (zi (left))]))) (b) = some (.inr (1, [.int (zi (num)), .int (zi (club)), .int (zi (bears)), .int (zi (home)), .int (zi (speed)), .int (zi (tank)), .int (zi (user)), .int (zi (uot)), .int (zi (st)), .null, .int (zi ((h + (h - left)))), .int (zi (fuel)), .int (zi (left))])) := zu_eq
  exact z_vret hx hb hr hlocks hS (by decide) (by decide) dX0_headHome_17 ⟨rfl, hR⟩
set_option maxHeartbeats 4000000 in
set_option maxRecDepth 100000 in
theorem c_X0_turnBack (l : Launch) {S : State} {D : va_G} {tc : Nat → ClassId} {A : Nat → Prop} {dz : Nat} (hZ : zB S D tc A dz) {w : zW} {b : Nat} {num club bears home speed tank user uot st next fuel left : Int} {co : Option Nat} (hb0 : w b = some (.inr (1, [.int (zi (num)), .int (zi (club)), .int (zi (bears)), .int (zi (home)), .int (zi (speed)), .int (zi (tank)), .int (zi (user)), .int (zi (uot)), .int (zi (st)), va_rf (co), .int (zi (next)), .int (zi (fuel)), .int (zi (left))]))) {h : Int} (h0 : 0 ≤ 2 * speed * (h - left) ∧ 2 * speed * (h - left) ≤ 1000000 ∧ 0 ≤ fuel ∧ fuel ≤ 1000000) : zM l S A yX0_turnBack cX0_turnBack 2 (Option.none : Option Jvm.ClassFile.FieldType) { frames := 2, locals := 50, cells := 0, slots := 0 } [.ref (b), .int (zi (h))] (zR D A w) (fun v H => v = none ∧ zR D A (zu w b (.inr (1, [.int (zi (num)), .int (zi (club)), .int (zi (bears)), .int (zi (home)), .int (zi (speed)), .int (zi (tank)), .int (zi (user)), .int (zi (uot)), .int (zi (st)), .null, .int (zi ((h + (h - left)))), .int (zi ((fuel - (min (2 * speed * (h - left)) fuel)))), .int (zi (left))]))) H) := by
  refine zM.mk (by decide +kernel) (Nat.le_of_ble_eq_true rfl) ?_
  intro p e s m below meth c ls X0 hR hl
  obtain ⟨hx, hb, hml, hr, hlocks, hown, hnm, hW, hpre, hA⟩ := X0
  have X : zH S A p s m c cX0_turnBack 2 RX0 := ⟨hx, hb, hml, hown, hW, hpre, hA, hZ.2.2.1⟩
  have hT := hZ.1
  have hK := va_K.moved hW.alike hZ.2.1
  have hS : va_S A s.heap s.heap [] := va_S.rf
  have hl : lv_has ls 2 [(0, .ref (b)), (1, .int (zi (h)))] := hl
  skip
  refine lv_aload_n hx hb dX0_turnBack_0 rfl (lv_at hl 0 rfl) ?_
  refine lv_iconst (v := zi (2)) hx hb dX0_turnBack_1 rfl ?_
  refine lv_aload_n hx hb dX0_turnBack_2 rfl (lv_at hl 0 rfl) ?_
  refine z_get hx hb (q_wsX0 hT hW) hown hK hR hb0 rfl 4 (by decide) (q_246 hT hW) (fun _ h => h) rfl dX0_turnBack_3 ?_
  refine z_imul (a := 2) (b := speed) hx hb dX0_turnBack_6 ?_
  refine lv_iload_n hx hb dX0_turnBack_7 rfl (lv_at hl 1 rfl) ?_
  refine lv_aload_n hx hb dX0_turnBack_8 rfl (lv_at hl 0 rfl) ?_
  refine z_get hx hb (q_wsX0 hT hW) hown hK hR hb0 rfl 12 (by decide) (q_260 hT hW) (fun _ h => h) rfl dX0_turnBack_9 ?_
  refine z_isub (a := h) (b := left) hx hb dX0_turnBack_12 ?_
  refine z_imul (a := (2 * speed)) (b := (h - left)) hx hb dX0_turnBack_13 ?_
  refine z_invV (n := 1) (C := RX0) (c_X0_burn l hZ hb0 (am := 2 * speed * (h - left)) h0) X hS hR hl.1 (q_484 hT hW) (q_14 hT hW) (q_481 hT hW) (q_483 hT hW) (q_p6 hT hW) (z_recv hK hR hb0 rfl) (by decide +kernel) rfl ⟨Nat.le_of_ble_eq_true rfl, Nat.le_of_ble_eq_true rfl⟩ ⟨Nat.le_of_ble_eq_true rfl, Nat.le_of_ble_eq_true rfl⟩ (Nat.le_of_ble_eq_true rfl) dX0_turnBack_14 (fun v H locs hv hS => ?_) rfl
  obtain ⟨rfl, hR⟩ := hv
  have hR : zR D A (zu w (b) (.inr (1, [.int (zi (num)), .int (zi (club)), .int (zi (bears)), .int (zi (home)), .int (zi (speed)), .int (zi (tank)), .int (zi (user)), .int (zi (uot)), .int (zi (st)), va_rf (co), .int (zi (next)), .int (zi ((fuel - (min (2 * speed * (h - left)) fuel)))), .int (zi (left))]))) H := hR
  have he_1 : (zu w (b) (.inr (1, [.int (zi (num)), .int (zi (club)), .int (zi (bears)), .int (zi (home)), .int (zi (speed)), .int (zi (tank)), .int (zi (user)), .int (zi (uot)), .int (zi (st)), va_rf (co), .int (zi (next)), .int (zi ((fuel - (min (2 * speed * (h - left)) fuel)))), .int (zi (left))]))) (b) = some (.inr (1, [.int (zi (num)), .int (zi (club)), .int (zi (bears)), .int (zi (home)), .int (zi (speed)), .int (zi (tank)), .int (zi (user)), .int (zi (uot)), .int (zi (st)), va_rf (co), .int (zi (next)), .int (zi ((fuel - (min (2 * speed * (h - left)) fuel)))), .int (zi (left))])) := zu_eq
  refine lv_aload_n hx hb dX0_turnBack_17 rfl (lv_at hl 0 rfl) ?_
  refine lv_iload_n hx hb dX0_turnBack_18 rfl (lv_at hl 1 rfl) ?_
  refine z_invV (n := 1) (C := RX0) (c_X0_headHome l hZ he_1 (h := h)) X hS hR hl.1 (q_489 hT hW) (q_14 hT hW) (q_486 hT hW) (q_488 hT hW) (q_p7 hT hW) (z_recv hK hR he_1 rfl) (by decide +kernel) rfl ⟨Nat.le_of_ble_eq_true rfl, Nat.le_of_ble_eq_true rfl⟩ ⟨Nat.le_of_ble_eq_true rfl, Nat.le_of_ble_eq_true rfl⟩ (Nat.le_of_ble_eq_true rfl) dX0_turnBack_19 (fun v H locs hv hS => ?_) rfl
  obtain ⟨rfl, hR⟩ := hv
  rw [zu_zu] at hR
  have hR : zR D A (zu w (b) (.inr (1, [.int (zi (num)), .int (zi (club)), .int (zi (bears)), .int (zi (home)), .int (zi (speed)), .int (zi (tank)), .int (zi (user)), .int (zi (uot)), .int (zi (st)), .null, .int (zi ((h + (h - left)))), .int (zi ((fuel - (min (2 * speed * (h - left)) fuel)))), .int (zi (left))]))) H := hR
  have he_2 : (zu w (b) (.inr (1, [.int (zi (num)), .int (zi (club)), .int (zi (bears)), .int (zi (home)), .int (zi (speed)), .int (zi (tank)), .int (zi (user)), .int (zi (uot)), .int (zi (st)), .null, .int (zi ((h + (h - left)))), .int (zi ((fuel - (min (2 * speed * (h - left)) fuel)))), .int (zi (left))]))) (b) = some (.inr (1, [.int (zi (num)), .int (zi (club)), .int (zi (bears)), .int (zi (home)), .int (zi (speed)), .int (zi (tank)), .int (zi (user)), .int (zi (uot)), .int (zi (st)), .null, .int (zi ((h + (h - left)))), .int (zi ((fuel - (min (2 * speed * (h - left)) fuel)))), .int (zi (left))])) := zu_eq
  exact z_vret hx hb hr hlocks hS (by decide) (by decide) dX0_turnBack_22 ⟨rfl, hR⟩
set_option maxHeartbeats 4000000 in
set_option maxRecDepth 100000 in
theorem c_X0_goHome (l : Launch) {S : State} {D : va_G} {tc : Nat → ClassId} {A : Nat → Prop} {dz : Nat} (hZ : zB S D tc A dz) {w : zW} {b : Nat} {num club bears home speed tank user uot st next fuel left : Int} {co : Option Nat} (hb0 : w b = some (.inr (1, [.int (zi (num)), .int (zi (club)), .int (zi (bears)), .int (zi (home)), .int (zi (speed)), .int (zi (tank)), .int (zi (user)), .int (zi (uot)), .int (zi (st)), va_rf (co), .int (zi (next)), .int (zi (fuel)), .int (zi (left))]))) {h wy : Int} (h0 : 0 ≤ wy ∧ wy ≤ 1000 ∧ 0 ≤ fuel ∧ fuel ≤ 1000000) : zM l S A yX0_goHome cX0_goHome 3 (Option.none : Option Jvm.ClassFile.FieldType) { frames := 2, locals := 50, cells := 0, slots := 0 } [.ref (b), .int (zi (h)), .int (zi (wy))] (zR D A w) (fun v H => v = none ∧ zR D A (zu w b (.inr (1, [.int (zi (num)), .int (zi (club)), .int (zi (bears)), .int (zi (home)), .int (zi (speed)), .int (zi (tank)), .int (zi (user)), .int (zi (uot)), .int (zi (st)), .null, .int (zi ((h + (h - left)))), .int (zi ((fuel - (min (2 * wy) fuel)))), .int (zi (left))]))) H) := by
  refine zM.mk (by decide +kernel) (Nat.le_of_ble_eq_true rfl) ?_
  intro p e s m below meth c ls X0 hR hl
  obtain ⟨hx, hb, hml, hr, hlocks, hown, hnm, hW, hpre, hA⟩ := X0
  have X : zH S A p s m c cX0_goHome 3 RX0 := ⟨hx, hb, hml, hown, hW, hpre, hA, hZ.2.2.1⟩
  have hT := hZ.1
  have hK := va_K.moved hW.alike hZ.2.1
  have hS : va_S A s.heap s.heap [] := va_S.rf
  have hl : lv_has ls 3 [(0, .ref (b)), (1, .int (zi (h))), (2, .int (zi (wy)))] := hl
  skip
  refine lv_aload_n hx hb dX0_goHome_0 rfl (lv_at hl 0 rfl) ?_
  refine lv_iconst (v := zi (2)) hx hb dX0_goHome_1 rfl ?_
  refine lv_iload_n hx hb dX0_goHome_2 rfl (lv_at hl 2 rfl) ?_
  refine z_imul (a := 2) (b := wy) hx hb dX0_goHome_3 ?_
  refine z_invV (n := 1) (C := RX0) (c_X0_burn l hZ hb0 (am := 2 * wy) (by omega)) X hS hR hl.1 (q_484 hT hW) (q_14 hT hW) (q_481 hT hW) (q_483 hT hW) (q_p6 hT hW) (z_recv hK hR hb0 rfl) (by decide +kernel) rfl ⟨Nat.le_of_ble_eq_true rfl, Nat.le_of_ble_eq_true rfl⟩ ⟨Nat.le_of_ble_eq_true rfl, Nat.le_of_ble_eq_true rfl⟩ (Nat.le_of_ble_eq_true rfl) dX0_goHome_4 (fun v H locs hv hS => ?_) rfl
  obtain ⟨rfl, hR⟩ := hv
  have hR : zR D A (zu w (b) (.inr (1, [.int (zi (num)), .int (zi (club)), .int (zi (bears)), .int (zi (home)), .int (zi (speed)), .int (zi (tank)), .int (zi (user)), .int (zi (uot)), .int (zi (st)), va_rf (co), .int (zi (next)), .int (zi ((fuel - (min (2 * wy) fuel)))), .int (zi (left))]))) H := hR
  have he_1 : (zu w (b) (.inr (1, [.int (zi (num)), .int (zi (club)), .int (zi (bears)), .int (zi (home)), .int (zi (speed)), .int (zi (tank)), .int (zi (user)), .int (zi (uot)), .int (zi (st)), va_rf (co), .int (zi (next)), .int (zi ((fuel - (min (2 * wy) fuel)))), .int (zi (left))]))) (b) = some (.inr (1, [.int (zi (num)), .int (zi (club)), .int (zi (bears)), .int (zi (home)), .int (zi (speed)), .int (zi (tank)), .int (zi (user)), .int (zi (uot)), .int (zi (st)), va_rf (co), .int (zi (next)), .int (zi ((fuel - (min (2 * wy) fuel)))), .int (zi (left))])) := zu_eq
  refine lv_aload_n hx hb dX0_goHome_7 rfl (lv_at hl 0 rfl) ?_
  refine lv_iload_n hx hb dX0_goHome_8 rfl (lv_at hl 1 rfl) ?_
  refine z_invV (n := 1) (C := RX0) (c_X0_headHome l hZ he_1 (h := h)) X hS hR hl.1 (q_489 hT hW) (q_14 hT hW) (q_486 hT hW) (q_488 hT hW) (q_p7 hT hW) (z_recv hK hR he_1 rfl) (by decide +kernel) rfl ⟨Nat.le_of_ble_eq_true rfl, Nat.le_of_ble_eq_true rfl⟩ ⟨Nat.le_of_ble_eq_true rfl, Nat.le_of_ble_eq_true rfl⟩ (Nat.le_of_ble_eq_true rfl) dX0_goHome_9 (fun v H locs hv hS => ?_) rfl
  obtain ⟨rfl, hR⟩ := hv
  rw [zu_zu] at hR
  have hR : zR D A (zu w (b) (.inr (1, [.int (zi (num)), .int (zi (club)), .int (zi (bears)), .int (zi (home)), .int (zi (speed)), .int (zi (tank)), .int (zi (user)), .int (zi (uot)), .int (zi (st)), .null, .int (zi ((h + (h - left)))), .int (zi ((fuel - (min (2 * wy) fuel)))), .int (zi (left))]))) H := hR
  have he_2 : (zu w (b) (.inr (1, [.int (zi (num)), .int (zi (club)), .int (zi (bears)), .int (zi (home)), .int (zi (speed)), .int (zi (tank)), .int (zi (user)), .int (zi (uot)), .int (zi (st)), .null, .int (zi ((h + (h - left)))), .int (zi ((fuel - (min (2 * wy) fuel)))), .int (zi (left))]))) (b) = some (.inr (1, [.int (zi (num)), .int (zi (club)), .int (zi (bears)), .int (zi (home)), .int (zi (speed)), .int (zi (tank)), .int (zi (user)), .int (zi (uot)), .int (zi (st)), .null, .int (zi ((h + (h - left)))), .int (zi ((fuel - (min (2 * wy) fuel)))), .int (zi (left))])) := zu_eq
  exact z_vret hx hb hr hlocks hS (by decide) (by decide) dX0_goHome_12 ⟨rfl, hR⟩
set_option maxHeartbeats 4000000 in
set_option maxRecDepth 100000 in
theorem c_X0_rest (l : Launch) {S : State} {D : va_G} {tc : Nat → ClassId} {A : Nat → Prop} {dz : Nat} (hZ : zB S D tc A dz) {w : zW} {b : Nat} {num club bears home speed tank user uot st next fuel left : Int} {co : Option Nat} (hb0 : w b = some (.inr (1, [.int (zi (num)), .int (zi (club)), .int (zi (bears)), .int (zi (home)), .int (zi (speed)), .int (zi (tank)), .int (zi (user)), .int (zi (uot)), .int (zi (st)), va_rf (co), .int (zi (next)), .int (zi (fuel)), .int (zi (left))]))) {h : Int} : zM l S A yX0_rest cX0_rest 2 (Option.none : Option Jvm.ClassFile.FieldType) { frames := 1, locals := 20, cells := 0, slots := 0 } [.ref (b), .int (zi (h))] (zR D A w) (fun v H => v = none ∧ zR D A (zu w b (.inr (1, [.int (zi (num)), .int (zi (club)), .int (zi (bears)), .int (zi (home)), .int (zi (speed)), .int (zi (tank)), .int (zi (user)), .int (zi (uot)), .int (zi (2)), va_rf (co), .int (zi ((h + (h - left)))), .int (zi (tank)), .int (zi (left))]))) H) := by
  refine zM.mk (by decide +kernel) (Nat.le_of_ble_eq_true rfl) ?_
  intro p e s m below meth c ls X0 hR hl
  obtain ⟨hx, hb, hml, hr, hlocks, hown, hnm, hW, hpre, hA⟩ := X0
  have X : zH S A p s m c cX0_rest 2 RX0 := ⟨hx, hb, hml, hown, hW, hpre, hA, hZ.2.2.1⟩
  have hT := hZ.1
  have hK := va_K.moved hW.alike hZ.2.1
  have hS : va_S A s.heap s.heap [] := va_S.rf
  have hl : lv_has ls 2 [(0, .ref (b)), (1, .int (zi (h)))] := hl
  skip
  refine lv_aload_n hx hb dX0_rest_0 rfl (lv_at hl 0 rfl) ?_
  refine lv_iconst (v := zi (2)) hx hb dX0_rest_1 rfl ?_
  refine z_put hx hb (q_wsX0 hT hW) tyX0 tyX0_ok nmX0 hown hK hR hS hb0 rfl 8 (by decide) (q_252 hT hW) (fun _ h => h) rfl (tyX0_ok 8 (by decide)) rfl rfl (Nat.le_of_ble_eq_true rfl) dX0_rest_2 (fun H locs hR hS => ?_)
  have hR : zR D A (zu w (b) (.inr (1, [.int (zi (num)), .int (zi (club)), .int (zi (bears)), .int (zi (home)), .int (zi (speed)), .int (zi (tank)), .int (zi (user)), .int (zi (uot)), .int (zi (2)), va_rf (co), .int (zi (next)), .int (zi (fuel)), .int (zi (left))]))) H := hR
  have he_1 : (zu w (b) (.inr (1, [.int (zi (num)), .int (zi (club)), .int (zi (bears)), .int (zi (home)), .int (zi (speed)), .int (zi (tank)), .int (zi (user)), .int (zi (uot)), .int (zi (2)), va_rf (co), .int (zi (next)), .int (zi (fuel)), .int (zi (left))]))) (b) = some (.inr (1, [.int (zi (num)), .int (zi (club)), .int (zi (bears)), .int (zi (home)), .int (zi (speed)), .int (zi (tank)), .int (zi (user)), .int (zi (uot)), .int (zi (2)), va_rf (co), .int (zi (next)), .int (zi (fuel)), .int (zi (left))])) := zu_eq
  refine lv_aload_n hx hb dX0_rest_5 rfl (lv_at hl 0 rfl) ?_
  refine lv_aload_n hx hb dX0_rest_6 rfl (lv_at hl 0 rfl) ?_
  refine z_get hx hb (q_wsX0 hT hW) hown hK hR he_1 rfl 5 (by decide) (q_247 hT hW) (fun _ h => h) rfl dX0_rest_7 ?_
  refine z_put hx hb (q_wsX0 hT hW) tyX0 tyX0_ok nmX0 hown hK hR hS he_1 rfl 11 (by decide) (q_258 hT hW) (fun _ h => h) rfl (tyX0_ok 11 (by decide)) rfl rfl (Nat.le_of_ble_eq_true rfl) dX0_rest_10 (fun H locs hR hS => ?_)
  rw [zu_zu] at hR
  have hR : zR D A (zu w (b) (.inr (1, [.int (zi (num)), .int (zi (club)), .int (zi (bears)), .int (zi (home)), .int (zi (speed)), .int (zi (tank)), .int (zi (user)), .int (zi (uot)), .int (zi (2)), va_rf (co), .int (zi (next)), .int (zi (tank)), .int (zi (left))]))) H := hR
  have he_2 : (zu w (b) (.inr (1, [.int (zi (num)), .int (zi (club)), .int (zi (bears)), .int (zi (home)), .int (zi (speed)), .int (zi (tank)), .int (zi (user)), .int (zi (uot)), .int (zi (2)), va_rf (co), .int (zi (next)), .int (zi (tank)), .int (zi (left))]))) (b) = some (.inr (1, [.int (zi (num)), .int (zi (club)), .int (zi (bears)), .int (zi (home)), .int (zi (speed)), .int (zi (tank)), .int (zi (user)), .int (zi (uot)), .int (zi (2)), va_rf (co), .int (zi (next)), .int (zi (tank)), .int (zi (left))])) := zu_eq
  refine lv_aload_n hx hb dX0_rest_13 rfl (lv_at hl 0 rfl) ?_
  refine lv_iload_n hx hb dX0_rest_14 rfl (lv_at hl 1 rfl) ?_
  refine lv_iload_n hx hb dX0_rest_15 rfl (lv_at hl 1 rfl) ?_
  refine lv_aload_n hx hb dX0_rest_16 rfl (lv_at hl 0 rfl) ?_
  refine z_get hx hb (q_wsX0 hT hW) hown hK hR he_2 rfl 12 (by decide) (q_260 hT hW) (fun _ h => h) rfl dX0_rest_17 ?_
  refine z_isub (a := h) (b := left) hx hb dX0_rest_20 ?_
  refine z_iadd (a := h) (b := (h - left)) hx hb dX0_rest_21 ?_
  refine z_put hx hb (q_wsX0 hT hW) tyX0 tyX0_ok nmX0 hown hK hR hS he_2 rfl 10 (by decide) (q_256 hT hW) (fun _ h => h) rfl (tyX0_ok 10 (by decide)) rfl rfl (Nat.le_of_ble_eq_true rfl) dX0_rest_22 (fun H locs hR hS => ?_)
  rw [zu_zu] at hR
  have hR : zR D A (zu w (b) (.inr (1, [.int (zi (num)), .int (zi (club)), .int (zi (bears)), .int (zi (home)), .int (zi (speed)), .int (zi (tank)), .int (zi (user)), .int (zi (uot)), .int (zi (2)), va_rf (co), .int (zi ((h + (h - left)))), .int (zi (tank)), .int (zi (left))]))) H := hR
  have he_3 : (zu w (b) (.inr (1, [.int (zi (num)), .int (zi (club)), .int (zi (bears)), .int (zi (home)), .int (zi (speed)), .int (zi (tank)), .int (zi (user)), .int (zi (uot)), .int (zi (2)), va_rf (co), .int (zi ((h + (h - left)))), .int (zi (tank)), .int (zi (left))]))) (b) = some (.inr (1, [.int (zi (num)), .int (zi (club)), .int (zi (bears)), .int (zi (home)), .int (zi (speed)), .int (zi (tank)), .int (zi (user)), .int (zi (uot)), .int (zi (2)), va_rf (co), .int (zi ((h + (h - left)))), .int (zi (tank)), .int (zi (left))])) := zu_eq
  exact z_vret hx hb hr hlocks hS (by decide) (by decide) dX0_rest_25 ⟨rfl, hR⟩
set_option maxHeartbeats 4000000 in
set_option maxRecDepth 100000 in
theorem c_X0_becomeFree (l : Launch) {S : State} {D : va_G} {tc : Nat → ClassId} {A : Nat → Prop} {dz : Nat} (hZ : zB S D tc A dz) {w : zW} {b : Nat} {num club bears home speed tank user uot st next fuel left : Int} {co : Option Nat} (hb0 : w b = some (.inr (1, [.int (zi (num)), .int (zi (club)), .int (zi (bears)), .int (zi (home)), .int (zi (speed)), .int (zi (tank)), .int (zi (user)), .int (zi (uot)), .int (zi (st)), va_rf (co), .int (zi (next)), .int (zi (fuel)), .int (zi (left))]))) : zM l S A yX0_becomeFree cX0_becomeFree 1 (Option.none : Option Jvm.ClassFile.FieldType) { frames := 1, locals := 20, cells := 0, slots := 0 } [.ref (b)] (zR D A w) (fun v H => v = none ∧ zR D A (zu w b (.inr (1, [.int (zi (num)), .int (zi (club)), .int (zi (bears)), .int (zi (home)), .int (zi (speed)), .int (zi (tank)), .int (zi (user)), .int (zi (uot)), .int (zi (0)), va_rf (co), .int (zi ((-1))), .int (zi (fuel)), .int (zi (left))]))) H) := by
  refine zM.mk (by decide +kernel) (Nat.le_of_ble_eq_true rfl) ?_
  intro p e s m below meth c ls X0 hR hl
  obtain ⟨hx, hb, hml, hr, hlocks, hown, hnm, hW, hpre, hA⟩ := X0
  have X : zH S A p s m c cX0_becomeFree 1 RX0 := ⟨hx, hb, hml, hown, hW, hpre, hA, hZ.2.2.1⟩
  have hT := hZ.1
  have hK := va_K.moved hW.alike hZ.2.1
  have hS : va_S A s.heap s.heap [] := va_S.rf
  have hl : lv_has ls 1 [(0, .ref (b))] := hl
  skip
  refine lv_aload_n hx hb dX0_becomeFree_0 rfl (lv_at hl 0 rfl) ?_
  refine lv_iconst (v := zi (0)) hx hb dX0_becomeFree_1 rfl ?_
  refine z_put hx hb (q_wsX0 hT hW) tyX0 tyX0_ok nmX0 hown hK hR hS hb0 rfl 8 (by decide) (q_252 hT hW) (fun _ h => h) rfl (tyX0_ok 8 (by decide)) rfl rfl (Nat.le_of_ble_eq_true rfl) dX0_becomeFree_2 (fun H locs hR hS => ?_)
  have hR : zR D A (zu w (b) (.inr (1, [.int (zi (num)), .int (zi (club)), .int (zi (bears)), .int (zi (home)), .int (zi (speed)), .int (zi (tank)), .int (zi (user)), .int (zi (uot)), .int (zi (0)), va_rf (co), .int (zi (next)), .int (zi (fuel)), .int (zi (left))]))) H := hR
  have he_1 : (zu w (b) (.inr (1, [.int (zi (num)), .int (zi (club)), .int (zi (bears)), .int (zi (home)), .int (zi (speed)), .int (zi (tank)), .int (zi (user)), .int (zi (uot)), .int (zi (0)), va_rf (co), .int (zi (next)), .int (zi (fuel)), .int (zi (left))]))) (b) = some (.inr (1, [.int (zi (num)), .int (zi (club)), .int (zi (bears)), .int (zi (home)), .int (zi (speed)), .int (zi (tank)), .int (zi (user)), .int (zi (uot)), .int (zi (0)), va_rf (co), .int (zi (next)), .int (zi (fuel)), .int (zi (left))])) := zu_eq
  refine lv_aload_n hx hb dX0_becomeFree_5 rfl (lv_at hl 0 rfl) ?_
  refine lv_iconst (v := zi (-1)) hx hb dX0_becomeFree_6 rfl ?_
  refine z_put hx hb (q_wsX0 hT hW) tyX0 tyX0_ok nmX0 hown hK hR hS he_1 rfl 10 (by decide) (q_256 hT hW) (fun _ h => h) rfl (tyX0_ok 10 (by decide)) rfl rfl (Nat.le_of_ble_eq_true rfl) dX0_becomeFree_7 (fun H locs hR hS => ?_)
  rw [zu_zu] at hR
  have hR : zR D A (zu w (b) (.inr (1, [.int (zi (num)), .int (zi (club)), .int (zi (bears)), .int (zi (home)), .int (zi (speed)), .int (zi (tank)), .int (zi (user)), .int (zi (uot)), .int (zi (0)), va_rf (co), .int (zi ((-1))), .int (zi (fuel)), .int (zi (left))]))) H := hR
  have he_2 : (zu w (b) (.inr (1, [.int (zi (num)), .int (zi (club)), .int (zi (bears)), .int (zi (home)), .int (zi (speed)), .int (zi (tank)), .int (zi (user)), .int (zi (uot)), .int (zi (0)), va_rf (co), .int (zi ((-1))), .int (zi (fuel)), .int (zi (left))]))) (b) = some (.inr (1, [.int (zi (num)), .int (zi (club)), .int (zi (bears)), .int (zi (home)), .int (zi (speed)), .int (zi (tank)), .int (zi (user)), .int (zi (uot)), .int (zi (0)), va_rf (co), .int (zi ((-1))), .int (zi (fuel)), .int (zi (left))])) := zu_eq
  exact z_vret hx hb hr hlocks hS (by decide) (by decide) dX0_becomeFree_10 ⟨rfl, hR⟩
set_option maxHeartbeats 4000000 in
set_option maxRecDepth 100000 in
theorem c_X0_leaveFor (l : Launch) {S : State} {D : va_G} {tc : Nat → ClassId} {A : Nat → Prop} {dz : Nat} (hZ : zB S D tc A dz) {w : zW} {b : Nat} {num club bears home speed tank user uot st next fuel left : Int} {co : Option Nat} (hb0 : w b = some (.inr (1, [.int (zi (num)), .int (zi (club)), .int (zi (bears)), .int (zi (home)), .int (zi (speed)), .int (zi (tank)), .int (zi (user)), .int (zi (uot)), .int (zi (st)), va_rf (co), .int (zi (next)), .int (zi (fuel)), .int (zi (left))]))) {ca : Nat} {h th : Int} : zM l S A yX0_leaveFor cX0_leaveFor 4 (Option.none : Option Jvm.ClassFile.FieldType) { frames := 1, locals := 20, cells := 0, slots := 0 } [.ref (b), .ref (ca), .int (zi (h)), .int (zi (th))] (zR D A w) (fun v H => v = none ∧ zR D A (zu w b (.inr (1, [.int (zi (num)), .int (zi (club)), .int (zi (bears)), .int (zi (home)), .int (zi (speed)), .int (zi (tank)), .int (zi (user)), .int (zi (user)), .int (zi (1)), .ref (ca), .int (zi (th)), .int (zi (fuel)), .int (zi (h))]))) H) := by
  refine zM.mk (by decide +kernel) (Nat.le_of_ble_eq_true rfl) ?_
  intro p e s m below meth c ls X0 hR hl
  obtain ⟨hx, hb, hml, hr, hlocks, hown, hnm, hW, hpre, hA⟩ := X0
  have X : zH S A p s m c cX0_leaveFor 4 RX0 := ⟨hx, hb, hml, hown, hW, hpre, hA, hZ.2.2.1⟩
  have hT := hZ.1
  have hK := va_K.moved hW.alike hZ.2.1
  have hS : va_S A s.heap s.heap [] := va_S.rf
  have hl : lv_has ls 4 [(0, .ref (b)), (1, .ref (ca)), (2, .int (zi (h))), (3, .int (zi (th)))] := hl
  skip
  refine lv_aload_n hx hb dX0_leaveFor_0 rfl (lv_at hl 0 rfl) ?_
  refine lv_iconst (v := zi (1)) hx hb dX0_leaveFor_1 rfl ?_
  refine z_put hx hb (q_wsX0 hT hW) tyX0 tyX0_ok nmX0 hown hK hR hS hb0 rfl 8 (by decide) (q_252 hT hW) (fun _ h => h) rfl (tyX0_ok 8 (by decide)) rfl rfl (Nat.le_of_ble_eq_true rfl) dX0_leaveFor_2 (fun H locs hR hS => ?_)
  have hR : zR D A (zu w (b) (.inr (1, [.int (zi (num)), .int (zi (club)), .int (zi (bears)), .int (zi (home)), .int (zi (speed)), .int (zi (tank)), .int (zi (user)), .int (zi (uot)), .int (zi (1)), va_rf (co), .int (zi (next)), .int (zi (fuel)), .int (zi (left))]))) H := hR
  have he_1 : (zu w (b) (.inr (1, [.int (zi (num)), .int (zi (club)), .int (zi (bears)), .int (zi (home)), .int (zi (speed)), .int (zi (tank)), .int (zi (user)), .int (zi (uot)), .int (zi (1)), va_rf (co), .int (zi (next)), .int (zi (fuel)), .int (zi (left))]))) (b) = some (.inr (1, [.int (zi (num)), .int (zi (club)), .int (zi (bears)), .int (zi (home)), .int (zi (speed)), .int (zi (tank)), .int (zi (user)), .int (zi (uot)), .int (zi (1)), va_rf (co), .int (zi (next)), .int (zi (fuel)), .int (zi (left))])) := zu_eq
  refine lv_aload_n hx hb dX0_leaveFor_5 rfl (lv_at hl 0 rfl) ?_
  refine lv_aload_n hx hb dX0_leaveFor_6 rfl (lv_at hl 1 rfl) ?_
  refine z_put hx hb (q_wsX0 hT hW) tyX0 tyX0_ok nmX0 hown hK hR hS he_1 rfl 9 (by decide) (q_254 hT hW) (fun _ h => h) rfl (tyX0_ok 9 (by decide)) rfl rfl (Nat.le_of_ble_eq_true rfl) dX0_leaveFor_7 (fun H locs hR hS => ?_)
  rw [zu_zu] at hR
  have hR : zR D A (zu w (b) (.inr (1, [.int (zi (num)), .int (zi (club)), .int (zi (bears)), .int (zi (home)), .int (zi (speed)), .int (zi (tank)), .int (zi (user)), .int (zi (uot)), .int (zi (1)), .ref (ca), .int (zi (next)), .int (zi (fuel)), .int (zi (left))]))) H := hR
  have he_2 : (zu w (b) (.inr (1, [.int (zi (num)), .int (zi (club)), .int (zi (bears)), .int (zi (home)), .int (zi (speed)), .int (zi (tank)), .int (zi (user)), .int (zi (uot)), .int (zi (1)), .ref (ca), .int (zi (next)), .int (zi (fuel)), .int (zi (left))]))) (b) = some (.inr (1, [.int (zi (num)), .int (zi (club)), .int (zi (bears)), .int (zi (home)), .int (zi (speed)), .int (zi (tank)), .int (zi (user)), .int (zi (uot)), .int (zi (1)), .ref (ca), .int (zi (next)), .int (zi (fuel)), .int (zi (left))])) := zu_eq
  refine lv_aload_n hx hb dX0_leaveFor_10 rfl (lv_at hl 0 rfl) ?_
  refine lv_aload_n hx hb dX0_leaveFor_11 rfl (lv_at hl 0 rfl) ?_
  refine z_get hx hb (q_wsX0 hT hW) hown hK hR he_2 rfl 6 (by decide) (q_248 hT hW) (fun _ h => h) rfl dX0_leaveFor_12 ?_
  refine z_put hx hb (q_wsX0 hT hW) tyX0 tyX0_ok nmX0 hown hK hR hS he_2 rfl 7 (by decide) (q_250 hT hW) (fun _ h => h) rfl (tyX0_ok 7 (by decide)) rfl rfl (Nat.le_of_ble_eq_true rfl) dX0_leaveFor_15 (fun H locs hR hS => ?_)
  rw [zu_zu] at hR
  have hR : zR D A (zu w (b) (.inr (1, [.int (zi (num)), .int (zi (club)), .int (zi (bears)), .int (zi (home)), .int (zi (speed)), .int (zi (tank)), .int (zi (user)), .int (zi (user)), .int (zi (1)), .ref (ca), .int (zi (next)), .int (zi (fuel)), .int (zi (left))]))) H := hR
  have he_3 : (zu w (b) (.inr (1, [.int (zi (num)), .int (zi (club)), .int (zi (bears)), .int (zi (home)), .int (zi (speed)), .int (zi (tank)), .int (zi (user)), .int (zi (user)), .int (zi (1)), .ref (ca), .int (zi (next)), .int (zi (fuel)), .int (zi (left))]))) (b) = some (.inr (1, [.int (zi (num)), .int (zi (club)), .int (zi (bears)), .int (zi (home)), .int (zi (speed)), .int (zi (tank)), .int (zi (user)), .int (zi (user)), .int (zi (1)), .ref (ca), .int (zi (next)), .int (zi (fuel)), .int (zi (left))])) := zu_eq
  refine lv_aload_n hx hb dX0_leaveFor_18 rfl (lv_at hl 0 rfl) ?_
  refine lv_iload_n hx hb dX0_leaveFor_19 rfl (lv_at hl 2 rfl) ?_
  refine z_put hx hb (q_wsX0 hT hW) tyX0 tyX0_ok nmX0 hown hK hR hS he_3 rfl 12 (by decide) (q_260 hT hW) (fun _ h => h) rfl (tyX0_ok 12 (by decide)) rfl rfl (Nat.le_of_ble_eq_true rfl) dX0_leaveFor_20 (fun H locs hR hS => ?_)
  rw [zu_zu] at hR
  have hR : zR D A (zu w (b) (.inr (1, [.int (zi (num)), .int (zi (club)), .int (zi (bears)), .int (zi (home)), .int (zi (speed)), .int (zi (tank)), .int (zi (user)), .int (zi (user)), .int (zi (1)), .ref (ca), .int (zi (next)), .int (zi (fuel)), .int (zi (h))]))) H := hR
  have he_4 : (zu w (b) (.inr (1, [.int (zi (num)), .int (zi (club)), .int (zi (bears)), .int (zi (home)), .int (zi (speed)), .int (zi (tank)), .int (zi (user)), .int (zi (user)), .int (zi (1)), .ref (ca), .int (zi (next)), .int (zi (fuel)), .int (zi (h))]))) (b) = some (.inr (1, [.int (zi (num)), .int (zi (club)), .int (zi (bears)), .int (zi (home)), .int (zi (speed)), .int (zi (tank)), .int (zi (user)), .int (zi (user)), .int (zi (1)), .ref (ca), .int (zi (next)), .int (zi (fuel)), .int (zi (h))])) := zu_eq
  refine lv_aload_n hx hb dX0_leaveFor_23 rfl (lv_at hl 0 rfl) ?_
  refine lv_iload_n hx hb dX0_leaveFor_24 rfl (lv_at hl 3 rfl) ?_
  refine z_put hx hb (q_wsX0 hT hW) tyX0 tyX0_ok nmX0 hown hK hR hS he_4 rfl 10 (by decide) (q_256 hT hW) (fun _ h => h) rfl (tyX0_ok 10 (by decide)) rfl rfl (Nat.le_of_ble_eq_true rfl) dX0_leaveFor_25 (fun H locs hR hS => ?_)
  rw [zu_zu] at hR
  have hR : zR D A (zu w (b) (.inr (1, [.int (zi (num)), .int (zi (club)), .int (zi (bears)), .int (zi (home)), .int (zi (speed)), .int (zi (tank)), .int (zi (user)), .int (zi (user)), .int (zi (1)), .ref (ca), .int (zi (th)), .int (zi (fuel)), .int (zi (h))]))) H := hR
  have he_5 : (zu w (b) (.inr (1, [.int (zi (num)), .int (zi (club)), .int (zi (bears)), .int (zi (home)), .int (zi (speed)), .int (zi (tank)), .int (zi (user)), .int (zi (user)), .int (zi (1)), .ref (ca), .int (zi (th)), .int (zi (fuel)), .int (zi (h))]))) (b) = some (.inr (1, [.int (zi (num)), .int (zi (club)), .int (zi (bears)), .int (zi (home)), .int (zi (speed)), .int (zi (tank)), .int (zi (user)), .int (zi (user)), .int (zi (1)), .ref (ca), .int (zi (th)), .int (zi (fuel)), .int (zi (h))])) := zu_eq
  exact z_vret hx hb hr hlocks hS (by decide) (by decide) dX0_leaveFor_28 ⟨rfl, hR⟩
set_option maxHeartbeats 4000000 in
set_option maxRecDepth 100000 in
theorem c_X0_wayTo (l : Launch) {S : State} {D : va_G} {tc : Nat → ClassId} {A : Nat → Prop} {dz : Nat} (hZ : zB S D tc A dz) {w : zW} {b : Nat} {num club bears home speed tank user uot st next fuel left : Int} {co : Option Nat} (hb0 : w b = some (.inr (1, [.int (zi (num)), .int (zi (club)), .int (zi (bears)), .int (zi (home)), .int (zi (speed)), .int (zi (tank)), .int (zi (user)), .int (zi (uot)), .int (zi (st)), va_rf (co), .int (zi (next)), .int (zi (fuel)), .int (zi (left))]))) {n : Int} (h0 : 0 ≤ n ∧ n ≤ 47 ∧ 0 ≤ home ∧ home ≤ 47) : zM l S A yX0_wayTo cX0_wayTo 2 (Option.some Jvm.ClassFile.FieldType.int) { frames := 2, locals := 50, cells := 0, slots := 0 } [.ref (b), .int (zi (n))] (zR D A w) (fun v H => v = some (.int (zi ((if 0 ≤ (n % 8 - home % 8) then (n % 8 - home % 8) else -((n % 8 - home % 8))) + (if 0 ≤ (n / 8 - home / 8) then (n / 8 - home / 8) else -((n / 8 - home / 8)))))) ∧ zR D A w H) := by
  refine zM.mk (by decide +kernel) (Nat.le_of_ble_eq_true rfl) ?_
  intro p e s m below meth c ls X0 hR hl
  obtain ⟨hx, hb, hml, hr, hlocks, hown, hnm, hW, hpre, hA⟩ := X0
  have X : zH S A p s m c cX0_wayTo 2 RX0 := ⟨hx, hb, hml, hown, hW, hpre, hA, hZ.2.2.1⟩
  have hT := hZ.1
  have hK := va_K.moved hW.alike hZ.2.1
  have hS : va_S A s.heap s.heap [] := va_S.rf
  have hl : lv_has ls 2 [(0, .ref (b)), (1, .int (zi (n)))] := hl
  skip
  refine lv_iload_n hx hb dX0_wayTo_0 rfl (lv_at hl 1 rfl) ?_
  refine z_invSN (n := 1) (c_X5_columnOf l hZ (P := zR D A w) (n := n) (by omega)) X hS hR hl.1 (q_391 hT hW) (q_1 hT hW) (va_Nw.use rfl (q_506 hT hW)) (q_390 hT hW) (by decide +kernel) rfl ⟨Nat.le_of_ble_eq_true rfl, Nat.le_of_ble_eq_true rfl⟩ ⟨Nat.le_of_ble_eq_true rfl, Nat.le_of_ble_eq_true rfl⟩ (Nat.le_of_ble_eq_true rfl) dX0_wayTo_1 (fun v H locs hv hS => ?_) rfl
  obtain ⟨rfl, hR⟩ := hv
  refine lv_aload_n hx hb dX0_wayTo_4 rfl (lv_at hl 0 rfl) ?_
  refine z_get hx hb (q_wsX0 hT hW) hown hK hR hb0 rfl 3 (by decide) (q_245 hT hW) (fun _ h => h) rfl dX0_wayTo_5 ?_
  refine z_invSN (n := 1) (c_X5_columnOf l hZ (P := zR D A w) (n := home) (by omega)) X hS hR hl.1 (q_391 hT hW) (q_1 hT hW) (va_Nw.use rfl (q_506 hT hW)) (q_390 hT hW) (by decide +kernel) rfl ⟨Nat.le_of_ble_eq_true rfl, Nat.le_of_ble_eq_true rfl⟩ ⟨Nat.le_of_ble_eq_true rfl, Nat.le_of_ble_eq_true rfl⟩ (Nat.le_of_ble_eq_true rfl) dX0_wayTo_8 (fun v H locs hv hS => ?_) rfl
  obtain ⟨rfl, hR⟩ := hv
  refine z_isub (a := (n % 8)) (b := (home % 8)) hx hb dX0_wayTo_11 ?_
  refine z_abs (a := ((n % 8) - (home % 8))) hT X hl.1 (q_507 hT hW) (by omega) (Nat.le_of_ble_eq_true rfl) (Nat.le_of_ble_eq_true rfl) (Nat.le_of_ble_eq_true rfl) (Nat.le_of_ble_eq_true rfl) dX0_wayTo_12 ?_
  refine lv_iload_n hx hb dX0_wayTo_15 rfl (lv_at hl 1 rfl) ?_
  refine z_invSN (n := 1) (c_X5_rowOf l hZ (P := zR D A w) (n := n) (by omega)) X hS hR hl.1 (q_394 hT hW) (q_1 hT hW) (va_Nw.use rfl (q_510 hT hW)) (q_393 hT hW) (by decide +kernel) rfl ⟨Nat.le_of_ble_eq_true rfl, Nat.le_of_ble_eq_true rfl⟩ ⟨Nat.le_of_ble_eq_true rfl, Nat.le_of_ble_eq_true rfl⟩ (Nat.le_of_ble_eq_true rfl) dX0_wayTo_16 (fun v H locs hv hS => ?_) rfl
  obtain ⟨rfl, hR⟩ := hv
  refine lv_aload_n hx hb dX0_wayTo_19 rfl (lv_at hl 0 rfl) ?_
  refine z_get hx hb (q_wsX0 hT hW) hown hK hR hb0 rfl 3 (by decide) (q_245 hT hW) (fun _ h => h) rfl dX0_wayTo_20 ?_
  refine z_invSN (n := 1) (c_X5_rowOf l hZ (P := zR D A w) (n := home) (by omega)) X hS hR hl.1 (q_394 hT hW) (q_1 hT hW) (va_Nw.use rfl (q_510 hT hW)) (q_393 hT hW) (by decide +kernel) rfl ⟨Nat.le_of_ble_eq_true rfl, Nat.le_of_ble_eq_true rfl⟩ ⟨Nat.le_of_ble_eq_true rfl, Nat.le_of_ble_eq_true rfl⟩ (Nat.le_of_ble_eq_true rfl) dX0_wayTo_23 (fun v H locs hv hS => ?_) rfl
  obtain ⟨rfl, hR⟩ := hv
  refine z_isub (a := (n / 8)) (b := (home / 8)) hx hb dX0_wayTo_26 ?_
  refine z_abs (a := ((n / 8) - (home / 8))) hT X hl.1 (q_507 hT hW) (by omega) (Nat.le_of_ble_eq_true rfl) (Nat.le_of_ble_eq_true rfl) (Nat.le_of_ble_eq_true rfl) (Nat.le_of_ble_eq_true rfl) dX0_wayTo_27 ?_
  refine z_iadd (a := (if 0 ≤ ((n % 8) - (home % 8)) then ((n % 8) - (home % 8)) else -(((n % 8) - (home % 8))))) (b := (if 0 ≤ ((n / 8) - (home / 8)) then ((n / 8) - (home / 8)) else -(((n / 8) - (home / 8))))) hx hb dX0_wayTo_30 ?_
  exact z_iret hx hb hr hlocks hS (by decide) (by decide) dX0_wayTo_31 ⟨rfl, hR⟩
end
section
/-! Boat's hours, constructors, Deed -/
def zhr (sp wy : Int) : Int := if wy ≤ sp then 1 else if wy ≤ 2 * sp then 2 else if wy ≤ 3 * sp then 3 else if wy ≤ 4 * sp then 4 else if wy ≤ 5 * sp then 5 else -1
def zown (o u rw : Int) : Int := if o = u then rw else rw / 2
def zshare (o u rw c : Int) : Int := (if c = o then zown o u rw else 0) + (if c = u then rw - zown o u rw else 0)
set_option maxHeartbeats 4000000 in
set_option maxRecDepth 100000 in
theorem c_X0_hoursFor (l : Launch) {S : State} {D : va_G} {tc : Nat → ClassId} {A : Nat → Prop} {dz : Nat} (hZ : zB S D tc A dz) {w : zW} {b : Nat} {num club bears home speed tank user uot st next fuel left : Int} {co : Option Nat} (hb0 : w b = some (.inr (1, [.int (zi (num)), .int (zi (club)), .int (zi (bears)), .int (zi (home)), .int (zi (speed)), .int (zi (tank)), .int (zi (user)), .int (zi (uot)), .int (zi (st)), va_rf (co), .int (zi (next)), .int (zi (fuel)), .int (zi (left))]))) {n : Int} (h0 : 0 ≤ n ∧ n ≤ 100 ∧ 1 ≤ speed ∧ speed ≤ 3) : zM l S A yX0_hoursFor cX0_hoursFor 3 (Option.some Jvm.ClassFile.FieldType.int) { frames := 1, locals := 20, cells := 0, slots := 0 } [.ref (b), .int (zi (n))] (zR D A w) (fun v H => v = some (.int (zi (zhr speed n))) ∧ zR D A w H) := by
  refine zM.mk (by decide +kernel) (Nat.le_of_ble_eq_true rfl) ?_
  intro p e s m below meth c ls X0 hR hl
  obtain ⟨hx, hb, hml, hr, hlocks, hown, hnm, hW, hpre, hA⟩ := X0
  have X : zH S A p s m c cX0_hoursFor 3 RX0 := ⟨hx, hb, hml, hown, hW, hpre, hA, hZ.2.2.1⟩
  have hT := hZ.1
  have hK := va_K.moved hW.alike hZ.2.1
  have hS : va_S A s.heap s.heap [] := va_S.rf
  have hl : lv_has ls 3 [(0, .ref (b)), (1, .int (zi (n)))] := hl
  skip
  refine lv_iconst (v := zi (1)) hx hb dX0_hoursFor_0 rfl ?_
  refine lv_istore_n (lv' := [(2, .int (zi (1))), (0, .ref (b)), (1, .int (zi (n)))]) hx hb dX0_hoursFor_1 rfl hl (by decide) rfl (fun ls hl => ?_)
  refine lv_iload_n hx hb dX0_hoursFor_2 rfl (lv_at hl 0 rfl) ?_
  refine lv_iconst (v := zi (5)) hx hb dX0_hoursFor_3 rfl ?_
  refine z_icmp_gt (a := 1) (b := 5) (tgt := 25) hx hb dX0_hoursFor_4 (by decide) (by omega) (fun h_4_1 => ?_) (fun h_4_1 => ?_)
  · skip
    exact absurd h_4_1 (by omega)
  · skip
    refine lv_iload_n hx hb dX0_hoursFor_7 rfl (lv_at hl 0 rfl) ?_
    refine lv_aload_n hx hb dX0_hoursFor_8 rfl (lv_at hl 1 rfl) ?_
    refine z_get hx hb (q_wsX0 hT hW) hown hK hR hb0 rfl 4 (by decide) (q_246 hT hW) (fun _ h => h) rfl dX0_hoursFor_9 ?_
    refine z_imul (a := 1) (b := speed) hx hb dX0_hoursFor_12 ?_
    refine lv_iload_n hx hb dX0_hoursFor_13 rfl (lv_at hl 2 rfl) ?_
    refine z_icmp_lt (a := (1 * speed)) (b := n) (tgt := 19) hx hb dX0_hoursFor_14 (by decide) (by omega) (fun h_14_2 => ?_) (fun h_14_2 => ?_)
    · skip
      refine z_iinc (a := 1) (n := 1) (lv' := [(2, .int (zi ((1 + 1)))), (0, .ref (b)), (1, .int (zi (n)))]) hx hb dX0_hoursFor_19 hl (k := 0) rfl (by decide) rfl (fun ls hl => ?_)
      refine lv_goto (tgt := 2) hx hb dX0_hoursFor_22 (by decide) ?_
      refine lv_iload_n hx hb dX0_hoursFor_2 rfl (lv_at hl 0 rfl) ?_
      refine lv_iconst (v := zi (5)) hx hb dX0_hoursFor_3 rfl ?_
      refine z_icmp_gt (a := (1 + 1)) (b := 5) (tgt := 25) hx hb dX0_hoursFor_4 (by decide) (by omega) (fun h_4_3 => ?_) (fun h_4_3 => ?_)
      · skip
        exact absurd h_4_3 (by omega)
      · skip
        refine lv_iload_n hx hb dX0_hoursFor_7 rfl (lv_at hl 0 rfl) ?_
        refine lv_aload_n hx hb dX0_hoursFor_8 rfl (lv_at hl 1 rfl) ?_
        refine z_get hx hb (q_wsX0 hT hW) hown hK hR hb0 rfl 4 (by decide) (q_246 hT hW) (fun _ h => h) rfl dX0_hoursFor_9 ?_
        refine z_imul (a := (1 + 1)) (b := speed) hx hb dX0_hoursFor_12 ?_
        refine lv_iload_n hx hb dX0_hoursFor_13 rfl (lv_at hl 2 rfl) ?_
        refine z_icmp_lt (a := ((1 + 1) * speed)) (b := n) (tgt := 19) hx hb dX0_hoursFor_14 (by decide) (by omega) (fun h_14_4 => ?_) (fun h_14_4 => ?_)
        · skip
          refine z_iinc (a := (1 + 1)) (n := 1) (lv' := [(2, .int (zi (((1 + 1) + 1)))), (0, .ref (b)), (1, .int (zi (n)))]) hx hb dX0_hoursFor_19 hl (k := 0) rfl (by decide) rfl (fun ls hl => ?_)
          refine lv_goto (tgt := 2) hx hb dX0_hoursFor_22 (by decide) ?_
          refine lv_iload_n hx hb dX0_hoursFor_2 rfl (lv_at hl 0 rfl) ?_
          refine lv_iconst (v := zi (5)) hx hb dX0_hoursFor_3 rfl ?_
          refine z_icmp_gt (a := ((1 + 1) + 1)) (b := 5) (tgt := 25) hx hb dX0_hoursFor_4 (by decide) (by omega) (fun h_4_5 => ?_) (fun h_4_5 => ?_)
          · skip
            exact absurd h_4_5 (by omega)
          · skip
            refine lv_iload_n hx hb dX0_hoursFor_7 rfl (lv_at hl 0 rfl) ?_
            refine lv_aload_n hx hb dX0_hoursFor_8 rfl (lv_at hl 1 rfl) ?_
            refine z_get hx hb (q_wsX0 hT hW) hown hK hR hb0 rfl 4 (by decide) (q_246 hT hW) (fun _ h => h) rfl dX0_hoursFor_9 ?_
            refine z_imul (a := ((1 + 1) + 1)) (b := speed) hx hb dX0_hoursFor_12 ?_
            refine lv_iload_n hx hb dX0_hoursFor_13 rfl (lv_at hl 2 rfl) ?_
            refine z_icmp_lt (a := (((1 + 1) + 1) * speed)) (b := n) (tgt := 19) hx hb dX0_hoursFor_14 (by decide) (by omega) (fun h_14_6 => ?_) (fun h_14_6 => ?_)
            · skip
              refine z_iinc (a := ((1 + 1) + 1)) (n := 1) (lv' := [(2, .int (zi ((((1 + 1) + 1) + 1)))), (0, .ref (b)), (1, .int (zi (n)))]) hx hb dX0_hoursFor_19 hl (k := 0) rfl (by decide) rfl (fun ls hl => ?_)
              refine lv_goto (tgt := 2) hx hb dX0_hoursFor_22 (by decide) ?_
              refine lv_iload_n hx hb dX0_hoursFor_2 rfl (lv_at hl 0 rfl) ?_
              refine lv_iconst (v := zi (5)) hx hb dX0_hoursFor_3 rfl ?_
              refine z_icmp_gt (a := (((1 + 1) + 1) + 1)) (b := 5) (tgt := 25) hx hb dX0_hoursFor_4 (by decide) (by omega) (fun h_4_7 => ?_) (fun h_4_7 => ?_)
              · skip
                exact absurd h_4_7 (by omega)
              · skip
                refine lv_iload_n hx hb dX0_hoursFor_7 rfl (lv_at hl 0 rfl) ?_
                refine lv_aload_n hx hb dX0_hoursFor_8 rfl (lv_at hl 1 rfl) ?_
                refine z_get hx hb (q_wsX0 hT hW) hown hK hR hb0 rfl 4 (by decide) (q_246 hT hW) (fun _ h => h) rfl dX0_hoursFor_9 ?_
                refine z_imul (a := (((1 + 1) + 1) + 1)) (b := speed) hx hb dX0_hoursFor_12 ?_
                refine lv_iload_n hx hb dX0_hoursFor_13 rfl (lv_at hl 2 rfl) ?_
                refine z_icmp_lt (a := ((((1 + 1) + 1) + 1) * speed)) (b := n) (tgt := 19) hx hb dX0_hoursFor_14 (by decide) (by omega) (fun h_14_8 => ?_) (fun h_14_8 => ?_)
                · skip
                  refine z_iinc (a := (((1 + 1) + 1) + 1)) (n := 1) (lv' := [(2, .int (zi (((((1 + 1) + 1) + 1) + 1)))), (0, .ref (b)), (1, .int (zi (n)))]) hx hb dX0_hoursFor_19 hl (k := 0) rfl (by decide) rfl (fun ls hl => ?_)
                  refine lv_goto (tgt := 2) hx hb dX0_hoursFor_22 (by decide) ?_
                  refine lv_iload_n hx hb dX0_hoursFor_2 rfl (lv_at hl 0 rfl) ?_
                  refine lv_iconst (v := zi (5)) hx hb dX0_hoursFor_3 rfl ?_
                  refine z_icmp_gt (a := ((((1 + 1) + 1) + 1) + 1)) (b := 5) (tgt := 25) hx hb dX0_hoursFor_4 (by decide) (by omega) (fun h_4_9 => ?_) (fun h_4_9 => ?_)
                  · skip
                    exact absurd h_4_9 (by omega)
                  · skip
                    refine lv_iload_n hx hb dX0_hoursFor_7 rfl (lv_at hl 0 rfl) ?_
                    refine lv_aload_n hx hb dX0_hoursFor_8 rfl (lv_at hl 1 rfl) ?_
                    refine z_get hx hb (q_wsX0 hT hW) hown hK hR hb0 rfl 4 (by decide) (q_246 hT hW) (fun _ h => h) rfl dX0_hoursFor_9 ?_
                    refine z_imul (a := ((((1 + 1) + 1) + 1) + 1)) (b := speed) hx hb dX0_hoursFor_12 ?_
                    refine lv_iload_n hx hb dX0_hoursFor_13 rfl (lv_at hl 2 rfl) ?_
                    refine z_icmp_lt (a := (((((1 + 1) + 1) + 1) + 1) * speed)) (b := n) (tgt := 19) hx hb dX0_hoursFor_14 (by decide) (by omega) (fun h_14_10 => ?_) (fun h_14_10 => ?_)
                    · skip
                      refine z_iinc (a := ((((1 + 1) + 1) + 1) + 1)) (n := 1) (lv' := [(2, .int (zi ((((((1 + 1) + 1) + 1) + 1) + 1)))), (0, .ref (b)), (1, .int (zi (n)))]) hx hb dX0_hoursFor_19 hl (k := 0) rfl (by decide) rfl (fun ls hl => ?_)
                      refine lv_goto (tgt := 2) hx hb dX0_hoursFor_22 (by decide) ?_
                      refine lv_iload_n hx hb dX0_hoursFor_2 rfl (lv_at hl 0 rfl) ?_
                      refine lv_iconst (v := zi (5)) hx hb dX0_hoursFor_3 rfl ?_
                      refine z_icmp_gt (a := (((((1 + 1) + 1) + 1) + 1) + 1)) (b := 5) (tgt := 25) hx hb dX0_hoursFor_4 (by decide) (by omega) (fun h_4_11 => ?_) (fun h_4_11 => ?_)
                      · skip
                        refine lv_iconst (v := zi (-1)) hx hb dX0_hoursFor_25 rfl ?_
                        exact z_iret hx hb hr hlocks hS (by decide) (by decide) dX0_hoursFor_26 ⟨by rw [show zhr speed n = (-1) from by unfold zhr; omega], hR⟩
                      · skip
                        exact absurd h_4_11 (by omega)
                    · skip
                      refine lv_iload_n hx hb dX0_hoursFor_17 rfl (lv_at hl 0 rfl) ?_
                      exact z_iret hx hb hr hlocks hS (by decide) (by decide) dX0_hoursFor_18 ⟨by rw [show zhr speed n = ((((1 + 1) + 1) + 1) + 1) from by unfold zhr; omega], hR⟩
                · skip
                  refine lv_iload_n hx hb dX0_hoursFor_17 rfl (lv_at hl 0 rfl) ?_
                  exact z_iret hx hb hr hlocks hS (by decide) (by decide) dX0_hoursFor_18 ⟨by rw [show zhr speed n = (((1 + 1) + 1) + 1) from by unfold zhr; omega], hR⟩
            · skip
              refine lv_iload_n hx hb dX0_hoursFor_17 rfl (lv_at hl 0 rfl) ?_
              exact z_iret hx hb hr hlocks hS (by decide) (by decide) dX0_hoursFor_18 ⟨by rw [show zhr speed n = ((1 + 1) + 1) from by unfold zhr; omega], hR⟩
        · skip
          refine lv_iload_n hx hb dX0_hoursFor_17 rfl (lv_at hl 0 rfl) ?_
          exact z_iret hx hb hr hlocks hS (by decide) (by decide) dX0_hoursFor_18 ⟨by rw [show zhr speed n = (1 + 1) from by unfold zhr; omega], hR⟩
    · skip
      refine lv_iload_n hx hb dX0_hoursFor_17 rfl (lv_at hl 0 rfl) ?_
      exact z_iret hx hb hr hlocks hS (by decide) (by decide) dX0_hoursFor_18 ⟨by rw [show zhr speed n = 1 from by unfold zhr; omega], hR⟩
set_option maxHeartbeats 4000000 in
set_option maxRecDepth 100000 in
theorem c_X0_init (l : Launch) {S : State} {D : va_G} {tc : Nat → ClassId} {A : Nat → Prop} {dz : Nat} (hZ : zB S D tc A dz) {w : zW} {b : Nat} {num club home speed fuel bears : Int} (hb0 : w b = some (.inr (1, [.int (zi (0)), .int (zi (0)), .int (zi (0)), .int (zi (0)), .int (zi (0)), .int (zi (0)), .int (zi (0)), .int (zi (0)), .int (zi (0)), .null, .int (zi (0)), .int (zi (0)), .int (zi (0))]))) : zM l S A yX0_init cX0_init 7 (Option.none : Option Jvm.ClassFile.FieldType) { frames := 2, locals := 40, cells := 0, slots := 0 } [.ref (b), .int (zi (num)), .int (zi (club)), .int (zi (home)), .int (zi (speed)), .int (zi (fuel)), .int (zi (bears))] (zR D A w) (fun v H => v = none ∧ zR D A (zu w b (.inr (1, [.int (zi (num)), .int (zi (club)), .int (zi (bears)), .int (zi (home)), .int (zi (speed)), .int (zi (fuel)), .int (zi (club)), .int (zi (club)), .int (zi (0)), .null, .int (zi ((-1))), .int (zi (fuel)), .int (zi ((-1)))]))) H) := by
  refine zM.mk (by decide +kernel) (Nat.le_of_ble_eq_true rfl) ?_
  intro p e s m below meth c ls X0 hR hl
  obtain ⟨hx, hb, hml, hr, hlocks, hown, hnm, hW, hpre, hA⟩ := X0
  have X : zH S A p s m c cX0_init 7 RX0 := ⟨hx, hb, hml, hown, hW, hpre, hA, hZ.2.2.1⟩
  have hT := hZ.1
  have hK := va_K.moved hW.alike hZ.2.1
  have hS : va_S A s.heap s.heap [] := va_S.rf
  have hl : lv_has ls 7 [(0, .ref (b)), (1, .int (zi (num))), (2, .int (zi (club))), (3, .int (zi (home))), (4, .int (zi (speed))), (5, .int (zi (fuel))), (6, .int (zi (bears)))] := hl
  skip
  refine lv_aload_n hx hb dX0_init_0 rfl (lv_at hl 0 rfl) ?_
  refine W.objInit hx hb hown (q_238 hT hW) (q_29 hT hW) (q_30 hT hW) rfl (by rw [hml]; exact hl.1) rfl dX0_init_1 (Nat.le_of_ble_eq_true rfl) (Nat.le_of_ble_eq_true rfl) ?_
  refine W.eq (g2 := F0 m 4 ls []) rfl ?_
  refine lv_aload_n hx hb dX0_init_4 rfl (lv_at hl 0 rfl) ?_
  refine lv_iload_n hx hb dX0_init_5 rfl (lv_at hl 1 rfl) ?_
  refine z_putF hx hb (q_wsX0 hT hW) tyX0 tyX0_ok nmX0 hown hK hR hS hb0 rfl 0 (by decide) (q_239 hT hW) (fun _ h => h) rfl hnm rfl (tyX0_ok 0 (by decide)) rfl rfl (Nat.le_of_ble_eq_true rfl) dX0_init_6 (fun H locs hR hS => ?_)
  have hR : zR D A (zu w (b) (.inr (1, [.int (zi (num)), .int (zi (0)), .int (zi (0)), .int (zi (0)), .int (zi (0)), .int (zi (0)), .int (zi (0)), .int (zi (0)), .int (zi (0)), .null, .int (zi (0)), .int (zi (0)), .int (zi (0))]))) H := hR
  have he_1 : (zu w (b) (.inr (1, [.int (zi (num)), .int (zi (0)), .int (zi (0)), .int (zi (0)), .int (zi (0)), .int (zi (0)), .int (zi (0)), .int (zi (0)), .int (zi (0)), .null, .int (zi (0)), .int (zi (0)), .int (zi (0))]))) (b) = some (.inr (1, [.int (zi (num)), .int (zi (0)), .int (zi (0)), .int (zi (0)), .int (zi (0)), .int (zi (0)), .int (zi (0)), .int (zi (0)), .int (zi (0)), .null, .int (zi (0)), .int (zi (0)), .int (zi (0))])) := zu_eq
  refine lv_aload_n hx hb dX0_init_9 rfl (lv_at hl 0 rfl) ?_
  refine lv_iload_n hx hb dX0_init_10 rfl (lv_at hl 2 rfl) ?_
  refine z_putF hx hb (q_wsX0 hT hW) tyX0 tyX0_ok nmX0 hown hK hR hS he_1 rfl 1 (by decide) (q_241 hT hW) (fun _ h => h) rfl hnm rfl (tyX0_ok 1 (by decide)) rfl rfl (Nat.le_of_ble_eq_true rfl) dX0_init_11 (fun H locs hR hS => ?_)
  rw [zu_zu] at hR
  have hR : zR D A (zu w (b) (.inr (1, [.int (zi (num)), .int (zi (club)), .int (zi (0)), .int (zi (0)), .int (zi (0)), .int (zi (0)), .int (zi (0)), .int (zi (0)), .int (zi (0)), .null, .int (zi (0)), .int (zi (0)), .int (zi (0))]))) H := hR
  have he_2 : (zu w (b) (.inr (1, [.int (zi (num)), .int (zi (club)), .int (zi (0)), .int (zi (0)), .int (zi (0)), .int (zi (0)), .int (zi (0)), .int (zi (0)), .int (zi (0)), .null, .int (zi (0)), .int (zi (0)), .int (zi (0))]))) (b) = some (.inr (1, [.int (zi (num)), .int (zi (club)), .int (zi (0)), .int (zi (0)), .int (zi (0)), .int (zi (0)), .int (zi (0)), .int (zi (0)), .int (zi (0)), .null, .int (zi (0)), .int (zi (0)), .int (zi (0))])) := zu_eq
  refine lv_aload_n hx hb dX0_init_14 rfl (lv_at hl 0 rfl) ?_
  refine lv_iload_n hx hb dX0_init_15 rfl (lv_at hl 3 rfl) ?_
  refine z_putF hx hb (q_wsX0 hT hW) tyX0 tyX0_ok nmX0 hown hK hR hS he_2 rfl 3 (by decide) (q_245 hT hW) (fun _ h => h) rfl hnm rfl (tyX0_ok 3 (by decide)) rfl rfl (Nat.le_of_ble_eq_true rfl) dX0_init_16 (fun H locs hR hS => ?_)
  rw [zu_zu] at hR
  have hR : zR D A (zu w (b) (.inr (1, [.int (zi (num)), .int (zi (club)), .int (zi (0)), .int (zi (home)), .int (zi (0)), .int (zi (0)), .int (zi (0)), .int (zi (0)), .int (zi (0)), .null, .int (zi (0)), .int (zi (0)), .int (zi (0))]))) H := hR
  have he_3 : (zu w (b) (.inr (1, [.int (zi (num)), .int (zi (club)), .int (zi (0)), .int (zi (home)), .int (zi (0)), .int (zi (0)), .int (zi (0)), .int (zi (0)), .int (zi (0)), .null, .int (zi (0)), .int (zi (0)), .int (zi (0))]))) (b) = some (.inr (1, [.int (zi (num)), .int (zi (club)), .int (zi (0)), .int (zi (home)), .int (zi (0)), .int (zi (0)), .int (zi (0)), .int (zi (0)), .int (zi (0)), .null, .int (zi (0)), .int (zi (0)), .int (zi (0))])) := zu_eq
  refine lv_aload_n hx hb dX0_init_19 rfl (lv_at hl 0 rfl) ?_
  refine lv_iload hx hb dX0_init_20 (lv_at hl 4 rfl) ?_
  refine z_putF hx hb (q_wsX0 hT hW) tyX0 tyX0_ok nmX0 hown hK hR hS he_3 rfl 4 (by decide) (q_246 hT hW) (fun _ h => h) rfl hnm rfl (tyX0_ok 4 (by decide)) rfl rfl (Nat.le_of_ble_eq_true rfl) dX0_init_22 (fun H locs hR hS => ?_)
  rw [zu_zu] at hR
  have hR : zR D A (zu w (b) (.inr (1, [.int (zi (num)), .int (zi (club)), .int (zi (0)), .int (zi (home)), .int (zi (speed)), .int (zi (0)), .int (zi (0)), .int (zi (0)), .int (zi (0)), .null, .int (zi (0)), .int (zi (0)), .int (zi (0))]))) H := hR
  have he_4 : (zu w (b) (.inr (1, [.int (zi (num)), .int (zi (club)), .int (zi (0)), .int (zi (home)), .int (zi (speed)), .int (zi (0)), .int (zi (0)), .int (zi (0)), .int (zi (0)), .null, .int (zi (0)), .int (zi (0)), .int (zi (0))]))) (b) = some (.inr (1, [.int (zi (num)), .int (zi (club)), .int (zi (0)), .int (zi (home)), .int (zi (speed)), .int (zi (0)), .int (zi (0)), .int (zi (0)), .int (zi (0)), .null, .int (zi (0)), .int (zi (0)), .int (zi (0))])) := zu_eq
  refine lv_aload_n hx hb dX0_init_25 rfl (lv_at hl 0 rfl) ?_
  refine lv_iload hx hb dX0_init_26 (lv_at hl 6 rfl) ?_
  refine z_putF hx hb (q_wsX0 hT hW) tyX0 tyX0_ok nmX0 hown hK hR hS he_4 rfl 2 (by decide) (q_243 hT hW) (fun _ h => h) rfl hnm rfl (tyX0_ok 2 (by decide)) rfl rfl (Nat.le_of_ble_eq_true rfl) dX0_init_28 (fun H locs hR hS => ?_)
  rw [zu_zu] at hR
  have hR : zR D A (zu w (b) (.inr (1, [.int (zi (num)), .int (zi (club)), .int (zi (bears)), .int (zi (home)), .int (zi (speed)), .int (zi (0)), .int (zi (0)), .int (zi (0)), .int (zi (0)), .null, .int (zi (0)), .int (zi (0)), .int (zi (0))]))) H := hR
  have he_5 : (zu w (b) (.inr (1, [.int (zi (num)), .int (zi (club)), .int (zi (bears)), .int (zi (home)), .int (zi (speed)), .int (zi (0)), .int (zi (0)), .int (zi (0)), .int (zi (0)), .null, .int (zi (0)), .int (zi (0)), .int (zi (0))]))) (b) = some (.inr (1, [.int (zi (num)), .int (zi (club)), .int (zi (bears)), .int (zi (home)), .int (zi (speed)), .int (zi (0)), .int (zi (0)), .int (zi (0)), .int (zi (0)), .null, .int (zi (0)), .int (zi (0)), .int (zi (0))])) := zu_eq
  refine lv_aload_n hx hb dX0_init_31 rfl (lv_at hl 0 rfl) ?_
  refine lv_iload hx hb dX0_init_32 (lv_at hl 5 rfl) ?_
  refine z_putF hx hb (q_wsX0 hT hW) tyX0 tyX0_ok nmX0 hown hK hR hS he_5 rfl 5 (by decide) (q_247 hT hW) (fun _ h => h) rfl hnm rfl (tyX0_ok 5 (by decide)) rfl rfl (Nat.le_of_ble_eq_true rfl) dX0_init_34 (fun H locs hR hS => ?_)
  rw [zu_zu] at hR
  have hR : zR D A (zu w (b) (.inr (1, [.int (zi (num)), .int (zi (club)), .int (zi (bears)), .int (zi (home)), .int (zi (speed)), .int (zi (fuel)), .int (zi (0)), .int (zi (0)), .int (zi (0)), .null, .int (zi (0)), .int (zi (0)), .int (zi (0))]))) H := hR
  have he_6 : (zu w (b) (.inr (1, [.int (zi (num)), .int (zi (club)), .int (zi (bears)), .int (zi (home)), .int (zi (speed)), .int (zi (fuel)), .int (zi (0)), .int (zi (0)), .int (zi (0)), .null, .int (zi (0)), .int (zi (0)), .int (zi (0))]))) (b) = some (.inr (1, [.int (zi (num)), .int (zi (club)), .int (zi (bears)), .int (zi (home)), .int (zi (speed)), .int (zi (fuel)), .int (zi (0)), .int (zi (0)), .int (zi (0)), .null, .int (zi (0)), .int (zi (0)), .int (zi (0))])) := zu_eq
  refine lv_aload_n hx hb dX0_init_37 rfl (lv_at hl 0 rfl) ?_
  refine lv_iload hx hb dX0_init_38 (lv_at hl 5 rfl) ?_
  refine z_put hx hb (q_wsX0 hT hW) tyX0 tyX0_ok nmX0 hown hK hR hS he_6 rfl 11 (by decide) (q_258 hT hW) (fun _ h => h) rfl (tyX0_ok 11 (by decide)) rfl rfl (Nat.le_of_ble_eq_true rfl) dX0_init_40 (fun H locs hR hS => ?_)
  rw [zu_zu] at hR
  have hR : zR D A (zu w (b) (.inr (1, [.int (zi (num)), .int (zi (club)), .int (zi (bears)), .int (zi (home)), .int (zi (speed)), .int (zi (fuel)), .int (zi (0)), .int (zi (0)), .int (zi (0)), .null, .int (zi (0)), .int (zi (fuel)), .int (zi (0))]))) H := hR
  have he_7 : (zu w (b) (.inr (1, [.int (zi (num)), .int (zi (club)), .int (zi (bears)), .int (zi (home)), .int (zi (speed)), .int (zi (fuel)), .int (zi (0)), .int (zi (0)), .int (zi (0)), .null, .int (zi (0)), .int (zi (fuel)), .int (zi (0))]))) (b) = some (.inr (1, [.int (zi (num)), .int (zi (club)), .int (zi (bears)), .int (zi (home)), .int (zi (speed)), .int (zi (fuel)), .int (zi (0)), .int (zi (0)), .int (zi (0)), .null, .int (zi (0)), .int (zi (fuel)), .int (zi (0))])) := zu_eq
  refine lv_aload_n hx hb dX0_init_43 rfl (lv_at hl 0 rfl) ?_
  refine lv_iload_n hx hb dX0_init_44 rfl (lv_at hl 2 rfl) ?_
  refine z_put hx hb (q_wsX0 hT hW) tyX0 tyX0_ok nmX0 hown hK hR hS he_7 rfl 6 (by decide) (q_248 hT hW) (fun _ h => h) rfl (tyX0_ok 6 (by decide)) rfl rfl (Nat.le_of_ble_eq_true rfl) dX0_init_45 (fun H locs hR hS => ?_)
  rw [zu_zu] at hR
  have hR : zR D A (zu w (b) (.inr (1, [.int (zi (num)), .int (zi (club)), .int (zi (bears)), .int (zi (home)), .int (zi (speed)), .int (zi (fuel)), .int (zi (club)), .int (zi (0)), .int (zi (0)), .null, .int (zi (0)), .int (zi (fuel)), .int (zi (0))]))) H := hR
  have he_8 : (zu w (b) (.inr (1, [.int (zi (num)), .int (zi (club)), .int (zi (bears)), .int (zi (home)), .int (zi (speed)), .int (zi (fuel)), .int (zi (club)), .int (zi (0)), .int (zi (0)), .null, .int (zi (0)), .int (zi (fuel)), .int (zi (0))]))) (b) = some (.inr (1, [.int (zi (num)), .int (zi (club)), .int (zi (bears)), .int (zi (home)), .int (zi (speed)), .int (zi (fuel)), .int (zi (club)), .int (zi (0)), .int (zi (0)), .null, .int (zi (0)), .int (zi (fuel)), .int (zi (0))])) := zu_eq
  refine lv_aload_n hx hb dX0_init_48 rfl (lv_at hl 0 rfl) ?_
  refine lv_iload_n hx hb dX0_init_49 rfl (lv_at hl 2 rfl) ?_
  refine z_put hx hb (q_wsX0 hT hW) tyX0 tyX0_ok nmX0 hown hK hR hS he_8 rfl 7 (by decide) (q_250 hT hW) (fun _ h => h) rfl (tyX0_ok 7 (by decide)) rfl rfl (Nat.le_of_ble_eq_true rfl) dX0_init_50 (fun H locs hR hS => ?_)
  rw [zu_zu] at hR
  have hR : zR D A (zu w (b) (.inr (1, [.int (zi (num)), .int (zi (club)), .int (zi (bears)), .int (zi (home)), .int (zi (speed)), .int (zi (fuel)), .int (zi (club)), .int (zi (club)), .int (zi (0)), .null, .int (zi (0)), .int (zi (fuel)), .int (zi (0))]))) H := hR
  have he_9 : (zu w (b) (.inr (1, [.int (zi (num)), .int (zi (club)), .int (zi (bears)), .int (zi (home)), .int (zi (speed)), .int (zi (fuel)), .int (zi (club)), .int (zi (club)), .int (zi (0)), .null, .int (zi (0)), .int (zi (fuel)), .int (zi (0))]))) (b) = some (.inr (1, [.int (zi (num)), .int (zi (club)), .int (zi (bears)), .int (zi (home)), .int (zi (speed)), .int (zi (fuel)), .int (zi (club)), .int (zi (club)), .int (zi (0)), .null, .int (zi (0)), .int (zi (fuel)), .int (zi (0))])) := zu_eq
  refine lv_aload_n hx hb dX0_init_53 rfl (lv_at hl 0 rfl) ?_
  refine lv_iconst (v := zi (0)) hx hb dX0_init_54 rfl ?_
  refine z_put hx hb (q_wsX0 hT hW) tyX0 tyX0_ok nmX0 hown hK hR hS he_9 rfl 8 (by decide) (q_252 hT hW) (fun _ h => h) rfl (tyX0_ok 8 (by decide)) rfl rfl (Nat.le_of_ble_eq_true rfl) dX0_init_55 (fun H locs hR hS => ?_)
  rw [zu_zu] at hR
  have hR : zR D A (zu w (b) (.inr (1, [.int (zi (num)), .int (zi (club)), .int (zi (bears)), .int (zi (home)), .int (zi (speed)), .int (zi (fuel)), .int (zi (club)), .int (zi (club)), .int (zi (0)), .null, .int (zi (0)), .int (zi (fuel)), .int (zi (0))]))) H := hR
  have he_10 : (zu w (b) (.inr (1, [.int (zi (num)), .int (zi (club)), .int (zi (bears)), .int (zi (home)), .int (zi (speed)), .int (zi (fuel)), .int (zi (club)), .int (zi (club)), .int (zi (0)), .null, .int (zi (0)), .int (zi (fuel)), .int (zi (0))]))) (b) = some (.inr (1, [.int (zi (num)), .int (zi (club)), .int (zi (bears)), .int (zi (home)), .int (zi (speed)), .int (zi (fuel)), .int (zi (club)), .int (zi (club)), .int (zi (0)), .null, .int (zi (0)), .int (zi (fuel)), .int (zi (0))])) := zu_eq
  refine lv_aload_n hx hb dX0_init_58 rfl (lv_at hl 0 rfl) ?_
  refine lv_null hx hb dX0_init_59 ?_
  refine z_put hx hb (q_wsX0 hT hW) tyX0 tyX0_ok nmX0 hown hK hR hS he_10 rfl 9 (by decide) (q_254 hT hW) (fun _ h => h) rfl (tyX0_ok 9 (by decide)) rfl rfl (Nat.le_of_ble_eq_true rfl) dX0_init_60 (fun H locs hR hS => ?_)
  rw [zu_zu] at hR
  have hR : zR D A (zu w (b) (.inr (1, [.int (zi (num)), .int (zi (club)), .int (zi (bears)), .int (zi (home)), .int (zi (speed)), .int (zi (fuel)), .int (zi (club)), .int (zi (club)), .int (zi (0)), .null, .int (zi (0)), .int (zi (fuel)), .int (zi (0))]))) H := hR
  have he_11 : (zu w (b) (.inr (1, [.int (zi (num)), .int (zi (club)), .int (zi (bears)), .int (zi (home)), .int (zi (speed)), .int (zi (fuel)), .int (zi (club)), .int (zi (club)), .int (zi (0)), .null, .int (zi (0)), .int (zi (fuel)), .int (zi (0))]))) (b) = some (.inr (1, [.int (zi (num)), .int (zi (club)), .int (zi (bears)), .int (zi (home)), .int (zi (speed)), .int (zi (fuel)), .int (zi (club)), .int (zi (club)), .int (zi (0)), .null, .int (zi (0)), .int (zi (fuel)), .int (zi (0))])) := zu_eq
  refine lv_aload_n hx hb dX0_init_63 rfl (lv_at hl 0 rfl) ?_
  refine lv_iconst (v := zi (-1)) hx hb dX0_init_64 rfl ?_
  refine z_put hx hb (q_wsX0 hT hW) tyX0 tyX0_ok nmX0 hown hK hR hS he_11 rfl 10 (by decide) (q_256 hT hW) (fun _ h => h) rfl (tyX0_ok 10 (by decide)) rfl rfl (Nat.le_of_ble_eq_true rfl) dX0_init_65 (fun H locs hR hS => ?_)
  rw [zu_zu] at hR
  have hR : zR D A (zu w (b) (.inr (1, [.int (zi (num)), .int (zi (club)), .int (zi (bears)), .int (zi (home)), .int (zi (speed)), .int (zi (fuel)), .int (zi (club)), .int (zi (club)), .int (zi (0)), .null, .int (zi ((-1))), .int (zi (fuel)), .int (zi (0))]))) H := hR
  have he_12 : (zu w (b) (.inr (1, [.int (zi (num)), .int (zi (club)), .int (zi (bears)), .int (zi (home)), .int (zi (speed)), .int (zi (fuel)), .int (zi (club)), .int (zi (club)), .int (zi (0)), .null, .int (zi ((-1))), .int (zi (fuel)), .int (zi (0))]))) (b) = some (.inr (1, [.int (zi (num)), .int (zi (club)), .int (zi (bears)), .int (zi (home)), .int (zi (speed)), .int (zi (fuel)), .int (zi (club)), .int (zi (club)), .int (zi (0)), .null, .int (zi ((-1))), .int (zi (fuel)), .int (zi (0))])) := zu_eq
  refine lv_aload_n hx hb dX0_init_68 rfl (lv_at hl 0 rfl) ?_
  refine lv_iconst (v := zi (-1)) hx hb dX0_init_69 rfl ?_
  refine z_put hx hb (q_wsX0 hT hW) tyX0 tyX0_ok nmX0 hown hK hR hS he_12 rfl 12 (by decide) (q_260 hT hW) (fun _ h => h) rfl (tyX0_ok 12 (by decide)) rfl rfl (Nat.le_of_ble_eq_true rfl) dX0_init_70 (fun H locs hR hS => ?_)
  rw [zu_zu] at hR
  have hR : zR D A (zu w (b) (.inr (1, [.int (zi (num)), .int (zi (club)), .int (zi (bears)), .int (zi (home)), .int (zi (speed)), .int (zi (fuel)), .int (zi (club)), .int (zi (club)), .int (zi (0)), .null, .int (zi ((-1))), .int (zi (fuel)), .int (zi ((-1)))]))) H := hR
  have he_13 : (zu w (b) (.inr (1, [.int (zi (num)), .int (zi (club)), .int (zi (bears)), .int (zi (home)), .int (zi (speed)), .int (zi (fuel)), .int (zi (club)), .int (zi (club)), .int (zi (0)), .null, .int (zi ((-1))), .int (zi (fuel)), .int (zi ((-1)))]))) (b) = some (.inr (1, [.int (zi (num)), .int (zi (club)), .int (zi (bears)), .int (zi (home)), .int (zi (speed)), .int (zi (fuel)), .int (zi (club)), .int (zi (club)), .int (zi (0)), .null, .int (zi ((-1))), .int (zi (fuel)), .int (zi ((-1)))])) := zu_eq
  exact z_vret hx hb hr hlocks hS (by decide) (by decide) dX0_init_73 ⟨rfl, hR⟩
set_option maxHeartbeats 4000000 in
set_option maxRecDepth 100000 in
theorem c_X1_init (l : Launch) {S : State} {D : va_G} {tc : Nat → ClassId} {A : Nat → Prop} {dz : Nat} (hZ : zB S D tc A dz) {w : zW} {b : Nat} {num cell need last : Int} (hb0 : w b = some (.inr (2, [.int (zi (0)), .int (zi (0)), .int (zi (0)), .int (zi (0)), .int (zi (0)), .null, .int (zi (0)), .int (zi (0))]))) : zM l S A yX1_init cX1_init 5 (Option.none : Option Jvm.ClassFile.FieldType) { frames := 2, locals := 40, cells := 0, slots := 0 } [.ref (b), .int (zi (num)), .int (zi (cell)), .int (zi (need)), .int (zi (last))] (zR D A w) (fun v H => v = none ∧ zR D A (zu w b (.inr (2, [.int (zi (num)), .int (zi (cell)), .int (zi (need)), .int (zi (last)), .int (zi (0)), .null, .int (zi (0)), .int (zi (0))]))) H) := by
  refine zM.mk (by decide +kernel) (Nat.le_of_ble_eq_true rfl) ?_
  intro p e s m below meth c ls X0 hR hl
  obtain ⟨hx, hb, hml, hr, hlocks, hown, hnm, hW, hpre, hA⟩ := X0
  have X : zH S A p s m c cX1_init 5 RX1 := ⟨hx, hb, hml, hown, hW, hpre, hA, hZ.2.2.1⟩
  have hT := hZ.1
  have hK := va_K.moved hW.alike hZ.2.1
  have hS : va_S A s.heap s.heap [] := va_S.rf
  have hl : lv_has ls 5 [(0, .ref (b)), (1, .int (zi (num))), (2, .int (zi (cell))), (3, .int (zi (need))), (4, .int (zi (last)))] := hl
  skip
  refine lv_aload_n hx hb dX1_init_0 rfl (lv_at hl 0 rfl) ?_
  refine W.objInit hx hb hown (q_420 hT hW) (q_29 hT hW) (q_30 hT hW) rfl (by rw [hml]; exact hl.1) rfl dX1_init_1 (Nat.le_of_ble_eq_true rfl) (Nat.le_of_ble_eq_true rfl) ?_
  refine W.eq (g2 := F0 m 4 ls []) rfl ?_
  refine lv_aload_n hx hb dX1_init_4 rfl (lv_at hl 0 rfl) ?_
  refine lv_iload_n hx hb dX1_init_5 rfl (lv_at hl 1 rfl) ?_
  refine z_putF hx hb (q_wsX1 hT hW) tyX1 tyX1_ok nmX1 hown hK hR hS hb0 rfl 0 (by decide) (q_421 hT hW) (fun _ h => h) rfl hnm rfl (tyX1_ok 0 (by decide)) rfl rfl (Nat.le_of_ble_eq_true rfl) dX1_init_6 (fun H locs hR hS => ?_)
  have hR : zR D A (zu w (b) (.inr (2, [.int (zi (num)), .int (zi (0)), .int (zi (0)), .int (zi (0)), .int (zi (0)), .null, .int (zi (0)), .int (zi (0))]))) H := hR
  have he_1 : (zu w (b) (.inr (2, [.int (zi (num)), .int (zi (0)), .int (zi (0)), .int (zi (0)), .int (zi (0)), .null, .int (zi (0)), .int (zi (0))]))) (b) = some (.inr (2, [.int (zi (num)), .int (zi (0)), .int (zi (0)), .int (zi (0)), .int (zi (0)), .null, .int (zi (0)), .int (zi (0))])) := zu_eq
  refine lv_aload_n hx hb dX1_init_9 rfl (lv_at hl 0 rfl) ?_
  refine lv_iload_n hx hb dX1_init_10 rfl (lv_at hl 2 rfl) ?_
  refine z_putF hx hb (q_wsX1 hT hW) tyX1 tyX1_ok nmX1 hown hK hR hS he_1 rfl 1 (by decide) (q_423 hT hW) (fun _ h => h) rfl hnm rfl (tyX1_ok 1 (by decide)) rfl rfl (Nat.le_of_ble_eq_true rfl) dX1_init_11 (fun H locs hR hS => ?_)
  rw [zu_zu] at hR
  have hR : zR D A (zu w (b) (.inr (2, [.int (zi (num)), .int (zi (cell)), .int (zi (0)), .int (zi (0)), .int (zi (0)), .null, .int (zi (0)), .int (zi (0))]))) H := hR
  have he_2 : (zu w (b) (.inr (2, [.int (zi (num)), .int (zi (cell)), .int (zi (0)), .int (zi (0)), .int (zi (0)), .null, .int (zi (0)), .int (zi (0))]))) (b) = some (.inr (2, [.int (zi (num)), .int (zi (cell)), .int (zi (0)), .int (zi (0)), .int (zi (0)), .null, .int (zi (0)), .int (zi (0))])) := zu_eq
  refine lv_aload_n hx hb dX1_init_14 rfl (lv_at hl 0 rfl) ?_
  refine lv_iload_n hx hb dX1_init_15 rfl (lv_at hl 3 rfl) ?_
  refine z_putF hx hb (q_wsX1 hT hW) tyX1 tyX1_ok nmX1 hown hK hR hS he_2 rfl 2 (by decide) (q_425 hT hW) (fun _ h => h) rfl hnm rfl (tyX1_ok 2 (by decide)) rfl rfl (Nat.le_of_ble_eq_true rfl) dX1_init_16 (fun H locs hR hS => ?_)
  rw [zu_zu] at hR
  have hR : zR D A (zu w (b) (.inr (2, [.int (zi (num)), .int (zi (cell)), .int (zi (need)), .int (zi (0)), .int (zi (0)), .null, .int (zi (0)), .int (zi (0))]))) H := hR
  have he_3 : (zu w (b) (.inr (2, [.int (zi (num)), .int (zi (cell)), .int (zi (need)), .int (zi (0)), .int (zi (0)), .null, .int (zi (0)), .int (zi (0))]))) (b) = some (.inr (2, [.int (zi (num)), .int (zi (cell)), .int (zi (need)), .int (zi (0)), .int (zi (0)), .null, .int (zi (0)), .int (zi (0))])) := zu_eq
  refine lv_aload_n hx hb dX1_init_19 rfl (lv_at hl 0 rfl) ?_
  refine lv_iload hx hb dX1_init_20 (lv_at hl 4 rfl) ?_
  refine z_putF hx hb (q_wsX1 hT hW) tyX1 tyX1_ok nmX1 hown hK hR hS he_3 rfl 3 (by decide) (q_427 hT hW) (fun _ h => h) rfl hnm rfl (tyX1_ok 3 (by decide)) rfl rfl (Nat.le_of_ble_eq_true rfl) dX1_init_22 (fun H locs hR hS => ?_)
  rw [zu_zu] at hR
  have hR : zR D A (zu w (b) (.inr (2, [.int (zi (num)), .int (zi (cell)), .int (zi (need)), .int (zi (last)), .int (zi (0)), .null, .int (zi (0)), .int (zi (0))]))) H := hR
  have he_4 : (zu w (b) (.inr (2, [.int (zi (num)), .int (zi (cell)), .int (zi (need)), .int (zi (last)), .int (zi (0)), .null, .int (zi (0)), .int (zi (0))]))) (b) = some (.inr (2, [.int (zi (num)), .int (zi (cell)), .int (zi (need)), .int (zi (last)), .int (zi (0)), .null, .int (zi (0)), .int (zi (0))])) := zu_eq
  refine lv_aload_n hx hb dX1_init_25 rfl (lv_at hl 0 rfl) ?_
  refine lv_iconst (v := zi (0)) hx hb dX1_init_26 rfl ?_
  refine z_put hx hb (q_wsX1 hT hW) tyX1 tyX1_ok nmX1 hown hK hR hS he_4 rfl 4 (by decide) (q_429 hT hW) (fun _ h => h) rfl (tyX1_ok 4 (by decide)) rfl rfl (Nat.le_of_ble_eq_true rfl) dX1_init_27 (fun H locs hR hS => ?_)
  rw [zu_zu] at hR
  have hR : zR D A (zu w (b) (.inr (2, [.int (zi (num)), .int (zi (cell)), .int (zi (need)), .int (zi (last)), .int (zi (0)), .null, .int (zi (0)), .int (zi (0))]))) H := hR
  have he_5 : (zu w (b) (.inr (2, [.int (zi (num)), .int (zi (cell)), .int (zi (need)), .int (zi (last)), .int (zi (0)), .null, .int (zi (0)), .int (zi (0))]))) (b) = some (.inr (2, [.int (zi (num)), .int (zi (cell)), .int (zi (need)), .int (zi (last)), .int (zi (0)), .null, .int (zi (0)), .int (zi (0))])) := zu_eq
  refine lv_aload_n hx hb dX1_init_30 rfl (lv_at hl 0 rfl) ?_
  refine lv_null hx hb dX1_init_31 ?_
  refine z_put hx hb (q_wsX1 hT hW) tyX1 tyX1_ok nmX1 hown hK hR hS he_5 rfl 5 (by decide) (q_431 hT hW) (fun _ h => h) rfl (tyX1_ok 5 (by decide)) rfl rfl (Nat.le_of_ble_eq_true rfl) dX1_init_32 (fun H locs hR hS => ?_)
  rw [zu_zu] at hR
  have hR : zR D A (zu w (b) (.inr (2, [.int (zi (num)), .int (zi (cell)), .int (zi (need)), .int (zi (last)), .int (zi (0)), .null, .int (zi (0)), .int (zi (0))]))) H := hR
  have he_6 : (zu w (b) (.inr (2, [.int (zi (num)), .int (zi (cell)), .int (zi (need)), .int (zi (last)), .int (zi (0)), .null, .int (zi (0)), .int (zi (0))]))) (b) = some (.inr (2, [.int (zi (num)), .int (zi (cell)), .int (zi (need)), .int (zi (last)), .int (zi (0)), .null, .int (zi (0)), .int (zi (0))])) := zu_eq
  refine lv_aload_n hx hb dX1_init_35 rfl (lv_at hl 0 rfl) ?_
  refine lv_iconst (v := zi (0)) hx hb dX1_init_36 rfl ?_
  refine z_put hx hb (q_wsX1 hT hW) tyX1 tyX1_ok nmX1 hown hK hR hS he_6 rfl 6 (by decide) (q_433 hT hW) (fun _ h => h) rfl (tyX1_ok 6 (by decide)) rfl rfl (Nat.le_of_ble_eq_true rfl) dX1_init_37 (fun H locs hR hS => ?_)
  rw [zu_zu] at hR
  have hR : zR D A (zu w (b) (.inr (2, [.int (zi (num)), .int (zi (cell)), .int (zi (need)), .int (zi (last)), .int (zi (0)), .null, .int (zi (0)), .int (zi (0))]))) H := hR
  have he_7 : (zu w (b) (.inr (2, [.int (zi (num)), .int (zi (cell)), .int (zi (need)), .int (zi (last)), .int (zi (0)), .null, .int (zi (0)), .int (zi (0))]))) (b) = some (.inr (2, [.int (zi (num)), .int (zi (cell)), .int (zi (need)), .int (zi (last)), .int (zi (0)), .null, .int (zi (0)), .int (zi (0))])) := zu_eq
  refine lv_aload_n hx hb dX1_init_40 rfl (lv_at hl 0 rfl) ?_
  refine lv_iconst (v := zi (0)) hx hb dX1_init_41 rfl ?_
  refine z_put hx hb (q_wsX1 hT hW) tyX1 tyX1_ok nmX1 hown hK hR hS he_7 rfl 7 (by decide) (q_435 hT hW) (fun _ h => h) rfl (tyX1_ok 7 (by decide)) rfl rfl (Nat.le_of_ble_eq_true rfl) dX1_init_42 (fun H locs hR hS => ?_)
  rw [zu_zu] at hR
  have hR : zR D A (zu w (b) (.inr (2, [.int (zi (num)), .int (zi (cell)), .int (zi (need)), .int (zi (last)), .int (zi (0)), .null, .int (zi (0)), .int (zi (0))]))) H := hR
  have he_8 : (zu w (b) (.inr (2, [.int (zi (num)), .int (zi (cell)), .int (zi (need)), .int (zi (last)), .int (zi (0)), .null, .int (zi (0)), .int (zi (0))]))) (b) = some (.inr (2, [.int (zi (num)), .int (zi (cell)), .int (zi (need)), .int (zi (last)), .int (zi (0)), .null, .int (zi (0)), .int (zi (0))])) := zu_eq
  exact z_vret hx hb hr hlocks hS (by decide) (by decide) dX1_init_45 ⟨rfl, hR⟩
set_option maxHeartbeats 4000000 in
set_option maxRecDepth 100000 in
theorem c_X2_init (l : Launch) {S : State} {D : va_G} {tc : Nat → ClassId} {A : Nat → Prop} {dz : Nat} (hZ : zB S D tc A dz) {w : zW} {b : Nat} {ow us wy need cap : Int} (hb0 : w b = some (.inr (3, [.int (zi (0)), .int (zi (0)), .int (zi (0)), .int (zi (0)), .int (zi (0))]))) : zM l S A yX2_init cX2_init 6 (Option.none : Option Jvm.ClassFile.FieldType) { frames := 2, locals := 40, cells := 0, slots := 0 } [.ref (b), .int (zi (ow)), .int (zi (us)), .int (zi (wy)), .int (zi (need)), .int (zi (cap))] (zR D A w) (fun v H => v = none ∧ zR D A (zu w b (.inr (3, [.int (zi (ow)), .int (zi (us)), .int (zi (wy)), .int (zi (need)), .int (zi (cap))]))) H) := by
  refine zM.mk (by decide +kernel) (Nat.le_of_ble_eq_true rfl) ?_
  intro p e s m below meth c ls X0 hR hl
  obtain ⟨hx, hb, hml, hr, hlocks, hown, hnm, hW, hpre, hA⟩ := X0
  have X : zH S A p s m c cX2_init 6 RX2 := ⟨hx, hb, hml, hown, hW, hpre, hA, hZ.2.2.1⟩
  have hT := hZ.1
  have hK := va_K.moved hW.alike hZ.2.1
  have hS : va_S A s.heap s.heap [] := va_S.rf
  have hl : lv_has ls 6 [(0, .ref (b)), (1, .int (zi (ow))), (2, .int (zi (us))), (3, .int (zi (wy))), (4, .int (zi (need))), (5, .int (zi (cap)))] := hl
  skip
  refine lv_aload_n hx hb dX2_init_0 rfl (lv_at hl 0 rfl) ?_
  refine W.objInit hx hb hown (q_516 hT hW) (q_29 hT hW) (q_30 hT hW) rfl (by rw [hml]; exact hl.1) rfl dX2_init_1 (Nat.le_of_ble_eq_true rfl) (Nat.le_of_ble_eq_true rfl) ?_
  refine W.eq (g2 := F0 m 4 ls []) rfl ?_
  refine lv_aload_n hx hb dX2_init_4 rfl (lv_at hl 0 rfl) ?_
  refine lv_iload_n hx hb dX2_init_5 rfl (lv_at hl 1 rfl) ?_
  refine z_putF hx hb (q_wsX2 hT hW) tyX2 tyX2_ok nmX2 hown hK hR hS hb0 rfl 0 (by decide) (q_517 hT hW) (fun _ h => h) rfl hnm rfl (tyX2_ok 0 (by decide)) rfl rfl (Nat.le_of_ble_eq_true rfl) dX2_init_6 (fun H locs hR hS => ?_)
  have hR : zR D A (zu w (b) (.inr (3, [.int (zi (ow)), .int (zi (0)), .int (zi (0)), .int (zi (0)), .int (zi (0))]))) H := hR
  have he_1 : (zu w (b) (.inr (3, [.int (zi (ow)), .int (zi (0)), .int (zi (0)), .int (zi (0)), .int (zi (0))]))) (b) = some (.inr (3, [.int (zi (ow)), .int (zi (0)), .int (zi (0)), .int (zi (0)), .int (zi (0))])) := zu_eq
  refine lv_aload_n hx hb dX2_init_9 rfl (lv_at hl 0 rfl) ?_
  refine lv_iload_n hx hb dX2_init_10 rfl (lv_at hl 2 rfl) ?_
  refine z_putF hx hb (q_wsX2 hT hW) tyX2 tyX2_ok nmX2 hown hK hR hS he_1 rfl 1 (by decide) (q_518 hT hW) (fun _ h => h) rfl hnm rfl (tyX2_ok 1 (by decide)) rfl rfl (Nat.le_of_ble_eq_true rfl) dX2_init_11 (fun H locs hR hS => ?_)
  rw [zu_zu] at hR
  have hR : zR D A (zu w (b) (.inr (3, [.int (zi (ow)), .int (zi (us)), .int (zi (0)), .int (zi (0)), .int (zi (0))]))) H := hR
  have he_2 : (zu w (b) (.inr (3, [.int (zi (ow)), .int (zi (us)), .int (zi (0)), .int (zi (0)), .int (zi (0))]))) (b) = some (.inr (3, [.int (zi (ow)), .int (zi (us)), .int (zi (0)), .int (zi (0)), .int (zi (0))])) := zu_eq
  refine lv_aload_n hx hb dX2_init_14 rfl (lv_at hl 0 rfl) ?_
  refine lv_iload_n hx hb dX2_init_15 rfl (lv_at hl 3 rfl) ?_
  refine z_putF hx hb (q_wsX2 hT hW) tyX2 tyX2_ok nmX2 hown hK hR hS he_2 rfl 2 (by decide) (q_519 hT hW) (fun _ h => h) rfl hnm rfl (tyX2_ok 2 (by decide)) rfl rfl (Nat.le_of_ble_eq_true rfl) dX2_init_16 (fun H locs hR hS => ?_)
  rw [zu_zu] at hR
  have hR : zR D A (zu w (b) (.inr (3, [.int (zi (ow)), .int (zi (us)), .int (zi (wy)), .int (zi (0)), .int (zi (0))]))) H := hR
  have he_3 : (zu w (b) (.inr (3, [.int (zi (ow)), .int (zi (us)), .int (zi (wy)), .int (zi (0)), .int (zi (0))]))) (b) = some (.inr (3, [.int (zi (ow)), .int (zi (us)), .int (zi (wy)), .int (zi (0)), .int (zi (0))])) := zu_eq
  refine lv_aload_n hx hb dX2_init_19 rfl (lv_at hl 0 rfl) ?_
  refine lv_iload hx hb dX2_init_20 (lv_at hl 4 rfl) ?_
  refine z_putF hx hb (q_wsX2 hT hW) tyX2 tyX2_ok nmX2 hown hK hR hS he_3 rfl 3 (by decide) (q_520 hT hW) (fun _ h => h) rfl hnm rfl (tyX2_ok 3 (by decide)) rfl rfl (Nat.le_of_ble_eq_true rfl) dX2_init_22 (fun H locs hR hS => ?_)
  rw [zu_zu] at hR
  have hR : zR D A (zu w (b) (.inr (3, [.int (zi (ow)), .int (zi (us)), .int (zi (wy)), .int (zi (need)), .int (zi (0))]))) H := hR
  have he_4 : (zu w (b) (.inr (3, [.int (zi (ow)), .int (zi (us)), .int (zi (wy)), .int (zi (need)), .int (zi (0))]))) (b) = some (.inr (3, [.int (zi (ow)), .int (zi (us)), .int (zi (wy)), .int (zi (need)), .int (zi (0))])) := zu_eq
  refine lv_aload_n hx hb dX2_init_25 rfl (lv_at hl 0 rfl) ?_
  refine lv_iload hx hb dX2_init_26 (lv_at hl 5 rfl) ?_
  refine z_putF hx hb (q_wsX2 hT hW) tyX2 tyX2_ok nmX2 hown hK hR hS he_4 rfl 4 (by decide) (q_521 hT hW) (fun _ h => h) rfl hnm rfl (tyX2_ok 4 (by decide)) rfl rfl (Nat.le_of_ble_eq_true rfl) dX2_init_28 (fun H locs hR hS => ?_)
  rw [zu_zu] at hR
  have hR : zR D A (zu w (b) (.inr (3, [.int (zi (ow)), .int (zi (us)), .int (zi (wy)), .int (zi (need)), .int (zi (cap))]))) H := hR
  have he_5 : (zu w (b) (.inr (3, [.int (zi (ow)), .int (zi (us)), .int (zi (wy)), .int (zi (need)), .int (zi (cap))]))) (b) = some (.inr (3, [.int (zi (ow)), .int (zi (us)), .int (zi (wy)), .int (zi (need)), .int (zi (cap))])) := zu_eq
  exact z_vret hx hb hr hlocks hS (by decide) (by decide) dX2_init_31 ⟨rfl, hR⟩
set_option maxHeartbeats 4000000 in
set_option maxRecDepth 100000 in
theorem c_X2_reward (l : Launch) {S : State} {D : va_G} {tc : Nat → ClassId} {A : Nat → Prop} {dz : Nat} (hZ : zB S D tc A dz) {w : zW} {b : Nat} {ow us wy need cap : Int} (hb0 : w b = some (.inr (3, [.int (zi (ow)), .int (zi (us)), .int (zi (wy)), .int (zi (need)), .int (zi (cap))]))) (h0 : 0 ≤ wy ∧ wy ≤ 1000 ∧ 0 ≤ need ∧ need ≤ 1000 ∧ 0 ≤ cap ∧ cap ≤ 1000) : zM l S A yX2_reward cX2_reward 1 (Option.some Jvm.ClassFile.FieldType.int) { frames := 1, locals := 20, cells := 0, slots := 0 } [.ref (b)] (zR D A w) (fun v H => v = some (.int (zi (min (10 * wy + 5 * need) cap))) ∧ zR D A w H) := by
  refine zM.mk (by decide +kernel) (Nat.le_of_ble_eq_true rfl) ?_
  intro p e s m below meth c ls X0 hR hl
  obtain ⟨hx, hb, hml, hr, hlocks, hown, hnm, hW, hpre, hA⟩ := X0
  have X : zH S A p s m c cX2_reward 1 RX2 := ⟨hx, hb, hml, hown, hW, hpre, hA, hZ.2.2.1⟩
  have hT := hZ.1
  have hK := va_K.moved hW.alike hZ.2.1
  have hS : va_S A s.heap s.heap [] := va_S.rf
  have hl : lv_has ls 1 [(0, .ref (b))] := hl
  skip
  refine lv_bipush (v := zi (10)) hx hb dX2_reward_0 rfl ?_
  refine lv_aload_n hx hb dX2_reward_2 rfl (lv_at hl 0 rfl) ?_
  refine z_get hx hb (q_wsX2 hT hW) hown hK hR hb0 rfl 2 (by decide) (q_519 hT hW) (fun _ h => h) rfl dX2_reward_3 ?_
  refine z_imul (a := 10) (b := wy) hx hb dX2_reward_6 ?_
  refine lv_iconst (v := zi (5)) hx hb dX2_reward_7 rfl ?_
  refine lv_aload_n hx hb dX2_reward_8 rfl (lv_at hl 0 rfl) ?_
  refine z_get hx hb (q_wsX2 hT hW) hown hK hR hb0 rfl 3 (by decide) (q_520 hT hW) (fun _ h => h) rfl dX2_reward_9 ?_
  refine z_imul (a := 5) (b := need) hx hb dX2_reward_12 ?_
  refine z_iadd (a := (10 * wy)) (b := (5 * need)) hx hb dX2_reward_13 ?_
  refine lv_aload_n hx hb dX2_reward_14 rfl (lv_at hl 0 rfl) ?_
  refine z_get hx hb (q_wsX2 hT hW) hown hK hR hb0 rfl 4 (by decide) (q_521 hT hW) (fun _ h => h) rfl dX2_reward_15 ?_
  refine z_min (a := ((10 * wy) + (5 * need))) (b := cap) hT X hl.1 (q_547 hT hW) (by omega) (Nat.le_of_ble_eq_true rfl) (Nat.le_of_ble_eq_true rfl) (Nat.le_of_ble_eq_true rfl) (Nat.le_of_ble_eq_true rfl) dX2_reward_18 ?_
  exact z_iret hx hb hr hlocks hS (by decide) (by decide) dX2_reward_21 ⟨rfl, hR⟩
set_option maxHeartbeats 4000000 in
set_option maxRecDepth 100000 in
theorem c_X2_shareOf (l : Launch) {S : State} {D : va_G} {tc : Nat → ClassId} {A : Nat → Prop} {dz : Nat} (hZ : zB S D tc A dz) {w : zW} {b : Nat} {ow us wy need cap : Int} (hb0 : w b = some (.inr (3, [.int (zi (ow)), .int (zi (us)), .int (zi (wy)), .int (zi (need)), .int (zi (cap))]))) (h0 : 0 ≤ wy ∧ wy ≤ 1000 ∧ 0 ≤ need ∧ need ≤ 1000 ∧ 0 ≤ cap ∧ cap ≤ 1000) {cb : Int} (h1 : 0 ≤ cb ∧ cb ≤ 2 ∧ 0 ≤ ow ∧ ow ≤ 2 ∧ 0 ≤ us ∧ us ≤ 2) : zM l S A yX2_shareOf cX2_shareOf 5 (Option.some Jvm.ClassFile.FieldType.int) { frames := 2, locals := 50, cells := 0, slots := 0 } [.ref (b), .int (zi (cb))] (zR D A w) (fun v H => v = some (.int (zi (zshare ow us (min (10 * wy + 5 * need) cap) cb))) ∧ zR D A w H) := by
  refine zM.mk (by decide +kernel) (Nat.le_of_ble_eq_true rfl) ?_
  intro p e s m below meth c ls X0 hR hl
  obtain ⟨hx, hb, hml, hr, hlocks, hown, hnm, hW, hpre, hA⟩ := X0
  have X : zH S A p s m c cX2_shareOf 5 RX2 := ⟨hx, hb, hml, hown, hW, hpre, hA, hZ.2.2.1⟩
  have hT := hZ.1
  have hK := va_K.moved hW.alike hZ.2.1
  have hS : va_S A s.heap s.heap [] := va_S.rf
  have hl : lv_has ls 5 [(0, .ref (b)), (1, .int (zi (cb)))] := hl
  skip
  refine lv_aload_n hx hb dX2_shareOf_0 rfl (lv_at hl 0 rfl) ?_
  refine z_invV (n := 0) (C := RX2) (c_X2_reward l hZ hb0 h0) X hS hR hl.1 (q_546 hT hW) (q_22 hT hW) (q_543 hT hW) (q_544 hT hW) (q_545 hT hW) (z_recv hK hR hb0 rfl) (by decide +kernel) rfl ⟨Nat.le_of_ble_eq_true rfl, Nat.le_of_ble_eq_true rfl⟩ ⟨Nat.le_of_ble_eq_true rfl, Nat.le_of_ble_eq_true rfl⟩ (Nat.le_of_ble_eq_true rfl) dX2_shareOf_1 (fun v H locs hv hS => ?_) rfl
  obtain ⟨rfl, hR⟩ := hv
  refine lv_istore_n (lv' := [(2, .int (zi ((min (10 * wy + 5 * need) cap)))), (0, .ref (b)), (1, .int (zi (cb)))]) hx hb dX2_shareOf_4 rfl hl (by decide) rfl (fun ls hl => ?_)
  refine lv_aload_n hx hb dX2_shareOf_5 rfl (lv_at hl 1 rfl) ?_
  refine z_get hx hb (q_wsX2 hT hW) hown hK hR hb0 rfl 0 (by decide) (q_517 hT hW) (fun _ h => h) rfl dX2_shareOf_6 ?_
  refine lv_aload_n hx hb dX2_shareOf_9 rfl (lv_at hl 1 rfl) ?_
  refine z_get hx hb (q_wsX2 hT hW) hown hK hR hb0 rfl 1 (by decide) (q_518 hT hW) (fun _ h => h) rfl dX2_shareOf_10 ?_
  refine z_icmp_ne (a := ow) (b := us) (tgt := 20) hx hb dX2_shareOf_13 (by decide) (by omega) (fun h_13 => ?_) (fun h_13 => ?_)
  · skip
    refine lv_iload_n hx hb dX2_shareOf_20 rfl (lv_at hl 0 rfl) ?_
    refine lv_iconst (v := zi (2)) hx hb dX2_shareOf_21 rfl ?_
    refine z_idiv (a := (min (10 * wy + 5 * need) cap)) (b := 2) hx hb dX2_shareOf_22 (by omega) ?_
    refine lv_istore_n (lv' := [(3, .int (zi (((min (10 * wy + 5 * need) cap) / 2)))), (2, .int (zi ((min (10 * wy + 5 * need) cap)))), (0, .ref (b)), (1, .int (zi (cb)))]) hx hb dX2_shareOf_23 rfl hl (by decide) rfl (fun ls hl => ?_)
    refine lv_iload_n hx hb dX2_shareOf_24 rfl (lv_at hl 3 rfl) ?_
    refine lv_aload_n hx hb dX2_shareOf_25 rfl (lv_at hl 2 rfl) ?_
    refine z_get hx hb (q_wsX2 hT hW) hown hK hR hb0 rfl 0 (by decide) (q_517 hT hW) (fun _ h => h) rfl dX2_shareOf_26 ?_
    refine z_icmp_ne (a := cb) (b := ow) (tgt := 36) hx hb dX2_shareOf_29 (by decide) (by omega) (fun h_29 => ?_) (fun h_29 => ?_)
    · skip
      refine lv_iconst (v := zi (0)) hx hb dX2_shareOf_36 rfl ?_
      refine lv_istore (lv' := [(4, .int (zi (0))), (3, .int (zi (((min (10 * wy + 5 * need) cap) / 2)))), (2, .int (zi ((min (10 * wy + 5 * need) cap)))), (0, .ref (b)), (1, .int (zi (cb)))]) hx hb dX2_shareOf_37 hl (by decide) rfl (fun ls hl => ?_)
      refine lv_iload_n hx hb dX2_shareOf_39 rfl (lv_at hl 4 rfl) ?_
      refine lv_aload_n hx hb dX2_shareOf_40 rfl (lv_at hl 3 rfl) ?_
      refine z_get hx hb (q_wsX2 hT hW) hown hK hR hb0 rfl 1 (by decide) (q_518 hT hW) (fun _ h => h) rfl dX2_shareOf_41 ?_
      refine z_icmp_ne (a := cb) (b := us) (tgt := 56) hx hb dX2_shareOf_44 (by decide) (by omega) (fun h_44 => ?_) (fun h_44 => ?_)
      · skip
        refine lv_iload hx hb dX2_shareOf_56 (lv_at hl 0 rfl) ?_
        exact z_iret hx hb hr hlocks hS (by decide) (by decide) dX2_shareOf_58 ⟨by rw [show zshare ow us (min (10 * wy + 5 * need) cap) cb = 0 from by unfold zshare zown; omega], hR⟩
      · skip
        refine lv_iload hx hb dX2_shareOf_47 (lv_at hl 0 rfl) ?_
        refine lv_iload_n hx hb dX2_shareOf_49 rfl (lv_at hl 2 rfl) ?_
        refine z_iadd (a := 0) (b := (min (10 * wy + 5 * need) cap)) hx hb dX2_shareOf_50 ?_
        refine lv_iload_n hx hb dX2_shareOf_51 rfl (lv_at hl 1 rfl) ?_
        refine z_isub (a := (0 + (min (10 * wy + 5 * need) cap))) (b := ((min (10 * wy + 5 * need) cap) / 2)) hx hb dX2_shareOf_52 ?_
        refine lv_goto (tgt := 58) hx hb dX2_shareOf_53 (by decide) ?_
        exact z_iret hx hb hr hlocks hS (by decide) (by decide) dX2_shareOf_58 ⟨by rw [show zshare ow us (min (10 * wy + 5 * need) cap) cb = ((0 + (min (10 * wy + 5 * need) cap)) - ((min (10 * wy + 5 * need) cap) / 2)) from by unfold zshare zown; omega], hR⟩
    · skip
      refine lv_iload_n hx hb dX2_shareOf_32 rfl (lv_at hl 0 rfl) ?_
      refine lv_goto (tgt := 37) hx hb dX2_shareOf_33 (by decide) ?_
      refine lv_istore (lv' := [(4, .int (zi (((min (10 * wy + 5 * need) cap) / 2)))), (3, .int (zi (((min (10 * wy + 5 * need) cap) / 2)))), (2, .int (zi ((min (10 * wy + 5 * need) cap)))), (0, .ref (b)), (1, .int (zi (cb)))]) hx hb dX2_shareOf_37 hl (by decide) rfl (fun ls hl => ?_)
      refine lv_iload_n hx hb dX2_shareOf_39 rfl (lv_at hl 4 rfl) ?_
      refine lv_aload_n hx hb dX2_shareOf_40 rfl (lv_at hl 3 rfl) ?_
      refine z_get hx hb (q_wsX2 hT hW) hown hK hR hb0 rfl 1 (by decide) (q_518 hT hW) (fun _ h => h) rfl dX2_shareOf_41 ?_
      refine z_icmp_ne (a := cb) (b := us) (tgt := 56) hx hb dX2_shareOf_44 (by decide) (by omega) (fun h_44 => ?_) (fun h_44 => ?_)
      · skip
        refine lv_iload hx hb dX2_shareOf_56 (lv_at hl 0 rfl) ?_
        exact z_iret hx hb hr hlocks hS (by decide) (by decide) dX2_shareOf_58 ⟨by rw [show zshare ow us (min (10 * wy + 5 * need) cap) cb = ((min (10 * wy + 5 * need) cap) / 2) from by unfold zshare zown; omega], hR⟩
      · skip
        refine lv_iload hx hb dX2_shareOf_47 (lv_at hl 0 rfl) ?_
        refine lv_iload_n hx hb dX2_shareOf_49 rfl (lv_at hl 2 rfl) ?_
        refine z_iadd (a := ((min (10 * wy + 5 * need) cap) / 2)) (b := (min (10 * wy + 5 * need) cap)) hx hb dX2_shareOf_50 ?_
        refine lv_iload_n hx hb dX2_shareOf_51 rfl (lv_at hl 1 rfl) ?_
        refine z_isub (a := (((min (10 * wy + 5 * need) cap) / 2) + (min (10 * wy + 5 * need) cap))) (b := ((min (10 * wy + 5 * need) cap) / 2)) hx hb dX2_shareOf_52 ?_
        refine lv_goto (tgt := 58) hx hb dX2_shareOf_53 (by decide) ?_
        exact z_iret hx hb hr hlocks hS (by decide) (by decide) dX2_shareOf_58 ⟨by rw [show zshare ow us (min (10 * wy + 5 * need) cap) cb = ((((min (10 * wy + 5 * need) cap) / 2) + (min (10 * wy + 5 * need) cap)) - ((min (10 * wy + 5 * need) cap) / 2)) from by unfold zshare zown; omega], hR⟩
  · skip
    refine lv_iload_n hx hb dX2_shareOf_16 rfl (lv_at hl 0 rfl) ?_
    refine lv_goto (tgt := 23) hx hb dX2_shareOf_17 (by decide) ?_
    refine lv_istore_n (lv' := [(3, .int (zi ((min (10 * wy + 5 * need) cap)))), (2, .int (zi ((min (10 * wy + 5 * need) cap)))), (0, .ref (b)), (1, .int (zi (cb)))]) hx hb dX2_shareOf_23 rfl hl (by decide) rfl (fun ls hl => ?_)
    refine lv_iload_n hx hb dX2_shareOf_24 rfl (lv_at hl 3 rfl) ?_
    refine lv_aload_n hx hb dX2_shareOf_25 rfl (lv_at hl 2 rfl) ?_
    refine z_get hx hb (q_wsX2 hT hW) hown hK hR hb0 rfl 0 (by decide) (q_517 hT hW) (fun _ h => h) rfl dX2_shareOf_26 ?_
    refine z_icmp_ne (a := cb) (b := ow) (tgt := 36) hx hb dX2_shareOf_29 (by decide) (by omega) (fun h_29 => ?_) (fun h_29 => ?_)
    · skip
      refine lv_iconst (v := zi (0)) hx hb dX2_shareOf_36 rfl ?_
      refine lv_istore (lv' := [(4, .int (zi (0))), (3, .int (zi ((min (10 * wy + 5 * need) cap)))), (2, .int (zi ((min (10 * wy + 5 * need) cap)))), (0, .ref (b)), (1, .int (zi (cb)))]) hx hb dX2_shareOf_37 hl (by decide) rfl (fun ls hl => ?_)
      refine lv_iload_n hx hb dX2_shareOf_39 rfl (lv_at hl 4 rfl) ?_
      refine lv_aload_n hx hb dX2_shareOf_40 rfl (lv_at hl 3 rfl) ?_
      refine z_get hx hb (q_wsX2 hT hW) hown hK hR hb0 rfl 1 (by decide) (q_518 hT hW) (fun _ h => h) rfl dX2_shareOf_41 ?_
      refine z_icmp_ne (a := cb) (b := us) (tgt := 56) hx hb dX2_shareOf_44 (by decide) (by omega) (fun h_44 => ?_) (fun h_44 => ?_)
      · skip
        refine lv_iload hx hb dX2_shareOf_56 (lv_at hl 0 rfl) ?_
        exact z_iret hx hb hr hlocks hS (by decide) (by decide) dX2_shareOf_58 ⟨by rw [show zshare ow us (min (10 * wy + 5 * need) cap) cb = 0 from by unfold zshare zown; omega], hR⟩
      · skip
        refine lv_iload hx hb dX2_shareOf_47 (lv_at hl 0 rfl) ?_
        refine lv_iload_n hx hb dX2_shareOf_49 rfl (lv_at hl 2 rfl) ?_
        refine z_iadd (a := 0) (b := (min (10 * wy + 5 * need) cap)) hx hb dX2_shareOf_50 ?_
        refine lv_iload_n hx hb dX2_shareOf_51 rfl (lv_at hl 1 rfl) ?_
        refine z_isub (a := (0 + (min (10 * wy + 5 * need) cap))) (b := (min (10 * wy + 5 * need) cap)) hx hb dX2_shareOf_52 ?_
        refine lv_goto (tgt := 58) hx hb dX2_shareOf_53 (by decide) ?_
        exact z_iret hx hb hr hlocks hS (by decide) (by decide) dX2_shareOf_58 ⟨by rw [show zshare ow us (min (10 * wy + 5 * need) cap) cb = ((0 + (min (10 * wy + 5 * need) cap)) - (min (10 * wy + 5 * need) cap)) from by unfold zshare zown; omega], hR⟩
    · skip
      refine lv_iload_n hx hb dX2_shareOf_32 rfl (lv_at hl 0 rfl) ?_
      refine lv_goto (tgt := 37) hx hb dX2_shareOf_33 (by decide) ?_
      refine lv_istore (lv' := [(4, .int (zi ((min (10 * wy + 5 * need) cap)))), (3, .int (zi ((min (10 * wy + 5 * need) cap)))), (2, .int (zi ((min (10 * wy + 5 * need) cap)))), (0, .ref (b)), (1, .int (zi (cb)))]) hx hb dX2_shareOf_37 hl (by decide) rfl (fun ls hl => ?_)
      refine lv_iload_n hx hb dX2_shareOf_39 rfl (lv_at hl 4 rfl) ?_
      refine lv_aload_n hx hb dX2_shareOf_40 rfl (lv_at hl 3 rfl) ?_
      refine z_get hx hb (q_wsX2 hT hW) hown hK hR hb0 rfl 1 (by decide) (q_518 hT hW) (fun _ h => h) rfl dX2_shareOf_41 ?_
      refine z_icmp_ne (a := cb) (b := us) (tgt := 56) hx hb dX2_shareOf_44 (by decide) (by omega) (fun h_44 => ?_) (fun h_44 => ?_)
      · skip
        refine lv_iload hx hb dX2_shareOf_56 (lv_at hl 0 rfl) ?_
        exact z_iret hx hb hr hlocks hS (by decide) (by decide) dX2_shareOf_58 ⟨by rw [show zshare ow us (min (10 * wy + 5 * need) cap) cb = (min (10 * wy + 5 * need) cap) from by unfold zshare zown; omega], hR⟩
      · skip
        refine lv_iload hx hb dX2_shareOf_47 (lv_at hl 0 rfl) ?_
        refine lv_iload_n hx hb dX2_shareOf_49 rfl (lv_at hl 2 rfl) ?_
        refine z_iadd (a := (min (10 * wy + 5 * need) cap)) (b := (min (10 * wy + 5 * need) cap)) hx hb dX2_shareOf_50 ?_
        refine lv_iload_n hx hb dX2_shareOf_51 rfl (lv_at hl 1 rfl) ?_
        refine z_isub (a := ((min (10 * wy + 5 * need) cap) + (min (10 * wy + 5 * need) cap))) (b := (min (10 * wy + 5 * need) cap)) hx hb dX2_shareOf_52 ?_
        refine lv_goto (tgt := 58) hx hb dX2_shareOf_53 (by decide) ?_
        exact z_iret hx hb hr hlocks hS (by decide) (by decide) dX2_shareOf_58 ⟨by rw [show zshare ow us (min (10 * wy + 5 * need) cap) cb = (((min (10 * wy + 5 * need) cap) + (min (10 * wy + 5 * need) cap)) - (min (10 * wy + 5 * need) cap)) from by unfold zshare zown; omega], hR⟩
end
section
/-! Weather: sixteen hours of four bits in a long -/
theorem zu_self {w : zW} {a : Nat} {e : va_E} (h : w a = some e) : zu w a e = w := by
  funext q
  unfold zu
  by_cases hq : q = a
  · rw [if_pos hq, hq, h]
  · rw [if_neg hq]
theorem zne {w : zW} {a b : Nat} {e1 e2 : va_E} (h1 : w a = some e1) (h2 : w b = some e2) (h : e1 ≠ e2) : a ≠ b := by
  intro z
  rw [z, h2] at h1
  cases h1
  exact h rfl
def zni (x : Int64) (k : Nat) : Nat := (x.toBitVec.toNat >>> (4 * k)) % 16
theorem zni_bit (x : Int64) (k i : Nat) : (zni x k).testBit i = (decide (i < 4) && x.toBitVec.getLsbD (4 * k + i)) := by
  unfold zni
  rw [show (16 : Nat) = 2 ^ 4 from rfl, Nat.testBit_mod_two_pow, Nat.testBit_shiftRight]
  rfl
theorem zni_lt (x : Int64) (k : Nat) : zni x k < 16 := Nat.mod_lt _ (by decide)
theorem zni_sh : ∀ n : Nat, n < 16 → ((zi (4 * (n : Int))).toInt64.toUInt64 &&& Int64.toUInt64 63).toBitVec.toNat % 64 = 4 * n := by decide
theorem zni_at (x : Int64) {h : Int} (h0 : 0 ≤ h ∧ h < 16) : ((x.toUInt64 >>> ((zi (4 * h)).toInt64.toUInt64 &&& Int64.toUInt64 63)).toInt64).toInt32 &&& zi 15 = zi (zni x h.toNat) := by
  obtain ⟨n, rfl⟩ : ∃ n : Nat, h = n := ⟨h.toNat, by omega⟩
  have hn : n < 16 := by omega
  have hs := zni_sh n hn
  generalize ((zi (4 * (n : Int))).toInt64.toUInt64 &&& Int64.toUInt64 63) = sh at hs
  rw [pk_and _ 4 (by decide), zi_nI]
  congr 2
  rw [Int64.toBitVec_toInt32, BitVec.signExtend_eq_setWidth_of_le _ (by decide), BitVec.toNat_setWidth]
  have e1 : ((x.toUInt64 >>> sh).toInt64).toBitVec.toNat = x.toBitVec.toNat >>> (sh.toBitVec.toNat % 64) := UInt64.toNat_shiftRight x.toUInt64 sh
  rw [e1, hs]
  unfold zni
  rw [show ((n : Int)).toNat = n from rfl]
  omega
theorem zni_mix (w m s : Int64) {k : Nat} (hk : k < 16) : (zni m k = 15 → zni ((w &&& (m ^^^ (-1))) ||| (s &&& m)) k = zni s k) ∧ (zni m k = 0 → zni ((w &&& (m ^^^ (-1))) ||| (s &&& m)) k = zni w k) := by
  have e1 : ((w &&& (m ^^^ (-1))) ||| (s &&& m)).toBitVec = ((w.toBitVec &&& (m.toBitVec ^^^ BitVec.allOnes 64)) ||| (s.toBitVec &&& m.toBitVec)) := rfl
  constructor
  · intro h
    refine Nat.eq_of_testBit_eq fun i => ?_
    rw [zni_bit, zni_bit, e1]
    by_cases hi : i < 4
    · have hb := zni_bit m k i
      rw [h] at hb
      have h15 : (15 : Nat).testBit i = true := by
        have : ∀ i, i < 4 → (15 : Nat).testBit i = true := by decide
        exact this i hi
      rw [h15, decide_eq_true hi, Bool.true_and] at hb
      have h64 : 4 * k + i < 64 := by omega
      rw [BitVec.getLsbD_or, BitVec.getLsbD_and, BitVec.getLsbD_and, BitVec.getLsbD_xor, BitVec.getLsbD_allOnes, ← hb, decide_eq_true h64]
      simp
    · simp [hi]
  · intro h
    refine Nat.eq_of_testBit_eq fun i => ?_
    rw [zni_bit, zni_bit, e1]
    by_cases hi : i < 4
    · have hb := zni_bit m k i
      rw [h, Nat.zero_testBit, decide_eq_true hi, Bool.true_and] at hb
      have h64 : 4 * k + i < 64 := by omega
      rw [BitVec.getLsbD_or, BitVec.getLsbD_and, BitVec.getLsbD_and, BitVec.getLsbD_xor, BitVec.getLsbD_allOnes, ← hb, decide_eq_true h64]
      simp
    · simp [hi]
/-- the mask of the hours a to b -/
def zmv (a b : Int) : Int64 := ((-1 : Int64) <<< ((zi (4 * a)).toInt64 &&& 63)) &&& (((-1 : Int64).toUInt64 >>> ((zi (4 * (15 - b))).toInt64.toUInt64 &&& Int64.toUInt64 63)).toInt64)
theorem zmv_k : ∀ a : Nat, a < 16 → ∀ b : Nat, b < 16 → ∀ k : Nat, k < 16 → zni (zmv (a : Int) (b : Int)) k = if a ≤ k ∧ k ≤ b then 15 else 0 := by decide +kernel
def zst (st : Int) : Int64 := (zi st).toInt64 * 1229782938247303441
theorem zst_k : ∀ a : Nat, a < 10 → ∀ k : Nat, k < 16 → zni (zst (a : Int)) k = a := by decide +kernel
/-- a weather's words behind a put -/
theorem zput_step {W1 : Nat → Int64} {a b st : Int} (ha : 0 ≤ a ∧ a < 16) (hb : 0 ≤ b ∧ b < 16) (hs : 0 ≤ st ∧ st ≤ 9) (i : Nat) (j k : Nat) (hk : k < 16) : zni (vp_updL W1 i ((W1 i &&& (zmv a b ^^^ (-1))) ||| (zst st &&& zmv a b)) j) k = if j = i ∧ a ≤ k ∧ k ≤ b then st.toNat else zni (W1 j) k := by
  unfold vp_updL
  by_cases hj : j = i
  · rw [if_pos hj]
    have hm := zmv_k a.toNat (by omega) b.toNat (by omega) k hk
    have hst := zst_k st.toNat (by omega) k hk
    rw [show ((a.toNat : Nat) : Int) = a by omega, show ((b.toNat : Nat) : Int) = b by omega] at hm
    rw [show ((st.toNat : Nat) : Int) = st by omega] at hst
    by_cases hc : a ≤ k ∧ k ≤ b
    · rw [if_pos ⟨hj, hc⟩]
      rw [if_pos (by omega)] at hm
      rw [(zni_mix (W1 i) (zmv a b) (zst st) hk).1 hm, hst]
    · rw [if_neg (fun z => hc z.2)]
      rw [if_neg (by omega)] at hm
      rw [(zni_mix (W1 i) (zmv a b) (zst st) hk).2 hm, hj]
  · rw [if_neg hj, if_neg (fun z => hj z.1)]
/-- the greatest of n numbers from lo on, at least 0 -/
def zmax (f : Int → Int) (lo : Int) : Nat → Int
  | 0 => 0
  | n + 1 => max (zmax f lo n) (f (lo + n))
theorem zmax_ge {f : Int → Int} {lo : Int} (n : Nat) : 0 ≤ zmax f lo n := by
  induction n with
  | zero => exact Int.le_refl 0
  | succ n ih => unfold zmax; omega
theorem zmax_le {f : Int → Int} {lo M : Int} (hM : 0 ≤ M) (n : Nat) (h : ∀ i : Nat, i < n → f (lo + i) ≤ M) : zmax f lo n ≤ M := by
  induction n with
  | zero => exact hM
  | succ n ih =>
    have h1 := ih (fun i hi => h i (by omega))
    have h2 := h n (by omega)
    unfold zmax; omega
set_option maxHeartbeats 4000000 in
set_option maxRecDepth 100000 in
theorem c_X4_maskOf (l : Launch) {S : State} {D : va_G} {tc : Nat → ClassId} {A : Nat → Prop} {dz : Nat} (hZ : zB S D tc A dz) {P : Heap → Prop} {a b : Int} (h0 : 0 ≤ a ∧ a ≤ 15 ∧ 0 ≤ b ∧ b ≤ 15) : zM l S A yX4_maskOf cX4_maskOf 6 (Option.some Jvm.ClassFile.FieldType.long) { frames := 1, locals := 20, cells := 0, slots := 0 } [.int (zi (a)), .int (zi (b))] (P) (fun v H => v = some (.long (zmv a b)) ∧ P H) := by
  refine zM.mk (by decide +kernel) (Nat.le_of_ble_eq_true rfl) ?_
  intro p e s m below meth c ls X0 hR hl
  obtain ⟨hx, hb, hml, hr, hlocks, hown, hnm, hW, hpre, hA⟩ := X0
  have X : zH S A p s m c cX4_maskOf 6 RX4 := ⟨hx, hb, hml, hown, hW, hpre, hA, hZ.2.2.1⟩
  have hT := hZ.1
  have hK := va_K.moved hW.alike hZ.2.1
  have hS : va_S A s.heap s.heap [] := va_S.rf
  have hl : lv_has ls 6 [(0, .int (zi (a))), (1, .int (zi (b)))] := hl
  skip
  refine lv_ldc2 (v := -1) hx hb hown (q_406 hT hW) dX4_maskOf_0 ?_
  refine lv_iconst (v := zi (4)) hx hb dX4_maskOf_3 rfl ?_
  refine lv_iload_n hx hb dX4_maskOf_4 rfl (lv_at hl 0 rfl) ?_
  refine z_imul (a := 4) (b := a) hx hb dX4_maskOf_5 ?_
  refine lv_lshl hx hb dX4_maskOf_6 rfl ?_
  refine lv_lstore_n (lv' := [(2, .long (((-1 : Int64) <<< ((zi ((4 * a))).toInt64 &&& 63)))), (0, .int (zi (a))), (1, .int (zi (b)))]) hx hb dX4_maskOf_7 rfl hl (by decide) rfl (fun ls hl => ?_)
  refine lv_ldc2 (v := -1) hx hb hown (q_406 hT hW) dX4_maskOf_8 ?_
  refine lv_iconst (v := zi (4)) hx hb dX4_maskOf_11 rfl ?_
  refine lv_bipush (v := zi (15)) hx hb dX4_maskOf_12 rfl ?_
  refine lv_iload_n hx hb dX4_maskOf_14 rfl (lv_at hl 2 rfl) ?_
  refine z_isub (a := 15) (b := b) hx hb dX4_maskOf_15 ?_
  refine z_imul (a := 4) (b := (15 - b)) hx hb dX4_maskOf_16 ?_
  refine lv_lushr hx hb dX4_maskOf_17 rfl ?_
  refine lv_lstore (lv' := [(4, .long ((((-1 : Int64)).toUInt64 >>> ((zi ((4 * (15 - b)))).toInt64.toUInt64 &&& Int64.toUInt64 63)).toInt64)), (2, .long (((-1 : Int64) <<< ((zi ((4 * a))).toInt64 &&& 63)))), (0, .int (zi (a))), (1, .int (zi (b)))]) hx hb dX4_maskOf_18 hl (by decide) rfl (fun ls hl => ?_)
  refine lv_lload_n hx hb dX4_maskOf_20 rfl (lv_at hl 1 rfl) ?_
  refine lv_lload hx hb dX4_maskOf_21 (lv_at hl 0 rfl) ?_
  refine lv_land hx hb dX4_maskOf_23 ?_
  exact z_lret hx hb hr hlocks hS (by decide) (by decide) dX4_maskOf_24 ⟨rfl, hR⟩
set_option maxHeartbeats 4000000 in
set_option maxRecDepth 100000 in
theorem c_X4_at (l : Launch) {S : State} {D : va_G} {tc : Nat → ClassId} {A : Nat → Prop} {dz : Nat} (hZ : zB S D tc A dz) {w : zW} {b wa : Nat} {Wd : Nat → Int64} (hb0 : w b = some (.inr (5, [.ref wa]))) (hwa : w wa = some (.inl (tc 2, 3024, .inr (.inl Wd)))) {n h : Int} (h0 : 0 ≤ n ∧ n ≤ 47 ∧ 0 ≤ h ∧ h ≤ 1007) : zM l S A yX4_at cX4_at 4 (Option.some Jvm.ClassFile.FieldType.int) { frames := 1, locals := 20, cells := 0, slots := 0 } [.ref (b), .int (zi (n)), .int (zi (h))] (zR D A w) (fun v H => v = some (.int (zi (zni (Wd (n * 63 + h / 16).toNat) (h % 16).toNat))) ∧ zR D A w H) := by
  refine zM.mk (by decide +kernel) (Nat.le_of_ble_eq_true rfl) ?_
  intro p e s m below meth c ls X0 hR hl
  obtain ⟨hx, hb, hml, hr, hlocks, hown, hnm, hW, hpre, hA⟩ := X0
  have X : zH S A p s m c cX4_at 4 RX4 := ⟨hx, hb, hml, hown, hW, hpre, hA, hZ.2.2.1⟩
  have hT := hZ.1
  have hK := va_K.moved hW.alike hZ.2.1
  have hS : va_S A s.heap s.heap [] := va_S.rf
  have hl : lv_has ls 4 [(0, .ref (b)), (1, .int (zi (n))), (2, .int (zi (h)))] := hl
  skip
  refine lv_iload_n hx hb dX4_at_0 rfl (lv_at hl 1 rfl) ?_
  refine lv_bipush (v := zi (63)) hx hb dX4_at_1 rfl ?_
  refine z_imul (a := n) (b := 63) hx hb dX4_at_3 ?_
  refine lv_iload_n hx hb dX4_at_4 rfl (lv_at hl 2 rfl) ?_
  refine lv_bipush (v := zi (16)) hx hb dX4_at_5 rfl ?_
  refine z_idiv (a := h) (b := 16) hx hb dX4_at_7 (by omega) ?_
  refine z_iadd (a := (n * 63)) (b := (h / 16)) hx hb dX4_at_8 ?_
  refine lv_istore_n (lv' := [(3, .int (zi (((n * 63) + (h / 16))))), (0, .ref (b)), (1, .int (zi (n))), (2, .int (zi (h)))]) hx hb dX4_at_9 rfl hl (by decide) rfl (fun ls hl => ?_)
  refine lv_iload_n hx hb dX4_at_10 rfl (lv_at hl 0 rfl) ?_
  refine z_if_lt (a := ((n * 63) + (h / 16))) (tgt := 23) hx hb dX4_at_11 (by decide) (by omega) (fun h_11 => ?_) (fun h_11 => ?_)
  · skip
    exact absurd h_11 (by omega)
  · skip
    refine lv_iload_n hx hb dX4_at_14 rfl (lv_at hl 0 rfl) ?_
    refine lv_aload_n hx hb dX4_at_15 rfl (lv_at hl 1 rfl) ?_
    refine z_get hx hb (q_wsX4 hT hW) hown hK hR hb0 rfl 0 (by decide) (q_37 hT hW) (fun _ h => h) rfl dX4_at_16 ?_
    refine z_alen hx hb hK hR 2 hwa rfl dX4_at_19 ?_
    refine z_icmp_lt (a := ((n * 63) + (h / 16))) (b := 3024) (tgt := 25) hx hb dX4_at_20 (by decide) (by omega) (fun h_20 => ?_) (fun h_20 => ?_)
    · skip
      refine lv_aload_n hx hb dX4_at_25 rfl (lv_at hl 1 rfl) ?_
      refine z_get hx hb (q_wsX4 hT hW) hown hK hR hb0 rfl 0 (by decide) (q_37 hT hW) (fun _ h => h) rfl dX4_at_26 ?_
      refine lv_iload_n hx hb dX4_at_29 rfl (lv_at hl 0 rfl) ?_
      refine z_lald (i := ((n * 63) + (h / 16))) hx hb hK hR 2 hwa rfl (by omega) dX4_at_30 ?_
      refine lv_iconst (v := zi (4)) hx hb dX4_at_31 rfl ?_
      refine lv_iload_n hx hb dX4_at_32 rfl (lv_at hl 3 rfl) ?_
      refine lv_bipush (v := zi (16)) hx hb dX4_at_33 rfl ?_
      refine z_irem (a := h) (b := 16) hx hb dX4_at_35 (by omega) ?_
      refine z_imul (a := 4) (b := (h % 16)) hx hb dX4_at_36 ?_
      refine lv_lushr hx hb dX4_at_37 rfl ?_
      refine lv_l2i hx hb dX4_at_38 rfl ?_
      refine lv_bipush (v := zi (15)) hx hb dX4_at_39 rfl ?_
      refine lv_iand hx hb dX4_at_41 ?_
      rw [zni_at _ (h := h % 16) (by omega)]
      exact z_iret hx hb hr hlocks hS (by decide) (by decide) dX4_at_42 ⟨rfl, hR⟩
    · skip
      exact absurd h_20 (by omega)
set_option maxHeartbeats 4000000 in
set_option maxRecDepth 100000 in
theorem c_X4_greatest (l : Launch) {S : State} {D : va_G} {tc : Nat → ClassId} {A : Nat → Prop} {dz : Nat} (hZ : zB S D tc A dz) {w : zW} {b wa : Nat} {Wd : Nat → Int64} (hb0 : w b = some (.inr (5, [.ref wa]))) (hwa : w wa = some (.inl (tc 2, 3024, .inr (.inl Wd)))) {f : Int → Int} {n a z : Int} (h0 : 0 ≤ n ∧ n ≤ 47 ∧ 0 ≤ a ∧ a ≤ z + 1 ∧ z ≤ 999) (hf : ∀ h, a ≤ h → h ≤ z → (zni (Wd (n * 63 + h / 16).toNat) (h % 16).toNat : Int) = f h) : zM l S A yX4_greatest cX4_greatest 6 (Option.some Jvm.ClassFile.FieldType.int) { frames := 2, locals := 60, cells := 0, slots := 0 } [.ref (b), .int (zi (n)), .int (zi (a)), .int (zi (z))] (zR D A w) (fun v H => v = some (.int (zi (zmax f a (z + 1 - a).toNat))) ∧ zR D A w H) := by
  refine zM.mk (by decide +kernel) (Nat.le_of_ble_eq_true rfl) ?_
  intro p e s m below meth c ls X0 hR hl
  obtain ⟨hx, hb, hml, hr, hlocks, hown, hnm, hW, hpre, hA⟩ := X0
  have X : zH S A p s m c cX4_greatest 6 RX4 := ⟨hx, hb, hml, hown, hW, hpre, hA, hZ.2.2.1⟩
  have hT := hZ.1
  have hK := va_K.moved hW.alike hZ.2.1
  have hS : va_S A s.heap s.heap [] := va_S.rf
  have hl : lv_has ls 6 [(0, .ref (b)), (1, .int (zi (n))), (2, .int (zi (a))), (3, .int (zi (z)))] := hl
  skip
  refine lv_iconst (v := zi (0)) hx hb dX4_greatest_0 rfl ?_
  refine lv_istore (lv' := [(4, .int (zi (0))), (0, .ref (b)), (1, .int (zi (n))), (2, .int (zi (a))), (3, .int (zi (z)))]) hx hb dX4_greatest_1 hl (by decide) rfl (fun ls hl => ?_)
  refine lv_iload_n hx hb dX4_greatest_3 rfl (lv_at hl 3 rfl) ?_
  refine lv_istore (lv' := [(5, .int (zi (a))), (4, .int (zi (0))), (0, .ref (b)), (1, .int (zi (n))), (2, .int (zi (a))), (3, .int (zi (z)))]) hx hb dX4_greatest_4 hl (by decide) rfl (fun ls hl => ?_)
  suffices K : ∀ (fu : Nat) (g : Int) (hh : Int) (H : Heap) (locs : List Loc) (ls : Array Slot), (z + 1 - hh).toNat < fu → (a ≤ hh ∧ hh ≤ z + 1) → (g = zmax f a (hh - a).toNat) → (0 ≤ g ∧ g ≤ 15) → zR D A w H → va_S A s.heap H locs → lv_has ls 6 [(5, .int (zi (hh))), (4, .int (zi (g))), (0, .ref (b)), (1, .int (zi (n))), (2, .int (zi (a))), (3, .int (zi (z)))] → W p l e { frames := 2, locals := 60, cells := 0, slots := 0 } s m ([.ref (b), .int (zi (n)), .int (zi (a)), .int (zi (z))] : List Value).toArray below meth c H locs 0 0 (MQ below (zQ A (fun v H => v = some (.int (zi (zmax f a (z + 1 - a).toNat))) ∧ zR D A w H)) ([.ref (b), .int (zi (n)), .int (zi (a)), .int (zi (z))] : List Value).toArray s ({ frames := 2, locals := 60, cells := 0, slots := 0 } : Room).cells ({ frames := 2, locals := 60, cells := 0, slots := 0 } : Room).slots A) (F0 m 6 ls []) from K _ 0 a _ _ _ (Nat.lt_succ_self _) (by omega) (by rw [Int.sub_self]; rfl) (by omega) hR hS (lv_sub hl [0, 1, 2, 3, 4, 5] rfl)
  intro fu
  induction fu with
  | zero => intro g hh H locs ls hm; exact absurd hm (Nat.not_lt_zero _)
  | succ fu ih =>
    intro g hh H locs ls hm hi hg hgb hR hS hl
    refine lv_iload hx hb dX4_greatest_6 (lv_at hl 0 rfl) ?_
    refine lv_iload_n hx hb dX4_greatest_8 rfl (lv_at hl 5 rfl) ?_
    refine z_icmp_gt (a := hh) (b := z) (tgt := 32) hx hb dX4_greatest_9 (by decide) (by omega) (fun h_9 => ?_) (fun h_9 => ?_)
    · skip
      refine lv_iload hx hb dX4_greatest_32 (lv_at hl 1 rfl) ?_
      exact z_iret hx hb hr hlocks hS (by decide) (by decide) dX4_greatest_34 ⟨by rw [hg, show hh - a = z + 1 - a by omega], hR⟩
    · skip
      refine lv_iload hx hb dX4_greatest_12 (lv_at hl 1 rfl) ?_
      refine lv_aload_n hx hb dX4_greatest_14 rfl (lv_at hl 2 rfl) ?_
      refine lv_iload_n hx hb dX4_greatest_15 rfl (lv_at hl 3 rfl) ?_
      refine lv_iload hx hb dX4_greatest_16 (lv_at hl 0 rfl) ?_
      refine z_invV (n := 2) (C := RX4) (c_X4_at l hZ hb0 hwa (n := n) (h := hh) (by omega)) X hS hR hl.1 (q_476 hT hW) (q_2 hT hW) (q_651 hT hW) (q_474 hT hW) (q_475 hT hW) (z_recv hK hR hb0 rfl) (by decide +kernel) rfl ⟨Nat.le_of_ble_eq_true rfl, Nat.le_of_ble_eq_true rfl⟩ ⟨Nat.le_of_ble_eq_true rfl, Nat.le_of_ble_eq_true rfl⟩ (Nat.le_of_ble_eq_true rfl) dX4_greatest_18 (fun v H locs hv hS => ?_) rfl
      obtain ⟨rfl, hR⟩ := hv
      have e1 := hf hh (by omega) (by omega)
      have e2 := zni_lt (Wd (n * 63 + hh / 16).toNat) (hh % 16).toNat
      rw [e1]
      refine z_max (a := g) (b := (f hh)) hT X hl.1 (q_401 hT hW) (by omega) (Nat.le_of_ble_eq_true rfl) (Nat.le_of_ble_eq_true rfl) (Nat.le_of_ble_eq_true rfl) (Nat.le_of_ble_eq_true rfl) dX4_greatest_21 ?_
      refine lv_istore (lv' := [(4, .int (zi ((max g ((f hh)))))), (5, .int (zi (hh))), (0, .ref (b)), (1, .int (zi (n))), (2, .int (zi (a))), (3, .int (zi (z)))]) hx hb dX4_greatest_24 hl (by decide) rfl (fun ls hl => ?_)
      refine z_iinc (a := hh) (n := 1) (lv' := [(5, .int (zi ((hh + 1)))), (4, .int (zi ((max g ((f hh)))))), (0, .ref (b)), (1, .int (zi (n))), (2, .int (zi (a))), (3, .int (zi (z)))]) hx hb dX4_greatest_26 hl (k := 1) rfl (by decide) rfl (fun ls hl => ?_)
      refine lv_goto (tgt := 6) hx hb dX4_greatest_29 (by decide) ?_
      exact ih (max g ((f hh))) (hh + 1) _ _ _ (by omega) (by omega) (by rw [show (hh + 1 - a).toNat = (hh - a).toNat + 1 by omega]; unfold zmax; rw [← hg, show a + ((hh - a).toNat : Int) = hh by omega]) (by omega) hR hS (lv_sub hl [0, 1, 2, 3, 4, 5] rfl)
set_option maxHeartbeats 4000000 in
set_option maxRecDepth 100000 in
theorem c_X4_put (l : Launch) {S : State} {D : va_G} {tc : Nat → ClassId} {A : Nat → Prop} {dz : Nat} (hZ : zB S D tc A dz) {w : zW} {b wa : Nat} {Wd : Nat → Int64} (hb0 : w b = some (.inr (5, [.ref wa]))) (hwa : w wa = some (.inl (tc 2, 3024, .inr (.inl Wd)))) {n a z st : Int} (h0 : 0 ≤ n ∧ n ≤ 47 ∧ 0 ≤ a ∧ a ≤ z ∧ z ≤ 999 ∧ 0 ≤ st ∧ st ≤ 9) : zM l S A yX4_put cX4_put 12 (Option.none : Option Jvm.ClassFile.FieldType) { frames := 2, locals := 60, cells := 0, slots := 0 } [.ref (b), .int (zi (n)), .int (zi (a)), .int (zi (z)), .int (zi (st))] (zR D A w) (fun v H => v = none ∧ ∃ W1 : Nat → Int64, (∀ j : Nat, j < 3024 → ∀ k : Nat, k < 16 → (zni (W1 j) k : Int) = if (j : Int) / 63 = n ∧ a ≤ 16 * ((j : Int) % 63) + k ∧ 16 * ((j : Int) % 63) + k ≤ z then st else zni (Wd j) k) ∧ zR D A (zu w wa (.inl (tc 2, 3024, .inr (.inl W1)))) H) := by
  refine zM.mk (by decide +kernel) (Nat.le_of_ble_eq_true rfl) ?_
  intro p e s m below meth c ls X0 hR hl
  obtain ⟨hx, hb, hml, hr, hlocks, hown, hnm, hW, hpre, hA⟩ := X0
  have X : zH S A p s m c cX4_put 12 RX4 := ⟨hx, hb, hml, hown, hW, hpre, hA, hZ.2.2.1⟩
  have hT := hZ.1
  have hK := va_K.moved hW.alike hZ.2.1
  have hS : va_S A s.heap s.heap [] := va_S.rf
  have hl : lv_has ls 12 [(0, .ref (b)), (1, .int (zi (n))), (2, .int (zi (a))), (3, .int (zi (z))), (4, .int (zi (st)))] := hl
  skip
  refine lv_iload hx hb dX4_put_0 (lv_at hl 4 rfl) ?_
  refine lv_i2l hx hb dX4_put_2 rfl ?_
  refine lv_ldc2 (v := 1229782938247303441) hx hb hown (q_400 hT hW) dX4_put_3 ?_
  refine lv_lmul hx hb dX4_put_6 ?_
  refine lv_lstore (lv' := [(5, .long (((zi (st)).toInt64 * (1229782938247303441 : Int64)))), (0, .ref (b)), (1, .int (zi (n))), (2, .int (zi (a))), (3, .int (zi (z))), (4, .int (zi (st)))]) hx hb dX4_put_7 hl (by decide) rfl (fun ls hl => ?_)
  refine lv_iload_n hx hb dX4_put_9 rfl (lv_at hl 3 rfl) ?_
  refine lv_bipush (v := zi (16)) hx hb dX4_put_10 rfl ?_
  refine z_idiv (a := a) (b := 16) hx hb dX4_put_12 (by omega) ?_
  refine lv_istore (lv' := [(7, .int (zi ((a / 16)))), (5, .long (((zi (st)).toInt64 * (1229782938247303441 : Int64)))), (0, .ref (b)), (1, .int (zi (n))), (2, .int (zi (a))), (3, .int (zi (z))), (4, .int (zi (st)))]) hx hb dX4_put_13 hl (by decide) rfl (fun ls hl => ?_)
  suffices K : ∀ (fu : Nat) (wd : Int) (W1 : Nat → Int64) (H : Heap) (locs : List Loc) (ls : Array Slot), (z / 16 + 1 - wd).toNat < fu → (a / 16 ≤ wd ∧ wd ≤ z / 16 + 1) → (∀ j : Nat, j < 3024 → ∀ k : Nat, k < 16 → (zni (W1 j) k : Int) = if (j : Int) / 63 = n ∧ a ≤ 16 * ((j : Int) % 63) + k ∧ 16 * ((j : Int) % 63) + k ≤ z ∧ (j : Int) % 63 < wd then st else zni (Wd j) k) → zR D A (zu w wa (.inl (tc 2, 3024, .inr (.inl W1)))) H → va_S A s.heap H locs → lv_has ls 12 [(7, .int (zi (wd))), (5, .long (zst st)), (0, .ref (b)), (1, .int (zi (n))), (2, .int (zi (a))), (3, .int (zi (z))), (4, .int (zi (st)))] → W p l e { frames := 2, locals := 60, cells := 0, slots := 0 } s m ([.ref (b), .int (zi (n)), .int (zi (a)), .int (zi (z)), .int (zi (st))] : List Value).toArray below meth c H locs 0 0 (MQ below (zQ A (fun v H => v = none ∧ ∃ W1 : Nat → Int64, (∀ j : Nat, j < 3024 → ∀ k : Nat, k < 16 → (zni (W1 j) k : Int) = if (j : Int) / 63 = n ∧ a ≤ 16 * ((j : Int) % 63) + k ∧ 16 * ((j : Int) % 63) + k ≤ z then st else zni (Wd j) k) ∧ zR D A (zu w wa (.inl (tc 2, 3024, .inr (.inl W1)))) H)) ([.ref (b), .int (zi (n)), .int (zi (a)), .int (zi (z)), .int (zi (st))] : List Value).toArray s ({ frames := 2, locals := 60, cells := 0, slots := 0 } : Room).cells ({ frames := 2, locals := 60, cells := 0, slots := 0 } : Room).slots A) (F0 m 15 ls []) from K _ (a / 16) Wd _ _ _ (Nat.lt_succ_self _) (by omega) (fun j hj k hk => by rw [if_neg (by omega)]) (by rw [zu_self hwa]; exact hR) hS (lv_sub hl [0, 1, 2, 3, 4, 5, 6] rfl)
  intro fu
  induction fu with
  | zero => intro wd W1 H locs ls hm; exact absurd hm (Nat.not_lt_zero _)
  | succ fu ih =>
    intro wd W1 H locs ls hm hi hI hR hS hl
    have hne : b ≠ wa := zne hb0 hwa (by intro z; cases z)
    have hb1 : (zu w wa (.inl (tc 2, 3024, .inr (.inl W1)))) b = some (.inr (5, [.ref wa])) := (zu_ne hne).trans hb0
    have hw1 : (zu w wa (.inl (tc 2, 3024, .inr (.inl W1)))) wa = some (.inl (tc 2, 3024, .inr (.inl W1))) := zu_eq
    refine lv_iload hx hb dX4_put_15 (lv_at hl 0 rfl) ?_
    refine lv_iload_n hx hb dX4_put_17 rfl (lv_at hl 5 rfl) ?_
    refine lv_bipush (v := zi (16)) hx hb dX4_put_18 rfl ?_
    refine z_idiv (a := z) (b := 16) hx hb dX4_put_20 (by omega) ?_
    refine z_icmp_gt (a := wd) (b := (z / 16)) (tgt := 110) hx hb dX4_put_21 (by decide) (by omega) (fun h_21 => ?_) (fun h_21 => ?_)
    · skip
      exact z_vret hx hb hr hlocks hS (by decide) (by decide) dX4_put_110 ⟨rfl, W1, fun j hj k hk => by rw [hI j hj k hk]; congr 1; exact propext ⟨fun q => ⟨q.1, q.2.1, q.2.2.1⟩, fun q => ⟨q.1, q.2.1, q.2.2, by omega⟩⟩, hR⟩
    · skip
      refine lv_iload_n hx hb dX4_put_24 rfl (lv_at hl 3 rfl) ?_
      refine lv_bipush (v := zi (63)) hx hb dX4_put_25 rfl ?_
      refine z_imul (a := n) (b := 63) hx hb dX4_put_27 ?_
      refine lv_iload hx hb dX4_put_28 (lv_at hl 0 rfl) ?_
      refine z_iadd (a := (n * 63)) (b := wd) hx hb dX4_put_30 ?_
      refine lv_istore (lv' := [(8, .int (zi (((n * 63) + wd)))), (7, .int (zi (wd))), (5, .long (zst st)), (0, .ref (b)), (1, .int (zi (n))), (2, .int (zi (a))), (3, .int (zi (z))), (4, .int (zi (st)))]) hx hb dX4_put_31 hl (by decide) rfl (fun ls hl => ?_)
      refine lv_iload hx hb dX4_put_33 (lv_at hl 0 rfl) ?_
      refine z_if_lt (a := ((n * 63) + wd)) (tgt := 104) hx hb dX4_put_35 (by decide) (by omega) (fun h_35 => ?_) (fun h_35 => ?_)
      · skip
        exact absurd h_35 (by omega)
      · skip
        refine lv_iload hx hb dX4_put_38 (lv_at hl 0 rfl) ?_
        refine lv_aload_n hx hb dX4_put_40 rfl (lv_at hl 3 rfl) ?_
        refine z_get hx hb (q_wsX4 hT hW) hown hK hR hb1 rfl 0 (by decide) (q_37 hT hW) (fun _ h => h) rfl dX4_put_41 ?_
        refine z_alen hx hb hK hR 2 hw1 rfl dX4_put_44 ?_
        refine z_icmp_ge (a := ((n * 63) + wd)) (b := 3024) (tgt := 104) hx hb dX4_put_45 (by decide) (by omega) (fun h_45 => ?_) (fun h_45 => ?_)
        · skip
          exact absurd h_45 (by omega)
        · skip
          refine lv_iload hx hb dX4_put_48 (lv_at hl 1 rfl) ?_
          refine lv_bipush (v := zi (16)) hx hb dX4_put_50 rfl ?_
          refine z_imul (a := wd) (b := 16) hx hb dX4_put_52 ?_
          refine lv_istore (lv' := [(9, .int (zi ((wd * 16)))), (8, .int (zi (((n * 63) + wd)))), (7, .int (zi (wd))), (5, .long (zst st)), (0, .ref (b)), (1, .int (zi (n))), (2, .int (zi (a))), (3, .int (zi (z))), (4, .int (zi (st)))]) hx hb dX4_put_53 hl (by decide) rfl (fun ls hl => ?_)
          refine lv_iload_n hx hb dX4_put_55 rfl (lv_at hl 6 rfl) ?_
          refine lv_iload hx hb dX4_put_56 (lv_at hl 0 rfl) ?_
          refine z_isub (a := a) (b := (wd * 16)) hx hb dX4_put_58 ?_
          refine lv_iconst (v := zi (0)) hx hb dX4_put_59 rfl ?_
          refine z_max (a := (a - (wd * 16))) (b := 0) hT X hl.1 (q_401 hT hW) (by omega) (Nat.le_of_ble_eq_true rfl) (Nat.le_of_ble_eq_true rfl) (Nat.le_of_ble_eq_true rfl) (Nat.le_of_ble_eq_true rfl) dX4_put_60 ?_
          refine lv_iload_n hx hb dX4_put_63 rfl (lv_at hl 7 rfl) ?_
          refine lv_iload hx hb dX4_put_64 (lv_at hl 0 rfl) ?_
          refine z_isub (a := z) (b := (wd * 16)) hx hb dX4_put_66 ?_
          refine lv_bipush (v := zi (15)) hx hb dX4_put_67 rfl ?_
          refine z_min (a := (z - (wd * 16))) (b := 15) hT X hl.1 (q_402 hT hW) (by omega) (Nat.le_of_ble_eq_true rfl) (Nat.le_of_ble_eq_true rfl) (Nat.le_of_ble_eq_true rfl) (Nat.le_of_ble_eq_true rfl) dX4_put_69 ?_
          obtain ⟨ma, hma⟩ : ∃ x : Int, x = (max ((a - (wd * 16))) 0) := ⟨_, rfl⟩
          obtain ⟨mb, hmb⟩ : ∃ x : Int, x = (min ((z - (wd * 16))) 15) := ⟨_, rfl⟩
          rw [← hma, ← hmb]
          refine z_invS (n := 2) (c_X4_maskOf l hZ (P := zR D A (zu w wa (.inl (tc 2, 3024, .inr (.inl W1)))) ) (a := ma) (b := mb) (by omega)) X hS hR hl.1 (q_405 hT hW) (q_2 hT hW) (q_403 hT hW) (q_404 hT hW) (by decide +kernel) rfl ⟨Nat.le_of_ble_eq_true rfl, Nat.le_of_ble_eq_true rfl⟩ ⟨Nat.le_of_ble_eq_true rfl, Nat.le_of_ble_eq_true rfl⟩ (Nat.le_of_ble_eq_true rfl) dX4_put_72 (fun v H locs hv hS => ?_) rfl
          obtain ⟨rfl, hR⟩ := hv
          refine lv_lstore (lv' := [(10, .long ((zmv ma mb))), (9, .int (zi ((wd * 16)))), (8, .int (zi (((n * 63) + wd)))), (7, .int (zi (wd))), (5, .long (zst st)), (0, .ref (b)), (1, .int (zi (n))), (2, .int (zi (a))), (3, .int (zi (z))), (4, .int (zi (st)))]) hx hb dX4_put_75 hl (by decide) rfl (fun ls hl => ?_)
          refine lv_aload_n hx hb dX4_put_77 rfl (lv_at hl 5 rfl) ?_
          refine z_get hx hb (q_wsX4 hT hW) hown hK hR hb1 rfl 0 (by decide) (q_37 hT hW) (fun _ h => h) rfl dX4_put_78 ?_
          refine lv_iload hx hb dX4_put_81 (lv_at hl 2 rfl) ?_
          refine lv_aload_n hx hb dX4_put_83 rfl (lv_at hl 5 rfl) ?_
          refine z_get hx hb (q_wsX4 hT hW) hown hK hR hb1 rfl 0 (by decide) (q_37 hT hW) (fun _ h => h) rfl dX4_put_84 ?_
          refine lv_iload hx hb dX4_put_87 (lv_at hl 2 rfl) ?_
          refine z_lald (i := ((n * 63) + wd)) hx hb hK hR 2 hw1 rfl (by omega) dX4_put_89 ?_
          refine lv_lload hx hb dX4_put_90 (lv_at hl 0 rfl) ?_
          refine lv_ldc2 (v := -1) hx hb hown (q_406 hT hW) dX4_put_92 ?_
          refine lv_lxor hx hb dX4_put_95 ?_
          refine lv_land hx hb dX4_put_96 ?_
          refine lv_lload hx hb dX4_put_97 (lv_at hl 4 rfl) ?_
          refine lv_lload hx hb dX4_put_99 (lv_at hl 0 rfl) ?_
          refine lv_land hx hb dX4_put_101 ?_
          refine lv_lor hx hb dX4_put_102 ?_
          refine z_last (i := ((n * 63) + wd)) hx hb hK hR hS 2 hw1 rfl (by omega) dX4_put_103 (fun H locs hR hS => ?_)
          rw [zu_zu] at hR
          refine z_iinc (a := wd) (n := 1) (lv' := [(7, .int (zi ((wd + 1)))), (10, .long ((zmv ma mb))), (9, .int (zi ((wd * 16)))), (8, .int (zi (((n * 63) + wd)))), (5, .long (zst st)), (0, .ref (b)), (1, .int (zi (n))), (2, .int (zi (a))), (3, .int (zi (z))), (4, .int (zi (st)))]) hx hb dX4_put_104 hl (k := 3) rfl (by decide) rfl (fun ls hl => ?_)
          refine lv_goto (tgt := 15) hx hb dX4_put_107 (by decide) ?_
          have hstep := fun (j k : Nat) (hk : k < 16) => zput_step (W1 := W1) (a := ma) (b := mb) (st := st) (by omega) (by omega) (by omega) (n * 63 + wd).toNat j k hk
          have hI2 : ∀ j : Nat, j < 3024 → ∀ k : Nat, k < 16 → (zni ((vp_updL W1 (n * 63 + wd).toNat ((W1 (n * 63 + wd).toNat &&& (zmv ma mb ^^^ (-1))) ||| (zst st &&& zmv ma mb))) j) k : Int) = if (j : Int) / 63 = n ∧ a ≤ 16 * ((j : Int) % 63) + k ∧ 16 * ((j : Int) % 63) + k ≤ z ∧ (j : Int) % 63 < wd + 1 then st else zni (Wd j) k := by
            intro j hj k hk
            rw [hstep j k hk]
            have hI1 := hI j hj k hk
            have q1 : ((n * 63 + wd).toNat : Int) = n * 63 + wd := by omega
            by_cases c1 : j = (n * 63 + wd).toNat
            · have c2 : (j : Int) / 63 = n := by omega
              have c3 : (j : Int) % 63 = wd := by omega
              by_cases c4 : ma ≤ k ∧ k ≤ mb
              · rw [if_pos ⟨c1, c4⟩, if_pos ⟨c2, by omega, by omega, by omega⟩]; omega
              · rw [if_neg (fun q => c4 q.2), hI1, if_neg (by omega), if_neg (by omega)]
            · rw [if_neg (fun q => c1 q.1), hI1]
              congr 1
              refine propext ⟨fun q => ⟨q.1, q.2.1, q.2.2.1, by omega⟩, fun q => ⟨q.1, q.2.1, q.2.2.1, ?_⟩⟩
              have : (j : Int) ≠ n * 63 + wd := by omega
              omega
          exact ih (wd + 1) _ _ _ _ (by omega) (by omega) hI2 hR hS (lv_sub hl [0, 4, 5, 6, 7, 8, 9] rfl)
end
section
/-! ArrayList: size, get, add, the constructor -/
theorem zB.dflt {S s : State} {D : va_G} {tc : Nat → ClassId} {A : Nat → Prop} {dz : Nat} (hZ : zB S D tc A dz) (hW : S.WarmedH s.vm) (hp : zP S s.heap) : va_Z "java/util/ArrayList" "DEFAULTCAPACITY_EMPTY_ELEMENTDATA" "[Ljava/lang/Object;" (.ref dz) A s s.heap := by
  have h1 := va_Z.moved hW.alike hZ.2.2.2.1
  have h2 := va_Z.narrow h1 (B := A) hZ.2.2.1
  have h3 : va_Z "java/util/ArrayList" "DEFAULTCAPACITY_EMPTY_ELEMENTDATA" "[Ljava/lang/Object;" (.ref dz) A s S.heap := h2
  exact va_Z.kept h3 (fun a ha _ => hp.2 a ha)
theorem zB.empty {S s : State} {D : va_G} {tc : Nat → ClassId} {A : Nat → Prop} {dz : Nat} (hZ : zB S D tc A dz) (hW : S.WarmedH s.vm) (hp : zP S s.heap) : va_T (.object "java/lang/Object") dz 0 (fun _ => .null) A s s.heap := by
  have h1 := va_T.moved hW.alike hZ.2.2.2.2.1
  have h2 := va_T.narrow h1 (B := A) hZ.2.2.1
  exact va_T.kept h2 (fun a ha _ => hp.2 a ha)
theorem zB.mirror {S s : State} {D : va_G} {tc : Nat → ClassId} {A : Nat → Prop} {dz : Nat} (hZ : zB S D tc A dz) (hW : S.WarmedH s.vm) : ∃ mi : Nat, va_Mi "[Ljava/lang/Object;" mi s := by
  obtain ⟨mi, h⟩ := hZ.2.2.2.2.2.2.2.1
  exact ⟨mi, va_Mi.moved hW.alike h⟩
def zcap (c : Nat) : Prop := c = 0 ∨ c = 10 ∨ c = 15 ∨ c = 22 ∨ c = 33
section ZQQ
variable {p : Program} {l : Launch} {e : Env} {R : Room} {s : State} {m : MethodId} {args : Array Value} {below : List Frame} {meth : Method} {c : Code} {H : Heap} {locs : List Loc} {cells slots : Nat} {Q : State → Prop}
variable {cc : ByteArray} {pc : Nat} {ls : Array Slot} {rest : List Value} {D : va_G} {A : Nat → Prop} {a : Nat} {tys : List (ClassId × FieldType)} {w : zW}
/-- System.arraycopy of the first n references -/
theorem z_copyq (hx : p.tables.exec = Jvm.exec) (hb : c.code = cc) (hml : c.maxLocals = ls.size) {own : String} {index : Nat} (hown : s.vm.findClass own = some m.cls) (hlink : (Cond.methodLink own index arraycopyName).before args s = true) (hnat : (Cond.native arraycopyName).before args s = true) (hstat : (Cond.static arraycopyName).before args s = true) (hini : (Cond.initialized "java/lang/System").before args s = true)
    (hK : va_K D vwCl tys s) (hR : zR D A w H) (hS : va_S A s.heap H locs) (t0 : Nat) {a0 : Nat} {c0 : ClassId} {n0 n1 : Nat} {f g : Nat → Option Nat} {E : String} (ha0 : w a0 = some (.inl (c0, n0, .inr (.inr (.inr (.inr f)))))) (ha1 : w a = some (.inl (c0, n1, .inr (.inr (.inr (.inr g)))))) (ht0 : tys[t0]? = some (c0, .object E))
    {n : Int} (hn : 0 ≤ n ∧ n ≤ n0 ∧ n ≤ n1 ∧ n ≤ 1000000) (hel : ∀ i : Nat, i < n.toNat → ∀ y : Nat, f i = some y → va_Any E s H y)
    (hframes : 1 ≤ R.frames) (hlocals : (rest.map fun v => v.category).sum + (nativeFrameWords "java/lang/System" "arraycopy" 5 + 11) ≤ R.locals) (hdg : decode cc pc = .ok (.invokestatic index, 3))
    (kk : ∀ (H1 : Heap) (locs1 : List Loc), zR D A (zu w a (.inl (c0, n1, .inr (.inr (.inr (.inr (va_cpy f g 0 0 n.toNat))))))) H1 → va_S A s.heap H1 locs1 → W p l e R s m args below meth c H1 locs1 cells slots Q (F0 m (pc + 3) ls rest)) : W p l e R s m args below meth c H locs cells slots Q (F0 m pc ls (.int (zi n) :: .int (zi 0) :: .ref a :: .int (zi 0) :: .ref a0 :: rest)) := by
  obtain ⟨ws, hP, hD, hw⟩ := hR
  obtain ⟨q0, h0⟩ := hw _ _ ha0
  obtain ⟨q1, h1⟩ := hw _ _ ha1
  have z0 : (zi 0).toNatClampNeg = 0 := by decide
  have zn : (zi n).toNatClampNeg = n.toNat := zi_clamp (by omega)
  refine va_copyM hx hb hml hown hlink hnat hstat hini hK hP hD hS q0 q1 t0 t0 h0 h1 ht0 ht0 (by decide) (by decide) (by rw [← zi_0, zi_lt (by omega)]; omega) (by rw [z0, zn]; omega) (by rw [z0, zn]; omega) (fun i hi y hy => ?_) hframes hlocals hdg (fun H1 locs1 hP1 hD1 hS1 => ?_)
  · rw [z0, Nat.zero_add] at hy
    rw [zn] at hi
    exact hel i hi y hy
  · rw [z0, zn] at hP1 hD1
    exact kk H1 locs1 ⟨_, hP1, hD1, zR_set h1 hw⟩ hS1
end ZQQ
set_option maxHeartbeats 4000000 in
set_option maxRecDepth 100000 in
theorem c_Jx4a65c_size_8abf5 (l : Launch) {S : State} {D : va_G} {tc : Nat → ClassId} {A : Nat → Prop} {dz : Nat} (hZ : zB S D tc A dz) {w : zW} {b ea : Nat} {mo n : Int} (hb0 : w b = some (.inr (0, [.int (zi (mo)), .ref (ea), .int (zi (n))]))) : zM l S A yJx4a65c_size_8abf5 cJx4a65c_size_8abf5 1 (Option.some Jvm.ClassFile.FieldType.int) { frames := 1, locals := 20, cells := 0, slots := 0 } [.ref (b)] (zR D A w) (fun v H => v = some (.int (zi n)) ∧ zR D A w H) := by
  refine zM.mk (by decide +kernel) (Nat.le_of_ble_eq_true rfl) ?_
  intro p e s m below meth c ls X0 hR hl
  obtain ⟨hx, hb, hml, hr, hlocks, hown, hnm, hW, hpre, hA⟩ := X0
  have X : zH S A p s m c cJx4a65c_size_8abf5 1 RJx4a65c := ⟨hx, hb, hml, hown, hW, hpre, hA, hZ.2.2.1⟩
  have hT := hZ.1
  have hK := va_K.moved hW.alike hZ.2.1
  have hS : va_S A s.heap s.heap [] := va_S.rf
  have hl : lv_has ls 1 [(0, .ref (b))] := hl
  skip
  refine lv_aload_n hx hb dJx4a65c_size_8abf5_0 rfl (lv_at hl 0 rfl) ?_
  refine z_get hx hb (q_wsJx4a65c hT hW) hown hK hR hb0 rfl 2 (by decide) (q_63 hT hW) (fun _ h => h) rfl dJx4a65c_size_8abf5_1 ?_
  exact z_iret hx hb hr hlocks hS (by decide) (by decide) dJx4a65c_size_8abf5_4 ⟨rfl, hR⟩
set_option maxHeartbeats 4000000 in
set_option maxRecDepth 100000 in
theorem c_J3_checkIndex_8e157 (l : Launch) {S : State} {D : va_G} {tc : Nat → ClassId} {A : Nat → Prop} {dz : Nat} (hZ : zB S D tc A dz) {P : Heap → Prop} {i n : Int} (h0 : 0 ≤ i ∧ i < n ∧ n ≤ 1000000) : zM l S A yJ3_checkIndex_8e157 cJ3_checkIndex_8e157 3 (Option.some Jvm.ClassFile.FieldType.int) { frames := 1, locals := 20, cells := 0, slots := 0 } [.int (zi (i)), .int (zi (n)), .null] (P) (fun v H => v = some (.int (zi i)) ∧ P H) := by
  refine zM.mk (by decide +kernel) (Nat.le_of_ble_eq_true rfl) ?_
  intro p e s m below meth c ls X0 hR hl
  obtain ⟨hx, hb, hml, hr, hlocks, hown, hnm, hW, hpre, hA⟩ := X0
  have X : zH S A p s m c cJ3_checkIndex_8e157 3 RJ3 := ⟨hx, hb, hml, hown, hW, hpre, hA, hZ.2.2.1⟩
  have hT := hZ.1
  have hK := va_K.moved hW.alike hZ.2.1
  have hS : va_S A s.heap s.heap [] := va_S.rf
  have hl : lv_has ls 3 [(0, .int (zi (i))), (1, .int (zi (n))), (2, .null)] := hl
  skip
  refine lv_iload_n hx hb dJ3_checkIndex_8e157_0 rfl (lv_at hl 0 rfl) ?_
  refine z_if_lt (a := i) (tgt := 9) hx hb dJ3_checkIndex_8e157_1 (by decide) (by omega) (fun h_1 => ?_) (fun h_1 => ?_)
  · skip
    exact absurd h_1 (by omega)
  · skip
    refine lv_iload_n hx hb dJ3_checkIndex_8e157_4 rfl (lv_at hl 0 rfl) ?_
    refine lv_iload_n hx hb dJ3_checkIndex_8e157_5 rfl (lv_at hl 1 rfl) ?_
    refine z_icmp_lt (a := i) (b := n) (tgt := 16) hx hb dJ3_checkIndex_8e157_6 (by decide) (by omega) (fun h_6 => ?_) (fun h_6 => ?_)
    · skip
      refine lv_iload_n hx hb dJ3_checkIndex_8e157_16 rfl (lv_at hl 0 rfl) ?_
      exact z_iret hx hb hr hlocks hS (by decide) (by decide) dJ3_checkIndex_8e157_17 ⟨rfl, hR⟩
    · skip
      exact absurd h_6 (by omega)
set_option maxHeartbeats 4000000 in
set_option maxRecDepth 100000 in
theorem c_J15_checkIndex_7cf53 (l : Launch) {S : State} {D : va_G} {tc : Nat → ClassId} {A : Nat → Prop} {dz : Nat} (hZ : zB S D tc A dz) {P : Heap → Prop} {i n : Int} (h0 : 0 ≤ i ∧ i < n ∧ n ≤ 1000000) : zM l S A yJ15_checkIndex_7cf53 cJ15_checkIndex_7cf53 2 (Option.some Jvm.ClassFile.FieldType.int) { frames := 2, locals := 50, cells := 0, slots := 0 } [.int (zi (i)), .int (zi (n))] (P) (fun v H => v = some (.int (zi i)) ∧ P H) := by
  refine zM.mk (by decide +kernel) (Nat.le_of_ble_eq_true rfl) ?_
  intro p e s m below meth c ls X0 hR hl
  obtain ⟨hx, hb, hml, hr, hlocks, hown, hnm, hW, hpre, hA⟩ := X0
  have X : zH S A p s m c cJ15_checkIndex_7cf53 2 RJ15 := ⟨hx, hb, hml, hown, hW, hpre, hA, hZ.2.2.1⟩
  have hT := hZ.1
  have hK := va_K.moved hW.alike hZ.2.1
  have hS : va_S A s.heap s.heap [] := va_S.rf
  have hl : lv_has ls 2 [(0, .int (zi (i))), (1, .int (zi (n)))] := hl
  skip
  refine lv_iload_n hx hb dJ15_checkIndex_7cf53_0 rfl (lv_at hl 0 rfl) ?_
  refine lv_iload_n hx hb dJ15_checkIndex_7cf53_1 rfl (lv_at hl 1 rfl) ?_
  refine lv_null hx hb dJ15_checkIndex_7cf53_2 ?_
  refine z_invS (n := 3) (c_J3_checkIndex_8e157 l hZ (P := P) h0) X hS hR hl.1 (q_377 hT hW) (q_20 hT hW) (q_375 hT hW) (q_376 hT hW) (by decide +kernel) rfl ⟨Nat.le_of_ble_eq_true rfl, Nat.le_of_ble_eq_true rfl⟩ ⟨Nat.le_of_ble_eq_true rfl, Nat.le_of_ble_eq_true rfl⟩ (Nat.le_of_ble_eq_true rfl) dJ15_checkIndex_7cf53_3 (fun v H locs hv hS => ?_) rfl
  obtain ⟨rfl, hR⟩ := hv
  exact z_iret hx hb hr hlocks hS (by decide) (by decide) dJ15_checkIndex_7cf53_6 ⟨rfl, hR⟩
set_option maxHeartbeats 4000000 in
set_option maxRecDepth 100000 in
theorem c_Jx4a65c_elementData_915e3 (l : Launch) {S : State} {D : va_G} {tc : Nat → ClassId} {A : Nat → Prop} {dz : Nat} (hZ : zB S D tc A dz) {w : zW} {b ea : Nat} {mo n : Int} (hb0 : w b = some (.inr (0, [.int (zi (mo)), .ref (ea), .int (zi (n))]))) {cap : Nat} {el : Nat → Option Nat} (hea : w ea = some (.inl (tc 4, cap, .inr (.inr (.inr (.inr el)))))) {i : Int} (h0 : 0 ≤ i ∧ i < n ∧ n ≤ cap ∧ cap ≤ 1000) : zM l S A yJx4a65c_elementData_915e3 cJx4a65c_elementData_915e3 2 (Option.some (Jvm.ClassFile.FieldType.object "java/lang/Object")) { frames := 1, locals := 20, cells := 0, slots := 0 } [.ref (b), .int (zi (i))] (zR D A w) (fun v H => v = some (va_rf (el i.toNat)) ∧ zR D A w H) := by
  refine zM.mk (by decide +kernel) (Nat.le_of_ble_eq_true rfl) ?_
  intro p e s m below meth c ls X0 hR hl
  obtain ⟨hx, hb, hml, hr, hlocks, hown, hnm, hW, hpre, hA⟩ := X0
  have X : zH S A p s m c cJx4a65c_elementData_915e3 2 RJx4a65c := ⟨hx, hb, hml, hown, hW, hpre, hA, hZ.2.2.1⟩
  have hT := hZ.1
  have hK := va_K.moved hW.alike hZ.2.1
  have hS : va_S A s.heap s.heap [] := va_S.rf
  have hl : lv_has ls 2 [(0, .ref (b)), (1, .int (zi (i)))] := hl
  skip
  refine lv_aload_n hx hb dJx4a65c_elementData_915e3_0 rfl (lv_at hl 0 rfl) ?_
  refine z_get hx hb (q_wsJx4a65c hT hW) hown hK hR hb0 rfl 1 (by decide) (q_62 hT hW) (fun _ h => h) rfl dJx4a65c_elementData_915e3_1 ?_
  refine lv_iload_n hx hb dJx4a65c_elementData_915e3_4 rfl (lv_at hl 1 rfl) ?_
  refine z_aald (i := i) hx hb hK hR 4 hea rfl (by omega) dJx4a65c_elementData_915e3_5 ?_
  exact z_aret (r := el (i).toNat) hx hb hr (Or.inl ⟨_, rfl⟩) hlocks hS (by decide) (by decide) dJx4a65c_elementData_915e3_6 ⟨rfl, hR⟩
set_option maxHeartbeats 4000000 in
set_option maxRecDepth 100000 in
theorem c_Jx4a65c_get_915e3 (l : Launch) {S : State} {D : va_G} {tc : Nat → ClassId} {A : Nat → Prop} {dz : Nat} (hZ : zB S D tc A dz) {w : zW} {b ea : Nat} {mo n : Int} (hb0 : w b = some (.inr (0, [.int (zi (mo)), .ref (ea), .int (zi (n))]))) {cap : Nat} {el : Nat → Option Nat} (hea : w ea = some (.inl (tc 4, cap, .inr (.inr (.inr (.inr el)))))) {i : Int} (h0 : 0 ≤ i ∧ i < n ∧ n ≤ cap ∧ cap ≤ 1000) : zM l S A yJx4a65c_get_915e3 cJx4a65c_get_915e3 2 (Option.some (Jvm.ClassFile.FieldType.object "java/lang/Object")) { frames := 3, locals := 80, cells := 0, slots := 0 } [.ref (b), .int (zi (i))] (zR D A w) (fun v H => v = some (va_rf (el i.toNat)) ∧ zR D A w H) := by
  refine zM.mk (by decide +kernel) (Nat.le_of_ble_eq_true rfl) ?_
  intro p e s m below meth c ls X0 hR hl
  obtain ⟨hx, hb, hml, hr, hlocks, hown, hnm, hW, hpre, hA⟩ := X0
  have X : zH S A p s m c cJx4a65c_get_915e3 2 RJx4a65c := ⟨hx, hb, hml, hown, hW, hpre, hA, hZ.2.2.1⟩
  have hT := hZ.1
  have hK := va_K.moved hW.alike hZ.2.1
  have hS : va_S A s.heap s.heap [] := va_S.rf
  have hl : lv_has ls 2 [(0, .ref (b)), (1, .int (zi (i)))] := hl
  skip
  refine lv_iload_n hx hb dJx4a65c_get_915e3_0 rfl (lv_at hl 1 rfl) ?_
  refine lv_aload_n hx hb dJx4a65c_get_915e3_1 rfl (lv_at hl 0 rfl) ?_
  refine z_get hx hb (q_wsJx4a65c hT hW) hown hK hR hb0 rfl 2 (by decide) (q_63 hT hW) (fun _ h => h) rfl dJx4a65c_get_915e3_2 ?_
  refine z_invS (n := 2) (c_J15_checkIndex_7cf53 l hZ (P := zR D A w) (i := i) (n := n) (by omega)) X hS hR hl.1 (q_374 hT hW) (q_19 hT hW) (q_372 hT hW) (q_373 hT hW) (by decide +kernel) rfl ⟨Nat.le_of_ble_eq_true rfl, Nat.le_of_ble_eq_true rfl⟩ ⟨Nat.le_of_ble_eq_true rfl, Nat.le_of_ble_eq_true rfl⟩ (Nat.le_of_ble_eq_true rfl) dJx4a65c_get_915e3_5 (fun v H locs hv hS => ?_) rfl
  obtain ⟨rfl, hR⟩ := hv
  refine lv_pop hx hb dJx4a65c_get_915e3_8 rfl ?_
  refine lv_aload_n hx hb dJx4a65c_get_915e3_9 rfl (lv_at hl 0 rfl) ?_
  refine lv_iload_n hx hb dJx4a65c_get_915e3_10 rfl (lv_at hl 1 rfl) ?_
  refine z_invV (n := 1) (C := RJx4a65c) (c_Jx4a65c_elementData_915e3 l hZ hb0 hea h0) X hS hR hl.1 (q_381 hT hW) (q_6 hT hW) (q_378 hT hW) (q_379 hT hW) (q_380 hT hW) (z_recv hK hR hb0 rfl) (by decide +kernel) rfl ⟨Nat.le_of_ble_eq_true rfl, Nat.le_of_ble_eq_true rfl⟩ ⟨Nat.le_of_ble_eq_true rfl, Nat.le_of_ble_eq_true rfl⟩ (Nat.le_of_ble_eq_true rfl) dJx4a65c_get_915e3_11 (fun v H locs hv hS => ?_) rfl
  obtain ⟨rfl, hR⟩ := hv
  exact z_aret (r := el i.toNat) hx hb hr (Or.inl ⟨_, rfl⟩) hlocks hS (by decide) (by decide) dJx4a65c_get_915e3_14 ⟨rfl, hR⟩
set_option maxHeartbeats 4000000 in
set_option maxRecDepth 100000 in
theorem c_Jxa1e45_init_da8c8 (l : Launch) {S : State} {D : va_G} {tc : Nat → ClassId} {A : Nat → Prop} {dz : Nat} (hZ : zB S D tc A dz) {P : Heap → Prop} {b : Nat} : zM l S A yJxa1e45_init_da8c8 cJxa1e45_init_da8c8 1 (Option.none : Option Jvm.ClassFile.FieldType) { frames := 2, locals := 40, cells := 0, slots := 0 } [.ref (b)] (P) (fun v H => v = none ∧ P H) := by
  refine zM.mk (by decide +kernel) (Nat.le_of_ble_eq_true rfl) ?_
  intro p e s m below meth c ls X0 hR hl
  obtain ⟨hx, hb, hml, hr, hlocks, hown, hnm, hW, hpre, hA⟩ := X0
  have X : zH S A p s m c cJxa1e45_init_da8c8 1 RJxa1e45 := ⟨hx, hb, hml, hown, hW, hpre, hA, hZ.2.2.1⟩
  have hT := hZ.1
  have hK := va_K.moved hW.alike hZ.2.1
  have hS : va_S A s.heap s.heap [] := va_S.rf
  have hl : lv_has ls 1 [(0, .ref (b))] := hl
  skip
  refine lv_aload_n hx hb dJxa1e45_init_da8c8_0 rfl (lv_at hl 0 rfl) ?_
  refine W.objInit hx hb hown (q_59 hT hW) (q_29 hT hW) (q_30 hT hW) rfl (by rw [hml]; exact hl.1) rfl dJxa1e45_init_da8c8_1 (Nat.le_of_ble_eq_true rfl) (Nat.le_of_ble_eq_true rfl) ?_
  refine W.eq (g2 := F0 m 4 ls []) rfl ?_
  exact z_vret hx hb hr hlocks hS (by decide) (by decide) dJxa1e45_init_da8c8_4 ⟨rfl, hR⟩
set_option maxHeartbeats 4000000 in
set_option maxRecDepth 100000 in
theorem c_Jxc12de_init_da8c8 (l : Launch) {S : State} {D : va_G} {tc : Nat → ClassId} {A : Nat → Prop} {dz : Nat} (hZ : zB S D tc A dz) {w : zW} {b : Nat} (hb0 : w b = some (.inr (0, [.int (zi 0), .null, .int (zi 0)]))) : zM l S A yJxc12de_init_da8c8 cJxc12de_init_da8c8 1 (Option.none : Option Jvm.ClassFile.FieldType) { frames := 3, locals := 70, cells := 0, slots := 0 } [.ref (b)] (zR D A w) (fun v H => v = none ∧ zR D A w H) := by
  refine zM.mk (by decide +kernel) (Nat.le_of_ble_eq_true rfl) ?_
  intro p e s m below meth c ls X0 hR hl
  obtain ⟨hx, hb, hml, hr, hlocks, hown, hnm, hW, hpre, hA⟩ := X0
  have X : zH S A p s m c cJxc12de_init_da8c8 1 RJxc12de := ⟨hx, hb, hml, hown, hW, hpre, hA, hZ.2.2.1⟩
  have hT := hZ.1
  have hK := va_K.moved hW.alike hZ.2.1
  have hS : va_S A s.heap s.heap [] := va_S.rf
  have hl : lv_has ls 1 [(0, .ref (b))] := hl
  skip
  refine lv_aload_n hx hb dJxc12de_init_da8c8_0 rfl (lv_at hl 0 rfl) ?_
  refine z_invI (n := 0) (c_Jxa1e45_init_da8c8 l hZ (P := zR D A w) (b := b)) X hS hR hl.1 rfl (q_58 hT hW) (q_4 hT hW) (q_56 hT hW) (q_57 hT hW) (by decide +kernel) rfl ⟨Nat.le_of_ble_eq_true rfl, Nat.le_of_ble_eq_true rfl⟩ ⟨Nat.le_of_ble_eq_true rfl, Nat.le_of_ble_eq_true rfl⟩ (Nat.le_of_ble_eq_true rfl) dJxc12de_init_da8c8_1 (fun v H locs hv hS => ?_) rfl
  obtain ⟨rfl, hR⟩ := hv
  refine lv_aload_n hx hb dJxc12de_init_da8c8_4 rfl (lv_at hl 0 rfl) ?_
  refine lv_iconst (v := zi (0)) hx hb dJxc12de_init_da8c8_5 rfl ?_
  refine z_put hx hb (q_wsJx4a65c hT hW) tyJx4a65c tyJx4a65c_ok nmJx4a65c hown hK hR hS hb0 rfl 0 (by decide) (q_64 hT hW) (fun _ h => h) rfl (tyJx4a65c_ok 0 (by decide)) rfl rfl (Nat.le_of_ble_eq_true rfl) dJxc12de_init_da8c8_6 (fun H locs hR hS => ?_)
  have hR : zR D A (zu w (b) (.inr (0, [.int (zi (0)), .null, .int (zi (0))]))) H := hR
  have he_1 : (zu w (b) (.inr (0, [.int (zi (0)), .null, .int (zi (0))]))) (b) = some (.inr (0, [.int (zi (0)), .null, .int (zi (0))])) := zu_eq
  exact z_vret hx hb hr hlocks hS (by decide) (by decide) dJxc12de_init_da8c8_9 ⟨rfl, by rw [zu_self hb0] at hR; exact hR⟩
set_option maxHeartbeats 4000000 in
set_option maxRecDepth 100000 in
theorem c_Jx4a65c_init_da8c8 (l : Launch) {S : State} {D : va_G} {tc : Nat → ClassId} {A : Nat → Prop} {dz : Nat} (hZ : zB S D tc A dz) {w : zW} {b : Nat} (hb0 : w b = some (.inr (0, [.int (zi 0), .null, .int (zi 0)]))) : zM l S A yJx4a65c_init_da8c8 cJx4a65c_init_da8c8 1 (Option.none : Option Jvm.ClassFile.FieldType) { frames := 4, locals := 100, cells := 0, slots := 0 } [.ref (b)] (zR D A w) (fun v H => v = none ∧ zR D A (zu w b (.inr (0, [.int (zi (0)), .ref (dz), .int (zi (0))]))) H) := by
  refine zM.mk (by decide +kernel) (Nat.le_of_ble_eq_true rfl) ?_
  intro p e s m below meth c ls X0 hR hl
  obtain ⟨hx, hb, hml, hr, hlocks, hown, hnm, hW, hpre, hA⟩ := X0
  have X : zH S A p s m c cJx4a65c_init_da8c8 1 RJx4a65c := ⟨hx, hb, hml, hown, hW, hpre, hA, hZ.2.2.1⟩
  have hT := hZ.1
  have hK := va_K.moved hW.alike hZ.2.1
  have hS : va_S A s.heap s.heap [] := va_S.rf
  have hl : lv_has ls 1 [(0, .ref (b))] := hl
  skip
  refine lv_aload_n hx hb dJx4a65c_init_da8c8_0 rfl (lv_at hl 0 rfl) ?_
  refine z_invI (n := 0) (c_Jxc12de_init_da8c8 l hZ hb0) X hS hR hl.1 rfl (q_55 hT hW) (q_5 hT hW) (q_53 hT hW) (q_54 hT hW) (by decide +kernel) rfl ⟨Nat.le_of_ble_eq_true rfl, Nat.le_of_ble_eq_true rfl⟩ ⟨Nat.le_of_ble_eq_true rfl, Nat.le_of_ble_eq_true rfl⟩ (Nat.le_of_ble_eq_true rfl) dJx4a65c_init_da8c8_1 (fun v H locs hv hS => ?_) rfl
  obtain ⟨rfl, hR⟩ := hv
  refine lv_aload_n hx hb dJx4a65c_init_da8c8_4 rfl (lv_at hl 0 rfl) ?_
  refine va_gets hx hb (hZ.dflt hW hpre) hS hown (q_60 hT hW) (fun _ h => h) dJx4a65c_init_da8c8_5 ?_
  refine z_put hx hb (q_wsJx4a65c hT hW) tyJx4a65c tyJx4a65c_ok nmJx4a65c hown hK hR hS hb0 rfl 1 (by decide) (q_62 hT hW) (fun _ h => h) rfl (tyJx4a65c_ok 1 (by decide)) rfl rfl (Nat.le_of_ble_eq_true rfl) dJx4a65c_init_da8c8_8 (fun H locs hR hS => ?_)
  have hR : zR D A (zu w (b) (.inr (0, [.int (zi (0)), .ref (dz), .int (zi (0))]))) H := hR
  have he_1 : (zu w (b) (.inr (0, [.int (zi (0)), .ref (dz), .int (zi (0))]))) (b) = some (.inr (0, [.int (zi (0)), .ref (dz), .int (zi (0))])) := zu_eq
  exact z_vret hx hb hr hlocks hS (by decide) (by decide) dJx4a65c_init_da8c8_11 ⟨rfl, hR⟩
set_option maxHeartbeats 4000000 in
set_option maxRecDepth 100000 in
theorem c_J8_newLength_cabcc (l : Launch) {S : State} {D : va_G} {tc : Nat → ClassId} {A : Nat → Prop} {dz : Nat} (hZ : zB S D tc A dz) {P : Heap → Prop} {o mg pg : Int} (h0 : 0 ≤ o ∧ o ≤ 1000 ∧ 1 ≤ mg ∧ mg ≤ 1000 ∧ 0 ≤ pg ∧ pg ≤ 1000) : zM l S A yJ8_newLength_cabcc cJ8_newLength_cabcc 4 (Option.some Jvm.ClassFile.FieldType.int) { frames := 1, locals := 20, cells := 0, slots := 0 } [.int (zi (o)), .int (zi (mg)), .int (zi (pg))] (P) (fun v H => v = some (.int (zi (o + (max mg pg)))) ∧ P H) := by
  refine zM.mk (by decide +kernel) (Nat.le_of_ble_eq_true rfl) ?_
  intro p e s m below meth c ls X0 hR hl
  obtain ⟨hx, hb, hml, hr, hlocks, hown, hnm, hW, hpre, hA⟩ := X0
  have X : zH S A p s m c cJ8_newLength_cabcc 4 RJ8 := ⟨hx, hb, hml, hown, hW, hpre, hA, hZ.2.2.1⟩
  have hT := hZ.1
  have hK := va_K.moved hW.alike hZ.2.1
  have hS : va_S A s.heap s.heap [] := va_S.rf
  have hl : lv_has ls 4 [(0, .int (zi (o))), (1, .int (zi (mg))), (2, .int (zi (pg)))] := hl
  skip
  refine lv_iload_n hx hb dJ8_newLength_cabcc_0 rfl (lv_at hl 0 rfl) ?_
  refine lv_iload_n hx hb dJ8_newLength_cabcc_1 rfl (lv_at hl 1 rfl) ?_
  refine lv_iload_n hx hb dJ8_newLength_cabcc_2 rfl (lv_at hl 2 rfl) ?_
  refine z_max (a := mg) (b := pg) hT X hl.1 (q_312 hT hW) (by omega) (Nat.le_of_ble_eq_true rfl) (Nat.le_of_ble_eq_true rfl) (Nat.le_of_ble_eq_true rfl) (Nat.le_of_ble_eq_true rfl) dJ8_newLength_cabcc_3 ?_
  refine z_iadd (a := o) (b := (max mg pg)) hx hb dJ8_newLength_cabcc_6 ?_
  refine lv_istore_n (lv' := [(3, .int (zi ((o + (max mg pg))))), (0, .int (zi (o))), (1, .int (zi (mg))), (2, .int (zi (pg)))]) hx hb dJ8_newLength_cabcc_7 rfl hl (by decide) rfl (fun ls hl => ?_)
  refine lv_iconst (v := zi (0)) hx hb dJ8_newLength_cabcc_8 rfl ?_
  refine lv_iload_n hx hb dJ8_newLength_cabcc_9 rfl (lv_at hl 0 rfl) ?_
  refine z_icmp_ge (a := 0) (b := (o + (max mg pg))) (tgt := 21) hx hb dJ8_newLength_cabcc_10 (by decide) (by omega) (fun h_10 => ?_) (fun h_10 => ?_)
  · skip
    exact absurd h_10 (by omega)
  · skip
    refine lv_iload_n hx hb dJ8_newLength_cabcc_13 rfl (lv_at hl 0 rfl) ?_
    refine lv_ldc (v := zi 2147483639) hx hb hown (q_315 hT hW) dJ8_newLength_cabcc_14 ?_
    refine z_icmp_gt (a := (o + (max mg pg))) (b := 2147483639) (tgt := 21) hx hb dJ8_newLength_cabcc_16 (by decide) (by omega) (fun h_16 => ?_) (fun h_16 => ?_)
    · skip
      exact absurd h_16 (by omega)
    · skip
      refine lv_iload_n hx hb dJ8_newLength_cabcc_19 rfl (lv_at hl 0 rfl) ?_
      exact z_iret hx hb hr hlocks hS (by decide) (by decide) dJ8_newLength_cabcc_20 ⟨rfl, hR⟩
set_option maxHeartbeats 4000000 in
set_option maxRecDepth 100000 in
theorem c_J7_copyOf_6403c (l : Launch) {S : State} {D : va_G} {tc : Nat → ClassId} {A : Nat → Prop} {dz : Nat} (hZ : zB S D tc A dz) {w : zW} {ea : Nat} {cap : Nat} {el : Nat → Option Nat} (hea : w ea = some (.inl (tc 4, cap, .inr (.inr (.inr (.inr el)))))) {n : Int} (h0 : (cap : Int) ≤ n ∧ n ≤ 33) (hel : ∀ i, i < cap → ∀ y, el i = some y → ∃ ci fs, (ci = 1 ∨ ci = 2 ∨ ci = 3) ∧ w y = some (.inr (ci, fs))) {mi : Nat} (hmi : va_Mi "[Ljava/lang/Object;" mi S) : zM l S A yJ7_copyOf_6403c cJ7_copyOf_6403c 4 (Option.some (Jvm.ClassFile.FieldType.array (Jvm.ClassFile.FieldType.object "java/lang/Object"))) { frames := 1, locals := 60, cells := 1, slots := 33 } [.ref (ea), .int (zi (n)), .ref (mi)] (zR D A w) (fun v H => ∃ q : Nat, v = some (va_rf (some q)) ∧ (∀ q' e', w q' = some e' → q' ≠ q) ∧ zR D A (zu w q (.inl (tc 4, n.toNat, .inr (.inr (.inr (.inr (va_cpy el (fun _ => none) 0 0 cap))))))) H) := by
  refine zM.mk (by decide +kernel) (Nat.le_of_ble_eq_true rfl) ?_
  intro p e s m below meth c ls X0 hR hl
  obtain ⟨hx, hb, hml, hr, hlocks, hown, hnm, hW, hpre, hA⟩ := X0
  have X : zH S A p s m c cJ7_copyOf_6403c 4 RJ7 := ⟨hx, hb, hml, hown, hW, hpre, hA, hZ.2.2.1⟩
  have hT := hZ.1
  have hK := va_K.moved hW.alike hZ.2.1
  have hS : va_S A s.heap s.heap [] := va_S.rf
  have hl : lv_has ls 4 [(0, .ref (ea)), (1, .int (zi (n))), (2, .ref (mi))] := hl
  skip
  refine lv_aload_n hx hb dJ7_copyOf_6403c_0 rfl (lv_at hl 2 rfl) ?_
  refine va_ldcM hx hb hown (q_340 hT hW) (va_Mi.moved hW.alike hmi) dJ7_copyOf_6403c_1 ?_
  refine lv_acmp_ne (rx := some mi) (ry := some mi) (tgt := 13) hx hb dJ7_copyOf_6403c_3 (by decide) (fun h_3 => absurd rfl h_3) (fun _ => ?_)
  refine lv_iload_n hx hb dJ7_copyOf_6403c_6 rfl (lv_at hl 1 rfl) ?_
  refine z_newq (n := n) hx hb hown (q_342 hT hW) (va_AO.moved hW.alike (va_AO.of (q_341 hT))) hK hR hS hA 4 rfl (by omega) (by show 0 + 1 ≤ 1; omega) (by show 0 + n.toNat ≤ 33; omega) dJ7_copyOf_6403c_7 (fun q H hfr hR hS => ?_)
  have hneq : ea ≠ q := hfr _ _ hea
  have he1 : (zu w q (.inl (tc 4, n.toNat, .inr (.inr (.inr (.inr (fun _ => none))))))) ea = some (.inl (tc 4, cap, .inr (.inr (.inr (.inr el))))) := (zu_ne hneq).trans hea
  have he2 : (zu w q (.inl (tc 4, n.toNat, .inr (.inr (.inr (.inr (fun _ => none))))))) q = some (.inl (tc 4, n.toNat, .inr (.inr (.inr (.inr (fun _ => none)))))) := zu_eq
  refine lv_goto (tgt := 24) hx hb dJ7_copyOf_6403c_10 (by decide) ?_
  refine lv_astore_n (lv' := [(3, .ref (q)), (0, .ref (ea)), (1, .int (zi (n))), (2, .ref (mi))]) hx hb dJ7_copyOf_6403c_24 rfl hl (by decide) rfl (fun ls hl => ?_)
  refine lv_aload_n hx hb dJ7_copyOf_6403c_25 rfl (lv_at hl 1 rfl) ?_
  refine lv_iconst (v := zi (0)) hx hb dJ7_copyOf_6403c_26 rfl ?_
  refine lv_aload_n hx hb dJ7_copyOf_6403c_27 rfl (lv_at hl 0 rfl) ?_
  refine lv_iconst (v := zi (0)) hx hb dJ7_copyOf_6403c_28 rfl ?_
  refine lv_aload_n hx hb dJ7_copyOf_6403c_29 rfl (lv_at hl 1 rfl) ?_
  refine z_alen hx hb hK hR 4 he1 rfl dJ7_copyOf_6403c_30 ?_
  refine lv_iload_n hx hb dJ7_copyOf_6403c_31 rfl (lv_at hl 2 rfl) ?_
  refine z_min (a := (cap : Int)) (b := n) hT X hl.1 (q_343 hT hW) (by omega) (Nat.le_of_ble_eq_true rfl) (Nat.le_of_ble_eq_true rfl) (by show 0 + 1 ≤ 1; omega) (by show 0 + n.toNat ≤ 33; omega) dJ7_copyOf_6403c_32 ?_
  rw [show (min ((cap : Int)) n) = (cap : Int) by omega]
  refine z_copyq (n := (cap : Int)) hx hb (hml.trans hl.1.symm) hown (q_346 hT hW) (q_348 hT hW) (q_347 hT hW) (q_18 hT hW) hK hR hS 4 he1 he2 rfl (by omega) (fun i hi y hy => ?_) (Nat.le_of_ble_eq_true rfl) (Nat.le_of_ble_eq_true rfl) dJ7_copyOf_6403c_35 (fun H locs hR hS => ?_)
  · obtain ⟨ci, fs, hci, hwy⟩ := hel i (by omega) y hy
    have hny : y ≠ q := hfr _ _ hwy
    obtain ⟨ws9, hP9, hD9, hw9⟩ := id hR
    obtain ⟨k9, hk9⟩ := hw9 y _ ((zu_ne hny).trans hwy)
    rcases hci with rfl | rfl | rfl
    · exact va_rAny hK hP9 hk9 (r := (RX0, TX0, 13)) rfl (fun comp c0 h1 h2 => by
        obtain ⟨c3, c4, hc3, hc4, hasg⟩ := Cond.castable_spec (va_Nw.use (A := #[]) rfl (q_856 hT hW))
        cases Option.some.inj (hc3.symm.trans h2)
        cases Option.some.inj (hc4.symm.trans h1)
        exact hasg)
    · exact va_rAny hK hP9 hk9 (r := (RX1, TX1, 8)) rfl (fun comp c0 h1 h2 => by
        obtain ⟨c3, c4, hc3, hc4, hasg⟩ := Cond.castable_spec (va_Nw.use (A := #[]) rfl (q_857 hT hW))
        cases Option.some.inj (hc3.symm.trans h2)
        cases Option.some.inj (hc4.symm.trans h1)
        exact hasg)
    · exact va_rAny hK hP9 hk9 (r := (RX2, TX2, 5)) rfl (fun comp c0 h1 h2 => by
        obtain ⟨c3, c4, hc3, hc4, hasg⟩ := Cond.castable_spec (va_Nw.use (A := #[]) rfl (q_858 hT hW))
        cases Option.some.inj (hc3.symm.trans h2)
        cases Option.some.inj (hc4.symm.trans h1)
        exact hasg)
  rw [zu_zu, show ((cap : Int)).toNat = cap from rfl] at hR
  refine lv_aload_n hx hb dJ7_copyOf_6403c_38 rfl (lv_at hl 0 rfl) ?_
  exact z_aret (r := some (q)) hx hb hr (Or.inr ⟨_, rfl⟩) hlocks hS (by show 0 + 1 ≤ 1; omega) (by show 0 + n.toNat ≤ 33; omega) dJ7_copyOf_6403c_39 ⟨q, rfl, hfr, hR⟩
set_option maxHeartbeats 4000000 in
set_option maxRecDepth 100000 in
theorem c_J7_copyOf_1904c (l : Launch) {S : State} {D : va_G} {tc : Nat → ClassId} {A : Nat → Prop} {dz : Nat} (hZ : zB S D tc A dz) {w : zW} {ea : Nat} {cap : Nat} {el : Nat → Option Nat} (hea : w ea = some (.inl (tc 4, cap, .inr (.inr (.inr (.inr el)))))) {n : Int} (h0 : (cap : Int) ≤ n ∧ n ≤ 33) (hel : ∀ i, i < cap → ∀ y, el i = some y → ∃ ci fs, (ci = 1 ∨ ci = 2 ∨ ci = 3) ∧ w y = some (.inr (ci, fs))) : zM l S A yJ7_copyOf_1904c cJ7_copyOf_1904c 2 (Option.some (Jvm.ClassFile.FieldType.array (Jvm.ClassFile.FieldType.object "java/lang/Object"))) { frames := 2, locals := 100, cells := 1, slots := 33 } [.ref (ea), .int (zi (n))] (zR D A w) (fun v H => ∃ q : Nat, v = some (va_rf (some q)) ∧ (∀ q' e', w q' = some e' → q' ≠ q) ∧ zR D A (zu w q (.inl (tc 4, n.toNat, .inr (.inr (.inr (.inr (va_cpy el (fun _ => none) 0 0 cap))))))) H) := by
  refine zM.mk (by decide +kernel) (Nat.le_of_ble_eq_true rfl) ?_
  intro p e s m below meth c ls X0 hR hl
  obtain ⟨hx, hb, hml, hr, hlocks, hown, hnm, hW, hpre, hA⟩ := X0
  have X : zH S A p s m c cJ7_copyOf_1904c 2 RJ7 := ⟨hx, hb, hml, hown, hW, hpre, hA, hZ.2.2.1⟩
  have hT := hZ.1
  have hK := va_K.moved hW.alike hZ.2.1
  have hS : va_S A s.heap s.heap [] := va_S.rf
  have hl : lv_has ls 2 [(0, .ref (ea)), (1, .int (zi (n)))] := hl
  skip
  refine lv_aload_n hx hb dJ7_copyOf_1904c_0 rfl (lv_at hl 0 rfl) ?_
  refine lv_iload_n hx hb dJ7_copyOf_1904c_1 rfl (lv_at hl 1 rfl) ?_
  refine lv_aload_n hx hb dJ7_copyOf_1904c_2 rfl (lv_at hl 0 rfl) ?_
  obtain ⟨mi, hmi⟩ := hZ.2.2.2.2.2.2.2.1
  obtain ⟨ws9, hP9, hD9, hw9⟩ := id hR
  obtain ⟨k9, hk9⟩ := hw9 _ _ hea
  have hrv : ∃ cell : Cell, s.heap[ea]? = some cell ∧ cell.vm.isStatics = false ∧ s.vm.findClass "[Ljava/lang/Object;" = some cell.cls := ⟨_, hP9 k9 _ hk9, rfl, by obtain ⟨-, -, -, -, -, e9⟩ := (hK.2 4 _ rfl).2; exact e9⟩
  refine va_getC hx hb (hml.trans hl.1.symm) hown (q_322 hT hW) (va_Dc.use (va_Dc.moved hW.alike (va_Dc.of (q_863 hT)))) (q_862 hT hW) (q_323 hT hW) (q_336 hT hW) (va_Mi.moved hW.alike hmi) hrv (Nat.le_of_ble_eq_true rfl) (Nat.le_of_ble_eq_true rfl) dJ7_copyOf_1904c_3 ?_
  refine z_invS (n := 3) (c_J7_copyOf_6403c l hZ hea h0 hel hmi) X hS hR hl.1 (q_339 hT hW) (q_17 hT hW) (q_337 hT hW) (q_338 hT hW) (by decide +kernel) rfl ⟨Nat.le_of_ble_eq_true rfl, Nat.le_of_ble_eq_true rfl⟩ ⟨Nat.le_of_ble_eq_true rfl, Nat.le_of_ble_eq_true rfl⟩ (Nat.le_of_ble_eq_true rfl) dJ7_copyOf_1904c_6 (fun v H locs hv hS => ?_) rfl
  obtain ⟨q, rfl, hfr, hR⟩ := hv
  exact z_aret (r := some (q)) hx hb hr (Or.inr ⟨_, rfl⟩) hlocks hS (by decide) (by decide) dJ7_copyOf_1904c_9 ⟨q, rfl, hfr, hR⟩
set_option maxHeartbeats 4000000 in
set_option maxRecDepth 100000 in
theorem c_growE (l : Launch) {S : State} {D : va_G} {tc : Nat → ClassId} {A : Nat → Prop} {dz : Nat} (hZ : zB S D tc A dz) {w : zW} {b : Nat} {mo : Int} (hb0 : w b = some (.inr (0, [.int (zi (mo)), .ref (dz), .int (zi (0))]))) : zM l S A yJx4a65c_grow_92f84 cJx4a65c_grow_92f84 4 (Option.some (Jvm.ClassFile.FieldType.array (Jvm.ClassFile.FieldType.object "java/lang/Object"))) { frames := 3, locals := 130, cells := 1, slots := 33 } [.ref (b), .int (zi (1))] (zR D A w) (fun v H => ∃ q : Nat, v = some (va_rf (some q)) ∧ (∀ q' e', w q' = some e' → q' ≠ q) ∧ zR D A (zu (zu w q (.inl (tc 4, 10, .inr (.inr (.inr (.inr (fun _ => none))))))) b (.inr (0, [.int (zi (mo)), .ref (q), .int (zi (0))]))) H) := by
  refine zM.mk (by decide +kernel) (Nat.le_of_ble_eq_true rfl) ?_
  intro p e s m below meth c ls X0 hR hl
  obtain ⟨hx, hb, hml, hr, hlocks, hown, hnm, hW, hpre, hA⟩ := X0
  have X : zH S A p s m c cJx4a65c_grow_92f84 4 RJx4a65c := ⟨hx, hb, hml, hown, hW, hpre, hA, hZ.2.2.1⟩
  have hT := hZ.1
  have hK := va_K.moved hW.alike hZ.2.1
  have hS : va_S A s.heap s.heap [] := va_S.rf
  have hl : lv_has ls 4 [(0, .ref (b)), (1, .int (zi (1)))] := hl
  skip
  refine lv_aload_n hx hb dJx4a65c_grow_92f84_0 rfl (lv_at hl 0 rfl) ?_
  refine z_get hx hb (q_wsJx4a65c hT hW) hown hK hR hb0 rfl 1 (by decide) (q_62 hT hW) (fun _ h => h) rfl dJx4a65c_grow_92f84_1 ?_
  refine va_tlen hx hb (hZ.empty hW hpre) hS (v := zi 0) rfl dJx4a65c_grow_92f84_4 ?_
  refine lv_istore_n (lv' := [(2, .int (zi (0))), (0, .ref (b)), (1, .int (zi (1)))]) hx hb dJx4a65c_grow_92f84_5 rfl hl (by decide) rfl (fun ls hl => ?_)
  refine lv_iload_n hx hb dJx4a65c_grow_92f84_6 rfl (lv_at hl 0 rfl) ?_
  refine z_if_gt (a := 0) (tgt := 20) hx hb dJx4a65c_grow_92f84_7 (by decide) (by omega) (fun h_7 => ?_) (fun h_7 => ?_)
  · skip
    exact absurd h_7 (by omega)
  · skip
    refine lv_aload_n hx hb dJx4a65c_grow_92f84_10 rfl (lv_at hl 1 rfl) ?_
    refine z_get hx hb (q_wsJx4a65c hT hW) hown hK hR hb0 rfl 1 (by decide) (q_62 hT hW) (fun _ h => h) rfl dJx4a65c_grow_92f84_11 ?_
    refine va_gets hx hb (hZ.dflt hW hpre) hS hown (q_60 hT hW) (fun _ h => h) dJx4a65c_grow_92f84_14 ?_
    refine lv_acmp_eq (rx := some dz) (ry := some dz) (tgt := 45) hx hb dJx4a65c_grow_92f84_17 (by decide) (fun _ => ?_) (fun h_3 => absurd rfl h_3)
    refine lv_aload_n hx hb dJx4a65c_grow_92f84_45 rfl (lv_at hl 1 rfl) ?_
    refine lv_bipush (v := zi (10)) hx hb dJx4a65c_grow_92f84_46 rfl ?_
    refine lv_iload_n hx hb dJx4a65c_grow_92f84_48 rfl (lv_at hl 2 rfl) ?_
    refine z_max (a := 10) (b := 1) hT X hl.1 (q_349 hT hW) (by omega) (Nat.le_of_ble_eq_true rfl) (Nat.le_of_ble_eq_true rfl) (Nat.le_of_ble_eq_true rfl) (Nat.le_of_ble_eq_true rfl) dJx4a65c_grow_92f84_49 ?_
    rw [show (max 10 1 : Int) = 10 from rfl]
    refine z_newq (n := 10) hx hb hown (q_350 hT hW) (va_AO.moved hW.alike (va_AO.of (q_341 hT))) hK hR hS hA 4 rfl (by omega) (by show 0 + 1 ≤ 1; omega) (by show 0 + 10 ≤ 33; omega) dJx4a65c_grow_92f84_52 (fun q H hfr hR hS => ?_)
    have hneq : b ≠ q := hfr _ _ hb0
    have hR : zR D A (zu w (q) (.inl (tc 4, 10, .inr (.inr (.inr (.inr (fun _ => none))))))) H := hR
    have he1 : (zu w (q) (.inl (tc 4, 10, .inr (.inr (.inr (.inr (fun _ => none))))))) b = some (.inr (0, [.int (zi (mo)), .ref (dz), .int (zi (0))])) := (zu_ne hneq).trans hb0
    refine lv_dup_x1 hx hb dJx4a65c_grow_92f84_55 rfl rfl ?_
    refine z_put hx hb (q_wsJx4a65c hT hW) tyJx4a65c tyJx4a65c_ok nmJx4a65c hown hK hR hS he1 rfl 1 (by decide) (q_62 hT hW) (fun _ h => h) rfl (tyJx4a65c_ok 1 (by decide)) rfl rfl (Nat.le_of_ble_eq_true rfl) dJx4a65c_grow_92f84_56 (fun H locs hR hS => ?_)
    have hR : zR D A (zu (zu w (q) (.inl (tc 4, 10, .inr (.inr (.inr (.inr (fun _ => none))))))) (b) (.inr (0, [.int (zi (mo)), .ref (q), .int (zi (0))]))) H := hR
    have he_1 : (zu (zu w (q) (.inl (tc 4, 10, .inr (.inr (.inr (.inr (fun _ => none))))))) (b) (.inr (0, [.int (zi (mo)), .ref (q), .int (zi (0))]))) (b) = some (.inr (0, [.int (zi (mo)), .ref (q), .int (zi (0))])) := zu_eq
    exact z_aret (r := some (q)) hx hb hr (Or.inr ⟨_, rfl⟩) hlocks hS (by show 0 + 1 ≤ 1; omega) (by show 0 + 10 ≤ 33; omega) dJx4a65c_grow_92f84_59 ⟨q, rfl, hfr, hR⟩
set_option maxHeartbeats 4000000 in
set_option maxRecDepth 100000 in
theorem c_growG (l : Launch) {S : State} {D : va_G} {tc : Nat → ClassId} {A : Nat → Prop} {dz : Nat} (hZ : zB S D tc A dz) {w : zW} {b ea : Nat} {mo : Int} {cap : Nat} {el : Nat → Option Nat} (hb0 : w b = some (.inr (0, [.int (zi (mo)), .ref (ea), .int (zi ((cap : Int)))]))) (hea : w ea = some (.inl (tc 4, cap, .inr (.inr (.inr (.inr el)))))) (h0 : cap = 10 ∨ cap = 15 ∨ cap = 22) (hel : ∀ i, i < cap → ∀ y, el i = some y → ∃ ci fs, (ci = 1 ∨ ci = 2 ∨ ci = 3) ∧ w y = some (.inr (ci, fs))) : zM l S A yJx4a65c_grow_92f84 cJx4a65c_grow_92f84 4 (Option.some (Jvm.ClassFile.FieldType.array (Jvm.ClassFile.FieldType.object "java/lang/Object"))) { frames := 4, locals := 160, cells := 1, slots := 33 } [.ref (b), .int (zi (((cap : Int) + 1)))] (zR D A w) (fun v H => ∃ q : Nat, v = some (va_rf (some q)) ∧ (∀ q' e', w q' = some e' → q' ≠ q) ∧ zR D A (zu (zu w q (.inl (tc 4, (cap + cap / 2), .inr (.inr (.inr (.inr (va_cpy el (fun _ => none) 0 0 cap))))))) b (.inr (0, [.int (zi (mo)), .ref (q), .int (zi ((cap : Int)))]))) H) := by
  refine zM.mk (by decide +kernel) (Nat.le_of_ble_eq_true rfl) ?_
  intro p e s m below meth c ls X0 hR hl
  obtain ⟨hx, hb, hml, hr, hlocks, hown, hnm, hW, hpre, hA⟩ := X0
  have X : zH S A p s m c cJx4a65c_grow_92f84 4 RJx4a65c := ⟨hx, hb, hml, hown, hW, hpre, hA, hZ.2.2.1⟩
  have hT := hZ.1
  have hK := va_K.moved hW.alike hZ.2.1
  have hS : va_S A s.heap s.heap [] := va_S.rf
  have hl : lv_has ls 4 [(0, .ref (b)), (1, .int (zi (((cap : Int) + 1))))] := hl
  skip
  refine lv_aload_n hx hb dJx4a65c_grow_92f84_0 rfl (lv_at hl 0 rfl) ?_
  refine z_get hx hb (q_wsJx4a65c hT hW) hown hK hR hb0 rfl 1 (by decide) (q_62 hT hW) (fun _ h => h) rfl dJx4a65c_grow_92f84_1 ?_
  refine z_alen hx hb hK hR 4 hea rfl dJx4a65c_grow_92f84_4 ?_
  refine lv_istore_n (lv' := [(2, .int (zi ((cap : Int)))), (0, .ref (b)), (1, .int (zi (((cap : Int) + 1))))]) hx hb dJx4a65c_grow_92f84_5 rfl hl (by decide) rfl (fun ls hl => ?_)
  refine lv_iload_n hx hb dJx4a65c_grow_92f84_6 rfl (lv_at hl 0 rfl) ?_
  refine z_if_gt (a := (cap : Int)) (tgt := 20) hx hb dJx4a65c_grow_92f84_7 (by decide) (by omega) (fun h_7 => ?_) (fun h_7 => ?_)
  · skip
    refine lv_iload_n hx hb dJx4a65c_grow_92f84_20 rfl (lv_at hl 0 rfl) ?_
    refine lv_iload_n hx hb dJx4a65c_grow_92f84_21 rfl (lv_at hl 2 rfl) ?_
    refine lv_iload_n hx hb dJx4a65c_grow_92f84_22 rfl (lv_at hl 0 rfl) ?_
    refine z_isub (a := ((cap : Int) + 1)) (b := (cap : Int)) hx hb dJx4a65c_grow_92f84_23 ?_
    refine lv_iload_n hx hb dJx4a65c_grow_92f84_24 rfl (lv_at hl 0 rfl) ?_
    refine lv_iconst (v := zi (1)) hx hb dJx4a65c_grow_92f84_25 rfl ?_
    refine lv_ishr hx hb dJx4a65c_grow_92f84_26 ?_
    rw [show zi (cap : Int) >>> (zi 1 &&& 31) = zi ((cap / 2 : Nat) : Int) from by rcases h0 with rfl | rfl | rfl <;> decide]
    have hcap : (cap : Int) = 10 ∨ (cap : Int) = 15 ∨ (cap : Int) = 22 := by omega
    refine z_invS (n := 3) (c_J8_newLength_cabcc l hZ (P := zR D A w) (o := (cap : Int)) (mg := (((cap : Int) + 1) - (cap : Int))) (pg := ((cap / 2 : Nat) : Int)) (by omega)) X hS hR hl.1 (q_311 hT hW) (q_15 hT hW) (q_309 hT hW) (q_310 hT hW) (by decide +kernel) rfl ⟨Nat.le_of_ble_eq_true rfl, Nat.le_of_ble_eq_true rfl⟩ ⟨Nat.le_of_ble_eq_true rfl, Nat.le_of_ble_eq_true rfl⟩ (Nat.le_of_ble_eq_true rfl) dJx4a65c_grow_92f84_27 (fun v H locs hv hS => ?_) rfl
    obtain ⟨rfl, hR⟩ := hv
    rw [show (cap : Int) + max (((cap : Int) + 1) - (cap : Int)) ((cap / 2 : Nat) : Int) = ((cap + cap / 2 : Nat) : Int) by omega]
    refine lv_istore_n (lv' := [(3, .int (zi (((cap + cap / 2 : Nat) : Int)))), (2, .int (zi ((cap : Int)))), (0, .ref (b)), (1, .int (zi (((cap : Int) + 1))))]) hx hb dJx4a65c_grow_92f84_30 rfl hl (by decide) rfl (fun ls hl => ?_)
    refine lv_aload_n hx hb dJx4a65c_grow_92f84_31 rfl (lv_at hl 2 rfl) ?_
    refine lv_aload_n hx hb dJx4a65c_grow_92f84_32 rfl (lv_at hl 2 rfl) ?_
    refine z_get hx hb (q_wsJx4a65c hT hW) hown hK hR hb0 rfl 1 (by decide) (q_62 hT hW) (fun _ h => h) rfl dJx4a65c_grow_92f84_33 ?_
    refine lv_iload_n hx hb dJx4a65c_grow_92f84_36 rfl (lv_at hl 0 rfl) ?_
    refine z_invS (n := 2) (c_J7_copyOf_1904c l hZ hea (n := ((cap + cap / 2 : Nat) : Int)) (by omega) hel) X hS hR hl.1 (q_321 hT hW) (q_17 hT hW) (q_319 hT hW) (q_320 hT hW) (by decide +kernel) rfl ⟨Nat.le_of_ble_eq_true rfl, Nat.le_of_ble_eq_true rfl⟩ ⟨Nat.le_of_ble_eq_true rfl, Nat.le_of_ble_eq_true rfl⟩ (Nat.le_of_ble_eq_true rfl) dJx4a65c_grow_92f84_37 (fun v H locs hv hS => ?_) rfl
    obtain ⟨q, rfl, hfr, hR⟩ := hv
    have hneq : b ≠ q := hfr _ _ hb0
    have hR : zR D A (zu w (q) (.inl (tc 4, (cap + cap / 2), .inr (.inr (.inr (.inr (va_cpy el (fun _ => none) 0 0 cap))))))) H := hR
    have he1 : (zu w (q) (.inl (tc 4, (cap + cap / 2), .inr (.inr (.inr (.inr (va_cpy el (fun _ => none) 0 0 cap))))))) b = some (.inr (0, [.int (zi (mo)), .ref (ea), .int (zi ((cap : Int)))])) := (zu_ne hneq).trans hb0
    refine lv_dup_x1 hx hb dJx4a65c_grow_92f84_40 rfl rfl ?_
    refine z_put hx hb (q_wsJx4a65c hT hW) tyJx4a65c tyJx4a65c_ok nmJx4a65c hown hK hR hS he1 rfl 1 (by decide) (q_62 hT hW) (fun _ h => h) rfl (tyJx4a65c_ok 1 (by decide)) rfl rfl (Nat.le_of_ble_eq_true rfl) dJx4a65c_grow_92f84_41 (fun H locs hR hS => ?_)
    have hR : zR D A (zu (zu w (q) (.inl (tc 4, (cap + cap / 2), .inr (.inr (.inr (.inr (va_cpy el (fun _ => none) 0 0 cap))))))) (b) (.inr (0, [.int (zi (mo)), .ref (q), .int (zi ((cap : Int)))]))) H := hR
    have he_1 : (zu (zu w (q) (.inl (tc 4, (cap + cap / 2), .inr (.inr (.inr (.inr (va_cpy el (fun _ => none) 0 0 cap))))))) (b) (.inr (0, [.int (zi (mo)), .ref (q), .int (zi ((cap : Int)))]))) (b) = some (.inr (0, [.int (zi (mo)), .ref (q), .int (zi ((cap : Int)))])) := zu_eq
    exact z_aret (r := some (q)) hx hb hr (Or.inr ⟨_, rfl⟩) hlocks hS (by decide) (by decide) dJx4a65c_grow_92f84_44 ⟨q, rfl, hfr, hR⟩
  · skip
    exact absurd h_7 (by omega)
set_option maxHeartbeats 4000000 in
set_option maxRecDepth 100000 in
theorem c_grow0E (l : Launch) {S : State} {D : va_G} {tc : Nat → ClassId} {A : Nat → Prop} {dz : Nat} (hZ : zB S D tc A dz) {w : zW} {b : Nat} {mo : Int} (hb0 : w b = some (.inr (0, [.int (zi (mo)), .ref (dz), .int (zi (0))]))) : zM l S A yJx4a65c_grow_d5877 cJx4a65c_grow_d5877 1 (Option.some (Jvm.ClassFile.FieldType.array (Jvm.ClassFile.FieldType.object "java/lang/Object"))) { frames := 5, locals := 190, cells := 1, slots := 33 } [.ref (b)] (zR D A w) (fun v H => ∃ q : Nat, v = some (va_rf (some q)) ∧ (∀ q' e', w q' = some e' → q' ≠ q) ∧ zR D A (zu (zu w q (.inl (tc 4, 10, .inr (.inr (.inr (.inr (fun _ => none))))))) b (.inr (0, [.int (zi (mo)), .ref (q), .int (zi (0))]))) H) := by
  refine zM.mk (by decide +kernel) (Nat.le_of_ble_eq_true rfl) ?_
  intro p e s m below meth c ls X0 hR hl
  obtain ⟨hx, hb, hml, hr, hlocks, hown, hnm, hW, hpre, hA⟩ := X0
  have X : zH S A p s m c cJx4a65c_grow_d5877 1 RJx4a65c := ⟨hx, hb, hml, hown, hW, hpre, hA, hZ.2.2.1⟩
  have hT := hZ.1
  have hK := va_K.moved hW.alike hZ.2.1
  have hS : va_S A s.heap s.heap [] := va_S.rf
  have hl : lv_has ls 1 [(0, .ref (b))] := hl
  skip
  refine lv_aload_n hx hb dJx4a65c_grow_d5877_0 rfl (lv_at hl 0 rfl) ?_
  refine lv_aload_n hx hb dJx4a65c_grow_d5877_1 rfl (lv_at hl 0 rfl) ?_
  refine z_get hx hb (q_wsJx4a65c hT hW) hown hK hR hb0 rfl 2 (by decide) (q_63 hT hW) (fun _ h => h) rfl dJx4a65c_grow_d5877_2 ?_
  refine lv_iconst (v := zi (1)) hx hb dJx4a65c_grow_d5877_5 rfl ?_
  refine z_iadd (a := 0) (b := 1) hx hb dJx4a65c_grow_d5877_6 ?_
  rw [show (0 + 1 : Int) = 1 from rfl]
  refine z_invV (n := 1) (C := RJx4a65c) (c_growE l hZ hb0) X hS hR hl.1 (q_308 hT hW) (q_6 hT hW) (q_305 hT hW) (q_307 hT hW) (q_p3 hT hW) (z_recv hK hR hb0 rfl) (by decide +kernel) rfl ⟨Nat.le_of_ble_eq_true rfl, Nat.le_of_ble_eq_true rfl⟩ ⟨Nat.le_of_ble_eq_true rfl, Nat.le_of_ble_eq_true rfl⟩ (Nat.le_of_ble_eq_true rfl) dJx4a65c_grow_d5877_7 (fun v H locs hv hS => ?_) rfl
  obtain ⟨q, rfl, hfr, hR⟩ := hv
  exact z_aret (r := some (q)) hx hb hr (Or.inr ⟨_, rfl⟩) hlocks hS (by decide) (by decide) dJx4a65c_grow_d5877_10 ⟨q, rfl, hfr, hR⟩
set_option maxHeartbeats 4000000 in
set_option maxRecDepth 100000 in
theorem c_grow0G (l : Launch) {S : State} {D : va_G} {tc : Nat → ClassId} {A : Nat → Prop} {dz : Nat} (hZ : zB S D tc A dz) {w : zW} {b ea : Nat} {mo : Int} {cap : Nat} {el : Nat → Option Nat} (hb0 : w b = some (.inr (0, [.int (zi (mo)), .ref (ea), .int (zi ((cap : Int)))]))) (hea : w ea = some (.inl (tc 4, cap, .inr (.inr (.inr (.inr el)))))) (h0 : cap = 10 ∨ cap = 15 ∨ cap = 22) (hel : ∀ i, i < cap → ∀ y, el i = some y → ∃ ci fs, (ci = 1 ∨ ci = 2 ∨ ci = 3) ∧ w y = some (.inr (ci, fs))) : zM l S A yJx4a65c_grow_d5877 cJx4a65c_grow_d5877 1 (Option.some (Jvm.ClassFile.FieldType.array (Jvm.ClassFile.FieldType.object "java/lang/Object"))) { frames := 5, locals := 190, cells := 1, slots := 33 } [.ref (b)] (zR D A w) (fun v H => ∃ q : Nat, v = some (va_rf (some q)) ∧ (∀ q' e', w q' = some e' → q' ≠ q) ∧ zR D A (zu (zu w q (.inl (tc 4, (cap + cap / 2), .inr (.inr (.inr (.inr (va_cpy el (fun _ => none) 0 0 cap))))))) b (.inr (0, [.int (zi (mo)), .ref (q), .int (zi ((cap : Int)))]))) H) := by
  refine zM.mk (by decide +kernel) (Nat.le_of_ble_eq_true rfl) ?_
  intro p e s m below meth c ls X0 hR hl
  obtain ⟨hx, hb, hml, hr, hlocks, hown, hnm, hW, hpre, hA⟩ := X0
  have X : zH S A p s m c cJx4a65c_grow_d5877 1 RJx4a65c := ⟨hx, hb, hml, hown, hW, hpre, hA, hZ.2.2.1⟩
  have hT := hZ.1
  have hK := va_K.moved hW.alike hZ.2.1
  have hS : va_S A s.heap s.heap [] := va_S.rf
  have hl : lv_has ls 1 [(0, .ref (b))] := hl
  skip
  refine lv_aload_n hx hb dJx4a65c_grow_d5877_0 rfl (lv_at hl 0 rfl) ?_
  refine lv_aload_n hx hb dJx4a65c_grow_d5877_1 rfl (lv_at hl 0 rfl) ?_
  refine z_get hx hb (q_wsJx4a65c hT hW) hown hK hR hb0 rfl 2 (by decide) (q_63 hT hW) (fun _ h => h) rfl dJx4a65c_grow_d5877_2 ?_
  refine lv_iconst (v := zi (1)) hx hb dJx4a65c_grow_d5877_5 rfl ?_
  refine z_iadd (a := (cap : Int)) (b := 1) hx hb dJx4a65c_grow_d5877_6 ?_
  refine z_invV (n := 1) (C := RJx4a65c) (c_growG l hZ hb0 hea h0 hel) X hS hR hl.1 (q_308 hT hW) (q_6 hT hW) (q_305 hT hW) (q_307 hT hW) (q_p3 hT hW) (z_recv hK hR hb0 rfl) (by decide +kernel) rfl ⟨Nat.le_of_ble_eq_true rfl, Nat.le_of_ble_eq_true rfl⟩ ⟨Nat.le_of_ble_eq_true rfl, Nat.le_of_ble_eq_true rfl⟩ (Nat.le_of_ble_eq_true rfl) dJx4a65c_grow_d5877_7 (fun v H locs hv hS => ?_) rfl
  obtain ⟨q, rfl, hfr, hR⟩ := hv
  exact z_aret (r := some (q)) hx hb hr (Or.inr ⟨_, rfl⟩) hlocks hS (by decide) (by decide) dJx4a65c_grow_d5877_10 ⟨q, rfl, hfr, hR⟩
set_option maxHeartbeats 4000000 in
set_option maxRecDepth 100000 in
theorem c_add3R (l : Launch) {S : State} {D : va_G} {tc : Nat → ClassId} {A : Nat → Prop} {dz : Nat} (hZ : zB S D tc A dz) {w : zW} {b ea : Nat} {mo : Int} {n cap : Nat} {el : Nat → Option Nat} (hb0 : w b = some (.inr (0, [.int (zi (mo)), .ref (ea), .int (zi ((n : Int)))]))) (hea : w ea = some (.inl (tc 4, cap, .inr (.inr (.inr (.inr el)))))) (h0 : n < cap ∧ cap ≤ 33) {eo cio : Nat} {fo : List Value} (heo : w eo = some (.inr (cio, fo))) (hcio : cio = 1 ∨ cio = 2 ∨ cio = 3) : zM l S A yJx4a65c_add_72be8 cJx4a65c_add_72be8 4 (Option.none : Option Jvm.ClassFile.FieldType) { frames := 1, locals := 20, cells := 0, slots := 0 } [.ref (b), .ref (eo), .ref (ea), .int (zi ((n : Int)))] (zR D A w) (fun v H => v = none ∧ zR D A (zu (zu w ea (.inl (tc 4, cap, .inr (.inr (.inr (.inr (va_up el n (some eo)))))))) b (.inr (0, [.int (zi (mo)), .ref (ea), .int (zi ((n : Int) + 1))]))) H) := by
  refine zM.mk (by decide +kernel) (Nat.le_of_ble_eq_true rfl) ?_
  intro p e s m below meth c ls X0 hR hl
  obtain ⟨hx, hb, hml, hr, hlocks, hown, hnm, hW, hpre, hA⟩ := X0
  have X : zH S A p s m c cJx4a65c_add_72be8 4 RJx4a65c := ⟨hx, hb, hml, hown, hW, hpre, hA, hZ.2.2.1⟩
  have hT := hZ.1
  have hK := va_K.moved hW.alike hZ.2.1
  have hS : va_S A s.heap s.heap [] := va_S.rf
  have hl : lv_has ls 4 [(0, .ref (b)), (1, .ref (eo)), (2, .ref (ea)), (3, .int (zi ((n : Int))))] := hl
  skip
  refine lv_iload_n hx hb dJx4a65c_add_72be8_0 rfl (lv_at hl 3 rfl) ?_
  refine lv_aload_n hx hb dJx4a65c_add_72be8_1 rfl (lv_at hl 2 rfl) ?_
  refine z_alen hx hb hK hR 4 hea rfl dJx4a65c_add_72be8_2 ?_
  refine z_icmp_ne (a := (n : Int)) (b := (cap : Int)) (tgt := 11) hx hb dJx4a65c_add_72be8_3 (by decide) (by omega) (fun h_3 => ?_) (fun h_3 => ?_)
  · skip
    refine lv_aload_n hx hb dJx4a65c_add_72be8_11 rfl (lv_at hl 2 rfl) ?_
    refine lv_iload_n hx hb dJx4a65c_add_72be8_12 rfl (lv_at hl 3 rfl) ?_
    refine lv_aload_n hx hb dJx4a65c_add_72be8_13 rfl (lv_at hl 1 rfl) ?_
    have hcs : ∃ (C : String) (T : u_T) (N : Nat), vwCl[cio]? = some (C, T, N) ∧ (Cond.castable C "java/lang/Object").before ([.ref (b), .ref (eo), .ref (ea), .int (zi ((n : Int)))] : List Value).toArray s = true := by
      rcases hcio with rfl | rfl | rfl
      · exact ⟨_, _, _, rfl, va_Nw.use rfl (q_856 hT hW)⟩
      · exact ⟨_, _, _, rfl, va_Nw.use rfl (q_857 hT hW)⟩
      · exact ⟨_, _, _, rfl, va_Nw.use rfl (q_858 hT hW)⟩
    obtain ⟨C9, T9, N9, hc9, hca9⟩ := hcs
    refine z_aast (i := (n : Int)) hx hb hK hR hS 4 hea rfl heo hc9 hca9 (by omega) dJx4a65c_add_72be8_14 (fun H locs hR hS => ?_)
    have hbe : b ≠ ea := zne hb0 hea (by intro z; cases z)
    have hR : zR D A (zu w (ea) (.inl (tc 4, cap, .inr (.inr (.inr (.inr (va_up el n (some eo)))))))) H := hR
    have he1 : (zu w (ea) (.inl (tc 4, cap, .inr (.inr (.inr (.inr (va_up el n (some eo)))))))) b = some (.inr (0, [.int (zi (mo)), .ref (ea), .int (zi ((n : Int)))])) := (zu_ne hbe).trans hb0
    refine lv_aload_n hx hb dJx4a65c_add_72be8_15 rfl (lv_at hl 0 rfl) ?_
    refine lv_iload_n hx hb dJx4a65c_add_72be8_16 rfl (lv_at hl 3 rfl) ?_
    refine lv_iconst (v := zi (1)) hx hb dJx4a65c_add_72be8_17 rfl ?_
    refine z_iadd (a := (n : Int)) (b := 1) hx hb dJx4a65c_add_72be8_18 ?_
    refine z_put hx hb (q_wsJx4a65c hT hW) tyJx4a65c tyJx4a65c_ok nmJx4a65c hown hK hR hS he1 rfl 2 (by decide) (q_63 hT hW) (fun _ h => h) rfl (tyJx4a65c_ok 2 (by decide)) rfl rfl (Nat.le_of_ble_eq_true rfl) dJx4a65c_add_72be8_19 (fun H locs hR hS => ?_)
    have hR : zR D A (zu (zu w (ea) (.inl (tc 4, cap, .inr (.inr (.inr (.inr (va_up el n (some eo)))))))) (b) (.inr (0, [.int (zi (mo)), .ref (ea), .int (zi (((n : Int) + 1)))]))) H := hR
    have he_1 : (zu (zu w (ea) (.inl (tc 4, cap, .inr (.inr (.inr (.inr (va_up el n (some eo)))))))) (b) (.inr (0, [.int (zi (mo)), .ref (ea), .int (zi (((n : Int) + 1)))]))) (b) = some (.inr (0, [.int (zi (mo)), .ref (ea), .int (zi (((n : Int) + 1)))])) := zu_eq
    exact z_vret hx hb hr hlocks hS (by decide) (by decide) dJx4a65c_add_72be8_22 ⟨rfl, hR⟩
  · skip
    exact absurd h_3 (by omega)
set_option maxHeartbeats 4000000 in
set_option maxRecDepth 100000 in
theorem c_addR (l : Launch) {S : State} {D : va_G} {tc : Nat → ClassId} {A : Nat → Prop} {dz : Nat} (hZ : zB S D tc A dz) {w : zW} {b ea : Nat} {mo : Int} {n cap : Nat} {el : Nat → Option Nat} (hb0 : w b = some (.inr (0, [.int (zi (mo)), .ref (ea), .int (zi ((n : Int)))]))) (hea : w ea = some (.inl (tc 4, cap, .inr (.inr (.inr (.inr el)))))) (h0 : n < cap ∧ cap ≤ 33) {eo cio : Nat} {fo : List Value} (heo : w eo = some (.inr (cio, fo))) (hcio : cio = 1 ∨ cio = 2 ∨ cio = 3) : zM l S A yJx4a65c_add_9ea2d cJx4a65c_add_9ea2d 2 (Option.some Jvm.ClassFile.FieldType.boolean) { frames := 2, locals := 60, cells := 0, slots := 0 } [.ref (b), .ref (eo)] (zR D A w) (fun v H => v = some (.int (zi 1)) ∧ zR D A (zu (zu w ea (.inl (tc 4, cap, .inr (.inr (.inr (.inr (va_up el n (some eo)))))))) b (.inr (0, [.int (zi ((mo + 1))), .ref (ea), .int (zi ((n : Int) + 1))]))) H) := by
  refine zM.mk (by decide +kernel) (Nat.le_of_ble_eq_true rfl) ?_
  intro p e s m below meth c ls X0 hR hl
  obtain ⟨hx, hb, hml, hr, hlocks, hown, hnm, hW, hpre, hA⟩ := X0
  have X : zH S A p s m c cJx4a65c_add_9ea2d 2 RJx4a65c := ⟨hx, hb, hml, hown, hW, hpre, hA, hZ.2.2.1⟩
  have hT := hZ.1
  have hK := va_K.moved hW.alike hZ.2.1
  have hS : va_S A s.heap s.heap [] := va_S.rf
  have hl : lv_has ls 2 [(0, .ref (b)), (1, .ref (eo))] := hl
  skip
  refine lv_aload_n hx hb dJx4a65c_add_9ea2d_0 rfl (lv_at hl 0 rfl) ?_
  refine lv_dup hx hb dJx4a65c_add_9ea2d_1 rfl ?_
  refine z_get hx hb (q_wsJx4a65c hT hW) hown hK hR hb0 rfl 0 (by decide) (q_65 hT hW) (fun x9 h9 => u_same (args := #[]) (q_66 hT hW) x9 h9) rfl dJx4a65c_add_9ea2d_2 ?_
  refine lv_iconst (v := zi (1)) hx hb dJx4a65c_add_9ea2d_5 rfl ?_
  refine z_iadd (a := mo) (b := 1) hx hb dJx4a65c_add_9ea2d_6 ?_
  refine z_put hx hb (q_wsJx4a65c hT hW) tyJx4a65c tyJx4a65c_ok nmJx4a65c hown hK hR hS hb0 rfl 0 (by decide) (q_65 hT hW) (fun x9 h9 => u_same (args := #[]) (q_66 hT hW) x9 h9) rfl (tyJx4a65c_ok 0 (by decide)) rfl rfl (Nat.le_of_ble_eq_true rfl) dJx4a65c_add_9ea2d_7 (fun H locs hR hS => ?_)
  have hR : zR D A (zu w (b) (.inr (0, [.int (zi ((mo + 1))), .ref (ea), .int (zi ((n : Int)))]))) H := hR
  have he_1 : (zu w (b) (.inr (0, [.int (zi ((mo + 1))), .ref (ea), .int (zi ((n : Int)))]))) (b) = some (.inr (0, [.int (zi ((mo + 1))), .ref (ea), .int (zi ((n : Int)))])) := zu_eq
  refine lv_aload_n hx hb dJx4a65c_add_9ea2d_10 rfl (lv_at hl 0 rfl) ?_
  refine lv_aload_n hx hb dJx4a65c_add_9ea2d_11 rfl (lv_at hl 1 rfl) ?_
  refine lv_aload_n hx hb dJx4a65c_add_9ea2d_12 rfl (lv_at hl 0 rfl) ?_
  refine z_get hx hb (q_wsJx4a65c hT hW) hown hK hR he_1 rfl 1 (by decide) (q_62 hT hW) (fun _ h => h) rfl dJx4a65c_add_9ea2d_13 ?_
  refine lv_aload_n hx hb dJx4a65c_add_9ea2d_16 rfl (lv_at hl 0 rfl) ?_
  refine z_get hx hb (q_wsJx4a65c hT hW) hown hK hR he_1 rfl 2 (by decide) (q_63 hT hW) (fun _ h => h) rfl dJx4a65c_add_9ea2d_17 ?_
  have hbo : eo ≠ b := zne heo hb0 (by rcases hcio with rfl | rfl | rfl <;> (intro z; cases z))
  have g3 : (zu w b (.inr (0, [.int (zi ((mo + 1))), .ref (ea), .int (zi ((n : Int)))]))) eo = some (.inr (cio, fo)) := (zu_ne hbo).trans heo
  have hbe : ea ≠ b := zne hea hb0 (by intro z; cases z)
  have g2 : (zu w b (.inr (0, [.int (zi ((mo + 1))), .ref (ea), .int (zi ((n : Int)))]))) ea = some (.inl (tc 4, cap, .inr (.inr (.inr (.inr el))))) := (zu_ne hbe).trans hea
  refine z_invV (n := 3) (C := RJx4a65c) (c_add3R l hZ he_1 g2 h0 g3 hcio) X hS hR hl.1 (q_300 hT hW) (q_6 hT hW) (q_297 hT hW) (q_299 hT hW) (q_p1 hT hW) (z_recv hK hR he_1 rfl) (by decide +kernel) rfl ⟨Nat.le_of_ble_eq_true rfl, Nat.le_of_ble_eq_true rfl⟩ ⟨Nat.le_of_ble_eq_true rfl, Nat.le_of_ble_eq_true rfl⟩ (Nat.le_of_ble_eq_true rfl) dJx4a65c_add_9ea2d_20 (fun v H locs hv hS => ?_) rfl
  obtain ⟨rfl, hR⟩ := hv
  have hsw : zu (zu (zu w b (.inr (0, [.int (zi ((mo + 1))), .ref (ea), .int (zi ((n : Int)))]))) ea (.inl (tc 4, cap, .inr (.inr (.inr (.inr (va_up el n (some eo)))))))) b (.inr (0, [.int (zi ((mo + 1))), .ref (ea), .int (zi ((n : Int) + 1))])) = zu (zu w ea (.inl (tc 4, cap, .inr (.inr (.inr (.inr (va_up el n (some eo)))))))) b (.inr (0, [.int (zi ((mo + 1))), .ref (ea), .int (zi ((n : Int) + 1))])) := by
    funext x
    unfold zu
    by_cases h1 : x = b
    · rw [if_pos h1, if_pos h1]
    · rw [if_neg h1, if_neg h1, if_neg h1]
  rw [hsw] at hR
  refine lv_iconst (v := zi (1)) hx hb dJx4a65c_add_9ea2d_23 rfl ?_
  exact z_zret hx hb hr rfl hlocks hS (by decide) (by decide) dJx4a65c_add_9ea2d_24 ⟨rfl, hR⟩
set_option maxHeartbeats 4000000 in
set_option maxRecDepth 100000 in
theorem c_add3E (l : Launch) {S : State} {D : va_G} {tc : Nat → ClassId} {A : Nat → Prop} {dz : Nat} (hZ : zB S D tc A dz) {w : zW} {b : Nat} {mo : Int} (hb0 : w b = some (.inr (0, [.int (zi (mo)), .ref (dz), .int (zi (0))]))) {eo cio : Nat} {fo : List Value} (heo : w eo = some (.inr (cio, fo))) (hcio : cio = 1 ∨ cio = 2 ∨ cio = 3) : zM l S A yJx4a65c_add_72be8 cJx4a65c_add_72be8 4 (Option.none : Option Jvm.ClassFile.FieldType) { frames := 6, locals := 220, cells := 1, slots := 33 } [.ref (b), .ref (eo), .ref (dz), .int (zi (0))] (zR D A w) (fun v H => v = none ∧ ∃ q : Nat, (∀ q' e', w q' = some e' → q' ≠ q) ∧ zR D A (zu (zu w q (.inl (tc 4, 10, .inr (.inr (.inr (.inr (va_up (fun _ => none) 0 (some eo)))))))) b (.inr (0, [.int (zi (mo)), .ref (q), .int (zi (0 + 1))]))) H) := by
  refine zM.mk (by decide +kernel) (Nat.le_of_ble_eq_true rfl) ?_
  intro p e s m below meth c ls X0 hR hl
  obtain ⟨hx, hb, hml, hr, hlocks, hown, hnm, hW, hpre, hA⟩ := X0
  have X : zH S A p s m c cJx4a65c_add_72be8 4 RJx4a65c := ⟨hx, hb, hml, hown, hW, hpre, hA, hZ.2.2.1⟩
  have hT := hZ.1
  have hK := va_K.moved hW.alike hZ.2.1
  have hS : va_S A s.heap s.heap [] := va_S.rf
  have hl : lv_has ls 4 [(0, .ref (b)), (1, .ref (eo)), (2, .ref (dz)), (3, .int (zi (0)))] := hl
  skip
  refine lv_iload_n hx hb dJx4a65c_add_72be8_0 rfl (lv_at hl 3 rfl) ?_
  refine lv_aload_n hx hb dJx4a65c_add_72be8_1 rfl (lv_at hl 2 rfl) ?_
  refine va_tlen hx hb (hZ.empty hW hpre) hS (v := zi 0) rfl dJx4a65c_add_72be8_2 ?_
  refine z_icmp_ne (a := 0) (b := 0) (tgt := 11) hx hb dJx4a65c_add_72be8_3 (by decide) (by omega) (fun h_3 => ?_) (fun h_3 => ?_)
  · skip
    exact absurd rfl h_3
  · skip
    refine lv_aload_n hx hb dJx4a65c_add_72be8_6 rfl (lv_at hl 0 rfl) ?_
    refine z_invV (n := 0) (C := RJx4a65c) (c_grow0E l hZ hb0) X hS hR hl.1 (q_304 hT hW) (q_6 hT hW) (q_301 hT hW) (q_303 hT hW) (q_p2 hT hW) (z_recv hK hR hb0 rfl) (by decide +kernel) rfl ⟨Nat.le_of_ble_eq_true rfl, Nat.le_of_ble_eq_true rfl⟩ ⟨Nat.le_of_ble_eq_true rfl, Nat.le_of_ble_eq_true rfl⟩ (Nat.le_of_ble_eq_true rfl) dJx4a65c_add_72be8_7 (fun v H locs hv hS => ?_) rfl
    obtain ⟨q, rfl, hfr, hR⟩ := hv
    have hneq : b ≠ q := hfr _ _ hb0
    have he1 : (zu (zu w (q) (.inl (tc 4, 10, .inr (.inr (.inr (.inr (fun _ => none))))))) (b) (.inr (0, [.int (zi (mo)), .ref (q), .int (zi (0))]))) b = some (.inr (0, [.int (zi (mo)), .ref (q), .int (zi (0))])) := zu_eq
    have he2 : (zu (zu w (q) (.inl (tc 4, 10, .inr (.inr (.inr (.inr (fun _ => none))))))) (b) (.inr (0, [.int (zi (mo)), .ref (q), .int (zi (0))]))) q = some (.inl (tc 4, 10, .inr (.inr (.inr (.inr (fun _ => none)))))) := (zu_ne (Ne.symm hneq)).trans zu_eq
    have hbo : eo ≠ b := zne heo hb0 (by rcases hcio with rfl | rfl | rfl <;> (intro z; cases z))
    have he3 : (zu (zu w (q) (.inl (tc 4, 10, .inr (.inr (.inr (.inr (fun _ => none))))))) (b) (.inr (0, [.int (zi (mo)), .ref (q), .int (zi (0))]))) eo = some (.inr (cio, fo)) := (zu_ne hbo).trans ((zu_ne (hfr _ _ heo)).trans heo)
    refine lv_astore_n (lv' := [(2, .ref (q)), (0, .ref (b)), (1, .ref (eo)), (3, .int (zi (0)))]) hx hb dJx4a65c_add_72be8_10 rfl hl (by decide) rfl (fun ls hl => ?_)
    refine lv_aload_n hx hb dJx4a65c_add_72be8_11 rfl (lv_at hl 0 rfl) ?_
    refine lv_iload_n hx hb dJx4a65c_add_72be8_12 rfl (lv_at hl 3 rfl) ?_
    refine lv_aload_n hx hb dJx4a65c_add_72be8_13 rfl (lv_at hl 2 rfl) ?_
    have hcs : ∃ (C : String) (T : u_T) (N : Nat), vwCl[cio]? = some (C, T, N) ∧ (Cond.castable C "java/lang/Object").before ([.ref (b), .ref (eo), .ref (dz), .int (zi (0))] : List Value).toArray s = true := by
      rcases hcio with rfl | rfl | rfl
      · exact ⟨_, _, _, rfl, va_Nw.use rfl (q_856 hT hW)⟩
      · exact ⟨_, _, _, rfl, va_Nw.use rfl (q_857 hT hW)⟩
      · exact ⟨_, _, _, rfl, va_Nw.use rfl (q_858 hT hW)⟩
    obtain ⟨C9, T9, N9, hc9, hca9⟩ := hcs
    refine z_aast (i := 0) hx hb hK hR hS 4 he2 rfl he3 hc9 hca9 (by omega) dJx4a65c_add_72be8_14 (fun H locs hR hS => ?_)
    have hsw : zu (zu (zu w q (.inl (tc 4, 10, .inr (.inr (.inr (.inr (fun _ => none))))))) b (.inr (0, [.int (zi (mo)), .ref (q), .int (zi (0))]))) q (.inl (tc 4, 10, .inr (.inr (.inr (.inr (va_up (fun _ => none) 0 (some eo))))))) = zu (zu w q (.inl (tc 4, 10, .inr (.inr (.inr (.inr (va_up (fun _ => none) 0 (some eo)))))))) b (.inr (0, [.int (zi (mo)), .ref (q), .int (zi (0))])) := by
      funext x
      unfold zu
      by_cases h1 : x = q
      · rw [if_pos h1, if_neg (by rw [h1]; exact Ne.symm hneq), if_pos h1]
      · rw [if_neg h1, if_neg h1, if_neg h1]
    have hR : zR D A (zu (zu (zu w q (.inl (tc 4, 10, .inr (.inr (.inr (.inr (fun _ => none))))))) b (.inr (0, [.int (zi (mo)), .ref (q), .int (zi (0))]))) q (.inl (tc 4, 10, .inr (.inr (.inr (.inr (va_up (fun _ => none) 0 (some eo)))))))) H := hR
    rw [hsw] at hR
    have he4 : (zu (zu w (q) (.inl (tc 4, 10, .inr (.inr (.inr (.inr (va_up (fun _ => none) 0 (some eo)))))))) (b) (.inr (0, [.int (zi (mo)), .ref (q), .int (zi (0))]))) b = some (.inr (0, [.int (zi (mo)), .ref (q), .int (zi (0))])) := zu_eq
    refine lv_aload_n hx hb dJx4a65c_add_72be8_15 rfl (lv_at hl 1 rfl) ?_
    refine lv_iload_n hx hb dJx4a65c_add_72be8_16 rfl (lv_at hl 3 rfl) ?_
    refine lv_iconst (v := zi (1)) hx hb dJx4a65c_add_72be8_17 rfl ?_
    refine z_iadd (a := 0) (b := 1) hx hb dJx4a65c_add_72be8_18 ?_
    refine z_put hx hb (q_wsJx4a65c hT hW) tyJx4a65c tyJx4a65c_ok nmJx4a65c hown hK hR hS he4 rfl 2 (by decide) (q_63 hT hW) (fun _ h => h) rfl (tyJx4a65c_ok 2 (by decide)) rfl rfl (Nat.le_of_ble_eq_true rfl) dJx4a65c_add_72be8_19 (fun H locs hR hS => ?_)
    rw [zu_zu] at hR
    have hR : zR D A (zu (zu w (q) (.inl (tc 4, 10, .inr (.inr (.inr (.inr (va_up (fun _ => none) 0 (some eo)))))))) (b) (.inr (0, [.int (zi (mo)), .ref (q), .int (zi ((0 + 1)))]))) H := hR
    have he_1 : (zu (zu w (q) (.inl (tc 4, 10, .inr (.inr (.inr (.inr (va_up (fun _ => none) 0 (some eo)))))))) (b) (.inr (0, [.int (zi (mo)), .ref (q), .int (zi ((0 + 1)))]))) (b) = some (.inr (0, [.int (zi (mo)), .ref (q), .int (zi ((0 + 1)))])) := zu_eq
    exact z_vret hx hb hr hlocks hS (by decide) (by decide) dJx4a65c_add_72be8_22 ⟨rfl, q, hfr, hR⟩
set_option maxHeartbeats 4000000 in
set_option maxRecDepth 100000 in
theorem c_addE (l : Launch) {S : State} {D : va_G} {tc : Nat → ClassId} {A : Nat → Prop} {dz : Nat} (hZ : zB S D tc A dz) {w : zW} {b : Nat} {mo : Int} (hb0 : w b = some (.inr (0, [.int (zi (mo)), .ref (dz), .int (zi (0))]))) {eo cio : Nat} {fo : List Value} (heo : w eo = some (.inr (cio, fo))) (hcio : cio = 1 ∨ cio = 2 ∨ cio = 3) : zM l S A yJx4a65c_add_9ea2d cJx4a65c_add_9ea2d 2 (Option.some Jvm.ClassFile.FieldType.boolean) { frames := 7, locals := 260, cells := 1, slots := 33 } [.ref (b), .ref (eo)] (zR D A w) (fun v H => v = some (.int (zi 1)) ∧ ∃ q : Nat, (∀ q' e', w q' = some e' → q' ≠ q) ∧ zR D A (zu (zu w q (.inl (tc 4, 10, .inr (.inr (.inr (.inr (va_up (fun _ => none) 0 (some eo)))))))) b (.inr (0, [.int (zi ((mo + 1))), .ref (q), .int (zi (0 + 1))]))) H) := by
  refine zM.mk (by decide +kernel) (Nat.le_of_ble_eq_true rfl) ?_
  intro p e s m below meth c ls X0 hR hl
  obtain ⟨hx, hb, hml, hr, hlocks, hown, hnm, hW, hpre, hA⟩ := X0
  have X : zH S A p s m c cJx4a65c_add_9ea2d 2 RJx4a65c := ⟨hx, hb, hml, hown, hW, hpre, hA, hZ.2.2.1⟩
  have hT := hZ.1
  have hK := va_K.moved hW.alike hZ.2.1
  have hS : va_S A s.heap s.heap [] := va_S.rf
  have hl : lv_has ls 2 [(0, .ref (b)), (1, .ref (eo))] := hl
  skip
  refine lv_aload_n hx hb dJx4a65c_add_9ea2d_0 rfl (lv_at hl 0 rfl) ?_
  refine lv_dup hx hb dJx4a65c_add_9ea2d_1 rfl ?_
  refine z_get hx hb (q_wsJx4a65c hT hW) hown hK hR hb0 rfl 0 (by decide) (q_65 hT hW) (fun x9 h9 => u_same (args := #[]) (q_66 hT hW) x9 h9) rfl dJx4a65c_add_9ea2d_2 ?_
  refine lv_iconst (v := zi (1)) hx hb dJx4a65c_add_9ea2d_5 rfl ?_
  refine z_iadd (a := mo) (b := 1) hx hb dJx4a65c_add_9ea2d_6 ?_
  refine z_put hx hb (q_wsJx4a65c hT hW) tyJx4a65c tyJx4a65c_ok nmJx4a65c hown hK hR hS hb0 rfl 0 (by decide) (q_65 hT hW) (fun x9 h9 => u_same (args := #[]) (q_66 hT hW) x9 h9) rfl (tyJx4a65c_ok 0 (by decide)) rfl rfl (Nat.le_of_ble_eq_true rfl) dJx4a65c_add_9ea2d_7 (fun H locs hR hS => ?_)
  have hR : zR D A (zu w (b) (.inr (0, [.int (zi ((mo + 1))), .ref (dz), .int (zi (0))]))) H := hR
  have he_1 : (zu w (b) (.inr (0, [.int (zi ((mo + 1))), .ref (dz), .int (zi (0))]))) (b) = some (.inr (0, [.int (zi ((mo + 1))), .ref (dz), .int (zi (0))])) := zu_eq
  refine lv_aload_n hx hb dJx4a65c_add_9ea2d_10 rfl (lv_at hl 0 rfl) ?_
  refine lv_aload_n hx hb dJx4a65c_add_9ea2d_11 rfl (lv_at hl 1 rfl) ?_
  refine lv_aload_n hx hb dJx4a65c_add_9ea2d_12 rfl (lv_at hl 0 rfl) ?_
  refine z_get hx hb (q_wsJx4a65c hT hW) hown hK hR he_1 rfl 1 (by decide) (q_62 hT hW) (fun _ h => h) rfl dJx4a65c_add_9ea2d_13 ?_
  refine lv_aload_n hx hb dJx4a65c_add_9ea2d_16 rfl (lv_at hl 0 rfl) ?_
  refine z_get hx hb (q_wsJx4a65c hT hW) hown hK hR he_1 rfl 2 (by decide) (q_63 hT hW) (fun _ h => h) rfl dJx4a65c_add_9ea2d_17 ?_
  have hbo : eo ≠ b := zne heo hb0 (by rcases hcio with rfl | rfl | rfl <;> (intro z; cases z))
  have g3 : (zu w b (.inr (0, [.int (zi ((mo + 1))), .ref (dz), .int (zi (0))]))) eo = some (.inr (cio, fo)) := (zu_ne hbo).trans heo
  refine z_invV (n := 3) (C := RJx4a65c) (c_add3E l hZ he_1 g3 hcio) X hS hR hl.1 (q_300 hT hW) (q_6 hT hW) (q_297 hT hW) (q_299 hT hW) (q_p1 hT hW) (z_recv hK hR he_1 rfl) (by decide +kernel) rfl ⟨Nat.le_of_ble_eq_true rfl, Nat.le_of_ble_eq_true rfl⟩ ⟨Nat.le_of_ble_eq_true rfl, Nat.le_of_ble_eq_true rfl⟩ (Nat.le_of_ble_eq_true rfl) dJx4a65c_add_9ea2d_20 (fun v H locs hv hS => ?_) rfl
  obtain ⟨rfl, q, hfr, hR⟩ := hv
  have hsw : zu (zu (zu w b (.inr (0, [.int (zi ((mo + 1))), .ref (dz), .int (zi (0))]))) q (.inl (tc 4, 10, .inr (.inr (.inr (.inr (va_up (fun _ => none) 0 (some eo)))))))) b (.inr (0, [.int (zi ((mo + 1))), .ref (q), .int (zi (0 + 1))])) = zu (zu w q (.inl (tc 4, 10, .inr (.inr (.inr (.inr (va_up (fun _ => none) 0 (some eo)))))))) b (.inr (0, [.int (zi ((mo + 1))), .ref (q), .int (zi (0 + 1))])) := by
    funext x
    unfold zu
    by_cases h1 : x = b
    · rw [if_pos h1, if_pos h1]
    · rw [if_neg h1, if_neg h1, if_neg h1]
  rw [hsw] at hR
  have hfr : ∀ q' e', w q' = some e' → q' ≠ q := by
    intro q1 e1 h1
    by_cases h2 : q1 = b
    · subst h2; exact hfr _ _ zu_eq
    · exact hfr q1 e1 ((zu_ne h2).trans h1)
  refine lv_iconst (v := zi (1)) hx hb dJx4a65c_add_9ea2d_23 rfl ?_
  exact z_zret hx hb hr rfl hlocks hS (by decide) (by decide) dJx4a65c_add_9ea2d_24 ⟨rfl, q, hfr, hR⟩
set_option maxHeartbeats 4000000 in
set_option maxRecDepth 100000 in
theorem c_add3G (l : Launch) {S : State} {D : va_G} {tc : Nat → ClassId} {A : Nat → Prop} {dz : Nat} (hZ : zB S D tc A dz) {w : zW} {b ea : Nat} {mo : Int} {cap : Nat} {el : Nat → Option Nat} (hb0 : w b = some (.inr (0, [.int (zi (mo)), .ref (ea), .int (zi ((cap : Int)))]))) (hea : w ea = some (.inl (tc 4, cap, .inr (.inr (.inr (.inr el)))))) (h0 : cap = 10 ∨ cap = 15 ∨ cap = 22) (hel : ∀ i, i < cap → ∀ y, el i = some y → ∃ ci fs, (ci = 1 ∨ ci = 2 ∨ ci = 3) ∧ w y = some (.inr (ci, fs))) {eo cio : Nat} {fo : List Value} (heo : w eo = some (.inr (cio, fo))) (hcio : cio = 1 ∨ cio = 2 ∨ cio = 3) : zM l S A yJx4a65c_add_72be8 cJx4a65c_add_72be8 4 (Option.none : Option Jvm.ClassFile.FieldType) { frames := 6, locals := 220, cells := 1, slots := 33 } [.ref (b), .ref (eo), .ref (ea), .int (zi ((cap : Int)))] (zR D A w) (fun v H => v = none ∧ ∃ q : Nat, (∀ q' e', w q' = some e' → q' ≠ q) ∧ zR D A (zu (zu w q (.inl (tc 4, (cap + cap / 2), .inr (.inr (.inr (.inr (va_up (va_cpy el (fun _ => none) 0 0 cap) cap (some eo)))))))) b (.inr (0, [.int (zi (mo)), .ref (q), .int (zi ((cap : Int) + 1))]))) H) := by
  refine zM.mk (by decide +kernel) (Nat.le_of_ble_eq_true rfl) ?_
  intro p e s m below meth c ls X0 hR hl
  obtain ⟨hx, hb, hml, hr, hlocks, hown, hnm, hW, hpre, hA⟩ := X0
  have X : zH S A p s m c cJx4a65c_add_72be8 4 RJx4a65c := ⟨hx, hb, hml, hown, hW, hpre, hA, hZ.2.2.1⟩
  have hT := hZ.1
  have hK := va_K.moved hW.alike hZ.2.1
  have hS : va_S A s.heap s.heap [] := va_S.rf
  have hl : lv_has ls 4 [(0, .ref (b)), (1, .ref (eo)), (2, .ref (ea)), (3, .int (zi ((cap : Int))))] := hl
  skip
  refine lv_iload_n hx hb dJx4a65c_add_72be8_0 rfl (lv_at hl 3 rfl) ?_
  refine lv_aload_n hx hb dJx4a65c_add_72be8_1 rfl (lv_at hl 2 rfl) ?_
  refine z_alen hx hb hK hR 4 hea rfl dJx4a65c_add_72be8_2 ?_
  refine z_icmp_ne (a := (cap : Int)) (b := (cap : Int)) (tgt := 11) hx hb dJx4a65c_add_72be8_3 (by decide) (by omega) (fun h_3 => ?_) (fun h_3 => ?_)
  · skip
    exact absurd rfl h_3
  · skip
    refine lv_aload_n hx hb dJx4a65c_add_72be8_6 rfl (lv_at hl 0 rfl) ?_
    refine z_invV (n := 0) (C := RJx4a65c) (c_grow0G l hZ hb0 hea h0 hel) X hS hR hl.1 (q_304 hT hW) (q_6 hT hW) (q_301 hT hW) (q_303 hT hW) (q_p2 hT hW) (z_recv hK hR hb0 rfl) (by decide +kernel) rfl ⟨Nat.le_of_ble_eq_true rfl, Nat.le_of_ble_eq_true rfl⟩ ⟨Nat.le_of_ble_eq_true rfl, Nat.le_of_ble_eq_true rfl⟩ (Nat.le_of_ble_eq_true rfl) dJx4a65c_add_72be8_7 (fun v H locs hv hS => ?_) rfl
    obtain ⟨q, rfl, hfr, hR⟩ := hv
    have hneq : b ≠ q := hfr _ _ hb0
    have he1 : (zu (zu w (q) (.inl (tc 4, (cap + cap / 2), .inr (.inr (.inr (.inr (va_cpy el (fun _ => none) 0 0 cap))))))) (b) (.inr (0, [.int (zi (mo)), .ref (q), .int (zi ((cap : Int)))]))) b = some (.inr (0, [.int (zi (mo)), .ref (q), .int (zi ((cap : Int)))])) := zu_eq
    have he2 : (zu (zu w (q) (.inl (tc 4, (cap + cap / 2), .inr (.inr (.inr (.inr (va_cpy el (fun _ => none) 0 0 cap))))))) (b) (.inr (0, [.int (zi (mo)), .ref (q), .int (zi ((cap : Int)))]))) q = some (.inl (tc 4, (cap + cap / 2), .inr (.inr (.inr (.inr (va_cpy el (fun _ => none) 0 0 cap)))))) := (zu_ne (Ne.symm hneq)).trans zu_eq
    have hbo : eo ≠ b := zne heo hb0 (by rcases hcio with rfl | rfl | rfl <;> (intro z; cases z))
    have he3 : (zu (zu w (q) (.inl (tc 4, (cap + cap / 2), .inr (.inr (.inr (.inr (va_cpy el (fun _ => none) 0 0 cap))))))) (b) (.inr (0, [.int (zi (mo)), .ref (q), .int (zi ((cap : Int)))]))) eo = some (.inr (cio, fo)) := (zu_ne hbo).trans ((zu_ne (hfr _ _ heo)).trans heo)
    refine lv_astore_n (lv' := [(2, .ref (q)), (0, .ref (b)), (1, .ref (eo)), (3, .int (zi ((cap : Int))))]) hx hb dJx4a65c_add_72be8_10 rfl hl (by decide) rfl (fun ls hl => ?_)
    refine lv_aload_n hx hb dJx4a65c_add_72be8_11 rfl (lv_at hl 0 rfl) ?_
    refine lv_iload_n hx hb dJx4a65c_add_72be8_12 rfl (lv_at hl 3 rfl) ?_
    refine lv_aload_n hx hb dJx4a65c_add_72be8_13 rfl (lv_at hl 2 rfl) ?_
    have hcs : ∃ (C : String) (T : u_T) (N : Nat), vwCl[cio]? = some (C, T, N) ∧ (Cond.castable C "java/lang/Object").before ([.ref (b), .ref (eo), .ref (ea), .int (zi ((cap : Int)))] : List Value).toArray s = true := by
      rcases hcio with rfl | rfl | rfl
      · exact ⟨_, _, _, rfl, va_Nw.use rfl (q_856 hT hW)⟩
      · exact ⟨_, _, _, rfl, va_Nw.use rfl (q_857 hT hW)⟩
      · exact ⟨_, _, _, rfl, va_Nw.use rfl (q_858 hT hW)⟩
    obtain ⟨C9, T9, N9, hc9, hca9⟩ := hcs
    refine z_aast (i := (cap : Int)) hx hb hK hR hS 4 he2 rfl he3 hc9 hca9 (by omega) dJx4a65c_add_72be8_14 (fun H locs hR hS => ?_)
    have hsw : zu (zu (zu w q (.inl (tc 4, (cap + cap / 2), .inr (.inr (.inr (.inr (va_cpy el (fun _ => none) 0 0 cap))))))) b (.inr (0, [.int (zi (mo)), .ref (q), .int (zi ((cap : Int)))]))) q (.inl (tc 4, (cap + cap / 2), .inr (.inr (.inr (.inr (va_up (va_cpy el (fun _ => none) 0 0 cap) cap (some eo))))))) = zu (zu w q (.inl (tc 4, (cap + cap / 2), .inr (.inr (.inr (.inr (va_up (va_cpy el (fun _ => none) 0 0 cap) cap (some eo)))))))) b (.inr (0, [.int (zi (mo)), .ref (q), .int (zi ((cap : Int)))])) := by
      funext x
      unfold zu
      by_cases h1 : x = q
      · rw [if_pos h1, if_neg (by rw [h1]; exact Ne.symm hneq), if_pos h1]
      · rw [if_neg h1, if_neg h1, if_neg h1]
    have hR : zR D A (zu (zu (zu w q (.inl (tc 4, (cap + cap / 2), .inr (.inr (.inr (.inr (va_cpy el (fun _ => none) 0 0 cap))))))) b (.inr (0, [.int (zi (mo)), .ref (q), .int (zi ((cap : Int)))]))) q (.inl (tc 4, (cap + cap / 2), .inr (.inr (.inr (.inr (va_up (va_cpy el (fun _ => none) 0 0 cap) cap (some eo)))))))) H := hR
    rw [hsw] at hR
    have he4 : (zu (zu w (q) (.inl (tc 4, (cap + cap / 2), .inr (.inr (.inr (.inr (va_up (va_cpy el (fun _ => none) 0 0 cap) cap (some eo)))))))) (b) (.inr (0, [.int (zi (mo)), .ref (q), .int (zi ((cap : Int)))]))) b = some (.inr (0, [.int (zi (mo)), .ref (q), .int (zi ((cap : Int)))])) := zu_eq
    refine lv_aload_n hx hb dJx4a65c_add_72be8_15 rfl (lv_at hl 1 rfl) ?_
    refine lv_iload_n hx hb dJx4a65c_add_72be8_16 rfl (lv_at hl 3 rfl) ?_
    refine lv_iconst (v := zi (1)) hx hb dJx4a65c_add_72be8_17 rfl ?_
    refine z_iadd (a := (cap : Int)) (b := 1) hx hb dJx4a65c_add_72be8_18 ?_
    refine z_put hx hb (q_wsJx4a65c hT hW) tyJx4a65c tyJx4a65c_ok nmJx4a65c hown hK hR hS he4 rfl 2 (by decide) (q_63 hT hW) (fun _ h => h) rfl (tyJx4a65c_ok 2 (by decide)) rfl rfl (Nat.le_of_ble_eq_true rfl) dJx4a65c_add_72be8_19 (fun H locs hR hS => ?_)
    rw [zu_zu] at hR
    have hR : zR D A (zu (zu w (q) (.inl (tc 4, (cap + cap / 2), .inr (.inr (.inr (.inr (va_up (va_cpy el (fun _ => none) 0 0 cap) cap (some eo)))))))) (b) (.inr (0, [.int (zi (mo)), .ref (q), .int (zi (((cap : Int) + 1)))]))) H := hR
    have he_1 : (zu (zu w (q) (.inl (tc 4, (cap + cap / 2), .inr (.inr (.inr (.inr (va_up (va_cpy el (fun _ => none) 0 0 cap) cap (some eo)))))))) (b) (.inr (0, [.int (zi (mo)), .ref (q), .int (zi (((cap : Int) + 1)))]))) (b) = some (.inr (0, [.int (zi (mo)), .ref (q), .int (zi (((cap : Int) + 1)))])) := zu_eq
    exact z_vret hx hb hr hlocks hS (by decide) (by decide) dJx4a65c_add_72be8_22 ⟨rfl, q, hfr, hR⟩
set_option maxHeartbeats 4000000 in
set_option maxRecDepth 100000 in
theorem c_addG (l : Launch) {S : State} {D : va_G} {tc : Nat → ClassId} {A : Nat → Prop} {dz : Nat} (hZ : zB S D tc A dz) {w : zW} {b ea : Nat} {mo : Int} {cap : Nat} {el : Nat → Option Nat} (hb0 : w b = some (.inr (0, [.int (zi (mo)), .ref (ea), .int (zi ((cap : Int)))]))) (hea : w ea = some (.inl (tc 4, cap, .inr (.inr (.inr (.inr el)))))) (h0 : cap = 10 ∨ cap = 15 ∨ cap = 22) (hel : ∀ i, i < cap → ∀ y, el i = some y → ∃ ci fs, (ci = 1 ∨ ci = 2 ∨ ci = 3) ∧ w y = some (.inr (ci, fs))) {eo cio : Nat} {fo : List Value} (heo : w eo = some (.inr (cio, fo))) (hcio : cio = 1 ∨ cio = 2 ∨ cio = 3) : zM l S A yJx4a65c_add_9ea2d cJx4a65c_add_9ea2d 2 (Option.some Jvm.ClassFile.FieldType.boolean) { frames := 7, locals := 260, cells := 1, slots := 33 } [.ref (b), .ref (eo)] (zR D A w) (fun v H => v = some (.int (zi 1)) ∧ ∃ q : Nat, (∀ q' e', w q' = some e' → q' ≠ q) ∧ zR D A (zu (zu w q (.inl (tc 4, (cap + cap / 2), .inr (.inr (.inr (.inr (va_up (va_cpy el (fun _ => none) 0 0 cap) cap (some eo)))))))) b (.inr (0, [.int (zi ((mo + 1))), .ref (q), .int (zi ((cap : Int) + 1))]))) H) := by
  refine zM.mk (by decide +kernel) (Nat.le_of_ble_eq_true rfl) ?_
  intro p e s m below meth c ls X0 hR hl
  obtain ⟨hx, hb, hml, hr, hlocks, hown, hnm, hW, hpre, hA⟩ := X0
  have X : zH S A p s m c cJx4a65c_add_9ea2d 2 RJx4a65c := ⟨hx, hb, hml, hown, hW, hpre, hA, hZ.2.2.1⟩
  have hT := hZ.1
  have hK := va_K.moved hW.alike hZ.2.1
  have hS : va_S A s.heap s.heap [] := va_S.rf
  have hl : lv_has ls 2 [(0, .ref (b)), (1, .ref (eo))] := hl
  skip
  refine lv_aload_n hx hb dJx4a65c_add_9ea2d_0 rfl (lv_at hl 0 rfl) ?_
  refine lv_dup hx hb dJx4a65c_add_9ea2d_1 rfl ?_
  refine z_get hx hb (q_wsJx4a65c hT hW) hown hK hR hb0 rfl 0 (by decide) (q_65 hT hW) (fun x9 h9 => u_same (args := #[]) (q_66 hT hW) x9 h9) rfl dJx4a65c_add_9ea2d_2 ?_
  refine lv_iconst (v := zi (1)) hx hb dJx4a65c_add_9ea2d_5 rfl ?_
  refine z_iadd (a := mo) (b := 1) hx hb dJx4a65c_add_9ea2d_6 ?_
  refine z_put hx hb (q_wsJx4a65c hT hW) tyJx4a65c tyJx4a65c_ok nmJx4a65c hown hK hR hS hb0 rfl 0 (by decide) (q_65 hT hW) (fun x9 h9 => u_same (args := #[]) (q_66 hT hW) x9 h9) rfl (tyJx4a65c_ok 0 (by decide)) rfl rfl (Nat.le_of_ble_eq_true rfl) dJx4a65c_add_9ea2d_7 (fun H locs hR hS => ?_)
  have hR : zR D A (zu w (b) (.inr (0, [.int (zi ((mo + 1))), .ref (ea), .int (zi ((cap : Int)))]))) H := hR
  have he_1 : (zu w (b) (.inr (0, [.int (zi ((mo + 1))), .ref (ea), .int (zi ((cap : Int)))]))) (b) = some (.inr (0, [.int (zi ((mo + 1))), .ref (ea), .int (zi ((cap : Int)))])) := zu_eq
  refine lv_aload_n hx hb dJx4a65c_add_9ea2d_10 rfl (lv_at hl 0 rfl) ?_
  refine lv_aload_n hx hb dJx4a65c_add_9ea2d_11 rfl (lv_at hl 1 rfl) ?_
  refine lv_aload_n hx hb dJx4a65c_add_9ea2d_12 rfl (lv_at hl 0 rfl) ?_
  refine z_get hx hb (q_wsJx4a65c hT hW) hown hK hR he_1 rfl 1 (by decide) (q_62 hT hW) (fun _ h => h) rfl dJx4a65c_add_9ea2d_13 ?_
  refine lv_aload_n hx hb dJx4a65c_add_9ea2d_16 rfl (lv_at hl 0 rfl) ?_
  refine z_get hx hb (q_wsJx4a65c hT hW) hown hK hR he_1 rfl 2 (by decide) (q_63 hT hW) (fun _ h => h) rfl dJx4a65c_add_9ea2d_17 ?_
  have hbo : eo ≠ b := zne heo hb0 (by rcases hcio with rfl | rfl | rfl <;> (intro z; cases z))
  have g3 : (zu w b (.inr (0, [.int (zi ((mo + 1))), .ref (ea), .int (zi ((cap : Int)))]))) eo = some (.inr (cio, fo)) := (zu_ne hbo).trans heo
  have hbe : ea ≠ b := zne hea hb0 (by intro z; cases z)
  have g2 : (zu w b (.inr (0, [.int (zi ((mo + 1))), .ref (ea), .int (zi ((cap : Int)))]))) ea = some (.inl (tc 4, cap, .inr (.inr (.inr (.inr el))))) := (zu_ne hbe).trans hea
  have g4 : ∀ i, i < cap → ∀ y, el i = some y → ∃ ci fs, (ci = 1 ∨ ci = 2 ∨ ci = 3) ∧ (zu w b (.inr (0, [.int (zi ((mo + 1))), .ref (ea), .int (zi ((cap : Int)))]))) y = some (.inr (ci, fs)) := by
    intro i hi y hy
    obtain ⟨ci, fs, hci, hwy⟩ := hel i hi y hy
    exact ⟨ci, fs, hci, (zu_ne (zne hwy hb0 (by rcases hci with rfl | rfl | rfl <;> (intro z; cases z)))).trans hwy⟩
  refine z_invV (n := 3) (C := RJx4a65c) (c_add3G l hZ he_1 g2 h0 g4 g3 hcio) X hS hR hl.1 (q_300 hT hW) (q_6 hT hW) (q_297 hT hW) (q_299 hT hW) (q_p1 hT hW) (z_recv hK hR he_1 rfl) (by decide +kernel) rfl ⟨Nat.le_of_ble_eq_true rfl, Nat.le_of_ble_eq_true rfl⟩ ⟨Nat.le_of_ble_eq_true rfl, Nat.le_of_ble_eq_true rfl⟩ (Nat.le_of_ble_eq_true rfl) dJx4a65c_add_9ea2d_20 (fun v H locs hv hS => ?_) rfl
  obtain ⟨rfl, q, hfr, hR⟩ := hv
  have hsw : zu (zu (zu w b (.inr (0, [.int (zi ((mo + 1))), .ref (ea), .int (zi ((cap : Int)))]))) q (.inl (tc 4, (cap + cap / 2), .inr (.inr (.inr (.inr (va_up (va_cpy el (fun _ => none) 0 0 cap) cap (some eo)))))))) b (.inr (0, [.int (zi ((mo + 1))), .ref (q), .int (zi ((cap : Int) + 1))])) = zu (zu w q (.inl (tc 4, (cap + cap / 2), .inr (.inr (.inr (.inr (va_up (va_cpy el (fun _ => none) 0 0 cap) cap (some eo)))))))) b (.inr (0, [.int (zi ((mo + 1))), .ref (q), .int (zi ((cap : Int) + 1))])) := by
    funext x
    unfold zu
    by_cases h1 : x = b
    · rw [if_pos h1, if_pos h1]
    · rw [if_neg h1, if_neg h1, if_neg h1]
  rw [hsw] at hR
  have hfr : ∀ q' e', w q' = some e' → q' ≠ q := by
    intro q1 e1 h1
    by_cases h2 : q1 = b
    · subst h2; exact hfr _ _ zu_eq
    · exact hfr q1 e1 ((zu_ne h2).trans h1)
  refine lv_iconst (v := zi (1)) hx hb dJx4a65c_add_9ea2d_23 rfl ?_
  exact z_zret hx hb hr rfl hlocks hS (by decide) (by decide) dJx4a65c_add_9ea2d_24 ⟨rfl, q, hfr, hR⟩
end
