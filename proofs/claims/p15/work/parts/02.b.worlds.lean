/-! a world as a partial map of addresses; contracts over any predicate of the heap -/
abbrev zW : Type := Nat → Option va_E
def zu (w : zW) (a : Nat) (e : va_E) : zW := fun q => if q = a then some e else w q
theorem zu_eq {w : zW} {a : Nat} {e : va_E} : zu w a e a = some e := if_pos rfl
theorem zu_ne {w : zW} {a q : Nat} {e : va_E} (h : q ≠ a) : zu w a e q = w q := if_neg h
theorem zu_zu {w : zW} {a : Nat} {e e' : va_E} : zu (zu w a e) a e' = zu w a e' := by
  funext q
  unfold zu
  by_cases h : q = a
  · simp [h]
  · simp [h]
def zR (D : va_G) (A : Nat → Prop) (w : zW) (H : Heap) : Prop := ∃ ws : va_W, va_P D vwCl ws H ∧ va_D A ws ∧ ∀ (q : Nat) (e : va_E), w q = some e → ∃ k : Nat, ws[k]? = some (q, e)
theorem zR_set {w : zW} {ws : va_W} {k a : Nat} {e0 e : va_E} (hk : ws[k]? = some (a, e0)) (hw : ∀ (q : Nat) (e : va_E), w q = some e → ∃ k : Nat, ws[k]? = some (q, e)) : ∀ (q : Nat) (e' : va_E), zu w a e q = some e' → ∃ k' : Nat, (ws.set k (a, e))[k']? = some (q, e') := by
  intro q e' h
  have hl := (List.getElem?_eq_some_iff.mp hk).1
  by_cases hq : q = a
  · subst hq
    rw [zu_eq] at h
    cases h
    exact ⟨k, List.getElem?_set_self hl⟩
  · rw [zu_ne hq] at h
    obtain ⟨k', hk'⟩ := hw q e' h
    refine ⟨k', ?_⟩
    rw [List.getElem?_set_ne]
    · exact hk'
    · intro z
      subst z
      rw [hk] at hk'
      cases hk'
      exact hq rfl
theorem zR_push {w : zW} {ws : va_W} {a : Nat} {e : va_E} (hw : ∀ (q : Nat) (e : va_E), w q = some e → ∃ k : Nat, ws[k]? = some (q, e)) : ∀ (q : Nat) (e' : va_E), zu w a e q = some e' → ∃ k' : Nat, (ws ++ [(a, e)])[k']? = some (q, e') := by
  intro q e' h
  by_cases hq : q = a
  · subst hq
    rw [zu_eq] at h
    cases h
    exact ⟨ws.length, by simp⟩
  · rw [zu_ne hq] at h
    obtain ⟨k', hk'⟩ := hw q e' h
    exact ⟨k', by rw [List.getElem?_append_left (List.getElem?_eq_some_iff.mp hk').1]; exact hk'⟩
theorem zR_fresh {A : Nat → Prop} {w : zW} {ws : va_W} {a : Nat} {e : va_E} (hw : ∀ (q : Nat) (e : va_E), w q = some e → ∃ k : Nat, ws[k]? = some (q, e)) (hD : va_D A (ws ++ [(a, e)])) : ∀ (q : Nat) (e' : va_E), w q = some e' → q ≠ a := by
  intro q e' h z
  subst z
  obtain ⟨k, hk⟩ := hw q e' h
  have hl := (List.getElem?_eq_some_iff.mp hk).1
  have h1 : (ws ++ [(q, e)])[k]? = some (q, e') := by rw [List.getElem?_append_left hl]; exact hk
  have h2 : (ws ++ [(q, e)])[ws.length]? = some (q, e) := by simp
  have := hD.1 k ws.length _ _ h1 h2 rfl
  omega
theorem zR.lt {D : va_G} {A : Nat → Prop} {w : zW} {H : Heap} (h : zR D A w H) {q : Nat} {e : va_E} (he : w q = some e) : q < H.size := by
  obtain ⟨ws, hP, hD, hw⟩ := h
  obtain ⟨k, hk⟩ := hw q e he
  exact (hP k _ hk).lt
theorem zR.inA {D : va_G} {A : Nat → Prop} {w : zW} {H : Heap} (h : zR D A w H) {q : Nat} {e : va_E} (he : w q = some e) : A q := by
  obtain ⟨ws, hP, hD, hw⟩ := h
  obtain ⟨k, hk⟩ := hw q e he
  exact hD.2 k _ hk
/-- a world of cells that stay -/
theorem zR.kept {D : va_G} {A : Nat → Prop} {w : zW} {H H1 : Heap} (h : zR D A w H) (hq : ∀ q, q < H.size → A q → H1[q]? = H[q]?) : zR D A w H1 := by
  obtain ⟨ws, hP, hD, hw⟩ := h
  exact ⟨ws, hP.kept (fun k q hk => hq q.1 (hP k q hk).lt (hD.2 k q hk)), hD, hw⟩
theorem zR.sub {D : va_G} {A : Nat → Prop} {w w' : zW} {H : Heap} (h : zR D A w H) (hw : ∀ q e, w' q = some e → w q = some e) : zR D A w' H := by
  obtain ⟨ws, hP, hD, hw0⟩ := h
  exact ⟨ws, hP, hD, fun q e he => hw0 q e (hw q e he)⟩
/-- the arrays' classes -/
def zt (tc : Nat → ClassId) : List (ClassId × FieldType) := [(tc 0, .int), (tc 1, .byte), (tc 2, .long), (tc 3, .byte), (tc 4, .object "java/lang/Object")]
/-- the tables' words at the base state -/
def zT (S : State) : Prop := ∀ w ∈ lw_tbl, w.before #[] S = true
theorem zT_w {S s : State} {args : Array Value} {w : Cond} (hT : zT S) (hW : S.WarmedH s.vm) (hg : (w.onTables && w.keeps) = true ∨ ∃ ty, w = .arrayClass ty) (i : Nat) (hi : tables_1[i]? = some w) : w.before args s = true := word_at hW hg (hT _ (List.mem_append_right _ (List.mem_of_getElem? hi)))
theorem zT_p {S s : State} {args : Array Value} {w : Cond} (hT : zT S) (hW : S.WarmedH s.vm) (hg : (w.onTables && w.keeps) = true ∨ ∃ ty, w = .arrayClass ty) (i : Nat) (hi : (k2_sels lw_privs)[i]? = some w) : w.before args s = true := word_at hW hg (hT _ (List.mem_append_left _ (List.mem_of_getElem? hi)))
/-- all that was there at the base is as it was -/
def zP (S : State) (H : Heap) : Prop := S.heap.size ≤ H.size ∧ ∀ q : Nat, q < S.heap.size → H[q]? = S.heap[q]?
theorem zP.of {S s : State} {A : Nat → Prop} {H : Heap} {locs : List Loc} (h : zP S s.heap) (hAz : ∀ q, A q → S.heap.size ≤ q) (hS : va_S A s.heap H locs) : zP S H := by
  refine ⟨Nat.le_trans h.1 hS.1, fun q hq => ?_⟩
  rw [hS.2.1 q (Nat.lt_of_lt_of_le hq h.1) (fun z => absurd (hAz q z) (by omega))]
  exact h.2 q hq
def zI (S : State) (A : Nat → Prop) (P : Heap → Prop) (U : State) : Prop := S.WarmedH U.vm ∧ zP S U.heap ∧ (∀ q, U.heap.size ≤ q → A q) ∧ P U.heap
def zQ (A : Nat → Prop) (post : Option Value → Heap → Prop) : Array Value → State → Outcome → State → Prop := fun _ st oc t => (∃ v, oc = .returned v ∧ post v t.heap) ∧ va_F A st t
/-- what a method may throw, and the heap then -/
def zXC (A : Nat → Prop) (px : String → Heap → Prop) : String → State → State → Prop := fun E st t => px E t.heap ∧ va_F A st t
/-- a contract: from every state that holds P the method returns, and its answer and the heap hold post -/
def zM (l : Launch) (S : State) (A : Nat → Prop) (y : MethodName) (cc : ByteArray) (maxL : Nat) (ret : Option FieldType) (rm : Room) (av : List Value) (P : Heap → Prop) (post : Option Value → Heap → Prop) : Prop :=
  Met l y [.code y cc maxL ret] rm (va_Pc av (zI S A P)) (zQ A post) rm.cells rm.slots A
/-- .. or throws -/
def zMX (l : Launch) (S : State) (A : Nat → Prop) (y : MethodName) (cc : ByteArray) (maxL : Nat) (ret : Option FieldType) (rm : Room) (av : List Value) (P : Heap → Prop) (post : Option Value → Heap → Prop) (px : String → Heap → Prop) : Prop :=
  vx_Met l y [.code y cc maxL ret] rm (va_Pc av (zI S A P)) (zQ A post) (zXC A px) rm.cells rm.slots A
/-- what stands at a method's entry -/
def zX (S : State) (A : Nat → Prop) (p : Program) (s : State) (m : MethodId) (meth : Method) (c : Code) (y : MethodName) (cc : ByteArray) (maxL : Nat) (ret : Option FieldType) : Prop :=
  p.tables.exec = Jvm.exec ∧ c.code = cc ∧ c.maxLocals = maxL ∧ meth.sig.returnType = ret ∧ meth.locks = false ∧ s.vm.findClass y.cls = some m.cls ∧ meth.name = y.name ∧ S.WarmedH s.vm ∧ zP S s.heap ∧ (∀ q, s.heap.size ≤ q → A q)
theorem zI_blind {S : State} {A : Nat → Prop} {P : Heap → Prop} {av : List Value} : FrameBlind (va_Pc av (zI S A P)) := fun _ _ _ _ h => h
theorem zM.mk {l : Launch} {S : State} {A : Nat → Prop} {y : MethodName} {cc : ByteArray} {maxL : Nat} {ret : Option FieldType} {rm : Room} {av : List Value} {P : Heap → Prop} {post : Option Value → Heap → Prop} (hy : plainName y.cls = true) (hn : (lg_sl av).length ≤ maxL)
    (body : ∀ p e s m below meth c ls, zX S A p s m meth c y cc maxL ret → P s.heap → lv_has ls maxL (lv_args 0 av) → W p l e rm s m av.toArray below meth c s.heap [] 0 0 (MQ below (zQ A post) av.toArray s rm.cells rm.slots A) (F0 m 0 ls [])) : zM l S A y cc maxL ret rm av P post := by
  refine Met.ofW (cc := cc) (maxL := maxL) (ret := ret) hy rfl ?_
  intro p e s m args below meth c s₁ B hml hv
  obtain ⟨rfl, h1, h2, h3, h4⟩ := hv
  have hl := lv_entry av hn
  rw [lg_entry_eq]
  generalize (lg_sl av ++ List.replicate (maxL - (lg_sl av).length) Slot.unset).toArray = ls at hl ⊢
  exact body p e s m below meth c ls ⟨B.exec, B.bytes, hml, B.returns, B.notSynchronized, findClass_of_methodNamed B.named, (name_of_methodNamed B.named B.method).1, h1, h2, h3⟩ h4 hl
theorem zMX.mk {l : Launch} {S : State} {A : Nat → Prop} {y : MethodName} {cc : ByteArray} {maxL : Nat} {ret : Option FieldType} {rm : Room} {av : List Value} {P : Heap → Prop} {post : Option Value → Heap → Prop} {px : String → Heap → Prop} (hy : plainName y.cls = true) (hn : (lg_sl av).length ≤ maxL)
    (body : ∀ p e s m below meth c ls, zX S A p s m meth c y cc maxL ret → (∀ x ∈ c.exceptionTable.toList, False) → P s.heap → lv_has ls maxL (lv_args 0 av) → W p l e rm s m av.toArray below meth c s.heap [] 0 0 (vx_MQ below (zQ A post) (zXC A px) av.toArray s rm.cells rm.slots A) (F0 m 0 ls [])) : zMX l S A y cc maxL ret rm av P post px := by
  refine vx_ofW (cc := cc) (maxL := maxL) (ret := ret) hy rfl ?_
  intro p e s m args below meth c s₁ B hml hnt hv
  obtain ⟨rfl, h1, h2, h3, h4⟩ := hv
  have hl := lv_entry av hn
  rw [lg_entry_eq]
  generalize (lg_sl av ++ List.replicate (maxL - (lg_sl av).length) Slot.unset).toArray = ls at hl ⊢
  exact body p e s m below meth c ls ⟨B.exec, B.bytes, hml, B.returns, B.notSynchronized, findClass_of_methodNamed B.named, (name_of_methodNamed B.named B.method).1, h1, h2, h3⟩ hnt h4 hl
section ZE
variable {p : Program} {l : Launch} {e : Env} {R : Room} {s : State} {m : MethodId} {args : Array Value} {below : List Frame} {meth : Method} {c : Code} {H : Heap} {locs : List Loc} {cells slots mc ms : Nat} {Q : State → Prop} {A : Nat → Prop} {post : Option Value → Heap → Prop}
variable {cc : ByteArray} {pc : Nat} {ls : Array Slot} {rest st0 : List Value}
theorem z_iret {v : Int32} (hx : p.tables.exec = Jvm.exec) (hb : c.code = cc) (hr : meth.sig.returnType = some .int) (hlocks : meth.locks = false) (hS : va_S A s.heap H locs) (hc : cells ≤ mc) (hs : slots ≤ ms) (hdg : decode cc pc = .ok (.ireturn, 1)) (hq : post (some (.int v)) H) : W p l e R s m args below meth c H locs cells slots (MQ below (zQ A post) args s mc ms A) (F0 m pc ls [.int v]) :=
  W.widen hc hs (W.iret hx hb hr (fun t ht _ => ⟨⟨_, rfl, by rw [ht]; exact hq⟩, hS.F ht⟩) hS.2.2 hdg hlocks)
theorem z_zret {v : Int32} {ty : FieldType} (hx : p.tables.exec = Jvm.exec) (hb : c.code = cc) (hr : meth.sig.returnType = some ty) (hn : narrow ty (.int v) = .int v) (hlocks : meth.locks = false) (hS : va_S A s.heap H locs) (hc : cells ≤ mc) (hs : slots ≤ ms) (hdg : decode cc pc = .ok (.ireturn, 1)) (hq : post (some (.int v)) H) : W p l e R s m args below meth c H locs cells slots (MQ below (zQ A post) args s mc ms A) (F0 m pc ls [.int v]) :=
  W.widen hc hs (W.zret hx hb hr hn (fun t ht _ => ⟨⟨_, rfl, by rw [ht]; exact hq⟩, hS.F ht⟩) hS.2.2 hdg hlocks)
theorem z_vret (hx : p.tables.exec = Jvm.exec) (hb : c.code = cc) (hr : meth.sig.returnType = none) (hlocks : meth.locks = false) (hS : va_S A s.heap H locs) (hc : cells ≤ mc) (hs : slots ≤ ms) (hdg : decode cc pc = .ok (.return_, 1)) (hq : post none H) : W p l e R s m args below meth c H locs cells slots (MQ below (zQ A post) args s mc ms A) (F0 m pc ls []) :=
  W.widen hc hs (W.vret hx hb hr (fun t ht _ => ⟨⟨_, rfl, by rw [ht]; exact hq⟩, hS.F ht⟩) hS.2.2 hdg hlocks)
theorem z_aret {r : Option Nat} {rt : FieldType} (hx : p.tables.exec = Jvm.exec) (hb : c.code = cc) (hr : meth.sig.returnType = some rt) (hrt : (∃ n, rt = .object n) ∨ ∃ t, rt = .array t) (hlocks : meth.locks = false) (hS : va_S A s.heap H locs) (hc : cells ≤ mc) (hs : slots ≤ ms) (hdg : decode cc pc = .ok (.areturn, 1)) (hq : post (some (va_rf r)) H) : W p l e R s m args below meth c H locs cells slots (MQ below (zQ A post) args s mc ms A) (F0 m pc ls [va_rf r]) :=
  W.widen hc hs (W.aret hx hb hr hrt (by cases r with | none => exact Or.inl rfl | some x => exact Or.inr ⟨x, rfl⟩) (fun t ht _ => ⟨⟨_, rfl, by rw [ht]; exact hq⟩, hS.F ht⟩) hS.2.2 hdg hlocks)
theorem z_lret {v : Int64} (hx : p.tables.exec = Jvm.exec) (hb : c.code = cc) (hr : meth.sig.returnType = some .long) (hlocks : meth.locks = false) (hS : va_S A s.heap H locs) (hc : cells ≤ mc) (hs : slots ≤ ms) (hdg : decode cc pc = .ok (.lreturn, 1)) (hq : post (some (.long v)) H) : W p l e R s m args below meth c H locs cells slots (MQ below (zQ A post) args s mc ms A) (F0 m pc ls [.long v]) :=
  W.widen hc hs (W.lret hx hb hr (fun t ht _ => ⟨⟨_, rfl, by rw [ht]; exact hq⟩, hS.F ht⟩) hS.2.2 hdg hlocks)
theorem z_fret {v : UInt32} (hx : p.tables.exec = Jvm.exec) (hb : c.code = cc) (hr : meth.sig.returnType = some .float) (hlocks : meth.locks = false) (hS : va_S A s.heap H locs) (hc : cells ≤ mc) (hs : slots ≤ ms) (hdg : decode cc pc = .ok (.freturn, 1)) (hq : post (some (.float v)) H) : W p l e R s m args below meth c H locs cells slots (MQ below (zQ A post) args s mc ms A) (F0 m pc ls [.float v]) :=
  W.widen hc hs (W.fret hx hb hr (fun t ht _ => ⟨⟨_, rfl, by rw [ht]; exact hq⟩, hS.F ht⟩) hS.2.2 hdg hlocks)
/-- behind a call -/
theorem z_call {a : Array Value} {k n : Nat} (hr : va_Run p l e R s m args below meth c H locs cells slots k n (F0 m pc ls st0) rest (zQ A post a) A) (hS : va_S A s.heap H locs)
    (kk : ∀ (v : Option Value) (H1 : Heap) (locs1 : List Loc), post v H1 → va_S A s.heap H1 locs1 → W p l e R s m args below meth c H1 locs1 (cells + k) (slots + n) Q (F0 m (pc + 3) ls (v.toList ++ rest))) : W p l e R s m args below meth c H locs cells slots Q (F0 m pc ls st0) := by
  intro T hT X
  obtain ⟨v, st₀, t, T', L, h0, X', hL, e1, e2, ⟨⟨v', hv, hp⟩, hz, hk⟩, st⟩ := hr T hT X
  cases hv
  rw [h0] at hz hk
  obtain ⟨t2, a1, b1⟩ := kk v T'.heap (locs ++ L) (by rw [e1]; exact hp) ⟨Nat.le_trans hS.1 (by rw [e1]; exact hz), fun q h1 h2 => by rw [e1, hk q (Nat.lt_of_lt_of_le h1 hS.1) h2]; exact hS.2.1 q h1 h2, fun q hq => by
      rcases List.mem_append.mp hq with h | h
      · exact hS.2.2 q h
      · exact hL q h⟩ T' rfl X'
  exact ⟨t2, st t2 a1, b1⟩
theorem z_call5 {a : Array Value} {k n : Nat} (hr : va_Run5 p l e R s m args below meth c H locs cells slots k n (F0 m pc ls st0) rest (zQ A post a) A) (hS : va_S A s.heap H locs)
    (kk : ∀ (v : Option Value) (H1 : Heap) (locs1 : List Loc), post v H1 → va_S A s.heap H1 locs1 → W p l e R s m args below meth c H1 locs1 (cells + k) (slots + n) Q (F0 m (pc + 5) ls (v.toList ++ rest))) : W p l e R s m args below meth c H locs cells slots Q (F0 m pc ls st0) := by
  intro T hT X
  obtain ⟨v, st₀, t, T', L, h0, X', hL, e1, e2, ⟨⟨v', hv, hp⟩, hz, hk⟩, st⟩ := hr T hT X
  cases hv
  rw [h0] at hz hk
  obtain ⟨t2, a1, b1⟩ := kk v T'.heap (locs ++ L) (by rw [e1]; exact hp) ⟨Nat.le_trans hS.1 (by rw [e1]; exact hz), fun q h1 h2 => by rw [e1, hk q (Nat.lt_of_lt_of_le h1 hS.1) h2]; exact hS.2.1 q h1 h2, fun q hq => by
      rcases List.mem_append.mp hq with h | h
      · exact hS.2.2 q h
      · exact hL q h⟩ T' rfl X'
  exact ⟨t2, st t2 a1, b1⟩
/-- behind a call that may throw -/
theorem z_callX {a : Array Value} {k n : Nat} {px : String → Heap → Prop} (hr : vx_Run p l e R s m args below meth c H locs cells slots k n (F0 m pc ls st0) rest (zQ A post a) (zXC A px) A) (hS : va_S A s.heap H locs)
    (kx : ∀ (E : String) (ce : Cell) (q9 : Addr) (H1 : Heap) (locs1 : List Loc), px E H1 → va_S A s.heap H1 locs1 → H1[q9]? = some ce → ce.vm = .none → s.vm.findClass E = some ce.cls → vx_W p l e R s m args below meth c H1 locs1 (cells + k) (slots + n) Q (F0 m pc ls rest) q9)
    (kk : ∀ (v : Option Value) (H1 : Heap) (locs1 : List Loc), post v H1 → va_S A s.heap H1 locs1 → W p l e R s m args below meth c H1 locs1 (cells + k) (slots + n) Q (F0 m (pc + 3) ls (v.toList ++ rest))) : W p l e R s m args below meth c H locs cells slots Q (F0 m pc ls st0) := by
  intro T hT X
  have key : ∀ {st₀ t T' : State} {L : List Loc}, st₀.heap = H → T'.heap = t.heap → (∀ q ∈ L, A q.base) → va_F A st₀ t → va_S A s.heap T'.heap (locs ++ L) := by
    intro st₀ t T' L h0 e1 hL hF
    obtain ⟨hz, hk⟩ := hF
    rw [h0] at hz hk
    exact ⟨Nat.le_trans hS.1 (by rw [e1]; exact hz), fun q h1 h2 => by rw [e1, hk q (Nat.lt_of_lt_of_le h1 hS.1) h2]; exact hS.2.1 q h1 h2, fun q hq => by
      rcases List.mem_append.mp hq with h | h
      · exact hS.2.2 q h
      · exact hL q h⟩
  rcases hr T hT X with ⟨v, st₀, t, T', L, h0, X', hL, e1, e2, ⟨⟨v', hv, hp⟩, hF⟩, st⟩ | ⟨q, st₀, t, T', L, E, ce, h0, X', hL, e1, e2, ⟨hp, hF⟩, hce, hcv, hcl, st⟩
  · cases hv
    obtain ⟨t2, a1, b1⟩ := kk v T'.heap (locs ++ L) (by rw [e1]; exact hp) (key h0 e1 hL hF) T' rfl X'
    exact ⟨t2, st t2 a1, b1⟩
  · obtain ⟨t2, a1, b1⟩ := kx E ce q T'.heap (locs ++ L) (by rw [e1]; exact hp) (key h0 e1 hL hF) (by rw [e1]; exact hce) hcv hcl T' rfl X'
    exact ⟨t2, st.trans a1, b1⟩
end ZE

