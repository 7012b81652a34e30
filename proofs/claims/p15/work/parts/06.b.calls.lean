/-! calls whose callee keeps to a region of its own -/
def zfr (B : Nat → Prop) (H H1 : Heap) : Prop := H.size ≤ H1.size ∧ ∀ q : Nat, q < H.size → ¬ B q → H1[q]? = H[q]?
theorem zR.frame {D : va_G} {A B : Nat → Prop} {w : zW} {H H1 : Heap} (h : zR D A w H) (hf : zfr B H H1) (hd : ∀ q, A q → q < H.size → ¬ B q) : zR D A w H1 := zR.kept h (fun q hq hA => hf.2 q hq (hd q hA hq))
def zMH (l : Launch) (S : State) (A : Nat → Prop) (y : MethodName) (cc : ByteArray) (maxL : Nat) (ret : Option FieldType) (hh : List (Nat × Nat × Nat × Nat)) (rm : Room) (av : List Value) (P : Heap → Prop) (post : Option Value → Heap → Prop) : Prop :=
  vx_Met l y [.codeWith y cc maxL ret hh] rm (va_Pc av (zI S A P)) (zQ A post) (zXC A (fun _ _ => False)) rm.cells rm.slots A
theorem zMH.mk {l : Launch} {S : State} {A : Nat → Prop} {y : MethodName} {cc : ByteArray} {maxL : Nat} {ret : Option FieldType} {hh : List (Nat × Nat × Nat × Nat)} {rm : Room} {av : List Value} {P : Heap → Prop} {post : Option Value → Heap → Prop} (hy : plainName y.cls = true) (hn : (lg_sl av).length ≤ maxL) (hcw : ∀ (args : Array Value) (s : State), S.WarmedH s.vm → (Cond.codeWith y cc maxL ret hh).before args s = true)
    (body : ∀ p e s m below meth c ls, zX S A p s m meth c y cc maxL ret → c.exceptionTable.toList = tableOf hh → P s.heap → lv_has ls maxL (lv_args 0 av) → W p l e rm s m av.toArray below meth c s.heap [] 0 0 (vx_MQ below (zQ A post) (zXC A (fun _ _ => False)) av.toArray s rm.cells rm.slots A) (F0 m 0 ls [])) : zMH l S A y cc maxL ret hh rm av P post := by
  refine vx_ofWH (cc := cc) (maxL := maxL) (ret := ret) (hh := hh) hy rfl ?_
  intro p e s m args below meth c s₁ B hml hv
  obtain ⟨rfl, h1, h2, h3, h4⟩ := hv
  have hl := lv_entry av hn
  rw [lg_entry_eq]
  generalize (lg_sl av ++ List.replicate (maxL - (lg_sl av).length) Slot.unset).toArray = ls at hl ⊢
  exact body p e s m below meth c ls ⟨B.exec, B.bytes, hml, B.returns, B.notSynchronized, findClass_of_methodNamed B.named, (name_of_methodNamed B.named B.method).1, h1, h2, h3⟩ (vx_table (x := y) B (hcw _ _ h1)) h4 hl
section ZCB
variable {p : Program} {l : Launch} {e : Env} {R : Room} {s : State} {m : MethodId} {args : Array Value} {below : List Frame} {meth : Method} {c : Code} {H : Heap} {locs : List Loc} {cells slots : Nat} {Q : State → Prop} {A B : Nat → Prop} {post : Option Value → Heap → Prop} {px : String → Heap → Prop}
variable {cc : ByteArray} {pc : Nat} {ls : Array Slot} {rest st0 : List Value}
theorem z_callB {a : Array Value} {k n : Nat} (hBA : ∀ q, B q → A q) (hr : va_Run p l e R s m args below meth c H locs cells slots k n (F0 m pc ls st0) rest (zQ B post a) B) (hS : va_S A s.heap H locs)
    (kk : ∀ (v : Option Value) (H1 : Heap) (locs1 : List Loc), post v H1 → zfr B H H1 → va_S A s.heap H1 locs1 → W p l e R s m args below meth c H1 locs1 (cells + k) (slots + n) Q (F0 m (pc + 3) ls (v.toList ++ rest))) : W p l e R s m args below meth c H locs cells slots Q (F0 m pc ls st0) := by
  intro T hT X
  obtain ⟨v, st₀, t, T', L, h0, X', hL, e1, e2, ⟨⟨v', hv, hp⟩, hz, hk⟩, st⟩ := hr T hT X
  cases hv
  rw [h0] at hz hk
  obtain ⟨t2, a1, b1⟩ := kk v T'.heap (locs ++ L) (by rw [e1]; exact hp) ⟨by rw [e1]; exact hz, by rw [e1]; exact hk⟩ ⟨Nat.le_trans hS.1 (by rw [e1]; exact hz), fun q h1 h2 => by rw [e1, hk q (Nat.lt_of_lt_of_le h1 hS.1) (fun z => h2 (hBA q z))]; exact hS.2.1 q h1 h2, fun q hq => by
      rcases List.mem_append.mp hq with h | h
      · exact hS.2.2 q h
      · exact hBA _ (hL q h)⟩ T' rfl X'
  exact ⟨t2, st t2 a1, b1⟩
theorem z_callXB {a : Array Value} {k n : Nat} (hBA : ∀ q, B q → A q) (hr : vx_Run p l e R s m args below meth c H locs cells slots k n (F0 m pc ls st0) rest (zQ B post a) (zXC B px) B) (hS : va_S A s.heap H locs)
    (kx : ∀ (E : String) (ce : Cell) (q9 : Addr) (H1 : Heap) (locs1 : List Loc), px E H1 → zfr B H H1 → va_S A s.heap H1 locs1 → H1[q9]? = some ce → ce.vm = .none → s.vm.findClass E = some ce.cls → vx_W p l e R s m args below meth c H1 locs1 (cells + k) (slots + n) Q (F0 m pc ls rest) q9)
    (kk : ∀ (v : Option Value) (H1 : Heap) (locs1 : List Loc), post v H1 → zfr B H H1 → va_S A s.heap H1 locs1 → W p l e R s m args below meth c H1 locs1 (cells + k) (slots + n) Q (F0 m (pc + 3) ls (v.toList ++ rest))) : W p l e R s m args below meth c H locs cells slots Q (F0 m pc ls st0) := by
  intro T hT X
  have key : ∀ {st₀ t T' : State} {L : List Loc}, st₀.heap = H → T'.heap = t.heap → (∀ q ∈ L, B q.base) → va_F B st₀ t → zfr B H T'.heap ∧ va_S A s.heap T'.heap (locs ++ L) := by
    intro st₀ t T' L h0 e1 hL hF
    obtain ⟨hz, hk⟩ := hF
    rw [h0] at hz hk
    exact ⟨⟨by rw [e1]; exact hz, by rw [e1]; exact hk⟩, Nat.le_trans hS.1 (by rw [e1]; exact hz), fun q h1 h2 => by rw [e1, hk q (Nat.lt_of_lt_of_le h1 hS.1) (fun z => h2 (hBA q z))]; exact hS.2.1 q h1 h2, fun q hq => by
      rcases List.mem_append.mp hq with h | h
      · exact hS.2.2 q h
      · exact hBA _ (hL q h)⟩
  rcases hr T hT X with ⟨v, st₀, t, T', L, h0, X', hL, e1, e2, ⟨⟨v', hv, hp⟩, hF⟩, st⟩ | ⟨q, st₀, t, T', L, E, ce, h0, X', hL, e1, e2, ⟨hp, hF⟩, hce, hcv, hcl, st⟩
  · cases hv
    have g := key h0 e1 hL hF
    obtain ⟨t2, a1, b1⟩ := kk v T'.heap (locs ++ L) (by rw [e1]; exact hp) g.1 g.2 T' rfl X'
    exact ⟨t2, st t2 a1, b1⟩
  · have g := key h0 e1 hL hF
    obtain ⟨t2, a1, b1⟩ := kx E ce q T'.heap (locs ++ L) (by rw [e1]; exact hp) g.1 g.2 (by rw [e1]; exact hce) hcv hcl T' rfl X'
    exact ⟨t2, st.trans a1, b1⟩
variable {S : State} {nL : Nat} {y : MethodName} {bytes : ByteArray} {maxL n index : Nat} {ret : Option FieldType} {rm : Room} {As : List Value} {P : Heap → Prop} {own C : String} {b : Nat}
theorem z_preB (X : zH S A p s m c cc nL own) (hS : va_S A s.heap H locs) (hBf : ∀ q, H.size ≤ q → B q) (hP : P H) {av : List Value} : ∀ U : State, U.heap = H → s.WarmedH U.vm → va_Pc av (zI S B P) av.toArray U := by
  obtain ⟨-, -, -, -, hW, hp, hA, hAz⟩ := X
  intro U hU hWU
  refine ⟨rfl, State.WarmedH.trans hW hWU, by rw [hU]; exact zP.of hp hAz hS, fun q hq => ?_, by rw [hU]; exact hP⟩
  rw [hU] at hq
  exact hBf q hq
theorem z_invVB (hBA : ∀ q, B q → A q) (hM : zM l S B y bytes maxL ret rm (.ref b :: As) P post) (X : zH S A p s m c cc nL own) (hS : va_S A s.heap H locs) (hBf : ∀ q, H.size ≤ q → B q) (hP : P H) (hlv : ls.size = nL)
    (hcode : (Cond.code y bytes maxL ret).before args s = true) (hini : (Cond.initialized y.cls).before args s = true) (hlink : (Cond.methodLink own index y).before args s = true) (hinst : (Cond.instanceMethod y).before args s = true) (hsel : (Cond.selects C y y).before args s = true)
    (hrecv : ∃ cell : Cell, H[b]? = some cell ∧ cell.vm.isStatics = false ∧ s.vm.findClass C = some cell.cls)
    (hd : y.cls ≠ "java/lang/invoke/MethodHandle" ∧ y.cls ≠ "java/lang/invoke/VarHandle" ∧ (parseMethodDescriptor y.desc).map (fun d => d.parameters.length) = some n) (hn : As.length = n) (hR : rm.frames + 1 ≤ R.frames ∧ 8 + (maxL + 11) + rm.locals ≤ R.locals) (hf : cells + rm.cells ≤ R.cells ∧ slots + rm.slots ≤ R.slots) (hrest : (rest.map fun v => v.category).sum ≤ 8) (hdg : decode cc pc = .ok (.invokevirtual index, 3))
    (kk : ∀ (v : Option Value) (H1 : Heap) (locs1 : List Loc), post v H1 → zfr B H H1 → va_S A s.heap H1 locs1 → W p l e R s m args below meth c H1 locs1 (cells + rm.cells) (slots + rm.slots) Q (F0 m (pc + 3) ls (v.toList ++ rest))) {st0 : List Value} (hst : st0 = As.reverse ++ .ref b :: rest) : W p l e R s m args below meth c H locs cells slots Q (F0 m pc ls st0) := by
  have hX := X
  obtain ⟨hx, hb, hml, hown, -⟩ := hX
  exact z_callB hBA (va_runV (Ts := []) (rest := rest) (C := C) ⟨hx, hb, hml, hown, fun _ h => nomatch h⟩ hM ⟨z_cb X hcode hini hlink hd hR, hinst, hsel⟩ ⟨zI_blind, hrecv, z_preB X hS hBf hP⟩ rfl hn hlv hst (lv_room hrest) hdg hf) hS kk
theorem z_invIB (hBA : ∀ q, B q → A q) (hM : zM l S B y bytes maxL none rm (.ref b :: As) P post) (X : zH S A p s m c cc nL own) (hS : va_S A s.heap H locs) (hBf : ∀ q, H.size ≤ q → B q) (hP : P H) (hlv : ls.size = nL) (hy1 : y.name = "<init>")
    (hcode : (Cond.code y bytes maxL none).before args s = true) (hini : (Cond.initialized y.cls).before args s = true) (hlink : (Cond.methodLink own index y).before args s = true) (hinst : (Cond.instanceMethod y).before args s = true)
    (hd : y.cls ≠ "java/lang/invoke/MethodHandle" ∧ y.cls ≠ "java/lang/invoke/VarHandle" ∧ (parseMethodDescriptor y.desc).map (fun d => d.parameters.length) = some n) (hn : As.length = n) (hR : rm.frames + 1 ≤ R.frames ∧ 8 + (maxL + 11) + rm.locals ≤ R.locals) (hf : cells + rm.cells ≤ R.cells ∧ slots + rm.slots ≤ R.slots) (hrest : (rest.map fun v => v.category).sum ≤ 8) (hdg : decode cc pc = .ok (.invokespecial index, 3))
    (kk : ∀ (v : Option Value) (H1 : Heap) (locs1 : List Loc), post v H1 → zfr B H H1 → va_S A s.heap H1 locs1 → W p l e R s m args below meth c H1 locs1 (cells + rm.cells) (slots + rm.slots) Q (F0 m (pc + 3) ls (v.toList ++ rest))) {st0 : List Value} (hst : st0 = As.reverse ++ .ref b :: rest) : W p l e R s m args below meth c H locs cells slots Q (F0 m pc ls st0) := by
  have hX := X
  obtain ⟨hx, hb, hml, hown, -⟩ := hX
  exact z_callB hBA (va_runI (Ts := []) (rest := rest) ⟨hx, hb, hml, hown, fun _ h => nomatch h⟩ hM ⟨z_cb X hcode hini hlink hd hR, hy1, hinst⟩ ⟨zI_blind, z_preB X hS hBf hP⟩ rfl hn hlv hst (lv_room hrest) hdg hf) hS kk
theorem z_invVXB (hBA : ∀ q, B q → A q) (hM : zMX l S B y bytes maxL ret rm (.ref b :: As) P post px) (X : zH S A p s m c cc nL own) (hS : va_S A s.heap H locs) (hBf : ∀ q, H.size ≤ q → B q) (hP : P H) (hlv : ls.size = nL)
    (hcode : (Cond.code y bytes maxL ret).before args s = true) (hini : (Cond.initialized y.cls).before args s = true) (hlink : (Cond.methodLink own index y).before args s = true) (hinst : (Cond.instanceMethod y).before args s = true) (hsel : (Cond.selects C y y).before args s = true)
    (hrecv : ∃ cell : Cell, H[b]? = some cell ∧ cell.vm.isStatics = false ∧ s.vm.findClass C = some cell.cls)
    (hd : y.cls ≠ "java/lang/invoke/MethodHandle" ∧ y.cls ≠ "java/lang/invoke/VarHandle" ∧ (parseMethodDescriptor y.desc).map (fun d => d.parameters.length) = some n) (hn : As.length = n) (hR : rm.frames + 1 ≤ R.frames ∧ 8 + (maxL + 11) + rm.locals ≤ R.locals) (hf : cells + rm.cells ≤ R.cells ∧ slots + rm.slots ≤ R.slots) (hrest : (rest.map fun v => v.category).sum ≤ 8) (hdg : decode cc pc = .ok (.invokevirtual index, 3))
    (kx : ∀ (E : String) (ce : Cell) (q9 : Addr) (H1 : Heap) (locs1 : List Loc), px E H1 → zfr B H H1 → va_S A s.heap H1 locs1 → H1[q9]? = some ce → ce.vm = .none → s.vm.findClass E = some ce.cls → vx_W p l e R s m args below meth c H1 locs1 (cells + rm.cells) (slots + rm.slots) Q (F0 m pc ls rest) q9)
    (kk : ∀ (v : Option Value) (H1 : Heap) (locs1 : List Loc), post v H1 → zfr B H H1 → va_S A s.heap H1 locs1 → W p l e R s m args below meth c H1 locs1 (cells + rm.cells) (slots + rm.slots) Q (F0 m (pc + 3) ls (v.toList ++ rest))) {st0 : List Value} (hst : st0 = As.reverse ++ .ref b :: rest) : W p l e R s m args below meth c H locs cells slots Q (F0 m pc ls st0) := by
  have hX := X
  obtain ⟨hx, hb, hml, hown, -⟩ := hX
  exact z_callXB hBA (vx_runV (Ts := []) (rest := rest) (C := C) ⟨hx, hb, hml, hown, fun _ h => nomatch h⟩ hM ⟨z_cb X hcode hini hlink hd hR, hinst, hsel⟩ ⟨zI_blind, hrecv, z_preB X hS hBf hP⟩ rfl hn hlv hst (lv_room hrest) hdg hf) hS kx kk
theorem z_invSH {hh : List (Nat × Nat × Nat × Nat)} (hBA : ∀ q, B q → A q) (hM : zMH l S B y bytes maxL ret hh rm As P post) (X : zH S A p s m c cc nL own) (hS : va_S A s.heap H locs) (hBf : ∀ q, H.size ≤ q → B q) (hP : P H) (hlv : ls.size = nL)
    (hcode : (Cond.codeWith y bytes maxL ret hh).before args s = true) (hini : (Cond.initialized y.cls).before args s = true) (hlink : (Cond.methodLink own index y).before args s = true) (hstat : (Cond.static y).before args s = true)
    (hd : y.cls ≠ "java/lang/invoke/MethodHandle" ∧ y.cls ≠ "java/lang/invoke/VarHandle" ∧ (parseMethodDescriptor y.desc).map (fun d => d.parameters.length) = some n) (hn : As.length = n) (hR : rm.frames + 1 ≤ R.frames ∧ 8 + (maxL + 11) + rm.locals ≤ R.locals) (hf : cells + rm.cells ≤ R.cells ∧ slots + rm.slots ≤ R.slots) (hrest : (rest.map fun v => v.category).sum ≤ 8) (hdg : decode cc pc = .ok (.invokestatic index, 3))
    (kk : ∀ (v : Option Value) (H1 : Heap) (locs1 : List Loc), post v H1 → zfr B H H1 → va_S A s.heap H1 locs1 → W p l e R s m args below meth c H1 locs1 (cells + rm.cells) (slots + rm.slots) Q (F0 m (pc + 3) ls (v.toList ++ rest))) {st0 : List Value} (hst : st0 = As.reverse ++ rest) : W p l e R s m args below meth c H locs cells slots Q (F0 m pc ls st0) := by
  have hX := X
  obtain ⟨hx, hb, hml, hown, -⟩ := hX
  refine z_callXB hBA (vx_runSX (Ts := []) (rest := rest) (hh := hh) ⟨hx, hb, hml, hown, fun _ h => nomatch h⟩ hM ⟨⟨rfl, rfl, hR.1, hR.2, ?_, List.mem_cons_self⟩, hcode, hini, ⟨hd.1, hd.2.1⟩, fun sig h => ?_, hlink, hstat⟩ ⟨zI_blind, z_preB X hS hBf hP⟩ rfl hn hlv hst (lv_room hrest) hdg hf) hS (fun E ce q9 H1 locs1 hv => hv.elim) kk
  · intro w hw a' U hWU
    rw [List.mem_singleton.mp hw]
    exact word_at hWU (Or.inl (by simp [Cond.onTables, Cond.keeps, Cond.steady])) hcode
  · have h2 := hd.2.2
    rw [h] at h2
    exact (Option.some.inj h2).symm
end ZCB

