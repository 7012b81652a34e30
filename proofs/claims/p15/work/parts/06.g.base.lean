/-! what the law's methods stand on -/
def vB (u : zS_) (a n : Int) : Int := if 0 ≤ a ∧ a < u 13 0 then mvOfB u a n else -2
def vC (u : zS_) (a n : Int) : Int := if 0 ≤ a ∧ a < u 21 0 then mvOfC u a n else -2
theorem vB_in {u : zS_} {a n : Int} (h : 0 ≤ a ∧ a < u 13 0) : vB u a n = mvOfB u a n := if_pos h
theorem vB_out {u : zS_} {a n : Int} (h : ¬ (0 ≤ a ∧ a < u 13 0)) : vB u a n = -2 := if_neg h
theorem vC_in {u : zS_} {a n : Int} (h : 0 ≤ a ∧ a < u 21 0) : vC u a n = mvOfC u a n := if_pos h
theorem vC_out {u : zS_} {a n : Int} (h : ¬ (0 ≤ a ∧ a < u 21 0)) : vC u a n = -2 := if_neg h
theorem z_and31 (x : Int32) : ∃ z : Int, (0 ≤ z ∧ z ≤ 2147483647) ∧ x &&& zi 2147483647 = zi z := by
  refine ⟨(x &&& zi 2147483647).toInt, ⟨?_, ?_⟩, (zi_of _).symm⟩
  · have h : (x &&& zi 2147483647).toBitVec.msb = false := by
      rw [Int32.toBitVec_and, BitVec.msb_and, show (zi 2147483647).toBitVec.msb = false by decide, Bool.and_false]
    show 0 ≤ (x &&& zi 2147483647).toBitVec.toInt
    rw [BitVec.toInt_eq_toNat_of_msb h]
    omega
  · have := Int32.toInt_lt (x &&& zi 2147483647); omega
theorem zB.sub {S : State} {D : va_G} {tc : Nat → ClassId} {A B : Nat → Prop} {dz : Nat} (hZ : zB S D tc A dz) (h : ∀ q, B q → A q) : zB S D tc B dz := ⟨hZ.1, hZ.2.1, fun q hq => hZ.2.2.1 q (h q hq), hZ.2.2.2⟩
theorem zHC.frame {D : va_G} {tc : Nat → ClassId} {dz : Nat} {A B : Nat → Prop} {ad : Nat → Nat} {u : zS_} {H H1 : Heap} (h : zHC D tc dz A ad u H) (hf : zfr B H H1) (hd : ∀ q, A q → q < H.size → ¬ B q) : zHC D tc dz A ad u H1 := by
  obtain ⟨aB, aC, aD, nd, dd, Wd, w, h1, h2, hR⟩ := h
  exact ⟨aB, aC, aD, nd, dd, Wd, w, h1, h2, hR.frame hf hd⟩
theorem zHC.mono {D : va_G} {tc : Nat → ClassId} {dz : Nat} {A B : Nat → Prop} {ad : Nat → Nat} {u : zS_} {H : Heap} (h : zHC D tc dz A ad u H) (hAB : ∀ q, q < H.size → A q → B q) : zHC D tc dz B ad u H := by
  obtain ⟨aB, aC, aD, nd, dd, Wd, w, h1, h2, hR⟩ := h
  exact ⟨aB, aC, aD, nd, dd, Wd, w, h1, h2, hR.mono hAB⟩
/-- an array of ints alone -/
def zoI (tc : Nat → ClassId) (r n : Nat) (f : Nat → Int32) : zW := zu (fun _ => none) r (.inl (tc 0, n, .inl f))
section ZLW
variable {p : Program} {l : Launch} {e : Env} {R : Room} {s : State} {m : MethodId} {args : Array Value} {below : List Frame} {meth : Method} {c : Code} {H : Heap} {locs : List Loc} {cells slots : Nat} {Q : State → Prop} {A B : Nat → Prop} {post : Option Value → Heap → Prop} {px : String → Heap → Prop}
variable {cc : ByteArray} {pc : Nat} {ls : Array Slot} {rest : List Value}
variable {S : State} {nL : Nat} {y : MethodName} {bytes : ByteArray} {maxL n index : Nat} {ret : Option FieldType} {rm : Room} {As : List Value} {P : Heap → Prop} {own C : String}
theorem z_invSB (hBA : ∀ q, B q → A q) (hM : zM l S B y bytes maxL ret rm As P post) (X : zH S A p s m c cc nL own) (hS : va_S A s.heap H locs) (hBf : ∀ q, H.size ≤ q → B q) (hP : P H) (hlv : ls.size = nL)
    (hcode : (Cond.code y bytes maxL ret).before args s = true) (hini : (Cond.initialized y.cls).before args s = true) (hlink : (Cond.methodLink own index y).before args s = true) (hstat : (Cond.static y).before args s = true)
    (hd : y.cls ≠ "java/lang/invoke/MethodHandle" ∧ y.cls ≠ "java/lang/invoke/VarHandle" ∧ (parseMethodDescriptor y.desc).map (fun d => d.parameters.length) = some n) (hn : As.length = n) (hR : rm.frames + 1 ≤ R.frames ∧ 8 + (maxL + 11) + rm.locals ≤ R.locals) (hf : cells + rm.cells ≤ R.cells ∧ slots + rm.slots ≤ R.slots) (hrest : (rest.map fun v => v.category).sum ≤ 8) (hdg : decode cc pc = .ok (.invokestatic index, 3))
    (kk : ∀ (v : Option Value) (H1 : Heap) (locs1 : List Loc), post v H1 → zfr B H H1 → va_S A s.heap H1 locs1 → W p l e R s m args below meth c H1 locs1 (cells + rm.cells) (slots + rm.slots) Q (F0 m (pc + 3) ls (v.toList ++ rest))) {st0 : List Value} (hst : st0 = As.reverse ++ rest) : W p l e R s m args below meth c H locs cells slots Q (F0 m pc ls st0) := by
  have hX := X
  obtain ⟨hx, hb, hml, hown, -⟩ := hX
  exact z_callB hBA (va_runS (Ts := []) (rest := rest) ⟨hx, hb, hml, hown, fun _ h => nomatch h⟩ hM ⟨z_cb X hcode hini hlink hd hR, hstat⟩ ⟨zI_blind, z_preB X hS hBf hP⟩ rfl hn hlv hst (lv_room hrest) hdg hf) hS kk
/-- a store into an array that lies beside the class's cells -/
theorem z_iastR {D : va_G} {tc : Nat → ClassId} {dz r N : Nat} {ad : Nat → Nat} {u : zS_} {f : Nat → Int32} (hx : p.tables.exec = Jvm.exec) (hb : c.code = cc) (hK : va_K D vwCl (zt tc) s) (hRr : zR D (fun q => q = r) (zoI tc r N f) H) (hHC : zHC D tc dz (fun q => A q ∧ q ≠ r) ad u H) (hrA : A r) (hS : va_S A s.heap H locs) {i : Int} {x : Int32} (hin : 0 ≤ i ∧ i < N ∧ N ≤ 2147483647) (hdg : decode cc pc = .ok (.iastore, 1))
    (kk : ∀ (H1 : Heap) (locs1 : List Loc), zR D (fun q => q = r) (zoI tc r N (upd f i.toNat x)) H1 → zHC D tc dz (fun q => A q ∧ q ≠ r) ad u H1 → va_S A s.heap H1 locs1 → W p l e R s m args below meth c H1 locs1 cells slots Q (F0 m (pc + 1) ls rest)) : W p l e R s m args below meth c H locs cells slots Q (F0 m pc ls (.int x :: .int (zi i) :: .ref r :: rest)) := by
  obtain ⟨aB, aC, aD, nd, dd, Wd, w, h1, h2, hRw⟩ := hHC
  have hR : zR D A (zj (zoI tc r N f) w) H := zR.join hRr hRw (fun q h1 h2 => h2.2 h1) (fun q h => by rw [h]; exact hrA) (fun q h => h.1)
  refine z_iast hx hb hK hR hS 0 (zj_1 zu_eq) rfl hin hdg (fun H1 locs1 hR1 hS1 => kk H1 locs1 ?_ ⟨aB, aC, aD, nd, dd, Wd, w, h1, h2, ?_⟩ hS1)
  · exact hR1.restrict (fun q e hq => by
      by_cases z : q = r
      · subst z
        exact ⟨zu_eq.trans (zu_eq.symm.trans hq), rfl⟩
      · rw [show zoI tc r N (upd f i.toNat x) q = none from zu_ne z] at hq
        cases hq)
  · exact hR1.restrict (fun q e hq => by
      have hBq := hRw.inA hq
      exact ⟨(zu_ne hBq.2).trans (zj_2 hq (zu_ne hBq.2)), hBq⟩)
end ZLW
theorem q_112 {S s : State} {args : Array Value} (hT : zT S) (hW : S.WarmedH s.vm) : (Jvm.Cond.codeWith ({ cls := "RescuemarketLaw", name := "does", desc := "(LRescuemarket;IIIII)I" } : Jvm.MethodName) method_4_code (7 : Nat) (Option.some Jvm.ClassFile.FieldType.int) [((0 : Nat), (91 : Nat), (92 : Nat), (33 : Nat)), ((0 : Nat), (91 : Nat), (97 : Nat), (35 : Nat)), ((0 : Nat), (91 : Nat), (102 : Nat), (37 : Nat))]).before args s = true := zT_w hT hW (Or.inl (by first | rfl | decide)) 112 (by decide +kernel)
theorem q_578 {S s : State} {args : Array Value} (hT : zT S) (hW : S.WarmedH s.vm) : (Jvm.Cond.codeWith ({ cls := "RescuemarketLaw", name := "boat", desc := "(LRescuemarket;II)I" } : Jvm.MethodName) method_5_code (4 : Nat) (Option.some Jvm.ClassFile.FieldType.int) [((0 : Nat), (6 : Nat), (7 : Nat), (33 : Nat))]).before args s = true := zT_w hT hW (Or.inl (by first | rfl | decide)) 578 (by decide +kernel)
theorem q_585 {S s : State} {args : Array Value} (hT : zT S) (hW : S.WarmedH s.vm) : (Jvm.Cond.codeWith ({ cls := "RescuemarketLaw", name := "call", desc := "(LRescuemarket;II)I" } : Jvm.MethodName) method_6_code (4 : Nat) (Option.some Jvm.ClassFile.FieldType.int) [((0 : Nat), (6 : Nat), (7 : Nat), (33 : Nat))]).before args s = true := zT_w hT hW (Or.inl (by first | rfl | decide)) 585 (by decide +kernel)
set_option maxHeartbeats 4000000 in
set_option maxRecDepth 100000 in
theorem c_L_low (l : Launch) {S : State} {D : va_G} {tc : Nat → ClassId} {A : Nat → Prop} {dz : Nat} (hZ : zB S D tc A dz) {H0 : Heap} {x : Int32} {n : Int} (hn : 0 < n ∧ n ≤ 2147483647) : zM l S A yL_low cL_low 2 (Option.some Jvm.ClassFile.FieldType.int)  { frames := 1, locals := 20, cells := 0, slots := 0 } [.int (x), .int (zi (n))] (fun H => H = H0) (fun v H => H = H0 ∧ ∃ r : Int, (0 ≤ r ∧ r < n) ∧ v = some (.int (zi r))) := by
  refine zM.mk (by decide +kernel) (Nat.le_of_ble_eq_true rfl) ?_
  intro p e s m below meth c ls X0 hR hl
  obtain ⟨hx, hb, hml, hr, hlocks, hown, hnm, hW, hpre, hA⟩ := X0
  have X : zH S A p s m c cL_low 2 RL := ⟨hx, hb, hml, hown, hW, hpre, hA, hZ.2.2.1⟩
  have hT := hZ.1
  have hK := va_K.moved hW.alike hZ.2.1
  have hS : va_S A s.heap s.heap [] := va_S.rf
  have hl : lv_has ls 2 [(0, .int (x)), (1, .int (zi (n)))] := hl
  refine lv_iload_n hx hb dL_low_0 rfl (lv_at hl 0 rfl) ?_
  refine lv_ldc (v := zi (2147483647)) hx hb hown (q_109 hT hW) dL_low_1 ?_
  refine lv_iand hx hb dL_low_3 ?_
  refine lv_iload_n hx hb dL_low_4 rfl (lv_at hl 1 rfl) ?_
  obtain ⟨z, hz, ez⟩ := z_and31 x
  rw [ez]
  refine z_irem (a := z) (b := n) hx hb dL_low_5 (by omega) ?_
  exact z_iret hx hb hr hlocks hS (by show 0 ≤ 0; omega) (by show 0 ≤ 0; omega) dL_low_6 ⟨hR, z % n, ⟨Int.emod_nonneg _ (by omega), Int.emod_lt_of_pos _ hn.1⟩, rfl⟩
set_option maxHeartbeats 4000000 in
set_option maxRecDepth 100000 in
theorem c_L_cell (l : Launch) {S : State} {D : va_G} {tc : Nat → ClassId} {A : Nat → Prop} {dz : Nat} (hZ : zB S D tc A dz) {H0 : Heap} {b L : Nat} {xs : Nat → Int32} {k : Int} (hbS : b < S.heap.size) (hL : L ≤ 260) (hk : 0 ≤ k ∧ k ≤ 1000) : zM l S A yL_cell cL_cell 2 (Option.some Jvm.ClassFile.FieldType.int)  { frames := 1, locals := 20, cells := 0, slots := 0 } [.ref (b), .int (zi (k))] (fun H => H = H0 ∧ va_X b L xs S H) (fun v H => H = H0 ∧ ∃ r : Int, (-2147483648 ≤ r ∧ r ≤ 2147483647) ∧ v = some (.int (zi r))) := by
  refine zM.mk (by decide +kernel) (Nat.le_of_ble_eq_true rfl) ?_
  intro p e s m below meth c ls X0 hR hl
  obtain ⟨hx, hb, hml, hr, hlocks, hown, hnm, hW, hpre, hA⟩ := X0
  have X : zH S A p s m c cL_cell 2 RL := ⟨hx, hb, hml, hown, hW, hpre, hA, hZ.2.2.1⟩
  have hT := hZ.1
  have hK := va_K.moved hW.alike hZ.2.1
  have hS : va_S A s.heap s.heap [] := va_S.rf
  have hl : lv_has ls 2 [(0, .ref (b)), (1, .int (zi (k)))] := hl
  have hXs : va_X b L xs s s.heap := va_X.moved hW.alike hR.2
  have hbA : ¬ A b := fun z => absurd (hZ.2.2.1 b z) (by omega)
  have hbl : b < s.heap.size := Nat.lt_of_lt_of_le hbS hpre.1
  refine lv_iload_n hx hb dL_cell_0 rfl (lv_at hl 1 rfl) ?_
  refine lv_aload_n hx hb dL_cell_1 rfl (lv_at hl 0 rfl) ?_
  refine va_slen hx hb hXs hbl hbA hS dL_cell_2 ?_
  rw [show Int32.ofNat L = zi (L : Int) from Int32.ofInt_eq_ofNat.symm]
  refine z_icmp_ge (a := k) (b := (L : Int)) (tgt := 12) hx hb dL_cell_3 (by decide) (by omega) (fun h_3 => ?_) (fun h_3 => ?_)
  · skip
    refine lv_ldc (v := zi (2753951)) hx hb hown (q_105 hT hW) dL_cell_12 ?_
    refine lv_iload_n hx hb dL_cell_14 rfl (lv_at hl 1 rfl) ?_
    refine z_imul (a := 2753951) (b := k) hx hb dL_cell_15 ?_
    refine lv_sipush (v := zi (13103)) hx hb dL_cell_16 rfl ?_
    refine z_iadd (a := (2753951 * k)) (b := 13103) hx hb dL_cell_19 ?_
    obtain ⟨z, hz, ez⟩ := zi_ex (zi (((2753951 * k) + 13103)))
    rw [ez]
    exact z_iret hx hb hr hlocks hS (by show 0 ≤ 0; omega) (by show 0 ≤ 0; omega) dL_cell_20 ⟨hR.1, z, hz, rfl⟩
  · skip
    refine lv_aload_n hx hb dL_cell_6 rfl (lv_at hl 0 rfl) ?_
    refine lv_iload_n hx hb dL_cell_7 rfl (lv_at hl 1 rfl) ?_
    obtain ⟨z, hz, ez⟩ := zi_ex (xs k.toNat)
    refine va_sld hx hb hXs hbl hbA hS (zi_in (by omega)) dL_cell_8 ?_
    rw [zi_clamp (by omega), ez]
    refine lv_goto (tgt := 20) hx hb dL_cell_9 (by decide) ?_
    exact z_iret hx hb hr hlocks hS (by show 0 ≤ 0; omega) (by show 0 ≤ 0; omega) dL_cell_20 ⟨hR.1, z, hz, rfl⟩
set_option maxHeartbeats 4000000 in
set_option maxRecDepth 100000 in
theorem c_L_boat (l : Launch) {S : State} {D : va_G} {tc : Nat → ClassId} {A : Nat → Prop} {dz : Nat} (hZ : zB S D tc A dz) {ad : Nat → Nat} {u : zS_} {a n : Int} (hflags : l.stackTraces = false) (hNC : zNC S) (hO : zOk u) (h0 : -2147483648 ≤ a ∧ a ≤ 2147483647) (h3 : 0 ≤ n ∧ n ≤ 3) : zMH l S A yL_boat cL_boat 4 (Option.some Jvm.ClassFile.FieldType.int) [((0 : Nat), (6 : Nat), (7 : Nat), (33 : Nat))] { frames := 9, locals := 263, cells := 2, slots := 12 } [.ref (ad 0), .int (zi (a)), .int (zi (n))] (zHC D tc dz A ad u) (fun v H => v = some (.int (zi (vB u a n))) ∧ zHC D tc dz A ad u H) := by
  refine zMH.mk (by decide +kernel) (Nat.le_of_ble_eq_true rfl) (fun args s hW => q_578 hZ.1 hW) ?_
  intro p e s m below meth c ls X0 htab hR hl
  obtain ⟨hx, hb, hml, hr, hlocks, hown, hnm, hW, hpre, hA⟩ := X0
  have X : zH S A p s m c cL_boat 4 RL := ⟨hx, hb, hml, hown, hW, hpre, hA, hZ.2.2.1⟩
  have hT := hZ.1
  have hK := va_K.moved hW.alike hZ.2.1
  have hS : va_S A s.heap s.heap [] := va_S.rf
  have hl : lv_has ls 4 [(0, .ref (ad 0)), (1, .int (zi (a))), (2, .int (zi (n)))] := hl
  have hHC := hR
  obtain ⟨aB, aC, aD, nd, dd, Wd, w, hC, hD, hRw⟩ := hR
  refine lv_aload_n hx hb dL_boat_0 rfl (lv_at hl 0 rfl) ?_
  refine lv_iload_n hx hb dL_boat_1 rfl (lv_at hl 1 rfl) ?_
  refine lv_iload_n hx hb dL_boat_2 rfl (lv_at hl 2 rfl) ?_
  refine z_invVXB (n := 2) (C := RX5) (B := A) (fun q h => h) (c_X5_ofBoat l hflags hZ (a := a) (n := n) (by omega) hO.1 hO.2.1) X hS (fun q h => hA q (Nat.le_trans hS.1 h)) hHC hl.1 (q_582 hT hW) (q_1 hT hW) (q_579 hT hW) (q_580 hT hW) (q_581 hT hW) (z_recv hK hRw hC.mk rfl) (by decide +kernel) rfl ⟨Nat.le_of_ble_eq_true rfl, Nat.le_of_ble_eq_true rfl⟩ ⟨by show 0 + 2 ≤ 2; omega, by show 0 + 12 ≤ 12; omega⟩ (Nat.le_of_ble_eq_true rfl) dL_boat_3 (fun E ce q9 H locs hv hfr hS hq9 hcv hcl => ?_) (fun v H locs hv hfr hS => ?_) rfl
  · skip
    obtain ⟨hc1, hE, hHC⟩ := hv
    have hcd : mcOfB u a n = 1 := by unfold mcOfB at hc1 ⊢; omega
    have hE1 : E = "java/lang/IndexOutOfBoundsException" := by rw [hE, hcd]; rfl
    subst hE1
    refine vx_catch hown [] ⟨0, 6, 7, 33⟩ [] (htab.trans rfl) (fun z hz => nomatch hz) (by decide) (by decide) (q_113 hT hW) (va_Nw.use rfl (q_125 hT hW)) hq9 hcv hcl ?_
    refine lv_astore_n (lv' := [(3, .ref (q9)), (0, .ref (ad 0)), (1, .int (zi (a))), (2, .int (zi (n)))]) hx hb dL_boat_7 rfl hl (by decide) rfl (fun ls hl => ?_)
    refine lv_bipush (v := zi (-2)) hx hb dL_boat_8 rfl ?_
    exact vx_ret (z_iret hx hb hr hlocks hS (by show 0 + 2 ≤ 2; omega) (by show 0 + 12 ≤ 12; omega) dL_boat_10 ⟨by rw [vB_out (by unfold mcOfB at hcd; omega)], hHC⟩)
  · skip
    obtain ⟨hcd, rfl, hHC⟩ := hv
    exact vx_ret (z_iret hx hb hr hlocks hS (by show 0 + 2 ≤ 2; omega) (by show 0 + 12 ≤ 12; omega) dL_boat_6 ⟨by rw [vB_in (by unfold mcOfB at hcd; omega)], hHC⟩)
set_option maxHeartbeats 4000000 in
set_option maxRecDepth 100000 in
theorem c_L_call (l : Launch) {S : State} {D : va_G} {tc : Nat → ClassId} {A : Nat → Prop} {dz : Nat} (hZ : zB S D tc A dz) {ad : Nat → Nat} {u : zS_} {a n : Int} (hflags : l.stackTraces = false) (hNC : zNC S) (hO : zOk u) (h0 : -2147483648 ≤ a ∧ a ≤ 2147483647) (h3 : 0 ≤ n ∧ n ≤ 3) : zMH l S A yL_call cL_call 4 (Option.some Jvm.ClassFile.FieldType.int) [((0 : Nat), (6 : Nat), (7 : Nat), (33 : Nat))] { frames := 9, locals := 263, cells := 2, slots := 12 } [.ref (ad 0), .int (zi (a)), .int (zi (n))] (zHC D tc dz A ad u) (fun v H => v = some (.int (zi (vC u a n))) ∧ zHC D tc dz A ad u H) := by
  refine zMH.mk (by decide +kernel) (Nat.le_of_ble_eq_true rfl) (fun args s hW => q_585 hZ.1 hW) ?_
  intro p e s m below meth c ls X0 htab hR hl
  obtain ⟨hx, hb, hml, hr, hlocks, hown, hnm, hW, hpre, hA⟩ := X0
  have X : zH S A p s m c cL_call 4 RL := ⟨hx, hb, hml, hown, hW, hpre, hA, hZ.2.2.1⟩
  have hT := hZ.1
  have hK := va_K.moved hW.alike hZ.2.1
  have hS : va_S A s.heap s.heap [] := va_S.rf
  have hl : lv_has ls 4 [(0, .ref (ad 0)), (1, .int (zi (a))), (2, .int (zi (n)))] := hl
  have hHC := hR
  obtain ⟨aB, aC, aD, nd, dd, Wd, w, hC, hD, hRw⟩ := hR
  refine lv_aload_n hx hb dL_call_0 rfl (lv_at hl 0 rfl) ?_
  refine lv_iload_n hx hb dL_call_1 rfl (lv_at hl 1 rfl) ?_
  refine lv_iload_n hx hb dL_call_2 rfl (lv_at hl 2 rfl) ?_
  refine z_invVXB (n := 2) (C := RX5) (B := A) (fun q h => h) (c_X5_ofCall l hflags hZ (a := a) (n := n) (by omega) hO.1 hO.2.1) X hS (fun q h => hA q (Nat.le_trans hS.1 h)) hHC hl.1 (q_589 hT hW) (q_1 hT hW) (q_586 hT hW) (q_587 hT hW) (q_588 hT hW) (z_recv hK hRw hC.mk rfl) (by decide +kernel) rfl ⟨Nat.le_of_ble_eq_true rfl, Nat.le_of_ble_eq_true rfl⟩ ⟨by show 0 + 2 ≤ 2; omega, by show 0 + 12 ≤ 12; omega⟩ (Nat.le_of_ble_eq_true rfl) dL_call_3 (fun E ce q9 H locs hv hfr hS hq9 hcv hcl => ?_) (fun v H locs hv hfr hS => ?_) rfl
  · skip
    obtain ⟨hc1, hE, hHC⟩ := hv
    have hcd : mcOfC u a n = 1 := by unfold mcOfC at hc1 ⊢; omega
    have hE1 : E = "java/lang/IndexOutOfBoundsException" := by rw [hE, hcd]; rfl
    subst hE1
    refine vx_catch hown [] ⟨0, 6, 7, 33⟩ [] (htab.trans rfl) (fun z hz => nomatch hz) (by decide) (by decide) (q_113 hT hW) (va_Nw.use rfl (q_125 hT hW)) hq9 hcv hcl ?_
    refine lv_astore_n (lv' := [(3, .ref (q9)), (0, .ref (ad 0)), (1, .int (zi (a))), (2, .int (zi (n)))]) hx hb dL_call_7 rfl hl (by decide) rfl (fun ls hl => ?_)
    refine lv_bipush (v := zi (-2)) hx hb dL_call_8 rfl ?_
    exact vx_ret (z_iret hx hb hr hlocks hS (by show 0 + 2 ≤ 2; omega) (by show 0 + 12 ≤ 12; omega) dL_call_10 ⟨by rw [vC_out (by unfold mcOfC at hcd; omega)], hHC⟩)
  · skip
    obtain ⟨hcd, rfl, hHC⟩ := hv
    exact vx_ret (z_iret hx hb hr hlocks hS (by show 0 + 2 ≤ 2; omega) (by show 0 + 12 ≤ 12; omega) dL_call_6 ⟨by rw [vC_in (by unfold mcOfC at hcd; omega)], hHC⟩)
