/-! ArrayList: size, get, add, the constructor -/
theorem zB.dflt {S s : State} {D : va_G} {tc : Nat → ClassId} {A : Nat → Prop} {dz : Nat} (hZ : zB S D tc A dz) (hW : S.WarmedH s.vm) (hp : zP S s.heap) : va_Z "java/util/ArrayList" "DEFAULTCAPACITY_EMPTY_ELEMENTDATA" "[Ljava/lang/Object;" (.ref dz) A s s.heap := by
  have h1 := va_Z.moved hW.alike hZ.2.2.2.1
  have h2 := va_Z.narrow h1 (B := A) hZ.2.2.1
  have h3 : va_Z "java/util/ArrayList" "DEFAULTCAPACITY_EMPTY_ELEMENTDATA" "[Ljava/lang/Object;" (.ref dz) A s S.heap := h2
  exact va_Z.kept h3 (fun a ha _ => hp.2 a ha)
theorem zB.empty {S s : State} {D : va_G} {tc : Nat → ClassId} {A : Nat → Prop} {dz : Nat} (hZ : zB S D tc A dz) (hW : S.WarmedH s.vm) (hp : zP S s.heap) : va_T (.object "java/lang/Object") dz 0 (fun _ => .null) A s s.heap := by
  have h1 := va_T.moved hW.alike hZ.2.2.2.2.1
  have h2 := va_T.narrow h1 (B := A) hZ.2.2.1
  exact va_T.kept h2 (fun a ha _ => hp.2 a ha)
theorem zB.mirror {S s : State} {D : va_G} {tc : Nat → ClassId} {A : Nat → Prop} {dz : Nat} (hZ : zB S D tc A dz) (hW : S.WarmedH s.vm) : ∃ mi : Nat, va_Mi "[Ljava/lang/Object;" mi s := by
  obtain ⟨mi, h⟩ := hZ.2.2.2.2.2.2.2.1
  exact ⟨mi, va_Mi.moved hW.alike h⟩
def zcap (c : Nat) : Prop := c = 0 ∨ c = 10 ∨ c = 15 ∨ c = 22 ∨ c = 33
section ZQQ
variable {p : Program} {l : Launch} {e : Env} {R : Room} {s : State} {m : MethodId} {args : Array Value} {below : List Frame} {meth : Method} {c : Code} {H : Heap} {locs : List Loc} {cells slots : Nat} {Q : State → Prop}
variable {cc : ByteArray} {pc : Nat} {ls : Array Slot} {rest : List Value} {D : va_G} {A : Nat → Prop} {a : Nat} {tys : List (ClassId × FieldType)} {w : zW}
/-- System.arraycopy of the first n references -/
theorem z_copyq (hx : p.tables.exec = Jvm.exec) (hb : c.code = cc) (hml : c.maxLocals = ls.size) {own : String} {index : Nat} (hown : s.vm.findClass own = some m.cls) (hlink : (Cond.methodLink own index arraycopyName).before args s = true) (hnat : (Cond.native arraycopyName).before args s = true) (hstat : (Cond.static arraycopyName).before args s = true) (hini : (Cond.initialized "java/lang/System").before args s = true)
    (hK : va_K D vwCl tys s) (hR : zR D A w H) (hS : va_S A s.heap H locs) (t0 : Nat) {a0 : Nat} {c0 : ClassId} {n0 n1 : Nat} {f g : Nat → Option Nat} {E : String} (ha0 : w a0 = some (.inl (c0, n0, .inr (.inr (.inr (.inr f)))))) (ha1 : w a = some (.inl (c0, n1, .inr (.inr (.inr (.inr g)))))) (ht0 : tys[t0]? = some (c0, .object E))
    {n : Int} (hn : 0 ≤ n ∧ n ≤ n0 ∧ n ≤ n1 ∧ n ≤ 1000000) (hel : ∀ i : Nat, i < n.toNat → ∀ y : Nat, f i = some y → va_Any E s H y)
    (hframes : 1 ≤ R.frames) (hlocals : (rest.map fun v => v.category).sum + (nativeFrameWords "java/lang/System" "arraycopy" 5 + 11) ≤ R.locals) (hdg : decode cc pc = .ok (.invokestatic index, 3))
    (kk : ∀ (H1 : Heap) (locs1 : List Loc), zR D A (zu w a (.inl (c0, n1, .inr (.inr (.inr (.inr (va_cpy f g 0 0 n.toNat))))))) H1 → va_S A s.heap H1 locs1 → W p l e R s m args below meth c H1 locs1 cells slots Q (F0 m (pc + 3) ls rest)) : W p l e R s m args below meth c H locs cells slots Q (F0 m pc ls (.int (zi n) :: .int (zi 0) :: .ref a :: .int (zi 0) :: .ref a0 :: rest)) := by
  obtain ⟨ws, hP, hD, hw⟩ := hR
  obtain ⟨q0, h0⟩ := hw _ _ ha0
  obtain ⟨q1, h1⟩ := hw _ _ ha1
  have z0 : (zi 0).toNatClampNeg = 0 := by decide
  have zn : (zi n).toNatClampNeg = n.toNat := zi_clamp (by omega)
  refine va_copyM hx hb hml hown hlink hnat hstat hini hK hP hD hS q0 q1 t0 t0 h0 h1 ht0 ht0 (by decide) (by decide) (by rw [← zi_0, zi_lt (by omega)]; omega) (by rw [z0, zn]; omega) (by rw [z0, zn]; omega) (fun i hi y hy => ?_) hframes hlocals hdg (fun H1 locs1 hP1 hD1 hS1 => ?_)
  · rw [z0, Nat.zero_add] at hy
    rw [zn] at hi
    exact hel i hi y hy
  · rw [z0, zn] at hP1 hD1
    exact kk H1 locs1 ⟨_, hP1, hD1, zR_set h1 hw⟩ hS1
end ZQQ
set_option maxHeartbeats 4000000 in
set_option maxRecDepth 100000 in
theorem c_Jx4a65c_size_8abf5 (l : Launch) {S : State} {D : va_G} {tc : Nat → ClassId} {A : Nat → Prop} {dz : Nat} (hZ : zB S D tc A dz) {w : zW} {b ea : Nat} {mo n : Int} (hb0 : w b = some (.inr (0, [.int (zi (mo)), .ref (ea), .int (zi (n))]))) : zM l S A yJx4a65c_size_8abf5 cJx4a65c_size_8abf5 1 (Option.some Jvm.ClassFile.FieldType.int) { frames := 1, locals := 20, cells := 0, slots := 0 } [.ref (b)] (zR D A w) (fun v H => v = some (.int (zi n)) ∧ zR D A w H) := by
  refine zM.mk (by decide +kernel) (Nat.le_of_ble_eq_true rfl) ?_
  intro p e s m below meth c ls X0 hR hl
  obtain ⟨hx, hb, hml, hr, hlocks, hown, hnm, hW, hpre, hA⟩ := X0
  have X : zH S A p s m c cJx4a65c_size_8abf5 1 RJx4a65c := ⟨hx, hb, hml, hown, hW, hpre, hA, hZ.2.2.1⟩
  have hT := hZ.1
  have hK := va_K.moved hW.alike hZ.2.1
  have hS : va_S A s.heap s.heap [] := va_S.rf
  have hl : lv_has ls 1 [(0, .ref (b))] := hl
  skip
  refine lv_aload_n hx hb dJx4a65c_size_8abf5_0 rfl (lv_at hl 0 rfl) ?_
  refine z_get hx hb (q_wsJx4a65c hT hW) hown hK hR hb0 rfl 2 (by decide) (q_62 hT hW) (fun _ h => h) rfl dJx4a65c_size_8abf5_1 ?_
  exact z_iret hx hb hr hlocks hS (by decide) (by decide) dJx4a65c_size_8abf5_4 ⟨rfl, hR⟩
set_option maxHeartbeats 4000000 in
set_option maxRecDepth 100000 in
theorem c_J3_checkIndex_8e157 (l : Launch) {S : State} {D : va_G} {tc : Nat → ClassId} {A : Nat → Prop} {dz : Nat} (hZ : zB S D tc A dz) {P : Heap → Prop} {i n : Int} (h0 : 0 ≤ i ∧ i < n ∧ n ≤ 1000000) : zM l S A yJ3_checkIndex_8e157 cJ3_checkIndex_8e157 3 (Option.some Jvm.ClassFile.FieldType.int) { frames := 1, locals := 20, cells := 0, slots := 0 } [.int (zi (i)), .int (zi (n)), .null] (P) (fun v H => v = some (.int (zi i)) ∧ P H) := by
  refine zM.mk (by decide +kernel) (Nat.le_of_ble_eq_true rfl) ?_
  intro p e s m below meth c ls X0 hR hl
  obtain ⟨hx, hb, hml, hr, hlocks, hown, hnm, hW, hpre, hA⟩ := X0
  have X : zH S A p s m c cJ3_checkIndex_8e157 3 RJ3 := ⟨hx, hb, hml, hown, hW, hpre, hA, hZ.2.2.1⟩
  have hT := hZ.1
  have hK := va_K.moved hW.alike hZ.2.1
  have hS : va_S A s.heap s.heap [] := va_S.rf
  have hl : lv_has ls 3 [(0, .int (zi (i))), (1, .int (zi (n))), (2, .null)] := hl
  skip
  refine lv_iload_n hx hb dJ3_checkIndex_8e157_0 rfl (lv_at hl 0 rfl) ?_
  refine z_if_lt (a := i) (tgt := 9) hx hb dJ3_checkIndex_8e157_1 (by decide) (by omega) (fun h_1 => ?_) (fun h_1 => ?_)
  · skip
    exact absurd h_1 (by omega)
  · skip
    refine lv_iload_n hx hb dJ3_checkIndex_8e157_4 rfl (lv_at hl 0 rfl) ?_
    refine lv_iload_n hx hb dJ3_checkIndex_8e157_5 rfl (lv_at hl 1 rfl) ?_
    refine z_icmp_lt (a := i) (b := n) (tgt := 16) hx hb dJ3_checkIndex_8e157_6 (by decide) (by omega) (fun h_6 => ?_) (fun h_6 => ?_)
    · skip
      refine lv_iload_n hx hb dJ3_checkIndex_8e157_16 rfl (lv_at hl 0 rfl) ?_
      exact z_iret hx hb hr hlocks hS (by decide) (by decide) dJ3_checkIndex_8e157_17 ⟨rfl, hR⟩
    · skip
      exact absurd h_6 (by omega)
set_option maxHeartbeats 4000000 in
set_option maxRecDepth 100000 in
theorem c_J15_checkIndex_7cf53 (l : Launch) {S : State} {D : va_G} {tc : Nat → ClassId} {A : Nat → Prop} {dz : Nat} (hZ : zB S D tc A dz) {P : Heap → Prop} {i n : Int} (h0 : 0 ≤ i ∧ i < n ∧ n ≤ 1000000) : zM l S A yJ15_checkIndex_7cf53 cJ15_checkIndex_7cf53 2 (Option.some Jvm.ClassFile.FieldType.int) { frames := 2, locals := 50, cells := 0, slots := 0 } [.int (zi (i)), .int (zi (n))] (P) (fun v H => v = some (.int (zi i)) ∧ P H) := by
  refine zM.mk (by decide +kernel) (Nat.le_of_ble_eq_true rfl) ?_
  intro p e s m below meth c ls X0 hR hl
  obtain ⟨hx, hb, hml, hr, hlocks, hown, hnm, hW, hpre, hA⟩ := X0
  have X : zH S A p s m c cJ15_checkIndex_7cf53 2 RJ15 := ⟨hx, hb, hml, hown, hW, hpre, hA, hZ.2.2.1⟩
  have hT := hZ.1
  have hK := va_K.moved hW.alike hZ.2.1
  have hS : va_S A s.heap s.heap [] := va_S.rf
  have hl : lv_has ls 2 [(0, .int (zi (i))), (1, .int (zi (n)))] := hl
  skip
  refine lv_iload_n hx hb dJ15_checkIndex_7cf53_0 rfl (lv_at hl 0 rfl) ?_
  refine lv_iload_n hx hb dJ15_checkIndex_7cf53_1 rfl (lv_at hl 1 rfl) ?_
  refine lv_null hx hb dJ15_checkIndex_7cf53_2 ?_
  refine z_invS (n := 3) (c_J3_checkIndex_8e157 l hZ (P := P) h0) X hS hR hl.1 (q_380 hT hW) (q_19 hT hW) (q_378 hT hW) (q_379 hT hW) (by decide +kernel) rfl ⟨Nat.le_of_ble_eq_true rfl, Nat.le_of_ble_eq_true rfl⟩ ⟨Nat.le_of_ble_eq_true rfl, Nat.le_of_ble_eq_true rfl⟩ (Nat.le_of_ble_eq_true rfl) dJ15_checkIndex_7cf53_3 (fun v H locs hv hS => ?_) rfl
  obtain ⟨rfl, hR⟩ := hv
  exact z_iret hx hb hr hlocks hS (by decide) (by decide) dJ15_checkIndex_7cf53_6 ⟨rfl, hR⟩
set_option maxHeartbeats 4000000 in
set_option maxRecDepth 100000 in
theorem c_Jx4a65c_elementData_915e3 (l : Launch) {S : State} {D : va_G} {tc : Nat → ClassId} {A : Nat → Prop} {dz : Nat} (hZ : zB S D tc A dz) {w : zW} {b ea : Nat} {mo n : Int} (hb0 : w b = some (.inr (0, [.int (zi (mo)), .ref (ea), .int (zi (n))]))) {cap : Nat} {el : Nat → Option Nat} (hea : w ea = some (.inl (tc 4, cap, .inr (.inr (.inr (.inr el)))))) {i : Int} (h0 : 0 ≤ i ∧ i < n ∧ n ≤ cap ∧ cap ≤ 1000) : zM l S A yJx4a65c_elementData_915e3 cJx4a65c_elementData_915e3 2 (Option.some (Jvm.ClassFile.FieldType.object "java/lang/Object")) { frames := 1, locals := 20, cells := 0, slots := 0 } [.ref (b), .int (zi (i))] (zR D A w) (fun v H => v = some (va_rf (el i.toNat)) ∧ zR D A w H) := by
  refine zM.mk (by decide +kernel) (Nat.le_of_ble_eq_true rfl) ?_
  intro p e s m below meth c ls X0 hR hl
  obtain ⟨hx, hb, hml, hr, hlocks, hown, hnm, hW, hpre, hA⟩ := X0
  have X : zH S A p s m c cJx4a65c_elementData_915e3 2 RJx4a65c := ⟨hx, hb, hml, hown, hW, hpre, hA, hZ.2.2.1⟩
  have hT := hZ.1
  have hK := va_K.moved hW.alike hZ.2.1
  have hS : va_S A s.heap s.heap [] := va_S.rf
  have hl : lv_has ls 2 [(0, .ref (b)), (1, .int (zi (i)))] := hl
  skip
  refine lv_aload_n hx hb dJx4a65c_elementData_915e3_0 rfl (lv_at hl 0 rfl) ?_
  refine z_get hx hb (q_wsJx4a65c hT hW) hown hK hR hb0 rfl 1 (by decide) (q_61 hT hW) (fun _ h => h) rfl dJx4a65c_elementData_915e3_1 ?_
  refine lv_iload_n hx hb dJx4a65c_elementData_915e3_4 rfl (lv_at hl 1 rfl) ?_
  refine z_aald (i := i) hx hb hK hR 4 hea rfl (by omega) dJx4a65c_elementData_915e3_5 ?_
  exact z_aret (r := el (i).toNat) hx hb hr (Or.inl ⟨_, rfl⟩) hlocks hS (by decide) (by decide) dJx4a65c_elementData_915e3_6 ⟨rfl, hR⟩
set_option maxHeartbeats 4000000 in
set_option maxRecDepth 100000 in
theorem c_Jx4a65c_get_915e3 (l : Launch) {S : State} {D : va_G} {tc : Nat → ClassId} {A : Nat → Prop} {dz : Nat} (hZ : zB S D tc A dz) {w : zW} {b ea : Nat} {mo n : Int} (hb0 : w b = some (.inr (0, [.int (zi (mo)), .ref (ea), .int (zi (n))]))) {cap : Nat} {el : Nat → Option Nat} (hea : w ea = some (.inl (tc 4, cap, .inr (.inr (.inr (.inr el)))))) {i : Int} (h0 : 0 ≤ i ∧ i < n ∧ n ≤ cap ∧ cap ≤ 1000) : zM l S A yJx4a65c_get_915e3 cJx4a65c_get_915e3 2 (Option.some (Jvm.ClassFile.FieldType.object "java/lang/Object")) { frames := 3, locals := 80, cells := 0, slots := 0 } [.ref (b), .int (zi (i))] (zR D A w) (fun v H => v = some (va_rf (el i.toNat)) ∧ zR D A w H) := by
  refine zM.mk (by decide +kernel) (Nat.le_of_ble_eq_true rfl) ?_
  intro p e s m below meth c ls X0 hR hl
  obtain ⟨hx, hb, hml, hr, hlocks, hown, hnm, hW, hpre, hA⟩ := X0
  have X : zH S A p s m c cJx4a65c_get_915e3 2 RJx4a65c := ⟨hx, hb, hml, hown, hW, hpre, hA, hZ.2.2.1⟩
  have hT := hZ.1
  have hK := va_K.moved hW.alike hZ.2.1
  have hS : va_S A s.heap s.heap [] := va_S.rf
  have hl : lv_has ls 2 [(0, .ref (b)), (1, .int (zi (i)))] := hl
  skip
  refine lv_iload_n hx hb dJx4a65c_get_915e3_0 rfl (lv_at hl 1 rfl) ?_
  refine lv_aload_n hx hb dJx4a65c_get_915e3_1 rfl (lv_at hl 0 rfl) ?_
  refine z_get hx hb (q_wsJx4a65c hT hW) hown hK hR hb0 rfl 2 (by decide) (q_62 hT hW) (fun _ h => h) rfl dJx4a65c_get_915e3_2 ?_
  refine z_invS (n := 2) (c_J15_checkIndex_7cf53 l hZ (P := zR D A w) (i := i) (n := n) (by omega)) X hS hR hl.1 (q_377 hT hW) (q_18 hT hW) (q_375 hT hW) (q_376 hT hW) (by decide +kernel) rfl ⟨Nat.le_of_ble_eq_true rfl, Nat.le_of_ble_eq_true rfl⟩ ⟨Nat.le_of_ble_eq_true rfl, Nat.le_of_ble_eq_true rfl⟩ (Nat.le_of_ble_eq_true rfl) dJx4a65c_get_915e3_5 (fun v H locs hv hS => ?_) rfl
  obtain ⟨rfl, hR⟩ := hv
  refine lv_pop hx hb dJx4a65c_get_915e3_8 rfl ?_
  refine lv_aload_n hx hb dJx4a65c_get_915e3_9 rfl (lv_at hl 0 rfl) ?_
  refine lv_iload_n hx hb dJx4a65c_get_915e3_10 rfl (lv_at hl 1 rfl) ?_
  refine z_invV (n := 1) (C := RJx4a65c) (c_Jx4a65c_elementData_915e3 l hZ hb0 hea h0) X hS hR hl.1 (q_384 hT hW) (q_6 hT hW) (q_381 hT hW) (q_382 hT hW) (q_383 hT hW) (z_recv hK hR hb0 rfl) (by decide +kernel) rfl ⟨Nat.le_of_ble_eq_true rfl, Nat.le_of_ble_eq_true rfl⟩ ⟨Nat.le_of_ble_eq_true rfl, Nat.le_of_ble_eq_true rfl⟩ (Nat.le_of_ble_eq_true rfl) dJx4a65c_get_915e3_11 (fun v H locs hv hS => ?_) rfl
  obtain ⟨rfl, hR⟩ := hv
  exact z_aret (r := el i.toNat) hx hb hr (Or.inl ⟨_, rfl⟩) hlocks hS (by decide) (by decide) dJx4a65c_get_915e3_14 ⟨rfl, hR⟩
set_option maxHeartbeats 4000000 in
set_option maxRecDepth 100000 in
theorem c_Jxa1e45_init_da8c8 (l : Launch) {S : State} {D : va_G} {tc : Nat → ClassId} {A : Nat → Prop} {dz : Nat} (hZ : zB S D tc A dz) {P : Heap → Prop} {b : Nat} : zM l S A yJxa1e45_init_da8c8 cJxa1e45_init_da8c8 1 (Option.none : Option Jvm.ClassFile.FieldType) { frames := 2, locals := 40, cells := 0, slots := 0 } [.ref (b)] (P) (fun v H => v = none ∧ P H) := by
  refine zM.mk (by decide +kernel) (Nat.le_of_ble_eq_true rfl) ?_
  intro p e s m below meth c ls X0 hR hl
  obtain ⟨hx, hb, hml, hr, hlocks, hown, hnm, hW, hpre, hA⟩ := X0
  have X : zH S A p s m c cJxa1e45_init_da8c8 1 RJxa1e45 := ⟨hx, hb, hml, hown, hW, hpre, hA, hZ.2.2.1⟩
  have hT := hZ.1
  have hK := va_K.moved hW.alike hZ.2.1
  have hS : va_S A s.heap s.heap [] := va_S.rf
  have hl : lv_has ls 1 [(0, .ref (b))] := hl
  skip
  refine lv_aload_n hx hb dJxa1e45_init_da8c8_0 rfl (lv_at hl 0 rfl) ?_
  refine W.objInit hx hb hown (q_58 hT hW) (q_28 hT hW) (q_29 hT hW) rfl (by rw [hml]; exact hl.1) rfl dJxa1e45_init_da8c8_1 (Nat.le_of_ble_eq_true rfl) (Nat.le_of_ble_eq_true rfl) ?_
  refine W.eq (g2 := F0 m 4 ls []) rfl ?_
  exact z_vret hx hb hr hlocks hS (by decide) (by decide) dJxa1e45_init_da8c8_4 ⟨rfl, hR⟩
set_option maxHeartbeats 4000000 in
set_option maxRecDepth 100000 in
theorem c_Jxc12de_init_da8c8 (l : Launch) {S : State} {D : va_G} {tc : Nat → ClassId} {A : Nat → Prop} {dz : Nat} (hZ : zB S D tc A dz) {w : zW} {b : Nat} (hb0 : w b = some (.inr (0, [.int (zi 0), .null, .int (zi 0)]))) : zM l S A yJxc12de_init_da8c8 cJxc12de_init_da8c8 1 (Option.none : Option Jvm.ClassFile.FieldType) { frames := 3, locals := 70, cells := 0, slots := 0 } [.ref (b)] (zR D A w) (fun v H => v = none ∧ zR D A w H) := by
  refine zM.mk (by decide +kernel) (Nat.le_of_ble_eq_true rfl) ?_
  intro p e s m below meth c ls X0 hR hl
  obtain ⟨hx, hb, hml, hr, hlocks, hown, hnm, hW, hpre, hA⟩ := X0
  have X : zH S A p s m c cJxc12de_init_da8c8 1 RJxc12de := ⟨hx, hb, hml, hown, hW, hpre, hA, hZ.2.2.1⟩
  have hT := hZ.1
  have hK := va_K.moved hW.alike hZ.2.1
  have hS : va_S A s.heap s.heap [] := va_S.rf
  have hl : lv_has ls 1 [(0, .ref (b))] := hl
  skip
  refine lv_aload_n hx hb dJxc12de_init_da8c8_0 rfl (lv_at hl 0 rfl) ?_
  refine z_invI (n := 0) (c_Jxa1e45_init_da8c8 l hZ (P := zR D A w) (b := b)) X hS hR hl.1 rfl (q_57 hT hW) (q_4 hT hW) (q_55 hT hW) (q_56 hT hW) (by decide +kernel) rfl ⟨Nat.le_of_ble_eq_true rfl, Nat.le_of_ble_eq_true rfl⟩ ⟨Nat.le_of_ble_eq_true rfl, Nat.le_of_ble_eq_true rfl⟩ (Nat.le_of_ble_eq_true rfl) dJxc12de_init_da8c8_1 (fun v H locs hv hS => ?_) rfl
  obtain ⟨rfl, hR⟩ := hv
  refine lv_aload_n hx hb dJxc12de_init_da8c8_4 rfl (lv_at hl 0 rfl) ?_
  refine lv_iconst (v := zi (0)) hx hb dJxc12de_init_da8c8_5 rfl ?_
  refine z_put hx hb (q_wsJx4a65c hT hW) tyJx4a65c tyJx4a65c_ok nmJx4a65c hown hK hR hS hb0 rfl 0 (by decide) (q_63 hT hW) (fun _ h => h) rfl (tyJx4a65c_ok 0 (by decide)) rfl rfl (Nat.le_of_ble_eq_true rfl) dJxc12de_init_da8c8_6 (fun H locs hR hS => ?_)
  have hR : zR D A (zu w (b) (.inr (0, [.int (zi (0)), .null, .int (zi (0))]))) H := hR
  have he_1 : (zu w (b) (.inr (0, [.int (zi (0)), .null, .int (zi (0))]))) (b) = some (.inr (0, [.int (zi (0)), .null, .int (zi (0))])) := zu_eq
  exact z_vret hx hb hr hlocks hS (by decide) (by decide) dJxc12de_init_da8c8_9 ⟨rfl, by rw [zu_self hb0] at hR; exact hR⟩
set_option maxHeartbeats 4000000 in
set_option maxRecDepth 100000 in
theorem c_Jx4a65c_init_da8c8 (l : Launch) {S : State} {D : va_G} {tc : Nat → ClassId} {A : Nat → Prop} {dz : Nat} (hZ : zB S D tc A dz) {w : zW} {b : Nat} (hb0 : w b = some (.inr (0, [.int (zi 0), .null, .int (zi 0)]))) : zM l S A yJx4a65c_init_da8c8 cJx4a65c_init_da8c8 1 (Option.none : Option Jvm.ClassFile.FieldType) { frames := 4, locals := 100, cells := 0, slots := 0 } [.ref (b)] (zR D A w) (fun v H => v = none ∧ zR D A (zu w b (.inr (0, [.int (zi (0)), .ref (dz), .int (zi (0))]))) H) := by
  refine zM.mk (by decide +kernel) (Nat.le_of_ble_eq_true rfl) ?_
  intro p e s m below meth c ls X0 hR hl
  obtain ⟨hx, hb, hml, hr, hlocks, hown, hnm, hW, hpre, hA⟩ := X0
  have X : zH S A p s m c cJx4a65c_init_da8c8 1 RJx4a65c := ⟨hx, hb, hml, hown, hW, hpre, hA, hZ.2.2.1⟩
  have hT := hZ.1
  have hK := va_K.moved hW.alike hZ.2.1
  have hS : va_S A s.heap s.heap [] := va_S.rf
  have hl : lv_has ls 1 [(0, .ref (b))] := hl
  skip
  refine lv_aload_n hx hb dJx4a65c_init_da8c8_0 rfl (lv_at hl 0 rfl) ?_
  refine z_invI (n := 0) (c_Jxc12de_init_da8c8 l hZ hb0) X hS hR hl.1 rfl (q_54 hT hW) (q_5 hT hW) (q_52 hT hW) (q_53 hT hW) (by decide +kernel) rfl ⟨Nat.le_of_ble_eq_true rfl, Nat.le_of_ble_eq_true rfl⟩ ⟨Nat.le_of_ble_eq_true rfl, Nat.le_of_ble_eq_true rfl⟩ (Nat.le_of_ble_eq_true rfl) dJx4a65c_init_da8c8_1 (fun v H locs hv hS => ?_) rfl
  obtain ⟨rfl, hR⟩ := hv
  refine lv_aload_n hx hb dJx4a65c_init_da8c8_4 rfl (lv_at hl 0 rfl) ?_
  refine va_gets hx hb (hZ.dflt hW hpre) hS hown (q_59 hT hW) (fun _ h => h) dJx4a65c_init_da8c8_5 ?_
  refine z_put hx hb (q_wsJx4a65c hT hW) tyJx4a65c tyJx4a65c_ok nmJx4a65c hown hK hR hS hb0 rfl 1 (by decide) (q_61 hT hW) (fun _ h => h) rfl (tyJx4a65c_ok 1 (by decide)) rfl rfl (Nat.le_of_ble_eq_true rfl) dJx4a65c_init_da8c8_8 (fun H locs hR hS => ?_)
  have hR : zR D A (zu w (b) (.inr (0, [.int (zi (0)), .ref (dz), .int (zi (0))]))) H := hR
  have he_1 : (zu w (b) (.inr (0, [.int (zi (0)), .ref (dz), .int (zi (0))]))) (b) = some (.inr (0, [.int (zi (0)), .ref (dz), .int (zi (0))])) := zu_eq
  exact z_vret hx hb hr hlocks hS (by decide) (by decide) dJx4a65c_init_da8c8_11 ⟨rfl, hR⟩
set_option maxHeartbeats 4000000 in
set_option maxRecDepth 100000 in
theorem c_J8_newLength_cabcc (l : Launch) {S : State} {D : va_G} {tc : Nat → ClassId} {A : Nat → Prop} {dz : Nat} (hZ : zB S D tc A dz) {P : Heap → Prop} {o mg pg : Int} (h0 : 0 ≤ o ∧ o ≤ 1000 ∧ 1 ≤ mg ∧ mg ≤ 1000 ∧ 0 ≤ pg ∧ pg ≤ 1000) : zM l S A yJ8_newLength_cabcc cJ8_newLength_cabcc 4 (Option.some Jvm.ClassFile.FieldType.int) { frames := 1, locals := 20, cells := 0, slots := 0 } [.int (zi (o)), .int (zi (mg)), .int (zi (pg))] (P) (fun v H => v = some (.int (zi (o + (max mg pg)))) ∧ P H) := by
  refine zM.mk (by decide +kernel) (Nat.le_of_ble_eq_true rfl) ?_
  intro p e s m below meth c ls X0 hR hl
  obtain ⟨hx, hb, hml, hr, hlocks, hown, hnm, hW, hpre, hA⟩ := X0
  have X : zH S A p s m c cJ8_newLength_cabcc 4 RJ8 := ⟨hx, hb, hml, hown, hW, hpre, hA, hZ.2.2.1⟩
  have hT := hZ.1
  have hK := va_K.moved hW.alike hZ.2.1
  have hS : va_S A s.heap s.heap [] := va_S.rf
  have hl : lv_has ls 4 [(0, .int (zi (o))), (1, .int (zi (mg))), (2, .int (zi (pg)))] := hl
  skip
  refine lv_iload_n hx hb dJ8_newLength_cabcc_0 rfl (lv_at hl 0 rfl) ?_
  refine lv_iload_n hx hb dJ8_newLength_cabcc_1 rfl (lv_at hl 1 rfl) ?_
  refine lv_iload_n hx hb dJ8_newLength_cabcc_2 rfl (lv_at hl 2 rfl) ?_
  refine z_max (a := mg) (b := pg) hT X hl.1 (q_319 hT hW) (by omega) (Nat.le_of_ble_eq_true rfl) (Nat.le_of_ble_eq_true rfl) (Nat.le_of_ble_eq_true rfl) (Nat.le_of_ble_eq_true rfl) dJ8_newLength_cabcc_3 ?_
  refine z_iadd (a := o) (b := (max mg pg)) hx hb dJ8_newLength_cabcc_6 ?_
  refine lv_istore_n (lv' := [(3, .int (zi ((o + (max mg pg))))), (0, .int (zi (o))), (1, .int (zi (mg))), (2, .int (zi (pg)))]) hx hb dJ8_newLength_cabcc_7 rfl hl (by decide) rfl (fun ls hl => ?_)
  refine lv_iconst (v := zi (0)) hx hb dJ8_newLength_cabcc_8 rfl ?_
  refine lv_iload_n hx hb dJ8_newLength_cabcc_9 rfl (lv_at hl 0 rfl) ?_
  refine z_icmp_ge (a := 0) (b := (o + (max mg pg))) (tgt := 21) hx hb dJ8_newLength_cabcc_10 (by decide) (by omega) (fun h_10 => ?_) (fun h_10 => ?_)
  · skip
    exact absurd h_10 (by omega)
  · skip
    refine lv_iload_n hx hb dJ8_newLength_cabcc_13 rfl (lv_at hl 0 rfl) ?_
    refine lv_ldc (v := zi 2147483639) hx hb hown (q_322 hT hW) dJ8_newLength_cabcc_14 ?_
    refine z_icmp_gt (a := (o + (max mg pg))) (b := 2147483639) (tgt := 21) hx hb dJ8_newLength_cabcc_16 (by decide) (by omega) (fun h_16 => ?_) (fun h_16 => ?_)
    · skip
      exact absurd h_16 (by omega)
    · skip
      refine lv_iload_n hx hb dJ8_newLength_cabcc_19 rfl (lv_at hl 0 rfl) ?_
      exact z_iret hx hb hr hlocks hS (by decide) (by decide) dJ8_newLength_cabcc_20 ⟨rfl, hR⟩
set_option maxHeartbeats 4000000 in
set_option maxRecDepth 100000 in
theorem c_J7_copyOf_6403c (l : Launch) {S : State} {D : va_G} {tc : Nat → ClassId} {A : Nat → Prop} {dz : Nat} (hZ : zB S D tc A dz) {w : zW} {ea : Nat} {cap : Nat} {el : Nat → Option Nat} (hea : w ea = some (.inl (tc 4, cap, .inr (.inr (.inr (.inr el)))))) {n : Int} (h0 : (cap : Int) ≤ n ∧ n ≤ 33) (hel : ∀ i, i < cap → ∀ y, el i = some y → ∃ ci fs, (ci = 1 ∨ ci = 2 ∨ ci = 3) ∧ w y = some (.inr (ci, fs))) {mi : Nat} (hmi : va_Mi "[Ljava/lang/Object;" mi S) : zM l S A yJ7_copyOf_6403c cJ7_copyOf_6403c 4 (Option.some (Jvm.ClassFile.FieldType.array (Jvm.ClassFile.FieldType.object "java/lang/Object"))) { frames := 1, locals := 60, cells := 1, slots := 33 } [.ref (ea), .int (zi (n)), .ref (mi)] (zR D A w) (fun v H => ∃ q : Nat, v = some (va_rf (some q)) ∧ (∀ q' e', w q' = some e' → q' ≠ q) ∧ zR D A (zu w q (.inl (tc 4, n.toNat, .inr (.inr (.inr (.inr (va_cpy el (fun _ => none) 0 0 cap))))))) H) := by
  refine zM.mk (by decide +kernel) (Nat.le_of_ble_eq_true rfl) ?_
  intro p e s m below meth c ls X0 hR hl
  obtain ⟨hx, hb, hml, hr, hlocks, hown, hnm, hW, hpre, hA⟩ := X0
  have X : zH S A p s m c cJ7_copyOf_6403c 4 RJ7 := ⟨hx, hb, hml, hown, hW, hpre, hA, hZ.2.2.1⟩
  have hT := hZ.1
  have hK := va_K.moved hW.alike hZ.2.1
  have hS : va_S A s.heap s.heap [] := va_S.rf
  have hl : lv_has ls 4 [(0, .ref (ea)), (1, .int (zi (n))), (2, .ref (mi))] := hl
  skip
  refine lv_aload_n hx hb dJ7_copyOf_6403c_0 rfl (lv_at hl 2 rfl) ?_
  refine va_ldcM hx hb hown (q_346 hT hW) (va_Mi.moved hW.alike hmi) dJ7_copyOf_6403c_1 ?_
  refine lv_acmp_ne (rx := some mi) (ry := some mi) (tgt := 13) hx hb dJ7_copyOf_6403c_3 (by decide) (fun h_3 => absurd rfl h_3) (fun _ => ?_)
  refine lv_iload_n hx hb dJ7_copyOf_6403c_6 rfl (lv_at hl 1 rfl) ?_
  refine z_newq (n := n) hx hb hown (q_348 hT hW) (va_AO.moved hW.alike (va_AO.of (q_347 hT))) hK hR hS hA 4 rfl (by omega) (by show 0 + 1 ≤ 1; omega) (by show 0 + n.toNat ≤ 33; omega) dJ7_copyOf_6403c_7 (fun q H hfr hR hS => ?_)
  have hneq : ea ≠ q := hfr _ _ hea
  have he1 : (zu w q (.inl (tc 4, n.toNat, .inr (.inr (.inr (.inr (fun _ => none))))))) ea = some (.inl (tc 4, cap, .inr (.inr (.inr (.inr el))))) := (zu_ne hneq).trans hea
  have he2 : (zu w q (.inl (tc 4, n.toNat, .inr (.inr (.inr (.inr (fun _ => none))))))) q = some (.inl (tc 4, n.toNat, .inr (.inr (.inr (.inr (fun _ => none)))))) := zu_eq
  refine lv_goto (tgt := 24) hx hb dJ7_copyOf_6403c_10 (by decide) ?_
  refine lv_astore_n (lv' := [(3, .ref (q)), (0, .ref (ea)), (1, .int (zi (n))), (2, .ref (mi))]) hx hb dJ7_copyOf_6403c_24 rfl hl (by decide) rfl (fun ls hl => ?_)
  refine lv_aload_n hx hb dJ7_copyOf_6403c_25 rfl (lv_at hl 1 rfl) ?_
  refine lv_iconst (v := zi (0)) hx hb dJ7_copyOf_6403c_26 rfl ?_
  refine lv_aload_n hx hb dJ7_copyOf_6403c_27 rfl (lv_at hl 0 rfl) ?_
  refine lv_iconst (v := zi (0)) hx hb dJ7_copyOf_6403c_28 rfl ?_
  refine lv_aload_n hx hb dJ7_copyOf_6403c_29 rfl (lv_at hl 1 rfl) ?_
  refine z_alen hx hb hK hR 4 he1 rfl dJ7_copyOf_6403c_30 ?_
  refine lv_iload_n hx hb dJ7_copyOf_6403c_31 rfl (lv_at hl 2 rfl) ?_
  refine z_min (a := (cap : Int)) (b := n) hT X hl.1 (q_349 hT hW) (by omega) (Nat.le_of_ble_eq_true rfl) (Nat.le_of_ble_eq_true rfl) (by show 0 + 1 ≤ 1; omega) (by show 0 + n.toNat ≤ 33; omega) dJ7_copyOf_6403c_32 ?_
  rw [show (min ((cap : Int)) n) = (cap : Int) by omega]
  refine z_copyq (n := (cap : Int)) hx hb (hml.trans hl.1.symm) hown (q_352 hT hW) (q_354 hT hW) (q_353 hT hW) (q_17 hT hW) hK hR hS 4 he1 he2 rfl (by omega) (fun i hi y hy => ?_) (Nat.le_of_ble_eq_true rfl) (Nat.le_of_ble_eq_true rfl) dJ7_copyOf_6403c_35 (fun H locs hR hS => ?_)
  · obtain ⟨ci, fs, hci, hwy⟩ := hel i (by omega) y hy
    have hny : y ≠ q := hfr _ _ hwy
    obtain ⟨ws9, hP9, hD9, hw9⟩ := id hR
    obtain ⟨k9, hk9⟩ := hw9 y _ ((zu_ne hny).trans hwy)
    rcases hci with rfl | rfl | rfl
    · exact va_rAny hK hP9 hk9 (r := (RX0, TX0, 13)) rfl (fun comp c0 h1 h2 => by
        obtain ⟨c3, c4, hc3, hc4, hasg⟩ := Cond.castable_spec (va_Nw.use (A := #[]) rfl (q_636 hT hW))
        cases Option.some.inj (hc3.symm.trans h2)
        cases Option.some.inj (hc4.symm.trans h1)
        exact hasg)
    · exact va_rAny hK hP9 hk9 (r := (RX1, TX1, 8)) rfl (fun comp c0 h1 h2 => by
        obtain ⟨c3, c4, hc3, hc4, hasg⟩ := Cond.castable_spec (va_Nw.use (A := #[]) rfl (q_637 hT hW))
        cases Option.some.inj (hc3.symm.trans h2)
        cases Option.some.inj (hc4.symm.trans h1)
        exact hasg)
    · exact va_rAny hK hP9 hk9 (r := (RX2, TX2, 5)) rfl (fun comp c0 h1 h2 => by
        obtain ⟨c3, c4, hc3, hc4, hasg⟩ := Cond.castable_spec (va_Nw.use (A := #[]) rfl (q_638 hT hW))
        cases Option.some.inj (hc3.symm.trans h2)
        cases Option.some.inj (hc4.symm.trans h1)
        exact hasg)
  rw [zu_zu, show ((cap : Int)).toNat = cap from rfl] at hR
  refine lv_aload_n hx hb dJ7_copyOf_6403c_38 rfl (lv_at hl 0 rfl) ?_
  exact z_aret (r := some (q)) hx hb hr (Or.inr ⟨_, rfl⟩) hlocks hS (by show 0 + 1 ≤ 1; omega) (by show 0 + n.toNat ≤ 33; omega) dJ7_copyOf_6403c_39 ⟨q, rfl, hfr, hR⟩
set_option maxHeartbeats 4000000 in
set_option maxRecDepth 100000 in
theorem c_J7_copyOf_1904c (l : Launch) {S : State} {D : va_G} {tc : Nat → ClassId} {A : Nat → Prop} {dz : Nat} (hZ : zB S D tc A dz) {w : zW} {ea : Nat} {cap : Nat} {el : Nat → Option Nat} (hea : w ea = some (.inl (tc 4, cap, .inr (.inr (.inr (.inr el)))))) {n : Int} (h0 : (cap : Int) ≤ n ∧ n ≤ 33) (hel : ∀ i, i < cap → ∀ y, el i = some y → ∃ ci fs, (ci = 1 ∨ ci = 2 ∨ ci = 3) ∧ w y = some (.inr (ci, fs))) : zM l S A yJ7_copyOf_1904c cJ7_copyOf_1904c 2 (Option.some (Jvm.ClassFile.FieldType.array (Jvm.ClassFile.FieldType.object "java/lang/Object"))) { frames := 2, locals := 100, cells := 1, slots := 33 } [.ref (ea), .int (zi (n))] (zR D A w) (fun v H => ∃ q : Nat, v = some (va_rf (some q)) ∧ (∀ q' e', w q' = some e' → q' ≠ q) ∧ zR D A (zu w q (.inl (tc 4, n.toNat, .inr (.inr (.inr (.inr (va_cpy el (fun _ => none) 0 0 cap))))))) H) := by
  refine zM.mk (by decide +kernel) (Nat.le_of_ble_eq_true rfl) ?_
  intro p e s m below meth c ls X0 hR hl
  obtain ⟨hx, hb, hml, hr, hlocks, hown, hnm, hW, hpre, hA⟩ := X0
  have X : zH S A p s m c cJ7_copyOf_1904c 2 RJ7 := ⟨hx, hb, hml, hown, hW, hpre, hA, hZ.2.2.1⟩
  have hT := hZ.1
  have hK := va_K.moved hW.alike hZ.2.1
  have hS : va_S A s.heap s.heap [] := va_S.rf
  have hl : lv_has ls 2 [(0, .ref (ea)), (1, .int (zi (n)))] := hl
  skip
  refine lv_aload_n hx hb dJ7_copyOf_1904c_0 rfl (lv_at hl 0 rfl) ?_
  refine lv_iload_n hx hb dJ7_copyOf_1904c_1 rfl (lv_at hl 1 rfl) ?_
  refine lv_aload_n hx hb dJ7_copyOf_1904c_2 rfl (lv_at hl 0 rfl) ?_
  obtain ⟨mi, hmi⟩ := hZ.2.2.2.2.2.2.2.1
  obtain ⟨ws9, hP9, hD9, hw9⟩ := id hR
  obtain ⟨k9, hk9⟩ := hw9 _ _ hea
  have hrv : ∃ cell : Cell, s.heap[ea]? = some cell ∧ cell.vm.isStatics = false ∧ s.vm.findClass "[Ljava/lang/Object;" = some cell.cls := ⟨_, hP9 k9 _ hk9, rfl, by obtain ⟨-, -, -, -, -, e9⟩ := (hK.2 4 _ rfl).2; exact e9⟩
  refine va_getC hx hb (hml.trans hl.1.symm) hown (q_329 hT hW) (va_Dc.use (va_Dc.moved hW.alike (va_Dc.of (q_643 hT)))) (q_642 hT hW) (q_330 hT hW) (q_342 hT hW) (va_Mi.moved hW.alike hmi) hrv (Nat.le_of_ble_eq_true rfl) (Nat.le_of_ble_eq_true rfl) dJ7_copyOf_1904c_3 ?_
  refine z_invS (n := 3) (c_J7_copyOf_6403c l hZ hea h0 hel hmi) X hS hR hl.1 (q_345 hT hW) (q_16 hT hW) (q_343 hT hW) (q_344 hT hW) (by decide +kernel) rfl ⟨Nat.le_of_ble_eq_true rfl, Nat.le_of_ble_eq_true rfl⟩ ⟨Nat.le_of_ble_eq_true rfl, Nat.le_of_ble_eq_true rfl⟩ (Nat.le_of_ble_eq_true rfl) dJ7_copyOf_1904c_6 (fun v H locs hv hS => ?_) rfl
  obtain ⟨q, rfl, hfr, hR⟩ := hv
  exact z_aret (r := some (q)) hx hb hr (Or.inr ⟨_, rfl⟩) hlocks hS (by decide) (by decide) dJ7_copyOf_1904c_9 ⟨q, rfl, hfr, hR⟩
set_option maxHeartbeats 4000000 in
set_option maxRecDepth 100000 in
theorem c_growE (l : Launch) {S : State} {D : va_G} {tc : Nat → ClassId} {A : Nat → Prop} {dz : Nat} (hZ : zB S D tc A dz) {w : zW} {b : Nat} {mo : Int} (hb0 : w b = some (.inr (0, [.int (zi (mo)), .ref (dz), .int (zi (0))]))) : zM l S A yJx4a65c_grow_92f84 cJx4a65c_grow_92f84 4 (Option.some (Jvm.ClassFile.FieldType.array (Jvm.ClassFile.FieldType.object "java/lang/Object"))) { frames := 3, locals := 130, cells := 1, slots := 33 } [.ref (b), .int (zi (1))] (zR D A w) (fun v H => ∃ q : Nat, v = some (va_rf (some q)) ∧ (∀ q' e', w q' = some e' → q' ≠ q) ∧ zR D A (zu (zu w q (.inl (tc 4, 10, .inr (.inr (.inr (.inr (fun _ => none))))))) b (.inr (0, [.int (zi (mo)), .ref (q), .int (zi (0))]))) H) := by
  refine zM.mk (by decide +kernel) (Nat.le_of_ble_eq_true rfl) ?_
  intro p e s m below meth c ls X0 hR hl
  obtain ⟨hx, hb, hml, hr, hlocks, hown, hnm, hW, hpre, hA⟩ := X0
  have X : zH S A p s m c cJx4a65c_grow_92f84 4 RJx4a65c := ⟨hx, hb, hml, hown, hW, hpre, hA, hZ.2.2.1⟩
  have hT := hZ.1
  have hK := va_K.moved hW.alike hZ.2.1
  have hS : va_S A s.heap s.heap [] := va_S.rf
  have hl : lv_has ls 4 [(0, .ref (b)), (1, .int (zi (1)))] := hl
  skip
  refine lv_aload_n hx hb dJx4a65c_grow_92f84_0 rfl (lv_at hl 0 rfl) ?_
  refine z_get hx hb (q_wsJx4a65c hT hW) hown hK hR hb0 rfl 1 (by decide) (q_61 hT hW) (fun _ h => h) rfl dJx4a65c_grow_92f84_1 ?_
  refine va_tlen hx hb (hZ.empty hW hpre) hS (v := zi 0) rfl dJx4a65c_grow_92f84_4 ?_
  refine lv_istore_n (lv' := [(2, .int (zi (0))), (0, .ref (b)), (1, .int (zi (1)))]) hx hb dJx4a65c_grow_92f84_5 rfl hl (by decide) rfl (fun ls hl => ?_)
  refine lv_iload_n hx hb dJx4a65c_grow_92f84_6 rfl (lv_at hl 0 rfl) ?_
  refine z_if_gt (a := 0) (tgt := 20) hx hb dJx4a65c_grow_92f84_7 (by decide) (by omega) (fun h_7 => ?_) (fun h_7 => ?_)
  · skip
    exact absurd h_7 (by omega)
  · skip
    refine lv_aload_n hx hb dJx4a65c_grow_92f84_10 rfl (lv_at hl 1 rfl) ?_
    refine z_get hx hb (q_wsJx4a65c hT hW) hown hK hR hb0 rfl 1 (by decide) (q_61 hT hW) (fun _ h => h) rfl dJx4a65c_grow_92f84_11 ?_
    refine va_gets hx hb (hZ.dflt hW hpre) hS hown (q_59 hT hW) (fun _ h => h) dJx4a65c_grow_92f84_14 ?_
    refine lv_acmp_eq (rx := some dz) (ry := some dz) (tgt := 45) hx hb dJx4a65c_grow_92f84_17 (by decide) (fun _ => ?_) (fun h_3 => absurd rfl h_3)
    refine lv_aload_n hx hb dJx4a65c_grow_92f84_45 rfl (lv_at hl 1 rfl) ?_
    refine lv_bipush (v := zi (10)) hx hb dJx4a65c_grow_92f84_46 rfl ?_
    refine lv_iload_n hx hb dJx4a65c_grow_92f84_48 rfl (lv_at hl 2 rfl) ?_
    refine z_max (a := 10) (b := 1) hT X hl.1 (q_355 hT hW) (by omega) (Nat.le_of_ble_eq_true rfl) (Nat.le_of_ble_eq_true rfl) (Nat.le_of_ble_eq_true rfl) (Nat.le_of_ble_eq_true rfl) dJx4a65c_grow_92f84_49 ?_
    rw [show (max 10 1 : Int) = 10 from rfl]
    refine z_newq (n := 10) hx hb hown (q_356 hT hW) (va_AO.moved hW.alike (va_AO.of (q_347 hT))) hK hR hS hA 4 rfl (by omega) (by show 0 + 1 ≤ 1; omega) (by show 0 + 10 ≤ 33; omega) dJx4a65c_grow_92f84_52 (fun q H hfr hR hS => ?_)
    have hneq : b ≠ q := hfr _ _ hb0
    have hR : zR D A (zu w (q) (.inl (tc 4, 10, .inr (.inr (.inr (.inr (fun _ => none))))))) H := hR
    have he1 : (zu w (q) (.inl (tc 4, 10, .inr (.inr (.inr (.inr (fun _ => none))))))) b = some (.inr (0, [.int (zi (mo)), .ref (dz), .int (zi (0))])) := (zu_ne hneq).trans hb0
    refine lv_dup_x1 hx hb dJx4a65c_grow_92f84_55 rfl rfl ?_
    refine z_put hx hb (q_wsJx4a65c hT hW) tyJx4a65c tyJx4a65c_ok nmJx4a65c hown hK hR hS he1 rfl 1 (by decide) (q_61 hT hW) (fun _ h => h) rfl (tyJx4a65c_ok 1 (by decide)) rfl rfl (Nat.le_of_ble_eq_true rfl) dJx4a65c_grow_92f84_56 (fun H locs hR hS => ?_)
    have hR : zR D A (zu (zu w (q) (.inl (tc 4, 10, .inr (.inr (.inr (.inr (fun _ => none))))))) (b) (.inr (0, [.int (zi (mo)), .ref (q), .int (zi (0))]))) H := hR
    have he_1 : (zu (zu w (q) (.inl (tc 4, 10, .inr (.inr (.inr (.inr (fun _ => none))))))) (b) (.inr (0, [.int (zi (mo)), .ref (q), .int (zi (0))]))) (b) = some (.inr (0, [.int (zi (mo)), .ref (q), .int (zi (0))])) := zu_eq
    exact z_aret (r := some (q)) hx hb hr (Or.inr ⟨_, rfl⟩) hlocks hS (by show 0 + 1 ≤ 1; omega) (by show 0 + 10 ≤ 33; omega) dJx4a65c_grow_92f84_59 ⟨q, rfl, hfr, hR⟩
set_option maxHeartbeats 4000000 in
set_option maxRecDepth 100000 in
theorem c_growG (l : Launch) {S : State} {D : va_G} {tc : Nat → ClassId} {A : Nat → Prop} {dz : Nat} (hZ : zB S D tc A dz) {w : zW} {b ea : Nat} {mo : Int} {cap : Nat} {el : Nat → Option Nat} (hb0 : w b = some (.inr (0, [.int (zi (mo)), .ref (ea), .int (zi ((cap : Int)))]))) (hea : w ea = some (.inl (tc 4, cap, .inr (.inr (.inr (.inr el)))))) (h0 : cap = 10 ∨ cap = 15 ∨ cap = 22) (hel : ∀ i, i < cap → ∀ y, el i = some y → ∃ ci fs, (ci = 1 ∨ ci = 2 ∨ ci = 3) ∧ w y = some (.inr (ci, fs))) : zM l S A yJx4a65c_grow_92f84 cJx4a65c_grow_92f84 4 (Option.some (Jvm.ClassFile.FieldType.array (Jvm.ClassFile.FieldType.object "java/lang/Object"))) { frames := 4, locals := 160, cells := 1, slots := 33 } [.ref (b), .int (zi (((cap : Int) + 1)))] (zR D A w) (fun v H => ∃ q : Nat, v = some (va_rf (some q)) ∧ (∀ q' e', w q' = some e' → q' ≠ q) ∧ zR D A (zu (zu w q (.inl (tc 4, (cap + cap / 2), .inr (.inr (.inr (.inr (va_cpy el (fun _ => none) 0 0 cap))))))) b (.inr (0, [.int (zi (mo)), .ref (q), .int (zi ((cap : Int)))]))) H) := by
  refine zM.mk (by decide +kernel) (Nat.le_of_ble_eq_true rfl) ?_
  intro p e s m below meth c ls X0 hR hl
  obtain ⟨hx, hb, hml, hr, hlocks, hown, hnm, hW, hpre, hA⟩ := X0
  have X : zH S A p s m c cJx4a65c_grow_92f84 4 RJx4a65c := ⟨hx, hb, hml, hown, hW, hpre, hA, hZ.2.2.1⟩
  have hT := hZ.1
  have hK := va_K.moved hW.alike hZ.2.1
  have hS : va_S A s.heap s.heap [] := va_S.rf
  have hl : lv_has ls 4 [(0, .ref (b)), (1, .int (zi (((cap : Int) + 1))))] := hl
  skip
  refine lv_aload_n hx hb dJx4a65c_grow_92f84_0 rfl (lv_at hl 0 rfl) ?_
  refine z_get hx hb (q_wsJx4a65c hT hW) hown hK hR hb0 rfl 1 (by decide) (q_61 hT hW) (fun _ h => h) rfl dJx4a65c_grow_92f84_1 ?_
  refine z_alen hx hb hK hR 4 hea rfl dJx4a65c_grow_92f84_4 ?_
  refine lv_istore_n (lv' := [(2, .int (zi ((cap : Int)))), (0, .ref (b)), (1, .int (zi (((cap : Int) + 1))))]) hx hb dJx4a65c_grow_92f84_5 rfl hl (by decide) rfl (fun ls hl => ?_)
  refine lv_iload_n hx hb dJx4a65c_grow_92f84_6 rfl (lv_at hl 0 rfl) ?_
  refine z_if_gt (a := (cap : Int)) (tgt := 20) hx hb dJx4a65c_grow_92f84_7 (by decide) (by omega) (fun h_7 => ?_) (fun h_7 => ?_)
  · skip
    refine lv_iload_n hx hb dJx4a65c_grow_92f84_20 rfl (lv_at hl 0 rfl) ?_
    refine lv_iload_n hx hb dJx4a65c_grow_92f84_21 rfl (lv_at hl 2 rfl) ?_
    refine lv_iload_n hx hb dJx4a65c_grow_92f84_22 rfl (lv_at hl 0 rfl) ?_
    refine z_isub (a := ((cap : Int) + 1)) (b := (cap : Int)) hx hb dJx4a65c_grow_92f84_23 ?_
    refine lv_iload_n hx hb dJx4a65c_grow_92f84_24 rfl (lv_at hl 0 rfl) ?_
    refine lv_iconst (v := zi (1)) hx hb dJx4a65c_grow_92f84_25 rfl ?_
    refine lv_ishr hx hb dJx4a65c_grow_92f84_26 ?_
    rw [show zi (cap : Int) >>> (zi 1 &&& 31) = zi ((cap / 2 : Nat) : Int) from by rcases h0 with rfl | rfl | rfl <;> decide]
    have hcap : (cap : Int) = 10 ∨ (cap : Int) = 15 ∨ (cap : Int) = 22 := by omega
    refine z_invS (n := 3) (c_J8_newLength_cabcc l hZ (P := zR D A w) (o := (cap : Int)) (mg := (((cap : Int) + 1) - (cap : Int))) (pg := ((cap / 2 : Nat) : Int)) (by omega)) X hS hR hl.1 (q_318 hT hW) (q_14 hT hW) (q_316 hT hW) (q_317 hT hW) (by decide +kernel) rfl ⟨Nat.le_of_ble_eq_true rfl, Nat.le_of_ble_eq_true rfl⟩ ⟨Nat.le_of_ble_eq_true rfl, Nat.le_of_ble_eq_true rfl⟩ (Nat.le_of_ble_eq_true rfl) dJx4a65c_grow_92f84_27 (fun v H locs hv hS => ?_) rfl
    obtain ⟨rfl, hR⟩ := hv
    rw [show (cap : Int) + max (((cap : Int) + 1) - (cap : Int)) ((cap / 2 : Nat) : Int) = ((cap + cap / 2 : Nat) : Int) by omega]
    refine lv_istore_n (lv' := [(3, .int (zi (((cap + cap / 2 : Nat) : Int)))), (2, .int (zi ((cap : Int)))), (0, .ref (b)), (1, .int (zi (((cap : Int) + 1))))]) hx hb dJx4a65c_grow_92f84_30 rfl hl (by decide) rfl (fun ls hl => ?_)
    refine lv_aload_n hx hb dJx4a65c_grow_92f84_31 rfl (lv_at hl 2 rfl) ?_
    refine lv_aload_n hx hb dJx4a65c_grow_92f84_32 rfl (lv_at hl 2 rfl) ?_
    refine z_get hx hb (q_wsJx4a65c hT hW) hown hK hR hb0 rfl 1 (by decide) (q_61 hT hW) (fun _ h => h) rfl dJx4a65c_grow_92f84_33 ?_
    refine lv_iload_n hx hb dJx4a65c_grow_92f84_36 rfl (lv_at hl 0 rfl) ?_
    refine z_invS (n := 2) (c_J7_copyOf_1904c l hZ hea (n := ((cap + cap / 2 : Nat) : Int)) (by omega) hel) X hS hR hl.1 (q_328 hT hW) (q_16 hT hW) (q_326 hT hW) (q_327 hT hW) (by decide +kernel) rfl ⟨Nat.le_of_ble_eq_true rfl, Nat.le_of_ble_eq_true rfl⟩ ⟨Nat.le_of_ble_eq_true rfl, Nat.le_of_ble_eq_true rfl⟩ (Nat.le_of_ble_eq_true rfl) dJx4a65c_grow_92f84_37 (fun v H locs hv hS => ?_) rfl
    obtain ⟨q, rfl, hfr, hR⟩ := hv
    have hneq : b ≠ q := hfr _ _ hb0
    have hR : zR D A (zu w (q) (.inl (tc 4, (cap + cap / 2), .inr (.inr (.inr (.inr (va_cpy el (fun _ => none) 0 0 cap))))))) H := hR
    have he1 : (zu w (q) (.inl (tc 4, (cap + cap / 2), .inr (.inr (.inr (.inr (va_cpy el (fun _ => none) 0 0 cap))))))) b = some (.inr (0, [.int (zi (mo)), .ref (ea), .int (zi ((cap : Int)))])) := (zu_ne hneq).trans hb0
    refine lv_dup_x1 hx hb dJx4a65c_grow_92f84_40 rfl rfl ?_
    refine z_put hx hb (q_wsJx4a65c hT hW) tyJx4a65c tyJx4a65c_ok nmJx4a65c hown hK hR hS he1 rfl 1 (by decide) (q_61 hT hW) (fun _ h => h) rfl (tyJx4a65c_ok 1 (by decide)) rfl rfl (Nat.le_of_ble_eq_true rfl) dJx4a65c_grow_92f84_41 (fun H locs hR hS => ?_)
    have hR : zR D A (zu (zu w (q) (.inl (tc 4, (cap + cap / 2), .inr (.inr (.inr (.inr (va_cpy el (fun _ => none) 0 0 cap))))))) (b) (.inr (0, [.int (zi (mo)), .ref (q), .int (zi ((cap : Int)))]))) H := hR
    have he_1 : (zu (zu w (q) (.inl (tc 4, (cap + cap / 2), .inr (.inr (.inr (.inr (va_cpy el (fun _ => none) 0 0 cap))))))) (b) (.inr (0, [.int (zi (mo)), .ref (q), .int (zi ((cap : Int)))]))) (b) = some (.inr (0, [.int (zi (mo)), .ref (q), .int (zi ((cap : Int)))])) := zu_eq
    exact z_aret (r := some (q)) hx hb hr (Or.inr ⟨_, rfl⟩) hlocks hS (by decide) (by decide) dJx4a65c_grow_92f84_44 ⟨q, rfl, hfr, hR⟩
  · skip
    exact absurd h_7 (by omega)
set_option maxHeartbeats 4000000 in
set_option maxRecDepth 100000 in
theorem c_grow0E (l : Launch) {S : State} {D : va_G} {tc : Nat → ClassId} {A : Nat → Prop} {dz : Nat} (hZ : zB S D tc A dz) {w : zW} {b : Nat} {mo : Int} (hb0 : w b = some (.inr (0, [.int (zi (mo)), .ref (dz), .int (zi (0))]))) : zM l S A yJx4a65c_grow_d5877 cJx4a65c_grow_d5877 1 (Option.some (Jvm.ClassFile.FieldType.array (Jvm.ClassFile.FieldType.object "java/lang/Object"))) { frames := 5, locals := 190, cells := 1, slots := 33 } [.ref (b)] (zR D A w) (fun v H => ∃ q : Nat, v = some (va_rf (some q)) ∧ (∀ q' e', w q' = some e' → q' ≠ q) ∧ zR D A (zu (zu w q (.inl (tc 4, 10, .inr (.inr (.inr (.inr (fun _ => none))))))) b (.inr (0, [.int (zi (mo)), .ref (q), .int (zi (0))]))) H) := by
  refine zM.mk (by decide +kernel) (Nat.le_of_ble_eq_true rfl) ?_
  intro p e s m below meth c ls X0 hR hl
  obtain ⟨hx, hb, hml, hr, hlocks, hown, hnm, hW, hpre, hA⟩ := X0
  have X : zH S A p s m c cJx4a65c_grow_d5877 1 RJx4a65c := ⟨hx, hb, hml, hown, hW, hpre, hA, hZ.2.2.1⟩
  have hT := hZ.1
  have hK := va_K.moved hW.alike hZ.2.1
  have hS : va_S A s.heap s.heap [] := va_S.rf
  have hl : lv_has ls 1 [(0, .ref (b))] := hl
  skip
  refine lv_aload_n hx hb dJx4a65c_grow_d5877_0 rfl (lv_at hl 0 rfl) ?_
  refine lv_aload_n hx hb dJx4a65c_grow_d5877_1 rfl (lv_at hl 0 rfl) ?_
  refine z_get hx hb (q_wsJx4a65c hT hW) hown hK hR hb0 rfl 2 (by decide) (q_62 hT hW) (fun _ h => h) rfl dJx4a65c_grow_d5877_2 ?_
  refine lv_iconst (v := zi (1)) hx hb dJx4a65c_grow_d5877_5 rfl ?_
  refine z_iadd (a := 0) (b := 1) hx hb dJx4a65c_grow_d5877_6 ?_
  rw [show (0 + 1 : Int) = 1 from rfl]
  refine z_invV (n := 1) (C := RJx4a65c) (c_growE l hZ hb0) X hS hR hl.1 (q_315 hT hW) (q_6 hT hW) (q_312 hT hW) (q_314 hT hW) (q_p3 hT hW) (z_recv hK hR hb0 rfl) (by decide +kernel) rfl ⟨Nat.le_of_ble_eq_true rfl, Nat.le_of_ble_eq_true rfl⟩ ⟨Nat.le_of_ble_eq_true rfl, Nat.le_of_ble_eq_true rfl⟩ (Nat.le_of_ble_eq_true rfl) dJx4a65c_grow_d5877_7 (fun v H locs hv hS => ?_) rfl
  obtain ⟨q, rfl, hfr, hR⟩ := hv
  exact z_aret (r := some (q)) hx hb hr (Or.inr ⟨_, rfl⟩) hlocks hS (by decide) (by decide) dJx4a65c_grow_d5877_10 ⟨q, rfl, hfr, hR⟩
set_option maxHeartbeats 4000000 in
set_option maxRecDepth 100000 in
theorem c_grow0G (l : Launch) {S : State} {D : va_G} {tc : Nat → ClassId} {A : Nat → Prop} {dz : Nat} (hZ : zB S D tc A dz) {w : zW} {b ea : Nat} {mo : Int} {cap : Nat} {el : Nat → Option Nat} (hb0 : w b = some (.inr (0, [.int (zi (mo)), .ref (ea), .int (zi ((cap : Int)))]))) (hea : w ea = some (.inl (tc 4, cap, .inr (.inr (.inr (.inr el)))))) (h0 : cap = 10 ∨ cap = 15 ∨ cap = 22) (hel : ∀ i, i < cap → ∀ y, el i = some y → ∃ ci fs, (ci = 1 ∨ ci = 2 ∨ ci = 3) ∧ w y = some (.inr (ci, fs))) : zM l S A yJx4a65c_grow_d5877 cJx4a65c_grow_d5877 1 (Option.some (Jvm.ClassFile.FieldType.array (Jvm.ClassFile.FieldType.object "java/lang/Object"))) { frames := 5, locals := 190, cells := 1, slots := 33 } [.ref (b)] (zR D A w) (fun v H => ∃ q : Nat, v = some (va_rf (some q)) ∧ (∀ q' e', w q' = some e' → q' ≠ q) ∧ zR D A (zu (zu w q (.inl (tc 4, (cap + cap / 2), .inr (.inr (.inr (.inr (va_cpy el (fun _ => none) 0 0 cap))))))) b (.inr (0, [.int (zi (mo)), .ref (q), .int (zi ((cap : Int)))]))) H) := by
  refine zM.mk (by decide +kernel) (Nat.le_of_ble_eq_true rfl) ?_
  intro p e s m below meth c ls X0 hR hl
  obtain ⟨hx, hb, hml, hr, hlocks, hown, hnm, hW, hpre, hA⟩ := X0
  have X : zH S A p s m c cJx4a65c_grow_d5877 1 RJx4a65c := ⟨hx, hb, hml, hown, hW, hpre, hA, hZ.2.2.1⟩
  have hT := hZ.1
  have hK := va_K.moved hW.alike hZ.2.1
  have hS : va_S A s.heap s.heap [] := va_S.rf
  have hl : lv_has ls 1 [(0, .ref (b))] := hl
  skip
  refine lv_aload_n hx hb dJx4a65c_grow_d5877_0 rfl (lv_at hl 0 rfl) ?_
  refine lv_aload_n hx hb dJx4a65c_grow_d5877_1 rfl (lv_at hl 0 rfl) ?_
  refine z_get hx hb (q_wsJx4a65c hT hW) hown hK hR hb0 rfl 2 (by decide) (q_62 hT hW) (fun _ h => h) rfl dJx4a65c_grow_d5877_2 ?_
  refine lv_iconst (v := zi (1)) hx hb dJx4a65c_grow_d5877_5 rfl ?_
  refine z_iadd (a := (cap : Int)) (b := 1) hx hb dJx4a65c_grow_d5877_6 ?_
  refine z_invV (n := 1) (C := RJx4a65c) (c_growG l hZ hb0 hea h0 hel) X hS hR hl.1 (q_315 hT hW) (q_6 hT hW) (q_312 hT hW) (q_314 hT hW) (q_p3 hT hW) (z_recv hK hR hb0 rfl) (by decide +kernel) rfl ⟨Nat.le_of_ble_eq_true rfl, Nat.le_of_ble_eq_true rfl⟩ ⟨Nat.le_of_ble_eq_true rfl, Nat.le_of_ble_eq_true rfl⟩ (Nat.le_of_ble_eq_true rfl) dJx4a65c_grow_d5877_7 (fun v H locs hv hS => ?_) rfl
  obtain ⟨q, rfl, hfr, hR⟩ := hv
  exact z_aret (r := some (q)) hx hb hr (Or.inr ⟨_, rfl⟩) hlocks hS (by decide) (by decide) dJx4a65c_grow_d5877_10 ⟨q, rfl, hfr, hR⟩
set_option maxHeartbeats 4000000 in
set_option maxRecDepth 100000 in
theorem c_add3R (l : Launch) {S : State} {D : va_G} {tc : Nat → ClassId} {A : Nat → Prop} {dz : Nat} (hZ : zB S D tc A dz) {w : zW} {b ea : Nat} {mo : Int} {n cap : Nat} {el : Nat → Option Nat} (hb0 : w b = some (.inr (0, [.int (zi (mo)), .ref (ea), .int (zi ((n : Int)))]))) (hea : w ea = some (.inl (tc 4, cap, .inr (.inr (.inr (.inr el)))))) (h0 : n < cap ∧ cap ≤ 33) {eo cio : Nat} {fo : List Value} (heo : w eo = some (.inr (cio, fo))) (hcio : cio = 1 ∨ cio = 2 ∨ cio = 3) : zM l S A yJx4a65c_add_72be8 cJx4a65c_add_72be8 4 (Option.none : Option Jvm.ClassFile.FieldType) { frames := 1, locals := 20, cells := 0, slots := 0 } [.ref (b), .ref (eo), .ref (ea), .int (zi ((n : Int)))] (zR D A w) (fun v H => v = none ∧ zR D A (zu (zu w ea (.inl (tc 4, cap, .inr (.inr (.inr (.inr (va_up el n (some eo)))))))) b (.inr (0, [.int (zi (mo)), .ref (ea), .int (zi ((n : Int) + 1))]))) H) := by
  refine zM.mk (by decide +kernel) (Nat.le_of_ble_eq_true rfl) ?_
  intro p e s m below meth c ls X0 hR hl
  obtain ⟨hx, hb, hml, hr, hlocks, hown, hnm, hW, hpre, hA⟩ := X0
  have X : zH S A p s m c cJx4a65c_add_72be8 4 RJx4a65c := ⟨hx, hb, hml, hown, hW, hpre, hA, hZ.2.2.1⟩
  have hT := hZ.1
  have hK := va_K.moved hW.alike hZ.2.1
  have hS : va_S A s.heap s.heap [] := va_S.rf
  have hl : lv_has ls 4 [(0, .ref (b)), (1, .ref (eo)), (2, .ref (ea)), (3, .int (zi ((n : Int))))] := hl
  skip
  refine lv_iload_n hx hb dJx4a65c_add_72be8_0 rfl (lv_at hl 3 rfl) ?_
  refine lv_aload_n hx hb dJx4a65c_add_72be8_1 rfl (lv_at hl 2 rfl) ?_
  refine z_alen hx hb hK hR 4 hea rfl dJx4a65c_add_72be8_2 ?_
  refine z_icmp_ne (a := (n : Int)) (b := (cap : Int)) (tgt := 11) hx hb dJx4a65c_add_72be8_3 (by decide) (by omega) (fun h_3 => ?_) (fun h_3 => ?_)
  · skip
    refine lv_aload_n hx hb dJx4a65c_add_72be8_11 rfl (lv_at hl 2 rfl) ?_
    refine lv_iload_n hx hb dJx4a65c_add_72be8_12 rfl (lv_at hl 3 rfl) ?_
    refine lv_aload_n hx hb dJx4a65c_add_72be8_13 rfl (lv_at hl 1 rfl) ?_
    have hcs : ∃ (C : String) (T : u_T) (N : Nat), vwCl[cio]? = some (C, T, N) ∧ (Cond.castable C "java/lang/Object").before ([.ref (b), .ref (eo), .ref (ea), .int (zi ((n : Int)))] : List Value).toArray s = true := by
      rcases hcio with rfl | rfl | rfl
      · exact ⟨_, _, _, rfl, va_Nw.use rfl (q_636 hT hW)⟩
      · exact ⟨_, _, _, rfl, va_Nw.use rfl (q_637 hT hW)⟩
      · exact ⟨_, _, _, rfl, va_Nw.use rfl (q_638 hT hW)⟩
    obtain ⟨C9, T9, N9, hc9, hca9⟩ := hcs
    refine z_aast (i := (n : Int)) hx hb hK hR hS 4 hea rfl heo hc9 hca9 (by omega) dJx4a65c_add_72be8_14 (fun H locs hR hS => ?_)
    have hbe : b ≠ ea := zne hb0 hea (by intro z; cases z)
    have hR : zR D A (zu w (ea) (.inl (tc 4, cap, .inr (.inr (.inr (.inr (va_up el n (some eo)))))))) H := hR
    have he1 : (zu w (ea) (.inl (tc 4, cap, .inr (.inr (.inr (.inr (va_up el n (some eo)))))))) b = some (.inr (0, [.int (zi (mo)), .ref (ea), .int (zi ((n : Int)))])) := (zu_ne hbe).trans hb0
    refine lv_aload_n hx hb dJx4a65c_add_72be8_15 rfl (lv_at hl 0 rfl) ?_
    refine lv_iload_n hx hb dJx4a65c_add_72be8_16 rfl (lv_at hl 3 rfl) ?_
    refine lv_iconst (v := zi (1)) hx hb dJx4a65c_add_72be8_17 rfl ?_
    refine z_iadd (a := (n : Int)) (b := 1) hx hb dJx4a65c_add_72be8_18 ?_
    refine z_put hx hb (q_wsJx4a65c hT hW) tyJx4a65c tyJx4a65c_ok nmJx4a65c hown hK hR hS he1 rfl 2 (by decide) (q_62 hT hW) (fun _ h => h) rfl (tyJx4a65c_ok 2 (by decide)) rfl rfl (Nat.le_of_ble_eq_true rfl) dJx4a65c_add_72be8_19 (fun H locs hR hS => ?_)
    have hR : zR D A (zu (zu w (ea) (.inl (tc 4, cap, .inr (.inr (.inr (.inr (va_up el n (some eo)))))))) (b) (.inr (0, [.int (zi (mo)), .ref (ea), .int (zi (((n : Int) + 1)))]))) H := hR
    have he_1 : (zu (zu w (ea) (.inl (tc 4, cap, .inr (.inr (.inr (.inr (va_up el n (some eo)))))))) (b) (.inr (0, [.int (zi (mo)), .ref (ea), .int (zi (((n : Int) + 1)))]))) (b) = some (.inr (0, [.int (zi (mo)), .ref (ea), .int (zi (((n : Int) + 1)))])) := zu_eq
    exact z_vret hx hb hr hlocks hS (by decide) (by decide) dJx4a65c_add_72be8_22 ⟨rfl, hR⟩
  · skip
    exact absurd h_3 (by omega)
set_option maxHeartbeats 4000000 in
set_option maxRecDepth 100000 in
theorem c_addR (l : Launch) {S : State} {D : va_G} {tc : Nat → ClassId} {A : Nat → Prop} {dz : Nat} (hZ : zB S D tc A dz) {w : zW} {b ea : Nat} {mo : Int} {n cap : Nat} {el : Nat → Option Nat} (hb0 : w b = some (.inr (0, [.int (zi (mo)), .ref (ea), .int (zi ((n : Int)))]))) (hea : w ea = some (.inl (tc 4, cap, .inr (.inr (.inr (.inr el)))))) (h0 : n < cap ∧ cap ≤ 33) {eo cio : Nat} {fo : List Value} (heo : w eo = some (.inr (cio, fo))) (hcio : cio = 1 ∨ cio = 2 ∨ cio = 3) : zM l S A yJx4a65c_add_9ea2d cJx4a65c_add_9ea2d 2 (Option.some Jvm.ClassFile.FieldType.boolean) { frames := 2, locals := 60, cells := 0, slots := 0 } [.ref (b), .ref (eo)] (zR D A w) (fun v H => v = some (.int (zi 1)) ∧ zR D A (zu (zu w ea (.inl (tc 4, cap, .inr (.inr (.inr (.inr (va_up el n (some eo)))))))) b (.inr (0, [.int (zi ((mo + 1))), .ref (ea), .int (zi ((n : Int) + 1))]))) H) := by
  refine zM.mk (by decide +kernel) (Nat.le_of_ble_eq_true rfl) ?_
  intro p e s m below meth c ls X0 hR hl
  obtain ⟨hx, hb, hml, hr, hlocks, hown, hnm, hW, hpre, hA⟩ := X0
  have X : zH S A p s m c cJx4a65c_add_9ea2d 2 RJx4a65c := ⟨hx, hb, hml, hown, hW, hpre, hA, hZ.2.2.1⟩
  have hT := hZ.1
  have hK := va_K.moved hW.alike hZ.2.1
  have hS : va_S A s.heap s.heap [] := va_S.rf
  have hl : lv_has ls 2 [(0, .ref (b)), (1, .ref (eo))] := hl
  skip
  refine lv_aload_n hx hb dJx4a65c_add_9ea2d_0 rfl (lv_at hl 0 rfl) ?_
  refine lv_dup hx hb dJx4a65c_add_9ea2d_1 rfl ?_
  refine z_get hx hb (q_wsJx4a65c hT hW) hown hK hR hb0 rfl 0 (by decide) (q_64 hT hW) (fun x9 h9 => u_same (args := #[]) (q_65 hT hW) x9 h9) rfl dJx4a65c_add_9ea2d_2 ?_
  refine lv_iconst (v := zi (1)) hx hb dJx4a65c_add_9ea2d_5 rfl ?_
  refine z_iadd (a := mo) (b := 1) hx hb dJx4a65c_add_9ea2d_6 ?_
  refine z_put hx hb (q_wsJx4a65c hT hW) tyJx4a65c tyJx4a65c_ok nmJx4a65c hown hK hR hS hb0 rfl 0 (by decide) (q_64 hT hW) (fun x9 h9 => u_same (args := #[]) (q_65 hT hW) x9 h9) rfl (tyJx4a65c_ok 0 (by decide)) rfl rfl (Nat.le_of_ble_eq_true rfl) dJx4a65c_add_9ea2d_7 (fun H locs hR hS => ?_)
  have hR : zR D A (zu w (b) (.inr (0, [.int (zi ((mo + 1))), .ref (ea), .int (zi ((n : Int)))]))) H := hR
  have he_1 : (zu w (b) (.inr (0, [.int (zi ((mo + 1))), .ref (ea), .int (zi ((n : Int)))]))) (b) = some (.inr (0, [.int (zi ((mo + 1))), .ref (ea), .int (zi ((n : Int)))])) := zu_eq
  refine lv_aload_n hx hb dJx4a65c_add_9ea2d_10 rfl (lv_at hl 0 rfl) ?_
  refine lv_aload_n hx hb dJx4a65c_add_9ea2d_11 rfl (lv_at hl 1 rfl) ?_
  refine lv_aload_n hx hb dJx4a65c_add_9ea2d_12 rfl (lv_at hl 0 rfl) ?_
  refine z_get hx hb (q_wsJx4a65c hT hW) hown hK hR he_1 rfl 1 (by decide) (q_61 hT hW) (fun _ h => h) rfl dJx4a65c_add_9ea2d_13 ?_
  refine lv_aload_n hx hb dJx4a65c_add_9ea2d_16 rfl (lv_at hl 0 rfl) ?_
  refine z_get hx hb (q_wsJx4a65c hT hW) hown hK hR he_1 rfl 2 (by decide) (q_62 hT hW) (fun _ h => h) rfl dJx4a65c_add_9ea2d_17 ?_
  have hbo : eo ≠ b := zne heo hb0 (by rcases hcio with rfl | rfl | rfl <;> (intro z; cases z))
  have g3 : (zu w b (.inr (0, [.int (zi ((mo + 1))), .ref (ea), .int (zi ((n : Int)))]))) eo = some (.inr (cio, fo)) := (zu_ne hbo).trans heo
  have hbe : ea ≠ b := zne hea hb0 (by intro z; cases z)
  have g2 : (zu w b (.inr (0, [.int (zi ((mo + 1))), .ref (ea), .int (zi ((n : Int)))]))) ea = some (.inl (tc 4, cap, .inr (.inr (.inr (.inr el))))) := (zu_ne hbe).trans hea
  refine z_invV (n := 3) (C := RJx4a65c) (c_add3R l hZ he_1 g2 h0 g3 hcio) X hS hR hl.1 (q_307 hT hW) (q_6 hT hW) (q_304 hT hW) (q_306 hT hW) (q_p1 hT hW) (z_recv hK hR he_1 rfl) (by decide +kernel) rfl ⟨Nat.le_of_ble_eq_true rfl, Nat.le_of_ble_eq_true rfl⟩ ⟨Nat.le_of_ble_eq_true rfl, Nat.le_of_ble_eq_true rfl⟩ (Nat.le_of_ble_eq_true rfl) dJx4a65c_add_9ea2d_20 (fun v H locs hv hS => ?_) rfl
  obtain ⟨rfl, hR⟩ := hv
  have hsw : zu (zu (zu w b (.inr (0, [.int (zi ((mo + 1))), .ref (ea), .int (zi ((n : Int)))]))) ea (.inl (tc 4, cap, .inr (.inr (.inr (.inr (va_up el n (some eo)))))))) b (.inr (0, [.int (zi ((mo + 1))), .ref (ea), .int (zi ((n : Int) + 1))])) = zu (zu w ea (.inl (tc 4, cap, .inr (.inr (.inr (.inr (va_up el n (some eo)))))))) b (.inr (0, [.int (zi ((mo + 1))), .ref (ea), .int (zi ((n : Int) + 1))])) := by
    funext x
    unfold zu
    by_cases h1 : x = b
    · rw [if_pos h1, if_pos h1]
    · rw [if_neg h1, if_neg h1, if_neg h1]
  rw [hsw] at hR
  refine lv_iconst (v := zi (1)) hx hb dJx4a65c_add_9ea2d_23 rfl ?_
  exact z_zret hx hb hr rfl hlocks hS (by decide) (by decide) dJx4a65c_add_9ea2d_24 ⟨rfl, hR⟩
set_option maxHeartbeats 4000000 in
set_option maxRecDepth 100000 in
theorem c_add3E (l : Launch) {S : State} {D : va_G} {tc : Nat → ClassId} {A : Nat → Prop} {dz : Nat} (hZ : zB S D tc A dz) {w : zW} {b : Nat} {mo : Int} (hb0 : w b = some (.inr (0, [.int (zi (mo)), .ref (dz), .int (zi (0))]))) {eo cio : Nat} {fo : List Value} (heo : w eo = some (.inr (cio, fo))) (hcio : cio = 1 ∨ cio = 2 ∨ cio = 3) : zM l S A yJx4a65c_add_72be8 cJx4a65c_add_72be8 4 (Option.none : Option Jvm.ClassFile.FieldType) { frames := 6, locals := 220, cells := 1, slots := 33 } [.ref (b), .ref (eo), .ref (dz), .int (zi (0))] (zR D A w) (fun v H => v = none ∧ ∃ q : Nat, (∀ q' e', w q' = some e' → q' ≠ q) ∧ zR D A (zu (zu w q (.inl (tc 4, 10, .inr (.inr (.inr (.inr (va_up (fun _ => none) 0 (some eo)))))))) b (.inr (0, [.int (zi (mo)), .ref (q), .int (zi (0 + 1))]))) H) := by
  refine zM.mk (by decide +kernel) (Nat.le_of_ble_eq_true rfl) ?_
  intro p e s m below meth c ls X0 hR hl
  obtain ⟨hx, hb, hml, hr, hlocks, hown, hnm, hW, hpre, hA⟩ := X0
  have X : zH S A p s m c cJx4a65c_add_72be8 4 RJx4a65c := ⟨hx, hb, hml, hown, hW, hpre, hA, hZ.2.2.1⟩
  have hT := hZ.1
  have hK := va_K.moved hW.alike hZ.2.1
  have hS : va_S A s.heap s.heap [] := va_S.rf
  have hl : lv_has ls 4 [(0, .ref (b)), (1, .ref (eo)), (2, .ref (dz)), (3, .int (zi (0)))] := hl
  skip
  refine lv_iload_n hx hb dJx4a65c_add_72be8_0 rfl (lv_at hl 3 rfl) ?_
  refine lv_aload_n hx hb dJx4a65c_add_72be8_1 rfl (lv_at hl 2 rfl) ?_
  refine va_tlen hx hb (hZ.empty hW hpre) hS (v := zi 0) rfl dJx4a65c_add_72be8_2 ?_
  refine z_icmp_ne (a := 0) (b := 0) (tgt := 11) hx hb dJx4a65c_add_72be8_3 (by decide) (by omega) (fun h_3 => ?_) (fun h_3 => ?_)
  · skip
    exact absurd rfl h_3
  · skip
    refine lv_aload_n hx hb dJx4a65c_add_72be8_6 rfl (lv_at hl 0 rfl) ?_
    refine z_invV (n := 0) (C := RJx4a65c) (c_grow0E l hZ hb0) X hS hR hl.1 (q_311 hT hW) (q_6 hT hW) (q_308 hT hW) (q_310 hT hW) (q_p2 hT hW) (z_recv hK hR hb0 rfl) (by decide +kernel) rfl ⟨Nat.le_of_ble_eq_true rfl, Nat.le_of_ble_eq_true rfl⟩ ⟨Nat.le_of_ble_eq_true rfl, Nat.le_of_ble_eq_true rfl⟩ (Nat.le_of_ble_eq_true rfl) dJx4a65c_add_72be8_7 (fun v H locs hv hS => ?_) rfl
    obtain ⟨q, rfl, hfr, hR⟩ := hv
    have hneq : b ≠ q := hfr _ _ hb0
    have he1 : (zu (zu w (q) (.inl (tc 4, 10, .inr (.inr (.inr (.inr (fun _ => none))))))) (b) (.inr (0, [.int (zi (mo)), .ref (q), .int (zi (0))]))) b = some (.inr (0, [.int (zi (mo)), .ref (q), .int (zi (0))])) := zu_eq
    have he2 : (zu (zu w (q) (.inl (tc 4, 10, .inr (.inr (.inr (.inr (fun _ => none))))))) (b) (.inr (0, [.int (zi (mo)), .ref (q), .int (zi (0))]))) q = some (.inl (tc 4, 10, .inr (.inr (.inr (.inr (fun _ => none)))))) := (zu_ne (Ne.symm hneq)).trans zu_eq
    have hbo : eo ≠ b := zne heo hb0 (by rcases hcio with rfl | rfl | rfl <;> (intro z; cases z))
    have he3 : (zu (zu w (q) (.inl (tc 4, 10, .inr (.inr (.inr (.inr (fun _ => none))))))) (b) (.inr (0, [.int (zi (mo)), .ref (q), .int (zi (0))]))) eo = some (.inr (cio, fo)) := (zu_ne hbo).trans ((zu_ne (hfr _ _ heo)).trans heo)
    refine lv_astore_n (lv' := [(2, .ref (q)), (0, .ref (b)), (1, .ref (eo)), (3, .int (zi (0)))]) hx hb dJx4a65c_add_72be8_10 rfl hl (by decide) rfl (fun ls hl => ?_)
    refine lv_aload_n hx hb dJx4a65c_add_72be8_11 rfl (lv_at hl 0 rfl) ?_
    refine lv_iload_n hx hb dJx4a65c_add_72be8_12 rfl (lv_at hl 3 rfl) ?_
    refine lv_aload_n hx hb dJx4a65c_add_72be8_13 rfl (lv_at hl 2 rfl) ?_
    have hcs : ∃ (C : String) (T : u_T) (N : Nat), vwCl[cio]? = some (C, T, N) ∧ (Cond.castable C "java/lang/Object").before ([.ref (b), .ref (eo), .ref (dz), .int (zi (0))] : List Value).toArray s = true := by
      rcases hcio with rfl | rfl | rfl
      · exact ⟨_, _, _, rfl, va_Nw.use rfl (q_636 hT hW)⟩
      · exact ⟨_, _, _, rfl, va_Nw.use rfl (q_637 hT hW)⟩
      · exact ⟨_, _, _, rfl, va_Nw.use rfl (q_638 hT hW)⟩
    obtain ⟨C9, T9, N9, hc9, hca9⟩ := hcs
    refine z_aast (i := 0) hx hb hK hR hS 4 he2 rfl he3 hc9 hca9 (by omega) dJx4a65c_add_72be8_14 (fun H locs hR hS => ?_)
    have hsw : zu (zu (zu w q (.inl (tc 4, 10, .inr (.inr (.inr (.inr (fun _ => none))))))) b (.inr (0, [.int (zi (mo)), .ref (q), .int (zi (0))]))) q (.inl (tc 4, 10, .inr (.inr (.inr (.inr (va_up (fun _ => none) 0 (some eo))))))) = zu (zu w q (.inl (tc 4, 10, .inr (.inr (.inr (.inr (va_up (fun _ => none) 0 (some eo)))))))) b (.inr (0, [.int (zi (mo)), .ref (q), .int (zi (0))])) := by
      funext x
      unfold zu
      by_cases h1 : x = q
      · rw [if_pos h1, if_neg (by rw [h1]; exact Ne.symm hneq), if_pos h1]
      · rw [if_neg h1, if_neg h1, if_neg h1]
    have hR : zR D A (zu (zu (zu w q (.inl (tc 4, 10, .inr (.inr (.inr (.inr (fun _ => none))))))) b (.inr (0, [.int (zi (mo)), .ref (q), .int (zi (0))]))) q (.inl (tc 4, 10, .inr (.inr (.inr (.inr (va_up (fun _ => none) 0 (some eo)))))))) H := hR
    rw [hsw] at hR
    have he4 : (zu (zu w (q) (.inl (tc 4, 10, .inr (.inr (.inr (.inr (va_up (fun _ => none) 0 (some eo)))))))) (b) (.inr (0, [.int (zi (mo)), .ref (q), .int (zi (0))]))) b = some (.inr (0, [.int (zi (mo)), .ref (q), .int (zi (0))])) := zu_eq
    refine lv_aload_n hx hb dJx4a65c_add_72be8_15 rfl (lv_at hl 1 rfl) ?_
    refine lv_iload_n hx hb dJx4a65c_add_72be8_16 rfl (lv_at hl 3 rfl) ?_
    refine lv_iconst (v := zi (1)) hx hb dJx4a65c_add_72be8_17 rfl ?_
    refine z_iadd (a := 0) (b := 1) hx hb dJx4a65c_add_72be8_18 ?_
    refine z_put hx hb (q_wsJx4a65c hT hW) tyJx4a65c tyJx4a65c_ok nmJx4a65c hown hK hR hS he4 rfl 2 (by decide) (q_62 hT hW) (fun _ h => h) rfl (tyJx4a65c_ok 2 (by decide)) rfl rfl (Nat.le_of_ble_eq_true rfl) dJx4a65c_add_72be8_19 (fun H locs hR hS => ?_)
    rw [zu_zu] at hR
    have hR : zR D A (zu (zu w (q) (.inl (tc 4, 10, .inr (.inr (.inr (.inr (va_up (fun _ => none) 0 (some eo)))))))) (b) (.inr (0, [.int (zi (mo)), .ref (q), .int (zi ((0 + 1)))]))) H := hR
    have he_1 : (zu (zu w (q) (.inl (tc 4, 10, .inr (.inr (.inr (.inr (va_up (fun _ => none) 0 (some eo)))))))) (b) (.inr (0, [.int (zi (mo)), .ref (q), .int (zi ((0 + 1)))]))) (b) = some (.inr (0, [.int (zi (mo)), .ref (q), .int (zi ((0 + 1)))])) := zu_eq
    exact z_vret hx hb hr hlocks hS (by decide) (by decide) dJx4a65c_add_72be8_22 ⟨rfl, q, hfr, hR⟩
set_option maxHeartbeats 4000000 in
set_option maxRecDepth 100000 in
theorem c_addE (l : Launch) {S : State} {D : va_G} {tc : Nat → ClassId} {A : Nat → Prop} {dz : Nat} (hZ : zB S D tc A dz) {w : zW} {b : Nat} {mo : Int} (hb0 : w b = some (.inr (0, [.int (zi (mo)), .ref (dz), .int (zi (0))]))) {eo cio : Nat} {fo : List Value} (heo : w eo = some (.inr (cio, fo))) (hcio : cio = 1 ∨ cio = 2 ∨ cio = 3) : zM l S A yJx4a65c_add_9ea2d cJx4a65c_add_9ea2d 2 (Option.some Jvm.ClassFile.FieldType.boolean) { frames := 7, locals := 260, cells := 1, slots := 33 } [.ref (b), .ref (eo)] (zR D A w) (fun v H => v = some (.int (zi 1)) ∧ ∃ q : Nat, (∀ q' e', w q' = some e' → q' ≠ q) ∧ zR D A (zu (zu w q (.inl (tc 4, 10, .inr (.inr (.inr (.inr (va_up (fun _ => none) 0 (some eo)))))))) b (.inr (0, [.int (zi ((mo + 1))), .ref (q), .int (zi (0 + 1))]))) H) := by
  refine zM.mk (by decide +kernel) (Nat.le_of_ble_eq_true rfl) ?_
  intro p e s m below meth c ls X0 hR hl
  obtain ⟨hx, hb, hml, hr, hlocks, hown, hnm, hW, hpre, hA⟩ := X0
  have X : zH S A p s m c cJx4a65c_add_9ea2d 2 RJx4a65c := ⟨hx, hb, hml, hown, hW, hpre, hA, hZ.2.2.1⟩
  have hT := hZ.1
  have hK := va_K.moved hW.alike hZ.2.1
  have hS : va_S A s.heap s.heap [] := va_S.rf
  have hl : lv_has ls 2 [(0, .ref (b)), (1, .ref (eo))] := hl
  skip
  refine lv_aload_n hx hb dJx4a65c_add_9ea2d_0 rfl (lv_at hl 0 rfl) ?_
  refine lv_dup hx hb dJx4a65c_add_9ea2d_1 rfl ?_
  refine z_get hx hb (q_wsJx4a65c hT hW) hown hK hR hb0 rfl 0 (by decide) (q_64 hT hW) (fun x9 h9 => u_same (args := #[]) (q_65 hT hW) x9 h9) rfl dJx4a65c_add_9ea2d_2 ?_
  refine lv_iconst (v := zi (1)) hx hb dJx4a65c_add_9ea2d_5 rfl ?_
  refine z_iadd (a := mo) (b := 1) hx hb dJx4a65c_add_9ea2d_6 ?_
  refine z_put hx hb (q_wsJx4a65c hT hW) tyJx4a65c tyJx4a65c_ok nmJx4a65c hown hK hR hS hb0 rfl 0 (by decide) (q_64 hT hW) (fun x9 h9 => u_same (args := #[]) (q_65 hT hW) x9 h9) rfl (tyJx4a65c_ok 0 (by decide)) rfl rfl (Nat.le_of_ble_eq_true rfl) dJx4a65c_add_9ea2d_7 (fun H locs hR hS => ?_)
  have hR : zR D A (zu w (b) (.inr (0, [.int (zi ((mo + 1))), .ref (dz), .int (zi (0))]))) H := hR
  have he_1 : (zu w (b) (.inr (0, [.int (zi ((mo + 1))), .ref (dz), .int (zi (0))]))) (b) = some (.inr (0, [.int (zi ((mo + 1))), .ref (dz), .int (zi (0))])) := zu_eq
  refine lv_aload_n hx hb dJx4a65c_add_9ea2d_10 rfl (lv_at hl 0 rfl) ?_
  refine lv_aload_n hx hb dJx4a65c_add_9ea2d_11 rfl (lv_at hl 1 rfl) ?_
  refine lv_aload_n hx hb dJx4a65c_add_9ea2d_12 rfl (lv_at hl 0 rfl) ?_
  refine z_get hx hb (q_wsJx4a65c hT hW) hown hK hR he_1 rfl 1 (by decide) (q_61 hT hW) (fun _ h => h) rfl dJx4a65c_add_9ea2d_13 ?_
  refine lv_aload_n hx hb dJx4a65c_add_9ea2d_16 rfl (lv_at hl 0 rfl) ?_
  refine z_get hx hb (q_wsJx4a65c hT hW) hown hK hR he_1 rfl 2 (by decide) (q_62 hT hW) (fun _ h => h) rfl dJx4a65c_add_9ea2d_17 ?_
  have hbo : eo ≠ b := zne heo hb0 (by rcases hcio with rfl | rfl | rfl <;> (intro z; cases z))
  have g3 : (zu w b (.inr (0, [.int (zi ((mo + 1))), .ref (dz), .int (zi (0))]))) eo = some (.inr (cio, fo)) := (zu_ne hbo).trans heo
  refine z_invV (n := 3) (C := RJx4a65c) (c_add3E l hZ he_1 g3 hcio) X hS hR hl.1 (q_307 hT hW) (q_6 hT hW) (q_304 hT hW) (q_306 hT hW) (q_p1 hT hW) (z_recv hK hR he_1 rfl) (by decide +kernel) rfl ⟨Nat.le_of_ble_eq_true rfl, Nat.le_of_ble_eq_true rfl⟩ ⟨Nat.le_of_ble_eq_true rfl, Nat.le_of_ble_eq_true rfl⟩ (Nat.le_of_ble_eq_true rfl) dJx4a65c_add_9ea2d_20 (fun v H locs hv hS => ?_) rfl
  obtain ⟨rfl, q, hfr, hR⟩ := hv
  have hsw : zu (zu (zu w b (.inr (0, [.int (zi ((mo + 1))), .ref (dz), .int (zi (0))]))) q (.inl (tc 4, 10, .inr (.inr (.inr (.inr (va_up (fun _ => none) 0 (some eo)))))))) b (.inr (0, [.int (zi ((mo + 1))), .ref (q), .int (zi (0 + 1))])) = zu (zu w q (.inl (tc 4, 10, .inr (.inr (.inr (.inr (va_up (fun _ => none) 0 (some eo)))))))) b (.inr (0, [.int (zi ((mo + 1))), .ref (q), .int (zi (0 + 1))])) := by
    funext x
    unfold zu
    by_cases h1 : x = b
    · rw [if_pos h1, if_pos h1]
    · rw [if_neg h1, if_neg h1, if_neg h1]
  rw [hsw] at hR
  have hfr : ∀ q' e', w q' = some e' → q' ≠ q := by
    intro q1 e1 h1
    by_cases h2 : q1 = b
    · subst h2; exact hfr _ _ zu_eq
    · exact hfr q1 e1 ((zu_ne h2).trans h1)
  refine lv_iconst (v := zi (1)) hx hb dJx4a65c_add_9ea2d_23 rfl ?_
  exact z_zret hx hb hr rfl hlocks hS (by decide) (by decide) dJx4a65c_add_9ea2d_24 ⟨rfl, q, hfr, hR⟩
set_option maxHeartbeats 4000000 in
set_option maxRecDepth 100000 in
theorem c_add3G (l : Launch) {S : State} {D : va_G} {tc : Nat → ClassId} {A : Nat → Prop} {dz : Nat} (hZ : zB S D tc A dz) {w : zW} {b ea : Nat} {mo : Int} {cap : Nat} {el : Nat → Option Nat} (hb0 : w b = some (.inr (0, [.int (zi (mo)), .ref (ea), .int (zi ((cap : Int)))]))) (hea : w ea = some (.inl (tc 4, cap, .inr (.inr (.inr (.inr el)))))) (h0 : cap = 10 ∨ cap = 15 ∨ cap = 22) (hel : ∀ i, i < cap → ∀ y, el i = some y → ∃ ci fs, (ci = 1 ∨ ci = 2 ∨ ci = 3) ∧ w y = some (.inr (ci, fs))) {eo cio : Nat} {fo : List Value} (heo : w eo = some (.inr (cio, fo))) (hcio : cio = 1 ∨ cio = 2 ∨ cio = 3) : zM l S A yJx4a65c_add_72be8 cJx4a65c_add_72be8 4 (Option.none : Option Jvm.ClassFile.FieldType) { frames := 6, locals := 220, cells := 1, slots := 33 } [.ref (b), .ref (eo), .ref (ea), .int (zi ((cap : Int)))] (zR D A w) (fun v H => v = none ∧ ∃ q : Nat, (∀ q' e', w q' = some e' → q' ≠ q) ∧ zR D A (zu (zu w q (.inl (tc 4, (cap + cap / 2), .inr (.inr (.inr (.inr (va_up (va_cpy el (fun _ => none) 0 0 cap) cap (some eo)))))))) b (.inr (0, [.int (zi (mo)), .ref (q), .int (zi ((cap : Int) + 1))]))) H) := by
  refine zM.mk (by decide +kernel) (Nat.le_of_ble_eq_true rfl) ?_
  intro p e s m below meth c ls X0 hR hl
  obtain ⟨hx, hb, hml, hr, hlocks, hown, hnm, hW, hpre, hA⟩ := X0
  have X : zH S A p s m c cJx4a65c_add_72be8 4 RJx4a65c := ⟨hx, hb, hml, hown, hW, hpre, hA, hZ.2.2.1⟩
  have hT := hZ.1
  have hK := va_K.moved hW.alike hZ.2.1
  have hS : va_S A s.heap s.heap [] := va_S.rf
  have hl : lv_has ls 4 [(0, .ref (b)), (1, .ref (eo)), (2, .ref (ea)), (3, .int (zi ((cap : Int))))] := hl
  skip
  refine lv_iload_n hx hb dJx4a65c_add_72be8_0 rfl (lv_at hl 3 rfl) ?_
  refine lv_aload_n hx hb dJx4a65c_add_72be8_1 rfl (lv_at hl 2 rfl) ?_
  refine z_alen hx hb hK hR 4 hea rfl dJx4a65c_add_72be8_2 ?_
  refine z_icmp_ne (a := (cap : Int)) (b := (cap : Int)) (tgt := 11) hx hb dJx4a65c_add_72be8_3 (by decide) (by omega) (fun h_3 => ?_) (fun h_3 => ?_)
  · skip
    exact absurd rfl h_3
  · skip
    refine lv_aload_n hx hb dJx4a65c_add_72be8_6 rfl (lv_at hl 0 rfl) ?_
    refine z_invV (n := 0) (C := RJx4a65c) (c_grow0G l hZ hb0 hea h0 hel) X hS hR hl.1 (q_311 hT hW) (q_6 hT hW) (q_308 hT hW) (q_310 hT hW) (q_p2 hT hW) (z_recv hK hR hb0 rfl) (by decide +kernel) rfl ⟨Nat.le_of_ble_eq_true rfl, Nat.le_of_ble_eq_true rfl⟩ ⟨Nat.le_of_ble_eq_true rfl, Nat.le_of_ble_eq_true rfl⟩ (Nat.le_of_ble_eq_true rfl) dJx4a65c_add_72be8_7 (fun v H locs hv hS => ?_) rfl
    obtain ⟨q, rfl, hfr, hR⟩ := hv
    have hneq : b ≠ q := hfr _ _ hb0
    have he1 : (zu (zu w (q) (.inl (tc 4, (cap + cap / 2), .inr (.inr (.inr (.inr (va_cpy el (fun _ => none) 0 0 cap))))))) (b) (.inr (0, [.int (zi (mo)), .ref (q), .int (zi ((cap : Int)))]))) b = some (.inr (0, [.int (zi (mo)), .ref (q), .int (zi ((cap : Int)))])) := zu_eq
    have he2 : (zu (zu w (q) (.inl (tc 4, (cap + cap / 2), .inr (.inr (.inr (.inr (va_cpy el (fun _ => none) 0 0 cap))))))) (b) (.inr (0, [.int (zi (mo)), .ref (q), .int (zi ((cap : Int)))]))) q = some (.inl (tc 4, (cap + cap / 2), .inr (.inr (.inr (.inr (va_cpy el (fun _ => none) 0 0 cap)))))) := (zu_ne (Ne.symm hneq)).trans zu_eq
    have hbo : eo ≠ b := zne heo hb0 (by rcases hcio with rfl | rfl | rfl <;> (intro z; cases z))
    have he3 : (zu (zu w (q) (.inl (tc 4, (cap + cap / 2), .inr (.inr (.inr (.inr (va_cpy el (fun _ => none) 0 0 cap))))))) (b) (.inr (0, [.int (zi (mo)), .ref (q), .int (zi ((cap : Int)))]))) eo = some (.inr (cio, fo)) := (zu_ne hbo).trans ((zu_ne (hfr _ _ heo)).trans heo)
    refine lv_astore_n (lv' := [(2, .ref (q)), (0, .ref (b)), (1, .ref (eo)), (3, .int (zi ((cap : Int))))]) hx hb dJx4a65c_add_72be8_10 rfl hl (by decide) rfl (fun ls hl => ?_)
    refine lv_aload_n hx hb dJx4a65c_add_72be8_11 rfl (lv_at hl 0 rfl) ?_
    refine lv_iload_n hx hb dJx4a65c_add_72be8_12 rfl (lv_at hl 3 rfl) ?_
    refine lv_aload_n hx hb dJx4a65c_add_72be8_13 rfl (lv_at hl 2 rfl) ?_
    have hcs : ∃ (C : String) (T : u_T) (N : Nat), vwCl[cio]? = some (C, T, N) ∧ (Cond.castable C "java/lang/Object").before ([.ref (b), .ref (eo), .ref (ea), .int (zi ((cap : Int)))] : List Value).toArray s = true := by
      rcases hcio with rfl | rfl | rfl
      · exact ⟨_, _, _, rfl, va_Nw.use rfl (q_636 hT hW)⟩
      · exact ⟨_, _, _, rfl, va_Nw.use rfl (q_637 hT hW)⟩
      · exact ⟨_, _, _, rfl, va_Nw.use rfl (q_638 hT hW)⟩
    obtain ⟨C9, T9, N9, hc9, hca9⟩ := hcs
    refine z_aast (i := (cap : Int)) hx hb hK hR hS 4 he2 rfl he3 hc9 hca9 (by omega) dJx4a65c_add_72be8_14 (fun H locs hR hS => ?_)
    have hsw : zu (zu (zu w q (.inl (tc 4, (cap + cap / 2), .inr (.inr (.inr (.inr (va_cpy el (fun _ => none) 0 0 cap))))))) b (.inr (0, [.int (zi (mo)), .ref (q), .int (zi ((cap : Int)))]))) q (.inl (tc 4, (cap + cap / 2), .inr (.inr (.inr (.inr (va_up (va_cpy el (fun _ => none) 0 0 cap) cap (some eo))))))) = zu (zu w q (.inl (tc 4, (cap + cap / 2), .inr (.inr (.inr (.inr (va_up (va_cpy el (fun _ => none) 0 0 cap) cap (some eo)))))))) b (.inr (0, [.int (zi (mo)), .ref (q), .int (zi ((cap : Int)))])) := by
      funext x
      unfold zu
      by_cases h1 : x = q
      · rw [if_pos h1, if_neg (by rw [h1]; exact Ne.symm hneq), if_pos h1]
      · rw [if_neg h1, if_neg h1, if_neg h1]
    have hR : zR D A (zu (zu (zu w q (.inl (tc 4, (cap + cap / 2), .inr (.inr (.inr (.inr (va_cpy el (fun _ => none) 0 0 cap))))))) b (.inr (0, [.int (zi (mo)), .ref (q), .int (zi ((cap : Int)))]))) q (.inl (tc 4, (cap + cap / 2), .inr (.inr (.inr (.inr (va_up (va_cpy el (fun _ => none) 0 0 cap) cap (some eo)))))))) H := hR
    rw [hsw] at hR
    have he4 : (zu (zu w (q) (.inl (tc 4, (cap + cap / 2), .inr (.inr (.inr (.inr (va_up (va_cpy el (fun _ => none) 0 0 cap) cap (some eo)))))))) (b) (.inr (0, [.int (zi (mo)), .ref (q), .int (zi ((cap : Int)))]))) b = some (.inr (0, [.int (zi (mo)), .ref (q), .int (zi ((cap : Int)))])) := zu_eq
    refine lv_aload_n hx hb dJx4a65c_add_72be8_15 rfl (lv_at hl 1 rfl) ?_
    refine lv_iload_n hx hb dJx4a65c_add_72be8_16 rfl (lv_at hl 3 rfl) ?_
    refine lv_iconst (v := zi (1)) hx hb dJx4a65c_add_72be8_17 rfl ?_
    refine z_iadd (a := (cap : Int)) (b := 1) hx hb dJx4a65c_add_72be8_18 ?_
    refine z_put hx hb (q_wsJx4a65c hT hW) tyJx4a65c tyJx4a65c_ok nmJx4a65c hown hK hR hS he4 rfl 2 (by decide) (q_62 hT hW) (fun _ h => h) rfl (tyJx4a65c_ok 2 (by decide)) rfl rfl (Nat.le_of_ble_eq_true rfl) dJx4a65c_add_72be8_19 (fun H locs hR hS => ?_)
    rw [zu_zu] at hR
    have hR : zR D A (zu (zu w (q) (.inl (tc 4, (cap + cap / 2), .inr (.inr (.inr (.inr (va_up (va_cpy el (fun _ => none) 0 0 cap) cap (some eo)))))))) (b) (.inr (0, [.int (zi (mo)), .ref (q), .int (zi (((cap : Int) + 1)))]))) H := hR
    have he_1 : (zu (zu w (q) (.inl (tc 4, (cap + cap / 2), .inr (.inr (.inr (.inr (va_up (va_cpy el (fun _ => none) 0 0 cap) cap (some eo)))))))) (b) (.inr (0, [.int (zi (mo)), .ref (q), .int (zi (((cap : Int) + 1)))]))) (b) = some (.inr (0, [.int (zi (mo)), .ref (q), .int (zi (((cap : Int) + 1)))])) := zu_eq
    exact z_vret hx hb hr hlocks hS (by decide) (by decide) dJx4a65c_add_72be8_22 ⟨rfl, q, hfr, hR⟩
set_option maxHeartbeats 4000000 in
set_option maxRecDepth 100000 in
theorem c_addG (l : Launch) {S : State} {D : va_G} {tc : Nat → ClassId} {A : Nat → Prop} {dz : Nat} (hZ : zB S D tc A dz) {w : zW} {b ea : Nat} {mo : Int} {cap : Nat} {el : Nat → Option Nat} (hb0 : w b = some (.inr (0, [.int (zi (mo)), .ref (ea), .int (zi ((cap : Int)))]))) (hea : w ea = some (.inl (tc 4, cap, .inr (.inr (.inr (.inr el)))))) (h0 : cap = 10 ∨ cap = 15 ∨ cap = 22) (hel : ∀ i, i < cap → ∀ y, el i = some y → ∃ ci fs, (ci = 1 ∨ ci = 2 ∨ ci = 3) ∧ w y = some (.inr (ci, fs))) {eo cio : Nat} {fo : List Value} (heo : w eo = some (.inr (cio, fo))) (hcio : cio = 1 ∨ cio = 2 ∨ cio = 3) : zM l S A yJx4a65c_add_9ea2d cJx4a65c_add_9ea2d 2 (Option.some Jvm.ClassFile.FieldType.boolean) { frames := 7, locals := 260, cells := 1, slots := 33 } [.ref (b), .ref (eo)] (zR D A w) (fun v H => v = some (.int (zi 1)) ∧ ∃ q : Nat, (∀ q' e', w q' = some e' → q' ≠ q) ∧ zR D A (zu (zu w q (.inl (tc 4, (cap + cap / 2), .inr (.inr (.inr (.inr (va_up (va_cpy el (fun _ => none) 0 0 cap) cap (some eo)))))))) b (.inr (0, [.int (zi ((mo + 1))), .ref (q), .int (zi ((cap : Int) + 1))]))) H) := by
  refine zM.mk (by decide +kernel) (Nat.le_of_ble_eq_true rfl) ?_
  intro p e s m below meth c ls X0 hR hl
  obtain ⟨hx, hb, hml, hr, hlocks, hown, hnm, hW, hpre, hA⟩ := X0
  have X : zH S A p s m c cJx4a65c_add_9ea2d 2 RJx4a65c := ⟨hx, hb, hml, hown, hW, hpre, hA, hZ.2.2.1⟩
  have hT := hZ.1
  have hK := va_K.moved hW.alike hZ.2.1
  have hS : va_S A s.heap s.heap [] := va_S.rf
  have hl : lv_has ls 2 [(0, .ref (b)), (1, .ref (eo))] := hl
  skip
  refine lv_aload_n hx hb dJx4a65c_add_9ea2d_0 rfl (lv_at hl 0 rfl) ?_
  refine lv_dup hx hb dJx4a65c_add_9ea2d_1 rfl ?_
  refine z_get hx hb (q_wsJx4a65c hT hW) hown hK hR hb0 rfl 0 (by decide) (q_64 hT hW) (fun x9 h9 => u_same (args := #[]) (q_65 hT hW) x9 h9) rfl dJx4a65c_add_9ea2d_2 ?_
  refine lv_iconst (v := zi (1)) hx hb dJx4a65c_add_9ea2d_5 rfl ?_
  refine z_iadd (a := mo) (b := 1) hx hb dJx4a65c_add_9ea2d_6 ?_
  refine z_put hx hb (q_wsJx4a65c hT hW) tyJx4a65c tyJx4a65c_ok nmJx4a65c hown hK hR hS hb0 rfl 0 (by decide) (q_64 hT hW) (fun x9 h9 => u_same (args := #[]) (q_65 hT hW) x9 h9) rfl (tyJx4a65c_ok 0 (by decide)) rfl rfl (Nat.le_of_ble_eq_true rfl) dJx4a65c_add_9ea2d_7 (fun H locs hR hS => ?_)
  have hR : zR D A (zu w (b) (.inr (0, [.int (zi ((mo + 1))), .ref (ea), .int (zi ((cap : Int)))]))) H := hR
  have he_1 : (zu w (b) (.inr (0, [.int (zi ((mo + 1))), .ref (ea), .int (zi ((cap : Int)))]))) (b) = some (.inr (0, [.int (zi ((mo + 1))), .ref (ea), .int (zi ((cap : Int)))])) := zu_eq
  refine lv_aload_n hx hb dJx4a65c_add_9ea2d_10 rfl (lv_at hl 0 rfl) ?_
  refine lv_aload_n hx hb dJx4a65c_add_9ea2d_11 rfl (lv_at hl 1 rfl) ?_
  refine lv_aload_n hx hb dJx4a65c_add_9ea2d_12 rfl (lv_at hl 0 rfl) ?_
  refine z_get hx hb (q_wsJx4a65c hT hW) hown hK hR he_1 rfl 1 (by decide) (q_61 hT hW) (fun _ h => h) rfl dJx4a65c_add_9ea2d_13 ?_
  refine lv_aload_n hx hb dJx4a65c_add_9ea2d_16 rfl (lv_at hl 0 rfl) ?_
  refine z_get hx hb (q_wsJx4a65c hT hW) hown hK hR he_1 rfl 2 (by decide) (q_62 hT hW) (fun _ h => h) rfl dJx4a65c_add_9ea2d_17 ?_
  have hbo : eo ≠ b := zne heo hb0 (by rcases hcio with rfl | rfl | rfl <;> (intro z; cases z))
  have g3 : (zu w b (.inr (0, [.int (zi ((mo + 1))), .ref (ea), .int (zi ((cap : Int)))]))) eo = some (.inr (cio, fo)) := (zu_ne hbo).trans heo
  have hbe : ea ≠ b := zne hea hb0 (by intro z; cases z)
  have g2 : (zu w b (.inr (0, [.int (zi ((mo + 1))), .ref (ea), .int (zi ((cap : Int)))]))) ea = some (.inl (tc 4, cap, .inr (.inr (.inr (.inr el))))) := (zu_ne hbe).trans hea
  have g4 : ∀ i, i < cap → ∀ y, el i = some y → ∃ ci fs, (ci = 1 ∨ ci = 2 ∨ ci = 3) ∧ (zu w b (.inr (0, [.int (zi ((mo + 1))), .ref (ea), .int (zi ((cap : Int)))]))) y = some (.inr (ci, fs)) := by
    intro i hi y hy
    obtain ⟨ci, fs, hci, hwy⟩ := hel i hi y hy
    exact ⟨ci, fs, hci, (zu_ne (zne hwy hb0 (by rcases hci with rfl | rfl | rfl <;> (intro z; cases z)))).trans hwy⟩
  refine z_invV (n := 3) (C := RJx4a65c) (c_add3G l hZ he_1 g2 h0 g4 g3 hcio) X hS hR hl.1 (q_307 hT hW) (q_6 hT hW) (q_304 hT hW) (q_306 hT hW) (q_p1 hT hW) (z_recv hK hR he_1 rfl) (by decide +kernel) rfl ⟨Nat.le_of_ble_eq_true rfl, Nat.le_of_ble_eq_true rfl⟩ ⟨Nat.le_of_ble_eq_true rfl, Nat.le_of_ble_eq_true rfl⟩ (Nat.le_of_ble_eq_true rfl) dJx4a65c_add_9ea2d_20 (fun v H locs hv hS => ?_) rfl
  obtain ⟨rfl, q, hfr, hR⟩ := hv
  have hsw : zu (zu (zu w b (.inr (0, [.int (zi ((mo + 1))), .ref (ea), .int (zi ((cap : Int)))]))) q (.inl (tc 4, (cap + cap / 2), .inr (.inr (.inr (.inr (va_up (va_cpy el (fun _ => none) 0 0 cap) cap (some eo)))))))) b (.inr (0, [.int (zi ((mo + 1))), .ref (q), .int (zi ((cap : Int) + 1))])) = zu (zu w q (.inl (tc 4, (cap + cap / 2), .inr (.inr (.inr (.inr (va_up (va_cpy el (fun _ => none) 0 0 cap) cap (some eo)))))))) b (.inr (0, [.int (zi ((mo + 1))), .ref (q), .int (zi ((cap : Int) + 1))])) := by
    funext x
    unfold zu
    by_cases h1 : x = b
    · rw [if_pos h1, if_pos h1]
    · rw [if_neg h1, if_neg h1, if_neg h1]
  rw [hsw] at hR
  have hfr : ∀ q' e', w q' = some e' → q' ≠ q := by
    intro q1 e1 h1
    by_cases h2 : q1 = b
    · subst h2; exact hfr _ _ zu_eq
    · exact hfr q1 e1 ((zu_ne h2).trans h1)
  refine lv_iconst (v := zi (1)) hx hb dJx4a65c_add_9ea2d_23 rfl ?_
  exact z_zret hx hb hr rfl hlocks hS (by decide) (by decide) dJx4a65c_add_9ea2d_24 ⟨rfl, q, hfr, hR⟩

