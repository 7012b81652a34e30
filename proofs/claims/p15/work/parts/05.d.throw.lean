/-! throws of the class's own methods; the checks; the ledger's answers -/
def zdecl : List MethodName := [⟨"java/lang/RuntimeException", "<init>", "(Ljava/lang/String;)V"⟩, ⟨"java/lang/Exception", "<init>", "(Ljava/lang/String;)V"⟩, ⟨"java/lang/Throwable", "<init>", "(Ljava/lang/String;)V"⟩]
def zcasts : List String := ["java/lang/IndexOutOfBoundsException", "java/lang/IllegalArgumentException", "java/lang/IllegalStateException"]
theorem zth_w {S s : State} {args : Array Value} {w : Cond} (hT : zT S) (hW : S.WarmedH s.vm) (h : w ∈ lw_tbl ∧ ((w.onTables && w.keeps) = true ∨ w ∈ zdecl.map Cond.declares ∨ w ∈ zcasts.map (fun x => Cond.castable x x))) : w.before args s = true := by
  rcases h.2 with h2 | h2 | h2
  · exact word_at hW (Or.inl h2) (hT w h.1)
  · obtain ⟨x, -, rfl⟩ := List.mem_map.mp h2
    exact va_Nw.use rfl (va_Nw.warmD hW (hT _ h.1))
  · obtain ⟨x, -, rfl⟩ := List.mem_map.mp h2
    exact va_Nw.use rfl (va_Nw.warmC hW (hT _ h.1))
theorem zthr_I : ∀ w ∈ vx_atS RX5 247 "java/lang/IndexOutOfBoundsException" ["java/lang/RuntimeException", "java/lang/Exception"], w ∈ lw_tbl ∧ ((w.onTables && w.keeps) = true ∨ w ∈ zdecl.map Cond.declares ∨ w ∈ zcasts.map (fun x => Cond.castable x x)) := by decide +kernel
theorem zthg_I : ∀ w ∈ Cond.classLink RX5 243 "java/lang/IndexOutOfBoundsException" :: Cond.initialized "java/lang/IndexOutOfBoundsException" :: vx_atS RX5 247 "java/lang/IndexOutOfBoundsException" ["java/lang/RuntimeException", "java/lang/Exception"], vx_ot w = true := by decide +kernel
theorem zthr_A : ∀ w ∈ vx_atS RX5 91 "java/lang/IllegalArgumentException" ["java/lang/RuntimeException", "java/lang/Exception"], w ∈ lw_tbl ∧ ((w.onTables && w.keeps) = true ∨ w ∈ zdecl.map Cond.declares ∨ w ∈ zcasts.map (fun x => Cond.castable x x)) := by decide +kernel
theorem zthg_A : ∀ w ∈ Cond.classLink RX5 87 "java/lang/IllegalArgumentException" :: Cond.initialized "java/lang/IllegalArgumentException" :: vx_atS RX5 91 "java/lang/IllegalArgumentException" ["java/lang/RuntimeException", "java/lang/Exception"], vx_ot w = true := by decide +kernel
theorem zthr_S : ∀ w ∈ vx_atS RX5 61 "java/lang/IllegalStateException" ["java/lang/RuntimeException", "java/lang/Exception"], w ∈ lw_tbl ∧ ((w.onTables && w.keeps) = true ∨ w ∈ zdecl.map Cond.declares ∨ w ∈ zcasts.map (fun x => Cond.castable x x)) := by decide +kernel
theorem zthg_S : ∀ w ∈ Cond.classLink RX5 57 "java/lang/IllegalStateException" :: Cond.initialized "java/lang/IllegalStateException" :: vx_atS RX5 61 "java/lang/IllegalStateException" ["java/lang/RuntimeException", "java/lang/Exception"], vx_ot w = true := by decide +kernel
theorem zB.ust {S s : State} {D : va_G} {tc : Nat → ClassId} {A : Nat → Prop} {dz : Nat} (hZ : zB S D tc A dz) (hW : S.WarmedH s.vm) (hp : zP S s.heap) : vx_Zq Bundle.tN "UNASSIGNED_STACK" Bundle.steD A s s.heap := by
  have h1 := vx_Zq.moved hW.alike hZ.2.2.2.2.2.1
  have h2 := vx_Zq.narrow h1 (B := A) hZ.2.2.1
  have h3 : vx_Zq Bundle.tN "UNASSIGNED_STACK" Bundle.steD A s S.heap := h2
  exact vx_Zq.kept h3 (fun a ha _ => hp.2 a ha)
theorem zB.sup {S s : State} {D : va_G} {tc : Nat → ClassId} {A : Nat → Prop} {dz : Nat} (hZ : zB S D tc A dz) (hW : S.WarmedH s.vm) (hp : zP S s.heap) : vx_Zq Bundle.tN "SUPPRESSED_SENTINEL" Bundle.listD A s s.heap := by
  have h1 := vx_Zq.moved hW.alike hZ.2.2.2.2.2.2.1
  have h2 := vx_Zq.narrow h1 (B := A) hZ.2.2.1
  have h3 : vx_Zq Bundle.tN "SUPPRESSED_SENTINEL" Bundle.listD A s S.heap := h2
  exact vx_Zq.kept h3 (fun a ha _ => hp.2 a ha)
theorem zB.str {S s : State} {D : va_G} {tc : Nat → ClassId} {A : Nat → Prop} {dz : Nat} (hZ : zB S D tc A dz) (hW : S.WarmedH s.vm) {k : Nat} {tx : String} (hk : k ∈ zstr) (h : (Cond.stringRef RX5 k tx).before #[] S = true) : ∃ sa : Nat, vk_R RX5 k tx sa s := by
  obtain ⟨sa, h1⟩ := hZ.2.2.2.2.2.2.2.2 k tx hk h
  exact ⟨sa, vk_R.warm hW h1⟩
section ZTH
variable {p : Program} {l : Launch} {e : Env} {R : Room} {s : State} {m : MethodId} {args : Array Value} {below : List Frame} {meth : Method} {c : Code} {H : Heap} {locs : List Loc} {cells slots : Nat}
variable {cc : ByteArray} {pc : Nat} {ls : Array Slot} {rest : List Value} {S : State} {D : va_G} {A : Nat → Prop} {tc : Nat → ClassId} {dz : Nat} {nL mc ms : Nat} {post : Option Value → Heap → Prop} {px : String → Heap → Prop}
theorem z_thrI (hZ : zB S D tc A dz) (hflags : l.stackTraces = false) (X : zH S A p s m c cc nL RX5) (hnt : ∀ x ∈ c.exceptionTable.toList, False) (hlocks : meth.locks = false) (hlv : ls.size = nL) (hS : va_S A s.heap H locs) {is : Nat} {tx : String} (hk : is ∈ zstr) (hstr : (Cond.stringRef RX5 is tx).before #[] S = true)
    (d0 : decode cc pc = .ok (.new 243, 3)) (d3 : decode cc (pc + 3) = .ok (.dup, 1)) (d4 : decode cc (pc + 4) = .ok (.ldc is, 2)) (d6 : decode cc (pc + 6) = .ok (.invokespecial 247, 3)) (d9 : decode cc (pc + 9) = .ok (.athrow, 1))
    (hRf : 5 < R.frames) (hRl : (rest.map fun v => v.category).sum + 82 ≤ R.locals) (hRc : cells + 1 ≤ R.cells) (hRs : slots + 6 ≤ R.slots) (hc : cells + 1 ≤ mc) (hs : slots + 6 ≤ ms) (hx : ∀ H' : Heap, H.size ≤ H'.size → (∀ q : Nat, q < H.size → H'[q]? = H[q]?) → px "java/lang/IndexOutOfBoundsException" H') :
    W p l e R s m args below meth c H locs cells slots (vx_MQ below (zQ A post) (zXC A px) args s mc ms A) (F0 m pc ls rest) := by
  obtain ⟨hx0, hb, hml, hown, hW, hp, hA, hAz⟩ := X
  obtain ⟨sa, hsa⟩ := hZ.str hW hk hstr
  refine vx_throwS hx0 hb hflags (cls := "java/lang/IndexOutOfBoundsException") (names := ["java/lang/RuntimeException", "java/lang/Exception"]) hown (by decide +kernel) (by decide +kernel) (q_123 hZ.1 hW) (q_10 hZ.1 hW) hsa (fun w hw => zth_w hZ.1 hW (zthr_I w hw)) zthg_I (hZ.ust hW hp) (hZ.sup hW hp) hS (hlv.trans hml.symm) d0 d3 d4 d6 d9 (fun x h => (hnt x h).elim) hRf hRl hRc hRs hlocks (fun t _ h1 h2 => ⟨hx _ h1 h2, Nat.le_trans hS.1 h1, fun q h3 h4 => (h2 q (Nat.lt_of_lt_of_le h3 hS.1)).trans (hS.2.1 q h3 h4)⟩) hS.2.2 hc hs
theorem z_thrA (hZ : zB S D tc A dz) (hflags : l.stackTraces = false) (X : zH S A p s m c cc nL RX5) (hnt : ∀ x ∈ c.exceptionTable.toList, False) (hlocks : meth.locks = false) (hlv : ls.size = nL) (hS : va_S A s.heap H locs) {is : Nat} {tx : String} (hk : is ∈ zstr) (hstr : (Cond.stringRef RX5 is tx).before #[] S = true)
    (d0 : decode cc pc = .ok (.new 87, 3)) (d3 : decode cc (pc + 3) = .ok (.dup, 1)) (d4 : decode cc (pc + 4) = .ok (.ldc is, 2)) (d6 : decode cc (pc + 6) = .ok (.invokespecial 91, 3)) (d9 : decode cc (pc + 9) = .ok (.athrow, 1))
    (hRf : 5 < R.frames) (hRl : (rest.map fun v => v.category).sum + 82 ≤ R.locals) (hRc : cells + 1 ≤ R.cells) (hRs : slots + 6 ≤ R.slots) (hc : cells + 1 ≤ mc) (hs : slots + 6 ≤ ms) (hx : ∀ H' : Heap, H.size ≤ H'.size → (∀ q : Nat, q < H.size → H'[q]? = H[q]?) → px "java/lang/IllegalArgumentException" H') :
    W p l e R s m args below meth c H locs cells slots (vx_MQ below (zQ A post) (zXC A px) args s mc ms A) (F0 m pc ls rest) := by
  obtain ⟨hx0, hb, hml, hown, hW, hp, hA, hAz⟩ := X
  obtain ⟨sa, hsa⟩ := hZ.str hW hk hstr
  refine vx_throwS hx0 hb hflags (cls := "java/lang/IllegalArgumentException") (names := ["java/lang/RuntimeException", "java/lang/Exception"]) hown (by decide +kernel) (by decide +kernel) (q_198 hZ.1 hW) (q_11 hZ.1 hW) hsa (fun w hw => zth_w hZ.1 hW (zthr_A w hw)) zthg_A (hZ.ust hW hp) (hZ.sup hW hp) hS (hlv.trans hml.symm) d0 d3 d4 d6 d9 (fun x h => (hnt x h).elim) hRf hRl hRc hRs hlocks (fun t _ h1 h2 => ⟨hx _ h1 h2, Nat.le_trans hS.1 h1, fun q h3 h4 => (h2 q (Nat.lt_of_lt_of_le h3 hS.1)).trans (hS.2.1 q h3 h4)⟩) hS.2.2 hc hs
theorem z_thrS (hZ : zB S D tc A dz) (hflags : l.stackTraces = false) (X : zH S A p s m c cc nL RX5) (hnt : ∀ x ∈ c.exceptionTable.toList, False) (hlocks : meth.locks = false) (hlv : ls.size = nL) (hS : va_S A s.heap H locs) {is : Nat} {tx : String} (hk : is ∈ zstr) (hstr : (Cond.stringRef RX5 is tx).before #[] S = true)
    (d0 : decode cc pc = .ok (.new 57, 3)) (d3 : decode cc (pc + 3) = .ok (.dup, 1)) (d4 : decode cc (pc + 4) = .ok (.ldc is, 2)) (d6 : decode cc (pc + 6) = .ok (.invokespecial 61, 3)) (d9 : decode cc (pc + 9) = .ok (.athrow, 1))
    (hRf : 5 < R.frames) (hRl : (rest.map fun v => v.category).sum + 82 ≤ R.locals) (hRc : cells + 1 ≤ R.cells) (hRs : slots + 6 ≤ R.slots) (hc : cells + 1 ≤ mc) (hs : slots + 6 ≤ ms) (hx : ∀ H' : Heap, H.size ≤ H'.size → (∀ q : Nat, q < H.size → H'[q]? = H[q]?) → px "java/lang/IllegalStateException" H') :
    W p l e R s m args below meth c H locs cells slots (vx_MQ below (zQ A post) (zXC A px) args s mc ms A) (F0 m pc ls rest) := by
  obtain ⟨hx0, hb, hml, hown, hW, hp, hA, hAz⟩ := X
  obtain ⟨sa, hsa⟩ := hZ.str hW hk hstr
  refine vx_throwS hx0 hb hflags (cls := "java/lang/IllegalStateException") (names := ["java/lang/RuntimeException", "java/lang/Exception"]) hown (by decide +kernel) (by decide +kernel) (q_224 hZ.1 hW) (q_12 hZ.1 hW) hsa (fun w hw => zth_w hZ.1 hW (zthr_S w hw)) zthg_S (hZ.ust hW hp) (hZ.sup hW hp) hS (hlv.trans hml.symm) d0 d3 d4 d6 d9 (fun x h => (hnt x h).elim) hRf hRl hRc hRs hlocks (fun t _ h1 h2 => ⟨hx _ h1 h2, Nat.le_trans hS.1 h1, fun q h3 h4 => (h2 q (Nat.lt_of_lt_of_le h3 hS.1)).trans (hS.2.1 q h3 h4)⟩) hS.2.2 hc hs
end ZTH
set_option maxHeartbeats 4000000 in
set_option maxRecDepth 100000 in
theorem c_X5_checkClub (l : Launch) (hflags : l.stackTraces = false) {S : State} {D : va_G} {tc : Nat → ClassId} {A : Nat → Prop} {dz : Nat} (hZ : zB S D tc A dz) {w : zW} {a : Int} (h0 : -2147483648 ≤ a ∧ a ≤ 2147483647) : zMX l S A yX5_checkClub cX5_checkClub 1 (Option.none : Option Jvm.ClassFile.FieldType) { frames := 6, locals := 90, cells := 1, slots := 6 } [.int (zi (a))] (zR D A w) (fun v H => v = none ∧ (0 ≤ a ∧ a ≤ 2) ∧ zR D A w H) (fun E H => E = "java/lang/IndexOutOfBoundsException" ∧ (¬ (0 ≤ a ∧ a ≤ 2)) ∧ zR D A w H) := by
  refine zMX.mk (by decide +kernel) (Nat.le_of_ble_eq_true rfl) ?_
  intro p e s m below meth c ls X0 hnt hR hl
  obtain ⟨hx, hb, hml, hr, hlocks, hown, hnm, hW, hpre, hA⟩ := X0
  have X : zH S A p s m c cX5_checkClub 1 RX5 := ⟨hx, hb, hml, hown, hW, hpre, hA, hZ.2.2.1⟩
  have hT := hZ.1
  have hK := va_K.moved hW.alike hZ.2.1
  have hS : va_S A s.heap s.heap [] := va_S.rf
  have hl : lv_has ls 1 [(0, .int (zi (a)))] := hl
  skip
  refine lv_iload_n hx hb dX5_checkClub_0 rfl (lv_at hl 0 rfl) ?_
  refine z_if_lt (a := a) (tgt := 9) hx hb dX5_checkClub_1 (by decide) (by omega) (fun h_1 => ?_) (fun h_1 => ?_)
  · skip
    refine z_thrI hZ hflags X hnt hlocks hl.1 hS (by decide) (q_164 hT) dX5_checkClub_9 dX5_checkClub_12 dX5_checkClub_13 dX5_checkClub_15 dX5_checkClub_18 (by decide) (Nat.le_of_ble_eq_true rfl) (Nat.le_of_ble_eq_true rfl) (Nat.le_of_ble_eq_true rfl) (Nat.le_of_ble_eq_true rfl) (Nat.le_of_ble_eq_true rfl) (fun H' hs1 hs2 => ⟨rfl, by omega, zR.kept hR (fun q hq _ => hs2 q hq)⟩)
  · skip
    refine lv_iload_n hx hb dX5_checkClub_4 rfl (lv_at hl 0 rfl) ?_
    refine lv_iconst (v := zi (3)) hx hb dX5_checkClub_5 rfl ?_
    refine z_icmp_lt (a := a) (b := 3) (tgt := 19) hx hb dX5_checkClub_6 (by decide) (by omega) (fun h_6 => ?_) (fun h_6 => ?_)
    · skip
      exact vx_ret (z_vret hx hb hr hlocks hS (by decide) (by decide) dX5_checkClub_19 ⟨rfl, by omega, hR⟩)
    · skip
      refine z_thrI hZ hflags X hnt hlocks hl.1 hS (by decide) (q_164 hT) dX5_checkClub_9 dX5_checkClub_12 dX5_checkClub_13 dX5_checkClub_15 dX5_checkClub_18 (by decide) (Nat.le_of_ble_eq_true rfl) (Nat.le_of_ble_eq_true rfl) (Nat.le_of_ble_eq_true rfl) (Nat.le_of_ble_eq_true rfl) (Nat.le_of_ble_eq_true rfl) (fun H' hs1 hs2 => ⟨rfl, by omega, zR.kept hR (fun q hq _ => hs2 q hq)⟩)
set_option maxHeartbeats 4000000 in
set_option maxRecDepth 100000 in
theorem c_X5_checkCell (l : Launch) (hflags : l.stackTraces = false) {S : State} {D : va_G} {tc : Nat → ClassId} {A : Nat → Prop} {dz : Nat} (hZ : zB S D tc A dz) {w : zW} {a : Int} (h0 : -2147483648 ≤ a ∧ a ≤ 2147483647) : zMX l S A yX5_checkCell cX5_checkCell 1 (Option.none : Option Jvm.ClassFile.FieldType) { frames := 6, locals := 90, cells := 1, slots := 6 } [.int (zi (a))] (zR D A w) (fun v H => v = none ∧ (0 ≤ a ∧ a ≤ 47) ∧ zR D A w H) (fun E H => E = "java/lang/IndexOutOfBoundsException" ∧ (¬ (0 ≤ a ∧ a ≤ 47)) ∧ zR D A w H) := by
  refine zMX.mk (by decide +kernel) (Nat.le_of_ble_eq_true rfl) ?_
  intro p e s m below meth c ls X0 hnt hR hl
  obtain ⟨hx, hb, hml, hr, hlocks, hown, hnm, hW, hpre, hA⟩ := X0
  have X : zH S A p s m c cX5_checkCell 1 RX5 := ⟨hx, hb, hml, hown, hW, hpre, hA, hZ.2.2.1⟩
  have hT := hZ.1
  have hK := va_K.moved hW.alike hZ.2.1
  have hS : va_S A s.heap s.heap [] := va_S.rf
  have hl : lv_has ls 1 [(0, .int (zi (a)))] := hl
  skip
  refine lv_iload_n hx hb dX5_checkCell_0 rfl (lv_at hl 0 rfl) ?_
  refine z_if_lt (a := a) (tgt := 10) hx hb dX5_checkCell_1 (by decide) (by omega) (fun h_1 => ?_) (fun h_1 => ?_)
  · skip
    refine z_thrI hZ hflags X hnt hlocks hl.1 hS (by decide) (q_194 hT) dX5_checkCell_10 dX5_checkCell_13 dX5_checkCell_14 dX5_checkCell_16 dX5_checkCell_19 (by decide) (Nat.le_of_ble_eq_true rfl) (Nat.le_of_ble_eq_true rfl) (Nat.le_of_ble_eq_true rfl) (Nat.le_of_ble_eq_true rfl) (Nat.le_of_ble_eq_true rfl) (fun H' hs1 hs2 => ⟨rfl, by omega, zR.kept hR (fun q hq _ => hs2 q hq)⟩)
  · skip
    refine lv_iload_n hx hb dX5_checkCell_4 rfl (lv_at hl 0 rfl) ?_
    refine lv_bipush (v := zi (48)) hx hb dX5_checkCell_5 rfl ?_
    refine z_icmp_lt (a := a) (b := 48) (tgt := 20) hx hb dX5_checkCell_7 (by decide) (by omega) (fun h_7 => ?_) (fun h_7 => ?_)
    · skip
      exact vx_ret (z_vret hx hb hr hlocks hS (by decide) (by decide) dX5_checkCell_20 ⟨rfl, by omega, hR⟩)
    · skip
      refine z_thrI hZ hflags X hnt hlocks hl.1 hS (by decide) (q_194 hT) dX5_checkCell_10 dX5_checkCell_13 dX5_checkCell_14 dX5_checkCell_16 dX5_checkCell_19 (by decide) (Nat.le_of_ble_eq_true rfl) (Nat.le_of_ble_eq_true rfl) (Nat.le_of_ble_eq_true rfl) (Nat.le_of_ble_eq_true rfl) (Nat.le_of_ble_eq_true rfl) (fun H' hs1 hs2 => ⟨rfl, by omega, zR.kept hR (fun q hq _ => hs2 q hq)⟩)
set_option maxHeartbeats 4000000 in
set_option maxRecDepth 100000 in
theorem c_X5_checkWithin (l : Launch) (hflags : l.stackTraces = false) {S : State} {D : va_G} {tc : Nat → ClassId} {A : Nat → Prop} {dz : Nat} (hZ : zB S D tc A dz) {w : zW} {a lo hi : Int} (h0 : -2147483648 ≤ a ∧ a ≤ 2147483647 ∧ -2147483648 ≤ lo ∧ lo ≤ 2147483647 ∧ -2147483648 ≤ hi ∧ hi ≤ 2147483647) : zMX l S A yX5_checkWithin cX5_checkWithin 3 (Option.none : Option Jvm.ClassFile.FieldType) { frames := 6, locals := 90, cells := 1, slots := 6 } [.int (zi (a)), .int (zi (lo)), .int (zi (hi))] (zR D A w) (fun v H => v = none ∧ (lo ≤ a ∧ a ≤ hi) ∧ zR D A w H) (fun E H => E = "java/lang/IllegalArgumentException" ∧ (¬ (lo ≤ a ∧ a ≤ hi)) ∧ zR D A w H) := by
  refine zMX.mk (by decide +kernel) (Nat.le_of_ble_eq_true rfl) ?_
  intro p e s m below meth c ls X0 hnt hR hl
  obtain ⟨hx, hb, hml, hr, hlocks, hown, hnm, hW, hpre, hA⟩ := X0
  have X : zH S A p s m c cX5_checkWithin 3 RX5 := ⟨hx, hb, hml, hown, hW, hpre, hA, hZ.2.2.1⟩
  have hT := hZ.1
  have hK := va_K.moved hW.alike hZ.2.1
  have hS : va_S A s.heap s.heap [] := va_S.rf
  have hl : lv_has ls 3 [(0, .int (zi (a))), (1, .int (zi (lo))), (2, .int (zi (hi)))] := hl
  skip
  refine lv_iload_n hx hb dX5_checkWithin_0 rfl (lv_at hl 0 rfl) ?_
  refine lv_iload_n hx hb dX5_checkWithin_1 rfl (lv_at hl 1 rfl) ?_
  refine z_icmp_lt (a := a) (b := lo) (tgt := 10) hx hb dX5_checkWithin_2 (by decide) (by omega) (fun h_2 => ?_) (fun h_2 => ?_)
  · skip
    refine z_thrA hZ hflags X hnt hlocks hl.1 hS (by decide) (q_207 hT) dX5_checkWithin_10 dX5_checkWithin_13 dX5_checkWithin_14 dX5_checkWithin_16 dX5_checkWithin_19 (by decide) (Nat.le_of_ble_eq_true rfl) (Nat.le_of_ble_eq_true rfl) (Nat.le_of_ble_eq_true rfl) (Nat.le_of_ble_eq_true rfl) (Nat.le_of_ble_eq_true rfl) (fun H' hs1 hs2 => ⟨rfl, by omega, zR.kept hR (fun q hq _ => hs2 q hq)⟩)
  · skip
    refine lv_iload_n hx hb dX5_checkWithin_5 rfl (lv_at hl 0 rfl) ?_
    refine lv_iload_n hx hb dX5_checkWithin_6 rfl (lv_at hl 2 rfl) ?_
    refine z_icmp_le (a := a) (b := hi) (tgt := 20) hx hb dX5_checkWithin_7 (by decide) (by omega) (fun h_7 => ?_) (fun h_7 => ?_)
    · skip
      exact vx_ret (z_vret hx hb hr hlocks hS (by decide) (by decide) dX5_checkWithin_20 ⟨rfl, by omega, hR⟩)
    · skip
      refine z_thrA hZ hflags X hnt hlocks hl.1 hS (by decide) (q_207 hT) dX5_checkWithin_10 dX5_checkWithin_13 dX5_checkWithin_14 dX5_checkWithin_16 dX5_checkWithin_19 (by decide) (Nat.le_of_ble_eq_true rfl) (Nat.le_of_ble_eq_true rfl) (Nat.le_of_ble_eq_true rfl) (Nat.le_of_ble_eq_true rfl) (Nat.le_of_ble_eq_true rfl) (fun H' hs1 hs2 => ⟨rfl, by omega, zR.kept hR (fun q hq _ => hs2 q hq)⟩)
set_option maxHeartbeats 4000000 in
set_option maxRecDepth 100000 in
theorem c_X5_boatNumbered (l : Launch) (hflags : l.stackTraces = false) {S : State} {D : va_G} {tc : Nat → ClassId} {A : Nat → Prop} {dz : Nat} (hZ : zB S D tc A dz) {ad aB aC aD : Nat → Nat} {nd : Nat} {dd : Nat → Nat → Int} {Wd : Nat → Int64} {u : zS_} {w : zW} (hC : zCx tc dz ad aB aC aD nd dd Wd u w) (hI : zIn u) {a : Int} (h0 : -2147483648 ≤ a ∧ a ≤ 2147483647) : zMX l S A yX5_boatNumbered cX5_boatNumbered 2 (Option.some (Jvm.ClassFile.FieldType.object "Rescuemarket$Boat")) { frames := 6, locals := 110, cells := 1, slots := 6 } [.ref (ad 0), .int (zi (a))] (zR D A w) (fun v H => v = some (.ref (aB a.toNat)) ∧ (0 ≤ a ∧ a < u 13 0) ∧ zR D A w H) (fun E H => E = "java/lang/IndexOutOfBoundsException" ∧ (¬ (0 ≤ a ∧ a < u 13 0)) ∧ zR D A w H) := by
  refine zMX.mk (by decide +kernel) (Nat.le_of_ble_eq_true rfl) ?_
  intro p e s m below meth c ls X0 hnt hR hl
  obtain ⟨hx, hb, hml, hr, hlocks, hown, hnm, hW, hpre, hA⟩ := X0
  have X : zH S A p s m c cX5_boatNumbered 2 RX5 := ⟨hx, hb, hml, hown, hW, hpre, hA, hZ.2.2.1⟩
  have hT := hZ.1
  have hK := va_K.moved hW.alike hZ.2.1
  have hS : va_S A s.heap s.heap [] := va_S.rf
  have hl : lv_has ls 2 [(0, .ref (ad 0)), (1, .int (zi (a)))] := hl
  skip
  have hI1 := hI.1
  refine lv_iload_n hx hb dX5_boatNumbered_0 rfl (lv_at hl 1 rfl) ?_
  refine z_if_lt (a := a) (tgt := 17) hx hb dX5_boatNumbered_1 (by decide) (by omega) (fun h_1 => ?_) (fun h_1 => ?_)
  · skip
    refine z_thrI hZ hflags X hnt hlocks hl.1 hS (by decide) (q_365 hT) dX5_boatNumbered_17 dX5_boatNumbered_20 dX5_boatNumbered_21 dX5_boatNumbered_23 dX5_boatNumbered_26 (by decide) (Nat.le_of_ble_eq_true rfl) (Nat.le_of_ble_eq_true rfl) (Nat.le_of_ble_eq_true rfl) (Nat.le_of_ble_eq_true rfl) (Nat.le_of_ble_eq_true rfl) (fun H' hs1 hs2 => ⟨rfl, by omega, zR.kept hR (fun q hq _ => hs2 q hq)⟩)
  · skip
    refine lv_iload_n hx hb dX5_boatNumbered_4 rfl (lv_at hl 1 rfl) ?_
    refine lv_aload_n hx hb dX5_boatNumbered_5 rfl (lv_at hl 0 rfl) ?_
    refine z_get hx hb (q_wsX5 hT hW) hown hK hR hC.mk rfl 2 (by decide) (q_85 hT hW) (fun _ h => h) rfl dX5_boatNumbered_6 ?_
    refine z_sizeL hZ X hK hl.1 hC.lB hR hS (q_215 hT hW) ⟨Nat.le_of_ble_eq_true rfl, Nat.le_of_ble_eq_true rfl⟩ ⟨Nat.le_of_ble_eq_true rfl, Nat.le_of_ble_eq_true rfl⟩ (Nat.le_of_ble_eq_true rfl) dX5_boatNumbered_9 (fun H locs hR hS => ?_)
    refine z_icmp_lt (a := a) (b := (((u 13 0).toNat : Nat) : Int)) (tgt := 27) hx hb dX5_boatNumbered_14 (by decide) (by omega) (fun h_14 => ?_) (fun h_14 => ?_)
    · skip
      refine lv_aload_n hx hb dX5_boatNumbered_27 rfl (lv_at hl 0 rfl) ?_
      refine z_get hx hb (q_wsX5 hT hW) hown hK hR hC.mk rfl 2 (by decide) (q_85 hT hW) (fun _ h => h) rfl dX5_boatNumbered_28 ?_
      refine lv_iload_n hx hb dX5_boatNumbered_31 rfl (lv_at hl 1 rfl) ?_
      refine z_getL (i := a) hZ X hK hl.1 hC.lB hR hS (by omega) (q_367 hT hW) ⟨Nat.le_of_ble_eq_true rfl, Nat.le_of_ble_eq_true rfl⟩ ⟨Nat.le_of_ble_eq_true rfl, Nat.le_of_ble_eq_true rfl⟩ (Nat.le_of_ble_eq_true rfl) dX5_boatNumbered_32 (fun H locs hR hS => ?_)
      obtain ⟨uo, nx, lf, hbo, hb1, hb2, hb3⟩ := hC.bo (a).toNat (by omega)
      have hIb := hI.2.2.1 (a).toNat (by omega)
      unfold zIb at hIb
      refine va_castS hx hb hown (q_240 hT hW) (hK.1 1 _ rfl).2 (z_recv hK hR hbo rfl) dX5_boatNumbered_37 ?_
      exact vx_ret (z_aret (r := some (aB (a).toNat)) hx hb hr (Or.inl ⟨_, rfl⟩) hlocks hS (by decide) (by decide) dX5_boatNumbered_40 ⟨rfl, by omega, hR⟩)
    · skip
      refine z_thrI hZ hflags X hnt hlocks hl.1 hS (by decide) (q_365 hT) dX5_boatNumbered_17 dX5_boatNumbered_20 dX5_boatNumbered_21 dX5_boatNumbered_23 dX5_boatNumbered_26 (by decide) (Nat.le_of_ble_eq_true rfl) (Nat.le_of_ble_eq_true rfl) (Nat.le_of_ble_eq_true rfl) (Nat.le_of_ble_eq_true rfl) (Nat.le_of_ble_eq_true rfl) (fun H' hs1 hs2 => ⟨rfl, by omega, zR.kept hR (fun q hq _ => hs2 q hq)⟩)
set_option maxHeartbeats 4000000 in
set_option maxRecDepth 100000 in
theorem c_X5_callNumbered (l : Launch) (hflags : l.stackTraces = false) {S : State} {D : va_G} {tc : Nat → ClassId} {A : Nat → Prop} {dz : Nat} (hZ : zB S D tc A dz) {ad aB aC aD : Nat → Nat} {nd : Nat} {dd : Nat → Nat → Int} {Wd : Nat → Int64} {u : zS_} {w : zW} (hC : zCx tc dz ad aB aC aD nd dd Wd u w) (hI : zIn u) {a : Int} (h0 : -2147483648 ≤ a ∧ a ≤ 2147483647) : zMX l S A yX5_callNumbered cX5_callNumbered 2 (Option.some (Jvm.ClassFile.FieldType.object "Rescuemarket$Call")) { frames := 6, locals := 110, cells := 1, slots := 6 } [.ref (ad 0), .int (zi (a))] (zR D A w) (fun v H => v = some (.ref (aC a.toNat)) ∧ (0 ≤ a ∧ a < u 21 0) ∧ zR D A w H) (fun E H => E = "java/lang/IndexOutOfBoundsException" ∧ (¬ (0 ≤ a ∧ a < u 21 0)) ∧ zR D A w H) := by
  refine zMX.mk (by decide +kernel) (Nat.le_of_ble_eq_true rfl) ?_
  intro p e s m below meth c ls X0 hnt hR hl
  obtain ⟨hx, hb, hml, hr, hlocks, hown, hnm, hW, hpre, hA⟩ := X0
  have X : zH S A p s m c cX5_callNumbered 2 RX5 := ⟨hx, hb, hml, hown, hW, hpre, hA, hZ.2.2.1⟩
  have hT := hZ.1
  have hK := va_K.moved hW.alike hZ.2.1
  have hS : va_S A s.heap s.heap [] := va_S.rf
  have hl : lv_has ls 2 [(0, .ref (ad 0)), (1, .int (zi (a)))] := hl
  skip
  have hI1 := hI.1
  refine lv_iload_n hx hb dX5_callNumbered_0 rfl (lv_at hl 1 rfl) ?_
  refine z_if_lt (a := a) (tgt := 17) hx hb dX5_callNumbered_1 (by decide) (by omega) (fun h_1 => ?_) (fun h_1 => ?_)
  · skip
    refine z_thrI hZ hflags X hnt hlocks hl.1 hS (by decide) (q_594 hT) dX5_callNumbered_17 dX5_callNumbered_20 dX5_callNumbered_21 dX5_callNumbered_23 dX5_callNumbered_26 (by decide) (Nat.le_of_ble_eq_true rfl) (Nat.le_of_ble_eq_true rfl) (Nat.le_of_ble_eq_true rfl) (Nat.le_of_ble_eq_true rfl) (Nat.le_of_ble_eq_true rfl) (fun H' hs1 hs2 => ⟨rfl, by omega, zR.kept hR (fun q hq _ => hs2 q hq)⟩)
  · skip
    refine lv_iload_n hx hb dX5_callNumbered_4 rfl (lv_at hl 1 rfl) ?_
    refine lv_aload_n hx hb dX5_callNumbered_5 rfl (lv_at hl 0 rfl) ?_
    refine z_get hx hb (q_wsX5 hT hW) hown hK hR hC.mk rfl 3 (by decide) (q_86 hT hW) (fun _ h => h) rfl dX5_callNumbered_6 ?_
    refine z_sizeL hZ X hK hl.1 hC.lC hR hS (q_215 hT hW) ⟨Nat.le_of_ble_eq_true rfl, Nat.le_of_ble_eq_true rfl⟩ ⟨Nat.le_of_ble_eq_true rfl, Nat.le_of_ble_eq_true rfl⟩ (Nat.le_of_ble_eq_true rfl) dX5_callNumbered_9 (fun H locs hR hS => ?_)
    refine z_icmp_lt (a := a) (b := (((u 21 0).toNat : Nat) : Int)) (tgt := 27) hx hb dX5_callNumbered_14 (by decide) (by omega) (fun h_14 => ?_) (fun h_14 => ?_)
    · skip
      refine lv_aload_n hx hb dX5_callNumbered_27 rfl (lv_at hl 0 rfl) ?_
      refine z_get hx hb (q_wsX5 hT hW) hown hK hR hC.mk rfl 3 (by decide) (q_86 hT hW) (fun _ h => h) rfl dX5_callNumbered_28 ?_
      refine lv_iload_n hx hb dX5_callNumbered_31 rfl (lv_at hl 1 rfl) ?_
      refine z_getL (i := a) hZ X hK hl.1 hC.lC hR hS (by omega) (q_367 hT hW) ⟨Nat.le_of_ble_eq_true rfl, Nat.le_of_ble_eq_true rfl⟩ ⟨Nat.le_of_ble_eq_true rfl, Nat.le_of_ble_eq_true rfl⟩ (Nat.le_of_ble_eq_true rfl) dX5_callNumbered_32 (fun H locs hR hS => ?_)
      have hca := hC.ca (a).toNat (by omega)
      have hIc := hI.2.2.2 (a).toNat (by omega)
      unfold zIc at hIc
      refine va_castS hx hb hown (q_412 hT hW) (hK.1 2 _ rfl).2 (z_recv hK hR hca rfl) dX5_callNumbered_37 ?_
      exact vx_ret (z_aret (r := some (aC (a).toNat)) hx hb hr (Or.inl ⟨_, rfl⟩) hlocks hS (by decide) (by decide) dX5_callNumbered_40 ⟨rfl, by omega, hR⟩)
    · skip
      refine z_thrI hZ hflags X hnt hlocks hl.1 hS (by decide) (q_594 hT) dX5_callNumbered_17 dX5_callNumbered_20 dX5_callNumbered_21 dX5_callNumbered_23 dX5_callNumbered_26 (by decide) (Nat.le_of_ble_eq_true rfl) (Nat.le_of_ble_eq_true rfl) (Nat.le_of_ble_eq_true rfl) (Nat.le_of_ble_eq_true rfl) (Nat.le_of_ble_eq_true rfl) (fun H' hs1 hs2 => ⟨rfl, by omega, zR.kept hR (fun q hq _ => hs2 q hq)⟩)
set_option maxHeartbeats 4000000 in
set_option maxRecDepth 100000 in
theorem c_X3_paidTo (l : Launch) {S : State} {D : va_G} {tc : Nat → ClassId} {A : Nat → Prop} {dz : Nat} (hZ : zB S D tc A dz) {ad aB aC aD : Nat → Nat} {nd : Nat} {dd : Nat → Nat → Int} {Wd : Nat → Int64} {u : zS_} {w : zW} (hC : zCx tc dz ad aB aC aD nd dd Wd u w) (hI : zIn u) {a : Int} (h0 : 0 ≤ a ∧ a ≤ 2) : zM l S A yX3_paidTo cX3_paidTo 2 (Option.some Jvm.ClassFile.FieldType.int) { frames := 1, locals := 20, cells := 0, slots := 0 } [.ref (ad 3), .int (zi (a))] (zR D A w) (fun v H => v = some (.int (zi (u 22 a.toNat))) ∧ zR D A w H) := by
  refine zM.mk (by decide +kernel) (Nat.le_of_ble_eq_true rfl) ?_
  intro p e s m below meth c ls X0 hR hl
  obtain ⟨hx, hb, hml, hr, hlocks, hown, hnm, hW, hpre, hA⟩ := X0
  have X : zH S A p s m c cX3_paidTo 2 RX3 := ⟨hx, hb, hml, hown, hW, hpre, hA, hZ.2.2.1⟩
  have hT := hZ.1
  have hK := va_K.moved hW.alike hZ.2.1
  have hS : va_S A s.heap s.heap [] := va_S.rf
  have hl : lv_has ls 2 [(0, .ref (ad 3)), (1, .int (zi (a)))] := hl
  skip
  refine lv_iload_n hx hb dX3_paidTo_0 rfl (lv_at hl 1 rfl) ?_
  refine z_if_lt (a := a) (tgt := 22) hx hb dX3_paidTo_1 (by decide) (by omega) (fun h_1 => ?_) (fun h_1 => ?_)
  · skip
    exact absurd h_1 (by omega)
  · skip
    refine lv_iload_n hx hb dX3_paidTo_4 rfl (lv_at hl 1 rfl) ?_
    refine lv_aload_n hx hb dX3_paidTo_5 rfl (lv_at hl 0 rfl) ?_
    refine z_get hx hb (q_wsX3 hT hW) hown hK hR hC.le rfl 0 (by decide) (q_74 hT hW) (fun _ h => h) rfl dX3_paidTo_6 ?_
    refine z_alen hx hb hK hR 0 hC.pa rfl dX3_paidTo_9 ?_
    refine z_icmp_ge (a := a) (b := 3) (tgt := 22) hx hb dX3_paidTo_10 (by decide) (by omega) (fun h_10 => ?_) (fun h_10 => ?_)
    · skip
      exact absurd h_10 (by omega)
    · skip
      refine lv_aload_n hx hb dX3_paidTo_13 rfl (lv_at hl 0 rfl) ?_
      refine z_get hx hb (q_wsX3 hT hW) hown hK hR hC.le rfl 0 (by decide) (q_74 hT hW) (fun _ h => h) rfl dX3_paidTo_14 ?_
      refine lv_iload_n hx hb dX3_paidTo_17 rfl (lv_at hl 1 rfl) ?_
      refine z_iald (i := a) hx hb hK hR 0 hC.pa rfl (by omega) dX3_paidTo_18 ?_
      refine lv_goto (tgt := 23) hx hb dX3_paidTo_19 (by decide) ?_
      exact z_iret hx hb hr hlocks hS (by decide) (by decide) dX3_paidTo_23 ⟨rfl, hR⟩
set_option maxHeartbeats 4000000 in
set_option maxRecDepth 100000 in
theorem c_X3_foundInLogFor (l : Launch) {S : State} {D : va_G} {tc : Nat → ClassId} {A : Nat → Prop} {dz : Nat} (hZ : zB S D tc A dz) {ad aB aC aD : Nat → Nat} {nd : Nat} {dd : Nat → Nat → Int} {Wd : Nat → Int64} {u : zS_} {w : zW} (hC : zCx tc dz ad aB aC aD nd dd Wd u w) (hI : zIn u) {a : Int} (h0 : 0 ≤ a ∧ a ≤ 2) (hnd : nd ≤ 30) : zM l S A yX3_foundInLogFor cX3_foundInLogFor 4 (Option.some Jvm.ClassFile.FieldType.int) { frames := 4, locals := 110, cells := 0, slots := 0 } [.ref (ad 3), .int (zi (a))] (zR D A w) (fun v H => v = some (.int (zi (u 22 a.toNat))) ∧ zR D A w H) := by
  refine zM.mk (by decide +kernel) (Nat.le_of_ble_eq_true rfl) ?_
  intro p e s m below meth c ls X0 hR hl
  obtain ⟨hx, hb, hml, hr, hlocks, hown, hnm, hW, hpre, hA⟩ := X0
  have X : zH S A p s m c cX3_foundInLogFor 4 RX3 := ⟨hx, hb, hml, hown, hW, hpre, hA, hZ.2.2.1⟩
  have hT := hZ.1
  have hK := va_K.moved hW.alike hZ.2.1
  have hS : va_S A s.heap s.heap [] := va_S.rf
  have hl : lv_has ls 4 [(0, .ref (ad 3)), (1, .int (zi (a)))] := hl
  skip
  refine lv_iconst (v := zi (0)) hx hb dX3_foundInLogFor_0 rfl ?_
  refine lv_istore_n (lv' := [(2, .int (zi (0))), (0, .ref (ad 3)), (1, .int (zi (a)))]) hx hb dX3_foundInLogFor_1 rfl hl (by decide) rfl (fun ls hl => ?_)
  refine lv_iconst (v := zi (0)) hx hb dX3_foundInLogFor_2 rfl ?_
  refine lv_istore_n (lv' := [(3, .int (zi (0))), (2, .int (zi (0))), (0, .ref (ad 3)), (1, .int (zi (a)))]) hx hb dX3_foundInLogFor_3 rfl hl (by decide) rfl (fun ls hl => ?_)
  suffices K : ∀ (fu : Nat) (i : Nat) (n : Int) (H : Heap) (locs : List Loc) (ls : Array Slot), (nd - i) < fu → (i ≤ nd) → (n = zsum dd a i) → zR D A w H → va_S A s.heap H locs → lv_has ls 4 [(3, .int (zi (((i : Nat) : Int)))), (2, .int (zi (n))), (0, .ref (ad 3)), (1, .int (zi (a)))] → W p l e { frames := 4, locals := 110, cells := 0, slots := 0 } s m ([.ref (ad 3), .int (zi (a))] : List Value).toArray below meth c H locs 0 0 (MQ below (zQ A (fun v H => v = some (.int (zi (u 22 a.toNat))) ∧ zR D A w H)) ([.ref (ad 3), .int (zi (a))] : List Value).toArray s ({ frames := 4, locals := 110, cells := 0, slots := 0 } : Room).cells ({ frames := 4, locals := 110, cells := 0, slots := 0 } : Room).slots A) (F0 m 4 ls []) from K _ 0 0 _ _ _ (Nat.lt_succ_self _) (by omega) rfl hR hS (lv_sub hl [0, 1, 2, 3] rfl)
  intro fu
  induction fu with
  | zero => intro i n H locs ls hm; exact absurd hm (Nat.not_lt_zero _)
  | succ fu ih4 =>
    intro i n H locs ls hm hi hn hR hS hl
    refine lv_iload_n hx hb dX3_foundInLogFor_4 rfl (lv_at hl 0 rfl) ?_
    refine lv_aload_n hx hb dX3_foundInLogFor_5 rfl (lv_at hl 2 rfl) ?_
    refine z_get hx hb (q_wsX3 hT hW) hown hK hR hC.le rfl 1 (by decide) (q_75 hT hW) (fun _ h => h) rfl dX3_foundInLogFor_6 ?_
    refine z_sizeL hZ X hK hl.1 hC.lD hR hS (q_621 hT hW) ⟨Nat.le_of_ble_eq_true rfl, Nat.le_of_ble_eq_true rfl⟩ ⟨Nat.le_of_ble_eq_true rfl, Nat.le_of_ble_eq_true rfl⟩ (Nat.le_of_ble_eq_true rfl) dX3_foundInLogFor_9 (fun H locs hR hS => ?_)
    refine z_icmp_ge (a := ((i : Nat) : Int)) (b := ((nd : Nat) : Int)) (tgt := 43) hx hb dX3_foundInLogFor_14 (by decide) (by omega) (fun h_14 => ?_) (fun h_14 => ?_)
    · skip
      have hbq : i = nd := by omega
      have hsu := hC.su a.toNat (by omega)
      rw [show ((a.toNat : Nat) : Int) = a by omega, ← hbq, ← hn] at hsu
      refine lv_iload_n hx hb dX3_foundInLogFor_43 rfl (lv_at hl 1 rfl) ?_
      exact z_iret hx hb hr hlocks hS (by decide) (by decide) dX3_foundInLogFor_44 ⟨by rw [hsu], hR⟩
    · skip
      refine lv_iload_n hx hb dX3_foundInLogFor_17 rfl (lv_at hl 1 rfl) ?_
      refine lv_aload_n hx hb dX3_foundInLogFor_18 rfl (lv_at hl 2 rfl) ?_
      refine z_get hx hb (q_wsX3 hT hW) hown hK hR hC.le rfl 1 (by decide) (q_75 hT hW) (fun _ h => h) rfl dX3_foundInLogFor_19 ?_
      refine lv_iload_n hx hb dX3_foundInLogFor_22 rfl (lv_at hl 0 rfl) ?_
      refine z_getL (i := ((i : Nat) : Int)) hZ X hK hl.1 hC.lD hR hS (by omega) (q_623 hT hW) ⟨Nat.le_of_ble_eq_true rfl, Nat.le_of_ble_eq_true rfl⟩ ⟨Nat.le_of_ble_eq_true rfl, Nat.le_of_ble_eq_true rfl⟩ (Nat.le_of_ble_eq_true rfl) dX3_foundInLogFor_23 (fun H locs hR hS => ?_)
      obtain ⟨hde, hdr⟩ := hC.de i (by omega)
      refine va_castS hx hb hown (q_624 hT hW) (hK.1 3 _ rfl).2 (z_recv hK hR hde rfl) dX3_foundInLogFor_28 ?_
      refine lv_iload_n hx hb dX3_foundInLogFor_31 rfl (lv_at hl 3 rfl) ?_
      refine z_invV (n := 1) (C := RX2) (c_X2_shareOf l hZ hde (by omega) (cb := a) (by omega)) X hS hR hl.1 (q_533 hT hW) (q_21 hT hW) (q_530 hT hW) (q_531 hT hW) (q_532 hT hW) (z_recv hK hR hde rfl) (by decide +kernel) rfl ⟨Nat.le_of_ble_eq_true rfl, Nat.le_of_ble_eq_true rfl⟩ ⟨Nat.le_of_ble_eq_true rfl, Nat.le_of_ble_eq_true rfl⟩ (Nat.le_of_ble_eq_true rfl) dX3_foundInLogFor_32 (fun v H locs hv hS => ?_) rfl
      obtain ⟨rfl, hR⟩ := hv
      refine z_iadd (a := n) (b := (zshare (dd i 0) (dd i 1) (min (10 * dd i 2 + 5 * dd i 3) (dd i 4)) a)) hx hb dX3_foundInLogFor_35 ?_
      refine lv_istore_n (lv' := [(2, .int (zi ((n + (zshare (dd i 0) (dd i 1) (min (10 * dd i 2 + 5 * dd i 3) (dd i 4)) a))))), (3, .int (zi (((i : Nat) : Int)))), (0, .ref (ad 3)), (1, .int (zi (a)))]) hx hb dX3_foundInLogFor_36 rfl hl (by decide) rfl (fun ls hl => ?_)
      refine z_iinc (a := ((i : Nat) : Int)) (n := 1) (lv' := [(3, .int (zi ((((i : Nat) : Int) + 1)))), (2, .int (zi ((n + (zshare (dd i 0) (dd i 1) (min (10 * dd i 2 + 5 * dd i 3) (dd i 4)) a))))), (0, .ref (ad 3)), (1, .int (zi (a)))]) hx hb dX3_foundInLogFor_37 hl (k := 1) rfl (by decide) rfl (fun ls hl => ?_)
      refine lv_goto (tgt := 4) hx hb dX3_foundInLogFor_40 (by decide) ?_
      exact ih4 (i + 1) (n + (zshare (dd i 0) (dd i 1) (min (10 * dd i 2 + 5 * dd i 3) (dd i 4)) a)) _ _ _ (by omega) (by omega) (by rw [hn]; rfl) hR hS (lv_sub hl [0, 1, 2, 3] rfl)

