/-! the law's helpers: a call of the class, its answer or the number of what it throws -/
def zNC (S : State) : Prop := va_Nc "java/lang/IllegalArgumentException" "java/lang/IndexOutOfBoundsException" S ∧ va_Nc "java/lang/IllegalStateException" "java/lang/IndexOutOfBoundsException" S ∧ va_Nc "java/lang/IllegalStateException" "java/lang/IllegalArgumentException" S
def zoL (tc : Nat → ClassId) (o : Nat) (f : Nat → Int64) : zW := zu (fun _ => none) o (.inl (tc 2, 1, .inr (.inl f)))
def zoD (tc : Nat → ClassId) (o : Nat) (f : Nat → UInt64) : zW := zu (fun _ => none) o (.inl (tc 3, 1, .inr (.inr (.inr (.inl f)))))
def zOL (D : va_G) (tc : Nat → ClassId) (o : Nat) (v : Int64) (H : Heap) : Prop := ∃ f : Nat → Int64, f 0 = v ∧ zR D (fun q => q = o) (zoL tc o f) H
def zOD (D : va_G) (tc : Nat → ClassId) (o : Nat) (v : UInt64) (H : Heap) : Prop := ∃ f : Nat → UInt64, f 0 = v ∧ zR D (fun q => q = o) (zoD tc o f) H
theorem zB.with {S : State} {D : va_G} {tc : Nat → ClassId} {B : Nat → Prop} {dz o : Nat} (hZ : zB S D tc B dz) (ho : S.heap.size ≤ o) : zB S D tc (fun q => B q ∨ q = o) dz := ⟨hZ.1, hZ.2.1, fun q h => h.elim (hZ.2.2.1 q) (fun e => by rw [e]; exact ho), hZ.2.2.2⟩
theorem q_105 {S s : State} {args : Array Value} (hT : zT S) (hW : S.WarmedH s.vm) : (Jvm.Cond.codeWith ({ cls := "RescuemarketLaw", name := "boat", desc := "(LRescuemarket;IIIII[J)I" } : Jvm.MethodName) method_3_code (8 : Nat) (Option.some Jvm.ClassFile.FieldType.int) [((0 : Nat), (16 : Nat), (19 : Nat), (13 : Nat)), ((0 : Nat), (16 : Nat), (23 : Nat), (15 : Nat)), ((0 : Nat), (16 : Nat), (27 : Nat), (17 : Nat))]).before args s = true := zT_w hT hW (Or.inl (by first | rfl | decide)) 105 (by decide +kernel)
theorem q_353 {S s : State} {args : Array Value} (hT : zT S) (hW : S.WarmedH s.vm) : (Jvm.Cond.codeWith ({ cls := "RescuemarketLaw", name := "lend", desc := "(LRescuemarket;II[J)I" } : Jvm.MethodName) method_4_code (5 : Nat) (Option.some Jvm.ClassFile.FieldType.int) [((0 : Nat), (10 : Nat), (13 : Nat), (13 : Nat))]).before args s = true := zT_w hT hW (Or.inl (by first | rfl | decide)) 353 (by decide +kernel)
theorem q_384 {S s : State} {args : Array Value} (hT : zT S) (hW : S.WarmedH s.vm) : (Jvm.Cond.codeWith ({ cls := "RescuemarketLaw", name := "foretell", desc := "(LRescuemarket;IIIII[J)I" } : Jvm.MethodName) method_5_code (8 : Nat) (Option.some Jvm.ClassFile.FieldType.int) [((0 : Nat), (16 : Nat), (19 : Nat), (13 : Nat)), ((0 : Nat), (16 : Nat), (23 : Nat), (15 : Nat))]).before args s = true := zT_w hT hW (Or.inl (by first | rfl | decide)) 384 (by decide +kernel)
theorem q_409 {S s : State} {args : Array Value} (hT : zT S) (hW : S.WarmedH s.vm) : (Jvm.Cond.codeWith ({ cls := "RescuemarketLaw", name := "call", desc := "(LRescuemarket;III[J)I" } : Jvm.MethodName) method_6_code (6 : Nat) (Option.some Jvm.ClassFile.FieldType.int) [((0 : Nat), (12 : Nat), (15 : Nat), (13 : Nat)), ((0 : Nat), (12 : Nat), (19 : Nat), (15 : Nat)), ((0 : Nat), (12 : Nat), (23 : Nat), (17 : Nat))]).before args s = true := zT_w hT hW (Or.inl (by first | rfl | decide)) 409 (by decide +kernel)
theorem q_456 {S s : State} {args : Array Value} (hT : zT S) (hW : S.WarmedH s.vm) : (Jvm.Cond.codeWith ({ cls := "RescuemarketLaw", name := "cap", desc := "(LRescuemarket;I[J)I" } : Jvm.MethodName) method_7_code (4 : Nat) (Option.some Jvm.ClassFile.FieldType.int) [((0 : Nat), (9 : Nat), (12 : Nat), (15 : Nat))]).before args s = true := zT_w hT hW (Or.inl (by first | rfl | decide)) 456 (by decide +kernel)
theorem q_463 {S s : State} {args : Array Value} (hT : zT S) (hW : S.WarmedH s.vm) : (Jvm.Cond.codeWith ({ cls := "RescuemarketLaw", name := "pass", desc := "(LRescuemarket;I[J)I" } : Jvm.MethodName) method_8_code (4 : Nat) (Option.some Jvm.ClassFile.FieldType.int) [((0 : Nat), (9 : Nat), (12 : Nat), (15 : Nat)), ((0 : Nat), (9 : Nat), (15 : Nat), (17 : Nat))]).before args s = true := zT_w hT hW (Or.inl (by first | rfl | decide)) 463 (by decide +kernel)
theorem q_587 {S s : State} {args : Array Value} (hT : zT S) (hW : S.WarmedH s.vm) : (Jvm.Cond.codeWith ({ cls := "RescuemarketLaw", name := "storm", desc := "(LRescuemarket;II[J)I" } : Jvm.MethodName) method_9_code (5 : Nat) (Option.some Jvm.ClassFile.FieldType.int) [((0 : Nat), (10 : Nat), (13 : Nat), (13 : Nat)), ((0 : Nat), (10 : Nat), (17 : Nat), (15 : Nat))]).before args s = true := zT_w hT hW (Or.inl (by first | rfl | decide)) 587 (by decide +kernel)
theorem q_594 {S s : State} {args : Array Value} (hT : zT S) (hW : S.WarmedH s.vm) : (Jvm.Cond.codeWith ({ cls := "RescuemarketLaw", name := "ofBoat", desc := "(LRescuemarket;II[J)I" } : Jvm.MethodName) method_10_code (5 : Nat) (Option.some Jvm.ClassFile.FieldType.int) [((0 : Nat), (10 : Nat), (13 : Nat), (13 : Nat)), ((0 : Nat), (10 : Nat), (17 : Nat), (15 : Nat))]).before args s = true := zT_w hT hW (Or.inl (by first | rfl | decide)) 594 (by decide +kernel)
theorem q_601 {S s : State} {args : Array Value} (hT : zT S) (hW : S.WarmedH s.vm) : (Jvm.Cond.codeWith ({ cls := "RescuemarketLaw", name := "ofCall", desc := "(LRescuemarket;II[J)I" } : Jvm.MethodName) method_11_code (5 : Nat) (Option.some Jvm.ClassFile.FieldType.int) [((0 : Nat), (10 : Nat), (13 : Nat), (13 : Nat)), ((0 : Nat), (10 : Nat), (17 : Nat), (15 : Nat))]).before args s = true := zT_w hT hW (Or.inl (by first | rfl | decide)) 601 (by decide +kernel)
theorem q_613 {S s : State} {args : Array Value} (hT : zT S) (hW : S.WarmedH s.vm) : (Jvm.Cond.codeWith ({ cls := "RescuemarketLaw", name := "rewards", desc := "(LRescuemarket;I[J)I" } : Jvm.MethodName) method_12_code (4 : Nat) (Option.some Jvm.ClassFile.FieldType.int) [((0 : Nat), (9 : Nat), (12 : Nat), (13 : Nat))]).before args s = true := zT_w hT hW (Or.inl (by first | rfl | decide)) 613 (by decide +kernel)
theorem q_624 {S s : State} {args : Array Value} (hT : zT S) (hW : S.WarmedH s.vm) : (Jvm.Cond.codeWith ({ cls := "RescuemarketLaw", name := "rewardsAnew", desc := "(LRescuemarket;I[J)I" } : Jvm.MethodName) method_13_code (4 : Nat) (Option.some Jvm.ClassFile.FieldType.int) [((0 : Nat), (9 : Nat), (12 : Nat), (13 : Nat))]).before args s = true := zT_w hT hW (Or.inl (by first | rfl | decide)) 624 (by decide +kernel)
theorem q_640 {S s : State} {args : Array Value} (hT : zT S) (hW : S.WarmedH s.vm) : (Jvm.Cond.codeWith ({ cls := "RescuemarketLaw", name := "premium", desc := "(LRescuemarket;I[D)I" } : Jvm.MethodName) method_14_code (4 : Nat) (Option.some Jvm.ClassFile.FieldType.int) [((0 : Nat), (9 : Nat), (12 : Nat), (13 : Nat))]).before args s = true := zT_w hT hW (Or.inl (by first | rfl | decide)) 640 (by decide +kernel)
set_option maxHeartbeats 4000000 in
set_option maxRecDepth 100000 in
theorem c_L_boat (l : Launch) (hflags : l.stackTraces = false) {S : State} {D : va_G} {tc : Nat → ClassId} {B : Nat → Prop} {dz : Nat} (hZ : zB S D tc B dz) (hNC : zNC S) {ad : Nat → Nat} {u : zS_} {o : Nat} (ho : S.heap.size ≤ o) (hoB : ¬ B o) {a b_ k d f : Int} (h0 : -2147483648 ≤ a ∧ a ≤ 2147483647 ∧ -2147483648 ≤ b_ ∧ b_ ≤ 2147483647 ∧ -2147483648 ≤ k ∧ k ≤ 2147483647 ∧ -2147483648 ≤ d ∧ d ≤ 2147483647 ∧ -2147483648 ≤ f ∧ f ≤ 2147483647) (hI : zIn u) (hU : zUn u) : zMH l S (fun q => B q ∨ q = o) yL_boat cL_boat 8 (Option.some Jvm.ClassFile.FieldType.int) [((0 : Nat), (16 : Nat), (19 : Nat), (13 : Nat)), ((0 : Nat), (16 : Nat), (23 : Nat), (15 : Nat)), ((0 : Nat), (16 : Nat), (27 : Nat), (17 : Nat))] { frames := 10, locals := 366, cells := 7, slots := 76 } [.ref (ad 0), .int (zi (a)), .int (zi (b_)), .int (zi (k)), .int (zi (d)), .int (zi (f)), .ref (o)] (fun H => zHC D tc dz B ad u H ∧ (∃ v : Int64, zOL D tc o v H) ∧ ∀ q : Nat, H.size ≤ q → B q) (fun v H => v = some (.int (zi (mcBoat u a b_ k d f))) ∧ (0 < mcBoat u a b_ k d f → zHC D tc dz B ad u H) ∧ (mcBoat u a b_ k d f = 0 → zHC D tc dz B ad (muBoat u a b_ k d f) H) ∧ ∃ v : Int64, zOL D tc o v H ∧ (mcBoat u a b_ k d f = 0 → v = (zi (u 13 0)).toInt64)) := by
  refine zMH.mk (by decide +kernel) (Nat.le_of_ble_eq_true rfl) (fun args s hW => q_105 hZ.1 hW) ?_
  intro p e s m below meth c ls X0 htab hR hl
  obtain ⟨hx, hb, hml, hr, hlocks, hown, hnm, hW, hpre, hA⟩ := X0
  obtain ⟨hHC, ⟨v0, hO⟩, hBf⟩ := hR
  have hZ1 := hZ.with ho
  have X : zH S (fun q => B q ∨ q = o) p s m c cL_boat 8 RL := ⟨hx, hb, hml, hown, hW, hpre, hA, hZ1.2.2.1⟩
  have hT := hZ.1
  have hK := va_K.moved hW.alike hZ.2.1
  have hS : va_S (fun q => B q ∨ q = o) s.heap s.heap [] := va_S.rf
  have hl : lv_has ls 8 [(0, .ref (ad 0)), (1, .int (zi (a))), (2, .int (zi (b_))), (3, .int (zi (k))), (4, .int (zi (d))), (5, .int (zi (f))), (6, .ref (o))] := hl
  have hHC0 := hHC
  obtain ⟨aB, aC, aD, nd, dd, Wd, w, hC, hD, hRw⟩ := hHC0
  refine lv_aload hx hb dL_boat_0 (lv_at hl 6 rfl) ?_
  refine lv_iconst (v := zi (0)) hx hb dL_boat_2 rfl ?_
  refine lv_aload_n hx hb dL_boat_3 rfl (lv_at hl 0 rfl) ?_
  refine lv_iload_n hx hb dL_boat_4 rfl (lv_at hl 1 rfl) ?_
  refine lv_iload_n hx hb dL_boat_5 rfl (lv_at hl 2 rfl) ?_
  refine lv_iload_n hx hb dL_boat_6 rfl (lv_at hl 3 rfl) ?_
  refine lv_iload hx hb dL_boat_7 (lv_at hl 4 rfl) ?_
  refine lv_iload hx hb dL_boat_9 (lv_at hl 5 rfl) ?_
  refine z_invVXB (n := 5) (C := RX5) (B := B) (fun q h => Or.inl h) (c_X5_boat l hflags hZ (a := a) (b_ := b_) (k := k) (d := d) (f := f) h0 hI hU) X hS hBf hHC hl.1 (q_112 hT hW) (q_1 hT hW) (q_109 hT hW) (q_110 hT hW) (q_111 hT hW) (z_recv hK hRw hC.mk rfl) (by decide +kernel) rfl ⟨Nat.le_of_ble_eq_true rfl, Nat.le_of_ble_eq_true rfl⟩ ⟨Nat.le_of_ble_eq_true rfl, Nat.le_of_ble_eq_true rfl⟩ (Nat.le_of_ble_eq_true rfl) dL_boat_11 (fun E ce q9 H locs hv hfr hS hq9 hcv hcl => ?_) (fun v H locs hv hfr hS => ?_) rfl
  · skip
    obtain ⟨hc1, hE, hHC⟩ := hv
    have hcr : mcBoat u a b_ k d f = 1 ∨ mcBoat u a b_ k d f = 2 ∨ mcBoat u a b_ k d f = 3 := by unfold mcBoat at hc1 ⊢; omega
    obtain ⟨f0, hf0, hO⟩ := hO
    have hO1 := zR.frame hO hfr (fun q h _ => by rw [h]; exact hoB)
    rcases hcr with hcd | hcd | hcd
    · skip
      have hE1 : E = "java/lang/IndexOutOfBoundsException" := by rw [hE, hcd]; rfl
      subst hE1
      refine vx_catch hown [] ⟨0, 16, 19, 13⟩ [⟨0, 16, 23, 15⟩, ⟨0, 16, 27, 17⟩] (htab.trans rfl) (fun z hz => nomatch hz) (by decide) (by decide) (q_106 hT hW) (va_Nw.use rfl (q_118 hT hW)) hq9 hcv hcl ?_
      refine lv_astore (lv' := [(7, .ref (q9)), (0, .ref (ad 0)), (1, .int (zi (a))), (2, .int (zi (b_))), (3, .int (zi (k))), (4, .int (zi (d))), (5, .int (zi (f))), (6, .ref (o))]) hx hb dL_boat_19 hl (by decide) rfl (fun ls hl => ?_)
      refine lv_iconst (v := zi (1)) hx hb dL_boat_21 rfl ?_
      exact vx_ret (z_iret hx hb hr hlocks hS (by decide) (by decide) dL_boat_22 ⟨by rw [hcd], fun _ => hHC, fun z => absurd z (by rw [hcd]; decide), v0, ⟨f0, hf0, hO1⟩, fun z => absurd z (by rw [hcd]; decide)⟩)
    · skip
      have hE1 : E = "java/lang/IllegalArgumentException" := by rw [hE, hcd]; rfl
      subst hE1
      refine vx_catch hown [⟨0, 16, 19, 13⟩] ⟨0, 16, 23, 15⟩ [⟨0, 16, 27, 17⟩] (htab.trans rfl) (fun z hz => by
        simp only [List.mem_cons, List.not_mem_nil, or_false] at hz
        subst hz
        exact Or.inr ⟨(by decide), "java/lang/IndexOutOfBoundsException", (q_106 hT hW), va_Nc.moved hW.alike hNC.1⟩) (by decide) (by decide) (q_107 hT hW) (va_Nw.use rfl (q_193 hT hW)) hq9 hcv hcl ?_
      refine lv_astore (lv' := [(7, .ref (q9)), (0, .ref (ad 0)), (1, .int (zi (a))), (2, .int (zi (b_))), (3, .int (zi (k))), (4, .int (zi (d))), (5, .int (zi (f))), (6, .ref (o))]) hx hb dL_boat_23 hl (by decide) rfl (fun ls hl => ?_)
      refine lv_iconst (v := zi (2)) hx hb dL_boat_25 rfl ?_
      exact vx_ret (z_iret hx hb hr hlocks hS (by decide) (by decide) dL_boat_26 ⟨by rw [hcd], fun _ => hHC, fun z => absurd z (by rw [hcd]; decide), v0, ⟨f0, hf0, hO1⟩, fun z => absurd z (by rw [hcd]; decide)⟩)
    · skip
      have hE1 : E = "java/lang/IllegalStateException" := by rw [hE, hcd]; rfl
      subst hE1
      refine vx_catch hown [⟨0, 16, 19, 13⟩, ⟨0, 16, 23, 15⟩] ⟨0, 16, 27, 17⟩ [] (htab.trans rfl) (fun z hz => by
        simp only [List.mem_cons, List.not_mem_nil, or_false] at hz
        rcases hz with rfl | rfl
        · exact Or.inr ⟨(by decide), "java/lang/IndexOutOfBoundsException", (q_106 hT hW), va_Nc.moved hW.alike hNC.2.1⟩
        · exact Or.inr ⟨(by decide), "java/lang/IllegalArgumentException", (q_107 hT hW), va_Nc.moved hW.alike hNC.2.2⟩) (by decide) (by decide) (q_108 hT hW) (va_Nw.use rfl (q_219 hT hW)) hq9 hcv hcl ?_
      refine lv_astore (lv' := [(7, .ref (q9)), (0, .ref (ad 0)), (1, .int (zi (a))), (2, .int (zi (b_))), (3, .int (zi (k))), (4, .int (zi (d))), (5, .int (zi (f))), (6, .ref (o))]) hx hb dL_boat_27 hl (by decide) rfl (fun ls hl => ?_)
      refine lv_iconst (v := zi (3)) hx hb dL_boat_29 rfl ?_
      exact vx_ret (z_iret hx hb hr hlocks hS (by decide) (by decide) dL_boat_30 ⟨by rw [hcd], fun _ => hHC, fun z => absurd z (by rw [hcd]; decide), v0, ⟨f0, hf0, hO1⟩, fun z => absurd z (by rw [hcd]; decide)⟩)
  · skip
    obtain ⟨hcd, rfl, hHC⟩ := hv
    obtain ⟨f0, hf0, hO⟩ := hO
    have hO1 := zR.frame hO hfr (fun q h _ => by rw [h]; exact hoB)
    obtain ⟨aB1, aC1, aD1, nd1, dd1, Wd1, w1, hC1, hD1, hRw1⟩ := hHC
    have hR : zR D (fun q => B q ∨ q = o) (zj (zoL tc o f0) w1) H := zR.join hO1 hRw1 (fun q h1 h2 => hoB (by rw [← h1]; exact h2)) (fun q h => Or.inr h) (fun q h => Or.inl h)
    refine lv_i2l hx hb dL_boat_14 rfl ?_
    refine z_last (i := 0) (x := (zi ((u 13 0))).toInt64) hx hb hK hR hS 2 (zj_1 zu_eq) rfl (by omega) dL_boat_15 (fun H locs hR hS => ?_)
    have hO2 : zR D (fun q => q = o) (zoL tc o (vp_updL f0 (0 : Int).toNat (zi ((u 13 0))).toInt64)) H := hR.restrict (fun q e hq => by
      by_cases z : q = o
      · subst z
        exact ⟨zu_eq.trans (zu_eq.symm.trans hq), rfl⟩
      · rw [show zoL tc o (vp_updL f0 (0 : Int).toNat (zi ((u 13 0))).toInt64) q = none from zu_ne z] at hq
        cases hq)
    have hRw2 : zR D B w1 H := hR.restrict (fun q e hq => by
      have hBq := hRw1.inA hq
      have hne : q ≠ o := fun z => hoB (by rw [← z]; exact hBq)
      exact ⟨(zu_ne hne).trans (zj_2 hq (zu_ne hne)), hBq⟩)
    refine lv_goto (tgt := 31) hx hb dL_boat_16 (by decide) ?_
    refine lv_iconst (v := zi (0)) hx hb dL_boat_31 rfl ?_
    exact vx_ret (z_iret hx hb hr hlocks hS (by decide) (by decide) dL_boat_32 ⟨by rw [hcd], fun z => absurd z (by rw [hcd]; decide), fun _ => ⟨aB1, aC1, aD1, nd1, dd1, Wd1, w1, hC1, hD1, hRw2⟩, _, ⟨_, rfl, hO2⟩, fun _ => rfl⟩)
set_option maxHeartbeats 4000000 in
set_option maxRecDepth 100000 in
theorem c_L_lend (l : Launch) (hflags : l.stackTraces = false) {S : State} {D : va_G} {tc : Nat → ClassId} {B : Nat → Prop} {dz : Nat} (hZ : zB S D tc B dz) (hNC : zNC S) {ad : Nat → Nat} {u : zS_} {o : Nat} (ho : S.heap.size ≤ o) (hoB : ¬ B o) {a b_ : Int} (h0 : -2147483648 ≤ a ∧ a ≤ 2147483647 ∧ -2147483648 ≤ b_ ∧ b_ ≤ 2147483647) (hI : zIn u) (hU : zUn u) : zMH l S (fun q => B q ∨ q = o) yL_lend cL_lend 5 (Option.some Jvm.ClassFile.FieldType.int) [((0 : Nat), (10 : Nat), (13 : Nat), (13 : Nat))] { frames := 9, locals := 264, cells := 2, slots := 12 } [.ref (ad 0), .int (zi (a)), .int (zi (b_)), .ref (o)] (fun H => zHC D tc dz B ad u H ∧ (∃ v : Int64, zOL D tc o v H) ∧ ∀ q : Nat, H.size ≤ q → B q) (fun v H => v = some (.int (zi (mcLend u a b_))) ∧ (0 < mcLend u a b_ → zHC D tc dz B ad u H) ∧ (mcLend u a b_ = 0 → zHC D tc dz B ad (ms u 2 a.toNat b_) H) ∧ ∃ v : Int64, zOL D tc o v H ∧ (mcLend u a b_ = 0 → v = (zi (u 2 a.toNat)).toInt64)) := by
  refine zMH.mk (by decide +kernel) (Nat.le_of_ble_eq_true rfl) (fun args s hW => q_353 hZ.1 hW) ?_
  intro p e s m below meth c ls X0 htab hR hl
  obtain ⟨hx, hb, hml, hr, hlocks, hown, hnm, hW, hpre, hA⟩ := X0
  obtain ⟨hHC, ⟨v0, hO⟩, hBf⟩ := hR
  have hZ1 := hZ.with ho
  have X : zH S (fun q => B q ∨ q = o) p s m c cL_lend 5 RL := ⟨hx, hb, hml, hown, hW, hpre, hA, hZ1.2.2.1⟩
  have hT := hZ.1
  have hK := va_K.moved hW.alike hZ.2.1
  have hS : va_S (fun q => B q ∨ q = o) s.heap s.heap [] := va_S.rf
  have hl : lv_has ls 5 [(0, .ref (ad 0)), (1, .int (zi (a))), (2, .int (zi (b_))), (3, .ref (o))] := hl
  have hHC0 := hHC
  obtain ⟨aB, aC, aD, nd, dd, Wd, w, hC, hD, hRw⟩ := hHC0
  refine lv_aload_n hx hb dL_lend_0 rfl (lv_at hl 3 rfl) ?_
  refine lv_iconst (v := zi (0)) hx hb dL_lend_1 rfl ?_
  refine lv_aload_n hx hb dL_lend_2 rfl (lv_at hl 0 rfl) ?_
  refine lv_iload_n hx hb dL_lend_3 rfl (lv_at hl 1 rfl) ?_
  refine lv_iload_n hx hb dL_lend_4 rfl (lv_at hl 2 rfl) ?_
  refine z_invVXB (n := 2) (C := RX5) (B := B) (fun q h => Or.inl h) (c_X5_lend l hflags hZ (a := a) (b_ := b_) h0 hI hU) X hS hBf hHC hl.1 (q_357 hT hW) (q_1 hT hW) (q_354 hT hW) (q_355 hT hW) (q_356 hT hW) (z_recv hK hRw hC.mk rfl) (by decide +kernel) rfl ⟨Nat.le_of_ble_eq_true rfl, Nat.le_of_ble_eq_true rfl⟩ ⟨Nat.le_of_ble_eq_true rfl, Nat.le_of_ble_eq_true rfl⟩ (Nat.le_of_ble_eq_true rfl) dL_lend_5 (fun E ce q9 H locs hv hfr hS hq9 hcv hcl => ?_) (fun v H locs hv hfr hS => ?_) rfl
  · skip
    obtain ⟨hc1, hE, hHC⟩ := hv
    have hcr : mcLend u a b_ = 1 := by unfold mcLend at hc1 ⊢; omega
    obtain ⟨f0, hf0, hO⟩ := hO
    have hO1 := zR.frame hO hfr (fun q h _ => by rw [h]; exact hoB)
    have hcd := hcr
    have hE1 : E = "java/lang/IndexOutOfBoundsException" := by rw [hE, hcd]; rfl
    subst hE1
    refine vx_catch hown [] ⟨0, 10, 13, 13⟩ [] (htab.trans rfl) (fun z hz => nomatch hz) (by decide) (by decide) (q_106 hT hW) (va_Nw.use rfl (q_118 hT hW)) hq9 hcv hcl ?_
    refine lv_astore (lv' := [(4, .ref (q9)), (0, .ref (ad 0)), (1, .int (zi (a))), (2, .int (zi (b_))), (3, .ref (o))]) hx hb dL_lend_13 hl (by decide) rfl (fun ls hl => ?_)
    refine lv_iconst (v := zi (1)) hx hb dL_lend_15 rfl ?_
    exact vx_ret (z_iret hx hb hr hlocks hS (by decide) (by decide) dL_lend_16 ⟨by rw [hcd], fun _ => hHC, fun z => absurd z (by rw [hcd]; decide), v0, ⟨f0, hf0, hO1⟩, fun z => absurd z (by rw [hcd]; decide)⟩)
  · skip
    obtain ⟨hcd, rfl, hHC⟩ := hv
    obtain ⟨f0, hf0, hO⟩ := hO
    have hO1 := zR.frame hO hfr (fun q h _ => by rw [h]; exact hoB)
    obtain ⟨aB1, aC1, aD1, nd1, dd1, Wd1, w1, hC1, hD1, hRw1⟩ := hHC
    have hR : zR D (fun q => B q ∨ q = o) (zj (zoL tc o f0) w1) H := zR.join hO1 hRw1 (fun q h1 h2 => hoB (by rw [← h1]; exact h2)) (fun q h => Or.inr h) (fun q h => Or.inl h)
    refine lv_i2l hx hb dL_lend_8 rfl ?_
    refine z_last (i := 0) (x := (zi ((u 2 a.toNat))).toInt64) hx hb hK hR hS 2 (zj_1 zu_eq) rfl (by omega) dL_lend_9 (fun H locs hR hS => ?_)
    have hO2 : zR D (fun q => q = o) (zoL tc o (vp_updL f0 (0 : Int).toNat (zi ((u 2 a.toNat))).toInt64)) H := hR.restrict (fun q e hq => by
      by_cases z : q = o
      · subst z
        exact ⟨zu_eq.trans (zu_eq.symm.trans hq), rfl⟩
      · rw [show zoL tc o (vp_updL f0 (0 : Int).toNat (zi ((u 2 a.toNat))).toInt64) q = none from zu_ne z] at hq
        cases hq)
    have hRw2 : zR D B w1 H := hR.restrict (fun q e hq => by
      have hBq := hRw1.inA hq
      have hne : q ≠ o := fun z => hoB (by rw [← z]; exact hBq)
      exact ⟨(zu_ne hne).trans (zj_2 hq (zu_ne hne)), hBq⟩)
    refine lv_goto (tgt := 17) hx hb dL_lend_10 (by decide) ?_
    refine lv_iconst (v := zi (0)) hx hb dL_lend_17 rfl ?_
    exact vx_ret (z_iret hx hb hr hlocks hS (by decide) (by decide) dL_lend_18 ⟨by rw [hcd], fun z => absurd z (by rw [hcd]; decide), fun _ => ⟨aB1, aC1, aD1, nd1, dd1, Wd1, w1, hC1, hD1, hRw2⟩, _, ⟨_, rfl, hO2⟩, fun _ => rfl⟩)
set_option maxHeartbeats 4000000 in
set_option maxRecDepth 100000 in
theorem c_L_foretell (l : Launch) (hflags : l.stackTraces = false) {S : State} {D : va_G} {tc : Nat → ClassId} {B : Nat → Prop} {dz : Nat} (hZ : zB S D tc B dz) (hNC : zNC S) {ad : Nat → Nat} {u : zS_} {o : Nat} (ho : S.heap.size ≤ o) (hoB : ¬ B o) {f t a z st : Int} (h0 : -2147483648 ≤ f ∧ f ≤ 2147483647 ∧ -2147483648 ≤ t ∧ t ≤ 2147483647 ∧ -2147483648 ≤ a ∧ a ≤ 2147483647 ∧ -2147483648 ≤ z ∧ z ≤ 2147483647 ∧ -2147483648 ≤ st ∧ st ≤ 2147483647) (hI : zIn u) (hU : zUn u) : zMH l S (fun q => B q ∨ q = o) yL_foretell cL_foretell 8 (Option.some Jvm.ClassFile.FieldType.int) [((0 : Nat), (16 : Nat), (19 : Nat), (13 : Nat)), ((0 : Nat), (16 : Nat), (23 : Nat), (15 : Nat))] { frames := 9, locals := 269, cells := 6, slots := 36 } [.ref (ad 0), .int (zi (f)), .int (zi (t)), .int (zi (a)), .int (zi (z)), .int (zi (st)), .ref (o)] (fun H => zHC D tc dz B ad u H ∧ (∃ v : Int64, zOL D tc o v H) ∧ ∀ q : Nat, H.size ≤ q → B q) (fun v H => v = some (.int (zi (mcFore u f t a z st))) ∧ (0 < mcFore u f t a z st → zHC D tc dz B ad u H) ∧ (mcFore u f t a z st = 0 → zHC D tc dz B ad (muFore u f t a z st) H) ∧ ∃ v : Int64, zOL D tc o v H ∧ (mcFore u f t a z st = 0 → v = (zi ((t % 8 - f % 8 + 1) * (t / 8 - f / 8 + 1))).toInt64)) := by
  refine zMH.mk (by decide +kernel) (Nat.le_of_ble_eq_true rfl) (fun args s hW => q_384 hZ.1 hW) ?_
  intro p e s m below meth c ls X0 htab hR hl
  obtain ⟨hx, hb, hml, hr, hlocks, hown, hnm, hW, hpre, hA⟩ := X0
  obtain ⟨hHC, ⟨v0, hO⟩, hBf⟩ := hR
  have hZ1 := hZ.with ho
  have X : zH S (fun q => B q ∨ q = o) p s m c cL_foretell 8 RL := ⟨hx, hb, hml, hown, hW, hpre, hA, hZ1.2.2.1⟩
  have hT := hZ.1
  have hK := va_K.moved hW.alike hZ.2.1
  have hS : va_S (fun q => B q ∨ q = o) s.heap s.heap [] := va_S.rf
  have hl : lv_has ls 8 [(0, .ref (ad 0)), (1, .int (zi (f))), (2, .int (zi (t))), (3, .int (zi (a))), (4, .int (zi (z))), (5, .int (zi (st))), (6, .ref (o))] := hl
  have hHC0 := hHC
  obtain ⟨aB, aC, aD, nd, dd, Wd, w, hC, hD, hRw⟩ := hHC0
  refine lv_aload hx hb dL_foretell_0 (lv_at hl 6 rfl) ?_
  refine lv_iconst (v := zi (0)) hx hb dL_foretell_2 rfl ?_
  refine lv_aload_n hx hb dL_foretell_3 rfl (lv_at hl 0 rfl) ?_
  refine lv_iload_n hx hb dL_foretell_4 rfl (lv_at hl 1 rfl) ?_
  refine lv_iload_n hx hb dL_foretell_5 rfl (lv_at hl 2 rfl) ?_
  refine lv_iload_n hx hb dL_foretell_6 rfl (lv_at hl 3 rfl) ?_
  refine lv_iload hx hb dL_foretell_7 (lv_at hl 4 rfl) ?_
  refine lv_iload hx hb dL_foretell_9 (lv_at hl 5 rfl) ?_
  refine z_invVXB (n := 5) (C := RX5) (B := B) (fun q h => Or.inl h) (c_X5_foretell l hflags hZ (f := f) (t := t) (a := a) (z := z) (st := st) h0 hI hU) X hS hBf hHC hl.1 (q_388 hT hW) (q_1 hT hW) (q_385 hT hW) (q_386 hT hW) (q_387 hT hW) (z_recv hK hRw hC.mk rfl) (by decide +kernel) rfl ⟨Nat.le_of_ble_eq_true rfl, Nat.le_of_ble_eq_true rfl⟩ ⟨Nat.le_of_ble_eq_true rfl, Nat.le_of_ble_eq_true rfl⟩ (Nat.le_of_ble_eq_true rfl) dL_foretell_11 (fun E ce q9 H locs hv hfr hS hq9 hcv hcl => ?_) (fun v H locs hv hfr hS => ?_) rfl
  · skip
    obtain ⟨hc1, hE, hHC⟩ := hv
    have hcr : mcFore u f t a z st = 1 ∨ mcFore u f t a z st = 2 := by unfold mcFore at hc1 ⊢; omega
    obtain ⟨f0, hf0, hO⟩ := hO
    have hO1 := zR.frame hO hfr (fun q h _ => by rw [h]; exact hoB)
    rcases hcr with hcd | hcd
    · skip
      have hE1 : E = "java/lang/IndexOutOfBoundsException" := by rw [hE, hcd]; rfl
      subst hE1
      refine vx_catch hown [] ⟨0, 16, 19, 13⟩ [⟨0, 16, 23, 15⟩] (htab.trans rfl) (fun z hz => nomatch hz) (by decide) (by decide) (q_106 hT hW) (va_Nw.use rfl (q_118 hT hW)) hq9 hcv hcl ?_
      refine lv_astore (lv' := [(7, .ref (q9)), (0, .ref (ad 0)), (1, .int (zi (f))), (2, .int (zi (t))), (3, .int (zi (a))), (4, .int (zi (z))), (5, .int (zi (st))), (6, .ref (o))]) hx hb dL_foretell_19 hl (by decide) rfl (fun ls hl => ?_)
      refine lv_iconst (v := zi (1)) hx hb dL_foretell_21 rfl ?_
      exact vx_ret (z_iret hx hb hr hlocks hS (by decide) (by decide) dL_foretell_22 ⟨by rw [hcd], fun _ => hHC, fun z => absurd z (by rw [hcd]; decide), v0, ⟨f0, hf0, hO1⟩, fun z => absurd z (by rw [hcd]; decide)⟩)
    · skip
      have hE1 : E = "java/lang/IllegalArgumentException" := by rw [hE, hcd]; rfl
      subst hE1
      refine vx_catch hown [⟨0, 16, 19, 13⟩] ⟨0, 16, 23, 15⟩ [] (htab.trans rfl) (fun z hz => by
        simp only [List.mem_cons, List.not_mem_nil, or_false] at hz
        subst hz
        exact Or.inr ⟨(by decide), "java/lang/IndexOutOfBoundsException", (q_106 hT hW), va_Nc.moved hW.alike hNC.1⟩) (by decide) (by decide) (q_107 hT hW) (va_Nw.use rfl (q_193 hT hW)) hq9 hcv hcl ?_
      refine lv_astore (lv' := [(7, .ref (q9)), (0, .ref (ad 0)), (1, .int (zi (f))), (2, .int (zi (t))), (3, .int (zi (a))), (4, .int (zi (z))), (5, .int (zi (st))), (6, .ref (o))]) hx hb dL_foretell_23 hl (by decide) rfl (fun ls hl => ?_)
      refine lv_iconst (v := zi (2)) hx hb dL_foretell_25 rfl ?_
      exact vx_ret (z_iret hx hb hr hlocks hS (by decide) (by decide) dL_foretell_26 ⟨by rw [hcd], fun _ => hHC, fun z => absurd z (by rw [hcd]; decide), v0, ⟨f0, hf0, hO1⟩, fun z => absurd z (by rw [hcd]; decide)⟩)
  · skip
    obtain ⟨hcd, rfl, hHC⟩ := hv
    obtain ⟨f0, hf0, hO⟩ := hO
    have hO1 := zR.frame hO hfr (fun q h _ => by rw [h]; exact hoB)
    obtain ⟨aB1, aC1, aD1, nd1, dd1, Wd1, w1, hC1, hD1, hRw1⟩ := hHC
    have hR : zR D (fun q => B q ∨ q = o) (zj (zoL tc o f0) w1) H := zR.join hO1 hRw1 (fun q h1 h2 => hoB (by rw [← h1]; exact h2)) (fun q h => Or.inr h) (fun q h => Or.inl h)
    refine lv_i2l hx hb dL_foretell_14 rfl ?_
    refine z_last (i := 0) (x := (zi (((t % 8 - f % 8 + 1) * (t / 8 - f / 8 + 1)))).toInt64) hx hb hK hR hS 2 (zj_1 zu_eq) rfl (by omega) dL_foretell_15 (fun H locs hR hS => ?_)
    have hO2 : zR D (fun q => q = o) (zoL tc o (vp_updL f0 (0 : Int).toNat (zi (((t % 8 - f % 8 + 1) * (t / 8 - f / 8 + 1)))).toInt64)) H := hR.restrict (fun q e hq => by
      by_cases z : q = o
      · subst z
        exact ⟨zu_eq.trans (zu_eq.symm.trans hq), rfl⟩
      · rw [show zoL tc o (vp_updL f0 (0 : Int).toNat (zi (((t % 8 - f % 8 + 1) * (t / 8 - f / 8 + 1)))).toInt64) q = none from zu_ne z] at hq
        cases hq)
    have hRw2 : zR D B w1 H := hR.restrict (fun q e hq => by
      have hBq := hRw1.inA hq
      have hne : q ≠ o := fun z => hoB (by rw [← z]; exact hBq)
      exact ⟨(zu_ne hne).trans (zj_2 hq (zu_ne hne)), hBq⟩)
    refine lv_goto (tgt := 27) hx hb dL_foretell_16 (by decide) ?_
    refine lv_iconst (v := zi (0)) hx hb dL_foretell_27 rfl ?_
    exact vx_ret (z_iret hx hb hr hlocks hS (by decide) (by decide) dL_foretell_28 ⟨by rw [hcd], fun z => absurd z (by rw [hcd]; decide), fun _ => ⟨aB1, aC1, aD1, nd1, dd1, Wd1, w1, hC1, hD1, hRw2⟩, _, ⟨_, rfl, hO2⟩, fun _ => rfl⟩)
set_option maxHeartbeats 4000000 in
set_option maxRecDepth 100000 in
theorem c_L_call (l : Launch) (hflags : l.stackTraces = false) {S : State} {D : va_G} {tc : Nat → ClassId} {B : Nat → Prop} {dz : Nat} (hZ : zB S D tc B dz) (hNC : zNC S) {ad : Nat → Nat} {u : zS_} {o : Nat} (ho : S.heap.size ≤ o) (hoB : ¬ B o) {a n z : Int} (h0 : -2147483648 ≤ a ∧ a ≤ 2147483647 ∧ -2147483648 ≤ n ∧ n ≤ 2147483647 ∧ -2147483648 ≤ z ∧ z ≤ 2147483647) (hI : zIn u) (hU : zUn u) : zMH l S (fun q => B q ∨ q = o) yL_call cL_call 6 (Option.some Jvm.ClassFile.FieldType.int) [((0 : Nat), (12 : Nat), (15 : Nat), (13 : Nat)), ((0 : Nat), (12 : Nat), (19 : Nat), (15 : Nat)), ((0 : Nat), (12 : Nat), (23 : Nat), (17 : Nat))] { frames := 10, locals := 364, cells := 5, slots := 59 } [.ref (ad 0), .int (zi (a)), .int (zi (n)), .int (zi (z)), .ref (o)] (fun H => zHC D tc dz B ad u H ∧ (∃ v : Int64, zOL D tc o v H) ∧ ∀ q : Nat, H.size ≤ q → B q) (fun v H => v = some (.int (zi (mcCall u a n z))) ∧ (0 < mcCall u a n z → zHC D tc dz B ad u H) ∧ (mcCall u a n z = 0 → zHC D tc dz B ad (muCall u a n z) H) ∧ ∃ v : Int64, zOL D tc o v H ∧ (mcCall u a n z = 0 → v = (zi (u 21 0)).toInt64)) := by
  refine zMH.mk (by decide +kernel) (Nat.le_of_ble_eq_true rfl) (fun args s hW => q_409 hZ.1 hW) ?_
  intro p e s m below meth c ls X0 htab hR hl
  obtain ⟨hx, hb, hml, hr, hlocks, hown, hnm, hW, hpre, hA⟩ := X0
  obtain ⟨hHC, ⟨v0, hO⟩, hBf⟩ := hR
  have hZ1 := hZ.with ho
  have X : zH S (fun q => B q ∨ q = o) p s m c cL_call 6 RL := ⟨hx, hb, hml, hown, hW, hpre, hA, hZ1.2.2.1⟩
  have hT := hZ.1
  have hK := va_K.moved hW.alike hZ.2.1
  have hS : va_S (fun q => B q ∨ q = o) s.heap s.heap [] := va_S.rf
  have hl : lv_has ls 6 [(0, .ref (ad 0)), (1, .int (zi (a))), (2, .int (zi (n))), (3, .int (zi (z))), (4, .ref (o))] := hl
  have hHC0 := hHC
  obtain ⟨aB, aC, aD, nd, dd, Wd, w, hC, hD, hRw⟩ := hHC0
  refine lv_aload hx hb dL_call_0 (lv_at hl 4 rfl) ?_
  refine lv_iconst (v := zi (0)) hx hb dL_call_2 rfl ?_
  refine lv_aload_n hx hb dL_call_3 rfl (lv_at hl 0 rfl) ?_
  refine lv_iload_n hx hb dL_call_4 rfl (lv_at hl 1 rfl) ?_
  refine lv_iload_n hx hb dL_call_5 rfl (lv_at hl 2 rfl) ?_
  refine lv_iload_n hx hb dL_call_6 rfl (lv_at hl 3 rfl) ?_
  refine z_invVXB (n := 3) (C := RX5) (B := B) (fun q h => Or.inl h) (c_X5_call l hflags hZ (a := a) (n := n) (z := z) h0 hI hU) X hS hBf hHC hl.1 (q_413 hT hW) (q_1 hT hW) (q_410 hT hW) (q_411 hT hW) (q_412 hT hW) (z_recv hK hRw hC.mk rfl) (by decide +kernel) rfl ⟨Nat.le_of_ble_eq_true rfl, Nat.le_of_ble_eq_true rfl⟩ ⟨Nat.le_of_ble_eq_true rfl, Nat.le_of_ble_eq_true rfl⟩ (Nat.le_of_ble_eq_true rfl) dL_call_7 (fun E ce q9 H locs hv hfr hS hq9 hcv hcl => ?_) (fun v H locs hv hfr hS => ?_) rfl
  · skip
    obtain ⟨hc1, hE, hHC⟩ := hv
    have hcr : mcCall u a n z = 1 ∨ mcCall u a n z = 2 ∨ mcCall u a n z = 3 := by unfold mcCall at hc1 ⊢; omega
    obtain ⟨f0, hf0, hO⟩ := hO
    have hO1 := zR.frame hO hfr (fun q h _ => by rw [h]; exact hoB)
    rcases hcr with hcd | hcd | hcd
    · skip
      have hE1 : E = "java/lang/IndexOutOfBoundsException" := by rw [hE, hcd]; rfl
      subst hE1
      refine vx_catch hown [] ⟨0, 12, 15, 13⟩ [⟨0, 12, 19, 15⟩, ⟨0, 12, 23, 17⟩] (htab.trans rfl) (fun z hz => nomatch hz) (by decide) (by decide) (q_106 hT hW) (va_Nw.use rfl (q_118 hT hW)) hq9 hcv hcl ?_
      refine lv_astore (lv' := [(5, .ref (q9)), (0, .ref (ad 0)), (1, .int (zi (a))), (2, .int (zi (n))), (3, .int (zi (z))), (4, .ref (o))]) hx hb dL_call_15 hl (by decide) rfl (fun ls hl => ?_)
      refine lv_iconst (v := zi (1)) hx hb dL_call_17 rfl ?_
      exact vx_ret (z_iret hx hb hr hlocks hS (by decide) (by decide) dL_call_18 ⟨by rw [hcd], fun _ => hHC, fun z => absurd z (by rw [hcd]; decide), v0, ⟨f0, hf0, hO1⟩, fun z => absurd z (by rw [hcd]; decide)⟩)
    · skip
      have hE1 : E = "java/lang/IllegalArgumentException" := by rw [hE, hcd]; rfl
      subst hE1
      refine vx_catch hown [⟨0, 12, 15, 13⟩] ⟨0, 12, 19, 15⟩ [⟨0, 12, 23, 17⟩] (htab.trans rfl) (fun z hz => by
        simp only [List.mem_cons, List.not_mem_nil, or_false] at hz
        subst hz
        exact Or.inr ⟨(by decide), "java/lang/IndexOutOfBoundsException", (q_106 hT hW), va_Nc.moved hW.alike hNC.1⟩) (by decide) (by decide) (q_107 hT hW) (va_Nw.use rfl (q_193 hT hW)) hq9 hcv hcl ?_
      refine lv_astore (lv' := [(5, .ref (q9)), (0, .ref (ad 0)), (1, .int (zi (a))), (2, .int (zi (n))), (3, .int (zi (z))), (4, .ref (o))]) hx hb dL_call_19 hl (by decide) rfl (fun ls hl => ?_)
      refine lv_iconst (v := zi (2)) hx hb dL_call_21 rfl ?_
      exact vx_ret (z_iret hx hb hr hlocks hS (by decide) (by decide) dL_call_22 ⟨by rw [hcd], fun _ => hHC, fun z => absurd z (by rw [hcd]; decide), v0, ⟨f0, hf0, hO1⟩, fun z => absurd z (by rw [hcd]; decide)⟩)
    · skip
      have hE1 : E = "java/lang/IllegalStateException" := by rw [hE, hcd]; rfl
      subst hE1
      refine vx_catch hown [⟨0, 12, 15, 13⟩, ⟨0, 12, 19, 15⟩] ⟨0, 12, 23, 17⟩ [] (htab.trans rfl) (fun z hz => by
        simp only [List.mem_cons, List.not_mem_nil, or_false] at hz
        rcases hz with rfl | rfl
        · exact Or.inr ⟨(by decide), "java/lang/IndexOutOfBoundsException", (q_106 hT hW), va_Nc.moved hW.alike hNC.2.1⟩
        · exact Or.inr ⟨(by decide), "java/lang/IllegalArgumentException", (q_107 hT hW), va_Nc.moved hW.alike hNC.2.2⟩) (by decide) (by decide) (q_108 hT hW) (va_Nw.use rfl (q_219 hT hW)) hq9 hcv hcl ?_
      refine lv_astore (lv' := [(5, .ref (q9)), (0, .ref (ad 0)), (1, .int (zi (a))), (2, .int (zi (n))), (3, .int (zi (z))), (4, .ref (o))]) hx hb dL_call_23 hl (by decide) rfl (fun ls hl => ?_)
      refine lv_iconst (v := zi (3)) hx hb dL_call_25 rfl ?_
      exact vx_ret (z_iret hx hb hr hlocks hS (by decide) (by decide) dL_call_26 ⟨by rw [hcd], fun _ => hHC, fun z => absurd z (by rw [hcd]; decide), v0, ⟨f0, hf0, hO1⟩, fun z => absurd z (by rw [hcd]; decide)⟩)
  · skip
    obtain ⟨hcd, rfl, hHC⟩ := hv
    obtain ⟨f0, hf0, hO⟩ := hO
    have hO1 := zR.frame hO hfr (fun q h _ => by rw [h]; exact hoB)
    obtain ⟨aB1, aC1, aD1, nd1, dd1, Wd1, w1, hC1, hD1, hRw1⟩ := hHC
    have hR : zR D (fun q => B q ∨ q = o) (zj (zoL tc o f0) w1) H := zR.join hO1 hRw1 (fun q h1 h2 => hoB (by rw [← h1]; exact h2)) (fun q h => Or.inr h) (fun q h => Or.inl h)
    refine lv_i2l hx hb dL_call_10 rfl ?_
    refine z_last (i := 0) (x := (zi ((u 21 0))).toInt64) hx hb hK hR hS 2 (zj_1 zu_eq) rfl (by omega) dL_call_11 (fun H locs hR hS => ?_)
    have hO2 : zR D (fun q => q = o) (zoL tc o (vp_updL f0 (0 : Int).toNat (zi ((u 21 0))).toInt64)) H := hR.restrict (fun q e hq => by
      by_cases z : q = o
      · subst z
        exact ⟨zu_eq.trans (zu_eq.symm.trans hq), rfl⟩
      · rw [show zoL tc o (vp_updL f0 (0 : Int).toNat (zi ((u 21 0))).toInt64) q = none from zu_ne z] at hq
        cases hq)
    have hRw2 : zR D B w1 H := hR.restrict (fun q e hq => by
      have hBq := hRw1.inA hq
      have hne : q ≠ o := fun z => hoB (by rw [← z]; exact hBq)
      exact ⟨(zu_ne hne).trans (zj_2 hq (zu_ne hne)), hBq⟩)
    refine lv_goto (tgt := 27) hx hb dL_call_12 (by decide) ?_
    refine lv_iconst (v := zi (0)) hx hb dL_call_27 rfl ?_
    exact vx_ret (z_iret hx hb hr hlocks hS (by decide) (by decide) dL_call_28 ⟨by rw [hcd], fun z => absurd z (by rw [hcd]; decide), fun _ => ⟨aB1, aC1, aD1, nd1, dd1, Wd1, w1, hC1, hD1, hRw2⟩, _, ⟨_, rfl, hO2⟩, fun _ => rfl⟩)
set_option maxHeartbeats 4000000 in
set_option maxRecDepth 100000 in
theorem c_L_cap (l : Launch) (hflags : l.stackTraces = false) {S : State} {D : va_G} {tc : Nat → ClassId} {B : Nat → Prop} {dz : Nat} (hZ : zB S D tc B dz) (hNC : zNC S) {ad : Nat → Nat} {u : zS_} {o : Nat} (ho : S.heap.size ≤ o) (hoB : ¬ B o) {a : Int} (h0 : -2147483648 ≤ a ∧ a ≤ 2147483647) (hI : zIn u) (hU : zUn u) : zMH l S (fun q => B q ∨ q = o) yL_cap cL_cap 4 (Option.some Jvm.ClassFile.FieldType.int) [((0 : Nat), (9 : Nat), (12 : Nat), (15 : Nat))] { frames := 9, locals := 262, cells := 1, slots := 6 } [.ref (ad 0), .int (zi (a)), .ref (o)] (fun H => zHC D tc dz B ad u H ∧ (∃ v : Int64, zOL D tc o v H) ∧ ∀ q : Nat, H.size ≤ q → B q) (fun v H => v = some (.int (zi (mcCap a))) ∧ (0 < mcCap a → zHC D tc dz B ad u H) ∧ (mcCap a = 0 → zHC D tc dz B ad (ms u 23 0 a) H) ∧ ∃ v : Int64, zOL D tc o v H ∧ (mcCap a = 0 → v = (zi (u 23 0)).toInt64)) := by
  refine zMH.mk (by decide +kernel) (Nat.le_of_ble_eq_true rfl) (fun args s hW => q_456 hZ.1 hW) ?_
  intro p e s m below meth c ls X0 htab hR hl
  obtain ⟨hx, hb, hml, hr, hlocks, hown, hnm, hW, hpre, hA⟩ := X0
  obtain ⟨hHC, ⟨v0, hO⟩, hBf⟩ := hR
  have hZ1 := hZ.with ho
  have X : zH S (fun q => B q ∨ q = o) p s m c cL_cap 4 RL := ⟨hx, hb, hml, hown, hW, hpre, hA, hZ1.2.2.1⟩
  have hT := hZ.1
  have hK := va_K.moved hW.alike hZ.2.1
  have hS : va_S (fun q => B q ∨ q = o) s.heap s.heap [] := va_S.rf
  have hl : lv_has ls 4 [(0, .ref (ad 0)), (1, .int (zi (a))), (2, .ref (o))] := hl
  have hHC0 := hHC
  obtain ⟨aB, aC, aD, nd, dd, Wd, w, hC, hD, hRw⟩ := hHC0
  refine lv_aload_n hx hb dL_cap_0 rfl (lv_at hl 2 rfl) ?_
  refine lv_iconst (v := zi (0)) hx hb dL_cap_1 rfl ?_
  refine lv_aload_n hx hb dL_cap_2 rfl (lv_at hl 0 rfl) ?_
  refine lv_iload_n hx hb dL_cap_3 rfl (lv_at hl 1 rfl) ?_
  refine z_invVXB (n := 1) (C := RX5) (B := B) (fun q h => Or.inl h) (c_X5_cap l hflags hZ (a := a) h0 hI hU) X hS hBf hHC hl.1 (q_460 hT hW) (q_1 hT hW) (q_457 hT hW) (q_458 hT hW) (q_459 hT hW) (z_recv hK hRw hC.mk rfl) (by decide +kernel) rfl ⟨Nat.le_of_ble_eq_true rfl, Nat.le_of_ble_eq_true rfl⟩ ⟨Nat.le_of_ble_eq_true rfl, Nat.le_of_ble_eq_true rfl⟩ (Nat.le_of_ble_eq_true rfl) dL_cap_4 (fun E ce q9 H locs hv hfr hS hq9 hcv hcl => ?_) (fun v H locs hv hfr hS => ?_) rfl
  · skip
    obtain ⟨hc1, hE, hHC⟩ := hv
    have hcr : mcCap a = 1 := by unfold mcCap at hc1 ⊢; omega
    obtain ⟨f0, hf0, hO⟩ := hO
    have hO1 := zR.frame hO hfr (fun q h _ => by rw [h]; exact hoB)
    have hcd := hcr
    have hE1 : E = "java/lang/IllegalArgumentException" := by rw [hE, hcd]; rfl
    subst hE1
    refine vx_catch hown [] ⟨0, 9, 12, 15⟩ [] (htab.trans rfl) (fun z hz => nomatch hz) (by decide) (by decide) (q_107 hT hW) (va_Nw.use rfl (q_193 hT hW)) hq9 hcv hcl ?_
    refine lv_astore_n (lv' := [(3, .ref (q9)), (0, .ref (ad 0)), (1, .int (zi (a))), (2, .ref (o))]) hx hb dL_cap_12 rfl hl (by decide) rfl (fun ls hl => ?_)
    refine lv_iconst (v := zi (1)) hx hb dL_cap_13 rfl ?_
    exact vx_ret (z_iret hx hb hr hlocks hS (by decide) (by decide) dL_cap_14 ⟨by rw [hcd], fun _ => hHC, fun z => absurd z (by rw [hcd]; decide), v0, ⟨f0, hf0, hO1⟩, fun z => absurd z (by rw [hcd]; decide)⟩)
  · skip
    obtain ⟨hcd, rfl, hHC⟩ := hv
    obtain ⟨f0, hf0, hO⟩ := hO
    have hO1 := zR.frame hO hfr (fun q h _ => by rw [h]; exact hoB)
    obtain ⟨aB1, aC1, aD1, nd1, dd1, Wd1, w1, hC1, hD1, hRw1⟩ := hHC
    have hR : zR D (fun q => B q ∨ q = o) (zj (zoL tc o f0) w1) H := zR.join hO1 hRw1 (fun q h1 h2 => hoB (by rw [← h1]; exact h2)) (fun q h => Or.inr h) (fun q h => Or.inl h)
    refine lv_i2l hx hb dL_cap_7 rfl ?_
    refine z_last (i := 0) (x := (zi ((u 23 0))).toInt64) hx hb hK hR hS 2 (zj_1 zu_eq) rfl (by omega) dL_cap_8 (fun H locs hR hS => ?_)
    have hO2 : zR D (fun q => q = o) (zoL tc o (vp_updL f0 (0 : Int).toNat (zi ((u 23 0))).toInt64)) H := hR.restrict (fun q e hq => by
      by_cases z : q = o
      · subst z
        exact ⟨zu_eq.trans (zu_eq.symm.trans hq), rfl⟩
      · rw [show zoL tc o (vp_updL f0 (0 : Int).toNat (zi ((u 23 0))).toInt64) q = none from zu_ne z] at hq
        cases hq)
    have hRw2 : zR D B w1 H := hR.restrict (fun q e hq => by
      have hBq := hRw1.inA hq
      have hne : q ≠ o := fun z => hoB (by rw [← z]; exact hBq)
      exact ⟨(zu_ne hne).trans (zj_2 hq (zu_ne hne)), hBq⟩)
    refine lv_goto (tgt := 15) hx hb dL_cap_9 (by decide) ?_
    refine lv_iconst (v := zi (0)) hx hb dL_cap_15 rfl ?_
    exact vx_ret (z_iret hx hb hr hlocks hS (by decide) (by decide) dL_cap_16 ⟨by rw [hcd], fun z => absurd z (by rw [hcd]; decide), fun _ => ⟨aB1, aC1, aD1, nd1, dd1, Wd1, w1, hC1, hD1, hRw2⟩, _, ⟨_, rfl, hO2⟩, fun _ => rfl⟩)
set_option maxHeartbeats 4000000 in
set_option maxRecDepth 100000 in
theorem c_L_pass (l : Launch) (hflags : l.stackTraces = false) {S : State} {D : va_G} {tc : Nat → ClassId} {B : Nat → Prop} {dz : Nat} (hZ : zB S D tc B dz) (hNC : zNC S) {ad : Nat → Nat} {u : zS_} {o : Nat} (ho : S.heap.size ≤ o) (hoB : ¬ B o) {n : Int} (h0 : -2147483648 ≤ n ∧ n ≤ 2147483647) (hI : zIn u) (hU : zUn u) : zMH l S (fun q => B q ∨ q = o) yL_pass cL_pass 4 (Option.some Jvm.ClassFile.FieldType.int) [((0 : Nat), (9 : Nat), (12 : Nat), (15 : Nat)), ((0 : Nat), (9 : Nat), (15 : Nat), (17 : Nat))] { frames := 13, locals := 522, cells := 577, slots := 10950 } [.ref (ad 0), .int (zi (n)), .ref (o)] (fun H => zHC D tc dz B ad u H ∧ (∃ v : Int64, zOL D tc o v H) ∧ ∀ q : Nat, H.size ≤ q → B q) (fun v H => v = some (.int (zi (mcPass u n))) ∧ (0 < mcPass u n → zHC D tc dz B ad u H) ∧ (mcPass u n = 0 → zHC D tc dz B ad (mpass u n.toNat) H) ∧ ∃ v : Int64, zOL D tc o v H ∧ (mcPass u n = 0 → v = (zi (mpass u n.toNat 24 0)).toInt64)) := by
  refine zMH.mk (by decide +kernel) (Nat.le_of_ble_eq_true rfl) (fun args s hW => q_463 hZ.1 hW) ?_
  intro p e s m below meth c ls X0 htab hR hl
  obtain ⟨hx, hb, hml, hr, hlocks, hown, hnm, hW, hpre, hA⟩ := X0
  obtain ⟨hHC, ⟨v0, hO⟩, hBf⟩ := hR
  have hZ1 := hZ.with ho
  have X : zH S (fun q => B q ∨ q = o) p s m c cL_pass 4 RL := ⟨hx, hb, hml, hown, hW, hpre, hA, hZ1.2.2.1⟩
  have hT := hZ.1
  have hK := va_K.moved hW.alike hZ.2.1
  have hS : va_S (fun q => B q ∨ q = o) s.heap s.heap [] := va_S.rf
  have hl : lv_has ls 4 [(0, .ref (ad 0)), (1, .int (zi (n))), (2, .ref (o))] := hl
  have hHC0 := hHC
  obtain ⟨aB, aC, aD, nd, dd, Wd, w, hC, hD, hRw⟩ := hHC0
  refine lv_aload_n hx hb dL_pass_0 rfl (lv_at hl 2 rfl) ?_
  refine lv_iconst (v := zi (0)) hx hb dL_pass_1 rfl ?_
  refine lv_aload_n hx hb dL_pass_2 rfl (lv_at hl 0 rfl) ?_
  refine lv_iload_n hx hb dL_pass_3 rfl (lv_at hl 1 rfl) ?_
  refine z_invVXB (n := 1) (C := RX5) (B := B) (fun q h => Or.inl h) (c_X5_pass l hflags hZ (n := n) h0 hI hU) X hS hBf hHC hl.1 (q_467 hT hW) (q_1 hT hW) (q_464 hT hW) (q_465 hT hW) (q_466 hT hW) (z_recv hK hRw hC.mk rfl) (by decide +kernel) rfl ⟨Nat.le_of_ble_eq_true rfl, Nat.le_of_ble_eq_true rfl⟩ ⟨Nat.le_of_ble_eq_true rfl, Nat.le_of_ble_eq_true rfl⟩ (Nat.le_of_ble_eq_true rfl) dL_pass_4 (fun E ce q9 H locs hv hfr hS hq9 hcv hcl => ?_) (fun v H locs hv hfr hS => ?_) rfl
  · skip
    obtain ⟨hc1, hE, hHC⟩ := hv
    have hcr : mcPass u n = 1 ∨ mcPass u n = 2 := by unfold mcPass at hc1 ⊢; omega
    obtain ⟨f0, hf0, hO⟩ := hO
    have hO1 := zR.frame hO hfr (fun q h _ => by rw [h]; exact hoB)
    rcases hcr with hcd | hcd
    · skip
      have hE1 : E = "java/lang/IllegalArgumentException" := by rw [hE, hcd]; rfl
      subst hE1
      refine vx_catch hown [] ⟨0, 9, 12, 15⟩ [⟨0, 9, 15, 17⟩] (htab.trans rfl) (fun z hz => nomatch hz) (by decide) (by decide) (q_107 hT hW) (va_Nw.use rfl (q_193 hT hW)) hq9 hcv hcl ?_
      refine lv_astore_n (lv' := [(3, .ref (q9)), (0, .ref (ad 0)), (1, .int (zi (n))), (2, .ref (o))]) hx hb dL_pass_12 rfl hl (by decide) rfl (fun ls hl => ?_)
      refine lv_iconst (v := zi (1)) hx hb dL_pass_13 rfl ?_
      exact vx_ret (z_iret hx hb hr hlocks hS (by decide) (by decide) dL_pass_14 ⟨by rw [hcd], fun _ => hHC, fun z => absurd z (by rw [hcd]; decide), v0, ⟨f0, hf0, hO1⟩, fun z => absurd z (by rw [hcd]; decide)⟩)
    · skip
      have hE1 : E = "java/lang/IllegalStateException" := by rw [hE, hcd]; rfl
      subst hE1
      refine vx_catch hown [⟨0, 9, 12, 15⟩] ⟨0, 9, 15, 17⟩ [] (htab.trans rfl) (fun z hz => by
        simp only [List.mem_cons, List.not_mem_nil, or_false] at hz
        subst hz
        exact Or.inr ⟨(by decide), "java/lang/IllegalArgumentException", (q_107 hT hW), va_Nc.moved hW.alike hNC.2.2⟩) (by decide) (by decide) (q_108 hT hW) (va_Nw.use rfl (q_219 hT hW)) hq9 hcv hcl ?_
      refine lv_astore_n (lv' := [(3, .ref (q9)), (0, .ref (ad 0)), (1, .int (zi (n))), (2, .ref (o))]) hx hb dL_pass_15 rfl hl (by decide) rfl (fun ls hl => ?_)
      refine lv_iconst (v := zi (2)) hx hb dL_pass_16 rfl ?_
      exact vx_ret (z_iret hx hb hr hlocks hS (by decide) (by decide) dL_pass_17 ⟨by rw [hcd], fun _ => hHC, fun z => absurd z (by rw [hcd]; decide), v0, ⟨f0, hf0, hO1⟩, fun z => absurd z (by rw [hcd]; decide)⟩)
  · skip
    obtain ⟨hcd, rfl, hHC⟩ := hv
    obtain ⟨f0, hf0, hO⟩ := hO
    have hO1 := zR.frame hO hfr (fun q h _ => by rw [h]; exact hoB)
    obtain ⟨aB1, aC1, aD1, nd1, dd1, Wd1, w1, hC1, hD1, hRw1⟩ := hHC
    have hR : zR D (fun q => B q ∨ q = o) (zj (zoL tc o f0) w1) H := zR.join hO1 hRw1 (fun q h1 h2 => hoB (by rw [← h1]; exact h2)) (fun q h => Or.inr h) (fun q h => Or.inl h)
    refine lv_i2l hx hb dL_pass_7 rfl ?_
    refine z_last (i := 0) (x := (zi ((mpass u n.toNat 24 0))).toInt64) hx hb hK hR hS 2 (zj_1 zu_eq) rfl (by omega) dL_pass_8 (fun H locs hR hS => ?_)
    have hO2 : zR D (fun q => q = o) (zoL tc o (vp_updL f0 (0 : Int).toNat (zi ((mpass u n.toNat 24 0))).toInt64)) H := hR.restrict (fun q e hq => by
      by_cases z : q = o
      · subst z
        exact ⟨zu_eq.trans (zu_eq.symm.trans hq), rfl⟩
      · rw [show zoL tc o (vp_updL f0 (0 : Int).toNat (zi ((mpass u n.toNat 24 0))).toInt64) q = none from zu_ne z] at hq
        cases hq)
    have hRw2 : zR D B w1 H := hR.restrict (fun q e hq => by
      have hBq := hRw1.inA hq
      have hne : q ≠ o := fun z => hoB (by rw [← z]; exact hBq)
      exact ⟨(zu_ne hne).trans (zj_2 hq (zu_ne hne)), hBq⟩)
    refine lv_goto (tgt := 18) hx hb dL_pass_9 (by decide) ?_
    refine lv_iconst (v := zi (0)) hx hb dL_pass_18 rfl ?_
    exact vx_ret (z_iret hx hb hr hlocks hS (by decide) (by decide) dL_pass_19 ⟨by rw [hcd], fun z => absurd z (by rw [hcd]; decide), fun _ => ⟨aB1, aC1, aD1, nd1, dd1, Wd1, w1, hC1, hD1, hRw2⟩, _, ⟨_, rfl, hO2⟩, fun _ => rfl⟩)
set_option maxHeartbeats 4000000 in
set_option maxRecDepth 100000 in
theorem c_L_storm (l : Launch) (hflags : l.stackTraces = false) {S : State} {D : va_G} {tc : Nat → ClassId} {B : Nat → Prop} {dz : Nat} (hZ : zB S D tc B dz) (hNC : zNC S) {ad : Nat → Nat} {u : zS_} {o : Nat} (ho : S.heap.size ≤ o) (hoB : ¬ B o) {a h : Int} (h0 : -2147483648 ≤ a ∧ a ≤ 2147483647 ∧ -2147483648 ≤ h ∧ h ≤ 2147483647) (hI : zIn u) (hU : zUn u) : zMH l S (fun q => B q ∨ q = o) yL_storm cL_storm 5 (Option.some Jvm.ClassFile.FieldType.int) [((0 : Nat), (10 : Nat), (13 : Nat), (13 : Nat)), ((0 : Nat), (10 : Nat), (17 : Nat), (15 : Nat))] { frames := 9, locals := 262, cells := 2, slots := 12 } [.ref (ad 0), .int (zi (a)), .int (zi (h)), .ref (o)] (fun H => zHC D tc dz B ad u H ∧ (∃ v : Int64, zOL D tc o v H) ∧ ∀ q : Nat, H.size ≤ q → B q) (fun v H => v = some (.int (zi (mcStorm u a h))) ∧ (0 < mcStorm u a h → zHC D tc dz B ad u H) ∧ (mcStorm u a h = 0 → zHC D tc dz B ad (u) H) ∧ ∃ v : Int64, zOL D tc o v H ∧ (mcStorm u a h = 0 → v = (zi (u 0 (1000 * a + h).toNat)).toInt64)) := by
  refine zMH.mk (by decide +kernel) (Nat.le_of_ble_eq_true rfl) (fun args s hW => q_587 hZ.1 hW) ?_
  intro p e s m below meth c ls X0 htab hR hl
  obtain ⟨hx, hb, hml, hr, hlocks, hown, hnm, hW, hpre, hA⟩ := X0
  obtain ⟨hHC, ⟨v0, hO⟩, hBf⟩ := hR
  have hZ1 := hZ.with ho
  have X : zH S (fun q => B q ∨ q = o) p s m c cL_storm 5 RL := ⟨hx, hb, hml, hown, hW, hpre, hA, hZ1.2.2.1⟩
  have hT := hZ.1
  have hK := va_K.moved hW.alike hZ.2.1
  have hS : va_S (fun q => B q ∨ q = o) s.heap s.heap [] := va_S.rf
  have hl : lv_has ls 5 [(0, .ref (ad 0)), (1, .int (zi (a))), (2, .int (zi (h))), (3, .ref (o))] := hl
  have hHC0 := hHC
  obtain ⟨aB, aC, aD, nd, dd, Wd, w, hC, hD, hRw⟩ := hHC0
  refine lv_aload_n hx hb dL_storm_0 rfl (lv_at hl 3 rfl) ?_
  refine lv_iconst (v := zi (0)) hx hb dL_storm_1 rfl ?_
  refine lv_aload_n hx hb dL_storm_2 rfl (lv_at hl 0 rfl) ?_
  refine lv_iload_n hx hb dL_storm_3 rfl (lv_at hl 1 rfl) ?_
  refine lv_iload_n hx hb dL_storm_4 rfl (lv_at hl 2 rfl) ?_
  refine z_invVXB (n := 2) (C := RX5) (B := B) (fun q h => Or.inl h) (c_X5_storm l hflags hZ (a := a) (h := h) h0 hI hU) X hS hBf hHC hl.1 (q_591 hT hW) (q_1 hT hW) (q_588 hT hW) (q_589 hT hW) (q_590 hT hW) (z_recv hK hRw hC.mk rfl) (by decide +kernel) rfl ⟨Nat.le_of_ble_eq_true rfl, Nat.le_of_ble_eq_true rfl⟩ ⟨Nat.le_of_ble_eq_true rfl, Nat.le_of_ble_eq_true rfl⟩ (Nat.le_of_ble_eq_true rfl) dL_storm_5 (fun E ce q9 H locs hv hfr hS hq9 hcv hcl => ?_) (fun v H locs hv hfr hS => ?_) rfl
  · skip
    obtain ⟨hc1, hE, hHC⟩ := hv
    have hcr : mcStorm u a h = 1 ∨ mcStorm u a h = 2 := by unfold mcStorm at hc1 ⊢; omega
    obtain ⟨f0, hf0, hO⟩ := hO
    have hO1 := zR.frame hO hfr (fun q h _ => by rw [h]; exact hoB)
    rcases hcr with hcd | hcd
    · skip
      have hE1 : E = "java/lang/IndexOutOfBoundsException" := by rw [hE, hcd]; rfl
      subst hE1
      refine vx_catch hown [] ⟨0, 10, 13, 13⟩ [⟨0, 10, 17, 15⟩] (htab.trans rfl) (fun z hz => nomatch hz) (by decide) (by decide) (q_106 hT hW) (va_Nw.use rfl (q_118 hT hW)) hq9 hcv hcl ?_
      refine lv_astore (lv' := [(4, .ref (q9)), (0, .ref (ad 0)), (1, .int (zi (a))), (2, .int (zi (h))), (3, .ref (o))]) hx hb dL_storm_13 hl (by decide) rfl (fun ls hl => ?_)
      refine lv_iconst (v := zi (1)) hx hb dL_storm_15 rfl ?_
      exact vx_ret (z_iret hx hb hr hlocks hS (by decide) (by decide) dL_storm_16 ⟨by rw [hcd], fun _ => hHC, fun z => absurd z (by rw [hcd]; decide), v0, ⟨f0, hf0, hO1⟩, fun z => absurd z (by rw [hcd]; decide)⟩)
    · skip
      have hE1 : E = "java/lang/IllegalArgumentException" := by rw [hE, hcd]; rfl
      subst hE1
      refine vx_catch hown [⟨0, 10, 13, 13⟩] ⟨0, 10, 17, 15⟩ [] (htab.trans rfl) (fun z hz => by
        simp only [List.mem_cons, List.not_mem_nil, or_false] at hz
        subst hz
        exact Or.inr ⟨(by decide), "java/lang/IndexOutOfBoundsException", (q_106 hT hW), va_Nc.moved hW.alike hNC.1⟩) (by decide) (by decide) (q_107 hT hW) (va_Nw.use rfl (q_193 hT hW)) hq9 hcv hcl ?_
      refine lv_astore (lv' := [(4, .ref (q9)), (0, .ref (ad 0)), (1, .int (zi (a))), (2, .int (zi (h))), (3, .ref (o))]) hx hb dL_storm_17 hl (by decide) rfl (fun ls hl => ?_)
      refine lv_iconst (v := zi (2)) hx hb dL_storm_19 rfl ?_
      exact vx_ret (z_iret hx hb hr hlocks hS (by decide) (by decide) dL_storm_20 ⟨by rw [hcd], fun _ => hHC, fun z => absurd z (by rw [hcd]; decide), v0, ⟨f0, hf0, hO1⟩, fun z => absurd z (by rw [hcd]; decide)⟩)
  · skip
    obtain ⟨hcd, rfl, hHC⟩ := hv
    obtain ⟨f0, hf0, hO⟩ := hO
    have hO1 := zR.frame hO hfr (fun q h _ => by rw [h]; exact hoB)
    obtain ⟨aB1, aC1, aD1, nd1, dd1, Wd1, w1, hC1, hD1, hRw1⟩ := hHC
    have hR : zR D (fun q => B q ∨ q = o) (zj (zoL tc o f0) w1) H := zR.join hO1 hRw1 (fun q h1 h2 => hoB (by rw [← h1]; exact h2)) (fun q h => Or.inr h) (fun q h => Or.inl h)
    refine lv_i2l hx hb dL_storm_8 rfl ?_
    refine z_last (i := 0) (x := (zi ((u 0 (1000 * a + h).toNat))).toInt64) hx hb hK hR hS 2 (zj_1 zu_eq) rfl (by omega) dL_storm_9 (fun H locs hR hS => ?_)
    have hO2 : zR D (fun q => q = o) (zoL tc o (vp_updL f0 (0 : Int).toNat (zi ((u 0 (1000 * a + h).toNat))).toInt64)) H := hR.restrict (fun q e hq => by
      by_cases z : q = o
      · subst z
        exact ⟨zu_eq.trans (zu_eq.symm.trans hq), rfl⟩
      · rw [show zoL tc o (vp_updL f0 (0 : Int).toNat (zi ((u 0 (1000 * a + h).toNat))).toInt64) q = none from zu_ne z] at hq
        cases hq)
    have hRw2 : zR D B w1 H := hR.restrict (fun q e hq => by
      have hBq := hRw1.inA hq
      have hne : q ≠ o := fun z => hoB (by rw [← z]; exact hBq)
      exact ⟨(zu_ne hne).trans (zj_2 hq (zu_ne hne)), hBq⟩)
    refine lv_goto (tgt := 21) hx hb dL_storm_10 (by decide) ?_
    refine lv_iconst (v := zi (0)) hx hb dL_storm_21 rfl ?_
    exact vx_ret (z_iret hx hb hr hlocks hS (by decide) (by decide) dL_storm_22 ⟨by rw [hcd], fun z => absurd z (by rw [hcd]; decide), fun _ => ⟨aB1, aC1, aD1, nd1, dd1, Wd1, w1, hC1, hD1, hRw2⟩, _, ⟨_, rfl, hO2⟩, fun _ => rfl⟩)
set_option maxHeartbeats 4000000 in
set_option maxRecDepth 100000 in
theorem c_L_ofBoat (l : Launch) (hflags : l.stackTraces = false) {S : State} {D : va_G} {tc : Nat → ClassId} {B : Nat → Prop} {dz : Nat} (hZ : zB S D tc B dz) (hNC : zNC S) {ad : Nat → Nat} {u : zS_} {o : Nat} (ho : S.heap.size ≤ o) (hoB : ¬ B o) {a n : Int} (h0 : -2147483648 ≤ a ∧ a ≤ 2147483647 ∧ -2147483648 ≤ n ∧ n ≤ 2147483647) (hI : zIn u) (hU : zUn u) : zMH l S (fun q => B q ∨ q = o) yL_ofBoat cL_ofBoat 5 (Option.some Jvm.ClassFile.FieldType.int) [((0 : Nat), (10 : Nat), (13 : Nat), (13 : Nat)), ((0 : Nat), (10 : Nat), (17 : Nat), (15 : Nat))] { frames := 9, locals := 263, cells := 2, slots := 12 } [.ref (ad 0), .int (zi (a)), .int (zi (n)), .ref (o)] (fun H => zHC D tc dz B ad u H ∧ (∃ v : Int64, zOL D tc o v H) ∧ ∀ q : Nat, H.size ≤ q → B q) (fun v H => v = some (.int (zi (mcOfB u a n))) ∧ (0 < mcOfB u a n → zHC D tc dz B ad u H) ∧ (mcOfB u a n = 0 → zHC D tc dz B ad (u) H) ∧ ∃ v : Int64, zOL D tc o v H ∧ (mcOfB u a n = 0 → v = (zi (mvOfB u a n)).toInt64)) := by
  refine zMH.mk (by decide +kernel) (Nat.le_of_ble_eq_true rfl) (fun args s hW => q_594 hZ.1 hW) ?_
  intro p e s m below meth c ls X0 htab hR hl
  obtain ⟨hx, hb, hml, hr, hlocks, hown, hnm, hW, hpre, hA⟩ := X0
  obtain ⟨hHC, ⟨v0, hO⟩, hBf⟩ := hR
  have hZ1 := hZ.with ho
  have X : zH S (fun q => B q ∨ q = o) p s m c cL_ofBoat 5 RL := ⟨hx, hb, hml, hown, hW, hpre, hA, hZ1.2.2.1⟩
  have hT := hZ.1
  have hK := va_K.moved hW.alike hZ.2.1
  have hS : va_S (fun q => B q ∨ q = o) s.heap s.heap [] := va_S.rf
  have hl : lv_has ls 5 [(0, .ref (ad 0)), (1, .int (zi (a))), (2, .int (zi (n))), (3, .ref (o))] := hl
  have hHC0 := hHC
  obtain ⟨aB, aC, aD, nd, dd, Wd, w, hC, hD, hRw⟩ := hHC0
  refine lv_aload_n hx hb dL_ofBoat_0 rfl (lv_at hl 3 rfl) ?_
  refine lv_iconst (v := zi (0)) hx hb dL_ofBoat_1 rfl ?_
  refine lv_aload_n hx hb dL_ofBoat_2 rfl (lv_at hl 0 rfl) ?_
  refine lv_iload_n hx hb dL_ofBoat_3 rfl (lv_at hl 1 rfl) ?_
  refine lv_iload_n hx hb dL_ofBoat_4 rfl (lv_at hl 2 rfl) ?_
  refine z_invVXB (n := 2) (C := RX5) (B := B) (fun q h => Or.inl h) (c_X5_ofBoat l hflags hZ (a := a) (n := n) h0 hI hU) X hS hBf hHC hl.1 (q_598 hT hW) (q_1 hT hW) (q_595 hT hW) (q_596 hT hW) (q_597 hT hW) (z_recv hK hRw hC.mk rfl) (by decide +kernel) rfl ⟨Nat.le_of_ble_eq_true rfl, Nat.le_of_ble_eq_true rfl⟩ ⟨Nat.le_of_ble_eq_true rfl, Nat.le_of_ble_eq_true rfl⟩ (Nat.le_of_ble_eq_true rfl) dL_ofBoat_5 (fun E ce q9 H locs hv hfr hS hq9 hcv hcl => ?_) (fun v H locs hv hfr hS => ?_) rfl
  · skip
    obtain ⟨hc1, hE, hHC⟩ := hv
    have hcr : mcOfB u a n = 1 ∨ mcOfB u a n = 2 := by unfold mcOfB at hc1 ⊢; omega
    obtain ⟨f0, hf0, hO⟩ := hO
    have hO1 := zR.frame hO hfr (fun q h _ => by rw [h]; exact hoB)
    rcases hcr with hcd | hcd
    · skip
      have hE1 : E = "java/lang/IndexOutOfBoundsException" := by rw [hE, hcd]; rfl
      subst hE1
      refine vx_catch hown [] ⟨0, 10, 13, 13⟩ [⟨0, 10, 17, 15⟩] (htab.trans rfl) (fun z hz => nomatch hz) (by decide) (by decide) (q_106 hT hW) (va_Nw.use rfl (q_118 hT hW)) hq9 hcv hcl ?_
      refine lv_astore (lv' := [(4, .ref (q9)), (0, .ref (ad 0)), (1, .int (zi (a))), (2, .int (zi (n))), (3, .ref (o))]) hx hb dL_ofBoat_13 hl (by decide) rfl (fun ls hl => ?_)
      refine lv_iconst (v := zi (1)) hx hb dL_ofBoat_15 rfl ?_
      exact vx_ret (z_iret hx hb hr hlocks hS (by decide) (by decide) dL_ofBoat_16 ⟨by rw [hcd], fun _ => hHC, fun z => absurd z (by rw [hcd]; decide), v0, ⟨f0, hf0, hO1⟩, fun z => absurd z (by rw [hcd]; decide)⟩)
    · skip
      have hE1 : E = "java/lang/IllegalArgumentException" := by rw [hE, hcd]; rfl
      subst hE1
      refine vx_catch hown [⟨0, 10, 13, 13⟩] ⟨0, 10, 17, 15⟩ [] (htab.trans rfl) (fun z hz => by
        simp only [List.mem_cons, List.not_mem_nil, or_false] at hz
        subst hz
        exact Or.inr ⟨(by decide), "java/lang/IndexOutOfBoundsException", (q_106 hT hW), va_Nc.moved hW.alike hNC.1⟩) (by decide) (by decide) (q_107 hT hW) (va_Nw.use rfl (q_193 hT hW)) hq9 hcv hcl ?_
      refine lv_astore (lv' := [(4, .ref (q9)), (0, .ref (ad 0)), (1, .int (zi (a))), (2, .int (zi (n))), (3, .ref (o))]) hx hb dL_ofBoat_17 hl (by decide) rfl (fun ls hl => ?_)
      refine lv_iconst (v := zi (2)) hx hb dL_ofBoat_19 rfl ?_
      exact vx_ret (z_iret hx hb hr hlocks hS (by decide) (by decide) dL_ofBoat_20 ⟨by rw [hcd], fun _ => hHC, fun z => absurd z (by rw [hcd]; decide), v0, ⟨f0, hf0, hO1⟩, fun z => absurd z (by rw [hcd]; decide)⟩)
  · skip
    obtain ⟨hcd, rfl, hHC⟩ := hv
    obtain ⟨f0, hf0, hO⟩ := hO
    have hO1 := zR.frame hO hfr (fun q h _ => by rw [h]; exact hoB)
    obtain ⟨aB1, aC1, aD1, nd1, dd1, Wd1, w1, hC1, hD1, hRw1⟩ := hHC
    have hR : zR D (fun q => B q ∨ q = o) (zj (zoL tc o f0) w1) H := zR.join hO1 hRw1 (fun q h1 h2 => hoB (by rw [← h1]; exact h2)) (fun q h => Or.inr h) (fun q h => Or.inl h)
    refine lv_i2l hx hb dL_ofBoat_8 rfl ?_
    refine z_last (i := 0) (x := (zi ((mvOfB u a n))).toInt64) hx hb hK hR hS 2 (zj_1 zu_eq) rfl (by omega) dL_ofBoat_9 (fun H locs hR hS => ?_)
    have hO2 : zR D (fun q => q = o) (zoL tc o (vp_updL f0 (0 : Int).toNat (zi ((mvOfB u a n))).toInt64)) H := hR.restrict (fun q e hq => by
      by_cases z : q = o
      · subst z
        exact ⟨zu_eq.trans (zu_eq.symm.trans hq), rfl⟩
      · rw [show zoL tc o (vp_updL f0 (0 : Int).toNat (zi ((mvOfB u a n))).toInt64) q = none from zu_ne z] at hq
        cases hq)
    have hRw2 : zR D B w1 H := hR.restrict (fun q e hq => by
      have hBq := hRw1.inA hq
      have hne : q ≠ o := fun z => hoB (by rw [← z]; exact hBq)
      exact ⟨(zu_ne hne).trans (zj_2 hq (zu_ne hne)), hBq⟩)
    refine lv_goto (tgt := 21) hx hb dL_ofBoat_10 (by decide) ?_
    refine lv_iconst (v := zi (0)) hx hb dL_ofBoat_21 rfl ?_
    exact vx_ret (z_iret hx hb hr hlocks hS (by decide) (by decide) dL_ofBoat_22 ⟨by rw [hcd], fun z => absurd z (by rw [hcd]; decide), fun _ => ⟨aB1, aC1, aD1, nd1, dd1, Wd1, w1, hC1, hD1, hRw2⟩, _, ⟨_, rfl, hO2⟩, fun _ => rfl⟩)
set_option maxHeartbeats 4000000 in
set_option maxRecDepth 100000 in
theorem c_L_ofCall (l : Launch) (hflags : l.stackTraces = false) {S : State} {D : va_G} {tc : Nat → ClassId} {B : Nat → Prop} {dz : Nat} (hZ : zB S D tc B dz) (hNC : zNC S) {ad : Nat → Nat} {u : zS_} {o : Nat} (ho : S.heap.size ≤ o) (hoB : ¬ B o) {a n : Int} (h0 : -2147483648 ≤ a ∧ a ≤ 2147483647 ∧ -2147483648 ≤ n ∧ n ≤ 2147483647) (hI : zIn u) (hU : zUn u) : zMH l S (fun q => B q ∨ q = o) yL_ofCall cL_ofCall 5 (Option.some Jvm.ClassFile.FieldType.int) [((0 : Nat), (10 : Nat), (13 : Nat), (13 : Nat)), ((0 : Nat), (10 : Nat), (17 : Nat), (15 : Nat))] { frames := 9, locals := 263, cells := 2, slots := 12 } [.ref (ad 0), .int (zi (a)), .int (zi (n)), .ref (o)] (fun H => zHC D tc dz B ad u H ∧ (∃ v : Int64, zOL D tc o v H) ∧ ∀ q : Nat, H.size ≤ q → B q) (fun v H => v = some (.int (zi (mcOfC u a n))) ∧ (0 < mcOfC u a n → zHC D tc dz B ad u H) ∧ (mcOfC u a n = 0 → zHC D tc dz B ad (u) H) ∧ ∃ v : Int64, zOL D tc o v H ∧ (mcOfC u a n = 0 → v = (zi (mvOfC u a n)).toInt64)) := by
  refine zMH.mk (by decide +kernel) (Nat.le_of_ble_eq_true rfl) (fun args s hW => q_601 hZ.1 hW) ?_
  intro p e s m below meth c ls X0 htab hR hl
  obtain ⟨hx, hb, hml, hr, hlocks, hown, hnm, hW, hpre, hA⟩ := X0
  obtain ⟨hHC, ⟨v0, hO⟩, hBf⟩ := hR
  have hZ1 := hZ.with ho
  have X : zH S (fun q => B q ∨ q = o) p s m c cL_ofCall 5 RL := ⟨hx, hb, hml, hown, hW, hpre, hA, hZ1.2.2.1⟩
  have hT := hZ.1
  have hK := va_K.moved hW.alike hZ.2.1
  have hS : va_S (fun q => B q ∨ q = o) s.heap s.heap [] := va_S.rf
  have hl : lv_has ls 5 [(0, .ref (ad 0)), (1, .int (zi (a))), (2, .int (zi (n))), (3, .ref (o))] := hl
  have hHC0 := hHC
  obtain ⟨aB, aC, aD, nd, dd, Wd, w, hC, hD, hRw⟩ := hHC0
  refine lv_aload_n hx hb dL_ofCall_0 rfl (lv_at hl 3 rfl) ?_
  refine lv_iconst (v := zi (0)) hx hb dL_ofCall_1 rfl ?_
  refine lv_aload_n hx hb dL_ofCall_2 rfl (lv_at hl 0 rfl) ?_
  refine lv_iload_n hx hb dL_ofCall_3 rfl (lv_at hl 1 rfl) ?_
  refine lv_iload_n hx hb dL_ofCall_4 rfl (lv_at hl 2 rfl) ?_
  refine z_invVXB (n := 2) (C := RX5) (B := B) (fun q h => Or.inl h) (c_X5_ofCall l hflags hZ (a := a) (n := n) h0 hI hU) X hS hBf hHC hl.1 (q_605 hT hW) (q_1 hT hW) (q_602 hT hW) (q_603 hT hW) (q_604 hT hW) (z_recv hK hRw hC.mk rfl) (by decide +kernel) rfl ⟨Nat.le_of_ble_eq_true rfl, Nat.le_of_ble_eq_true rfl⟩ ⟨Nat.le_of_ble_eq_true rfl, Nat.le_of_ble_eq_true rfl⟩ (Nat.le_of_ble_eq_true rfl) dL_ofCall_5 (fun E ce q9 H locs hv hfr hS hq9 hcv hcl => ?_) (fun v H locs hv hfr hS => ?_) rfl
  · skip
    obtain ⟨hc1, hE, hHC⟩ := hv
    have hcr : mcOfC u a n = 1 ∨ mcOfC u a n = 2 := by unfold mcOfC at hc1 ⊢; omega
    obtain ⟨f0, hf0, hO⟩ := hO
    have hO1 := zR.frame hO hfr (fun q h _ => by rw [h]; exact hoB)
    rcases hcr with hcd | hcd
    · skip
      have hE1 : E = "java/lang/IndexOutOfBoundsException" := by rw [hE, hcd]; rfl
      subst hE1
      refine vx_catch hown [] ⟨0, 10, 13, 13⟩ [⟨0, 10, 17, 15⟩] (htab.trans rfl) (fun z hz => nomatch hz) (by decide) (by decide) (q_106 hT hW) (va_Nw.use rfl (q_118 hT hW)) hq9 hcv hcl ?_
      refine lv_astore (lv' := [(4, .ref (q9)), (0, .ref (ad 0)), (1, .int (zi (a))), (2, .int (zi (n))), (3, .ref (o))]) hx hb dL_ofCall_13 hl (by decide) rfl (fun ls hl => ?_)
      refine lv_iconst (v := zi (1)) hx hb dL_ofCall_15 rfl ?_
      exact vx_ret (z_iret hx hb hr hlocks hS (by decide) (by decide) dL_ofCall_16 ⟨by rw [hcd], fun _ => hHC, fun z => absurd z (by rw [hcd]; decide), v0, ⟨f0, hf0, hO1⟩, fun z => absurd z (by rw [hcd]; decide)⟩)
    · skip
      have hE1 : E = "java/lang/IllegalArgumentException" := by rw [hE, hcd]; rfl
      subst hE1
      refine vx_catch hown [⟨0, 10, 13, 13⟩] ⟨0, 10, 17, 15⟩ [] (htab.trans rfl) (fun z hz => by
        simp only [List.mem_cons, List.not_mem_nil, or_false] at hz
        subst hz
        exact Or.inr ⟨(by decide), "java/lang/IndexOutOfBoundsException", (q_106 hT hW), va_Nc.moved hW.alike hNC.1⟩) (by decide) (by decide) (q_107 hT hW) (va_Nw.use rfl (q_193 hT hW)) hq9 hcv hcl ?_
      refine lv_astore (lv' := [(4, .ref (q9)), (0, .ref (ad 0)), (1, .int (zi (a))), (2, .int (zi (n))), (3, .ref (o))]) hx hb dL_ofCall_17 hl (by decide) rfl (fun ls hl => ?_)
      refine lv_iconst (v := zi (2)) hx hb dL_ofCall_19 rfl ?_
      exact vx_ret (z_iret hx hb hr hlocks hS (by decide) (by decide) dL_ofCall_20 ⟨by rw [hcd], fun _ => hHC, fun z => absurd z (by rw [hcd]; decide), v0, ⟨f0, hf0, hO1⟩, fun z => absurd z (by rw [hcd]; decide)⟩)
  · skip
    obtain ⟨hcd, rfl, hHC⟩ := hv
    obtain ⟨f0, hf0, hO⟩ := hO
    have hO1 := zR.frame hO hfr (fun q h _ => by rw [h]; exact hoB)
    obtain ⟨aB1, aC1, aD1, nd1, dd1, Wd1, w1, hC1, hD1, hRw1⟩ := hHC
    have hR : zR D (fun q => B q ∨ q = o) (zj (zoL tc o f0) w1) H := zR.join hO1 hRw1 (fun q h1 h2 => hoB (by rw [← h1]; exact h2)) (fun q h => Or.inr h) (fun q h => Or.inl h)
    refine lv_i2l hx hb dL_ofCall_8 rfl ?_
    refine z_last (i := 0) (x := (zi ((mvOfC u a n))).toInt64) hx hb hK hR hS 2 (zj_1 zu_eq) rfl (by omega) dL_ofCall_9 (fun H locs hR hS => ?_)
    have hO2 : zR D (fun q => q = o) (zoL tc o (vp_updL f0 (0 : Int).toNat (zi ((mvOfC u a n))).toInt64)) H := hR.restrict (fun q e hq => by
      by_cases z : q = o
      · subst z
        exact ⟨zu_eq.trans (zu_eq.symm.trans hq), rfl⟩
      · rw [show zoL tc o (vp_updL f0 (0 : Int).toNat (zi ((mvOfC u a n))).toInt64) q = none from zu_ne z] at hq
        cases hq)
    have hRw2 : zR D B w1 H := hR.restrict (fun q e hq => by
      have hBq := hRw1.inA hq
      have hne : q ≠ o := fun z => hoB (by rw [← z]; exact hBq)
      exact ⟨(zu_ne hne).trans (zj_2 hq (zu_ne hne)), hBq⟩)
    refine lv_goto (tgt := 21) hx hb dL_ofCall_10 (by decide) ?_
    refine lv_iconst (v := zi (0)) hx hb dL_ofCall_21 rfl ?_
    exact vx_ret (z_iret hx hb hr hlocks hS (by decide) (by decide) dL_ofCall_22 ⟨by rw [hcd], fun z => absurd z (by rw [hcd]; decide), fun _ => ⟨aB1, aC1, aD1, nd1, dd1, Wd1, w1, hC1, hD1, hRw2⟩, _, ⟨_, rfl, hO2⟩, fun _ => rfl⟩)
set_option maxHeartbeats 4000000 in
set_option maxRecDepth 100000 in
theorem c_L_rewards (l : Launch) (hflags : l.stackTraces = false) {S : State} {D : va_G} {tc : Nat → ClassId} {B : Nat → Prop} {dz : Nat} (hZ : zB S D tc B dz) (hNC : zNC S) {ad : Nat → Nat} {u : zS_} {o : Nat} (ho : S.heap.size ≤ o) (hoB : ¬ B o) {a : Int} (h0 : -2147483648 ≤ a ∧ a ≤ 2147483647) (hI : zIn u) (hU : zUn u) : zMH l S (fun q => B q ∨ q = o) yL_rewards cL_rewards 4 (Option.some Jvm.ClassFile.FieldType.int) [((0 : Nat), (9 : Nat), (12 : Nat), (13 : Nat))] { frames := 9, locals := 261, cells := 1, slots := 6 } [.ref (ad 0), .int (zi (a)), .ref (o)] (fun H => zHC D tc dz B ad u H ∧ (∃ v : Int64, zOL D tc o v H) ∧ ∀ q : Nat, H.size ≤ q → B q) (fun v H => v = some (.int (zi (mcClub a))) ∧ (0 < mcClub a → zHC D tc dz B ad u H) ∧ (mcClub a = 0 → zHC D tc dz B ad (u) H) ∧ ∃ v : Int64, zOL D tc o v H ∧ (mcClub a = 0 → v = (zi (u 22 a.toNat)).toInt64)) := by
  refine zMH.mk (by decide +kernel) (Nat.le_of_ble_eq_true rfl) (fun args s hW => q_613 hZ.1 hW) ?_
  intro p e s m below meth c ls X0 htab hR hl
  obtain ⟨hx, hb, hml, hr, hlocks, hown, hnm, hW, hpre, hA⟩ := X0
  obtain ⟨hHC, ⟨v0, hO⟩, hBf⟩ := hR
  have hZ1 := hZ.with ho
  have X : zH S (fun q => B q ∨ q = o) p s m c cL_rewards 4 RL := ⟨hx, hb, hml, hown, hW, hpre, hA, hZ1.2.2.1⟩
  have hT := hZ.1
  have hK := va_K.moved hW.alike hZ.2.1
  have hS : va_S (fun q => B q ∨ q = o) s.heap s.heap [] := va_S.rf
  have hl : lv_has ls 4 [(0, .ref (ad 0)), (1, .int (zi (a))), (2, .ref (o))] := hl
  have hHC0 := hHC
  obtain ⟨aB, aC, aD, nd, dd, Wd, w, hC, hD, hRw⟩ := hHC0
  refine lv_aload_n hx hb dL_rewards_0 rfl (lv_at hl 2 rfl) ?_
  refine lv_iconst (v := zi (0)) hx hb dL_rewards_1 rfl ?_
  refine lv_aload_n hx hb dL_rewards_2 rfl (lv_at hl 0 rfl) ?_
  refine lv_iload_n hx hb dL_rewards_3 rfl (lv_at hl 1 rfl) ?_
  refine z_invVXB (n := 1) (C := RX5) (B := B) (fun q h => Or.inl h) (c_X5_rewards l hflags hZ (a := a) h0 hI hU) X hS hBf hHC hl.1 (q_617 hT hW) (q_1 hT hW) (q_614 hT hW) (q_615 hT hW) (q_616 hT hW) (z_recv hK hRw hC.mk rfl) (by decide +kernel) rfl ⟨Nat.le_of_ble_eq_true rfl, Nat.le_of_ble_eq_true rfl⟩ ⟨Nat.le_of_ble_eq_true rfl, Nat.le_of_ble_eq_true rfl⟩ (Nat.le_of_ble_eq_true rfl) dL_rewards_4 (fun E ce q9 H locs hv hfr hS hq9 hcv hcl => ?_) (fun v H locs hv hfr hS => ?_) rfl
  · skip
    obtain ⟨hc1, hE, hHC⟩ := hv
    have hcr : mcClub a = 1 := by unfold mcClub at hc1 ⊢; omega
    obtain ⟨f0, hf0, hO⟩ := hO
    have hO1 := zR.frame hO hfr (fun q h _ => by rw [h]; exact hoB)
    have hcd := hcr
    have hE1 : E = "java/lang/IndexOutOfBoundsException" := by rw [hE, hcd]; rfl
    subst hE1
    refine vx_catch hown [] ⟨0, 9, 12, 13⟩ [] (htab.trans rfl) (fun z hz => nomatch hz) (by decide) (by decide) (q_106 hT hW) (va_Nw.use rfl (q_118 hT hW)) hq9 hcv hcl ?_
    refine lv_astore_n (lv' := [(3, .ref (q9)), (0, .ref (ad 0)), (1, .int (zi (a))), (2, .ref (o))]) hx hb dL_rewards_12 rfl hl (by decide) rfl (fun ls hl => ?_)
    refine lv_iconst (v := zi (1)) hx hb dL_rewards_13 rfl ?_
    exact vx_ret (z_iret hx hb hr hlocks hS (by decide) (by decide) dL_rewards_14 ⟨by rw [hcd], fun _ => hHC, fun z => absurd z (by rw [hcd]; decide), v0, ⟨f0, hf0, hO1⟩, fun z => absurd z (by rw [hcd]; decide)⟩)
  · skip
    obtain ⟨hcd, rfl, hHC⟩ := hv
    obtain ⟨f0, hf0, hO⟩ := hO
    have hO1 := zR.frame hO hfr (fun q h _ => by rw [h]; exact hoB)
    obtain ⟨aB1, aC1, aD1, nd1, dd1, Wd1, w1, hC1, hD1, hRw1⟩ := hHC
    have hR : zR D (fun q => B q ∨ q = o) (zj (zoL tc o f0) w1) H := zR.join hO1 hRw1 (fun q h1 h2 => hoB (by rw [← h1]; exact h2)) (fun q h => Or.inr h) (fun q h => Or.inl h)
    refine lv_i2l hx hb dL_rewards_7 rfl ?_
    refine z_last (i := 0) (x := (zi ((u 22 a.toNat))).toInt64) hx hb hK hR hS 2 (zj_1 zu_eq) rfl (by omega) dL_rewards_8 (fun H locs hR hS => ?_)
    have hO2 : zR D (fun q => q = o) (zoL tc o (vp_updL f0 (0 : Int).toNat (zi ((u 22 a.toNat))).toInt64)) H := hR.restrict (fun q e hq => by
      by_cases z : q = o
      · subst z
        exact ⟨zu_eq.trans (zu_eq.symm.trans hq), rfl⟩
      · rw [show zoL tc o (vp_updL f0 (0 : Int).toNat (zi ((u 22 a.toNat))).toInt64) q = none from zu_ne z] at hq
        cases hq)
    have hRw2 : zR D B w1 H := hR.restrict (fun q e hq => by
      have hBq := hRw1.inA hq
      have hne : q ≠ o := fun z => hoB (by rw [← z]; exact hBq)
      exact ⟨(zu_ne hne).trans (zj_2 hq (zu_ne hne)), hBq⟩)
    refine lv_goto (tgt := 15) hx hb dL_rewards_9 (by decide) ?_
    refine lv_iconst (v := zi (0)) hx hb dL_rewards_15 rfl ?_
    exact vx_ret (z_iret hx hb hr hlocks hS (by decide) (by decide) dL_rewards_16 ⟨by rw [hcd], fun z => absurd z (by rw [hcd]; decide), fun _ => ⟨aB1, aC1, aD1, nd1, dd1, Wd1, w1, hC1, hD1, hRw2⟩, _, ⟨_, rfl, hO2⟩, fun _ => rfl⟩)
set_option maxHeartbeats 4000000 in
set_option maxRecDepth 100000 in
theorem c_L_rewardsAnew (l : Launch) (hflags : l.stackTraces = false) {S : State} {D : va_G} {tc : Nat → ClassId} {B : Nat → Prop} {dz : Nat} (hZ : zB S D tc B dz) (hNC : zNC S) {ad : Nat → Nat} {u : zS_} {o : Nat} (ho : S.heap.size ≤ o) (hoB : ¬ B o) {a : Int} (h0 : -2147483648 ≤ a ∧ a ≤ 2147483647) (hI : zIn u) (hU : zUn u) : zMH l S (fun q => B q ∨ q = o) yL_rewardsAnew cL_rewardsAnew 4 (Option.some Jvm.ClassFile.FieldType.int) [((0 : Nat), (9 : Nat), (12 : Nat), (13 : Nat))] { frames := 9, locals := 261, cells := 1, slots := 6 } [.ref (ad 0), .int (zi (a)), .ref (o)] (fun H => zHC D tc dz B ad u H ∧ (∃ v : Int64, zOL D tc o v H) ∧ ∀ q : Nat, H.size ≤ q → B q) (fun v H => v = some (.int (zi (mcClub a))) ∧ (0 < mcClub a → zHC D tc dz B ad u H) ∧ (mcClub a = 0 → zHC D tc dz B ad (u) H) ∧ ∃ v : Int64, zOL D tc o v H ∧ (mcClub a = 0 → v = (zi (u 22 a.toNat)).toInt64)) := by
  refine zMH.mk (by decide +kernel) (Nat.le_of_ble_eq_true rfl) (fun args s hW => q_624 hZ.1 hW) ?_
  intro p e s m below meth c ls X0 htab hR hl
  obtain ⟨hx, hb, hml, hr, hlocks, hown, hnm, hW, hpre, hA⟩ := X0
  obtain ⟨hHC, ⟨v0, hO⟩, hBf⟩ := hR
  have hZ1 := hZ.with ho
  have X : zH S (fun q => B q ∨ q = o) p s m c cL_rewardsAnew 4 RL := ⟨hx, hb, hml, hown, hW, hpre, hA, hZ1.2.2.1⟩
  have hT := hZ.1
  have hK := va_K.moved hW.alike hZ.2.1
  have hS : va_S (fun q => B q ∨ q = o) s.heap s.heap [] := va_S.rf
  have hl : lv_has ls 4 [(0, .ref (ad 0)), (1, .int (zi (a))), (2, .ref (o))] := hl
  have hHC0 := hHC
  obtain ⟨aB, aC, aD, nd, dd, Wd, w, hC, hD, hRw⟩ := hHC0
  refine lv_aload_n hx hb dL_rewardsAnew_0 rfl (lv_at hl 2 rfl) ?_
  refine lv_iconst (v := zi (0)) hx hb dL_rewardsAnew_1 rfl ?_
  refine lv_aload_n hx hb dL_rewardsAnew_2 rfl (lv_at hl 0 rfl) ?_
  refine lv_iload_n hx hb dL_rewardsAnew_3 rfl (lv_at hl 1 rfl) ?_
  refine z_invVXB (n := 1) (C := RX5) (B := B) (fun q h => Or.inl h) (c_X5_rewardsAnew l hflags hZ (a := a) h0 hI hU) X hS hBf hHC hl.1 (q_628 hT hW) (q_1 hT hW) (q_625 hT hW) (q_626 hT hW) (q_627 hT hW) (z_recv hK hRw hC.mk rfl) (by decide +kernel) rfl ⟨Nat.le_of_ble_eq_true rfl, Nat.le_of_ble_eq_true rfl⟩ ⟨Nat.le_of_ble_eq_true rfl, Nat.le_of_ble_eq_true rfl⟩ (Nat.le_of_ble_eq_true rfl) dL_rewardsAnew_4 (fun E ce q9 H locs hv hfr hS hq9 hcv hcl => ?_) (fun v H locs hv hfr hS => ?_) rfl
  · skip
    obtain ⟨hc1, hE, hHC⟩ := hv
    have hcr : mcClub a = 1 := by unfold mcClub at hc1 ⊢; omega
    obtain ⟨f0, hf0, hO⟩ := hO
    have hO1 := zR.frame hO hfr (fun q h _ => by rw [h]; exact hoB)
    have hcd := hcr
    have hE1 : E = "java/lang/IndexOutOfBoundsException" := by rw [hE, hcd]; rfl
    subst hE1
    refine vx_catch hown [] ⟨0, 9, 12, 13⟩ [] (htab.trans rfl) (fun z hz => nomatch hz) (by decide) (by decide) (q_106 hT hW) (va_Nw.use rfl (q_118 hT hW)) hq9 hcv hcl ?_
    refine lv_astore_n (lv' := [(3, .ref (q9)), (0, .ref (ad 0)), (1, .int (zi (a))), (2, .ref (o))]) hx hb dL_rewardsAnew_12 rfl hl (by decide) rfl (fun ls hl => ?_)
    refine lv_iconst (v := zi (1)) hx hb dL_rewardsAnew_13 rfl ?_
    exact vx_ret (z_iret hx hb hr hlocks hS (by decide) (by decide) dL_rewardsAnew_14 ⟨by rw [hcd], fun _ => hHC, fun z => absurd z (by rw [hcd]; decide), v0, ⟨f0, hf0, hO1⟩, fun z => absurd z (by rw [hcd]; decide)⟩)
  · skip
    obtain ⟨hcd, rfl, hHC⟩ := hv
    obtain ⟨f0, hf0, hO⟩ := hO
    have hO1 := zR.frame hO hfr (fun q h _ => by rw [h]; exact hoB)
    obtain ⟨aB1, aC1, aD1, nd1, dd1, Wd1, w1, hC1, hD1, hRw1⟩ := hHC
    have hR : zR D (fun q => B q ∨ q = o) (zj (zoL tc o f0) w1) H := zR.join hO1 hRw1 (fun q h1 h2 => hoB (by rw [← h1]; exact h2)) (fun q h => Or.inr h) (fun q h => Or.inl h)
    refine lv_i2l hx hb dL_rewardsAnew_7 rfl ?_
    refine z_last (i := 0) (x := (zi ((u 22 a.toNat))).toInt64) hx hb hK hR hS 2 (zj_1 zu_eq) rfl (by omega) dL_rewardsAnew_8 (fun H locs hR hS => ?_)
    have hO2 : zR D (fun q => q = o) (zoL tc o (vp_updL f0 (0 : Int).toNat (zi ((u 22 a.toNat))).toInt64)) H := hR.restrict (fun q e hq => by
      by_cases z : q = o
      · subst z
        exact ⟨zu_eq.trans (zu_eq.symm.trans hq), rfl⟩
      · rw [show zoL tc o (vp_updL f0 (0 : Int).toNat (zi ((u 22 a.toNat))).toInt64) q = none from zu_ne z] at hq
        cases hq)
    have hRw2 : zR D B w1 H := hR.restrict (fun q e hq => by
      have hBq := hRw1.inA hq
      have hne : q ≠ o := fun z => hoB (by rw [← z]; exact hBq)
      exact ⟨(zu_ne hne).trans (zj_2 hq (zu_ne hne)), hBq⟩)
    refine lv_goto (tgt := 15) hx hb dL_rewardsAnew_9 (by decide) ?_
    refine lv_iconst (v := zi (0)) hx hb dL_rewardsAnew_15 rfl ?_
    exact vx_ret (z_iret hx hb hr hlocks hS (by decide) (by decide) dL_rewardsAnew_16 ⟨by rw [hcd], fun z => absurd z (by rw [hcd]; decide), fun _ => ⟨aB1, aC1, aD1, nd1, dd1, Wd1, w1, hC1, hD1, hRw2⟩, _, ⟨_, rfl, hO2⟩, fun _ => rfl⟩)
set_option maxHeartbeats 4000000 in
set_option maxRecDepth 100000 in
theorem c_L_premium (l : Launch) (hflags : l.stackTraces = false) {S : State} {D : va_G} {tc : Nat → ClassId} {B : Nat → Prop} {dz : Nat} (hZ : zB S D tc B dz) (hNC : zNC S) {ad : Nat → Nat} {u : zS_} {o : Nat} (ho : S.heap.size ≤ o) (hoB : ¬ B o) {a : Int} (h0 : -2147483648 ≤ a ∧ a ≤ 2147483647) (hI : zIn u) (hU : zUn u) : zMH l S (fun q => B q ∨ q = o) yL_premium cL_premium 4 (Option.some Jvm.ClassFile.FieldType.int) [((0 : Nat), (9 : Nat), (12 : Nat), (13 : Nat))] { frames := 9, locals := 262, cells := 1, slots := 6 } [.ref (ad 0), .int (zi (a)), .ref (o)] (fun H => zHC D tc dz B ad u H ∧ (∃ v : UInt64, zOD D tc o v H) ∧ ∀ q : Nat, H.size ≤ q → B q) (fun v H => v = some (.int (zi (mcCell a))) ∧ (0 < mcCell a → zHC D tc dz B ad u H) ∧ (mcCell a = 0 → zHC D tc dz B ad (u) H) ∧ ∃ v : UInt64, zOD D tc o v H ∧ (mcCell a = 0 → v = FP.f2d (mfl (mmost u a) (mmany u a (u 21 0).toNat)))) := by
  refine zMH.mk (by decide +kernel) (Nat.le_of_ble_eq_true rfl) (fun args s hW => q_640 hZ.1 hW) ?_
  intro p e s m below meth c ls X0 htab hR hl
  obtain ⟨hx, hb, hml, hr, hlocks, hown, hnm, hW, hpre, hA⟩ := X0
  obtain ⟨hHC, ⟨v0, hO⟩, hBf⟩ := hR
  have hZ1 := hZ.with ho
  have X : zH S (fun q => B q ∨ q = o) p s m c cL_premium 4 RL := ⟨hx, hb, hml, hown, hW, hpre, hA, hZ1.2.2.1⟩
  have hT := hZ.1
  have hK := va_K.moved hW.alike hZ.2.1
  have hS : va_S (fun q => B q ∨ q = o) s.heap s.heap [] := va_S.rf
  have hl : lv_has ls 4 [(0, .ref (ad 0)), (1, .int (zi (a))), (2, .ref (o))] := hl
  have hHC0 := hHC
  obtain ⟨aB, aC, aD, nd, dd, Wd, w, hC, hD, hRw⟩ := hHC0
  refine lv_aload_n hx hb dL_premium_0 rfl (lv_at hl 2 rfl) ?_
  refine lv_iconst (v := zi (0)) hx hb dL_premium_1 rfl ?_
  refine lv_aload_n hx hb dL_premium_2 rfl (lv_at hl 0 rfl) ?_
  refine lv_iload_n hx hb dL_premium_3 rfl (lv_at hl 1 rfl) ?_
  refine z_invVXB (n := 1) (C := RX5) (B := B) (fun q h => Or.inl h) (c_X5_premium l hflags hZ (a := a) h0 hI hU) X hS hBf hHC hl.1 (q_644 hT hW) (q_1 hT hW) (q_641 hT hW) (q_642 hT hW) (q_643 hT hW) (z_recv hK hRw hC.mk rfl) (by decide +kernel) rfl ⟨Nat.le_of_ble_eq_true rfl, Nat.le_of_ble_eq_true rfl⟩ ⟨Nat.le_of_ble_eq_true rfl, Nat.le_of_ble_eq_true rfl⟩ (Nat.le_of_ble_eq_true rfl) dL_premium_4 (fun E ce q9 H locs hv hfr hS hq9 hcv hcl => ?_) (fun v H locs hv hfr hS => ?_) rfl
  · skip
    obtain ⟨hc1, hE, hHC⟩ := hv
    have hcr : mcCell a = 1 := by unfold mcCell at hc1 ⊢; omega
    obtain ⟨f0, hf0, hO⟩ := hO
    have hO1 := zR.frame hO hfr (fun q h _ => by rw [h]; exact hoB)
    have hcd := hcr
    have hE1 : E = "java/lang/IndexOutOfBoundsException" := by rw [hE, hcd]; rfl
    subst hE1
    refine vx_catch hown [] ⟨0, 9, 12, 13⟩ [] (htab.trans rfl) (fun z hz => nomatch hz) (by decide) (by decide) (q_106 hT hW) (va_Nw.use rfl (q_118 hT hW)) hq9 hcv hcl ?_
    refine lv_astore_n (lv' := [(3, .ref (q9)), (0, .ref (ad 0)), (1, .int (zi (a))), (2, .ref (o))]) hx hb dL_premium_12 rfl hl (by decide) rfl (fun ls hl => ?_)
    refine lv_iconst (v := zi (1)) hx hb dL_premium_13 rfl ?_
    exact vx_ret (z_iret hx hb hr hlocks hS (by decide) (by decide) dL_premium_14 ⟨by rw [hcd], fun _ => hHC, fun z => absurd z (by rw [hcd]; decide), v0, ⟨f0, hf0, hO1⟩, fun z => absurd z (by rw [hcd]; decide)⟩)
  · skip
    obtain ⟨hcd, rfl, hHC⟩ := hv
    obtain ⟨f0, hf0, hO⟩ := hO
    have hO1 := zR.frame hO hfr (fun q h _ => by rw [h]; exact hoB)
    obtain ⟨aB1, aC1, aD1, nd1, dd1, Wd1, w1, hC1, hD1, hRw1⟩ := hHC
    have hR : zR D (fun q => B q ∨ q = o) (zj (zoD tc o f0) w1) H := zR.join hO1 hRw1 (fun q h1 h2 => hoB (by rw [← h1]; exact h2)) (fun q h => Or.inr h) (fun q h => Or.inl h)
    have hm0 : 0 ≤ (mmost u a) := zmax_ge _
    have hm9 : (mmost u a) ≤ 9 := zmax_le (by decide) _ (fun i hi => (hI.2.1 _).2)
    have hI1 := hI.1
    have hma := mmany_r (u := u) (a := a) (u 21 0).toNat
    have hfl := mfl_n (mmost u a).toNat (by omega) (mmany u a (u 21 0).toNat).toNat (by omega)
    rw [show (((mmost u a).toNat : Nat) : Int) = (mmost u a) by omega, show (((mmany u a (u 21 0).toNat).toNat : Nat) : Int) = (mmany u a (u 21 0).toNat) by omega] at hfl
    refine lv_f2d hx hb dL_premium_7 hfl.2.2.2 ?_
    refine z_dast (i := 0) (x := (FP.f2d (mfl (mmost u a) (mmany u a (u 21 0).toNat)))) hx hb hK hR hS 3 (zj_1 zu_eq) rfl (by omega) dL_premium_8 (fun H locs hR hS => ?_)
    have hO2 : zR D (fun q => q = o) (zoD tc o (vf_upd f0 (0 : Int).toNat (FP.f2d (mfl (mmost u a) (mmany u a (u 21 0).toNat))))) H := hR.restrict (fun q e hq => by
      by_cases z : q = o
      · subst z
        exact ⟨zu_eq.trans (zu_eq.symm.trans hq), rfl⟩
      · rw [show zoD tc o (vf_upd f0 (0 : Int).toNat (FP.f2d (mfl (mmost u a) (mmany u a (u 21 0).toNat)))) q = none from zu_ne z] at hq
        cases hq)
    have hRw2 : zR D B w1 H := hR.restrict (fun q e hq => by
      have hBq := hRw1.inA hq
      have hne : q ≠ o := fun z => hoB (by rw [← z]; exact hBq)
      exact ⟨(zu_ne hne).trans (zj_2 hq (zu_ne hne)), hBq⟩)
    refine lv_goto (tgt := 15) hx hb dL_premium_9 (by decide) ?_
    refine lv_iconst (v := zi (0)) hx hb dL_premium_15 rfl ?_
    exact vx_ret (z_iret hx hb hr hlocks hS (by decide) (by decide) dL_premium_16 ⟨by rw [hcd], fun z => absurd z (by rw [hcd]; decide), fun _ => ⟨aB1, aC1, aD1, nd1, dd1, Wd1, w1, hC1, hD1, hRw2⟩, _, ⟨_, rfl, hO2⟩, fun _ => rfl⟩)
