/-! the law's does, call by call: its answer, or the number of what it caught -/
set_option maxHeartbeats 4000000 in
set_option maxRecDepth 100000 in
theorem c_L_does0 (l : Launch) {S : State} {D : va_G} {tc : Nat → ClassId} {A : Nat → Prop} {dz : Nat} (hZ : zB S D tc A dz) {ad : Nat → Nat} {u : zS_} {a b cx d : Int} (hflags : l.stackTraces = false) (hNC : zNC S) (hO : zOk u) (h0 : -2147483648 ≤ a ∧ a ≤ 2147483647 ∧ -2147483648 ≤ b ∧ b ≤ 2147483647 ∧ -2147483648 ≤ cx ∧ cx ≤ 2147483647 ∧ -2147483648 ≤ d ∧ d ≤ 2147483647) (h1 : -2147483648 ≤ a + cx ∧ a + cx ≤ 2147483647) : zMH l S A yL_does cL_does 7 (Option.some Jvm.ClassFile.FieldType.int) [((0 : Nat), (91 : Nat), (92 : Nat), (33 : Nat)), ((0 : Nat), (91 : Nat), (97 : Nat), (35 : Nat)), ((0 : Nat), (91 : Nat), (102 : Nat), (37 : Nat))] { frames := 10, locals := 366, cells := 7, slots := 76 } [.ref (ad 0), .int (zi (0)), .int (zi (a)), .int (zi (b)), .int (zi (cx)), .int (zi (d))] (zHC D tc dz A ad u) (fun v H => (mcBoat u a b cx d (a + cx) = 0 → v = some (.int (zi (u 13 0))) ∧ zHC D tc dz A ad (muBoat u a b cx d (a + cx)) H) ∧ (0 < mcBoat u a b cx d (a + cx) → v = some (.int (zi (-1 - mcBoat u a b cx d (a + cx)))) ∧ zHC D tc dz A ad u H)) := by
  refine zMH.mk (by decide +kernel) (Nat.le_of_ble_eq_true rfl) (fun args s hW => q_112 hZ.1 hW) ?_
  intro p e s m below meth c ls X0 htab hR hl
  obtain ⟨hx, hb, hml, hr, hlocks, hown, hnm, hW, hpre, hA⟩ := X0
  have X : zH S A p s m c cL_does 7 RL := ⟨hx, hb, hml, hown, hW, hpre, hA, hZ.2.2.1⟩
  have hT := hZ.1
  have hK := va_K.moved hW.alike hZ.2.1
  have hS : va_S A s.heap s.heap [] := va_S.rf
  have hl : lv_has ls 7 [(0, .ref (ad 0)), (1, .int (zi (0))), (2, .int (zi (a))), (3, .int (zi (b))), (4, .int (zi (cx))), (5, .int (zi (d)))] := hl
  have hHC := hR
  obtain ⟨aB, aC, aD, nd, dd, Wd, w, hC, hD, hRw⟩ := hR
  refine lv_iload_n hx hb dL_does_0 rfl (lv_at hl 1 rfl) ?_
  refine z_if_ne (a := 0) (tgt := 21) hx hb dL_does_1 (by decide) (by omega) (fun h_1 => False.elim (by omega)) (fun _ => ?_)
  refine lv_aload_n hx hb dL_does_4 rfl (lv_at hl 0 rfl) ?_
  refine lv_iload_n hx hb dL_does_5 rfl (lv_at hl 2 rfl) ?_
  refine lv_iload_n hx hb dL_does_6 rfl (lv_at hl 3 rfl) ?_
  refine lv_iload hx hb dL_does_7 (lv_at hl 4 rfl) ?_
  refine lv_iload hx hb dL_does_9 (lv_at hl 5 rfl) ?_
  refine lv_iload_n hx hb dL_does_11 rfl (lv_at hl 2 rfl) ?_
  refine lv_iload hx hb dL_does_12 (lv_at hl 4 rfl) ?_
  refine z_iadd (a := a) (b := cx) hx hb dL_does_14 ?_
  refine z_invVXB (n := 5) (C := RX5) (B := A) (fun q h => h) (c_X5_boat l hflags hZ (a := a) (b_ := b) (k := cx) (d := d) (f := (a + cx)) (by omega) hO.1 hO.2.1) X hS (fun q h => hA q (Nat.le_trans hS.1 h)) hHC hl.1 (q_119 hT hW) (q_1 hT hW) (q_116 hT hW) (q_117 hT hW) (q_118 hT hW) (z_recv hK hRw hC.mk rfl) (by decide +kernel) rfl ⟨Nat.le_of_ble_eq_true rfl, Nat.le_of_ble_eq_true rfl⟩ ⟨by show 0 + 7 ≤ 7; omega, by show 0 + 76 ≤ 76; omega⟩ (Nat.le_of_ble_eq_true rfl) dL_does_15 (fun E ce q9 H locs hv hfr hS hq9 hcv hcl => ?_) (fun v H locs hv hfr hS => ?_) rfl
  · skip
    obtain ⟨hc1, hE, hHC⟩ := hv
    have hcr : mcBoat u a b cx d (a + cx) = 1 ∨ mcBoat u a b cx d (a + cx) = 2 ∨ mcBoat u a b cx d (a + cx) = 3 := by unfold mcBoat at hc1 ⊢; omega
    rcases hcr with hcd | hcd | hcd
    · skip
      have hE1 : E = "java/lang/IndexOutOfBoundsException" := by rw [hE, hcd]; rfl
      subst hE1
      refine vx_catch hown [] ⟨0, 91, 92, 33⟩ [⟨0, 91, 97, 35⟩, ⟨0, 91, 102, 37⟩] (htab.trans rfl) (fun z hz => nomatch hz) (by decide) (by decide) (q_113 hT hW) (va_Nw.use rfl (q_125 hT hW)) hq9 hcv hcl ?_
      refine lv_astore (lv' := [(6, .ref (q9)), (0, .ref (ad 0)), (1, .int (zi (0))), (2, .int (zi (a))), (3, .int (zi (b))), (4, .int (zi (cx))), (5, .int (zi (d)))]) hx hb dL_does_92 hl (by decide) rfl (fun ls hl => ?_)
      refine lv_bipush (v := zi (-2)) hx hb dL_does_94 rfl ?_
      exact vx_ret (z_iret hx hb hr hlocks hS (by show 0 + 7 ≤ 7; omega) (by show 0 + 76 ≤ 76; omega) dL_does_96 ⟨fun z => absurd z (by rw [hcd]; decide), fun _ => ⟨by rw [hcd] <;> rfl, hHC⟩⟩)
    · skip
      have hE1 : E = "java/lang/IllegalArgumentException" := by rw [hE, hcd]; rfl
      subst hE1
      refine vx_catch hown [⟨0, 91, 92, 33⟩] ⟨0, 91, 97, 35⟩ [⟨0, 91, 102, 37⟩] (htab.trans rfl) (fun z hz => by
        simp only [List.mem_cons, List.not_mem_nil, or_false] at hz
        subst hz
        exact Or.inr ⟨(by decide), "java/lang/IndexOutOfBoundsException", (q_113 hT hW), va_Nc.moved hW.alike hNC.1⟩) (by decide) (by decide) (q_114 hT hW) (va_Nw.use rfl (q_200 hT hW)) hq9 hcv hcl ?_
      refine lv_astore (lv' := [(6, .ref (q9)), (0, .ref (ad 0)), (1, .int (zi (0))), (2, .int (zi (a))), (3, .int (zi (b))), (4, .int (zi (cx))), (5, .int (zi (d)))]) hx hb dL_does_97 hl (by decide) rfl (fun ls hl => ?_)
      refine lv_bipush (v := zi (-3)) hx hb dL_does_99 rfl ?_
      exact vx_ret (z_iret hx hb hr hlocks hS (by show 0 + 7 ≤ 7; omega) (by show 0 + 76 ≤ 76; omega) dL_does_101 ⟨fun z => absurd z (by rw [hcd]; decide), fun _ => ⟨by rw [hcd] <;> rfl, hHC⟩⟩)
    · skip
      have hE1 : E = "java/lang/IllegalStateException" := by rw [hE, hcd]; rfl
      subst hE1
      refine vx_catch hown [⟨0, 91, 92, 33⟩, ⟨0, 91, 97, 35⟩] ⟨0, 91, 102, 37⟩ [] (htab.trans rfl) (fun z hz => by
        simp only [List.mem_cons, List.not_mem_nil, or_false] at hz
        rcases hz with rfl | rfl
        · exact Or.inr ⟨(by decide), "java/lang/IndexOutOfBoundsException", (q_113 hT hW), va_Nc.moved hW.alike hNC.2.1⟩
        · exact Or.inr ⟨(by decide), "java/lang/IllegalArgumentException", (q_114 hT hW), va_Nc.moved hW.alike hNC.2.2⟩) (by decide) (by decide) (q_115 hT hW) (va_Nw.use rfl (q_226 hT hW)) hq9 hcv hcl ?_
      refine lv_astore (lv' := [(6, .ref (q9)), (0, .ref (ad 0)), (1, .int (zi (0))), (2, .int (zi (a))), (3, .int (zi (b))), (4, .int (zi (cx))), (5, .int (zi (d)))]) hx hb dL_does_102 hl (by decide) rfl (fun ls hl => ?_)
      refine lv_bipush (v := zi (-4)) hx hb dL_does_104 rfl ?_
      exact vx_ret (z_iret hx hb hr hlocks hS (by show 0 + 7 ≤ 7; omega) (by show 0 + 76 ≤ 76; omega) dL_does_106 ⟨fun z => absurd z (by rw [hcd]; decide), fun _ => ⟨by rw [hcd] <;> rfl, hHC⟩⟩)
  · skip
    obtain ⟨hcd, rfl, hHC⟩ := hv
    refine lv_goto (tgt := 91) hx hb dL_does_18 (by decide) ?_
    exact vx_ret (z_iret hx hb hr hlocks hS (by show 0 + 7 ≤ 7; omega) (by show 0 + 76 ≤ 76; omega) dL_does_91 ⟨fun _ => ⟨rfl, hHC⟩, fun z => absurd z (by rw [hcd]; decide)⟩)
set_option maxHeartbeats 4000000 in
set_option maxRecDepth 100000 in
theorem c_L_does1 (l : Launch) {S : State} {D : va_G} {tc : Nat → ClassId} {A : Nat → Prop} {dz : Nat} (hZ : zB S D tc A dz) {ad : Nat → Nat} {u : zS_} {a b cx d : Int} (hflags : l.stackTraces = false) (hNC : zNC S) (hO : zOk u) (h0 : -2147483648 ≤ a ∧ a ≤ 2147483647 ∧ -2147483648 ≤ b ∧ b ≤ 2147483647 ∧ -2147483648 ≤ cx ∧ cx ≤ 2147483647 ∧ -2147483648 ≤ d ∧ d ≤ 2147483647) : zMH l S A yL_does cL_does 7 (Option.some Jvm.ClassFile.FieldType.int) [((0 : Nat), (91 : Nat), (92 : Nat), (33 : Nat)), ((0 : Nat), (91 : Nat), (97 : Nat), (35 : Nat)), ((0 : Nat), (91 : Nat), (102 : Nat), (37 : Nat))] { frames := 9, locals := 264, cells := 2, slots := 12 } [.ref (ad 0), .int (zi (1)), .int (zi (a)), .int (zi (b)), .int (zi (cx)), .int (zi (d))] (zHC D tc dz A ad u) (fun v H => (mcLend u a b = 0 → v = some (.int (zi (u 2 a.toNat))) ∧ zHC D tc dz A ad (ms u 2 a.toNat b) H) ∧ (0 < mcLend u a b → v = some (.int (zi (-1 - mcLend u a b))) ∧ zHC D tc dz A ad u H)) := by
  refine zMH.mk (by decide +kernel) (Nat.le_of_ble_eq_true rfl) (fun args s hW => q_112 hZ.1 hW) ?_
  intro p e s m below meth c ls X0 htab hR hl
  obtain ⟨hx, hb, hml, hr, hlocks, hown, hnm, hW, hpre, hA⟩ := X0
  have X : zH S A p s m c cL_does 7 RL := ⟨hx, hb, hml, hown, hW, hpre, hA, hZ.2.2.1⟩
  have hT := hZ.1
  have hK := va_K.moved hW.alike hZ.2.1
  have hS : va_S A s.heap s.heap [] := va_S.rf
  have hl : lv_has ls 7 [(0, .ref (ad 0)), (1, .int (zi (1))), (2, .int (zi (a))), (3, .int (zi (b))), (4, .int (zi (cx))), (5, .int (zi (d)))] := hl
  have hHC := hR
  obtain ⟨aB, aC, aD, nd, dd, Wd, w, hC, hD, hRw⟩ := hR
  refine lv_iload_n hx hb dL_does_0 rfl (lv_at hl 1 rfl) ?_
  refine z_if_ne (a := 1) (tgt := 21) hx hb dL_does_1 (by decide) (by omega) (fun _ => ?_) (fun h_1 => False.elim (by omega))
  refine lv_iload_n hx hb dL_does_21 rfl (lv_at hl 1 rfl) ?_
  refine lv_iconst (v := zi (1)) hx hb dL_does_22 rfl ?_
  refine z_icmp_ne (a := 1) (b := 1) (tgt := 35) hx hb dL_does_23 (by decide) (by omega) (fun h_23 => False.elim (by omega)) (fun _ => ?_)
  refine lv_aload_n hx hb dL_does_26 rfl (lv_at hl 0 rfl) ?_
  refine lv_iload_n hx hb dL_does_27 rfl (lv_at hl 2 rfl) ?_
  refine lv_iload_n hx hb dL_does_28 rfl (lv_at hl 3 rfl) ?_
  refine z_invVXB (n := 2) (C := RX5) (B := A) (fun q h => h) (c_X5_lend l hflags hZ (a := a) (b_ := b) (by omega) hO.1 hO.2.1) X hS (fun q h => hA q (Nat.le_trans hS.1 h)) hHC hl.1 (q_360 hT hW) (q_1 hT hW) (q_357 hT hW) (q_358 hT hW) (q_359 hT hW) (z_recv hK hRw hC.mk rfl) (by decide +kernel) rfl ⟨Nat.le_of_ble_eq_true rfl, Nat.le_of_ble_eq_true rfl⟩ ⟨by show 0 + 2 ≤ 2; omega, by show 0 + 12 ≤ 12; omega⟩ (Nat.le_of_ble_eq_true rfl) dL_does_29 (fun E ce q9 H locs hv hfr hS hq9 hcv hcl => ?_) (fun v H locs hv hfr hS => ?_) rfl
  · skip
    obtain ⟨hc1, hE, hHC⟩ := hv
    have hcr : mcLend u a b = 1 := by unfold mcLend at hc1 ⊢; omega
    have hcd := hcr
    have hE1 : E = "java/lang/IndexOutOfBoundsException" := by rw [hE, hcd]; rfl
    subst hE1
    refine vx_catch hown [] ⟨0, 91, 92, 33⟩ [⟨0, 91, 97, 35⟩, ⟨0, 91, 102, 37⟩] (htab.trans rfl) (fun z hz => nomatch hz) (by decide) (by decide) (q_113 hT hW) (va_Nw.use rfl (q_125 hT hW)) hq9 hcv hcl ?_
    refine lv_astore (lv' := [(6, .ref (q9)), (0, .ref (ad 0)), (1, .int (zi (1))), (2, .int (zi (a))), (3, .int (zi (b))), (4, .int (zi (cx))), (5, .int (zi (d)))]) hx hb dL_does_92 hl (by decide) rfl (fun ls hl => ?_)
    refine lv_bipush (v := zi (-2)) hx hb dL_does_94 rfl ?_
    exact vx_ret (z_iret hx hb hr hlocks hS (by show 0 + 2 ≤ 2; omega) (by show 0 + 12 ≤ 12; omega) dL_does_96 ⟨fun z => absurd z (by rw [hcd]; decide), fun _ => ⟨by rw [hcd] <;> rfl, hHC⟩⟩)
  · skip
    obtain ⟨hcd, rfl, hHC⟩ := hv
    refine lv_goto (tgt := 91) hx hb dL_does_32 (by decide) ?_
    exact vx_ret (z_iret hx hb hr hlocks hS (by show 0 + 2 ≤ 2; omega) (by show 0 + 12 ≤ 12; omega) dL_does_91 ⟨fun _ => ⟨rfl, hHC⟩, fun z => absurd z (by rw [hcd]; decide)⟩)
set_option maxHeartbeats 4000000 in
set_option maxRecDepth 100000 in
theorem c_L_does2 (l : Launch) {S : State} {D : va_G} {tc : Nat → ClassId} {A : Nat → Prop} {dz : Nat} (hZ : zB S D tc A dz) {ad : Nat → Nat} {u : zS_} {a b cx d : Int} (hflags : l.stackTraces = false) (hNC : zNC S) (hO : zOk u) (h0 : -2147483648 ≤ a ∧ a ≤ 2147483647 ∧ -2147483648 ≤ b ∧ b ≤ 2147483647 ∧ -2147483648 ≤ cx ∧ cx ≤ 2147483647 ∧ -2147483648 ≤ d ∧ d ≤ 2147483647) (h1 : -2147483648 ≤ cx + 4 ∧ cx + 4 ≤ 2147483647) : zMH l S A yL_does cL_does 7 (Option.some Jvm.ClassFile.FieldType.int) [((0 : Nat), (91 : Nat), (92 : Nat), (33 : Nat)), ((0 : Nat), (91 : Nat), (97 : Nat), (35 : Nat)), ((0 : Nat), (91 : Nat), (102 : Nat), (37 : Nat))] { frames := 9, locals := 269, cells := 6, slots := 36 } [.ref (ad 0), .int (zi (2)), .int (zi (a)), .int (zi (b)), .int (zi (cx)), .int (zi (d))] (zHC D tc dz A ad u) (fun v H => (mcFore u a b cx (cx + 4) d = 0 → v = some (.int (zi ((b % 8 - a % 8 + 1) * (b / 8 - a / 8 + 1)))) ∧ zHC D tc dz A ad (muFore u a b cx (cx + 4) d) H) ∧ (0 < mcFore u a b cx (cx + 4) d → v = some (.int (zi (-1 - mcFore u a b cx (cx + 4) d))) ∧ zHC D tc dz A ad u H)) := by
  refine zMH.mk (by decide +kernel) (Nat.le_of_ble_eq_true rfl) (fun args s hW => q_112 hZ.1 hW) ?_
  intro p e s m below meth c ls X0 htab hR hl
  obtain ⟨hx, hb, hml, hr, hlocks, hown, hnm, hW, hpre, hA⟩ := X0
  have X : zH S A p s m c cL_does 7 RL := ⟨hx, hb, hml, hown, hW, hpre, hA, hZ.2.2.1⟩
  have hT := hZ.1
  have hK := va_K.moved hW.alike hZ.2.1
  have hS : va_S A s.heap s.heap [] := va_S.rf
  have hl : lv_has ls 7 [(0, .ref (ad 0)), (1, .int (zi (2))), (2, .int (zi (a))), (3, .int (zi (b))), (4, .int (zi (cx))), (5, .int (zi (d)))] := hl
  have hHC := hR
  obtain ⟨aB, aC, aD, nd, dd, Wd, w, hC, hD, hRw⟩ := hR
  refine lv_iload_n hx hb dL_does_0 rfl (lv_at hl 1 rfl) ?_
  refine z_if_ne (a := 2) (tgt := 21) hx hb dL_does_1 (by decide) (by omega) (fun _ => ?_) (fun h_1 => False.elim (by omega))
  refine lv_iload_n hx hb dL_does_21 rfl (lv_at hl 1 rfl) ?_
  refine lv_iconst (v := zi (1)) hx hb dL_does_22 rfl ?_
  refine z_icmp_ne (a := 2) (b := 1) (tgt := 35) hx hb dL_does_23 (by decide) (by omega) (fun _ => ?_) (fun h_23 => False.elim (by omega))
  refine lv_iload_n hx hb dL_does_35 rfl (lv_at hl 1 rfl) ?_
  refine lv_iconst (v := zi (2)) hx hb dL_does_36 rfl ?_
  refine z_icmp_ne (a := 2) (b := 2) (tgt := 57) hx hb dL_does_37 (by decide) (by omega) (fun h_37 => False.elim (by omega)) (fun _ => ?_)
  refine lv_aload_n hx hb dL_does_40 rfl (lv_at hl 0 rfl) ?_
  refine lv_iload_n hx hb dL_does_41 rfl (lv_at hl 2 rfl) ?_
  refine lv_iload_n hx hb dL_does_42 rfl (lv_at hl 3 rfl) ?_
  refine lv_iload hx hb dL_does_43 (lv_at hl 4 rfl) ?_
  refine lv_iload hx hb dL_does_45 (lv_at hl 4 rfl) ?_
  refine lv_iconst (v := zi (4)) hx hb dL_does_47 rfl ?_
  refine z_iadd (a := cx) (b := 4) hx hb dL_does_48 ?_
  refine lv_iload hx hb dL_does_49 (lv_at hl 5 rfl) ?_
  refine z_invVXB (n := 5) (C := RX5) (B := A) (fun q h => h) (c_X5_foretell l hflags hZ (f := a) (t := b) (a := cx) (z := (cx + 4)) (st := d) (by omega) hO.1 hO.2.1) X hS (fun q h => hA q (Nat.le_trans hS.1 h)) hHC hl.1 (q_388 hT hW) (q_1 hT hW) (q_385 hT hW) (q_386 hT hW) (q_387 hT hW) (z_recv hK hRw hC.mk rfl) (by decide +kernel) rfl ⟨Nat.le_of_ble_eq_true rfl, Nat.le_of_ble_eq_true rfl⟩ ⟨by show 0 + 6 ≤ 6; omega, by show 0 + 36 ≤ 36; omega⟩ (Nat.le_of_ble_eq_true rfl) dL_does_51 (fun E ce q9 H locs hv hfr hS hq9 hcv hcl => ?_) (fun v H locs hv hfr hS => ?_) rfl
  · skip
    obtain ⟨hc1, hE, hHC⟩ := hv
    have hcr : mcFore u a b cx (cx + 4) d = 1 ∨ mcFore u a b cx (cx + 4) d = 2 := by unfold mcFore at hc1 ⊢; omega
    rcases hcr with hcd | hcd
    · skip
      have hE1 : E = "java/lang/IndexOutOfBoundsException" := by rw [hE, hcd]; rfl
      subst hE1
      refine vx_catch hown [] ⟨0, 91, 92, 33⟩ [⟨0, 91, 97, 35⟩, ⟨0, 91, 102, 37⟩] (htab.trans rfl) (fun z hz => nomatch hz) (by decide) (by decide) (q_113 hT hW) (va_Nw.use rfl (q_125 hT hW)) hq9 hcv hcl ?_
      refine lv_astore (lv' := [(6, .ref (q9)), (0, .ref (ad 0)), (1, .int (zi (2))), (2, .int (zi (a))), (3, .int (zi (b))), (4, .int (zi (cx))), (5, .int (zi (d)))]) hx hb dL_does_92 hl (by decide) rfl (fun ls hl => ?_)
      refine lv_bipush (v := zi (-2)) hx hb dL_does_94 rfl ?_
      exact vx_ret (z_iret hx hb hr hlocks hS (by show 0 + 6 ≤ 6; omega) (by show 0 + 36 ≤ 36; omega) dL_does_96 ⟨fun z => absurd z (by rw [hcd]; decide), fun _ => ⟨by rw [hcd] <;> rfl, hHC⟩⟩)
    · skip
      have hE1 : E = "java/lang/IllegalArgumentException" := by rw [hE, hcd]; rfl
      subst hE1
      refine vx_catch hown [⟨0, 91, 92, 33⟩] ⟨0, 91, 97, 35⟩ [⟨0, 91, 102, 37⟩] (htab.trans rfl) (fun z hz => by
        simp only [List.mem_cons, List.not_mem_nil, or_false] at hz
        subst hz
        exact Or.inr ⟨(by decide), "java/lang/IndexOutOfBoundsException", (q_113 hT hW), va_Nc.moved hW.alike hNC.1⟩) (by decide) (by decide) (q_114 hT hW) (va_Nw.use rfl (q_200 hT hW)) hq9 hcv hcl ?_
      refine lv_astore (lv' := [(6, .ref (q9)), (0, .ref (ad 0)), (1, .int (zi (2))), (2, .int (zi (a))), (3, .int (zi (b))), (4, .int (zi (cx))), (5, .int (zi (d)))]) hx hb dL_does_97 hl (by decide) rfl (fun ls hl => ?_)
      refine lv_bipush (v := zi (-3)) hx hb dL_does_99 rfl ?_
      exact vx_ret (z_iret hx hb hr hlocks hS (by show 0 + 6 ≤ 6; omega) (by show 0 + 36 ≤ 36; omega) dL_does_101 ⟨fun z => absurd z (by rw [hcd]; decide), fun _ => ⟨by rw [hcd] <;> rfl, hHC⟩⟩)
  · skip
    obtain ⟨hcd, rfl, hHC⟩ := hv
    refine lv_goto (tgt := 91) hx hb dL_does_54 (by decide) ?_
    exact vx_ret (z_iret hx hb hr hlocks hS (by show 0 + 6 ≤ 6; omega) (by show 0 + 36 ≤ 36; omega) dL_does_91 ⟨fun _ => ⟨rfl, hHC⟩, fun z => absurd z (by rw [hcd]; decide)⟩)
set_option maxHeartbeats 4000000 in
set_option maxRecDepth 100000 in
theorem c_L_does3 (l : Launch) {S : State} {D : va_G} {tc : Nat → ClassId} {A : Nat → Prop} {dz : Nat} (hZ : zB S D tc A dz) {ad : Nat → Nat} {u : zS_} {a b cx d : Int} (hflags : l.stackTraces = false) (hNC : zNC S) (hO : zOk u) (h0 : -2147483648 ≤ a ∧ a ≤ 2147483647 ∧ -2147483648 ≤ b ∧ b ≤ 2147483647 ∧ -2147483648 ≤ cx ∧ cx ≤ 2147483647 ∧ -2147483648 ≤ d ∧ d ≤ 2147483647) : zMH l S A yL_does cL_does 7 (Option.some Jvm.ClassFile.FieldType.int) [((0 : Nat), (91 : Nat), (92 : Nat), (33 : Nat)), ((0 : Nat), (91 : Nat), (97 : Nat), (35 : Nat)), ((0 : Nat), (91 : Nat), (102 : Nat), (37 : Nat))] { frames := 10, locals := 364, cells := 5, slots := 59 } [.ref (ad 0), .int (zi (3)), .int (zi (a)), .int (zi (b)), .int (zi (cx)), .int (zi (d))] (zHC D tc dz A ad u) (fun v H => (mcCall u a b cx = 0 → v = some (.int (zi (u 21 0))) ∧ zHC D tc dz A ad (muCall u a b cx) H) ∧ (0 < mcCall u a b cx → v = some (.int (zi (-1 - mcCall u a b cx))) ∧ zHC D tc dz A ad u H)) := by
  refine zMH.mk (by decide +kernel) (Nat.le_of_ble_eq_true rfl) (fun args s hW => q_112 hZ.1 hW) ?_
  intro p e s m below meth c ls X0 htab hR hl
  obtain ⟨hx, hb, hml, hr, hlocks, hown, hnm, hW, hpre, hA⟩ := X0
  have X : zH S A p s m c cL_does 7 RL := ⟨hx, hb, hml, hown, hW, hpre, hA, hZ.2.2.1⟩
  have hT := hZ.1
  have hK := va_K.moved hW.alike hZ.2.1
  have hS : va_S A s.heap s.heap [] := va_S.rf
  have hl : lv_has ls 7 [(0, .ref (ad 0)), (1, .int (zi (3))), (2, .int (zi (a))), (3, .int (zi (b))), (4, .int (zi (cx))), (5, .int (zi (d)))] := hl
  have hHC := hR
  obtain ⟨aB, aC, aD, nd, dd, Wd, w, hC, hD, hRw⟩ := hR
  refine lv_iload_n hx hb dL_does_0 rfl (lv_at hl 1 rfl) ?_
  refine z_if_ne (a := 3) (tgt := 21) hx hb dL_does_1 (by decide) (by omega) (fun _ => ?_) (fun h_1 => False.elim (by omega))
  refine lv_iload_n hx hb dL_does_21 rfl (lv_at hl 1 rfl) ?_
  refine lv_iconst (v := zi (1)) hx hb dL_does_22 rfl ?_
  refine z_icmp_ne (a := 3) (b := 1) (tgt := 35) hx hb dL_does_23 (by decide) (by omega) (fun _ => ?_) (fun h_23 => False.elim (by omega))
  refine lv_iload_n hx hb dL_does_35 rfl (lv_at hl 1 rfl) ?_
  refine lv_iconst (v := zi (2)) hx hb dL_does_36 rfl ?_
  refine z_icmp_ne (a := 3) (b := 2) (tgt := 57) hx hb dL_does_37 (by decide) (by omega) (fun _ => ?_) (fun h_37 => False.elim (by omega))
  refine lv_iload_n hx hb dL_does_57 rfl (lv_at hl 1 rfl) ?_
  refine lv_iconst (v := zi (3)) hx hb dL_does_58 rfl ?_
  refine z_icmp_ne (a := 3) (b := 3) (tgt := 73) hx hb dL_does_59 (by decide) (by omega) (fun h_59 => False.elim (by omega)) (fun _ => ?_)
  refine lv_aload_n hx hb dL_does_62 rfl (lv_at hl 0 rfl) ?_
  refine lv_iload_n hx hb dL_does_63 rfl (lv_at hl 2 rfl) ?_
  refine lv_iload_n hx hb dL_does_64 rfl (lv_at hl 3 rfl) ?_
  refine lv_iload hx hb dL_does_65 (lv_at hl 4 rfl) ?_
  refine z_invVXB (n := 3) (C := RX5) (B := A) (fun q h => h) (c_X5_call l hflags hZ (a := a) (n := b) (z := cx) (by omega) hO.1 hO.2.1) X hS (fun q h => hA q (Nat.le_trans hS.1 h)) hHC hl.1 (q_410 hT hW) (q_1 hT hW) (q_407 hT hW) (q_408 hT hW) (q_409 hT hW) (z_recv hK hRw hC.mk rfl) (by decide +kernel) rfl ⟨Nat.le_of_ble_eq_true rfl, Nat.le_of_ble_eq_true rfl⟩ ⟨by show 0 + 5 ≤ 5; omega, by show 0 + 59 ≤ 59; omega⟩ (Nat.le_of_ble_eq_true rfl) dL_does_67 (fun E ce q9 H locs hv hfr hS hq9 hcv hcl => ?_) (fun v H locs hv hfr hS => ?_) rfl
  · skip
    obtain ⟨hc1, hE, hHC⟩ := hv
    have hcr : mcCall u a b cx = 1 ∨ mcCall u a b cx = 2 ∨ mcCall u a b cx = 3 := by unfold mcCall at hc1 ⊢; omega
    rcases hcr with hcd | hcd | hcd
    · skip
      have hE1 : E = "java/lang/IndexOutOfBoundsException" := by rw [hE, hcd]; rfl
      subst hE1
      refine vx_catch hown [] ⟨0, 91, 92, 33⟩ [⟨0, 91, 97, 35⟩, ⟨0, 91, 102, 37⟩] (htab.trans rfl) (fun z hz => nomatch hz) (by decide) (by decide) (q_113 hT hW) (va_Nw.use rfl (q_125 hT hW)) hq9 hcv hcl ?_
      refine lv_astore (lv' := [(6, .ref (q9)), (0, .ref (ad 0)), (1, .int (zi (3))), (2, .int (zi (a))), (3, .int (zi (b))), (4, .int (zi (cx))), (5, .int (zi (d)))]) hx hb dL_does_92 hl (by decide) rfl (fun ls hl => ?_)
      refine lv_bipush (v := zi (-2)) hx hb dL_does_94 rfl ?_
      exact vx_ret (z_iret hx hb hr hlocks hS (by show 0 + 5 ≤ 5; omega) (by show 0 + 59 ≤ 59; omega) dL_does_96 ⟨fun z => absurd z (by rw [hcd]; decide), fun _ => ⟨by rw [hcd] <;> rfl, hHC⟩⟩)
    · skip
      have hE1 : E = "java/lang/IllegalArgumentException" := by rw [hE, hcd]; rfl
      subst hE1
      refine vx_catch hown [⟨0, 91, 92, 33⟩] ⟨0, 91, 97, 35⟩ [⟨0, 91, 102, 37⟩] (htab.trans rfl) (fun z hz => by
        simp only [List.mem_cons, List.not_mem_nil, or_false] at hz
        subst hz
        exact Or.inr ⟨(by decide), "java/lang/IndexOutOfBoundsException", (q_113 hT hW), va_Nc.moved hW.alike hNC.1⟩) (by decide) (by decide) (q_114 hT hW) (va_Nw.use rfl (q_200 hT hW)) hq9 hcv hcl ?_
      refine lv_astore (lv' := [(6, .ref (q9)), (0, .ref (ad 0)), (1, .int (zi (3))), (2, .int (zi (a))), (3, .int (zi (b))), (4, .int (zi (cx))), (5, .int (zi (d)))]) hx hb dL_does_97 hl (by decide) rfl (fun ls hl => ?_)
      refine lv_bipush (v := zi (-3)) hx hb dL_does_99 rfl ?_
      exact vx_ret (z_iret hx hb hr hlocks hS (by show 0 + 5 ≤ 5; omega) (by show 0 + 59 ≤ 59; omega) dL_does_101 ⟨fun z => absurd z (by rw [hcd]; decide), fun _ => ⟨by rw [hcd] <;> rfl, hHC⟩⟩)
    · skip
      have hE1 : E = "java/lang/IllegalStateException" := by rw [hE, hcd]; rfl
      subst hE1
      refine vx_catch hown [⟨0, 91, 92, 33⟩, ⟨0, 91, 97, 35⟩] ⟨0, 91, 102, 37⟩ [] (htab.trans rfl) (fun z hz => by
        simp only [List.mem_cons, List.not_mem_nil, or_false] at hz
        rcases hz with rfl | rfl
        · exact Or.inr ⟨(by decide), "java/lang/IndexOutOfBoundsException", (q_113 hT hW), va_Nc.moved hW.alike hNC.2.1⟩
        · exact Or.inr ⟨(by decide), "java/lang/IllegalArgumentException", (q_114 hT hW), va_Nc.moved hW.alike hNC.2.2⟩) (by decide) (by decide) (q_115 hT hW) (va_Nw.use rfl (q_226 hT hW)) hq9 hcv hcl ?_
      refine lv_astore (lv' := [(6, .ref (q9)), (0, .ref (ad 0)), (1, .int (zi (3))), (2, .int (zi (a))), (3, .int (zi (b))), (4, .int (zi (cx))), (5, .int (zi (d)))]) hx hb dL_does_102 hl (by decide) rfl (fun ls hl => ?_)
      refine lv_bipush (v := zi (-4)) hx hb dL_does_104 rfl ?_
      exact vx_ret (z_iret hx hb hr hlocks hS (by show 0 + 5 ≤ 5; omega) (by show 0 + 59 ≤ 59; omega) dL_does_106 ⟨fun z => absurd z (by rw [hcd]; decide), fun _ => ⟨by rw [hcd] <;> rfl, hHC⟩⟩)
  · skip
    obtain ⟨hcd, rfl, hHC⟩ := hv
    refine lv_goto (tgt := 91) hx hb dL_does_70 (by decide) ?_
    exact vx_ret (z_iret hx hb hr hlocks hS (by show 0 + 5 ≤ 5; omega) (by show 0 + 59 ≤ 59; omega) dL_does_91 ⟨fun _ => ⟨rfl, hHC⟩, fun z => absurd z (by rw [hcd]; decide)⟩)
set_option maxHeartbeats 4000000 in
set_option maxRecDepth 100000 in
theorem c_L_does4 (l : Launch) {S : State} {D : va_G} {tc : Nat → ClassId} {A : Nat → Prop} {dz : Nat} (hZ : zB S D tc A dz) {ad : Nat → Nat} {u : zS_} {a b cx d : Int} (hflags : l.stackTraces = false) (hNC : zNC S) (hO : zOk u) (h0 : -2147483648 ≤ a ∧ a ≤ 2147483647 ∧ -2147483648 ≤ b ∧ b ≤ 2147483647 ∧ -2147483648 ≤ cx ∧ cx ≤ 2147483647 ∧ -2147483648 ≤ d ∧ d ≤ 2147483647) : zMH l S A yL_does cL_does 7 (Option.some Jvm.ClassFile.FieldType.int) [((0 : Nat), (91 : Nat), (92 : Nat), (33 : Nat)), ((0 : Nat), (91 : Nat), (97 : Nat), (35 : Nat)), ((0 : Nat), (91 : Nat), (102 : Nat), (37 : Nat))] { frames := 9, locals := 262, cells := 1, slots := 6 } [.ref (ad 0), .int (zi (4)), .int (zi (a)), .int (zi (b)), .int (zi (cx)), .int (zi (d))] (zHC D tc dz A ad u) (fun v H => (mcCap a = 0 → v = some (.int (zi (u 23 0))) ∧ zHC D tc dz A ad (ms u 23 0 a) H) ∧ (0 < mcCap a → v = some (.int (zi (-2 - mcCap a))) ∧ zHC D tc dz A ad u H)) := by
  refine zMH.mk (by decide +kernel) (Nat.le_of_ble_eq_true rfl) (fun args s hW => q_112 hZ.1 hW) ?_
  intro p e s m below meth c ls X0 htab hR hl
  obtain ⟨hx, hb, hml, hr, hlocks, hown, hnm, hW, hpre, hA⟩ := X0
  have X : zH S A p s m c cL_does 7 RL := ⟨hx, hb, hml, hown, hW, hpre, hA, hZ.2.2.1⟩
  have hT := hZ.1
  have hK := va_K.moved hW.alike hZ.2.1
  have hS : va_S A s.heap s.heap [] := va_S.rf
  have hl : lv_has ls 7 [(0, .ref (ad 0)), (1, .int (zi (4))), (2, .int (zi (a))), (3, .int (zi (b))), (4, .int (zi (cx))), (5, .int (zi (d)))] := hl
  have hHC := hR
  obtain ⟨aB, aC, aD, nd, dd, Wd, w, hC, hD, hRw⟩ := hR
  refine lv_iload_n hx hb dL_does_0 rfl (lv_at hl 1 rfl) ?_
  refine z_if_ne (a := 4) (tgt := 21) hx hb dL_does_1 (by decide) (by omega) (fun _ => ?_) (fun h_1 => False.elim (by omega))
  refine lv_iload_n hx hb dL_does_21 rfl (lv_at hl 1 rfl) ?_
  refine lv_iconst (v := zi (1)) hx hb dL_does_22 rfl ?_
  refine z_icmp_ne (a := 4) (b := 1) (tgt := 35) hx hb dL_does_23 (by decide) (by omega) (fun _ => ?_) (fun h_23 => False.elim (by omega))
  refine lv_iload_n hx hb dL_does_35 rfl (lv_at hl 1 rfl) ?_
  refine lv_iconst (v := zi (2)) hx hb dL_does_36 rfl ?_
  refine z_icmp_ne (a := 4) (b := 2) (tgt := 57) hx hb dL_does_37 (by decide) (by omega) (fun _ => ?_) (fun h_37 => False.elim (by omega))
  refine lv_iload_n hx hb dL_does_57 rfl (lv_at hl 1 rfl) ?_
  refine lv_iconst (v := zi (3)) hx hb dL_does_58 rfl ?_
  refine z_icmp_ne (a := 4) (b := 3) (tgt := 73) hx hb dL_does_59 (by decide) (by omega) (fun _ => ?_) (fun h_59 => False.elim (by omega))
  refine lv_iload_n hx hb dL_does_73 rfl (lv_at hl 1 rfl) ?_
  refine lv_iconst (v := zi (4)) hx hb dL_does_74 rfl ?_
  refine z_icmp_ne (a := 4) (b := 4) (tgt := 86) hx hb dL_does_75 (by decide) (by omega) (fun h_75 => False.elim (by omega)) (fun _ => ?_)
  refine lv_aload_n hx hb dL_does_78 rfl (lv_at hl 0 rfl) ?_
  refine lv_iload_n hx hb dL_does_79 rfl (lv_at hl 2 rfl) ?_
  refine z_invVXB (n := 1) (C := RX5) (B := A) (fun q h => h) (c_X5_cap l hflags hZ (a := a) (by omega) hO.1 hO.2.1) X hS (fun q h => hA q (Nat.le_trans hS.1 h)) hHC hl.1 (q_454 hT hW) (q_1 hT hW) (q_451 hT hW) (q_452 hT hW) (q_453 hT hW) (z_recv hK hRw hC.mk rfl) (by decide +kernel) rfl ⟨Nat.le_of_ble_eq_true rfl, Nat.le_of_ble_eq_true rfl⟩ ⟨by show 0 + 1 ≤ 1; omega, by show 0 + 6 ≤ 6; omega⟩ (Nat.le_of_ble_eq_true rfl) dL_does_80 (fun E ce q9 H locs hv hfr hS hq9 hcv hcl => ?_) (fun v H locs hv hfr hS => ?_) rfl
  · skip
    obtain ⟨hc1, hE, hHC⟩ := hv
    have hcr : mcCap a = 1 := by unfold mcCap at hc1 ⊢; omega
    have hcd := hcr
    have hE1 : E = "java/lang/IllegalArgumentException" := by rw [hE, hcd]; rfl
    subst hE1
    refine vx_catch hown [⟨0, 91, 92, 33⟩] ⟨0, 91, 97, 35⟩ [⟨0, 91, 102, 37⟩] (htab.trans rfl) (fun z hz => by
      simp only [List.mem_cons, List.not_mem_nil, or_false] at hz
      subst hz
      exact Or.inr ⟨(by decide), "java/lang/IndexOutOfBoundsException", (q_113 hT hW), va_Nc.moved hW.alike hNC.1⟩) (by decide) (by decide) (q_114 hT hW) (va_Nw.use rfl (q_200 hT hW)) hq9 hcv hcl ?_
    refine lv_astore (lv' := [(6, .ref (q9)), (0, .ref (ad 0)), (1, .int (zi (4))), (2, .int (zi (a))), (3, .int (zi (b))), (4, .int (zi (cx))), (5, .int (zi (d)))]) hx hb dL_does_97 hl (by decide) rfl (fun ls hl => ?_)
    refine lv_bipush (v := zi (-3)) hx hb dL_does_99 rfl ?_
    exact vx_ret (z_iret hx hb hr hlocks hS (by show 0 + 1 ≤ 1; omega) (by show 0 + 6 ≤ 6; omega) dL_does_101 ⟨fun z => absurd z (by rw [hcd]; decide), fun _ => ⟨by rw [hcd] <;> rfl, hHC⟩⟩)
  · skip
    obtain ⟨hcd, rfl, hHC⟩ := hv
    refine lv_goto (tgt := 91) hx hb dL_does_83 (by decide) ?_
    exact vx_ret (z_iret hx hb hr hlocks hS (by show 0 + 1 ≤ 1; omega) (by show 0 + 6 ≤ 6; omega) dL_does_91 ⟨fun _ => ⟨rfl, hHC⟩, fun z => absurd z (by rw [hcd]; decide)⟩)
set_option maxHeartbeats 4000000 in
set_option maxRecDepth 100000 in
theorem c_L_does5 (l : Launch) {S : State} {D : va_G} {tc : Nat → ClassId} {A : Nat → Prop} {dz : Nat} (hZ : zB S D tc A dz) {ad : Nat → Nat} {u : zS_} {a b cx d : Int} (hflags : l.stackTraces = false) (hNC : zNC S) (hO : zOk u) (h0 : -2147483648 ≤ a ∧ a ≤ 2147483647 ∧ -2147483648 ≤ b ∧ b ≤ 2147483647 ∧ -2147483648 ≤ cx ∧ cx ≤ 2147483647 ∧ -2147483648 ≤ d ∧ d ≤ 2147483647) : zMH l S A yL_does cL_does 7 (Option.some Jvm.ClassFile.FieldType.int) [((0 : Nat), (91 : Nat), (92 : Nat), (33 : Nat)), ((0 : Nat), (91 : Nat), (97 : Nat), (35 : Nat)), ((0 : Nat), (91 : Nat), (102 : Nat), (37 : Nat))] { frames := 13, locals := 522, cells := 577, slots := 10950 } [.ref (ad 0), .int (zi (5)), .int (zi (a)), .int (zi (b)), .int (zi (cx)), .int (zi (d))] (zHC D tc dz A ad u) (fun v H => (mcPass u a = 0 → v = some (.int (zi (mpass u a.toNat 24 0))) ∧ zHC D tc dz A ad (mpass u a.toNat) H) ∧ (0 < mcPass u a → v = some (.int (zi (-2 - mcPass u a))) ∧ zHC D tc dz A ad u H)) := by
  refine zMH.mk (by decide +kernel) (Nat.le_of_ble_eq_true rfl) (fun args s hW => q_112 hZ.1 hW) ?_
  intro p e s m below meth c ls X0 htab hR hl
  obtain ⟨hx, hb, hml, hr, hlocks, hown, hnm, hW, hpre, hA⟩ := X0
  have X : zH S A p s m c cL_does 7 RL := ⟨hx, hb, hml, hown, hW, hpre, hA, hZ.2.2.1⟩
  have hT := hZ.1
  have hK := va_K.moved hW.alike hZ.2.1
  have hS : va_S A s.heap s.heap [] := va_S.rf
  have hl : lv_has ls 7 [(0, .ref (ad 0)), (1, .int (zi (5))), (2, .int (zi (a))), (3, .int (zi (b))), (4, .int (zi (cx))), (5, .int (zi (d)))] := hl
  have hHC := hR
  obtain ⟨aB, aC, aD, nd, dd, Wd, w, hC, hD, hRw⟩ := hR
  refine lv_iload_n hx hb dL_does_0 rfl (lv_at hl 1 rfl) ?_
  refine z_if_ne (a := 5) (tgt := 21) hx hb dL_does_1 (by decide) (by omega) (fun _ => ?_) (fun h_1 => False.elim (by omega))
  refine lv_iload_n hx hb dL_does_21 rfl (lv_at hl 1 rfl) ?_
  refine lv_iconst (v := zi (1)) hx hb dL_does_22 rfl ?_
  refine z_icmp_ne (a := 5) (b := 1) (tgt := 35) hx hb dL_does_23 (by decide) (by omega) (fun _ => ?_) (fun h_23 => False.elim (by omega))
  refine lv_iload_n hx hb dL_does_35 rfl (lv_at hl 1 rfl) ?_
  refine lv_iconst (v := zi (2)) hx hb dL_does_36 rfl ?_
  refine z_icmp_ne (a := 5) (b := 2) (tgt := 57) hx hb dL_does_37 (by decide) (by omega) (fun _ => ?_) (fun h_37 => False.elim (by omega))
  refine lv_iload_n hx hb dL_does_57 rfl (lv_at hl 1 rfl) ?_
  refine lv_iconst (v := zi (3)) hx hb dL_does_58 rfl ?_
  refine z_icmp_ne (a := 5) (b := 3) (tgt := 73) hx hb dL_does_59 (by decide) (by omega) (fun _ => ?_) (fun h_59 => False.elim (by omega))
  refine lv_iload_n hx hb dL_does_73 rfl (lv_at hl 1 rfl) ?_
  refine lv_iconst (v := zi (4)) hx hb dL_does_74 rfl ?_
  refine z_icmp_ne (a := 5) (b := 4) (tgt := 86) hx hb dL_does_75 (by decide) (by omega) (fun _ => ?_) (fun h_75 => False.elim (by omega))
  refine lv_aload_n hx hb dL_does_86 rfl (lv_at hl 0 rfl) ?_
  refine lv_iload_n hx hb dL_does_87 rfl (lv_at hl 2 rfl) ?_
  refine z_invVXB (n := 1) (C := RX5) (B := A) (fun q h => h) (c_X5_pass l hflags hZ (n := a) (by omega) hO.1 hO.2.1) X hS (fun q h => hA q (Nat.le_trans hS.1 h)) hHC hl.1 (q_458 hT hW) (q_1 hT hW) (q_455 hT hW) (q_456 hT hW) (q_457 hT hW) (z_recv hK hRw hC.mk rfl) (by decide +kernel) rfl ⟨Nat.le_of_ble_eq_true rfl, Nat.le_of_ble_eq_true rfl⟩ ⟨by show 0 + 577 ≤ 577; omega, by show 0 + 10950 ≤ 10950; omega⟩ (Nat.le_of_ble_eq_true rfl) dL_does_88 (fun E ce q9 H locs hv hfr hS hq9 hcv hcl => ?_) (fun v H locs hv hfr hS => ?_) rfl
  · skip
    obtain ⟨hc1, hE, hHC⟩ := hv
    have hcr : mcPass u a = 1 ∨ mcPass u a = 2 := by unfold mcPass at hc1 ⊢; omega
    rcases hcr with hcd | hcd
    · skip
      have hE1 : E = "java/lang/IllegalArgumentException" := by rw [hE, hcd]; rfl
      subst hE1
      refine vx_catch hown [⟨0, 91, 92, 33⟩] ⟨0, 91, 97, 35⟩ [⟨0, 91, 102, 37⟩] (htab.trans rfl) (fun z hz => by
        simp only [List.mem_cons, List.not_mem_nil, or_false] at hz
        subst hz
        exact Or.inr ⟨(by decide), "java/lang/IndexOutOfBoundsException", (q_113 hT hW), va_Nc.moved hW.alike hNC.1⟩) (by decide) (by decide) (q_114 hT hW) (va_Nw.use rfl (q_200 hT hW)) hq9 hcv hcl ?_
      refine lv_astore (lv' := [(6, .ref (q9)), (0, .ref (ad 0)), (1, .int (zi (5))), (2, .int (zi (a))), (3, .int (zi (b))), (4, .int (zi (cx))), (5, .int (zi (d)))]) hx hb dL_does_97 hl (by decide) rfl (fun ls hl => ?_)
      refine lv_bipush (v := zi (-3)) hx hb dL_does_99 rfl ?_
      exact vx_ret (z_iret hx hb hr hlocks hS (by show 0 + 577 ≤ 577; omega) (by show 0 + 10950 ≤ 10950; omega) dL_does_101 ⟨fun z => absurd z (by rw [hcd]; decide), fun _ => ⟨by rw [hcd] <;> rfl, hHC⟩⟩)
    · skip
      have hE1 : E = "java/lang/IllegalStateException" := by rw [hE, hcd]; rfl
      subst hE1
      refine vx_catch hown [⟨0, 91, 92, 33⟩, ⟨0, 91, 97, 35⟩] ⟨0, 91, 102, 37⟩ [] (htab.trans rfl) (fun z hz => by
        simp only [List.mem_cons, List.not_mem_nil, or_false] at hz
        rcases hz with rfl | rfl
        · exact Or.inr ⟨(by decide), "java/lang/IndexOutOfBoundsException", (q_113 hT hW), va_Nc.moved hW.alike hNC.2.1⟩
        · exact Or.inr ⟨(by decide), "java/lang/IllegalArgumentException", (q_114 hT hW), va_Nc.moved hW.alike hNC.2.2⟩) (by decide) (by decide) (q_115 hT hW) (va_Nw.use rfl (q_226 hT hW)) hq9 hcv hcl ?_
      refine lv_astore (lv' := [(6, .ref (q9)), (0, .ref (ad 0)), (1, .int (zi (5))), (2, .int (zi (a))), (3, .int (zi (b))), (4, .int (zi (cx))), (5, .int (zi (d)))]) hx hb dL_does_102 hl (by decide) rfl (fun ls hl => ?_)
      refine lv_bipush (v := zi (-4)) hx hb dL_does_104 rfl ?_
      exact vx_ret (z_iret hx hb hr hlocks hS (by show 0 + 577 ≤ 577; omega) (by show 0 + 10950 ≤ 10950; omega) dL_does_106 ⟨fun z => absurd z (by rw [hcd]; decide), fun _ => ⟨by rw [hcd] <;> rfl, hHC⟩⟩)
  · skip
    obtain ⟨hcd, rfl, hHC⟩ := hv
    exact vx_ret (z_iret hx hb hr hlocks hS (by show 0 + 577 ≤ 577; omega) (by show 0 + 10950 ≤ 10950; omega) dL_does_91 ⟨fun _ => ⟨rfl, hHC⟩, fun z => absurd z (by rw [hcd]; decide)⟩)
