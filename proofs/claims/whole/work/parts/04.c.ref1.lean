set_option maxHeartbeats 4000000 in
set_option maxRecDepth 100000 in
theorem c_X6_thrown (l : Launch) {S : State} {D : va_G} {tc : Nat → ClassId} {A : Nat → Prop} {dz : Nat} (hZ : zB S D tc A dz) {m0 : Nat} {aM : Nat → Nat} {u : zS_}  : zM l S A yX6_thrown cX6_thrown 1 (Option.some Jvm.ClassFile.FieldType.int) { frames := 1, locals := 20, cells := 0, slots := 0 } [.ref m0] (mH D tc A m0 aM u) (fun v H => v = some (.int (zi (u 25 0))) ∧ mH D tc A m0 aM u H) := by
  refine zM.mk (by decide +kernel) (Nat.le_of_ble_eq_true rfl) ?_
  intro p e s m below meth c ls X0 hR hl
  obtain ⟨hx, hb, hml, hr, hlocks, hown, hnm, hW, hpre, hA⟩ := X0
  have X : zH S A p s m c cX6_thrown 1 RX6 := ⟨hx, hb, hml, hown, hW, hpre, hA, hZ.2.2.1⟩
  have hT := hZ.1
  have hK := va_K.moved hW.alike hZ.2.1
  have hS : va_S A s.heap s.heap [] := va_S.rf
  have hl : lv_has ls 1 [(0, .ref m0)] := hl
  skip
  refine lv_aload_n hx hb dX6_thrown_0 rfl (lv_at hl 0 rfl) ?_
  refine m_get hx hb (q_wsX6 hT hW) hown hK hR 25 (by decide) (q_689 hT hW) (fun _ h => h) (v := .int (zi (u 25 0))) (congrArg (fun z : Int => some (Value.int (zi z))) rfl) dX6_thrown_1 ?_
  exact z_iret hx hb hr hlocks hS (by decide) (by decide) dX6_thrown_4 ⟨rfl, hR⟩
set_option maxHeartbeats 4000000 in
set_option maxRecDepth 100000 in
theorem c_X6_fails (l : Launch) {S : State} {D : va_G} {tc : Nat → ClassId} {A : Nat → Prop} {dz : Nat} (hZ : zB S D tc A dz) {m0 : Nat} {aM : Nat → Nat} {u : zS_} {k : Int} (h0 : 0 ≤ k ∧ k ≤ 3) : zM l S A yX6_fails cX6_fails 2 (Option.some Jvm.ClassFile.FieldType.boolean) { frames := 1, locals := 20, cells := 0, slots := 0 } [.ref m0, .int (zi (k))] (mH D tc A m0 aM u) (fun v H => v = some (.int (zi (if 0 < k then 1 else 0))) ∧ mH D tc A m0 aM (ms u 25 0 k) H) := by
  refine zM.mk (by decide +kernel) (Nat.le_of_ble_eq_true rfl) ?_
  intro p e s m below meth c ls X0 hR hl
  obtain ⟨hx, hb, hml, hr, hlocks, hown, hnm, hW, hpre, hA⟩ := X0
  have X : zH S A p s m c cX6_fails 2 RX6 := ⟨hx, hb, hml, hown, hW, hpre, hA, hZ.2.2.1⟩
  have hT := hZ.1
  have hK := va_K.moved hW.alike hZ.2.1
  have hS : va_S A s.heap s.heap [] := va_S.rf
  have hl : lv_has ls 2 [(0, .ref m0), (1, .int (zi (k)))] := hl
  skip
  refine lv_aload_n hx hb dX6_fails_0 rfl (lv_at hl 0 rfl) ?_
  refine lv_iload_n hx hb dX6_fails_1 rfl (lv_at hl 1 rfl) ?_
  refine m_put (k := 25) (x := k) hx hb (q_wsX6 hT hW) hown hK hR hS (by decide) (by unfold mar; omega) (q_689 hT hW) (fun _ h => h) rfl (tyX6_ok 25 (by decide)) (by unfold mF; rw [ms_s, ms_k (by decide), ms_k (by decide), ms_k (by decide), ms_k (by decide)]; rfl) dX6_fails_2 (fun H locs hR hS => ?_)
  refine lv_iload_n hx hb dX6_fails_5 rfl (lv_at hl 1 rfl) ?_
  refine z_if_le (a := k) (tgt := 13) hx hb dX6_fails_6 (by decide) (by omega) (fun h_6 => ?_) (fun h_6 => ?_)
  · skip
    refine lv_iconst (v := zi (0)) hx hb dX6_fails_13 rfl ?_
    exact z_zret hx hb hr rfl hlocks hS (by decide) (by decide) dX6_fails_14 ⟨by rw [show (if 0 < k then 1 else 0 : Int) = 0 by omega], hR⟩
  · skip
    refine lv_iconst (v := zi (1)) hx hb dX6_fails_9 rfl ?_
    refine lv_goto (tgt := 14) hx hb dX6_fails_10 (by decide) ?_
    exact z_zret hx hb hr rfl hlocks hS (by decide) (by decide) dX6_fails_14 ⟨by rw [show (if 0 < k then 1 else 0 : Int) = 1 by omega], hR⟩
set_option maxHeartbeats 4000000 in
set_option maxRecDepth 100000 in
theorem c_X6_in (l : Launch) {S : State} {D : va_G} {tc : Nat → ClassId} {A : Nat → Prop} {dz : Nat} (hZ : zB S D tc A dz) {m0 : Nat} {aM : Nat → Nat} {u : zS_} {a lo hi : Int} (h0 : -2147483648 ≤ a ∧ a ≤ 2147483647 ∧ -2147483648 ≤ lo ∧ lo ≤ 2147483647 ∧ -2147483648 ≤ hi ∧ hi ≤ 2147483647) : zM l S A yX6_in cX6_in 4 (Option.some Jvm.ClassFile.FieldType.boolean) { frames := 1, locals := 20, cells := 0, slots := 0 } [.ref m0, .int (zi (a)), .int (zi (lo)), .int (zi (hi))] (mH D tc A m0 aM u) (fun v H => v = some (.int (zi (if lo ≤ a ∧ a ≤ hi then 1 else 0))) ∧ mH D tc A m0 aM u H) := by
  refine zM.mk (by decide +kernel) (Nat.le_of_ble_eq_true rfl) ?_
  intro p e s m below meth c ls X0 hR hl
  obtain ⟨hx, hb, hml, hr, hlocks, hown, hnm, hW, hpre, hA⟩ := X0
  have X : zH S A p s m c cX6_in 4 RX6 := ⟨hx, hb, hml, hown, hW, hpre, hA, hZ.2.2.1⟩
  have hT := hZ.1
  have hK := va_K.moved hW.alike hZ.2.1
  have hS : va_S A s.heap s.heap [] := va_S.rf
  have hl : lv_has ls 4 [(0, .ref m0), (1, .int (zi (a))), (2, .int (zi (lo))), (3, .int (zi (hi)))] := hl
  skip
  refine lv_iload_n hx hb dX6_in_0 rfl (lv_at hl 1 rfl) ?_
  refine lv_iload_n hx hb dX6_in_1 rfl (lv_at hl 2 rfl) ?_
  refine z_icmp_lt (a := a) (b := lo) (tgt := 14) hx hb dX6_in_2 (by decide) (by omega) (fun h_2 => ?_) (fun h_2 => ?_)
  · skip
    refine lv_iconst (v := zi (0)) hx hb dX6_in_14 rfl ?_
    exact z_zret hx hb hr rfl hlocks hS (by decide) (by decide) dX6_in_15 ⟨by rw [show (if lo ≤ a ∧ a ≤ hi then 1 else 0 : Int) = 0 by omega], hR⟩
  · skip
    refine lv_iload_n hx hb dX6_in_5 rfl (lv_at hl 1 rfl) ?_
    refine lv_iload_n hx hb dX6_in_6 rfl (lv_at hl 3 rfl) ?_
    refine z_icmp_gt (a := a) (b := hi) (tgt := 14) hx hb dX6_in_7 (by decide) (by omega) (fun h_7 => ?_) (fun h_7 => ?_)
    · skip
      refine lv_iconst (v := zi (0)) hx hb dX6_in_14 rfl ?_
      exact z_zret hx hb hr rfl hlocks hS (by decide) (by decide) dX6_in_15 ⟨by rw [show (if lo ≤ a ∧ a ≤ hi then 1 else 0 : Int) = 0 by omega], hR⟩
    · skip
      refine lv_iconst (v := zi (1)) hx hb dX6_in_10 rfl ?_
      refine lv_goto (tgt := 15) hx hb dX6_in_11 (by decide) ?_
      exact z_zret hx hb hr rfl hlocks hS (by decide) (by decide) dX6_in_15 ⟨by rw [show (if lo ≤ a ∧ a ≤ hi then 1 else 0 : Int) = 1 by omega], hR⟩
set_option maxHeartbeats 4000000 in
set_option maxRecDepth 100000 in
theorem c_X6_flat (l : Launch) {S : State} {D : va_G} {tc : Nat → ClassId} {A : Nat → Prop} {dz : Nat} (hZ : zB S D tc A dz) {m0 : Nat} {aM : Nat → Nat} {u : zS_} {a : Int} (h0 : -2147483647 ≤ a ∧ a ≤ 2147483647) : zM l S A yX6_flat cX6_flat 2 (Option.some Jvm.ClassFile.FieldType.int) { frames := 1, locals := 20, cells := 0, slots := 0 } [.ref m0, .int (zi (a))] (mH D tc A m0 aM u) (fun v H => v = some (.int (zi (mab a))) ∧ mH D tc A m0 aM u H) := by
  refine zM.mk (by decide +kernel) (Nat.le_of_ble_eq_true rfl) ?_
  intro p e s m below meth c ls X0 hR hl
  obtain ⟨hx, hb, hml, hr, hlocks, hown, hnm, hW, hpre, hA⟩ := X0
  have X : zH S A p s m c cX6_flat 2 RX6 := ⟨hx, hb, hml, hown, hW, hpre, hA, hZ.2.2.1⟩
  have hT := hZ.1
  have hK := va_K.moved hW.alike hZ.2.1
  have hS : va_S A s.heap s.heap [] := va_S.rf
  have hl : lv_has ls 2 [(0, .ref m0), (1, .int (zi (a)))] := hl
  skip
  refine lv_iload_n hx hb dX6_flat_0 rfl (lv_at hl 1 rfl) ?_
  refine z_if_ge (a := a) (tgt := 9) hx hb dX6_flat_1 (by decide) (by omega) (fun h_1 => ?_) (fun h_1 => ?_)
  · skip
    refine lv_iload_n hx hb dX6_flat_9 rfl (lv_at hl 1 rfl) ?_
    exact z_iret hx hb hr hlocks hS (by decide) (by decide) dX6_flat_10 ⟨by rw [show mab a = a by unfold mab; omega], hR⟩
  · skip
    refine lv_iload_n hx hb dX6_flat_4 rfl (lv_at hl 1 rfl) ?_
    refine z_ineg (a := a) hx hb dX6_flat_5 ?_
    refine lv_goto (tgt := 10) hx hb dX6_flat_6 (by decide) ?_
    exact z_iret hx hb hr hlocks hS (by decide) (by decide) dX6_flat_10 ⟨by rw [show mab a = (-(a)) by unfold mab; omega], hR⟩
set_option maxHeartbeats 4000000 in
set_option maxRecDepth 100000 in
theorem c_X6_way (l : Launch) {S : State} {D : va_G} {tc : Nat → ClassId} {A : Nat → Prop} {dz : Nat} (hZ : zB S D tc A dz) {m0 : Nat} {aM : Nat → Nat} {u : zS_} {a b : Int} (h0 : 0 ≤ a ∧ a ≤ 47 ∧ 0 ≤ b ∧ b ≤ 47) : zM l S A yX6_way cX6_way 3 (Option.some Jvm.ClassFile.FieldType.int) { frames := 2, locals := 50, cells := 0, slots := 0 } [.ref m0, .int (zi (a)), .int (zi (b))] (mH D tc A m0 aM u) (fun v H => v = some (.int (zi (mway a b))) ∧ mH D tc A m0 aM u H) := by
  refine zM.mk (by decide +kernel) (Nat.le_of_ble_eq_true rfl) ?_
  intro p e s m below meth c ls X0 hR hl
  obtain ⟨hx, hb, hml, hr, hlocks, hown, hnm, hW, hpre, hA⟩ := X0
  have X : zH S A p s m c cX6_way 3 RX6 := ⟨hx, hb, hml, hown, hW, hpre, hA, hZ.2.2.1⟩
  have hT := hZ.1
  have hK := va_K.moved hW.alike hZ.2.1
  have hS : va_S A s.heap s.heap [] := va_S.rf
  have hl : lv_has ls 3 [(0, .ref m0), (1, .int (zi (a))), (2, .int (zi (b)))] := hl
  skip
  refine lv_aload_n hx hb dX6_way_0 rfl (lv_at hl 0 rfl) ?_
  refine lv_iload_n hx hb dX6_way_1 rfl (lv_at hl 1 rfl) ?_
  refine lv_bipush (v := zi (8)) hx hb dX6_way_2 rfl ?_
  refine z_irem (a := a) (b := 8) hx hb dX6_way_4 (by omega) ?_
  refine lv_iload_n hx hb dX6_way_5 rfl (lv_at hl 2 rfl) ?_
  refine lv_bipush (v := zi (8)) hx hb dX6_way_6 rfl ?_
  refine z_irem (a := b) (b := 8) hx hb dX6_way_8 (by omega) ?_
  refine z_isub (a := (a % 8)) (b := (b % 8)) hx hb dX6_way_9 ?_
  refine z_invV (n := 1) (C := RX6) (c_X6_flat l hZ (u := u) (a := ((a % 8) - (b % 8))) (by omega)) X hS hR hl.1 (q_806 hT hW) (q_7 hT hW) (q_803 hT hW) (q_805 hT hW) (q_p25 hT hW) (m_recv hK hR) (by decide +kernel) rfl ⟨Nat.le_of_ble_eq_true rfl, Nat.le_of_ble_eq_true rfl⟩ ⟨Nat.le_of_ble_eq_true rfl, Nat.le_of_ble_eq_true rfl⟩ (Nat.le_of_ble_eq_true rfl) dX6_way_10 (fun v H locs hv hS => ?_) rfl
  obtain ⟨rfl, hR⟩ := hv
  refine lv_aload_n hx hb dX6_way_13 rfl (lv_at hl 0 rfl) ?_
  refine lv_iload_n hx hb dX6_way_14 rfl (lv_at hl 1 rfl) ?_
  refine lv_bipush (v := zi (8)) hx hb dX6_way_15 rfl ?_
  refine z_idiv (a := a) (b := 8) hx hb dX6_way_17 (by omega) ?_
  refine lv_iload_n hx hb dX6_way_18 rfl (lv_at hl 2 rfl) ?_
  refine lv_bipush (v := zi (8)) hx hb dX6_way_19 rfl ?_
  refine z_idiv (a := b) (b := 8) hx hb dX6_way_21 (by omega) ?_
  refine z_isub (a := (a / 8)) (b := (b / 8)) hx hb dX6_way_22 ?_
  refine z_invV (n := 1) (C := RX6) (c_X6_flat l hZ (u := u) (a := ((a / 8) - (b / 8))) (by omega)) X hS hR hl.1 (q_806 hT hW) (q_7 hT hW) (q_803 hT hW) (q_805 hT hW) (q_p25 hT hW) (m_recv hK hR) (by decide +kernel) rfl ⟨Nat.le_of_ble_eq_true rfl, Nat.le_of_ble_eq_true rfl⟩ ⟨Nat.le_of_ble_eq_true rfl, Nat.le_of_ble_eq_true rfl⟩ (Nat.le_of_ble_eq_true rfl) dX6_way_23 (fun v H locs hv hS => ?_) rfl
  obtain ⟨rfl, hR⟩ := hv
  refine z_iadd (a := (mab ((a % 8) - (b % 8)))) (b := (mab ((a / 8) - (b / 8)))) hx hb dX6_way_26 ?_
  exact z_iret hx hb hr hlocks hS (by decide) (by decide) dX6_way_27 ⟨rfl, hR⟩
set_option maxHeartbeats 4000000 in
set_option maxRecDepth 100000 in
theorem c_X6_isBoat (l : Launch) {S : State} {D : va_G} {tc : Nat → ClassId} {A : Nat → Prop} {dz : Nat} (hZ : zB S D tc A dz) {m0 : Nat} {aM : Nat → Nat} {u : zS_} {a : Int} (h0 : -2147483648 ≤ a ∧ a ≤ 2147483647) (hI : zIn u) : zM l S A yX6_isBoat cX6_isBoat 2 (Option.some Jvm.ClassFile.FieldType.boolean) { frames := 2, locals := 50, cells := 0, slots := 0 } [.ref m0, .int (zi (a))] (mH D tc A m0 aM u) (fun v H => v = some (.int (zi (if 0 ≤ a ∧ a ≤ u 13 0 - 1 then 1 else 0))) ∧ mH D tc A m0 aM u H) := by
  refine zM.mk (by decide +kernel) (Nat.le_of_ble_eq_true rfl) ?_
  intro p e s m below meth c ls X0 hR hl
  obtain ⟨hx, hb, hml, hr, hlocks, hown, hnm, hW, hpre, hA⟩ := X0
  have X : zH S A p s m c cX6_isBoat 2 RX6 := ⟨hx, hb, hml, hown, hW, hpre, hA, hZ.2.2.1⟩
  have hT := hZ.1
  have hK := va_K.moved hW.alike hZ.2.1
  have hS : va_S A s.heap s.heap [] := va_S.rf
  have hl : lv_has ls 2 [(0, .ref m0), (1, .int (zi (a)))] := hl
  skip
  have hI1 := hI.1
  refine lv_aload_n hx hb dX6_isBoat_0 rfl (lv_at hl 0 rfl) ?_
  refine lv_iload_n hx hb dX6_isBoat_1 rfl (lv_at hl 1 rfl) ?_
  refine lv_iconst (v := zi (0)) hx hb dX6_isBoat_2 rfl ?_
  refine lv_aload_n hx hb dX6_isBoat_3 rfl (lv_at hl 0 rfl) ?_
  refine m_get hx hb (q_wsX6 hT hW) hown hK hR 13 (by decide) (q_677 hT hW) (fun _ h => h) (v := .int (zi (u 13 0))) (congrArg (fun z : Int => some (Value.int (zi z))) rfl) dX6_isBoat_4 ?_
  refine lv_iconst (v := zi (1)) hx hb dX6_isBoat_7 rfl ?_
  refine z_isub (a := (u 13 0)) (b := 1) hx hb dX6_isBoat_8 ?_
  refine z_invV (n := 3) (C := RX6) (c_X6_in l hZ (u := u) (a := a) (lo := 0) (hi := (u 13 0 - 1)) (by omega)) X hS hR hl.1 (q_754 hT hW) (q_7 hT hW) (q_751 hT hW) (q_753 hT hW) (q_p17 hT hW) (m_recv hK hR) (by decide +kernel) rfl ⟨Nat.le_of_ble_eq_true rfl, Nat.le_of_ble_eq_true rfl⟩ ⟨Nat.le_of_ble_eq_true rfl, Nat.le_of_ble_eq_true rfl⟩ (Nat.le_of_ble_eq_true rfl) dX6_isBoat_9 (fun v H locs hv hS => ?_) rfl
  obtain ⟨rfl, hR⟩ := hv
  have hn9 : narrow .boolean (.int (zi (if 0 ≤ a ∧ a ≤ u 13 0 - 1 then 1 else 0))) = .int (zi (if 0 ≤ a ∧ a ≤ u 13 0 - 1 then 1 else 0)) := by split <;> rfl
  exact z_zret hx hb hr hn9 hlocks hS (by decide) (by decide) dX6_isBoat_12 ⟨rfl, hR⟩
set_option maxHeartbeats 4000000 in
set_option maxRecDepth 100000 in
theorem c_X6_hours (l : Launch) {S : State} {D : va_G} {tc : Nat → ClassId} {A : Nat → Prop} {dz : Nat} (hZ : zB S D tc A dz) {m0 : Nat} {aM : Nat → Nat} {u : zS_} {bi ji : Int} (h0 : 0 ≤ u 3 bi.toNat ∧ u 3 bi.toNat ≤ 47 ∧ 0 ≤ u 14 ji.toNat ∧ u 14 ji.toNat ≤ 47 ∧ 1 ≤ u 4 bi.toNat ∧ u 4 bi.toNat ≤ 3 ∧ 0 ≤ bi ∧ bi < 6 ∧ 0 ≤ ji ∧ ji < 30) : zM l S A yX6_hours cX6_hours 4 (Option.some Jvm.ClassFile.FieldType.int) { frames := 3, locals := 80, cells := 0, slots := 0 } [.ref m0, .int (zi (bi)), .int (zi (ji))] (mH D tc A m0 aM u) (fun v H => v = some (.int (zi (mhours u bi.toNat ji.toNat))) ∧ mH D tc A m0 aM u H) := by
  refine zM.mk (by decide +kernel) (Nat.le_of_ble_eq_true rfl) ?_
  intro p e s m below meth c ls X0 hR hl
  obtain ⟨hx, hb, hml, hr, hlocks, hown, hnm, hW, hpre, hA⟩ := X0
  have X : zH S A p s m c cX6_hours 4 RX6 := ⟨hx, hb, hml, hown, hW, hpre, hA, hZ.2.2.1⟩
  have hT := hZ.1
  have hK := va_K.moved hW.alike hZ.2.1
  have hS : va_S A s.heap s.heap [] := va_S.rf
  have hl : lv_has ls 4 [(0, .ref m0), (1, .int (zi (bi))), (2, .int (zi (ji)))] := hl
  skip
  have hw0 := mway_r (a := u 3 bi.toNat) (b := u 14 ji.toNat) (by omega)
  have hi0 := mits_r (u := u) (b := bi.toNat) (c := ji.toNat) (by omega)
  refine lv_aload_n hx hb dX6_hours_0 rfl (lv_at hl 0 rfl) ?_
  refine lv_aload_n hx hb dX6_hours_1 rfl (lv_at hl 0 rfl) ?_
  refine m_get hx hb (q_wsX6 hT hW) hown hK hR 3 (by decide) (q_667 hT hW) (fun _ h => h) (v := .ref (aM 3)) rfl dX6_hours_2 ?_
  refine lv_iload_n hx hb dX6_hours_5 rfl (lv_at hl 1 rfl) ?_
  refine m_iald (k := 3) (i := bi) (v := u 3 bi.toNat) hx hb hK hR (by unfold mar; omega) (by decide) (by show 0 ≤ bi ∧ bi < ((6 : Nat) : Int); omega) rfl dX6_hours_6 ?_
  refine lv_aload_n hx hb dX6_hours_7 rfl (lv_at hl 0 rfl) ?_
  refine m_get hx hb (q_wsX6 hT hW) hown hK hR 14 (by decide) (q_678 hT hW) (fun _ h => h) (v := .ref (aM 14)) rfl dX6_hours_8 ?_
  refine lv_iload_n hx hb dX6_hours_11 rfl (lv_at hl 2 rfl) ?_
  refine m_iald (k := 14) (i := ji) (v := u 14 ji.toNat) hx hb hK hR (by unfold mar; omega) (by decide) (by show 0 ≤ ji ∧ ji < ((30 : Nat) : Int); omega) rfl dX6_hours_12 ?_
  refine z_invV (n := 2) (C := RX6) (c_X6_way l hZ (u := u) (a := u 3 bi.toNat) (b := u 14 ji.toNat) (by omega)) X hS hR hl.1 (q_802 hT hW) (q_7 hT hW) (q_799 hT hW) (q_801 hT hW) (q_p24 hT hW) (m_recv hK hR) (by decide +kernel) rfl ⟨Nat.le_of_ble_eq_true rfl, Nat.le_of_ble_eq_true rfl⟩ ⟨Nat.le_of_ble_eq_true rfl, Nat.le_of_ble_eq_true rfl⟩ (Nat.le_of_ble_eq_true rfl) dX6_hours_13 (fun v H locs hv hS => ?_) rfl
  obtain ⟨rfl, hR⟩ := hv
  refine lv_aload_n hx hb dX6_hours_16 rfl (lv_at hl 0 rfl) ?_
  refine m_get hx hb (q_wsX6 hT hW) hown hK hR 4 (by decide) (q_668 hT hW) (fun _ h => h) (v := .ref (aM 4)) rfl dX6_hours_17 ?_
  refine lv_iload_n hx hb dX6_hours_20 rfl (lv_at hl 1 rfl) ?_
  refine m_iald (k := 4) (i := bi) (v := u 4 bi.toNat) hx hb hK hR (by unfold mar; omega) (by decide) (by show 0 ≤ bi ∧ bi < ((6 : Nat) : Int); omega) rfl dX6_hours_21 ?_
  refine z_iadd (a := (mway (u 3 bi.toNat) (u 14 ji.toNat))) (b := (u 4 bi.toNat)) hx hb dX6_hours_22 ?_
  refine lv_iconst (v := zi (1)) hx hb dX6_hours_23 rfl ?_
  refine z_isub (a := (mway (u 3 bi.toNat) (u 14 ji.toNat) + u 4 bi.toNat)) (b := 1) hx hb dX6_hours_24 ?_
  refine lv_aload_n hx hb dX6_hours_25 rfl (lv_at hl 0 rfl) ?_
  refine m_get hx hb (q_wsX6 hT hW) hown hK hR 4 (by decide) (q_668 hT hW) (fun _ h => h) (v := .ref (aM 4)) rfl dX6_hours_26 ?_
  refine lv_iload_n hx hb dX6_hours_29 rfl (lv_at hl 1 rfl) ?_
  refine m_iald (k := 4) (i := bi) (v := u 4 bi.toNat) hx hb hK hR (by unfold mar; omega) (by decide) (by show 0 ≤ bi ∧ bi < ((6 : Nat) : Int); omega) rfl dX6_hours_30 ?_
  refine z_idiv (a := (mway (u 3 bi.toNat) (u 14 ji.toNat) + u 4 bi.toNat - 1)) (b := (u 4 bi.toNat)) hx hb dX6_hours_31 (by omega) ?_
  rw [show (mway (u 3 bi.toNat) (u 14 ji.toNat) + u 4 bi.toNat - 1) / u 4 bi.toNat = mits u bi.toNat ji.toNat from rfl]
  refine lv_istore_n (lv' := [(3, .int (zi ((mits u bi.toNat ji.toNat)))), (0, .ref m0), (1, .int (zi (bi))), (2, .int (zi (ji)))]) hx hb dX6_hours_32 rfl hl (by decide) rfl (fun ls hl => ?_)
  refine lv_iload_n hx hb dX6_hours_33 rfl (lv_at hl 0 rfl) ?_
  refine lv_iconst (v := zi (1)) hx hb dX6_hours_34 rfl ?_
  refine z_icmp_ge (a := (mits u bi.toNat ji.toNat)) (b := 1) (tgt := 42) hx hb dX6_hours_35 (by decide) (by omega) (fun h_35 => ?_) (fun h_35 => ?_)
  · skip
    refine lv_iload_n hx hb dX6_hours_42 rfl (lv_at hl 0 rfl) ?_
    exact z_iret hx hb hr hlocks hS (by decide) (by decide) dX6_hours_43 ⟨by rw [show mhours u bi.toNat ji.toNat = (mits u bi.toNat ji.toNat) by unfold mhours; omega], hR⟩
  · skip
    refine lv_iconst (v := zi (1)) hx hb dX6_hours_38 rfl ?_
    refine lv_goto (tgt := 43) hx hb dX6_hours_39 (by decide) ?_
    exact z_iret hx hb hr hlocks hS (by decide) (by decide) dX6_hours_43 ⟨by rw [show mhours u bi.toNat ji.toNat = 1 by unfold mhours; omega], hR⟩
set_option maxHeartbeats 4000000 in
set_option maxRecDepth 100000 in
theorem c_X6_can (l : Launch) {S : State} {D : va_G} {tc : Nat → ClassId} {A : Nat → Prop} {dz : Nat} (hZ : zB S D tc A dz) {m0 : Nat} {aM : Nat → Nat} {u : zS_} {bi ji : Int} (h0 : 0 ≤ u 3 bi.toNat ∧ u 3 bi.toNat ≤ 47 ∧ 0 ≤ u 14 ji.toNat ∧ u 14 ji.toNat ≤ 47 ∧ 1 ≤ u 4 bi.toNat ∧ u 4 bi.toNat ≤ 3 ∧ 0 ≤ bi ∧ bi < 6 ∧ 0 ≤ ji ∧ ji < 30) (h1 : 0 ≤ u 24 0 ∧ u 24 0 ≤ 999 ∧ 0 ≤ u 16 ji.toNat ∧ u 16 ji.toNat ≤ 999 ∧ 0 ≤ u 6 bi.toNat ∧ u 6 bi.toNat ≤ 100 ∧ 0 ≤ u 8 bi.toNat ∧ u 8 bi.toNat ≤ 2 ∧ 0 ≤ u 7 bi.toNat ∧ u 7 bi.toNat ≤ 9) (hs : ∀ j : Nat, 0 ≤ u 0 j ∧ u 0 j ≤ 9) : zM l S A yX6_can cX6_can 5 (Option.some Jvm.ClassFile.FieldType.boolean) { frames := 4, locals := 110, cells := 0, slots := 0 } [.ref m0, .int (zi (bi)), .int (zi (ji))] (mH D tc A m0 aM u) (fun v H => (∃ r : Int, v = some (.int (zi r)) ∧ (mcan u bi.toNat ji.toNat → r = 1) ∧ (¬ mcan u bi.toNat ji.toNat → r = 0)) ∧ mH D tc A m0 aM u H) := by
  refine zM.mk (by decide +kernel) (Nat.le_of_ble_eq_true rfl) ?_
  intro p e s m below meth c ls X0 hR hl
  obtain ⟨hx, hb, hml, hr, hlocks, hown, hnm, hW, hpre, hA⟩ := X0
  have X : zH S A p s m c cX6_can 5 RX6 := ⟨hx, hb, hml, hown, hW, hpre, hA, hZ.2.2.1⟩
  have hT := hZ.1
  have hK := va_K.moved hW.alike hZ.2.1
  have hS : va_S A s.heap s.heap [] := va_S.rf
  have hl : lv_has ls 5 [(0, .ref m0), (1, .int (zi (bi))), (2, .int (zi (ji)))] := hl
  skip
  have hw0 := mway_r (a := u 3 bi.toNat) (b := u 14 ji.toNat) (by omega)
  have hi0 := mhours_r (u := u) (b := bi.toNat) (c := ji.toNat) (by omega)
  refine lv_aload_n hx hb dX6_can_0 rfl (lv_at hl 0 rfl) ?_
  refine lv_iload_n hx hb dX6_can_1 rfl (lv_at hl 1 rfl) ?_
  refine lv_iload_n hx hb dX6_can_2 rfl (lv_at hl 2 rfl) ?_
  refine z_invV (n := 2) (C := RX6) (c_X6_hours l hZ (u := u) (bi := bi) (ji := ji) h0) X hS hR hl.1 (q_818 hT hW) (q_7 hT hW) (q_815 hT hW) (q_817 hT hW) (q_p28 hT hW) (m_recv hK hR) (by decide +kernel) rfl ⟨Nat.le_of_ble_eq_true rfl, Nat.le_of_ble_eq_true rfl⟩ ⟨Nat.le_of_ble_eq_true rfl, Nat.le_of_ble_eq_true rfl⟩ (Nat.le_of_ble_eq_true rfl) dX6_can_3 (fun v H locs hv hS => ?_) rfl
  obtain ⟨rfl, hR⟩ := hv
  refine lv_istore_n (lv' := [(3, .int (zi ((mhours u bi.toNat ji.toNat)))), (0, .ref m0), (1, .int (zi (bi))), (2, .int (zi (ji)))]) hx hb dX6_can_6 rfl hl (by decide) rfl (fun ls hl => ?_)
  refine lv_aload_n hx hb dX6_can_7 rfl (lv_at hl 1 rfl) ?_
  refine m_get hx hb (q_wsX6 hT hW) hown hK hR 8 (by decide) (q_672 hT hW) (fun _ h => h) (v := .ref (aM 8)) rfl dX6_can_8 ?_
  refine lv_iload_n hx hb dX6_can_11 rfl (lv_at hl 2 rfl) ?_
  refine m_iald (k := 8) (i := bi) (v := u 8 bi.toNat) hx hb hK hR (by unfold mar; omega) (by decide) (by show 0 ≤ bi ∧ bi < ((6 : Nat) : Int); omega) rfl dX6_can_12 ?_
  refine z_if_ne (a := (u 8 bi.toNat)) (tgt := 67) hx hb dX6_can_13 (by decide) (by omega) (fun h_13 => ?_) (fun h_13 => ?_)
  · skip
    refine lv_iconst (v := zi (0)) hx hb dX6_can_67 rfl ?_
    refine lv_istore (lv' := [(4, .int (zi (0))), (3, .int (zi ((mhours u bi.toNat ji.toNat)))), (0, .ref m0), (1, .int (zi (bi))), (2, .int (zi (ji)))]) hx hb dX6_can_68 hl (by decide) rfl (fun ls hl => ?_)
    refine lv_iload hx hb dX6_can_70 (lv_at hl 0 rfl) ?_
    refine z_if_eq (a := 0) (tgt := 110) hx hb dX6_can_72 (by decide) (by omega) (fun h_72 => ?_) (fun h_72 => ?_)
    · skip
      refine lv_iconst (v := zi (0)) hx hb dX6_can_110 rfl ?_
      exact z_zret hx hb hr rfl hlocks hS (by decide) (by decide) dX6_can_111 ⟨⟨0, rfl, fun h9 => by (try unfold mcan at h9); omega, fun h9 => by (try unfold mcan at h9); omega⟩, hR⟩
    · skip
      refine lv_aload_n hx hb dX6_can_75 rfl (lv_at hl 2 rfl) ?_
      refine m_get hx hb (q_wsX6 hT hW) hown hK hR 0 (by decide) (q_664 hT hW) (fun _ h => h) (v := .ref (aM 0)) rfl dX6_can_76 ?_
      refine lv_sipush (v := zi (1000)) hx hb dX6_can_79 rfl ?_
      refine lv_aload_n hx hb dX6_can_82 rfl (lv_at hl 2 rfl) ?_
      refine m_get hx hb (q_wsX6 hT hW) hown hK hR 14 (by decide) (q_678 hT hW) (fun _ h => h) (v := .ref (aM 14)) rfl dX6_can_83 ?_
      refine lv_iload_n hx hb dX6_can_86 rfl (lv_at hl 4 rfl) ?_
      refine m_iald (k := 14) (i := ji) (v := u 14 ji.toNat) hx hb hK hR (by unfold mar; omega) (by decide) (by show 0 ≤ ji ∧ ji < ((30 : Nat) : Int); omega) rfl dX6_can_87 ?_
      refine z_imul (a := 1000) (b := (u 14 ji.toNat)) hx hb dX6_can_88 ?_
      refine lv_aload_n hx hb dX6_can_89 rfl (lv_at hl 2 rfl) ?_
      refine m_get hx hb (q_wsX6 hT hW) hown hK hR 24 (by decide) (q_688 hT hW) (fun _ h => h) (v := .int (zi (u 24 0))) (congrArg (fun z : Int => some (Value.int (zi z))) rfl) dX6_can_90 ?_
      refine z_iadd (a := (1000 * (u 14 ji.toNat))) (b := (u 24 0)) hx hb dX6_can_93 ?_
      refine lv_iload_n hx hb dX6_can_94 rfl (lv_at hl 1 rfl) ?_
      refine z_iadd (a := ((1000 * (u 14 ji.toNat)) + (u 24 0))) (b := (mhours u bi.toNat ji.toNat)) hx hb dX6_can_95 ?_
      have hst := hs (1000 * u 14 ji.toNat + u 24 0 + mhours u bi.toNat ji.toNat).toNat
      rw [show (((1000 * (u 14 ji.toNat)) + (u 24 0)) + (mhours u bi.toNat ji.toNat)) = 1000 * u 14 ji.toNat + u 24 0 + mhours u bi.toNat ji.toNat by omega]
      refine m_bald (i := (1000 * u 14 ji.toNat + u 24 0 + mhours u bi.toNat ji.toNat)) (v := u 0 (1000 * u 14 ji.toNat + u 24 0 + mhours u bi.toNat ji.toNat).toNat) hx hb hK hR (by omega) rfl dX6_can_96 ?_
      refine lv_aload_n hx hb dX6_can_97 rfl (lv_at hl 2 rfl) ?_
      refine m_get hx hb (q_wsX6 hT hW) hown hK hR 7 (by decide) (q_671 hT hW) (fun _ h => h) (v := .ref (aM 7)) rfl dX6_can_98 ?_
      refine lv_iload_n hx hb dX6_can_101 rfl (lv_at hl 3 rfl) ?_
      refine m_iald (k := 7) (i := bi) (v := u 7 bi.toNat) hx hb hK hR (by unfold mar; omega) (by decide) (by show 0 ≤ bi ∧ bi < ((6 : Nat) : Int); omega) rfl dX6_can_102 ?_
      refine z_icmp_gt (a := (u 0 (1000 * u 14 ji.toNat + u 24 0 + mhours u bi.toNat ji.toNat).toNat)) (b := (u 7 bi.toNat)) (tgt := 110) hx hb dX6_can_103 (by decide) (by omega) (fun h_103 => ?_) (fun h_103 => ?_)
      · skip
        refine lv_iconst (v := zi (0)) hx hb dX6_can_110 rfl ?_
        exact z_zret hx hb hr rfl hlocks hS (by decide) (by decide) dX6_can_111 ⟨⟨0, rfl, fun h9 => by (try unfold mcan at h9); omega, fun h9 => by (try unfold mcan at h9); omega⟩, hR⟩
      · skip
        refine lv_iconst (v := zi (1)) hx hb dX6_can_106 rfl ?_
        refine lv_goto (tgt := 111) hx hb dX6_can_107 (by decide) ?_
        exact z_zret hx hb hr rfl hlocks hS (by decide) (by decide) dX6_can_111 ⟨⟨1, rfl, fun h9 => by (try unfold mcan at h9); omega, fun h9 => by (try unfold mcan at h9); omega⟩, hR⟩
  · skip
    refine lv_iload_n hx hb dX6_can_16 rfl (lv_at hl 0 rfl) ?_
    refine lv_iconst (v := zi (5)) hx hb dX6_can_17 rfl ?_
    refine z_icmp_gt (a := (mhours u bi.toNat ji.toNat)) (b := 5) (tgt := 67) hx hb dX6_can_18 (by decide) (by omega) (fun h_18 => ?_) (fun h_18 => ?_)
    · skip
      refine lv_iconst (v := zi (0)) hx hb dX6_can_67 rfl ?_
      refine lv_istore (lv' := [(4, .int (zi (0))), (3, .int (zi ((mhours u bi.toNat ji.toNat)))), (0, .ref m0), (1, .int (zi (bi))), (2, .int (zi (ji)))]) hx hb dX6_can_68 hl (by decide) rfl (fun ls hl => ?_)
      refine lv_iload hx hb dX6_can_70 (lv_at hl 0 rfl) ?_
      refine z_if_eq (a := 0) (tgt := 110) hx hb dX6_can_72 (by decide) (by omega) (fun h_72 => ?_) (fun h_72 => ?_)
      · skip
        refine lv_iconst (v := zi (0)) hx hb dX6_can_110 rfl ?_
        exact z_zret hx hb hr rfl hlocks hS (by decide) (by decide) dX6_can_111 ⟨⟨0, rfl, fun h9 => by (try unfold mcan at h9); omega, fun h9 => by (try unfold mcan at h9); omega⟩, hR⟩
      · skip
        refine lv_aload_n hx hb dX6_can_75 rfl (lv_at hl 2 rfl) ?_
        refine m_get hx hb (q_wsX6 hT hW) hown hK hR 0 (by decide) (q_664 hT hW) (fun _ h => h) (v := .ref (aM 0)) rfl dX6_can_76 ?_
        refine lv_sipush (v := zi (1000)) hx hb dX6_can_79 rfl ?_
        refine lv_aload_n hx hb dX6_can_82 rfl (lv_at hl 2 rfl) ?_
        refine m_get hx hb (q_wsX6 hT hW) hown hK hR 14 (by decide) (q_678 hT hW) (fun _ h => h) (v := .ref (aM 14)) rfl dX6_can_83 ?_
        refine lv_iload_n hx hb dX6_can_86 rfl (lv_at hl 4 rfl) ?_
        refine m_iald (k := 14) (i := ji) (v := u 14 ji.toNat) hx hb hK hR (by unfold mar; omega) (by decide) (by show 0 ≤ ji ∧ ji < ((30 : Nat) : Int); omega) rfl dX6_can_87 ?_
        refine z_imul (a := 1000) (b := (u 14 ji.toNat)) hx hb dX6_can_88 ?_
        refine lv_aload_n hx hb dX6_can_89 rfl (lv_at hl 2 rfl) ?_
        refine m_get hx hb (q_wsX6 hT hW) hown hK hR 24 (by decide) (q_688 hT hW) (fun _ h => h) (v := .int (zi (u 24 0))) (congrArg (fun z : Int => some (Value.int (zi z))) rfl) dX6_can_90 ?_
        refine z_iadd (a := (1000 * (u 14 ji.toNat))) (b := (u 24 0)) hx hb dX6_can_93 ?_
        refine lv_iload_n hx hb dX6_can_94 rfl (lv_at hl 1 rfl) ?_
        refine z_iadd (a := ((1000 * (u 14 ji.toNat)) + (u 24 0))) (b := (mhours u bi.toNat ji.toNat)) hx hb dX6_can_95 ?_
        have hst := hs (1000 * u 14 ji.toNat + u 24 0 + mhours u bi.toNat ji.toNat).toNat
        rw [show (((1000 * (u 14 ji.toNat)) + (u 24 0)) + (mhours u bi.toNat ji.toNat)) = 1000 * u 14 ji.toNat + u 24 0 + mhours u bi.toNat ji.toNat by omega]
        refine m_bald (i := (1000 * u 14 ji.toNat + u 24 0 + mhours u bi.toNat ji.toNat)) (v := u 0 (1000 * u 14 ji.toNat + u 24 0 + mhours u bi.toNat ji.toNat).toNat) hx hb hK hR (by omega) rfl dX6_can_96 ?_
        refine lv_aload_n hx hb dX6_can_97 rfl (lv_at hl 2 rfl) ?_
        refine m_get hx hb (q_wsX6 hT hW) hown hK hR 7 (by decide) (q_671 hT hW) (fun _ h => h) (v := .ref (aM 7)) rfl dX6_can_98 ?_
        refine lv_iload_n hx hb dX6_can_101 rfl (lv_at hl 3 rfl) ?_
        refine m_iald (k := 7) (i := bi) (v := u 7 bi.toNat) hx hb hK hR (by unfold mar; omega) (by decide) (by show 0 ≤ bi ∧ bi < ((6 : Nat) : Int); omega) rfl dX6_can_102 ?_
        refine z_icmp_gt (a := (u 0 (1000 * u 14 ji.toNat + u 24 0 + mhours u bi.toNat ji.toNat).toNat)) (b := (u 7 bi.toNat)) (tgt := 110) hx hb dX6_can_103 (by decide) (by omega) (fun h_103 => ?_) (fun h_103 => ?_)
        · skip
          refine lv_iconst (v := zi (0)) hx hb dX6_can_110 rfl ?_
          exact z_zret hx hb hr rfl hlocks hS (by decide) (by decide) dX6_can_111 ⟨⟨0, rfl, fun h9 => by (try unfold mcan at h9); omega, fun h9 => by (try unfold mcan at h9); omega⟩, hR⟩
        · skip
          refine lv_iconst (v := zi (1)) hx hb dX6_can_106 rfl ?_
          refine lv_goto (tgt := 111) hx hb dX6_can_107 (by decide) ?_
          exact z_zret hx hb hr rfl hlocks hS (by decide) (by decide) dX6_can_111 ⟨⟨1, rfl, fun h9 => by (try unfold mcan at h9); omega, fun h9 => by (try unfold mcan at h9); omega⟩, hR⟩
    · skip
      refine lv_aload_n hx hb dX6_can_21 rfl (lv_at hl 1 rfl) ?_
      refine m_get hx hb (q_wsX6 hT hW) hown hK hR 24 (by decide) (q_688 hT hW) (fun _ h => h) (v := .int (zi (u 24 0))) (congrArg (fun z : Int => some (Value.int (zi z))) rfl) dX6_can_22 ?_
      refine lv_iload_n hx hb dX6_can_25 rfl (lv_at hl 0 rfl) ?_
      refine z_iadd (a := (u 24 0)) (b := (mhours u bi.toNat ji.toNat)) hx hb dX6_can_26 ?_
      refine lv_aload_n hx hb dX6_can_27 rfl (lv_at hl 1 rfl) ?_
      refine m_get hx hb (q_wsX6 hT hW) hown hK hR 16 (by decide) (q_680 hT hW) (fun _ h => h) (v := .ref (aM 16)) rfl dX6_can_28 ?_
      refine lv_iload_n hx hb dX6_can_31 rfl (lv_at hl 3 rfl) ?_
      refine m_iald (k := 16) (i := ji) (v := u 16 ji.toNat) hx hb hK hR (by unfold mar; omega) (by decide) (by show 0 ≤ ji ∧ ji < ((30 : Nat) : Int); omega) rfl dX6_can_32 ?_
      refine z_icmp_gt (a := ((u 24 0) + (mhours u bi.toNat ji.toNat))) (b := (u 16 ji.toNat)) (tgt := 67) hx hb dX6_can_33 (by decide) (by omega) (fun h_33 => ?_) (fun h_33 => ?_)
      · skip
        refine lv_iconst (v := zi (0)) hx hb dX6_can_67 rfl ?_
        refine lv_istore (lv' := [(4, .int (zi (0))), (3, .int (zi ((mhours u bi.toNat ji.toNat)))), (0, .ref m0), (1, .int (zi (bi))), (2, .int (zi (ji)))]) hx hb dX6_can_68 hl (by decide) rfl (fun ls hl => ?_)
        refine lv_iload hx hb dX6_can_70 (lv_at hl 0 rfl) ?_
        refine z_if_eq (a := 0) (tgt := 110) hx hb dX6_can_72 (by decide) (by omega) (fun h_72 => ?_) (fun h_72 => ?_)
        · skip
          refine lv_iconst (v := zi (0)) hx hb dX6_can_110 rfl ?_
          exact z_zret hx hb hr rfl hlocks hS (by decide) (by decide) dX6_can_111 ⟨⟨0, rfl, fun h9 => by (try unfold mcan at h9); omega, fun h9 => by (try unfold mcan at h9); omega⟩, hR⟩
        · skip
          refine lv_aload_n hx hb dX6_can_75 rfl (lv_at hl 2 rfl) ?_
          refine m_get hx hb (q_wsX6 hT hW) hown hK hR 0 (by decide) (q_664 hT hW) (fun _ h => h) (v := .ref (aM 0)) rfl dX6_can_76 ?_
          refine lv_sipush (v := zi (1000)) hx hb dX6_can_79 rfl ?_
          refine lv_aload_n hx hb dX6_can_82 rfl (lv_at hl 2 rfl) ?_
          refine m_get hx hb (q_wsX6 hT hW) hown hK hR 14 (by decide) (q_678 hT hW) (fun _ h => h) (v := .ref (aM 14)) rfl dX6_can_83 ?_
          refine lv_iload_n hx hb dX6_can_86 rfl (lv_at hl 4 rfl) ?_
          refine m_iald (k := 14) (i := ji) (v := u 14 ji.toNat) hx hb hK hR (by unfold mar; omega) (by decide) (by show 0 ≤ ji ∧ ji < ((30 : Nat) : Int); omega) rfl dX6_can_87 ?_
          refine z_imul (a := 1000) (b := (u 14 ji.toNat)) hx hb dX6_can_88 ?_
          refine lv_aload_n hx hb dX6_can_89 rfl (lv_at hl 2 rfl) ?_
          refine m_get hx hb (q_wsX6 hT hW) hown hK hR 24 (by decide) (q_688 hT hW) (fun _ h => h) (v := .int (zi (u 24 0))) (congrArg (fun z : Int => some (Value.int (zi z))) rfl) dX6_can_90 ?_
          refine z_iadd (a := (1000 * (u 14 ji.toNat))) (b := (u 24 0)) hx hb dX6_can_93 ?_
          refine lv_iload_n hx hb dX6_can_94 rfl (lv_at hl 1 rfl) ?_
          refine z_iadd (a := ((1000 * (u 14 ji.toNat)) + (u 24 0))) (b := (mhours u bi.toNat ji.toNat)) hx hb dX6_can_95 ?_
          have hst := hs (1000 * u 14 ji.toNat + u 24 0 + mhours u bi.toNat ji.toNat).toNat
          rw [show (((1000 * (u 14 ji.toNat)) + (u 24 0)) + (mhours u bi.toNat ji.toNat)) = 1000 * u 14 ji.toNat + u 24 0 + mhours u bi.toNat ji.toNat by omega]
          refine m_bald (i := (1000 * u 14 ji.toNat + u 24 0 + mhours u bi.toNat ji.toNat)) (v := u 0 (1000 * u 14 ji.toNat + u 24 0 + mhours u bi.toNat ji.toNat).toNat) hx hb hK hR (by omega) rfl dX6_can_96 ?_
          refine lv_aload_n hx hb dX6_can_97 rfl (lv_at hl 2 rfl) ?_
          refine m_get hx hb (q_wsX6 hT hW) hown hK hR 7 (by decide) (q_671 hT hW) (fun _ h => h) (v := .ref (aM 7)) rfl dX6_can_98 ?_
          refine lv_iload_n hx hb dX6_can_101 rfl (lv_at hl 3 rfl) ?_
          refine m_iald (k := 7) (i := bi) (v := u 7 bi.toNat) hx hb hK hR (by unfold mar; omega) (by decide) (by show 0 ≤ bi ∧ bi < ((6 : Nat) : Int); omega) rfl dX6_can_102 ?_
          refine z_icmp_gt (a := (u 0 (1000 * u 14 ji.toNat + u 24 0 + mhours u bi.toNat ji.toNat).toNat)) (b := (u 7 bi.toNat)) (tgt := 110) hx hb dX6_can_103 (by decide) (by omega) (fun h_103 => ?_) (fun h_103 => ?_)
          · skip
            refine lv_iconst (v := zi (0)) hx hb dX6_can_110 rfl ?_
            exact z_zret hx hb hr rfl hlocks hS (by decide) (by decide) dX6_can_111 ⟨⟨0, rfl, fun h9 => by (try unfold mcan at h9); omega, fun h9 => by (try unfold mcan at h9); omega⟩, hR⟩
          · skip
            refine lv_iconst (v := zi (1)) hx hb dX6_can_106 rfl ?_
            refine lv_goto (tgt := 111) hx hb dX6_can_107 (by decide) ?_
            exact z_zret hx hb hr rfl hlocks hS (by decide) (by decide) dX6_can_111 ⟨⟨1, rfl, fun h9 => by (try unfold mcan at h9); omega, fun h9 => by (try unfold mcan at h9); omega⟩, hR⟩
      · skip
        refine lv_aload_n hx hb dX6_can_36 rfl (lv_at hl 1 rfl) ?_
        refine m_get hx hb (q_wsX6 hT hW) hown hK hR 6 (by decide) (q_670 hT hW) (fun _ h => h) (v := .ref (aM 6)) rfl dX6_can_37 ?_
        refine lv_iload_n hx hb dX6_can_40 rfl (lv_at hl 2 rfl) ?_
        refine m_iald (k := 6) (i := bi) (v := u 6 bi.toNat) hx hb hK hR (by unfold mar; omega) (by decide) (by show 0 ≤ bi ∧ bi < ((6 : Nat) : Int); omega) rfl dX6_can_41 ?_
        refine lv_iconst (v := zi (2)) hx hb dX6_can_42 rfl ?_
        refine lv_aload_n hx hb dX6_can_43 rfl (lv_at hl 1 rfl) ?_
        refine lv_aload_n hx hb dX6_can_44 rfl (lv_at hl 1 rfl) ?_
        refine m_get hx hb (q_wsX6 hT hW) hown hK hR 3 (by decide) (q_667 hT hW) (fun _ h => h) (v := .ref (aM 3)) rfl dX6_can_45 ?_
        refine lv_iload_n hx hb dX6_can_48 rfl (lv_at hl 2 rfl) ?_
        refine m_iald (k := 3) (i := bi) (v := u 3 bi.toNat) hx hb hK hR (by unfold mar; omega) (by decide) (by show 0 ≤ bi ∧ bi < ((6 : Nat) : Int); omega) rfl dX6_can_49 ?_
        refine lv_aload_n hx hb dX6_can_50 rfl (lv_at hl 1 rfl) ?_
        refine m_get hx hb (q_wsX6 hT hW) hown hK hR 14 (by decide) (q_678 hT hW) (fun _ h => h) (v := .ref (aM 14)) rfl dX6_can_51 ?_
        refine lv_iload_n hx hb dX6_can_54 rfl (lv_at hl 3 rfl) ?_
        refine m_iald (k := 14) (i := ji) (v := u 14 ji.toNat) hx hb hK hR (by unfold mar; omega) (by decide) (by show 0 ≤ ji ∧ ji < ((30 : Nat) : Int); omega) rfl dX6_can_55 ?_
        refine z_invV (n := 2) (C := RX6) (c_X6_way l hZ (u := u) (a := u 3 bi.toNat) (b := u 14 ji.toNat) (by omega)) X hS hR hl.1 (q_802 hT hW) (q_7 hT hW) (q_799 hT hW) (q_801 hT hW) (q_p24 hT hW) (m_recv hK hR) (by decide +kernel) rfl ⟨Nat.le_of_ble_eq_true rfl, Nat.le_of_ble_eq_true rfl⟩ ⟨Nat.le_of_ble_eq_true rfl, Nat.le_of_ble_eq_true rfl⟩ (Nat.le_of_ble_eq_true rfl) dX6_can_56 (fun v H locs hv hS => ?_) rfl
        obtain ⟨rfl, hR⟩ := hv
        refine z_imul (a := 2) (b := (mway (u 3 bi.toNat) (u 14 ji.toNat))) hx hb dX6_can_59 ?_
        refine z_icmp_lt (a := (u 6 bi.toNat)) (b := (2 * (mway (u 3 bi.toNat) (u 14 ji.toNat)))) (tgt := 67) hx hb dX6_can_60 (by decide) (by omega) (fun h_60 => ?_) (fun h_60 => ?_)
        · skip
          refine lv_iconst (v := zi (0)) hx hb dX6_can_67 rfl ?_
          refine lv_istore (lv' := [(4, .int (zi (0))), (3, .int (zi ((mhours u bi.toNat ji.toNat)))), (0, .ref m0), (1, .int (zi (bi))), (2, .int (zi (ji)))]) hx hb dX6_can_68 hl (by decide) rfl (fun ls hl => ?_)
          refine lv_iload hx hb dX6_can_70 (lv_at hl 0 rfl) ?_
          refine z_if_eq (a := 0) (tgt := 110) hx hb dX6_can_72 (by decide) (by omega) (fun h_72 => ?_) (fun h_72 => ?_)
          · skip
            refine lv_iconst (v := zi (0)) hx hb dX6_can_110 rfl ?_
            exact z_zret hx hb hr rfl hlocks hS (by decide) (by decide) dX6_can_111 ⟨⟨0, rfl, fun h9 => by (try unfold mcan at h9); omega, fun h9 => by (try unfold mcan at h9); omega⟩, hR⟩
          · skip
            refine lv_aload_n hx hb dX6_can_75 rfl (lv_at hl 2 rfl) ?_
            refine m_get hx hb (q_wsX6 hT hW) hown hK hR 0 (by decide) (q_664 hT hW) (fun _ h => h) (v := .ref (aM 0)) rfl dX6_can_76 ?_
            refine lv_sipush (v := zi (1000)) hx hb dX6_can_79 rfl ?_
            refine lv_aload_n hx hb dX6_can_82 rfl (lv_at hl 2 rfl) ?_
            refine m_get hx hb (q_wsX6 hT hW) hown hK hR 14 (by decide) (q_678 hT hW) (fun _ h => h) (v := .ref (aM 14)) rfl dX6_can_83 ?_
            refine lv_iload_n hx hb dX6_can_86 rfl (lv_at hl 4 rfl) ?_
            refine m_iald (k := 14) (i := ji) (v := u 14 ji.toNat) hx hb hK hR (by unfold mar; omega) (by decide) (by show 0 ≤ ji ∧ ji < ((30 : Nat) : Int); omega) rfl dX6_can_87 ?_
            refine z_imul (a := 1000) (b := (u 14 ji.toNat)) hx hb dX6_can_88 ?_
            refine lv_aload_n hx hb dX6_can_89 rfl (lv_at hl 2 rfl) ?_
            refine m_get hx hb (q_wsX6 hT hW) hown hK hR 24 (by decide) (q_688 hT hW) (fun _ h => h) (v := .int (zi (u 24 0))) (congrArg (fun z : Int => some (Value.int (zi z))) rfl) dX6_can_90 ?_
            refine z_iadd (a := (1000 * (u 14 ji.toNat))) (b := (u 24 0)) hx hb dX6_can_93 ?_
            refine lv_iload_n hx hb dX6_can_94 rfl (lv_at hl 1 rfl) ?_
            refine z_iadd (a := ((1000 * (u 14 ji.toNat)) + (u 24 0))) (b := (mhours u bi.toNat ji.toNat)) hx hb dX6_can_95 ?_
            have hst := hs (1000 * u 14 ji.toNat + u 24 0 + mhours u bi.toNat ji.toNat).toNat
            rw [show (((1000 * (u 14 ji.toNat)) + (u 24 0)) + (mhours u bi.toNat ji.toNat)) = 1000 * u 14 ji.toNat + u 24 0 + mhours u bi.toNat ji.toNat by omega]
            refine m_bald (i := (1000 * u 14 ji.toNat + u 24 0 + mhours u bi.toNat ji.toNat)) (v := u 0 (1000 * u 14 ji.toNat + u 24 0 + mhours u bi.toNat ji.toNat).toNat) hx hb hK hR (by omega) rfl dX6_can_96 ?_
            refine lv_aload_n hx hb dX6_can_97 rfl (lv_at hl 2 rfl) ?_
            refine m_get hx hb (q_wsX6 hT hW) hown hK hR 7 (by decide) (q_671 hT hW) (fun _ h => h) (v := .ref (aM 7)) rfl dX6_can_98 ?_
            refine lv_iload_n hx hb dX6_can_101 rfl (lv_at hl 3 rfl) ?_
            refine m_iald (k := 7) (i := bi) (v := u 7 bi.toNat) hx hb hK hR (by unfold mar; omega) (by decide) (by show 0 ≤ bi ∧ bi < ((6 : Nat) : Int); omega) rfl dX6_can_102 ?_
            refine z_icmp_gt (a := (u 0 (1000 * u 14 ji.toNat + u 24 0 + mhours u bi.toNat ji.toNat).toNat)) (b := (u 7 bi.toNat)) (tgt := 110) hx hb dX6_can_103 (by decide) (by omega) (fun h_103 => ?_) (fun h_103 => ?_)
            · skip
              refine lv_iconst (v := zi (0)) hx hb dX6_can_110 rfl ?_
              exact z_zret hx hb hr rfl hlocks hS (by decide) (by decide) dX6_can_111 ⟨⟨0, rfl, fun h9 => by (try unfold mcan at h9); omega, fun h9 => by (try unfold mcan at h9); omega⟩, hR⟩
            · skip
              refine lv_iconst (v := zi (1)) hx hb dX6_can_106 rfl ?_
              refine lv_goto (tgt := 111) hx hb dX6_can_107 (by decide) ?_
              exact z_zret hx hb hr rfl hlocks hS (by decide) (by decide) dX6_can_111 ⟨⟨1, rfl, fun h9 => by (try unfold mcan at h9); omega, fun h9 => by (try unfold mcan at h9); omega⟩, hR⟩
        · skip
          refine lv_iconst (v := zi (1)) hx hb dX6_can_63 rfl ?_
          refine lv_goto (tgt := 68) hx hb dX6_can_64 (by decide) ?_
          refine lv_istore (lv' := [(4, .int (zi (1))), (3, .int (zi ((mhours u bi.toNat ji.toNat)))), (0, .ref m0), (1, .int (zi (bi))), (2, .int (zi (ji)))]) hx hb dX6_can_68 hl (by decide) rfl (fun ls hl => ?_)
          refine lv_iload hx hb dX6_can_70 (lv_at hl 0 rfl) ?_
          refine z_if_eq (a := 1) (tgt := 110) hx hb dX6_can_72 (by decide) (by omega) (fun h_72 => ?_) (fun h_72 => ?_)
          · skip
            refine lv_iconst (v := zi (0)) hx hb dX6_can_110 rfl ?_
            exact z_zret hx hb hr rfl hlocks hS (by decide) (by decide) dX6_can_111 ⟨⟨0, rfl, fun h9 => by (try unfold mcan at h9); omega, fun h9 => by (try unfold mcan at h9); omega⟩, hR⟩
          · skip
            refine lv_aload_n hx hb dX6_can_75 rfl (lv_at hl 2 rfl) ?_
            refine m_get hx hb (q_wsX6 hT hW) hown hK hR 0 (by decide) (q_664 hT hW) (fun _ h => h) (v := .ref (aM 0)) rfl dX6_can_76 ?_
            refine lv_sipush (v := zi (1000)) hx hb dX6_can_79 rfl ?_
            refine lv_aload_n hx hb dX6_can_82 rfl (lv_at hl 2 rfl) ?_
            refine m_get hx hb (q_wsX6 hT hW) hown hK hR 14 (by decide) (q_678 hT hW) (fun _ h => h) (v := .ref (aM 14)) rfl dX6_can_83 ?_
            refine lv_iload_n hx hb dX6_can_86 rfl (lv_at hl 4 rfl) ?_
            refine m_iald (k := 14) (i := ji) (v := u 14 ji.toNat) hx hb hK hR (by unfold mar; omega) (by decide) (by show 0 ≤ ji ∧ ji < ((30 : Nat) : Int); omega) rfl dX6_can_87 ?_
            refine z_imul (a := 1000) (b := (u 14 ji.toNat)) hx hb dX6_can_88 ?_
            refine lv_aload_n hx hb dX6_can_89 rfl (lv_at hl 2 rfl) ?_
            refine m_get hx hb (q_wsX6 hT hW) hown hK hR 24 (by decide) (q_688 hT hW) (fun _ h => h) (v := .int (zi (u 24 0))) (congrArg (fun z : Int => some (Value.int (zi z))) rfl) dX6_can_90 ?_
            refine z_iadd (a := (1000 * (u 14 ji.toNat))) (b := (u 24 0)) hx hb dX6_can_93 ?_
            refine lv_iload_n hx hb dX6_can_94 rfl (lv_at hl 1 rfl) ?_
            refine z_iadd (a := ((1000 * (u 14 ji.toNat)) + (u 24 0))) (b := (mhours u bi.toNat ji.toNat)) hx hb dX6_can_95 ?_
            have hst := hs (1000 * u 14 ji.toNat + u 24 0 + mhours u bi.toNat ji.toNat).toNat
            rw [show (((1000 * (u 14 ji.toNat)) + (u 24 0)) + (mhours u bi.toNat ji.toNat)) = 1000 * u 14 ji.toNat + u 24 0 + mhours u bi.toNat ji.toNat by omega]
            refine m_bald (i := (1000 * u 14 ji.toNat + u 24 0 + mhours u bi.toNat ji.toNat)) (v := u 0 (1000 * u 14 ji.toNat + u 24 0 + mhours u bi.toNat ji.toNat).toNat) hx hb hK hR (by omega) rfl dX6_can_96 ?_
            refine lv_aload_n hx hb dX6_can_97 rfl (lv_at hl 2 rfl) ?_
            refine m_get hx hb (q_wsX6 hT hW) hown hK hR 7 (by decide) (q_671 hT hW) (fun _ h => h) (v := .ref (aM 7)) rfl dX6_can_98 ?_
            refine lv_iload_n hx hb dX6_can_101 rfl (lv_at hl 3 rfl) ?_
            refine m_iald (k := 7) (i := bi) (v := u 7 bi.toNat) hx hb hK hR (by unfold mar; omega) (by decide) (by show 0 ≤ bi ∧ bi < ((6 : Nat) : Int); omega) rfl dX6_can_102 ?_
            refine z_icmp_gt (a := (u 0 (1000 * u 14 ji.toNat + u 24 0 + mhours u bi.toNat ji.toNat).toNat)) (b := (u 7 bi.toNat)) (tgt := 110) hx hb dX6_can_103 (by decide) (by omega) (fun h_103 => ?_) (fun h_103 => ?_)
            · skip
              refine lv_iconst (v := zi (0)) hx hb dX6_can_110 rfl ?_
              exact z_zret hx hb hr rfl hlocks hS (by decide) (by decide) dX6_can_111 ⟨⟨0, rfl, fun h9 => by (try unfold mcan at h9); omega, fun h9 => by (try unfold mcan at h9); omega⟩, hR⟩
            · skip
              refine lv_iconst (v := zi (1)) hx hb dX6_can_106 rfl ?_
              refine lv_goto (tgt := 111) hx hb dX6_can_107 (by decide) ?_
              exact z_zret hx hb hr rfl hlocks hS (by decide) (by decide) dX6_can_111 ⟨⟨1, rfl, fun h9 => by (try unfold mcan at h9); omega, fun h9 => by (try unfold mcan at h9); omega⟩, hR⟩
