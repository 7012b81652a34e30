/-! Boat: its methods on its own fields -/
set_option maxHeartbeats 4000000 in
set_option maxRecDepth 100000 in
theorem c_X5_columnOf (l : Launch) {S : State} {D : va_G} {tc : Nat → ClassId} {A : Nat → Prop} {dz : Nat} (hZ : zB S D tc A dz) {P : Heap → Prop} {n : Int} (h0 : 0 ≤ n ∧ n ≤ 47) : zM l S A yX5_columnOf cX5_columnOf 1 (Option.some Jvm.ClassFile.FieldType.int) { frames := 1, locals := 20, cells := 0, slots := 0 } [.int (zi (n))] (P) (fun v H => v = some (.int (zi (n % 8))) ∧ P H) := by
  refine zM.mk (by decide +kernel) (Nat.le_of_ble_eq_true rfl) ?_
  intro p e s m below meth c ls X0 hR hl
  obtain ⟨hx, hb, hml, hr, hlocks, hown, hnm, hW, hpre, hA⟩ := X0
  have X : zH S A p s m c cX5_columnOf 1 RX5 := ⟨hx, hb, hml, hown, hW, hpre, hA, hZ.2.2.1⟩
  have hT := hZ.1
  have hK := va_K.moved hW.alike hZ.2.1
  have hS : va_S A s.heap s.heap [] := va_S.rf
  have hl : lv_has ls 1 [(0, .int (zi (n)))] := hl
  skip
  refine lv_iload_n hx hb dX5_columnOf_0 rfl (lv_at hl 0 rfl) ?_
  refine lv_bipush (v := zi (8)) hx hb dX5_columnOf_1 rfl ?_
  refine z_irem (a := n) (b := 8) hx hb dX5_columnOf_3 (by omega) ?_
  exact z_iret hx hb hr hlocks hS (by decide) (by decide) dX5_columnOf_4 ⟨rfl, hR⟩
set_option maxHeartbeats 4000000 in
set_option maxRecDepth 100000 in
theorem c_X5_rowOf (l : Launch) {S : State} {D : va_G} {tc : Nat → ClassId} {A : Nat → Prop} {dz : Nat} (hZ : zB S D tc A dz) {P : Heap → Prop} {n : Int} (h0 : 0 ≤ n ∧ n ≤ 47) : zM l S A yX5_rowOf cX5_rowOf 1 (Option.some Jvm.ClassFile.FieldType.int) { frames := 1, locals := 20, cells := 0, slots := 0 } [.int (zi (n))] (P) (fun v H => v = some (.int (zi (n / 8))) ∧ P H) := by
  refine zM.mk (by decide +kernel) (Nat.le_of_ble_eq_true rfl) ?_
  intro p e s m below meth c ls X0 hR hl
  obtain ⟨hx, hb, hml, hr, hlocks, hown, hnm, hW, hpre, hA⟩ := X0
  have X : zH S A p s m c cX5_rowOf 1 RX5 := ⟨hx, hb, hml, hown, hW, hpre, hA, hZ.2.2.1⟩
  have hT := hZ.1
  have hK := va_K.moved hW.alike hZ.2.1
  have hS : va_S A s.heap s.heap [] := va_S.rf
  have hl : lv_has ls 1 [(0, .int (zi (n)))] := hl
  skip
  refine lv_iload_n hx hb dX5_rowOf_0 rfl (lv_at hl 0 rfl) ?_
  refine lv_bipush (v := zi (8)) hx hb dX5_rowOf_1 rfl ?_
  refine z_idiv (a := n) (b := 8) hx hb dX5_rowOf_3 (by omega) ?_
  exact z_iret hx hb hr hlocks hS (by decide) (by decide) dX5_rowOf_4 ⟨rfl, hR⟩
set_option maxHeartbeats 4000000 in
set_option maxRecDepth 100000 in
theorem c_X0_burn (l : Launch) {S : State} {D : va_G} {tc : Nat → ClassId} {A : Nat → Prop} {dz : Nat} (hZ : zB S D tc A dz) {w : zW} {b : Nat} {num club bears home speed tank user uot st next fuel left : Int} {co : Option Nat} (hb0 : w b = some (.inr (1, [.int (zi (num)), .int (zi (club)), .int (zi (bears)), .int (zi (home)), .int (zi (speed)), .int (zi (tank)), .int (zi (user)), .int (zi (uot)), .int (zi (st)), va_rf (co), .int (zi (next)), .int (zi (fuel)), .int (zi (left))]))) {am : Int} (h0 : 0 ≤ am ∧ am ≤ 1000000 ∧ 0 ≤ fuel ∧ fuel ≤ 1000000) : zM l S A yX0_burn cX0_burn 2 (Option.none : Option Jvm.ClassFile.FieldType) { frames := 1, locals := 20, cells := 0, slots := 0 } [.ref (b), .int (zi (am))] (zR D A w) (fun v H => v = none ∧ zR D A (zu w b (.inr (1, [.int (zi (num)), .int (zi (club)), .int (zi (bears)), .int (zi (home)), .int (zi (speed)), .int (zi (tank)), .int (zi (user)), .int (zi (uot)), .int (zi (st)), va_rf (co), .int (zi (next)), .int (zi ((fuel - (min am fuel)))), .int (zi (left))]))) H) := by
  refine zM.mk (by decide +kernel) (Nat.le_of_ble_eq_true rfl) ?_
  intro p e s m below meth c ls X0 hR hl
  obtain ⟨hx, hb, hml, hr, hlocks, hown, hnm, hW, hpre, hA⟩ := X0
  have X : zH S A p s m c cX0_burn 2 RX0 := ⟨hx, hb, hml, hown, hW, hpre, hA, hZ.2.2.1⟩
  have hT := hZ.1
  have hK := va_K.moved hW.alike hZ.2.1
  have hS : va_S A s.heap s.heap [] := va_S.rf
  have hl : lv_has ls 2 [(0, .ref (b)), (1, .int (zi (am)))] := hl
  skip
  refine lv_aload_n hx hb dX0_burn_0 rfl (lv_at hl 0 rfl) ?_
  refine lv_dup hx hb dX0_burn_1 rfl ?_
  refine z_get hx hb (q_wsX0 hT hW) hown hK hR hb0 rfl 11 (by decide) (q_265 hT hW) (fun _ h => h) rfl dX0_burn_2 ?_
  refine lv_iload_n hx hb dX0_burn_5 rfl (lv_at hl 1 rfl) ?_
  refine lv_aload_n hx hb dX0_burn_6 rfl (lv_at hl 0 rfl) ?_
  refine z_get hx hb (q_wsX0 hT hW) hown hK hR hb0 rfl 11 (by decide) (q_265 hT hW) (fun _ h => h) rfl dX0_burn_7 ?_
  refine z_min (a := am) (b := fuel) hT X hl.1 (q_476 hT hW) (by omega) (Nat.le_of_ble_eq_true rfl) (Nat.le_of_ble_eq_true rfl) (Nat.le_of_ble_eq_true rfl) (Nat.le_of_ble_eq_true rfl) dX0_burn_10 ?_
  refine z_isub (a := fuel) (b := (min am fuel)) hx hb dX0_burn_13 ?_
  refine z_put hx hb (q_wsX0 hT hW) tyX0 tyX0_ok nmX0 hown hK hR hS hb0 rfl 11 (by decide) (q_265 hT hW) (fun _ h => h) rfl (tyX0_ok 11 (by decide)) rfl rfl (Nat.le_of_ble_eq_true rfl) dX0_burn_14 (fun H locs hR hS => ?_)
  have hR : zR D A (zu w (b) (.inr (1, [.int (zi (num)), .int (zi (club)), .int (zi (bears)), .int (zi (home)), .int (zi (speed)), .int (zi (tank)), .int (zi (user)), .int (zi (uot)), .int (zi (st)), va_rf (co), .int (zi (next)), .int (zi ((fuel - (min am fuel)))), .int (zi (left))]))) H := hR
  have he_1 : (zu w (b) (.inr (1, [.int (zi (num)), .int (zi (club)), .int (zi (bears)), .int (zi (home)), .int (zi (speed)), .int (zi (tank)), .int (zi (user)), .int (zi (uot)), .int (zi (st)), va_rf (co), .int (zi (next)), .int (zi ((fuel - (min am fuel)))), .int (zi (left))]))) (b) = some (.inr (1, [.int (zi (num)), .int (zi (club)), .int (zi (bears)), .int (zi (home)), .int (zi (speed)), .int (zi (tank)), .int (zi (user)), .int (zi (uot)), .int (zi (st)), va_rf (co), .int (zi (next)), .int (zi ((fuel - (min am fuel)))), .int (zi (left))])) := zu_eq
  exact z_vret hx hb hr hlocks hS (by decide) (by decide) dX0_burn_17 ⟨rfl, hR⟩
set_option maxHeartbeats 4000000 in
set_option maxRecDepth 100000 in
theorem c_X0_headHome (l : Launch) {S : State} {D : va_G} {tc : Nat → ClassId} {A : Nat → Prop} {dz : Nat} (hZ : zB S D tc A dz) {w : zW} {b : Nat} {num club bears home speed tank user uot st next fuel left : Int} {co : Option Nat} (hb0 : w b = some (.inr (1, [.int (zi (num)), .int (zi (club)), .int (zi (bears)), .int (zi (home)), .int (zi (speed)), .int (zi (tank)), .int (zi (user)), .int (zi (uot)), .int (zi (st)), va_rf (co), .int (zi (next)), .int (zi (fuel)), .int (zi (left))]))) {h : Int} : zM l S A yX0_headHome cX0_headHome 2 (Option.none : Option Jvm.ClassFile.FieldType) { frames := 1, locals := 20, cells := 0, slots := 0 } [.ref (b), .int (zi (h))] (zR D A w) (fun v H => v = none ∧ zR D A (zu w b (.inr (1, [.int (zi (num)), .int (zi (club)), .int (zi (bears)), .int (zi (home)), .int (zi (speed)), .int (zi (tank)), .int (zi (user)), .int (zi (uot)), .int (zi (st)), .null, .int (zi ((h + (h - left)))), .int (zi (fuel)), .int (zi (left))]))) H) := by
  refine zM.mk (by decide +kernel) (Nat.le_of_ble_eq_true rfl) ?_
  intro p e s m below meth c ls X0 hR hl
  obtain ⟨hx, hb, hml, hr, hlocks, hown, hnm, hW, hpre, hA⟩ := X0
  have X : zH S A p s m c cX0_headHome 2 RX0 := ⟨hx, hb, hml, hown, hW, hpre, hA, hZ.2.2.1⟩
  have hT := hZ.1
  have hK := va_K.moved hW.alike hZ.2.1
  have hS : va_S A s.heap s.heap [] := va_S.rf
  have hl : lv_has ls 2 [(0, .ref (b)), (1, .int (zi (h)))] := hl
  skip
  refine lv_aload_n hx hb dX0_headHome_0 rfl (lv_at hl 0 rfl) ?_
  refine lv_null hx hb dX0_headHome_1 ?_
  refine z_put hx hb (q_wsX0 hT hW) tyX0 tyX0_ok nmX0 hown hK hR hS hb0 rfl 9 (by decide) (q_261 hT hW) (fun _ h => h) rfl (tyX0_ok 9 (by decide)) rfl rfl (Nat.le_of_ble_eq_true rfl) dX0_headHome_2 (fun H locs hR hS => ?_)
  have hR : zR D A (zu w (b) (.inr (1, [.int (zi (num)), .int (zi (club)), .int (zi (bears)), .int (zi (home)), .int (zi (speed)), .int (zi (tank)), .int (zi (user)), .int (zi (uot)), .int (zi (st)), .null, .int (zi (next)), .int (zi (fuel)), .int (zi (left))]))) H := hR
  have he_1 : (zu w (b) (.inr (1, [.int (zi (num)), .int (zi (club)), .int (zi (bears)), .int (zi (home)), .int (zi (speed)), .int (zi (tank)), .int (zi (user)), .int (zi (uot)), .int (zi (st)), .null, .int (zi (next)), .int (zi (fuel)), .int (zi (left))]))) (b) = some (.inr (1, [.int (zi (num)), .int (zi (club)), .int (zi (bears)), .int (zi (home)), .int (zi (speed)), .int (zi (tank)), .int (zi (user)), .int (zi (uot)), .int (zi (st)), .null, .int (zi (next)), .int (zi (fuel)), .int (zi (left))])) := zu_eq
  refine lv_aload_n hx hb dX0_headHome_5 rfl (lv_at hl 0 rfl) ?_
  refine lv_iload_n hx hb dX0_headHome_6 rfl (lv_at hl 1 rfl) ?_
  refine lv_iload_n hx hb dX0_headHome_7 rfl (lv_at hl 1 rfl) ?_
  refine lv_aload_n hx hb dX0_headHome_8 rfl (lv_at hl 0 rfl) ?_
  refine z_get hx hb (q_wsX0 hT hW) hown hK hR he_1 rfl 12 (by decide) (q_267 hT hW) (fun _ h => h) rfl dX0_headHome_9 ?_
  refine z_isub (a := h) (b := left) hx hb dX0_headHome_12 ?_
  refine z_iadd (a := h) (b := (h - left)) hx hb dX0_headHome_13 ?_
  refine z_put hx hb (q_wsX0 hT hW) tyX0 tyX0_ok nmX0 hown hK hR hS he_1 rfl 10 (by decide) (q_263 hT hW) (fun _ h => h) rfl (tyX0_ok 10 (by decide)) rfl rfl (Nat.le_of_ble_eq_true rfl) dX0_headHome_14 (fun H locs hR hS => ?_)
  rw [zu_zu] at hR
  have hR : zR D A (zu w (b) (.inr (1, [.int (zi (num)), .int (zi (club)), .int (zi (bears)), .int (zi (home)), .int (zi (speed)), .int (zi (tank)), .int (zi (user)), .int (zi (uot)), .int (zi (st)), .null, .int (zi ((h + (h - left)))), .int (zi (fuel)), .int (zi (left))]))) H := hR
  have he_2 : (zu w (b) (.inr (1, [.int (zi (num)), .int (zi (club)), .int (zi (bears)), .int (zi (home)), .int (zi (speed)), .int (zi (tank)), .int (zi (user)), .int (zi (uot)), .int (zi (st)), .null, .int (zi ((h + (h - left)))), .int (zi (fuel)), .int (zi (left))]))) (b) = some (.inr (1, [.int (zi (num)), .int (zi (club)), .int (zi (bears)), .int (zi (home)), .int (zi (speed)), .int (zi (tank)), .int (zi (user)), .int (zi (uot)), .int (zi (st)), .null, .int (zi ((h + (h - left)))), .int (zi (fuel)), .int (zi (left))])) := zu_eq
  exact z_vret hx hb hr hlocks hS (by decide) (by decide) dX0_headHome_17 ⟨rfl, hR⟩
set_option maxHeartbeats 4000000 in
set_option maxRecDepth 100000 in
theorem c_X0_turnBack (l : Launch) {S : State} {D : va_G} {tc : Nat → ClassId} {A : Nat → Prop} {dz : Nat} (hZ : zB S D tc A dz) {w : zW} {b : Nat} {num club bears home speed tank user uot st next fuel left : Int} {co : Option Nat} (hb0 : w b = some (.inr (1, [.int (zi (num)), .int (zi (club)), .int (zi (bears)), .int (zi (home)), .int (zi (speed)), .int (zi (tank)), .int (zi (user)), .int (zi (uot)), .int (zi (st)), va_rf (co), .int (zi (next)), .int (zi (fuel)), .int (zi (left))]))) {h : Int} (h0 : 0 ≤ 2 * speed * (h - left) ∧ 2 * speed * (h - left) ≤ 1000000 ∧ 0 ≤ fuel ∧ fuel ≤ 1000000) : zM l S A yX0_turnBack cX0_turnBack 2 (Option.none : Option Jvm.ClassFile.FieldType) { frames := 2, locals := 50, cells := 0, slots := 0 } [.ref (b), .int (zi (h))] (zR D A w) (fun v H => v = none ∧ zR D A (zu w b (.inr (1, [.int (zi (num)), .int (zi (club)), .int (zi (bears)), .int (zi (home)), .int (zi (speed)), .int (zi (tank)), .int (zi (user)), .int (zi (uot)), .int (zi (st)), .null, .int (zi ((h + (h - left)))), .int (zi ((fuel - (min (2 * speed * (h - left)) fuel)))), .int (zi (left))]))) H) := by
  refine zM.mk (by decide +kernel) (Nat.le_of_ble_eq_true rfl) ?_
  intro p e s m below meth c ls X0 hR hl
  obtain ⟨hx, hb, hml, hr, hlocks, hown, hnm, hW, hpre, hA⟩ := X0
  have X : zH S A p s m c cX0_turnBack 2 RX0 := ⟨hx, hb, hml, hown, hW, hpre, hA, hZ.2.2.1⟩
  have hT := hZ.1
  have hK := va_K.moved hW.alike hZ.2.1
  have hS : va_S A s.heap s.heap [] := va_S.rf
  have hl : lv_has ls 2 [(0, .ref (b)), (1, .int (zi (h)))] := hl
  skip
  refine lv_aload_n hx hb dX0_turnBack_0 rfl (lv_at hl 0 rfl) ?_
  refine lv_iconst (v := zi (2)) hx hb dX0_turnBack_1 rfl ?_
  refine lv_aload_n hx hb dX0_turnBack_2 rfl (lv_at hl 0 rfl) ?_
  refine z_get hx hb (q_wsX0 hT hW) hown hK hR hb0 rfl 4 (by decide) (q_253 hT hW) (fun _ h => h) rfl dX0_turnBack_3 ?_
  refine z_imul (a := 2) (b := speed) hx hb dX0_turnBack_6 ?_
  refine lv_iload_n hx hb dX0_turnBack_7 rfl (lv_at hl 1 rfl) ?_
  refine lv_aload_n hx hb dX0_turnBack_8 rfl (lv_at hl 0 rfl) ?_
  refine z_get hx hb (q_wsX0 hT hW) hown hK hR hb0 rfl 12 (by decide) (q_267 hT hW) (fun _ h => h) rfl dX0_turnBack_9 ?_
  refine z_isub (a := h) (b := left) hx hb dX0_turnBack_12 ?_
  refine z_imul (a := (2 * speed)) (b := (h - left)) hx hb dX0_turnBack_13 ?_
  refine z_invV (n := 1) (C := RX0) (c_X0_burn l hZ hb0 (am := 2 * speed * (h - left)) h0) X hS hR hl.1 (q_475 hT hW) (q_13 hT hW) (q_472 hT hW) (q_474 hT hW) (q_p6 hT hW) (z_recv hK hR hb0 rfl) (by decide +kernel) rfl ⟨Nat.le_of_ble_eq_true rfl, Nat.le_of_ble_eq_true rfl⟩ ⟨Nat.le_of_ble_eq_true rfl, Nat.le_of_ble_eq_true rfl⟩ (Nat.le_of_ble_eq_true rfl) dX0_turnBack_14 (fun v H locs hv hS => ?_) rfl
  obtain ⟨rfl, hR⟩ := hv
  have hR : zR D A (zu w (b) (.inr (1, [.int (zi (num)), .int (zi (club)), .int (zi (bears)), .int (zi (home)), .int (zi (speed)), .int (zi (tank)), .int (zi (user)), .int (zi (uot)), .int (zi (st)), va_rf (co), .int (zi (next)), .int (zi ((fuel - (min (2 * speed * (h - left)) fuel)))), .int (zi (left))]))) H := hR
  have he_1 : (zu w (b) (.inr (1, [.int (zi (num)), .int (zi (club)), .int (zi (bears)), .int (zi (home)), .int (zi (speed)), .int (zi (tank)), .int (zi (user)), .int (zi (uot)), .int (zi (st)), va_rf (co), .int (zi (next)), .int (zi ((fuel - (min (2 * speed * (h - left)) fuel)))), .int (zi (left))]))) (b) = some (.inr (1, [.int (zi (num)), .int (zi (club)), .int (zi (bears)), .int (zi (home)), .int (zi (speed)), .int (zi (tank)), .int (zi (user)), .int (zi (uot)), .int (zi (st)), va_rf (co), .int (zi (next)), .int (zi ((fuel - (min (2 * speed * (h - left)) fuel)))), .int (zi (left))])) := zu_eq
  refine lv_aload_n hx hb dX0_turnBack_17 rfl (lv_at hl 0 rfl) ?_
  refine lv_iload_n hx hb dX0_turnBack_18 rfl (lv_at hl 1 rfl) ?_
  refine z_invV (n := 1) (C := RX0) (c_X0_headHome l hZ he_1 (h := h)) X hS hR hl.1 (q_480 hT hW) (q_13 hT hW) (q_477 hT hW) (q_479 hT hW) (q_p7 hT hW) (z_recv hK hR he_1 rfl) (by decide +kernel) rfl ⟨Nat.le_of_ble_eq_true rfl, Nat.le_of_ble_eq_true rfl⟩ ⟨Nat.le_of_ble_eq_true rfl, Nat.le_of_ble_eq_true rfl⟩ (Nat.le_of_ble_eq_true rfl) dX0_turnBack_19 (fun v H locs hv hS => ?_) rfl
  obtain ⟨rfl, hR⟩ := hv
  rw [zu_zu] at hR
  have hR : zR D A (zu w (b) (.inr (1, [.int (zi (num)), .int (zi (club)), .int (zi (bears)), .int (zi (home)), .int (zi (speed)), .int (zi (tank)), .int (zi (user)), .int (zi (uot)), .int (zi (st)), .null, .int (zi ((h + (h - left)))), .int (zi ((fuel - (min (2 * speed * (h - left)) fuel)))), .int (zi (left))]))) H := hR
  have he_2 : (zu w (b) (.inr (1, [.int (zi (num)), .int (zi (club)), .int (zi (bears)), .int (zi (home)), .int (zi (speed)), .int (zi (tank)), .int (zi (user)), .int (zi (uot)), .int (zi (st)), .null, .int (zi ((h + (h - left)))), .int (zi ((fuel - (min (2 * speed * (h - left)) fuel)))), .int (zi (left))]))) (b) = some (.inr (1, [.int (zi (num)), .int (zi (club)), .int (zi (bears)), .int (zi (home)), .int (zi (speed)), .int (zi (tank)), .int (zi (user)), .int (zi (uot)), .int (zi (st)), .null, .int (zi ((h + (h - left)))), .int (zi ((fuel - (min (2 * speed * (h - left)) fuel)))), .int (zi (left))])) := zu_eq
  exact z_vret hx hb hr hlocks hS (by decide) (by decide) dX0_turnBack_22 ⟨rfl, hR⟩
set_option maxHeartbeats 4000000 in
set_option maxRecDepth 100000 in
theorem c_X0_goHome (l : Launch) {S : State} {D : va_G} {tc : Nat → ClassId} {A : Nat → Prop} {dz : Nat} (hZ : zB S D tc A dz) {w : zW} {b : Nat} {num club bears home speed tank user uot st next fuel left : Int} {co : Option Nat} (hb0 : w b = some (.inr (1, [.int (zi (num)), .int (zi (club)), .int (zi (bears)), .int (zi (home)), .int (zi (speed)), .int (zi (tank)), .int (zi (user)), .int (zi (uot)), .int (zi (st)), va_rf (co), .int (zi (next)), .int (zi (fuel)), .int (zi (left))]))) {h wy : Int} (h0 : 0 ≤ wy ∧ wy ≤ 1000 ∧ 0 ≤ fuel ∧ fuel ≤ 1000000) : zM l S A yX0_goHome cX0_goHome 3 (Option.none : Option Jvm.ClassFile.FieldType) { frames := 2, locals := 50, cells := 0, slots := 0 } [.ref (b), .int (zi (h)), .int (zi (wy))] (zR D A w) (fun v H => v = none ∧ zR D A (zu w b (.inr (1, [.int (zi (num)), .int (zi (club)), .int (zi (bears)), .int (zi (home)), .int (zi (speed)), .int (zi (tank)), .int (zi (user)), .int (zi (uot)), .int (zi (st)), .null, .int (zi ((h + (h - left)))), .int (zi ((fuel - (min (2 * wy) fuel)))), .int (zi (left))]))) H) := by
  refine zM.mk (by decide +kernel) (Nat.le_of_ble_eq_true rfl) ?_
  intro p e s m below meth c ls X0 hR hl
  obtain ⟨hx, hb, hml, hr, hlocks, hown, hnm, hW, hpre, hA⟩ := X0
  have X : zH S A p s m c cX0_goHome 3 RX0 := ⟨hx, hb, hml, hown, hW, hpre, hA, hZ.2.2.1⟩
  have hT := hZ.1
  have hK := va_K.moved hW.alike hZ.2.1
  have hS : va_S A s.heap s.heap [] := va_S.rf
  have hl : lv_has ls 3 [(0, .ref (b)), (1, .int (zi (h))), (2, .int (zi (wy)))] := hl
  skip
  refine lv_aload_n hx hb dX0_goHome_0 rfl (lv_at hl 0 rfl) ?_
  refine lv_iconst (v := zi (2)) hx hb dX0_goHome_1 rfl ?_
  refine lv_iload_n hx hb dX0_goHome_2 rfl (lv_at hl 2 rfl) ?_
  refine z_imul (a := 2) (b := wy) hx hb dX0_goHome_3 ?_
  refine z_invV (n := 1) (C := RX0) (c_X0_burn l hZ hb0 (am := 2 * wy) (by omega)) X hS hR hl.1 (q_475 hT hW) (q_13 hT hW) (q_472 hT hW) (q_474 hT hW) (q_p6 hT hW) (z_recv hK hR hb0 rfl) (by decide +kernel) rfl ⟨Nat.le_of_ble_eq_true rfl, Nat.le_of_ble_eq_true rfl⟩ ⟨Nat.le_of_ble_eq_true rfl, Nat.le_of_ble_eq_true rfl⟩ (Nat.le_of_ble_eq_true rfl) dX0_goHome_4 (fun v H locs hv hS => ?_) rfl
  obtain ⟨rfl, hR⟩ := hv
  have hR : zR D A (zu w (b) (.inr (1, [.int (zi (num)), .int (zi (club)), .int (zi (bears)), .int (zi (home)), .int (zi (speed)), .int (zi (tank)), .int (zi (user)), .int (zi (uot)), .int (zi (st)), va_rf (co), .int (zi (next)), .int (zi ((fuel - (min (2 * wy) fuel)))), .int (zi (left))]))) H := hR
  have he_1 : (zu w (b) (.inr (1, [.int (zi (num)), .int (zi (club)), .int (zi (bears)), .int (zi (home)), .int (zi (speed)), .int (zi (tank)), .int (zi (user)), .int (zi (uot)), .int (zi (st)), va_rf (co), .int (zi (next)), .int (zi ((fuel - (min (2 * wy) fuel)))), .int (zi (left))]))) (b) = some (.inr (1, [.int (zi (num)), .int (zi (club)), .int (zi (bears)), .int (zi (home)), .int (zi (speed)), .int (zi (tank)), .int (zi (user)), .int (zi (uot)), .int (zi (st)), va_rf (co), .int (zi (next)), .int (zi ((fuel - (min (2 * wy) fuel)))), .int (zi (left))])) := zu_eq
  refine lv_aload_n hx hb dX0_goHome_7 rfl (lv_at hl 0 rfl) ?_
  refine lv_iload_n hx hb dX0_goHome_8 rfl (lv_at hl 1 rfl) ?_
  refine z_invV (n := 1) (C := RX0) (c_X0_headHome l hZ he_1 (h := h)) X hS hR hl.1 (q_480 hT hW) (q_13 hT hW) (q_477 hT hW) (q_479 hT hW) (q_p7 hT hW) (z_recv hK hR he_1 rfl) (by decide +kernel) rfl ⟨Nat.le_of_ble_eq_true rfl, Nat.le_of_ble_eq_true rfl⟩ ⟨Nat.le_of_ble_eq_true rfl, Nat.le_of_ble_eq_true rfl⟩ (Nat.le_of_ble_eq_true rfl) dX0_goHome_9 (fun v H locs hv hS => ?_) rfl
  obtain ⟨rfl, hR⟩ := hv
  rw [zu_zu] at hR
  have hR : zR D A (zu w (b) (.inr (1, [.int (zi (num)), .int (zi (club)), .int (zi (bears)), .int (zi (home)), .int (zi (speed)), .int (zi (tank)), .int (zi (user)), .int (zi (uot)), .int (zi (st)), .null, .int (zi ((h + (h - left)))), .int (zi ((fuel - (min (2 * wy) fuel)))), .int (zi (left))]))) H := hR
  have he_2 : (zu w (b) (.inr (1, [.int (zi (num)), .int (zi (club)), .int (zi (bears)), .int (zi (home)), .int (zi (speed)), .int (zi (tank)), .int (zi (user)), .int (zi (uot)), .int (zi (st)), .null, .int (zi ((h + (h - left)))), .int (zi ((fuel - (min (2 * wy) fuel)))), .int (zi (left))]))) (b) = some (.inr (1, [.int (zi (num)), .int (zi (club)), .int (zi (bears)), .int (zi (home)), .int (zi (speed)), .int (zi (tank)), .int (zi (user)), .int (zi (uot)), .int (zi (st)), .null, .int (zi ((h + (h - left)))), .int (zi ((fuel - (min (2 * wy) fuel)))), .int (zi (left))])) := zu_eq
  exact z_vret hx hb hr hlocks hS (by decide) (by decide) dX0_goHome_12 ⟨rfl, hR⟩
set_option maxHeartbeats 4000000 in
set_option maxRecDepth 100000 in
theorem c_X0_rest (l : Launch) {S : State} {D : va_G} {tc : Nat → ClassId} {A : Nat → Prop} {dz : Nat} (hZ : zB S D tc A dz) {w : zW} {b : Nat} {num club bears home speed tank user uot st next fuel left : Int} {co : Option Nat} (hb0 : w b = some (.inr (1, [.int (zi (num)), .int (zi (club)), .int (zi (bears)), .int (zi (home)), .int (zi (speed)), .int (zi (tank)), .int (zi (user)), .int (zi (uot)), .int (zi (st)), va_rf (co), .int (zi (next)), .int (zi (fuel)), .int (zi (left))]))) {h : Int} : zM l S A yX0_rest cX0_rest 2 (Option.none : Option Jvm.ClassFile.FieldType) { frames := 1, locals := 20, cells := 0, slots := 0 } [.ref (b), .int (zi (h))] (zR D A w) (fun v H => v = none ∧ zR D A (zu w b (.inr (1, [.int (zi (num)), .int (zi (club)), .int (zi (bears)), .int (zi (home)), .int (zi (speed)), .int (zi (tank)), .int (zi (user)), .int (zi (uot)), .int (zi (2)), va_rf (co), .int (zi ((h + (h - left)))), .int (zi (tank)), .int (zi (left))]))) H) := by
  refine zM.mk (by decide +kernel) (Nat.le_of_ble_eq_true rfl) ?_
  intro p e s m below meth c ls X0 hR hl
  obtain ⟨hx, hb, hml, hr, hlocks, hown, hnm, hW, hpre, hA⟩ := X0
  have X : zH S A p s m c cX0_rest 2 RX0 := ⟨hx, hb, hml, hown, hW, hpre, hA, hZ.2.2.1⟩
  have hT := hZ.1
  have hK := va_K.moved hW.alike hZ.2.1
  have hS : va_S A s.heap s.heap [] := va_S.rf
  have hl : lv_has ls 2 [(0, .ref (b)), (1, .int (zi (h)))] := hl
  skip
  refine lv_aload_n hx hb dX0_rest_0 rfl (lv_at hl 0 rfl) ?_
  refine lv_iconst (v := zi (2)) hx hb dX0_rest_1 rfl ?_
  refine z_put hx hb (q_wsX0 hT hW) tyX0 tyX0_ok nmX0 hown hK hR hS hb0 rfl 8 (by decide) (q_259 hT hW) (fun _ h => h) rfl (tyX0_ok 8 (by decide)) rfl rfl (Nat.le_of_ble_eq_true rfl) dX0_rest_2 (fun H locs hR hS => ?_)
  have hR : zR D A (zu w (b) (.inr (1, [.int (zi (num)), .int (zi (club)), .int (zi (bears)), .int (zi (home)), .int (zi (speed)), .int (zi (tank)), .int (zi (user)), .int (zi (uot)), .int (zi (2)), va_rf (co), .int (zi (next)), .int (zi (fuel)), .int (zi (left))]))) H := hR
  have he_1 : (zu w (b) (.inr (1, [.int (zi (num)), .int (zi (club)), .int (zi (bears)), .int (zi (home)), .int (zi (speed)), .int (zi (tank)), .int (zi (user)), .int (zi (uot)), .int (zi (2)), va_rf (co), .int (zi (next)), .int (zi (fuel)), .int (zi (left))]))) (b) = some (.inr (1, [.int (zi (num)), .int (zi (club)), .int (zi (bears)), .int (zi (home)), .int (zi (speed)), .int (zi (tank)), .int (zi (user)), .int (zi (uot)), .int (zi (2)), va_rf (co), .int (zi (next)), .int (zi (fuel)), .int (zi (left))])) := zu_eq
  refine lv_aload_n hx hb dX0_rest_5 rfl (lv_at hl 0 rfl) ?_
  refine lv_aload_n hx hb dX0_rest_6 rfl (lv_at hl 0 rfl) ?_
  refine z_get hx hb (q_wsX0 hT hW) hown hK hR he_1 rfl 5 (by decide) (q_254 hT hW) (fun _ h => h) rfl dX0_rest_7 ?_
  refine z_put hx hb (q_wsX0 hT hW) tyX0 tyX0_ok nmX0 hown hK hR hS he_1 rfl 11 (by decide) (q_265 hT hW) (fun _ h => h) rfl (tyX0_ok 11 (by decide)) rfl rfl (Nat.le_of_ble_eq_true rfl) dX0_rest_10 (fun H locs hR hS => ?_)
  rw [zu_zu] at hR
  have hR : zR D A (zu w (b) (.inr (1, [.int (zi (num)), .int (zi (club)), .int (zi (bears)), .int (zi (home)), .int (zi (speed)), .int (zi (tank)), .int (zi (user)), .int (zi (uot)), .int (zi (2)), va_rf (co), .int (zi (next)), .int (zi (tank)), .int (zi (left))]))) H := hR
  have he_2 : (zu w (b) (.inr (1, [.int (zi (num)), .int (zi (club)), .int (zi (bears)), .int (zi (home)), .int (zi (speed)), .int (zi (tank)), .int (zi (user)), .int (zi (uot)), .int (zi (2)), va_rf (co), .int (zi (next)), .int (zi (tank)), .int (zi (left))]))) (b) = some (.inr (1, [.int (zi (num)), .int (zi (club)), .int (zi (bears)), .int (zi (home)), .int (zi (speed)), .int (zi (tank)), .int (zi (user)), .int (zi (uot)), .int (zi (2)), va_rf (co), .int (zi (next)), .int (zi (tank)), .int (zi (left))])) := zu_eq
  refine lv_aload_n hx hb dX0_rest_13 rfl (lv_at hl 0 rfl) ?_
  refine lv_iload_n hx hb dX0_rest_14 rfl (lv_at hl 1 rfl) ?_
  refine lv_iload_n hx hb dX0_rest_15 rfl (lv_at hl 1 rfl) ?_
  refine lv_aload_n hx hb dX0_rest_16 rfl (lv_at hl 0 rfl) ?_
  refine z_get hx hb (q_wsX0 hT hW) hown hK hR he_2 rfl 12 (by decide) (q_267 hT hW) (fun _ h => h) rfl dX0_rest_17 ?_
  refine z_isub (a := h) (b := left) hx hb dX0_rest_20 ?_
  refine z_iadd (a := h) (b := (h - left)) hx hb dX0_rest_21 ?_
  refine z_put hx hb (q_wsX0 hT hW) tyX0 tyX0_ok nmX0 hown hK hR hS he_2 rfl 10 (by decide) (q_263 hT hW) (fun _ h => h) rfl (tyX0_ok 10 (by decide)) rfl rfl (Nat.le_of_ble_eq_true rfl) dX0_rest_22 (fun H locs hR hS => ?_)
  rw [zu_zu] at hR
  have hR : zR D A (zu w (b) (.inr (1, [.int (zi (num)), .int (zi (club)), .int (zi (bears)), .int (zi (home)), .int (zi (speed)), .int (zi (tank)), .int (zi (user)), .int (zi (uot)), .int (zi (2)), va_rf (co), .int (zi ((h + (h - left)))), .int (zi (tank)), .int (zi (left))]))) H := hR
  have he_3 : (zu w (b) (.inr (1, [.int (zi (num)), .int (zi (club)), .int (zi (bears)), .int (zi (home)), .int (zi (speed)), .int (zi (tank)), .int (zi (user)), .int (zi (uot)), .int (zi (2)), va_rf (co), .int (zi ((h + (h - left)))), .int (zi (tank)), .int (zi (left))]))) (b) = some (.inr (1, [.int (zi (num)), .int (zi (club)), .int (zi (bears)), .int (zi (home)), .int (zi (speed)), .int (zi (tank)), .int (zi (user)), .int (zi (uot)), .int (zi (2)), va_rf (co), .int (zi ((h + (h - left)))), .int (zi (tank)), .int (zi (left))])) := zu_eq
  exact z_vret hx hb hr hlocks hS (by decide) (by decide) dX0_rest_25 ⟨rfl, hR⟩
set_option maxHeartbeats 4000000 in
set_option maxRecDepth 100000 in
theorem c_X0_becomeFree (l : Launch) {S : State} {D : va_G} {tc : Nat → ClassId} {A : Nat → Prop} {dz : Nat} (hZ : zB S D tc A dz) {w : zW} {b : Nat} {num club bears home speed tank user uot st next fuel left : Int} {co : Option Nat} (hb0 : w b = some (.inr (1, [.int (zi (num)), .int (zi (club)), .int (zi (bears)), .int (zi (home)), .int (zi (speed)), .int (zi (tank)), .int (zi (user)), .int (zi (uot)), .int (zi (st)), va_rf (co), .int (zi (next)), .int (zi (fuel)), .int (zi (left))]))) : zM l S A yX0_becomeFree cX0_becomeFree 1 (Option.none : Option Jvm.ClassFile.FieldType) { frames := 1, locals := 20, cells := 0, slots := 0 } [.ref (b)] (zR D A w) (fun v H => v = none ∧ zR D A (zu w b (.inr (1, [.int (zi (num)), .int (zi (club)), .int (zi (bears)), .int (zi (home)), .int (zi (speed)), .int (zi (tank)), .int (zi (user)), .int (zi (uot)), .int (zi (0)), va_rf (co), .int (zi ((-1))), .int (zi (fuel)), .int (zi (left))]))) H) := by
  refine zM.mk (by decide +kernel) (Nat.le_of_ble_eq_true rfl) ?_
  intro p e s m below meth c ls X0 hR hl
  obtain ⟨hx, hb, hml, hr, hlocks, hown, hnm, hW, hpre, hA⟩ := X0
  have X : zH S A p s m c cX0_becomeFree 1 RX0 := ⟨hx, hb, hml, hown, hW, hpre, hA, hZ.2.2.1⟩
  have hT := hZ.1
  have hK := va_K.moved hW.alike hZ.2.1
  have hS : va_S A s.heap s.heap [] := va_S.rf
  have hl : lv_has ls 1 [(0, .ref (b))] := hl
  skip
  refine lv_aload_n hx hb dX0_becomeFree_0 rfl (lv_at hl 0 rfl) ?_
  refine lv_iconst (v := zi (0)) hx hb dX0_becomeFree_1 rfl ?_
  refine z_put hx hb (q_wsX0 hT hW) tyX0 tyX0_ok nmX0 hown hK hR hS hb0 rfl 8 (by decide) (q_259 hT hW) (fun _ h => h) rfl (tyX0_ok 8 (by decide)) rfl rfl (Nat.le_of_ble_eq_true rfl) dX0_becomeFree_2 (fun H locs hR hS => ?_)
  have hR : zR D A (zu w (b) (.inr (1, [.int (zi (num)), .int (zi (club)), .int (zi (bears)), .int (zi (home)), .int (zi (speed)), .int (zi (tank)), .int (zi (user)), .int (zi (uot)), .int (zi (0)), va_rf (co), .int (zi (next)), .int (zi (fuel)), .int (zi (left))]))) H := hR
  have he_1 : (zu w (b) (.inr (1, [.int (zi (num)), .int (zi (club)), .int (zi (bears)), .int (zi (home)), .int (zi (speed)), .int (zi (tank)), .int (zi (user)), .int (zi (uot)), .int (zi (0)), va_rf (co), .int (zi (next)), .int (zi (fuel)), .int (zi (left))]))) (b) = some (.inr (1, [.int (zi (num)), .int (zi (club)), .int (zi (bears)), .int (zi (home)), .int (zi (speed)), .int (zi (tank)), .int (zi (user)), .int (zi (uot)), .int (zi (0)), va_rf (co), .int (zi (next)), .int (zi (fuel)), .int (zi (left))])) := zu_eq
  refine lv_aload_n hx hb dX0_becomeFree_5 rfl (lv_at hl 0 rfl) ?_
  refine lv_iconst (v := zi (-1)) hx hb dX0_becomeFree_6 rfl ?_
  refine z_put hx hb (q_wsX0 hT hW) tyX0 tyX0_ok nmX0 hown hK hR hS he_1 rfl 10 (by decide) (q_263 hT hW) (fun _ h => h) rfl (tyX0_ok 10 (by decide)) rfl rfl (Nat.le_of_ble_eq_true rfl) dX0_becomeFree_7 (fun H locs hR hS => ?_)
  rw [zu_zu] at hR
  have hR : zR D A (zu w (b) (.inr (1, [.int (zi (num)), .int (zi (club)), .int (zi (bears)), .int (zi (home)), .int (zi (speed)), .int (zi (tank)), .int (zi (user)), .int (zi (uot)), .int (zi (0)), va_rf (co), .int (zi ((-1))), .int (zi (fuel)), .int (zi (left))]))) H := hR
  have he_2 : (zu w (b) (.inr (1, [.int (zi (num)), .int (zi (club)), .int (zi (bears)), .int (zi (home)), .int (zi (speed)), .int (zi (tank)), .int (zi (user)), .int (zi (uot)), .int (zi (0)), va_rf (co), .int (zi ((-1))), .int (zi (fuel)), .int (zi (left))]))) (b) = some (.inr (1, [.int (zi (num)), .int (zi (club)), .int (zi (bears)), .int (zi (home)), .int (zi (speed)), .int (zi (tank)), .int (zi (user)), .int (zi (uot)), .int (zi (0)), va_rf (co), .int (zi ((-1))), .int (zi (fuel)), .int (zi (left))])) := zu_eq
  exact z_vret hx hb hr hlocks hS (by decide) (by decide) dX0_becomeFree_10 ⟨rfl, hR⟩
set_option maxHeartbeats 4000000 in
set_option maxRecDepth 100000 in
theorem c_X0_leaveFor (l : Launch) {S : State} {D : va_G} {tc : Nat → ClassId} {A : Nat → Prop} {dz : Nat} (hZ : zB S D tc A dz) {w : zW} {b : Nat} {num club bears home speed tank user uot st next fuel left : Int} {co : Option Nat} (hb0 : w b = some (.inr (1, [.int (zi (num)), .int (zi (club)), .int (zi (bears)), .int (zi (home)), .int (zi (speed)), .int (zi (tank)), .int (zi (user)), .int (zi (uot)), .int (zi (st)), va_rf (co), .int (zi (next)), .int (zi (fuel)), .int (zi (left))]))) {ca : Nat} {h th : Int} : zM l S A yX0_leaveFor cX0_leaveFor 4 (Option.none : Option Jvm.ClassFile.FieldType) { frames := 1, locals := 20, cells := 0, slots := 0 } [.ref (b), .ref (ca), .int (zi (h)), .int (zi (th))] (zR D A w) (fun v H => v = none ∧ zR D A (zu w b (.inr (1, [.int (zi (num)), .int (zi (club)), .int (zi (bears)), .int (zi (home)), .int (zi (speed)), .int (zi (tank)), .int (zi (user)), .int (zi (user)), .int (zi (1)), .ref (ca), .int (zi (th)), .int (zi (fuel)), .int (zi (h))]))) H) := by
  refine zM.mk (by decide +kernel) (Nat.le_of_ble_eq_true rfl) ?_
  intro p e s m below meth c ls X0 hR hl
  obtain ⟨hx, hb, hml, hr, hlocks, hown, hnm, hW, hpre, hA⟩ := X0
  have X : zH S A p s m c cX0_leaveFor 4 RX0 := ⟨hx, hb, hml, hown, hW, hpre, hA, hZ.2.2.1⟩
  have hT := hZ.1
  have hK := va_K.moved hW.alike hZ.2.1
  have hS : va_S A s.heap s.heap [] := va_S.rf
  have hl : lv_has ls 4 [(0, .ref (b)), (1, .ref (ca)), (2, .int (zi (h))), (3, .int (zi (th)))] := hl
  skip
  refine lv_aload_n hx hb dX0_leaveFor_0 rfl (lv_at hl 0 rfl) ?_
  refine lv_iconst (v := zi (1)) hx hb dX0_leaveFor_1 rfl ?_
  refine z_put hx hb (q_wsX0 hT hW) tyX0 tyX0_ok nmX0 hown hK hR hS hb0 rfl 8 (by decide) (q_259 hT hW) (fun _ h => h) rfl (tyX0_ok 8 (by decide)) rfl rfl (Nat.le_of_ble_eq_true rfl) dX0_leaveFor_2 (fun H locs hR hS => ?_)
  have hR : zR D A (zu w (b) (.inr (1, [.int (zi (num)), .int (zi (club)), .int (zi (bears)), .int (zi (home)), .int (zi (speed)), .int (zi (tank)), .int (zi (user)), .int (zi (uot)), .int (zi (1)), va_rf (co), .int (zi (next)), .int (zi (fuel)), .int (zi (left))]))) H := hR
  have he_1 : (zu w (b) (.inr (1, [.int (zi (num)), .int (zi (club)), .int (zi (bears)), .int (zi (home)), .int (zi (speed)), .int (zi (tank)), .int (zi (user)), .int (zi (uot)), .int (zi (1)), va_rf (co), .int (zi (next)), .int (zi (fuel)), .int (zi (left))]))) (b) = some (.inr (1, [.int (zi (num)), .int (zi (club)), .int (zi (bears)), .int (zi (home)), .int (zi (speed)), .int (zi (tank)), .int (zi (user)), .int (zi (uot)), .int (zi (1)), va_rf (co), .int (zi (next)), .int (zi (fuel)), .int (zi (left))])) := zu_eq
  refine lv_aload_n hx hb dX0_leaveFor_5 rfl (lv_at hl 0 rfl) ?_
  refine lv_aload_n hx hb dX0_leaveFor_6 rfl (lv_at hl 1 rfl) ?_
  refine z_put hx hb (q_wsX0 hT hW) tyX0 tyX0_ok nmX0 hown hK hR hS he_1 rfl 9 (by decide) (q_261 hT hW) (fun _ h => h) rfl (tyX0_ok 9 (by decide)) rfl rfl (Nat.le_of_ble_eq_true rfl) dX0_leaveFor_7 (fun H locs hR hS => ?_)
  rw [zu_zu] at hR
  have hR : zR D A (zu w (b) (.inr (1, [.int (zi (num)), .int (zi (club)), .int (zi (bears)), .int (zi (home)), .int (zi (speed)), .int (zi (tank)), .int (zi (user)), .int (zi (uot)), .int (zi (1)), .ref (ca), .int (zi (next)), .int (zi (fuel)), .int (zi (left))]))) H := hR
  have he_2 : (zu w (b) (.inr (1, [.int (zi (num)), .int (zi (club)), .int (zi (bears)), .int (zi (home)), .int (zi (speed)), .int (zi (tank)), .int (zi (user)), .int (zi (uot)), .int (zi (1)), .ref (ca), .int (zi (next)), .int (zi (fuel)), .int (zi (left))]))) (b) = some (.inr (1, [.int (zi (num)), .int (zi (club)), .int (zi (bears)), .int (zi (home)), .int (zi (speed)), .int (zi (tank)), .int (zi (user)), .int (zi (uot)), .int (zi (1)), .ref (ca), .int (zi (next)), .int (zi (fuel)), .int (zi (left))])) := zu_eq
  refine lv_aload_n hx hb dX0_leaveFor_10 rfl (lv_at hl 0 rfl) ?_
  refine lv_aload_n hx hb dX0_leaveFor_11 rfl (lv_at hl 0 rfl) ?_
  refine z_get hx hb (q_wsX0 hT hW) hown hK hR he_2 rfl 6 (by decide) (q_255 hT hW) (fun _ h => h) rfl dX0_leaveFor_12 ?_
  refine z_put hx hb (q_wsX0 hT hW) tyX0 tyX0_ok nmX0 hown hK hR hS he_2 rfl 7 (by decide) (q_257 hT hW) (fun _ h => h) rfl (tyX0_ok 7 (by decide)) rfl rfl (Nat.le_of_ble_eq_true rfl) dX0_leaveFor_15 (fun H locs hR hS => ?_)
  rw [zu_zu] at hR
  have hR : zR D A (zu w (b) (.inr (1, [.int (zi (num)), .int (zi (club)), .int (zi (bears)), .int (zi (home)), .int (zi (speed)), .int (zi (tank)), .int (zi (user)), .int (zi (user)), .int (zi (1)), .ref (ca), .int (zi (next)), .int (zi (fuel)), .int (zi (left))]))) H := hR
  have he_3 : (zu w (b) (.inr (1, [.int (zi (num)), .int (zi (club)), .int (zi (bears)), .int (zi (home)), .int (zi (speed)), .int (zi (tank)), .int (zi (user)), .int (zi (user)), .int (zi (1)), .ref (ca), .int (zi (next)), .int (zi (fuel)), .int (zi (left))]))) (b) = some (.inr (1, [.int (zi (num)), .int (zi (club)), .int (zi (bears)), .int (zi (home)), .int (zi (speed)), .int (zi (tank)), .int (zi (user)), .int (zi (user)), .int (zi (1)), .ref (ca), .int (zi (next)), .int (zi (fuel)), .int (zi (left))])) := zu_eq
  refine lv_aload_n hx hb dX0_leaveFor_18 rfl (lv_at hl 0 rfl) ?_
  refine lv_iload_n hx hb dX0_leaveFor_19 rfl (lv_at hl 2 rfl) ?_
  refine z_put hx hb (q_wsX0 hT hW) tyX0 tyX0_ok nmX0 hown hK hR hS he_3 rfl 12 (by decide) (q_267 hT hW) (fun _ h => h) rfl (tyX0_ok 12 (by decide)) rfl rfl (Nat.le_of_ble_eq_true rfl) dX0_leaveFor_20 (fun H locs hR hS => ?_)
  rw [zu_zu] at hR
  have hR : zR D A (zu w (b) (.inr (1, [.int (zi (num)), .int (zi (club)), .int (zi (bears)), .int (zi (home)), .int (zi (speed)), .int (zi (tank)), .int (zi (user)), .int (zi (user)), .int (zi (1)), .ref (ca), .int (zi (next)), .int (zi (fuel)), .int (zi (h))]))) H := hR
  have he_4 : (zu w (b) (.inr (1, [.int (zi (num)), .int (zi (club)), .int (zi (bears)), .int (zi (home)), .int (zi (speed)), .int (zi (tank)), .int (zi (user)), .int (zi (user)), .int (zi (1)), .ref (ca), .int (zi (next)), .int (zi (fuel)), .int (zi (h))]))) (b) = some (.inr (1, [.int (zi (num)), .int (zi (club)), .int (zi (bears)), .int (zi (home)), .int (zi (speed)), .int (zi (tank)), .int (zi (user)), .int (zi (user)), .int (zi (1)), .ref (ca), .int (zi (next)), .int (zi (fuel)), .int (zi (h))])) := zu_eq
  refine lv_aload_n hx hb dX0_leaveFor_23 rfl (lv_at hl 0 rfl) ?_
  refine lv_iload_n hx hb dX0_leaveFor_24 rfl (lv_at hl 3 rfl) ?_
  refine z_put hx hb (q_wsX0 hT hW) tyX0 tyX0_ok nmX0 hown hK hR hS he_4 rfl 10 (by decide) (q_263 hT hW) (fun _ h => h) rfl (tyX0_ok 10 (by decide)) rfl rfl (Nat.le_of_ble_eq_true rfl) dX0_leaveFor_25 (fun H locs hR hS => ?_)
  rw [zu_zu] at hR
  have hR : zR D A (zu w (b) (.inr (1, [.int (zi (num)), .int (zi (club)), .int (zi (bears)), .int (zi (home)), .int (zi (speed)), .int (zi (tank)), .int (zi (user)), .int (zi (user)), .int (zi (1)), .ref (ca), .int (zi (th)), .int (zi (fuel)), .int (zi (h))]))) H := hR
  have he_5 : (zu w (b) (.inr (1, [.int (zi (num)), .int (zi (club)), .int (zi (bears)), .int (zi (home)), .int (zi (speed)), .int (zi (tank)), .int (zi (user)), .int (zi (user)), .int (zi (1)), .ref (ca), .int (zi (th)), .int (zi (fuel)), .int (zi (h))]))) (b) = some (.inr (1, [.int (zi (num)), .int (zi (club)), .int (zi (bears)), .int (zi (home)), .int (zi (speed)), .int (zi (tank)), .int (zi (user)), .int (zi (user)), .int (zi (1)), .ref (ca), .int (zi (th)), .int (zi (fuel)), .int (zi (h))])) := zu_eq
  exact z_vret hx hb hr hlocks hS (by decide) (by decide) dX0_leaveFor_28 ⟨rfl, hR⟩
set_option maxHeartbeats 4000000 in
set_option maxRecDepth 100000 in
theorem c_X0_wayTo (l : Launch) {S : State} {D : va_G} {tc : Nat → ClassId} {A : Nat → Prop} {dz : Nat} (hZ : zB S D tc A dz) {w : zW} {b : Nat} {num club bears home speed tank user uot st next fuel left : Int} {co : Option Nat} (hb0 : w b = some (.inr (1, [.int (zi (num)), .int (zi (club)), .int (zi (bears)), .int (zi (home)), .int (zi (speed)), .int (zi (tank)), .int (zi (user)), .int (zi (uot)), .int (zi (st)), va_rf (co), .int (zi (next)), .int (zi (fuel)), .int (zi (left))]))) {n : Int} (h0 : 0 ≤ n ∧ n ≤ 47 ∧ 0 ≤ home ∧ home ≤ 47) : zM l S A yX0_wayTo cX0_wayTo 2 (Option.some Jvm.ClassFile.FieldType.int) { frames := 2, locals := 50, cells := 0, slots := 0 } [.ref (b), .int (zi (n))] (zR D A w) (fun v H => v = some (.int (zi ((if 0 ≤ (n % 8 - home % 8) then (n % 8 - home % 8) else -((n % 8 - home % 8))) + (if 0 ≤ (n / 8 - home / 8) then (n / 8 - home / 8) else -((n / 8 - home / 8)))))) ∧ zR D A w H) := by
  refine zM.mk (by decide +kernel) (Nat.le_of_ble_eq_true rfl) ?_
  intro p e s m below meth c ls X0 hR hl
  obtain ⟨hx, hb, hml, hr, hlocks, hown, hnm, hW, hpre, hA⟩ := X0
  have X : zH S A p s m c cX0_wayTo 2 RX0 := ⟨hx, hb, hml, hown, hW, hpre, hA, hZ.2.2.1⟩
  have hT := hZ.1
  have hK := va_K.moved hW.alike hZ.2.1
  have hS : va_S A s.heap s.heap [] := va_S.rf
  have hl : lv_has ls 2 [(0, .ref (b)), (1, .int (zi (n)))] := hl
  skip
  refine lv_iload_n hx hb dX0_wayTo_0 rfl (lv_at hl 1 rfl) ?_
  refine z_invSN (n := 1) (c_X5_columnOf l hZ (P := zR D A w) (n := n) (by omega)) X hS hR hl.1 (q_391 hT hW) (q_1 hT hW) (va_Nw.use rfl (q_497 hT hW)) (q_390 hT hW) (by decide +kernel) rfl ⟨Nat.le_of_ble_eq_true rfl, Nat.le_of_ble_eq_true rfl⟩ ⟨Nat.le_of_ble_eq_true rfl, Nat.le_of_ble_eq_true rfl⟩ (Nat.le_of_ble_eq_true rfl) dX0_wayTo_1 (fun v H locs hv hS => ?_) rfl
  obtain ⟨rfl, hR⟩ := hv
  refine lv_aload_n hx hb dX0_wayTo_4 rfl (lv_at hl 0 rfl) ?_
  refine z_get hx hb (q_wsX0 hT hW) hown hK hR hb0 rfl 3 (by decide) (q_252 hT hW) (fun _ h => h) rfl dX0_wayTo_5 ?_
  refine z_invSN (n := 1) (c_X5_columnOf l hZ (P := zR D A w) (n := home) (by omega)) X hS hR hl.1 (q_391 hT hW) (q_1 hT hW) (va_Nw.use rfl (q_497 hT hW)) (q_390 hT hW) (by decide +kernel) rfl ⟨Nat.le_of_ble_eq_true rfl, Nat.le_of_ble_eq_true rfl⟩ ⟨Nat.le_of_ble_eq_true rfl, Nat.le_of_ble_eq_true rfl⟩ (Nat.le_of_ble_eq_true rfl) dX0_wayTo_8 (fun v H locs hv hS => ?_) rfl
  obtain ⟨rfl, hR⟩ := hv
  refine z_isub (a := (n % 8)) (b := (home % 8)) hx hb dX0_wayTo_11 ?_
  refine z_abs (a := ((n % 8) - (home % 8))) hT X hl.1 (q_498 hT hW) (by omega) (Nat.le_of_ble_eq_true rfl) (Nat.le_of_ble_eq_true rfl) (Nat.le_of_ble_eq_true rfl) (Nat.le_of_ble_eq_true rfl) dX0_wayTo_12 ?_
  refine lv_iload_n hx hb dX0_wayTo_15 rfl (lv_at hl 1 rfl) ?_
  refine z_invSN (n := 1) (c_X5_rowOf l hZ (P := zR D A w) (n := n) (by omega)) X hS hR hl.1 (q_394 hT hW) (q_1 hT hW) (va_Nw.use rfl (q_501 hT hW)) (q_393 hT hW) (by decide +kernel) rfl ⟨Nat.le_of_ble_eq_true rfl, Nat.le_of_ble_eq_true rfl⟩ ⟨Nat.le_of_ble_eq_true rfl, Nat.le_of_ble_eq_true rfl⟩ (Nat.le_of_ble_eq_true rfl) dX0_wayTo_16 (fun v H locs hv hS => ?_) rfl
  obtain ⟨rfl, hR⟩ := hv
  refine lv_aload_n hx hb dX0_wayTo_19 rfl (lv_at hl 0 rfl) ?_
  refine z_get hx hb (q_wsX0 hT hW) hown hK hR hb0 rfl 3 (by decide) (q_252 hT hW) (fun _ h => h) rfl dX0_wayTo_20 ?_
  refine z_invSN (n := 1) (c_X5_rowOf l hZ (P := zR D A w) (n := home) (by omega)) X hS hR hl.1 (q_394 hT hW) (q_1 hT hW) (va_Nw.use rfl (q_501 hT hW)) (q_393 hT hW) (by decide +kernel) rfl ⟨Nat.le_of_ble_eq_true rfl, Nat.le_of_ble_eq_true rfl⟩ ⟨Nat.le_of_ble_eq_true rfl, Nat.le_of_ble_eq_true rfl⟩ (Nat.le_of_ble_eq_true rfl) dX0_wayTo_23 (fun v H locs hv hS => ?_) rfl
  obtain ⟨rfl, hR⟩ := hv
  refine z_isub (a := (n / 8)) (b := (home / 8)) hx hb dX0_wayTo_26 ?_
  refine z_abs (a := ((n / 8) - (home / 8))) hT X hl.1 (q_498 hT hW) (by omega) (Nat.le_of_ble_eq_true rfl) (Nat.le_of_ble_eq_true rfl) (Nat.le_of_ble_eq_true rfl) (Nat.le_of_ble_eq_true rfl) dX0_wayTo_27 ?_
  refine z_iadd (a := (if 0 ≤ ((n % 8) - (home % 8)) then ((n % 8) - (home % 8)) else -(((n % 8) - (home % 8))))) (b := (if 0 ≤ ((n / 8) - (home / 8)) then ((n / 8) - (home / 8)) else -(((n / 8) - (home / 8))))) hx hb dX0_wayTo_30 ?_
  exact z_iret hx hb hr hlocks hS (by decide) (by decide) dX0_wayTo_31 ⟨rfl, hR⟩

