/-! a new market -/
set_option maxHeartbeats 4000000 in
set_option maxRecDepth 100000 in
theorem c_X4_init (l : Launch) {S : State} {D : va_G} {tc : Nat → ClassId} {A : Nat → Prop} {dz : Nat} (hZ : zB S D tc A dz) {w : zW} {b : Nat} (hb0 : w b = some (.inr (5, [.null]))) : zM l S A yX4_init cX4_init 1 (Option.none : Option Jvm.ClassFile.FieldType) { frames := 4, locals := 110, cells := 1, slots := 3024 } [.ref (b)] (zR D A w) (fun v H => v = none ∧ ∃ (w' : zW) (q1 : Nat), w' b = some (.inr (5, [.ref q1])) ∧ w' q1 = some (.inl (tc 2, 3024, .inr (.inl (fun _ => 0)))) ∧ (∀ (q : Nat) (e : va_E), w q = some e → q ≠ q1) ∧ (∀ (q : Nat) (e : va_E), w q = some e → q ≠ b → w' q = some e) ∧ zR D A w' H) := by
  refine zM.mk (by decide +kernel) (Nat.le_of_ble_eq_true rfl) ?_
  intro p e s m below meth c ls X0 hR hl
  obtain ⟨hx, hb, hml, hr, hlocks, hown, hnm, hW, hpre, hA⟩ := X0
  have X : zH S A p s m c cX4_init 1 RX4 := ⟨hx, hb, hml, hown, hW, hpre, hA, hZ.2.2.1⟩
  have hT := hZ.1
  have hK := va_K.moved hW.alike hZ.2.1
  have hS : va_S A s.heap s.heap [] := va_S.rf
  have hl : lv_has ls 1 [(0, .ref (b))] := hl
  skip
  refine lv_aload_n hx hb dX4_init_0 rfl (lv_at hl 0 rfl) ?_
  refine W.objInit hx hb hown (q_35 hT hW) (q_28 hT hW) (q_29 hT hW) rfl (by rw [hml]; exact hl.1) rfl dX4_init_1 (Nat.le_of_ble_eq_true rfl) (Nat.le_of_ble_eq_true rfl) ?_
  refine W.eq (g2 := F0 m 4 ls []) rfl ?_
  refine lv_aload_n hx hb dX4_init_4 rfl (lv_at hl 0 rfl) ?_
  refine lv_sipush (v := zi (3024)) hx hb dX4_init_5 rfl ?_
  skip
  refine z_newa (atype := .long) (n := 3024) (N := 3024) (ty := .long) (a0 := (3024, .inr (.inl (fun _ => 0)))) hx hb (q_40 hT hW) rfl hK hR hS hA (by decide +kernel) 2 rfl (fun cA => rfl) (by omega) (by decide +kernel) (by decide +kernel) (by decide +kernel) dX4_init_8 (fun q1 H hfr hR hS => ?_)
  have n_b_q1 : b ≠ q1 := hfr _ _ hb0
  have hR : zR D A (zu w (q1) (.inl (tc 2, (3024, .inr (.inl (fun _ => 0)))))) H := hR
  have he_1 : (zu w (q1) (.inl (tc 2, (3024, .inr (.inl (fun _ => 0)))))) (q1) = some (.inl (tc 2, (3024, .inr (.inl (fun _ => 0))))) := zu_eq
  have he_2 : (zu w (q1) (.inl (tc 2, (3024, .inr (.inl (fun _ => 0)))))) (b) = some (.inr (5, [.null])) := (zu_ne n_b_q1).trans hb0
  have hf1 := hfr
  refine z_putF hx hb (q_wsX4 hT hW) tyX4 tyX4_ok nmX4 hown hK hR hS he_2 rfl 0 (by decide) (q_36 hT hW) (fun _ h => h) rfl hnm rfl (tyX4_ok 0 (by decide)) rfl rfl (Nat.le_of_ble_eq_true rfl) dX4_init_10 (fun H locs hR hS => ?_)
  have hR : zR D A (zu (zu w (q1) (.inl (tc 2, (3024, .inr (.inl (fun _ => 0)))))) (b) (.inr (5, [.ref (q1)]))) H := hR
  have he_3 : (zu (zu w (q1) (.inl (tc 2, (3024, .inr (.inl (fun _ => 0)))))) (b) (.inr (5, [.ref (q1)]))) (b) = some (.inr (5, [.ref (q1)])) := zu_eq
  have he_4 : (zu (zu w (q1) (.inl (tc 2, (3024, .inr (.inl (fun _ => 0)))))) (b) (.inr (5, [.ref (q1)]))) (q1) = some (.inl (tc 2, (3024, .inr (.inl (fun _ => 0))))) := (zu_ne (Ne.symm n_b_q1)).trans he_1
  exact z_vret hx hb hr hlocks hS (by decide) (by decide) dX4_init_13 ⟨rfl, _, q1, he_3, he_4, hf1, fun q e hq hne => (zu_ne hne).trans ((zu_ne (hf1 q e hq)).trans hq), hR⟩
set_option maxHeartbeats 4000000 in
set_option maxRecDepth 100000 in
theorem c_X3_init (l : Launch) {S : State} {D : va_G} {tc : Nat → ClassId} {A : Nat → Prop} {dz : Nat} (hZ : zB S D tc A dz) {w : zW} {b : Nat} (hb0 : w b = some (.inr (4, [.null, .null]))) : zM l S A yX3_init cX3_init 1 (Option.none : Option Jvm.ClassFile.FieldType) { frames := 6, locals := 140, cells := 2, slots := 6 } [.ref (b)] (zR D A w) (fun v H => v = none ∧ ∃ (w' : zW) (q1 q2 : Nat), w' b = some (.inr (4, [.ref q1, .ref q2])) ∧ w' q1 = some (.inl (tc 0, 3, .inl (fun _ => zi 0))) ∧ w' q2 = some (zLs 0 dz 0) ∧ (∀ (q : Nat) (e : va_E), w q = some e → q ≠ q1) ∧ (∀ (q : Nat) (e : va_E), w q = some e → q ≠ q2) ∧ (∀ (q : Nat) (e : va_E), w q = some e → q ≠ b → w' q = some e) ∧ zR D A w' H) := by
  refine zM.mk (by decide +kernel) (Nat.le_of_ble_eq_true rfl) ?_
  intro p e s m below meth c ls X0 hR hl
  obtain ⟨hx, hb, hml, hr, hlocks, hown, hnm, hW, hpre, hA⟩ := X0
  have X : zH S A p s m c cX3_init 1 RX3 := ⟨hx, hb, hml, hown, hW, hpre, hA, hZ.2.2.1⟩
  have hT := hZ.1
  have hK := va_K.moved hW.alike hZ.2.1
  have hS : va_S A s.heap s.heap [] := va_S.rf
  have hl : lv_has ls 1 [(0, .ref (b))] := hl
  skip
  refine lv_aload_n hx hb dX3_init_0 rfl (lv_at hl 0 rfl) ?_
  refine W.objInit hx hb hown (q_46 hT hW) (q_28 hT hW) (q_29 hT hW) rfl (by rw [hml]; exact hl.1) rfl dX3_init_1 (Nat.le_of_ble_eq_true rfl) (Nat.le_of_ble_eq_true rfl) ?_
  refine W.eq (g2 := F0 m 4 ls []) rfl ?_
  refine lv_aload_n hx hb dX3_init_4 rfl (lv_at hl 0 rfl) ?_
  refine lv_iconst (v := zi (3)) hx hb dX3_init_5 rfl ?_
  refine z_newa (atype := .int) (n := 3) (N := 3) (ty := .int) (a0 := (3, .inl (fun _ => zi 0))) hx hb (q_73 hT hW) rfl hK hR hS hA (by decide +kernel) 0 rfl (fun cA => rfl) (by omega) (by decide +kernel) (by decide +kernel) (by decide +kernel) dX3_init_6 (fun q1 H hfr hR hS => ?_)
  have n_b_q1 : b ≠ q1 := hfr _ _ hb0
  have hR : zR D A (zu w (q1) (.inl (tc 0, (3, .inl (fun _ => zi 0))))) H := hR
  have he_1 : (zu w (q1) (.inl (tc 0, (3, .inl (fun _ => zi 0))))) (q1) = some (.inl (tc 0, (3, .inl (fun _ => zi 0)))) := zu_eq
  have he_2 : (zu w (q1) (.inl (tc 0, (3, .inl (fun _ => zi 0))))) (b) = some (.inr (4, [.null, .null])) := (zu_ne n_b_q1).trans hb0
  have hf1 := hfr
  refine z_putF hx hb (q_wsX3 hT hW) tyX3 tyX3_ok nmX3 hown hK hR hS he_2 rfl 0 (by decide) (q_74 hT hW) (fun _ h => h) rfl hnm rfl (tyX3_ok 0 (by decide)) rfl rfl (Nat.le_of_ble_eq_true rfl) dX3_init_8 (fun H locs hR hS => ?_)
  have hR : zR D A (zu (zu w (q1) (.inl (tc 0, (3, .inl (fun _ => zi 0))))) (b) (.inr (4, [.ref (q1), .null]))) H := hR
  have he_3 : (zu (zu w (q1) (.inl (tc 0, (3, .inl (fun _ => zi 0))))) (b) (.inr (4, [.ref (q1), .null]))) (b) = some (.inr (4, [.ref (q1), .null])) := zu_eq
  have he_4 : (zu (zu w (q1) (.inl (tc 0, (3, .inl (fun _ => zi 0))))) (b) (.inr (4, [.ref (q1), .null]))) (q1) = some (.inl (tc 0, (3, .inl (fun _ => zi 0)))) := (zu_ne (Ne.symm n_b_q1)).trans he_1
  refine lv_aload_n hx hb dX3_init_11 rfl (lv_at hl 0 rfl) ?_
  refine z_new (fs := [.int (zi (0)), .null, .int (zi (0))]) hx hb (q_wsJx4a65c hT hW) tyJx4a65c tyJx4a65c_ok hown (q_47 hT hW) (q_48 hT hW) (q_6 hT hW) hK hR hS hA (ci := 0) rfl (fun j hj => match j, hj with | 0, _ => rfl | 1, _ => rfl | 2, _ => rfl | (k + 3), h => absurd h (by omega)) (Nat.le_of_ble_eq_true rfl) (Nat.le_of_ble_eq_true rfl) dX3_init_12 (fun q2 H hfr hR hS => ?_)
  have n_b_q2 : b ≠ q2 := hfr _ _ he_3
  have n_q1_q2 : q1 ≠ q2 := hfr _ _ he_4
  have hR : zR D A (zu (zu (zu w (q1) (.inl (tc 0, (3, .inl (fun _ => zi 0))))) (b) (.inr (4, [.ref (q1), .null]))) (q2) (.inr (0, [.int (zi (0)), .null, .int (zi (0))]))) H := hR
  have he_5 : (zu (zu (zu w (q1) (.inl (tc 0, (3, .inl (fun _ => zi 0))))) (b) (.inr (4, [.ref (q1), .null]))) (q2) (.inr (0, [.int (zi (0)), .null, .int (zi (0))]))) (q2) = some (.inr (0, [.int (zi (0)), .null, .int (zi (0))])) := zu_eq
  have he_6 : (zu (zu (zu w (q1) (.inl (tc 0, (3, .inl (fun _ => zi 0))))) (b) (.inr (4, [.ref (q1), .null]))) (q2) (.inr (0, [.int (zi (0)), .null, .int (zi (0))]))) (b) = some (.inr (4, [.ref (q1), .null])) := (zu_ne n_b_q2).trans he_3
  have he_7 : (zu (zu (zu w (q1) (.inl (tc 0, (3, .inl (fun _ => zi 0))))) (b) (.inr (4, [.ref (q1), .null]))) (q2) (.inr (0, [.int (zi (0)), .null, .int (zi (0))]))) (q1) = some (.inl (tc 0, (3, .inl (fun _ => zi 0)))) := (zu_ne n_q1_q2).trans he_4
  have hf2 : ∀ (q : Nat) (e : va_E), w q = some e → q ≠ q2 := fun q e hq => by
    by_cases z : q = b
    · rw [z]; exact n_b_q2
    · exact hfr q e ((zu_ne z).trans ((zu_ne (hf1 q e hq)).trans hq))
  refine lv_dup hx hb dX3_init_15 rfl ?_
  refine z_invI (n := 0) (c_Jx4a65c_init_da8c8 l hZ he_5) X hS hR hl.1 rfl (q_51 hT hW) (q_6 hT hW) (q_49 hT hW) (q_50 hT hW) (by decide +kernel) rfl ⟨Nat.le_of_ble_eq_true rfl, Nat.le_of_ble_eq_true rfl⟩ ⟨Nat.le_of_ble_eq_true rfl, Nat.le_of_ble_eq_true rfl⟩ (Nat.le_of_ble_eq_true rfl) dX3_init_16 (fun v H locs hv hS => ?_) rfl
  obtain ⟨rfl, hR⟩ := hv
  rw [zu_zu] at hR
  have hR : zR D A (zu (zu (zu w (q1) (.inl (tc 0, (3, .inl (fun _ => zi 0))))) (b) (.inr (4, [.ref (q1), .null]))) (q2) (.inr (0, [.int (zi (0)), .ref (dz), .int (zi (0))]))) H := hR
  have he_8 : (zu (zu (zu w (q1) (.inl (tc 0, (3, .inl (fun _ => zi 0))))) (b) (.inr (4, [.ref (q1), .null]))) (q2) (.inr (0, [.int (zi (0)), .ref (dz), .int (zi (0))]))) (q2) = some (.inr (0, [.int (zi (0)), .ref (dz), .int (zi (0))])) := zu_eq
  have he_9 : (zu (zu (zu w (q1) (.inl (tc 0, (3, .inl (fun _ => zi 0))))) (b) (.inr (4, [.ref (q1), .null]))) (q2) (.inr (0, [.int (zi (0)), .ref (dz), .int (zi (0))]))) (b) = some (.inr (4, [.ref (q1), .null])) := (zu_ne n_b_q2).trans ((zu_ne n_b_q2).symm.trans he_6)
  have he_10 : (zu (zu (zu w (q1) (.inl (tc 0, (3, .inl (fun _ => zi 0))))) (b) (.inr (4, [.ref (q1), .null]))) (q2) (.inr (0, [.int (zi (0)), .ref (dz), .int (zi (0))]))) (q1) = some (.inl (tc 0, (3, .inl (fun _ => zi 0)))) := (zu_ne n_q1_q2).trans ((zu_ne n_q1_q2).symm.trans he_7)
  refine z_putF hx hb (q_wsX3 hT hW) tyX3 tyX3_ok nmX3 hown hK hR hS he_9 rfl 1 (by decide) (q_75 hT hW) (fun _ h => h) rfl hnm rfl (tyX3_ok 1 (by decide)) rfl rfl (Nat.le_of_ble_eq_true rfl) dX3_init_19 (fun H locs hR hS => ?_)
  have hR : zR D A (zu (zu (zu (zu w (q1) (.inl (tc 0, (3, .inl (fun _ => zi 0))))) (b) (.inr (4, [.ref (q1), .null]))) (q2) (.inr (0, [.int (zi (0)), .ref (dz), .int (zi (0))]))) (b) (.inr (4, [.ref (q1), .ref (q2)]))) H := hR
  have he_11 : (zu (zu (zu (zu w (q1) (.inl (tc 0, (3, .inl (fun _ => zi 0))))) (b) (.inr (4, [.ref (q1), .null]))) (q2) (.inr (0, [.int (zi (0)), .ref (dz), .int (zi (0))]))) (b) (.inr (4, [.ref (q1), .ref (q2)]))) (b) = some (.inr (4, [.ref (q1), .ref (q2)])) := zu_eq
  have he_12 : (zu (zu (zu (zu w (q1) (.inl (tc 0, (3, .inl (fun _ => zi 0))))) (b) (.inr (4, [.ref (q1), .null]))) (q2) (.inr (0, [.int (zi (0)), .ref (dz), .int (zi (0))]))) (b) (.inr (4, [.ref (q1), .ref (q2)]))) (q1) = some (.inl (tc 0, (3, .inl (fun _ => zi 0)))) := (zu_ne (Ne.symm n_b_q1)).trans he_10
  have he_13 : (zu (zu (zu (zu w (q1) (.inl (tc 0, (3, .inl (fun _ => zi 0))))) (b) (.inr (4, [.ref (q1), .null]))) (q2) (.inr (0, [.int (zi (0)), .ref (dz), .int (zi (0))]))) (b) (.inr (4, [.ref (q1), .ref (q2)]))) (q2) = some (.inr (0, [.int (zi (0)), .ref (dz), .int (zi (0))])) := (zu_ne (Ne.symm n_b_q2)).trans he_8
  exact z_vret hx hb hr hlocks hS (by decide) (by decide) dX3_init_22 ⟨rfl, _, q1, q2, he_11, he_12, he_13, hf1, hf2, fun q e hq hne => (zu_ne hne).trans ((zu_ne (hf2 q e hq)).trans ((zu_ne hne).trans ((zu_ne (hf1 q e hq)).trans hq))), hR⟩
theorem zIn_mu0 : zIn mu0 := ⟨by unfold mu0; decide, fun j => by unfold mu0; decide, fun i hi => absurd hi (by show ¬ (i : Int) < 0; omega), fun j hj => absurd hj (by show ¬ (j : Int) < 0; omega)⟩
theorem zUn_mu0 : zUn mu0 := ⟨fun i _ => rfl, fun j _ => ⟨rfl, rfl, rfl⟩⟩
theorem zni_0 (k : Nat) : zni 0 k = 0 := by
  unfold zni
  rw [show ((0 : Int64).toBitVec.toNat) = 0 from rfl, Nat.zero_shiftRight]
theorem zLi_0 {tc : Nat → ClassId} {dz : Nat} {w : zW} {la : Nat} {a : Nat → Nat} (h : w la = some (zLs 0 dz 0)) : zLi tc dz w la 0 a := ⟨0, dz, 0, fun _ => none, h, Nat.le_refl 0, Or.inl rfl, fun i hi => absurd hi (Nat.not_lt_zero i), Or.inl ⟨rfl, rfl⟩⟩
set_option maxHeartbeats 4000000 in
set_option maxRecDepth 100000 in
theorem c_X5_init (l : Launch) {S : State} {D : va_G} {tc : Nat → ClassId} {A : Nat → Prop} {dz : Nat} (hZ : zB S D tc A dz) {w : zW} {b : Nat} (hb0 : w b = some (.inr (6, [.null, .null, .null, .null, .int (zi 0), .int (zi 0)]))) : zM l S A yX5_init cX5_init 1 (Option.none : Option Jvm.ClassFile.FieldType) { frames := 7, locals := 200, cells := 7, slots := 3039 } [.ref (b)] (zR D A w) (fun v H => v = none ∧ ∃ ad : Nat → Nat, ad 0 = b ∧ zHC D tc dz A ad mu0 H) := by
  refine zM.mk (by decide +kernel) (Nat.le_of_ble_eq_true rfl) ?_
  intro p e s m below meth c ls X0 hR hl
  obtain ⟨hx, hb, hml, hr, hlocks, hown, hnm, hW, hpre, hA⟩ := X0
  have X : zH S A p s m c cX5_init 1 RX5 := ⟨hx, hb, hml, hown, hW, hpre, hA, hZ.2.2.1⟩
  have hT := hZ.1
  have hK := va_K.moved hW.alike hZ.2.1
  have hS : va_S A s.heap s.heap [] := va_S.rf
  have hl : lv_has ls 1 [(0, .ref (b))] := hl
  skip
  skip
  refine lv_aload_n hx hb dX5_init_0 rfl (lv_at hl 0 rfl) ?_
  refine W.objInit hx hb hown (q_27 hT hW) (q_28 hT hW) (q_29 hT hW) rfl (by rw [hml]; exact hl.1) rfl dX5_init_1 (Nat.le_of_ble_eq_true rfl) (Nat.le_of_ble_eq_true rfl) ?_
  refine W.eq (g2 := F0 m 4 ls []) rfl ?_
  refine lv_aload_n hx hb dX5_init_4 rfl (lv_at hl 0 rfl) ?_
  refine z_new (fs := [.null]) hx hb (q_wsX4 hT hW) tyX4 tyX4_ok hown (q_30 hT hW) (q_31 hT hW) (q_2 hT hW) hK hR hS hA (ci := 5) rfl (fun j hj => match j, hj with | 0, _ => rfl | (k + 1), h => absurd h (by omega)) (Nat.le_of_ble_eq_true rfl) (Nat.le_of_ble_eq_true rfl) dX5_init_5 (fun qW H hfr hR hS => ?_)
  have n_b_qW : b ≠ qW := hfr _ _ hb0
  have hR : zR D A (zu w (qW) (.inr (5, [.null]))) H := hR
  have he_1 : (zu w (qW) (.inr (5, [.null]))) (qW) = some (.inr (5, [.null])) := zu_eq
  have he_2 : (zu w (qW) (.inr (5, [.null]))) (b) = some (.inr (6, [.null, .null, .null, .null, .int (zi (0)), .int (zi (0))])) := (zu_ne n_b_qW).trans hb0
  refine lv_dup hx hb dX5_init_8 rfl ?_
  refine z_invI (n := 0) (c_X4_init l hZ he_1) X hS hR hl.1 rfl (q_34 hT hW) (q_2 hT hW) (q_32 hT hW) (q_33 hT hW) (by decide +kernel) rfl ⟨Nat.le_of_ble_eq_true rfl, Nat.le_of_ble_eq_true rfl⟩ ⟨Nat.le_of_ble_eq_true rfl, Nat.le_of_ble_eq_true rfl⟩ (Nat.le_of_ble_eq_true rfl) dX5_init_9 (fun v H locs hv hS => ?_) rfl
  obtain ⟨rfl, w2, qX, hw1, hw2, hw3, hw4, hR⟩ := hv
  have n_b_qX : b ≠ qX := hw3 _ _ he_2
  have n_qW_qX : qW ≠ qX := hw3 _ _ he_1
  have he_3 : w2 (b) = some (.inr (6, [.null, .null, .null, .null, .int (zi (0)), .int (zi (0))])) := hw4 _ _ he_2 n_b_qW
  refine z_putF hx hb (q_wsX5 hT hW) tyX5 tyX5_ok nmX5 hown hK hR hS he_3 rfl 0 (by decide) (q_83 hT hW) (fun _ h => h) rfl hnm rfl (tyX5_ok 0 (by decide)) rfl rfl (Nat.le_of_ble_eq_true rfl) dX5_init_12 (fun H locs hR hS => ?_)
  have hR : zR D A (zu w2 (b) (.inr (6, [.ref (qW), .null, .null, .null, .int (zi (0)), .int (zi (0))]))) H := hR
  have he_4 : (zu w2 (b) (.inr (6, [.ref (qW), .null, .null, .null, .int (zi (0)), .int (zi (0))]))) (b) = some (.inr (6, [.ref (qW), .null, .null, .null, .int (zi (0)), .int (zi (0))])) := zu_eq
  have he_5 : (zu w2 (b) (.inr (6, [.ref (qW), .null, .null, .null, .int (zi (0)), .int (zi (0))]))) (qW) = some (.inr (5, [.ref (qX)])) := (zu_ne (Ne.symm n_b_qW)).trans hw1
  have he_6 : (zu w2 (b) (.inr (6, [.ref (qW), .null, .null, .null, .int (zi (0)), .int (zi (0))]))) (qX) = some (.inl (tc 2, 3024, .inr (.inl (fun _ => 0)))) := (zu_ne (Ne.symm n_b_qX)).trans hw2
  refine lv_aload_n hx hb dX5_init_15 rfl (lv_at hl 0 rfl) ?_
  refine z_new (fs := [.null, .null]) hx hb (q_wsX3 hT hW) tyX3 tyX3_ok hown (q_41 hT hW) (q_42 hT hW) (q_3 hT hW) hK hR hS hA (ci := 4) rfl (fun j hj => match j, hj with | 0, _ => rfl | 1, _ => rfl | (k + 2), h => absurd h (by omega)) (Nat.le_of_ble_eq_true rfl) (Nat.le_of_ble_eq_true rfl) dX5_init_16 (fun qL H hfr hR hS => ?_)
  have n_b_qL : b ≠ qL := hfr _ _ he_4
  have n_qW_qL : qW ≠ qL := hfr _ _ he_5
  have n_qX_qL : qX ≠ qL := hfr _ _ he_6
  have hR : zR D A (zu (zu w2 (b) (.inr (6, [.ref (qW), .null, .null, .null, .int (zi (0)), .int (zi (0))]))) (qL) (.inr (4, [.null, .null]))) H := hR
  have he_7 : (zu (zu w2 (b) (.inr (6, [.ref (qW), .null, .null, .null, .int (zi (0)), .int (zi (0))]))) (qL) (.inr (4, [.null, .null]))) (qL) = some (.inr (4, [.null, .null])) := zu_eq
  have he_8 : (zu (zu w2 (b) (.inr (6, [.ref (qW), .null, .null, .null, .int (zi (0)), .int (zi (0))]))) (qL) (.inr (4, [.null, .null]))) (b) = some (.inr (6, [.ref (qW), .null, .null, .null, .int (zi (0)), .int (zi (0))])) := (zu_ne n_b_qL).trans he_4
  have he_9 : (zu (zu w2 (b) (.inr (6, [.ref (qW), .null, .null, .null, .int (zi (0)), .int (zi (0))]))) (qL) (.inr (4, [.null, .null]))) (qW) = some (.inr (5, [.ref (qX)])) := (zu_ne n_qW_qL).trans he_5
  have he_10 : (zu (zu w2 (b) (.inr (6, [.ref (qW), .null, .null, .null, .int (zi (0)), .int (zi (0))]))) (qL) (.inr (4, [.null, .null]))) (qX) = some (.inl (tc 2, 3024, .inr (.inl (fun _ => 0)))) := (zu_ne n_qX_qL).trans he_6
  refine lv_dup hx hb dX5_init_19 rfl ?_
  refine z_invI (n := 0) (c_X3_init l hZ he_7) X hS hR hl.1 rfl (q_45 hT hW) (q_3 hT hW) (q_43 hT hW) (q_44 hT hW) (by decide +kernel) rfl ⟨Nat.le_of_ble_eq_true rfl, Nat.le_of_ble_eq_true rfl⟩ ⟨Nat.le_of_ble_eq_true rfl, Nat.le_of_ble_eq_true rfl⟩ (Nat.le_of_ble_eq_true rfl) dX5_init_20 (fun v H locs hv hS => ?_) rfl
  obtain ⟨rfl, w3, qP, qD, hl1, hl2, hl3, hl4, hl5, hl6, hR⟩ := hv
  have n_b_qP : b ≠ qP := hl4 _ _ he_8
  have n_qW_qP : qW ≠ qP := hl4 _ _ he_9
  have n_qX_qP : qX ≠ qP := hl4 _ _ he_10
  have n_qL_qP : qL ≠ qP := hl4 _ _ he_7
  have n_b_qD : b ≠ qD := hl5 _ _ he_8
  have n_qW_qD : qW ≠ qD := hl5 _ _ he_9
  have n_qX_qD : qX ≠ qD := hl5 _ _ he_10
  have n_qL_qD : qL ≠ qD := hl5 _ _ he_7
  have n_qP_qD : qP ≠ qD := zne hl2 hl3 (by intro z; cases z)
  have he_11 : w3 (b) = some (.inr (6, [.ref (qW), .null, .null, .null, .int (zi (0)), .int (zi (0))])) := hl6 _ _ he_8 n_b_qL
  have he_12 : w3 (qW) = some (.inr (5, [.ref (qX)])) := hl6 _ _ he_9 n_qW_qL
  have he_13 : w3 (qX) = some (.inl (tc 2, 3024, .inr (.inl (fun _ => 0)))) := hl6 _ _ he_10 n_qX_qL
  refine z_putF hx hb (q_wsX5 hT hW) tyX5 tyX5_ok nmX5 hown hK hR hS he_11 rfl 1 (by decide) (q_84 hT hW) (fun _ h => h) rfl hnm rfl (tyX5_ok 1 (by decide)) rfl rfl (Nat.le_of_ble_eq_true rfl) dX5_init_23 (fun H locs hR hS => ?_)
  have hR : zR D A (zu w3 (b) (.inr (6, [.ref (qW), .ref (qL), .null, .null, .int (zi (0)), .int (zi (0))]))) H := hR
  have he_14 : (zu w3 (b) (.inr (6, [.ref (qW), .ref (qL), .null, .null, .int (zi (0)), .int (zi (0))]))) (b) = some (.inr (6, [.ref (qW), .ref (qL), .null, .null, .int (zi (0)), .int (zi (0))])) := zu_eq
  have he_15 : (zu w3 (b) (.inr (6, [.ref (qW), .ref (qL), .null, .null, .int (zi (0)), .int (zi (0))]))) (qW) = some (.inr (5, [.ref (qX)])) := (zu_ne (Ne.symm n_b_qW)).trans he_12
  have he_16 : (zu w3 (b) (.inr (6, [.ref (qW), .ref (qL), .null, .null, .int (zi (0)), .int (zi (0))]))) (qX) = some (.inl (tc 2, 3024, .inr (.inl (fun _ => 0)))) := (zu_ne (Ne.symm n_b_qX)).trans he_13
  have he_17 : (zu w3 (b) (.inr (6, [.ref (qW), .ref (qL), .null, .null, .int (zi (0)), .int (zi (0))]))) (qL) = some (.inr (4, [.ref (qP), .ref (qD)])) := (zu_ne (Ne.symm n_b_qL)).trans hl1
  have he_18 : (zu w3 (b) (.inr (6, [.ref (qW), .ref (qL), .null, .null, .int (zi (0)), .int (zi (0))]))) (qP) = some (.inl (tc 0, 3, .inl (fun _ => zi 0))) := (zu_ne (Ne.symm n_b_qP)).trans hl2
  have he_19 : (zu w3 (b) (.inr (6, [.ref (qW), .ref (qL), .null, .null, .int (zi (0)), .int (zi (0))]))) (qD) = some (.inr (0, [.int (zi (0)), .ref (dz), .int (zi (0))])) := (zu_ne (Ne.symm n_b_qD)).trans hl3
  refine lv_aload_n hx hb dX5_init_26 rfl (lv_at hl 0 rfl) ?_
  refine z_new (fs := [.int (zi (0)), .null, .int (zi (0))]) hx hb (q_wsJx4a65c hT hW) tyJx4a65c tyJx4a65c_ok hown (q_81 hT hW) (q_48 hT hW) (q_6 hT hW) hK hR hS hA (ci := 0) rfl (fun j hj => match j, hj with | 0, _ => rfl | 1, _ => rfl | 2, _ => rfl | (k + 3), h => absurd h (by omega)) (Nat.le_of_ble_eq_true rfl) (Nat.le_of_ble_eq_true rfl) dX5_init_27 (fun qB H hfr hR hS => ?_)
  have n_b_qB : b ≠ qB := hfr _ _ he_14
  have n_qW_qB : qW ≠ qB := hfr _ _ he_15
  have n_qX_qB : qX ≠ qB := hfr _ _ he_16
  have n_qL_qB : qL ≠ qB := hfr _ _ he_17
  have n_qP_qB : qP ≠ qB := hfr _ _ he_18
  have n_qD_qB : qD ≠ qB := hfr _ _ he_19
  have hR : zR D A (zu (zu w3 (b) (.inr (6, [.ref (qW), .ref (qL), .null, .null, .int (zi (0)), .int (zi (0))]))) (qB) (.inr (0, [.int (zi (0)), .null, .int (zi (0))]))) H := hR
  have he_20 : (zu (zu w3 (b) (.inr (6, [.ref (qW), .ref (qL), .null, .null, .int (zi (0)), .int (zi (0))]))) (qB) (.inr (0, [.int (zi (0)), .null, .int (zi (0))]))) (qB) = some (.inr (0, [.int (zi (0)), .null, .int (zi (0))])) := zu_eq
  have he_21 : (zu (zu w3 (b) (.inr (6, [.ref (qW), .ref (qL), .null, .null, .int (zi (0)), .int (zi (0))]))) (qB) (.inr (0, [.int (zi (0)), .null, .int (zi (0))]))) (b) = some (.inr (6, [.ref (qW), .ref (qL), .null, .null, .int (zi (0)), .int (zi (0))])) := (zu_ne n_b_qB).trans he_14
  have he_22 : (zu (zu w3 (b) (.inr (6, [.ref (qW), .ref (qL), .null, .null, .int (zi (0)), .int (zi (0))]))) (qB) (.inr (0, [.int (zi (0)), .null, .int (zi (0))]))) (qW) = some (.inr (5, [.ref (qX)])) := (zu_ne n_qW_qB).trans he_15
  have he_23 : (zu (zu w3 (b) (.inr (6, [.ref (qW), .ref (qL), .null, .null, .int (zi (0)), .int (zi (0))]))) (qB) (.inr (0, [.int (zi (0)), .null, .int (zi (0))]))) (qX) = some (.inl (tc 2, 3024, .inr (.inl (fun _ => 0)))) := (zu_ne n_qX_qB).trans he_16
  have he_24 : (zu (zu w3 (b) (.inr (6, [.ref (qW), .ref (qL), .null, .null, .int (zi (0)), .int (zi (0))]))) (qB) (.inr (0, [.int (zi (0)), .null, .int (zi (0))]))) (qL) = some (.inr (4, [.ref (qP), .ref (qD)])) := (zu_ne n_qL_qB).trans he_17
  have he_25 : (zu (zu w3 (b) (.inr (6, [.ref (qW), .ref (qL), .null, .null, .int (zi (0)), .int (zi (0))]))) (qB) (.inr (0, [.int (zi (0)), .null, .int (zi (0))]))) (qP) = some (.inl (tc 0, 3, .inl (fun _ => zi 0))) := (zu_ne n_qP_qB).trans he_18
  have he_26 : (zu (zu w3 (b) (.inr (6, [.ref (qW), .ref (qL), .null, .null, .int (zi (0)), .int (zi (0))]))) (qB) (.inr (0, [.int (zi (0)), .null, .int (zi (0))]))) (qD) = some (.inr (0, [.int (zi (0)), .ref (dz), .int (zi (0))])) := (zu_ne n_qD_qB).trans he_19
  refine lv_dup hx hb dX5_init_30 rfl ?_
  refine z_invI (n := 0) (c_Jx4a65c_init_da8c8 l hZ he_20) X hS hR hl.1 rfl (q_51 hT hW) (q_6 hT hW) (q_82 hT hW) (q_50 hT hW) (by decide +kernel) rfl ⟨Nat.le_of_ble_eq_true rfl, Nat.le_of_ble_eq_true rfl⟩ ⟨Nat.le_of_ble_eq_true rfl, Nat.le_of_ble_eq_true rfl⟩ (Nat.le_of_ble_eq_true rfl) dX5_init_31 (fun v H locs hv hS => ?_) rfl
  obtain ⟨rfl, hR⟩ := hv
  rw [zu_zu] at hR
  have hR : zR D A (zu (zu w3 (b) (.inr (6, [.ref (qW), .ref (qL), .null, .null, .int (zi (0)), .int (zi (0))]))) (qB) (.inr (0, [.int (zi (0)), .ref (dz), .int (zi (0))]))) H := hR
  have he_27 : (zu (zu w3 (b) (.inr (6, [.ref (qW), .ref (qL), .null, .null, .int (zi (0)), .int (zi (0))]))) (qB) (.inr (0, [.int (zi (0)), .ref (dz), .int (zi (0))]))) (qB) = some (.inr (0, [.int (zi (0)), .ref (dz), .int (zi (0))])) := zu_eq
  have he_28 : (zu (zu w3 (b) (.inr (6, [.ref (qW), .ref (qL), .null, .null, .int (zi (0)), .int (zi (0))]))) (qB) (.inr (0, [.int (zi (0)), .ref (dz), .int (zi (0))]))) (b) = some (.inr (6, [.ref (qW), .ref (qL), .null, .null, .int (zi (0)), .int (zi (0))])) := (zu_ne n_b_qB).trans ((zu_ne n_b_qB).symm.trans he_21)
  have he_29 : (zu (zu w3 (b) (.inr (6, [.ref (qW), .ref (qL), .null, .null, .int (zi (0)), .int (zi (0))]))) (qB) (.inr (0, [.int (zi (0)), .ref (dz), .int (zi (0))]))) (qW) = some (.inr (5, [.ref (qX)])) := (zu_ne n_qW_qB).trans ((zu_ne n_qW_qB).symm.trans he_22)
  have he_30 : (zu (zu w3 (b) (.inr (6, [.ref (qW), .ref (qL), .null, .null, .int (zi (0)), .int (zi (0))]))) (qB) (.inr (0, [.int (zi (0)), .ref (dz), .int (zi (0))]))) (qX) = some (.inl (tc 2, 3024, .inr (.inl (fun _ => 0)))) := (zu_ne n_qX_qB).trans ((zu_ne n_qX_qB).symm.trans he_23)
  have he_31 : (zu (zu w3 (b) (.inr (6, [.ref (qW), .ref (qL), .null, .null, .int (zi (0)), .int (zi (0))]))) (qB) (.inr (0, [.int (zi (0)), .ref (dz), .int (zi (0))]))) (qL) = some (.inr (4, [.ref (qP), .ref (qD)])) := (zu_ne n_qL_qB).trans ((zu_ne n_qL_qB).symm.trans he_24)
  have he_32 : (zu (zu w3 (b) (.inr (6, [.ref (qW), .ref (qL), .null, .null, .int (zi (0)), .int (zi (0))]))) (qB) (.inr (0, [.int (zi (0)), .ref (dz), .int (zi (0))]))) (qP) = some (.inl (tc 0, 3, .inl (fun _ => zi 0))) := (zu_ne n_qP_qB).trans ((zu_ne n_qP_qB).symm.trans he_25)
  have he_33 : (zu (zu w3 (b) (.inr (6, [.ref (qW), .ref (qL), .null, .null, .int (zi (0)), .int (zi (0))]))) (qB) (.inr (0, [.int (zi (0)), .ref (dz), .int (zi (0))]))) (qD) = some (.inr (0, [.int (zi (0)), .ref (dz), .int (zi (0))])) := (zu_ne n_qD_qB).trans ((zu_ne n_qD_qB).symm.trans he_26)
  refine z_putF hx hb (q_wsX5 hT hW) tyX5 tyX5_ok nmX5 hown hK hR hS he_28 rfl 2 (by decide) (q_85 hT hW) (fun _ h => h) rfl hnm rfl (tyX5_ok 2 (by decide)) rfl rfl (Nat.le_of_ble_eq_true rfl) dX5_init_34 (fun H locs hR hS => ?_)
  have hR : zR D A (zu (zu (zu w3 (b) (.inr (6, [.ref (qW), .ref (qL), .null, .null, .int (zi (0)), .int (zi (0))]))) (qB) (.inr (0, [.int (zi (0)), .ref (dz), .int (zi (0))]))) (b) (.inr (6, [.ref (qW), .ref (qL), .ref (qB), .null, .int (zi (0)), .int (zi (0))]))) H := hR
  have he_34 : (zu (zu (zu w3 (b) (.inr (6, [.ref (qW), .ref (qL), .null, .null, .int (zi (0)), .int (zi (0))]))) (qB) (.inr (0, [.int (zi (0)), .ref (dz), .int (zi (0))]))) (b) (.inr (6, [.ref (qW), .ref (qL), .ref (qB), .null, .int (zi (0)), .int (zi (0))]))) (b) = some (.inr (6, [.ref (qW), .ref (qL), .ref (qB), .null, .int (zi (0)), .int (zi (0))])) := zu_eq
  have he_35 : (zu (zu (zu w3 (b) (.inr (6, [.ref (qW), .ref (qL), .null, .null, .int (zi (0)), .int (zi (0))]))) (qB) (.inr (0, [.int (zi (0)), .ref (dz), .int (zi (0))]))) (b) (.inr (6, [.ref (qW), .ref (qL), .ref (qB), .null, .int (zi (0)), .int (zi (0))]))) (qW) = some (.inr (5, [.ref (qX)])) := (zu_ne (Ne.symm n_b_qW)).trans he_29
  have he_36 : (zu (zu (zu w3 (b) (.inr (6, [.ref (qW), .ref (qL), .null, .null, .int (zi (0)), .int (zi (0))]))) (qB) (.inr (0, [.int (zi (0)), .ref (dz), .int (zi (0))]))) (b) (.inr (6, [.ref (qW), .ref (qL), .ref (qB), .null, .int (zi (0)), .int (zi (0))]))) (qX) = some (.inl (tc 2, 3024, .inr (.inl (fun _ => 0)))) := (zu_ne (Ne.symm n_b_qX)).trans he_30
  have he_37 : (zu (zu (zu w3 (b) (.inr (6, [.ref (qW), .ref (qL), .null, .null, .int (zi (0)), .int (zi (0))]))) (qB) (.inr (0, [.int (zi (0)), .ref (dz), .int (zi (0))]))) (b) (.inr (6, [.ref (qW), .ref (qL), .ref (qB), .null, .int (zi (0)), .int (zi (0))]))) (qL) = some (.inr (4, [.ref (qP), .ref (qD)])) := (zu_ne (Ne.symm n_b_qL)).trans he_31
  have he_38 : (zu (zu (zu w3 (b) (.inr (6, [.ref (qW), .ref (qL), .null, .null, .int (zi (0)), .int (zi (0))]))) (qB) (.inr (0, [.int (zi (0)), .ref (dz), .int (zi (0))]))) (b) (.inr (6, [.ref (qW), .ref (qL), .ref (qB), .null, .int (zi (0)), .int (zi (0))]))) (qP) = some (.inl (tc 0, 3, .inl (fun _ => zi 0))) := (zu_ne (Ne.symm n_b_qP)).trans he_32
  have he_39 : (zu (zu (zu w3 (b) (.inr (6, [.ref (qW), .ref (qL), .null, .null, .int (zi (0)), .int (zi (0))]))) (qB) (.inr (0, [.int (zi (0)), .ref (dz), .int (zi (0))]))) (b) (.inr (6, [.ref (qW), .ref (qL), .ref (qB), .null, .int (zi (0)), .int (zi (0))]))) (qD) = some (.inr (0, [.int (zi (0)), .ref (dz), .int (zi (0))])) := (zu_ne (Ne.symm n_b_qD)).trans he_33
  have he_40 : (zu (zu (zu w3 (b) (.inr (6, [.ref (qW), .ref (qL), .null, .null, .int (zi (0)), .int (zi (0))]))) (qB) (.inr (0, [.int (zi (0)), .ref (dz), .int (zi (0))]))) (b) (.inr (6, [.ref (qW), .ref (qL), .ref (qB), .null, .int (zi (0)), .int (zi (0))]))) (qB) = some (.inr (0, [.int (zi (0)), .ref (dz), .int (zi (0))])) := (zu_ne (Ne.symm n_b_qB)).trans he_27
  refine lv_aload_n hx hb dX5_init_37 rfl (lv_at hl 0 rfl) ?_
  refine z_new (fs := [.int (zi (0)), .null, .int (zi (0))]) hx hb (q_wsJx4a65c hT hW) tyJx4a65c tyJx4a65c_ok hown (q_81 hT hW) (q_48 hT hW) (q_6 hT hW) hK hR hS hA (ci := 0) rfl (fun j hj => match j, hj with | 0, _ => rfl | 1, _ => rfl | 2, _ => rfl | (k + 3), h => absurd h (by omega)) (Nat.le_of_ble_eq_true rfl) (Nat.le_of_ble_eq_true rfl) dX5_init_38 (fun qC H hfr hR hS => ?_)
  have n_b_qC : b ≠ qC := hfr _ _ he_34
  have n_qW_qC : qW ≠ qC := hfr _ _ he_35
  have n_qX_qC : qX ≠ qC := hfr _ _ he_36
  have n_qL_qC : qL ≠ qC := hfr _ _ he_37
  have n_qP_qC : qP ≠ qC := hfr _ _ he_38
  have n_qD_qC : qD ≠ qC := hfr _ _ he_39
  have n_qB_qC : qB ≠ qC := hfr _ _ he_40
  have hR : zR D A (zu (zu (zu (zu w3 (b) (.inr (6, [.ref (qW), .ref (qL), .null, .null, .int (zi (0)), .int (zi (0))]))) (qB) (.inr (0, [.int (zi (0)), .ref (dz), .int (zi (0))]))) (b) (.inr (6, [.ref (qW), .ref (qL), .ref (qB), .null, .int (zi (0)), .int (zi (0))]))) (qC) (.inr (0, [.int (zi (0)), .null, .int (zi (0))]))) H := hR
  have he_41 : (zu (zu (zu (zu w3 (b) (.inr (6, [.ref (qW), .ref (qL), .null, .null, .int (zi (0)), .int (zi (0))]))) (qB) (.inr (0, [.int (zi (0)), .ref (dz), .int (zi (0))]))) (b) (.inr (6, [.ref (qW), .ref (qL), .ref (qB), .null, .int (zi (0)), .int (zi (0))]))) (qC) (.inr (0, [.int (zi (0)), .null, .int (zi (0))]))) (qC) = some (.inr (0, [.int (zi (0)), .null, .int (zi (0))])) := zu_eq
  have he_42 : (zu (zu (zu (zu w3 (b) (.inr (6, [.ref (qW), .ref (qL), .null, .null, .int (zi (0)), .int (zi (0))]))) (qB) (.inr (0, [.int (zi (0)), .ref (dz), .int (zi (0))]))) (b) (.inr (6, [.ref (qW), .ref (qL), .ref (qB), .null, .int (zi (0)), .int (zi (0))]))) (qC) (.inr (0, [.int (zi (0)), .null, .int (zi (0))]))) (b) = some (.inr (6, [.ref (qW), .ref (qL), .ref (qB), .null, .int (zi (0)), .int (zi (0))])) := (zu_ne n_b_qC).trans he_34
  have he_43 : (zu (zu (zu (zu w3 (b) (.inr (6, [.ref (qW), .ref (qL), .null, .null, .int (zi (0)), .int (zi (0))]))) (qB) (.inr (0, [.int (zi (0)), .ref (dz), .int (zi (0))]))) (b) (.inr (6, [.ref (qW), .ref (qL), .ref (qB), .null, .int (zi (0)), .int (zi (0))]))) (qC) (.inr (0, [.int (zi (0)), .null, .int (zi (0))]))) (qW) = some (.inr (5, [.ref (qX)])) := (zu_ne n_qW_qC).trans he_35
  have he_44 : (zu (zu (zu (zu w3 (b) (.inr (6, [.ref (qW), .ref (qL), .null, .null, .int (zi (0)), .int (zi (0))]))) (qB) (.inr (0, [.int (zi (0)), .ref (dz), .int (zi (0))]))) (b) (.inr (6, [.ref (qW), .ref (qL), .ref (qB), .null, .int (zi (0)), .int (zi (0))]))) (qC) (.inr (0, [.int (zi (0)), .null, .int (zi (0))]))) (qX) = some (.inl (tc 2, 3024, .inr (.inl (fun _ => 0)))) := (zu_ne n_qX_qC).trans he_36
  have he_45 : (zu (zu (zu (zu w3 (b) (.inr (6, [.ref (qW), .ref (qL), .null, .null, .int (zi (0)), .int (zi (0))]))) (qB) (.inr (0, [.int (zi (0)), .ref (dz), .int (zi (0))]))) (b) (.inr (6, [.ref (qW), .ref (qL), .ref (qB), .null, .int (zi (0)), .int (zi (0))]))) (qC) (.inr (0, [.int (zi (0)), .null, .int (zi (0))]))) (qL) = some (.inr (4, [.ref (qP), .ref (qD)])) := (zu_ne n_qL_qC).trans he_37
  have he_46 : (zu (zu (zu (zu w3 (b) (.inr (6, [.ref (qW), .ref (qL), .null, .null, .int (zi (0)), .int (zi (0))]))) (qB) (.inr (0, [.int (zi (0)), .ref (dz), .int (zi (0))]))) (b) (.inr (6, [.ref (qW), .ref (qL), .ref (qB), .null, .int (zi (0)), .int (zi (0))]))) (qC) (.inr (0, [.int (zi (0)), .null, .int (zi (0))]))) (qP) = some (.inl (tc 0, 3, .inl (fun _ => zi 0))) := (zu_ne n_qP_qC).trans he_38
  have he_47 : (zu (zu (zu (zu w3 (b) (.inr (6, [.ref (qW), .ref (qL), .null, .null, .int (zi (0)), .int (zi (0))]))) (qB) (.inr (0, [.int (zi (0)), .ref (dz), .int (zi (0))]))) (b) (.inr (6, [.ref (qW), .ref (qL), .ref (qB), .null, .int (zi (0)), .int (zi (0))]))) (qC) (.inr (0, [.int (zi (0)), .null, .int (zi (0))]))) (qD) = some (.inr (0, [.int (zi (0)), .ref (dz), .int (zi (0))])) := (zu_ne n_qD_qC).trans he_39
  have he_48 : (zu (zu (zu (zu w3 (b) (.inr (6, [.ref (qW), .ref (qL), .null, .null, .int (zi (0)), .int (zi (0))]))) (qB) (.inr (0, [.int (zi (0)), .ref (dz), .int (zi (0))]))) (b) (.inr (6, [.ref (qW), .ref (qL), .ref (qB), .null, .int (zi (0)), .int (zi (0))]))) (qC) (.inr (0, [.int (zi (0)), .null, .int (zi (0))]))) (qB) = some (.inr (0, [.int (zi (0)), .ref (dz), .int (zi (0))])) := (zu_ne n_qB_qC).trans he_40
  refine lv_dup hx hb dX5_init_41 rfl ?_
  refine z_invI (n := 0) (c_Jx4a65c_init_da8c8 l hZ he_41) X hS hR hl.1 rfl (q_51 hT hW) (q_6 hT hW) (q_82 hT hW) (q_50 hT hW) (by decide +kernel) rfl ⟨Nat.le_of_ble_eq_true rfl, Nat.le_of_ble_eq_true rfl⟩ ⟨Nat.le_of_ble_eq_true rfl, Nat.le_of_ble_eq_true rfl⟩ (Nat.le_of_ble_eq_true rfl) dX5_init_42 (fun v H locs hv hS => ?_) rfl
  obtain ⟨rfl, hR⟩ := hv
  rw [zu_zu] at hR
  have hR : zR D A (zu (zu (zu (zu w3 (b) (.inr (6, [.ref (qW), .ref (qL), .null, .null, .int (zi (0)), .int (zi (0))]))) (qB) (.inr (0, [.int (zi (0)), .ref (dz), .int (zi (0))]))) (b) (.inr (6, [.ref (qW), .ref (qL), .ref (qB), .null, .int (zi (0)), .int (zi (0))]))) (qC) (.inr (0, [.int (zi (0)), .ref (dz), .int (zi (0))]))) H := hR
  have he_49 : (zu (zu (zu (zu w3 (b) (.inr (6, [.ref (qW), .ref (qL), .null, .null, .int (zi (0)), .int (zi (0))]))) (qB) (.inr (0, [.int (zi (0)), .ref (dz), .int (zi (0))]))) (b) (.inr (6, [.ref (qW), .ref (qL), .ref (qB), .null, .int (zi (0)), .int (zi (0))]))) (qC) (.inr (0, [.int (zi (0)), .ref (dz), .int (zi (0))]))) (qC) = some (.inr (0, [.int (zi (0)), .ref (dz), .int (zi (0))])) := zu_eq
  have he_50 : (zu (zu (zu (zu w3 (b) (.inr (6, [.ref (qW), .ref (qL), .null, .null, .int (zi (0)), .int (zi (0))]))) (qB) (.inr (0, [.int (zi (0)), .ref (dz), .int (zi (0))]))) (b) (.inr (6, [.ref (qW), .ref (qL), .ref (qB), .null, .int (zi (0)), .int (zi (0))]))) (qC) (.inr (0, [.int (zi (0)), .ref (dz), .int (zi (0))]))) (b) = some (.inr (6, [.ref (qW), .ref (qL), .ref (qB), .null, .int (zi (0)), .int (zi (0))])) := (zu_ne n_b_qC).trans ((zu_ne n_b_qC).symm.trans he_42)
  have he_51 : (zu (zu (zu (zu w3 (b) (.inr (6, [.ref (qW), .ref (qL), .null, .null, .int (zi (0)), .int (zi (0))]))) (qB) (.inr (0, [.int (zi (0)), .ref (dz), .int (zi (0))]))) (b) (.inr (6, [.ref (qW), .ref (qL), .ref (qB), .null, .int (zi (0)), .int (zi (0))]))) (qC) (.inr (0, [.int (zi (0)), .ref (dz), .int (zi (0))]))) (qW) = some (.inr (5, [.ref (qX)])) := (zu_ne n_qW_qC).trans ((zu_ne n_qW_qC).symm.trans he_43)
  have he_52 : (zu (zu (zu (zu w3 (b) (.inr (6, [.ref (qW), .ref (qL), .null, .null, .int (zi (0)), .int (zi (0))]))) (qB) (.inr (0, [.int (zi (0)), .ref (dz), .int (zi (0))]))) (b) (.inr (6, [.ref (qW), .ref (qL), .ref (qB), .null, .int (zi (0)), .int (zi (0))]))) (qC) (.inr (0, [.int (zi (0)), .ref (dz), .int (zi (0))]))) (qX) = some (.inl (tc 2, 3024, .inr (.inl (fun _ => 0)))) := (zu_ne n_qX_qC).trans ((zu_ne n_qX_qC).symm.trans he_44)
  have he_53 : (zu (zu (zu (zu w3 (b) (.inr (6, [.ref (qW), .ref (qL), .null, .null, .int (zi (0)), .int (zi (0))]))) (qB) (.inr (0, [.int (zi (0)), .ref (dz), .int (zi (0))]))) (b) (.inr (6, [.ref (qW), .ref (qL), .ref (qB), .null, .int (zi (0)), .int (zi (0))]))) (qC) (.inr (0, [.int (zi (0)), .ref (dz), .int (zi (0))]))) (qL) = some (.inr (4, [.ref (qP), .ref (qD)])) := (zu_ne n_qL_qC).trans ((zu_ne n_qL_qC).symm.trans he_45)
  have he_54 : (zu (zu (zu (zu w3 (b) (.inr (6, [.ref (qW), .ref (qL), .null, .null, .int (zi (0)), .int (zi (0))]))) (qB) (.inr (0, [.int (zi (0)), .ref (dz), .int (zi (0))]))) (b) (.inr (6, [.ref (qW), .ref (qL), .ref (qB), .null, .int (zi (0)), .int (zi (0))]))) (qC) (.inr (0, [.int (zi (0)), .ref (dz), .int (zi (0))]))) (qP) = some (.inl (tc 0, 3, .inl (fun _ => zi 0))) := (zu_ne n_qP_qC).trans ((zu_ne n_qP_qC).symm.trans he_46)
  have he_55 : (zu (zu (zu (zu w3 (b) (.inr (6, [.ref (qW), .ref (qL), .null, .null, .int (zi (0)), .int (zi (0))]))) (qB) (.inr (0, [.int (zi (0)), .ref (dz), .int (zi (0))]))) (b) (.inr (6, [.ref (qW), .ref (qL), .ref (qB), .null, .int (zi (0)), .int (zi (0))]))) (qC) (.inr (0, [.int (zi (0)), .ref (dz), .int (zi (0))]))) (qD) = some (.inr (0, [.int (zi (0)), .ref (dz), .int (zi (0))])) := (zu_ne n_qD_qC).trans ((zu_ne n_qD_qC).symm.trans he_47)
  have he_56 : (zu (zu (zu (zu w3 (b) (.inr (6, [.ref (qW), .ref (qL), .null, .null, .int (zi (0)), .int (zi (0))]))) (qB) (.inr (0, [.int (zi (0)), .ref (dz), .int (zi (0))]))) (b) (.inr (6, [.ref (qW), .ref (qL), .ref (qB), .null, .int (zi (0)), .int (zi (0))]))) (qC) (.inr (0, [.int (zi (0)), .ref (dz), .int (zi (0))]))) (qB) = some (.inr (0, [.int (zi (0)), .ref (dz), .int (zi (0))])) := (zu_ne n_qB_qC).trans ((zu_ne n_qB_qC).symm.trans he_48)
  refine z_putF hx hb (q_wsX5 hT hW) tyX5 tyX5_ok nmX5 hown hK hR hS he_50 rfl 3 (by decide) (q_86 hT hW) (fun _ h => h) rfl hnm rfl (tyX5_ok 3 (by decide)) rfl rfl (Nat.le_of_ble_eq_true rfl) dX5_init_45 (fun H locs hR hS => ?_)
  have hR : zR D A (zu (zu (zu (zu (zu w3 (b) (.inr (6, [.ref (qW), .ref (qL), .null, .null, .int (zi (0)), .int (zi (0))]))) (qB) (.inr (0, [.int (zi (0)), .ref (dz), .int (zi (0))]))) (b) (.inr (6, [.ref (qW), .ref (qL), .ref (qB), .null, .int (zi (0)), .int (zi (0))]))) (qC) (.inr (0, [.int (zi (0)), .ref (dz), .int (zi (0))]))) (b) (.inr (6, [.ref (qW), .ref (qL), .ref (qB), .ref (qC), .int (zi (0)), .int (zi (0))]))) H := hR
  have he_57 : (zu (zu (zu (zu (zu w3 (b) (.inr (6, [.ref (qW), .ref (qL), .null, .null, .int (zi (0)), .int (zi (0))]))) (qB) (.inr (0, [.int (zi (0)), .ref (dz), .int (zi (0))]))) (b) (.inr (6, [.ref (qW), .ref (qL), .ref (qB), .null, .int (zi (0)), .int (zi (0))]))) (qC) (.inr (0, [.int (zi (0)), .ref (dz), .int (zi (0))]))) (b) (.inr (6, [.ref (qW), .ref (qL), .ref (qB), .ref (qC), .int (zi (0)), .int (zi (0))]))) (b) = some (.inr (6, [.ref (qW), .ref (qL), .ref (qB), .ref (qC), .int (zi (0)), .int (zi (0))])) := zu_eq
  have he_58 : (zu (zu (zu (zu (zu w3 (b) (.inr (6, [.ref (qW), .ref (qL), .null, .null, .int (zi (0)), .int (zi (0))]))) (qB) (.inr (0, [.int (zi (0)), .ref (dz), .int (zi (0))]))) (b) (.inr (6, [.ref (qW), .ref (qL), .ref (qB), .null, .int (zi (0)), .int (zi (0))]))) (qC) (.inr (0, [.int (zi (0)), .ref (dz), .int (zi (0))]))) (b) (.inr (6, [.ref (qW), .ref (qL), .ref (qB), .ref (qC), .int (zi (0)), .int (zi (0))]))) (qW) = some (.inr (5, [.ref (qX)])) := (zu_ne (Ne.symm n_b_qW)).trans he_51
  have he_59 : (zu (zu (zu (zu (zu w3 (b) (.inr (6, [.ref (qW), .ref (qL), .null, .null, .int (zi (0)), .int (zi (0))]))) (qB) (.inr (0, [.int (zi (0)), .ref (dz), .int (zi (0))]))) (b) (.inr (6, [.ref (qW), .ref (qL), .ref (qB), .null, .int (zi (0)), .int (zi (0))]))) (qC) (.inr (0, [.int (zi (0)), .ref (dz), .int (zi (0))]))) (b) (.inr (6, [.ref (qW), .ref (qL), .ref (qB), .ref (qC), .int (zi (0)), .int (zi (0))]))) (qX) = some (.inl (tc 2, 3024, .inr (.inl (fun _ => 0)))) := (zu_ne (Ne.symm n_b_qX)).trans he_52
  have he_60 : (zu (zu (zu (zu (zu w3 (b) (.inr (6, [.ref (qW), .ref (qL), .null, .null, .int (zi (0)), .int (zi (0))]))) (qB) (.inr (0, [.int (zi (0)), .ref (dz), .int (zi (0))]))) (b) (.inr (6, [.ref (qW), .ref (qL), .ref (qB), .null, .int (zi (0)), .int (zi (0))]))) (qC) (.inr (0, [.int (zi (0)), .ref (dz), .int (zi (0))]))) (b) (.inr (6, [.ref (qW), .ref (qL), .ref (qB), .ref (qC), .int (zi (0)), .int (zi (0))]))) (qL) = some (.inr (4, [.ref (qP), .ref (qD)])) := (zu_ne (Ne.symm n_b_qL)).trans he_53
  have he_61 : (zu (zu (zu (zu (zu w3 (b) (.inr (6, [.ref (qW), .ref (qL), .null, .null, .int (zi (0)), .int (zi (0))]))) (qB) (.inr (0, [.int (zi (0)), .ref (dz), .int (zi (0))]))) (b) (.inr (6, [.ref (qW), .ref (qL), .ref (qB), .null, .int (zi (0)), .int (zi (0))]))) (qC) (.inr (0, [.int (zi (0)), .ref (dz), .int (zi (0))]))) (b) (.inr (6, [.ref (qW), .ref (qL), .ref (qB), .ref (qC), .int (zi (0)), .int (zi (0))]))) (qP) = some (.inl (tc 0, 3, .inl (fun _ => zi 0))) := (zu_ne (Ne.symm n_b_qP)).trans he_54
  have he_62 : (zu (zu (zu (zu (zu w3 (b) (.inr (6, [.ref (qW), .ref (qL), .null, .null, .int (zi (0)), .int (zi (0))]))) (qB) (.inr (0, [.int (zi (0)), .ref (dz), .int (zi (0))]))) (b) (.inr (6, [.ref (qW), .ref (qL), .ref (qB), .null, .int (zi (0)), .int (zi (0))]))) (qC) (.inr (0, [.int (zi (0)), .ref (dz), .int (zi (0))]))) (b) (.inr (6, [.ref (qW), .ref (qL), .ref (qB), .ref (qC), .int (zi (0)), .int (zi (0))]))) (qD) = some (.inr (0, [.int (zi (0)), .ref (dz), .int (zi (0))])) := (zu_ne (Ne.symm n_b_qD)).trans he_55
  have he_63 : (zu (zu (zu (zu (zu w3 (b) (.inr (6, [.ref (qW), .ref (qL), .null, .null, .int (zi (0)), .int (zi (0))]))) (qB) (.inr (0, [.int (zi (0)), .ref (dz), .int (zi (0))]))) (b) (.inr (6, [.ref (qW), .ref (qL), .ref (qB), .null, .int (zi (0)), .int (zi (0))]))) (qC) (.inr (0, [.int (zi (0)), .ref (dz), .int (zi (0))]))) (b) (.inr (6, [.ref (qW), .ref (qL), .ref (qB), .ref (qC), .int (zi (0)), .int (zi (0))]))) (qB) = some (.inr (0, [.int (zi (0)), .ref (dz), .int (zi (0))])) := (zu_ne (Ne.symm n_b_qB)).trans he_56
  have he_64 : (zu (zu (zu (zu (zu w3 (b) (.inr (6, [.ref (qW), .ref (qL), .null, .null, .int (zi (0)), .int (zi (0))]))) (qB) (.inr (0, [.int (zi (0)), .ref (dz), .int (zi (0))]))) (b) (.inr (6, [.ref (qW), .ref (qL), .ref (qB), .null, .int (zi (0)), .int (zi (0))]))) (qC) (.inr (0, [.int (zi (0)), .ref (dz), .int (zi (0))]))) (b) (.inr (6, [.ref (qW), .ref (qL), .ref (qB), .ref (qC), .int (zi (0)), .int (zi (0))]))) (qC) = some (.inr (0, [.int (zi (0)), .ref (dz), .int (zi (0))])) := (zu_ne (Ne.symm n_b_qC)).trans he_49
  refine lv_aload_n hx hb dX5_init_48 rfl (lv_at hl 0 rfl) ?_
  refine lv_iconst (v := zi (0)) hx hb dX5_init_49 rfl ?_
  refine z_put hx hb (q_wsX5 hT hW) tyX5 tyX5_ok nmX5 hown hK hR hS he_57 rfl 4 (by decide) (q_87 hT hW) (fun _ h => h) rfl (tyX5_ok 4 (by decide)) rfl rfl (Nat.le_of_ble_eq_true rfl) dX5_init_50 (fun H locs hR hS => ?_)
  rw [zu_zu] at hR
  have hR : zR D A (zu (zu (zu (zu (zu w3 (b) (.inr (6, [.ref (qW), .ref (qL), .null, .null, .int (zi (0)), .int (zi (0))]))) (qB) (.inr (0, [.int (zi (0)), .ref (dz), .int (zi (0))]))) (b) (.inr (6, [.ref (qW), .ref (qL), .ref (qB), .null, .int (zi (0)), .int (zi (0))]))) (qC) (.inr (0, [.int (zi (0)), .ref (dz), .int (zi (0))]))) (b) (.inr (6, [.ref (qW), .ref (qL), .ref (qB), .ref (qC), .int (zi (0)), .int (zi (0))]))) H := hR
  have he_65 : (zu (zu (zu (zu (zu w3 (b) (.inr (6, [.ref (qW), .ref (qL), .null, .null, .int (zi (0)), .int (zi (0))]))) (qB) (.inr (0, [.int (zi (0)), .ref (dz), .int (zi (0))]))) (b) (.inr (6, [.ref (qW), .ref (qL), .ref (qB), .null, .int (zi (0)), .int (zi (0))]))) (qC) (.inr (0, [.int (zi (0)), .ref (dz), .int (zi (0))]))) (b) (.inr (6, [.ref (qW), .ref (qL), .ref (qB), .ref (qC), .int (zi (0)), .int (zi (0))]))) (b) = some (.inr (6, [.ref (qW), .ref (qL), .ref (qB), .ref (qC), .int (zi (0)), .int (zi (0))])) := zu_eq
  have he_66 : (zu (zu (zu (zu (zu w3 (b) (.inr (6, [.ref (qW), .ref (qL), .null, .null, .int (zi (0)), .int (zi (0))]))) (qB) (.inr (0, [.int (zi (0)), .ref (dz), .int (zi (0))]))) (b) (.inr (6, [.ref (qW), .ref (qL), .ref (qB), .null, .int (zi (0)), .int (zi (0))]))) (qC) (.inr (0, [.int (zi (0)), .ref (dz), .int (zi (0))]))) (b) (.inr (6, [.ref (qW), .ref (qL), .ref (qB), .ref (qC), .int (zi (0)), .int (zi (0))]))) (qW) = some (.inr (5, [.ref (qX)])) := (zu_ne (Ne.symm n_b_qW)).trans ((zu_ne (Ne.symm n_b_qW)).symm.trans he_58)
  have he_67 : (zu (zu (zu (zu (zu w3 (b) (.inr (6, [.ref (qW), .ref (qL), .null, .null, .int (zi (0)), .int (zi (0))]))) (qB) (.inr (0, [.int (zi (0)), .ref (dz), .int (zi (0))]))) (b) (.inr (6, [.ref (qW), .ref (qL), .ref (qB), .null, .int (zi (0)), .int (zi (0))]))) (qC) (.inr (0, [.int (zi (0)), .ref (dz), .int (zi (0))]))) (b) (.inr (6, [.ref (qW), .ref (qL), .ref (qB), .ref (qC), .int (zi (0)), .int (zi (0))]))) (qX) = some (.inl (tc 2, 3024, .inr (.inl (fun _ => 0)))) := (zu_ne (Ne.symm n_b_qX)).trans ((zu_ne (Ne.symm n_b_qX)).symm.trans he_59)
  have he_68 : (zu (zu (zu (zu (zu w3 (b) (.inr (6, [.ref (qW), .ref (qL), .null, .null, .int (zi (0)), .int (zi (0))]))) (qB) (.inr (0, [.int (zi (0)), .ref (dz), .int (zi (0))]))) (b) (.inr (6, [.ref (qW), .ref (qL), .ref (qB), .null, .int (zi (0)), .int (zi (0))]))) (qC) (.inr (0, [.int (zi (0)), .ref (dz), .int (zi (0))]))) (b) (.inr (6, [.ref (qW), .ref (qL), .ref (qB), .ref (qC), .int (zi (0)), .int (zi (0))]))) (qL) = some (.inr (4, [.ref (qP), .ref (qD)])) := (zu_ne (Ne.symm n_b_qL)).trans ((zu_ne (Ne.symm n_b_qL)).symm.trans he_60)
  have he_69 : (zu (zu (zu (zu (zu w3 (b) (.inr (6, [.ref (qW), .ref (qL), .null, .null, .int (zi (0)), .int (zi (0))]))) (qB) (.inr (0, [.int (zi (0)), .ref (dz), .int (zi (0))]))) (b) (.inr (6, [.ref (qW), .ref (qL), .ref (qB), .null, .int (zi (0)), .int (zi (0))]))) (qC) (.inr (0, [.int (zi (0)), .ref (dz), .int (zi (0))]))) (b) (.inr (6, [.ref (qW), .ref (qL), .ref (qB), .ref (qC), .int (zi (0)), .int (zi (0))]))) (qP) = some (.inl (tc 0, 3, .inl (fun _ => zi 0))) := (zu_ne (Ne.symm n_b_qP)).trans ((zu_ne (Ne.symm n_b_qP)).symm.trans he_61)
  have he_70 : (zu (zu (zu (zu (zu w3 (b) (.inr (6, [.ref (qW), .ref (qL), .null, .null, .int (zi (0)), .int (zi (0))]))) (qB) (.inr (0, [.int (zi (0)), .ref (dz), .int (zi (0))]))) (b) (.inr (6, [.ref (qW), .ref (qL), .ref (qB), .null, .int (zi (0)), .int (zi (0))]))) (qC) (.inr (0, [.int (zi (0)), .ref (dz), .int (zi (0))]))) (b) (.inr (6, [.ref (qW), .ref (qL), .ref (qB), .ref (qC), .int (zi (0)), .int (zi (0))]))) (qD) = some (.inr (0, [.int (zi (0)), .ref (dz), .int (zi (0))])) := (zu_ne (Ne.symm n_b_qD)).trans ((zu_ne (Ne.symm n_b_qD)).symm.trans he_62)
  have he_71 : (zu (zu (zu (zu (zu w3 (b) (.inr (6, [.ref (qW), .ref (qL), .null, .null, .int (zi (0)), .int (zi (0))]))) (qB) (.inr (0, [.int (zi (0)), .ref (dz), .int (zi (0))]))) (b) (.inr (6, [.ref (qW), .ref (qL), .ref (qB), .null, .int (zi (0)), .int (zi (0))]))) (qC) (.inr (0, [.int (zi (0)), .ref (dz), .int (zi (0))]))) (b) (.inr (6, [.ref (qW), .ref (qL), .ref (qB), .ref (qC), .int (zi (0)), .int (zi (0))]))) (qB) = some (.inr (0, [.int (zi (0)), .ref (dz), .int (zi (0))])) := (zu_ne (Ne.symm n_b_qB)).trans ((zu_ne (Ne.symm n_b_qB)).symm.trans he_63)
  have he_72 : (zu (zu (zu (zu (zu w3 (b) (.inr (6, [.ref (qW), .ref (qL), .null, .null, .int (zi (0)), .int (zi (0))]))) (qB) (.inr (0, [.int (zi (0)), .ref (dz), .int (zi (0))]))) (b) (.inr (6, [.ref (qW), .ref (qL), .ref (qB), .null, .int (zi (0)), .int (zi (0))]))) (qC) (.inr (0, [.int (zi (0)), .ref (dz), .int (zi (0))]))) (b) (.inr (6, [.ref (qW), .ref (qL), .ref (qB), .ref (qC), .int (zi (0)), .int (zi (0))]))) (qC) = some (.inr (0, [.int (zi (0)), .ref (dz), .int (zi (0))])) := (zu_ne (Ne.symm n_b_qC)).trans ((zu_ne (Ne.symm n_b_qC)).symm.trans he_64)
  refine lv_aload_n hx hb dX5_init_53 rfl (lv_at hl 0 rfl) ?_
  refine lv_sipush (v := zi (200)) hx hb dX5_init_54 rfl ?_
  refine z_put hx hb (q_wsX5 hT hW) tyX5 tyX5_ok nmX5 hown hK hR hS he_65 rfl 5 (by decide) (q_88 hT hW) (fun _ h => h) rfl (tyX5_ok 5 (by decide)) rfl rfl (Nat.le_of_ble_eq_true rfl) dX5_init_57 (fun H locs hR hS => ?_)
  rw [zu_zu] at hR
  have hR : zR D A (zu (zu (zu (zu (zu w3 (b) (.inr (6, [.ref (qW), .ref (qL), .null, .null, .int (zi (0)), .int (zi (0))]))) (qB) (.inr (0, [.int (zi (0)), .ref (dz), .int (zi (0))]))) (b) (.inr (6, [.ref (qW), .ref (qL), .ref (qB), .null, .int (zi (0)), .int (zi (0))]))) (qC) (.inr (0, [.int (zi (0)), .ref (dz), .int (zi (0))]))) (b) (.inr (6, [.ref (qW), .ref (qL), .ref (qB), .ref (qC), .int (zi (0)), .int (zi (200))]))) H := hR
  have he_73 : (zu (zu (zu (zu (zu w3 (b) (.inr (6, [.ref (qW), .ref (qL), .null, .null, .int (zi (0)), .int (zi (0))]))) (qB) (.inr (0, [.int (zi (0)), .ref (dz), .int (zi (0))]))) (b) (.inr (6, [.ref (qW), .ref (qL), .ref (qB), .null, .int (zi (0)), .int (zi (0))]))) (qC) (.inr (0, [.int (zi (0)), .ref (dz), .int (zi (0))]))) (b) (.inr (6, [.ref (qW), .ref (qL), .ref (qB), .ref (qC), .int (zi (0)), .int (zi (200))]))) (b) = some (.inr (6, [.ref (qW), .ref (qL), .ref (qB), .ref (qC), .int (zi (0)), .int (zi (200))])) := zu_eq
  have he_74 : (zu (zu (zu (zu (zu w3 (b) (.inr (6, [.ref (qW), .ref (qL), .null, .null, .int (zi (0)), .int (zi (0))]))) (qB) (.inr (0, [.int (zi (0)), .ref (dz), .int (zi (0))]))) (b) (.inr (6, [.ref (qW), .ref (qL), .ref (qB), .null, .int (zi (0)), .int (zi (0))]))) (qC) (.inr (0, [.int (zi (0)), .ref (dz), .int (zi (0))]))) (b) (.inr (6, [.ref (qW), .ref (qL), .ref (qB), .ref (qC), .int (zi (0)), .int (zi (200))]))) (qW) = some (.inr (5, [.ref (qX)])) := (zu_ne (Ne.symm n_b_qW)).trans ((zu_ne (Ne.symm n_b_qW)).symm.trans he_66)
  have he_75 : (zu (zu (zu (zu (zu w3 (b) (.inr (6, [.ref (qW), .ref (qL), .null, .null, .int (zi (0)), .int (zi (0))]))) (qB) (.inr (0, [.int (zi (0)), .ref (dz), .int (zi (0))]))) (b) (.inr (6, [.ref (qW), .ref (qL), .ref (qB), .null, .int (zi (0)), .int (zi (0))]))) (qC) (.inr (0, [.int (zi (0)), .ref (dz), .int (zi (0))]))) (b) (.inr (6, [.ref (qW), .ref (qL), .ref (qB), .ref (qC), .int (zi (0)), .int (zi (200))]))) (qX) = some (.inl (tc 2, 3024, .inr (.inl (fun _ => 0)))) := (zu_ne (Ne.symm n_b_qX)).trans ((zu_ne (Ne.symm n_b_qX)).symm.trans he_67)
  have he_76 : (zu (zu (zu (zu (zu w3 (b) (.inr (6, [.ref (qW), .ref (qL), .null, .null, .int (zi (0)), .int (zi (0))]))) (qB) (.inr (0, [.int (zi (0)), .ref (dz), .int (zi (0))]))) (b) (.inr (6, [.ref (qW), .ref (qL), .ref (qB), .null, .int (zi (0)), .int (zi (0))]))) (qC) (.inr (0, [.int (zi (0)), .ref (dz), .int (zi (0))]))) (b) (.inr (6, [.ref (qW), .ref (qL), .ref (qB), .ref (qC), .int (zi (0)), .int (zi (200))]))) (qL) = some (.inr (4, [.ref (qP), .ref (qD)])) := (zu_ne (Ne.symm n_b_qL)).trans ((zu_ne (Ne.symm n_b_qL)).symm.trans he_68)
  have he_77 : (zu (zu (zu (zu (zu w3 (b) (.inr (6, [.ref (qW), .ref (qL), .null, .null, .int (zi (0)), .int (zi (0))]))) (qB) (.inr (0, [.int (zi (0)), .ref (dz), .int (zi (0))]))) (b) (.inr (6, [.ref (qW), .ref (qL), .ref (qB), .null, .int (zi (0)), .int (zi (0))]))) (qC) (.inr (0, [.int (zi (0)), .ref (dz), .int (zi (0))]))) (b) (.inr (6, [.ref (qW), .ref (qL), .ref (qB), .ref (qC), .int (zi (0)), .int (zi (200))]))) (qP) = some (.inl (tc 0, 3, .inl (fun _ => zi 0))) := (zu_ne (Ne.symm n_b_qP)).trans ((zu_ne (Ne.symm n_b_qP)).symm.trans he_69)
  have he_78 : (zu (zu (zu (zu (zu w3 (b) (.inr (6, [.ref (qW), .ref (qL), .null, .null, .int (zi (0)), .int (zi (0))]))) (qB) (.inr (0, [.int (zi (0)), .ref (dz), .int (zi (0))]))) (b) (.inr (6, [.ref (qW), .ref (qL), .ref (qB), .null, .int (zi (0)), .int (zi (0))]))) (qC) (.inr (0, [.int (zi (0)), .ref (dz), .int (zi (0))]))) (b) (.inr (6, [.ref (qW), .ref (qL), .ref (qB), .ref (qC), .int (zi (0)), .int (zi (200))]))) (qD) = some (.inr (0, [.int (zi (0)), .ref (dz), .int (zi (0))])) := (zu_ne (Ne.symm n_b_qD)).trans ((zu_ne (Ne.symm n_b_qD)).symm.trans he_70)
  have he_79 : (zu (zu (zu (zu (zu w3 (b) (.inr (6, [.ref (qW), .ref (qL), .null, .null, .int (zi (0)), .int (zi (0))]))) (qB) (.inr (0, [.int (zi (0)), .ref (dz), .int (zi (0))]))) (b) (.inr (6, [.ref (qW), .ref (qL), .ref (qB), .null, .int (zi (0)), .int (zi (0))]))) (qC) (.inr (0, [.int (zi (0)), .ref (dz), .int (zi (0))]))) (b) (.inr (6, [.ref (qW), .ref (qL), .ref (qB), .ref (qC), .int (zi (0)), .int (zi (200))]))) (qB) = some (.inr (0, [.int (zi (0)), .ref (dz), .int (zi (0))])) := (zu_ne (Ne.symm n_b_qB)).trans ((zu_ne (Ne.symm n_b_qB)).symm.trans he_71)
  have he_80 : (zu (zu (zu (zu (zu w3 (b) (.inr (6, [.ref (qW), .ref (qL), .null, .null, .int (zi (0)), .int (zi (0))]))) (qB) (.inr (0, [.int (zi (0)), .ref (dz), .int (zi (0))]))) (b) (.inr (6, [.ref (qW), .ref (qL), .ref (qB), .null, .int (zi (0)), .int (zi (0))]))) (qC) (.inr (0, [.int (zi (0)), .ref (dz), .int (zi (0))]))) (b) (.inr (6, [.ref (qW), .ref (qL), .ref (qB), .ref (qC), .int (zi (0)), .int (zi (200))]))) (qC) = some (.inr (0, [.int (zi (0)), .ref (dz), .int (zi (0))])) := (zu_ne (Ne.symm n_b_qC)).trans ((zu_ne (Ne.symm n_b_qC)).symm.trans he_72)
  let ad : Nat → Nat := fun k => match k with | 0 => b | 1 => qW | 2 => qX | 3 => qL | 4 => qP | 5 => qB | 6 => qC | _ => qD
  have hCC : zCx tc dz ad (fun _ => 0) (fun _ => 0) (fun _ => 0) 0 (fun _ _ => 0) (fun _ => 0) mu0 (zu (zu (zu (zu (zu w3 (b) (.inr (6, [.ref (qW), .ref (qL), .null, .null, .int (zi (0)), .int (zi (0))]))) (qB) (.inr (0, [.int (zi (0)), .ref (dz), .int (zi (0))]))) (b) (.inr (6, [.ref (qW), .ref (qL), .ref (qB), .null, .int (zi (0)), .int (zi (0))]))) (qC) (.inr (0, [.int (zi (0)), .ref (dz), .int (zi (0))]))) (b) (.inr (6, [.ref (qW), .ref (qL), .ref (qB), .ref (qC), .int (zi (0)), .int (zi (200))]))) := ⟨he_73, he_74, he_75, fun n h _ _ => by rw [zni_0]; rfl, he_76, he_77, zLi_0 he_79, zLi_0 he_80, zLi_0 he_78, fun i hi => absurd hi (Nat.not_lt_zero i), fun i hi => absurd hi (Nat.not_lt_zero i), fun i hi => absurd hi (Nat.not_lt_zero i), fun c _ => rfl, n_qB_qC, (Ne.symm n_qD_qB), (Ne.symm n_qD_qC)⟩
  exact z_vret hx hb hr hlocks hS (by decide) (by decide) dX5_init_60 ⟨rfl, ad, rfl, _, _, _, 0, _, _, _, hCC, rfl, hR⟩

