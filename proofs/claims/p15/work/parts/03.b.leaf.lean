/-! Boat's hours, constructors, Deed -/
def zhr (sp wy : Int) : Int := if wy ≤ sp then 1 else if wy ≤ 2 * sp then 2 else if wy ≤ 3 * sp then 3 else if wy ≤ 4 * sp then 4 else if wy ≤ 5 * sp then 5 else -1
def zown (o u rw : Int) : Int := if o = u then rw else rw / 2
def zshare (o u rw c : Int) : Int := (if c = o then zown o u rw else 0) + (if c = u then rw - zown o u rw else 0)
set_option maxHeartbeats 4000000 in
set_option maxRecDepth 100000 in
theorem c_X0_hoursFor (l : Launch) {S : State} {D : va_G} {tc : Nat → ClassId} {A : Nat → Prop} {dz : Nat} (hZ : zB S D tc A dz) {w : zW} {b : Nat} {num club bears home speed tank user uot st next fuel left : Int} {co : Option Nat} (hb0 : w b = some (.inr (1, [.int (zi (num)), .int (zi (club)), .int (zi (bears)), .int (zi (home)), .int (zi (speed)), .int (zi (tank)), .int (zi (user)), .int (zi (uot)), .int (zi (st)), va_rf (co), .int (zi (next)), .int (zi (fuel)), .int (zi (left))]))) {n : Int} (h0 : 0 ≤ n ∧ n ≤ 100 ∧ 1 ≤ speed ∧ speed ≤ 3) : zM l S A yX0_hoursFor cX0_hoursFor 3 (Option.some Jvm.ClassFile.FieldType.int) { frames := 1, locals := 20, cells := 0, slots := 0 } [.ref (b), .int (zi (n))] (zR D A w) (fun v H => v = some (.int (zi (zhr speed n))) ∧ zR D A w H) := by
  refine zM.mk (by decide +kernel) (Nat.le_of_ble_eq_true rfl) ?_
  intro p e s m below meth c ls X0 hR hl
  obtain ⟨hx, hb, hml, hr, hlocks, hown, hnm, hW, hpre, hA⟩ := X0
  have X : zH S A p s m c cX0_hoursFor 3 RX0 := ⟨hx, hb, hml, hown, hW, hpre, hA, hZ.2.2.1⟩
  have hT := hZ.1
  have hK := va_K.moved hW.alike hZ.2.1
  have hS : va_S A s.heap s.heap [] := va_S.rf
  have hl : lv_has ls 3 [(0, .ref (b)), (1, .int (zi (n)))] := hl
  skip
  refine lv_iconst (v := zi (1)) hx hb dX0_hoursFor_0 rfl ?_
  refine lv_istore_n (lv' := [(2, .int (zi (1))), (0, .ref (b)), (1, .int (zi (n)))]) hx hb dX0_hoursFor_1 rfl hl (by decide) rfl (fun ls hl => ?_)
  refine lv_iload_n hx hb dX0_hoursFor_2 rfl (lv_at hl 0 rfl) ?_
  refine lv_iconst (v := zi (5)) hx hb dX0_hoursFor_3 rfl ?_
  refine z_icmp_gt (a := 1) (b := 5) (tgt := 25) hx hb dX0_hoursFor_4 (by decide) (by omega) (fun h_4_1 => ?_) (fun h_4_1 => ?_)
  · skip
    exact absurd h_4_1 (by omega)
  · skip
    refine lv_iload_n hx hb dX0_hoursFor_7 rfl (lv_at hl 0 rfl) ?_
    refine lv_aload_n hx hb dX0_hoursFor_8 rfl (lv_at hl 1 rfl) ?_
    refine z_get hx hb (q_wsX0 hT hW) hown hK hR hb0 rfl 4 (by decide) (q_253 hT hW) (fun _ h => h) rfl dX0_hoursFor_9 ?_
    refine z_imul (a := 1) (b := speed) hx hb dX0_hoursFor_12 ?_
    refine lv_iload_n hx hb dX0_hoursFor_13 rfl (lv_at hl 2 rfl) ?_
    refine z_icmp_lt (a := (1 * speed)) (b := n) (tgt := 19) hx hb dX0_hoursFor_14 (by decide) (by omega) (fun h_14_2 => ?_) (fun h_14_2 => ?_)
    · skip
      refine z_iinc (a := 1) (n := 1) (lv' := [(2, .int (zi ((1 + 1)))), (0, .ref (b)), (1, .int (zi (n)))]) hx hb dX0_hoursFor_19 hl (k := 0) rfl (by decide) rfl (fun ls hl => ?_)
      refine lv_goto (tgt := 2) hx hb dX0_hoursFor_22 (by decide) ?_
      refine lv_iload_n hx hb dX0_hoursFor_2 rfl (lv_at hl 0 rfl) ?_
      refine lv_iconst (v := zi (5)) hx hb dX0_hoursFor_3 rfl ?_
      refine z_icmp_gt (a := (1 + 1)) (b := 5) (tgt := 25) hx hb dX0_hoursFor_4 (by decide) (by omega) (fun h_4_3 => ?_) (fun h_4_3 => ?_)
      · skip
        exact absurd h_4_3 (by omega)
      · skip
        refine lv_iload_n hx hb dX0_hoursFor_7 rfl (lv_at hl 0 rfl) ?_
        refine lv_aload_n hx hb dX0_hoursFor_8 rfl (lv_at hl 1 rfl) ?_
        refine z_get hx hb (q_wsX0 hT hW) hown hK hR hb0 rfl 4 (by decide) (q_253 hT hW) (fun _ h => h) rfl dX0_hoursFor_9 ?_
        refine z_imul (a := (1 + 1)) (b := speed) hx hb dX0_hoursFor_12 ?_
        refine lv_iload_n hx hb dX0_hoursFor_13 rfl (lv_at hl 2 rfl) ?_
        refine z_icmp_lt (a := ((1 + 1) * speed)) (b := n) (tgt := 19) hx hb dX0_hoursFor_14 (by decide) (by omega) (fun h_14_4 => ?_) (fun h_14_4 => ?_)
        · skip
          refine z_iinc (a := (1 + 1)) (n := 1) (lv' := [(2, .int (zi (((1 + 1) + 1)))), (0, .ref (b)), (1, .int (zi (n)))]) hx hb dX0_hoursFor_19 hl (k := 0) rfl (by decide) rfl (fun ls hl => ?_)
          refine lv_goto (tgt := 2) hx hb dX0_hoursFor_22 (by decide) ?_
          refine lv_iload_n hx hb dX0_hoursFor_2 rfl (lv_at hl 0 rfl) ?_
          refine lv_iconst (v := zi (5)) hx hb dX0_hoursFor_3 rfl ?_
          refine z_icmp_gt (a := ((1 + 1) + 1)) (b := 5) (tgt := 25) hx hb dX0_hoursFor_4 (by decide) (by omega) (fun h_4_5 => ?_) (fun h_4_5 => ?_)
          · skip
            exact absurd h_4_5 (by omega)
          · skip
            refine lv_iload_n hx hb dX0_hoursFor_7 rfl (lv_at hl 0 rfl) ?_
            refine lv_aload_n hx hb dX0_hoursFor_8 rfl (lv_at hl 1 rfl) ?_
            refine z_get hx hb (q_wsX0 hT hW) hown hK hR hb0 rfl 4 (by decide) (q_253 hT hW) (fun _ h => h) rfl dX0_hoursFor_9 ?_
            refine z_imul (a := ((1 + 1) + 1)) (b := speed) hx hb dX0_hoursFor_12 ?_
            refine lv_iload_n hx hb dX0_hoursFor_13 rfl (lv_at hl 2 rfl) ?_
            refine z_icmp_lt (a := (((1 + 1) + 1) * speed)) (b := n) (tgt := 19) hx hb dX0_hoursFor_14 (by decide) (by omega) (fun h_14_6 => ?_) (fun h_14_6 => ?_)
            · skip
              refine z_iinc (a := ((1 + 1) + 1)) (n := 1) (lv' := [(2, .int (zi ((((1 + 1) + 1) + 1)))), (0, .ref (b)), (1, .int (zi (n)))]) hx hb dX0_hoursFor_19 hl (k := 0) rfl (by decide) rfl (fun ls hl => ?_)
              refine lv_goto (tgt := 2) hx hb dX0_hoursFor_22 (by decide) ?_
              refine lv_iload_n hx hb dX0_hoursFor_2 rfl (lv_at hl 0 rfl) ?_
              refine lv_iconst (v := zi (5)) hx hb dX0_hoursFor_3 rfl ?_
              refine z_icmp_gt (a := (((1 + 1) + 1) + 1)) (b := 5) (tgt := 25) hx hb dX0_hoursFor_4 (by decide) (by omega) (fun h_4_7 => ?_) (fun h_4_7 => ?_)
              · skip
                exact absurd h_4_7 (by omega)
              · skip
                refine lv_iload_n hx hb dX0_hoursFor_7 rfl (lv_at hl 0 rfl) ?_
                refine lv_aload_n hx hb dX0_hoursFor_8 rfl (lv_at hl 1 rfl) ?_
                refine z_get hx hb (q_wsX0 hT hW) hown hK hR hb0 rfl 4 (by decide) (q_253 hT hW) (fun _ h => h) rfl dX0_hoursFor_9 ?_
                refine z_imul (a := (((1 + 1) + 1) + 1)) (b := speed) hx hb dX0_hoursFor_12 ?_
                refine lv_iload_n hx hb dX0_hoursFor_13 rfl (lv_at hl 2 rfl) ?_
                refine z_icmp_lt (a := ((((1 + 1) + 1) + 1) * speed)) (b := n) (tgt := 19) hx hb dX0_hoursFor_14 (by decide) (by omega) (fun h_14_8 => ?_) (fun h_14_8 => ?_)
                · skip
                  refine z_iinc (a := (((1 + 1) + 1) + 1)) (n := 1) (lv' := [(2, .int (zi (((((1 + 1) + 1) + 1) + 1)))), (0, .ref (b)), (1, .int (zi (n)))]) hx hb dX0_hoursFor_19 hl (k := 0) rfl (by decide) rfl (fun ls hl => ?_)
                  refine lv_goto (tgt := 2) hx hb dX0_hoursFor_22 (by decide) ?_
                  refine lv_iload_n hx hb dX0_hoursFor_2 rfl (lv_at hl 0 rfl) ?_
                  refine lv_iconst (v := zi (5)) hx hb dX0_hoursFor_3 rfl ?_
                  refine z_icmp_gt (a := ((((1 + 1) + 1) + 1) + 1)) (b := 5) (tgt := 25) hx hb dX0_hoursFor_4 (by decide) (by omega) (fun h_4_9 => ?_) (fun h_4_9 => ?_)
                  · skip
                    exact absurd h_4_9 (by omega)
                  · skip
                    refine lv_iload_n hx hb dX0_hoursFor_7 rfl (lv_at hl 0 rfl) ?_
                    refine lv_aload_n hx hb dX0_hoursFor_8 rfl (lv_at hl 1 rfl) ?_
                    refine z_get hx hb (q_wsX0 hT hW) hown hK hR hb0 rfl 4 (by decide) (q_253 hT hW) (fun _ h => h) rfl dX0_hoursFor_9 ?_
                    refine z_imul (a := ((((1 + 1) + 1) + 1) + 1)) (b := speed) hx hb dX0_hoursFor_12 ?_
                    refine lv_iload_n hx hb dX0_hoursFor_13 rfl (lv_at hl 2 rfl) ?_
                    refine z_icmp_lt (a := (((((1 + 1) + 1) + 1) + 1) * speed)) (b := n) (tgt := 19) hx hb dX0_hoursFor_14 (by decide) (by omega) (fun h_14_10 => ?_) (fun h_14_10 => ?_)
                    · skip
                      refine z_iinc (a := ((((1 + 1) + 1) + 1) + 1)) (n := 1) (lv' := [(2, .int (zi ((((((1 + 1) + 1) + 1) + 1) + 1)))), (0, .ref (b)), (1, .int (zi (n)))]) hx hb dX0_hoursFor_19 hl (k := 0) rfl (by decide) rfl (fun ls hl => ?_)
                      refine lv_goto (tgt := 2) hx hb dX0_hoursFor_22 (by decide) ?_
                      refine lv_iload_n hx hb dX0_hoursFor_2 rfl (lv_at hl 0 rfl) ?_
                      refine lv_iconst (v := zi (5)) hx hb dX0_hoursFor_3 rfl ?_
                      refine z_icmp_gt (a := (((((1 + 1) + 1) + 1) + 1) + 1)) (b := 5) (tgt := 25) hx hb dX0_hoursFor_4 (by decide) (by omega) (fun h_4_11 => ?_) (fun h_4_11 => ?_)
                      · skip
                        refine lv_iconst (v := zi (-1)) hx hb dX0_hoursFor_25 rfl ?_
                        exact z_iret hx hb hr hlocks hS (by decide) (by decide) dX0_hoursFor_26 ⟨by rw [show zhr speed n = (-1) from by unfold zhr; omega], hR⟩
                      · skip
                        exact absurd h_4_11 (by omega)
                    · skip
                      refine lv_iload_n hx hb dX0_hoursFor_17 rfl (lv_at hl 0 rfl) ?_
                      exact z_iret hx hb hr hlocks hS (by decide) (by decide) dX0_hoursFor_18 ⟨by rw [show zhr speed n = ((((1 + 1) + 1) + 1) + 1) from by unfold zhr; omega], hR⟩
                · skip
                  refine lv_iload_n hx hb dX0_hoursFor_17 rfl (lv_at hl 0 rfl) ?_
                  exact z_iret hx hb hr hlocks hS (by decide) (by decide) dX0_hoursFor_18 ⟨by rw [show zhr speed n = (((1 + 1) + 1) + 1) from by unfold zhr; omega], hR⟩
            · skip
              refine lv_iload_n hx hb dX0_hoursFor_17 rfl (lv_at hl 0 rfl) ?_
              exact z_iret hx hb hr hlocks hS (by decide) (by decide) dX0_hoursFor_18 ⟨by rw [show zhr speed n = ((1 + 1) + 1) from by unfold zhr; omega], hR⟩
        · skip
          refine lv_iload_n hx hb dX0_hoursFor_17 rfl (lv_at hl 0 rfl) ?_
          exact z_iret hx hb hr hlocks hS (by decide) (by decide) dX0_hoursFor_18 ⟨by rw [show zhr speed n = (1 + 1) from by unfold zhr; omega], hR⟩
    · skip
      refine lv_iload_n hx hb dX0_hoursFor_17 rfl (lv_at hl 0 rfl) ?_
      exact z_iret hx hb hr hlocks hS (by decide) (by decide) dX0_hoursFor_18 ⟨by rw [show zhr speed n = 1 from by unfold zhr; omega], hR⟩
set_option maxHeartbeats 4000000 in
set_option maxRecDepth 100000 in
theorem c_X0_init (l : Launch) {S : State} {D : va_G} {tc : Nat → ClassId} {A : Nat → Prop} {dz : Nat} (hZ : zB S D tc A dz) {w : zW} {b : Nat} {num club home speed fuel bears : Int} (hb0 : w b = some (.inr (1, [.int (zi (0)), .int (zi (0)), .int (zi (0)), .int (zi (0)), .int (zi (0)), .int (zi (0)), .int (zi (0)), .int (zi (0)), .int (zi (0)), .null, .int (zi (0)), .int (zi (0)), .int (zi (0))]))) : zM l S A yX0_init cX0_init 7 (Option.none : Option Jvm.ClassFile.FieldType) { frames := 2, locals := 40, cells := 0, slots := 0 } [.ref (b), .int (zi (num)), .int (zi (club)), .int (zi (home)), .int (zi (speed)), .int (zi (fuel)), .int (zi (bears))] (zR D A w) (fun v H => v = none ∧ zR D A (zu w b (.inr (1, [.int (zi (num)), .int (zi (club)), .int (zi (bears)), .int (zi (home)), .int (zi (speed)), .int (zi (fuel)), .int (zi (club)), .int (zi (club)), .int (zi (0)), .null, .int (zi ((-1))), .int (zi (fuel)), .int (zi ((-1)))]))) H) := by
  refine zM.mk (by decide +kernel) (Nat.le_of_ble_eq_true rfl) ?_
  intro p e s m below meth c ls X0 hR hl
  obtain ⟨hx, hb, hml, hr, hlocks, hown, hnm, hW, hpre, hA⟩ := X0
  have X : zH S A p s m c cX0_init 7 RX0 := ⟨hx, hb, hml, hown, hW, hpre, hA, hZ.2.2.1⟩
  have hT := hZ.1
  have hK := va_K.moved hW.alike hZ.2.1
  have hS : va_S A s.heap s.heap [] := va_S.rf
  have hl : lv_has ls 7 [(0, .ref (b)), (1, .int (zi (num))), (2, .int (zi (club))), (3, .int (zi (home))), (4, .int (zi (speed))), (5, .int (zi (fuel))), (6, .int (zi (bears)))] := hl
  skip
  refine lv_aload_n hx hb dX0_init_0 rfl (lv_at hl 0 rfl) ?_
  refine W.objInit hx hb hown (q_245 hT hW) (q_28 hT hW) (q_29 hT hW) rfl (by rw [hml]; exact hl.1) rfl dX0_init_1 (Nat.le_of_ble_eq_true rfl) (Nat.le_of_ble_eq_true rfl) ?_
  refine W.eq (g2 := F0 m 4 ls []) rfl ?_
  refine lv_aload_n hx hb dX0_init_4 rfl (lv_at hl 0 rfl) ?_
  refine lv_iload_n hx hb dX0_init_5 rfl (lv_at hl 1 rfl) ?_
  refine z_putF hx hb (q_wsX0 hT hW) tyX0 tyX0_ok nmX0 hown hK hR hS hb0 rfl 0 (by decide) (q_246 hT hW) (fun _ h => h) rfl hnm rfl (tyX0_ok 0 (by decide)) rfl rfl (Nat.le_of_ble_eq_true rfl) dX0_init_6 (fun H locs hR hS => ?_)
  have hR : zR D A (zu w (b) (.inr (1, [.int (zi (num)), .int (zi (0)), .int (zi (0)), .int (zi (0)), .int (zi (0)), .int (zi (0)), .int (zi (0)), .int (zi (0)), .int (zi (0)), .null, .int (zi (0)), .int (zi (0)), .int (zi (0))]))) H := hR
  have he_1 : (zu w (b) (.inr (1, [.int (zi (num)), .int (zi (0)), .int (zi (0)), .int (zi (0)), .int (zi (0)), .int (zi (0)), .int (zi (0)), .int (zi (0)), .int (zi (0)), .null, .int (zi (0)), .int (zi (0)), .int (zi (0))]))) (b) = some (.inr (1, [.int (zi (num)), .int (zi (0)), .int (zi (0)), .int (zi (0)), .int (zi (0)), .int (zi (0)), .int (zi (0)), .int (zi (0)), .int (zi (0)), .null, .int (zi (0)), .int (zi (0)), .int (zi (0))])) := zu_eq
  refine lv_aload_n hx hb dX0_init_9 rfl (lv_at hl 0 rfl) ?_
  refine lv_iload_n hx hb dX0_init_10 rfl (lv_at hl 2 rfl) ?_
  refine z_putF hx hb (q_wsX0 hT hW) tyX0 tyX0_ok nmX0 hown hK hR hS he_1 rfl 1 (by decide) (q_248 hT hW) (fun _ h => h) rfl hnm rfl (tyX0_ok 1 (by decide)) rfl rfl (Nat.le_of_ble_eq_true rfl) dX0_init_11 (fun H locs hR hS => ?_)
  rw [zu_zu] at hR
  have hR : zR D A (zu w (b) (.inr (1, [.int (zi (num)), .int (zi (club)), .int (zi (0)), .int (zi (0)), .int (zi (0)), .int (zi (0)), .int (zi (0)), .int (zi (0)), .int (zi (0)), .null, .int (zi (0)), .int (zi (0)), .int (zi (0))]))) H := hR
  have he_2 : (zu w (b) (.inr (1, [.int (zi (num)), .int (zi (club)), .int (zi (0)), .int (zi (0)), .int (zi (0)), .int (zi (0)), .int (zi (0)), .int (zi (0)), .int (zi (0)), .null, .int (zi (0)), .int (zi (0)), .int (zi (0))]))) (b) = some (.inr (1, [.int (zi (num)), .int (zi (club)), .int (zi (0)), .int (zi (0)), .int (zi (0)), .int (zi (0)), .int (zi (0)), .int (zi (0)), .int (zi (0)), .null, .int (zi (0)), .int (zi (0)), .int (zi (0))])) := zu_eq
  refine lv_aload_n hx hb dX0_init_14 rfl (lv_at hl 0 rfl) ?_
  refine lv_iload_n hx hb dX0_init_15 rfl (lv_at hl 3 rfl) ?_
  refine z_putF hx hb (q_wsX0 hT hW) tyX0 tyX0_ok nmX0 hown hK hR hS he_2 rfl 3 (by decide) (q_252 hT hW) (fun _ h => h) rfl hnm rfl (tyX0_ok 3 (by decide)) rfl rfl (Nat.le_of_ble_eq_true rfl) dX0_init_16 (fun H locs hR hS => ?_)
  rw [zu_zu] at hR
  have hR : zR D A (zu w (b) (.inr (1, [.int (zi (num)), .int (zi (club)), .int (zi (0)), .int (zi (home)), .int (zi (0)), .int (zi (0)), .int (zi (0)), .int (zi (0)), .int (zi (0)), .null, .int (zi (0)), .int (zi (0)), .int (zi (0))]))) H := hR
  have he_3 : (zu w (b) (.inr (1, [.int (zi (num)), .int (zi (club)), .int (zi (0)), .int (zi (home)), .int (zi (0)), .int (zi (0)), .int (zi (0)), .int (zi (0)), .int (zi (0)), .null, .int (zi (0)), .int (zi (0)), .int (zi (0))]))) (b) = some (.inr (1, [.int (zi (num)), .int (zi (club)), .int (zi (0)), .int (zi (home)), .int (zi (0)), .int (zi (0)), .int (zi (0)), .int (zi (0)), .int (zi (0)), .null, .int (zi (0)), .int (zi (0)), .int (zi (0))])) := zu_eq
  refine lv_aload_n hx hb dX0_init_19 rfl (lv_at hl 0 rfl) ?_
  refine lv_iload hx hb dX0_init_20 (lv_at hl 4 rfl) ?_
  refine z_putF hx hb (q_wsX0 hT hW) tyX0 tyX0_ok nmX0 hown hK hR hS he_3 rfl 4 (by decide) (q_253 hT hW) (fun _ h => h) rfl hnm rfl (tyX0_ok 4 (by decide)) rfl rfl (Nat.le_of_ble_eq_true rfl) dX0_init_22 (fun H locs hR hS => ?_)
  rw [zu_zu] at hR
  have hR : zR D A (zu w (b) (.inr (1, [.int (zi (num)), .int (zi (club)), .int (zi (0)), .int (zi (home)), .int (zi (speed)), .int (zi (0)), .int (zi (0)), .int (zi (0)), .int (zi (0)), .null, .int (zi (0)), .int (zi (0)), .int (zi (0))]))) H := hR
  have he_4 : (zu w (b) (.inr (1, [.int (zi (num)), .int (zi (club)), .int (zi (0)), .int (zi (home)), .int (zi (speed)), .int (zi (0)), .int (zi (0)), .int (zi (0)), .int (zi (0)), .null, .int (zi (0)), .int (zi (0)), .int (zi (0))]))) (b) = some (.inr (1, [.int (zi (num)), .int (zi (club)), .int (zi (0)), .int (zi (home)), .int (zi (speed)), .int (zi (0)), .int (zi (0)), .int (zi (0)), .int (zi (0)), .null, .int (zi (0)), .int (zi (0)), .int (zi (0))])) := zu_eq
  refine lv_aload_n hx hb dX0_init_25 rfl (lv_at hl 0 rfl) ?_
  refine lv_iload hx hb dX0_init_26 (lv_at hl 6 rfl) ?_
  refine z_putF hx hb (q_wsX0 hT hW) tyX0 tyX0_ok nmX0 hown hK hR hS he_4 rfl 2 (by decide) (q_250 hT hW) (fun _ h => h) rfl hnm rfl (tyX0_ok 2 (by decide)) rfl rfl (Nat.le_of_ble_eq_true rfl) dX0_init_28 (fun H locs hR hS => ?_)
  rw [zu_zu] at hR
  have hR : zR D A (zu w (b) (.inr (1, [.int (zi (num)), .int (zi (club)), .int (zi (bears)), .int (zi (home)), .int (zi (speed)), .int (zi (0)), .int (zi (0)), .int (zi (0)), .int (zi (0)), .null, .int (zi (0)), .int (zi (0)), .int (zi (0))]))) H := hR
  have he_5 : (zu w (b) (.inr (1, [.int (zi (num)), .int (zi (club)), .int (zi (bears)), .int (zi (home)), .int (zi (speed)), .int (zi (0)), .int (zi (0)), .int (zi (0)), .int (zi (0)), .null, .int (zi (0)), .int (zi (0)), .int (zi (0))]))) (b) = some (.inr (1, [.int (zi (num)), .int (zi (club)), .int (zi (bears)), .int (zi (home)), .int (zi (speed)), .int (zi (0)), .int (zi (0)), .int (zi (0)), .int (zi (0)), .null, .int (zi (0)), .int (zi (0)), .int (zi (0))])) := zu_eq
  refine lv_aload_n hx hb dX0_init_31 rfl (lv_at hl 0 rfl) ?_
  refine lv_iload hx hb dX0_init_32 (lv_at hl 5 rfl) ?_
  refine z_putF hx hb (q_wsX0 hT hW) tyX0 tyX0_ok nmX0 hown hK hR hS he_5 rfl 5 (by decide) (q_254 hT hW) (fun _ h => h) rfl hnm rfl (tyX0_ok 5 (by decide)) rfl rfl (Nat.le_of_ble_eq_true rfl) dX0_init_34 (fun H locs hR hS => ?_)
  rw [zu_zu] at hR
  have hR : zR D A (zu w (b) (.inr (1, [.int (zi (num)), .int (zi (club)), .int (zi (bears)), .int (zi (home)), .int (zi (speed)), .int (zi (fuel)), .int (zi (0)), .int (zi (0)), .int (zi (0)), .null, .int (zi (0)), .int (zi (0)), .int (zi (0))]))) H := hR
  have he_6 : (zu w (b) (.inr (1, [.int (zi (num)), .int (zi (club)), .int (zi (bears)), .int (zi (home)), .int (zi (speed)), .int (zi (fuel)), .int (zi (0)), .int (zi (0)), .int (zi (0)), .null, .int (zi (0)), .int (zi (0)), .int (zi (0))]))) (b) = some (.inr (1, [.int (zi (num)), .int (zi (club)), .int (zi (bears)), .int (zi (home)), .int (zi (speed)), .int (zi (fuel)), .int (zi (0)), .int (zi (0)), .int (zi (0)), .null, .int (zi (0)), .int (zi (0)), .int (zi (0))])) := zu_eq
  refine lv_aload_n hx hb dX0_init_37 rfl (lv_at hl 0 rfl) ?_
  refine lv_iload hx hb dX0_init_38 (lv_at hl 5 rfl) ?_
  refine z_put hx hb (q_wsX0 hT hW) tyX0 tyX0_ok nmX0 hown hK hR hS he_6 rfl 11 (by decide) (q_265 hT hW) (fun _ h => h) rfl (tyX0_ok 11 (by decide)) rfl rfl (Nat.le_of_ble_eq_true rfl) dX0_init_40 (fun H locs hR hS => ?_)
  rw [zu_zu] at hR
  have hR : zR D A (zu w (b) (.inr (1, [.int (zi (num)), .int (zi (club)), .int (zi (bears)), .int (zi (home)), .int (zi (speed)), .int (zi (fuel)), .int (zi (0)), .int (zi (0)), .int (zi (0)), .null, .int (zi (0)), .int (zi (fuel)), .int (zi (0))]))) H := hR
  have he_7 : (zu w (b) (.inr (1, [.int (zi (num)), .int (zi (club)), .int (zi (bears)), .int (zi (home)), .int (zi (speed)), .int (zi (fuel)), .int (zi (0)), .int (zi (0)), .int (zi (0)), .null, .int (zi (0)), .int (zi (fuel)), .int (zi (0))]))) (b) = some (.inr (1, [.int (zi (num)), .int (zi (club)), .int (zi (bears)), .int (zi (home)), .int (zi (speed)), .int (zi (fuel)), .int (zi (0)), .int (zi (0)), .int (zi (0)), .null, .int (zi (0)), .int (zi (fuel)), .int (zi (0))])) := zu_eq
  refine lv_aload_n hx hb dX0_init_43 rfl (lv_at hl 0 rfl) ?_
  refine lv_iload_n hx hb dX0_init_44 rfl (lv_at hl 2 rfl) ?_
  refine z_put hx hb (q_wsX0 hT hW) tyX0 tyX0_ok nmX0 hown hK hR hS he_7 rfl 6 (by decide) (q_255 hT hW) (fun _ h => h) rfl (tyX0_ok 6 (by decide)) rfl rfl (Nat.le_of_ble_eq_true rfl) dX0_init_45 (fun H locs hR hS => ?_)
  rw [zu_zu] at hR
  have hR : zR D A (zu w (b) (.inr (1, [.int (zi (num)), .int (zi (club)), .int (zi (bears)), .int (zi (home)), .int (zi (speed)), .int (zi (fuel)), .int (zi (club)), .int (zi (0)), .int (zi (0)), .null, .int (zi (0)), .int (zi (fuel)), .int (zi (0))]))) H := hR
  have he_8 : (zu w (b) (.inr (1, [.int (zi (num)), .int (zi (club)), .int (zi (bears)), .int (zi (home)), .int (zi (speed)), .int (zi (fuel)), .int (zi (club)), .int (zi (0)), .int (zi (0)), .null, .int (zi (0)), .int (zi (fuel)), .int (zi (0))]))) (b) = some (.inr (1, [.int (zi (num)), .int (zi (club)), .int (zi (bears)), .int (zi (home)), .int (zi (speed)), .int (zi (fuel)), .int (zi (club)), .int (zi (0)), .int (zi (0)), .null, .int (zi (0)), .int (zi (fuel)), .int (zi (0))])) := zu_eq
  refine lv_aload_n hx hb dX0_init_48 rfl (lv_at hl 0 rfl) ?_
  refine lv_iload_n hx hb dX0_init_49 rfl (lv_at hl 2 rfl) ?_
  refine z_put hx hb (q_wsX0 hT hW) tyX0 tyX0_ok nmX0 hown hK hR hS he_8 rfl 7 (by decide) (q_257 hT hW) (fun _ h => h) rfl (tyX0_ok 7 (by decide)) rfl rfl (Nat.le_of_ble_eq_true rfl) dX0_init_50 (fun H locs hR hS => ?_)
  rw [zu_zu] at hR
  have hR : zR D A (zu w (b) (.inr (1, [.int (zi (num)), .int (zi (club)), .int (zi (bears)), .int (zi (home)), .int (zi (speed)), .int (zi (fuel)), .int (zi (club)), .int (zi (club)), .int (zi (0)), .null, .int (zi (0)), .int (zi (fuel)), .int (zi (0))]))) H := hR
  have he_9 : (zu w (b) (.inr (1, [.int (zi (num)), .int (zi (club)), .int (zi (bears)), .int (zi (home)), .int (zi (speed)), .int (zi (fuel)), .int (zi (club)), .int (zi (club)), .int (zi (0)), .null, .int (zi (0)), .int (zi (fuel)), .int (zi (0))]))) (b) = some (.inr (1, [.int (zi (num)), .int (zi (club)), .int (zi (bears)), .int (zi (home)), .int (zi (speed)), .int (zi (fuel)), .int (zi (club)), .int (zi (club)), .int (zi (0)), .null, .int (zi (0)), .int (zi (fuel)), .int (zi (0))])) := zu_eq
  refine lv_aload_n hx hb dX0_init_53 rfl (lv_at hl 0 rfl) ?_
  refine lv_iconst (v := zi (0)) hx hb dX0_init_54 rfl ?_
  refine z_put hx hb (q_wsX0 hT hW) tyX0 tyX0_ok nmX0 hown hK hR hS he_9 rfl 8 (by decide) (q_259 hT hW) (fun _ h => h) rfl (tyX0_ok 8 (by decide)) rfl rfl (Nat.le_of_ble_eq_true rfl) dX0_init_55 (fun H locs hR hS => ?_)
  rw [zu_zu] at hR
  have hR : zR D A (zu w (b) (.inr (1, [.int (zi (num)), .int (zi (club)), .int (zi (bears)), .int (zi (home)), .int (zi (speed)), .int (zi (fuel)), .int (zi (club)), .int (zi (club)), .int (zi (0)), .null, .int (zi (0)), .int (zi (fuel)), .int (zi (0))]))) H := hR
  have he_10 : (zu w (b) (.inr (1, [.int (zi (num)), .int (zi (club)), .int (zi (bears)), .int (zi (home)), .int (zi (speed)), .int (zi (fuel)), .int (zi (club)), .int (zi (club)), .int (zi (0)), .null, .int (zi (0)), .int (zi (fuel)), .int (zi (0))]))) (b) = some (.inr (1, [.int (zi (num)), .int (zi (club)), .int (zi (bears)), .int (zi (home)), .int (zi (speed)), .int (zi (fuel)), .int (zi (club)), .int (zi (club)), .int (zi (0)), .null, .int (zi (0)), .int (zi (fuel)), .int (zi (0))])) := zu_eq
  refine lv_aload_n hx hb dX0_init_58 rfl (lv_at hl 0 rfl) ?_
  refine lv_null hx hb dX0_init_59 ?_
  refine z_put hx hb (q_wsX0 hT hW) tyX0 tyX0_ok nmX0 hown hK hR hS he_10 rfl 9 (by decide) (q_261 hT hW) (fun _ h => h) rfl (tyX0_ok 9 (by decide)) rfl rfl (Nat.le_of_ble_eq_true rfl) dX0_init_60 (fun H locs hR hS => ?_)
  rw [zu_zu] at hR
  have hR : zR D A (zu w (b) (.inr (1, [.int (zi (num)), .int (zi (club)), .int (zi (bears)), .int (zi (home)), .int (zi (speed)), .int (zi (fuel)), .int (zi (club)), .int (zi (club)), .int (zi (0)), .null, .int (zi (0)), .int (zi (fuel)), .int (zi (0))]))) H := hR
  have he_11 : (zu w (b) (.inr (1, [.int (zi (num)), .int (zi (club)), .int (zi (bears)), .int (zi (home)), .int (zi (speed)), .int (zi (fuel)), .int (zi (club)), .int (zi (club)), .int (zi (0)), .null, .int (zi (0)), .int (zi (fuel)), .int (zi (0))]))) (b) = some (.inr (1, [.int (zi (num)), .int (zi (club)), .int (zi (bears)), .int (zi (home)), .int (zi (speed)), .int (zi (fuel)), .int (zi (club)), .int (zi (club)), .int (zi (0)), .null, .int (zi (0)), .int (zi (fuel)), .int (zi (0))])) := zu_eq
  refine lv_aload_n hx hb dX0_init_63 rfl (lv_at hl 0 rfl) ?_
  refine lv_iconst (v := zi (-1)) hx hb dX0_init_64 rfl ?_
  refine z_put hx hb (q_wsX0 hT hW) tyX0 tyX0_ok nmX0 hown hK hR hS he_11 rfl 10 (by decide) (q_263 hT hW) (fun _ h => h) rfl (tyX0_ok 10 (by decide)) rfl rfl (Nat.le_of_ble_eq_true rfl) dX0_init_65 (fun H locs hR hS => ?_)
  rw [zu_zu] at hR
  have hR : zR D A (zu w (b) (.inr (1, [.int (zi (num)), .int (zi (club)), .int (zi (bears)), .int (zi (home)), .int (zi (speed)), .int (zi (fuel)), .int (zi (club)), .int (zi (club)), .int (zi (0)), .null, .int (zi ((-1))), .int (zi (fuel)), .int (zi (0))]))) H := hR
  have he_12 : (zu w (b) (.inr (1, [.int (zi (num)), .int (zi (club)), .int (zi (bears)), .int (zi (home)), .int (zi (speed)), .int (zi (fuel)), .int (zi (club)), .int (zi (club)), .int (zi (0)), .null, .int (zi ((-1))), .int (zi (fuel)), .int (zi (0))]))) (b) = some (.inr (1, [.int (zi (num)), .int (zi (club)), .int (zi (bears)), .int (zi (home)), .int (zi (speed)), .int (zi (fuel)), .int (zi (club)), .int (zi (club)), .int (zi (0)), .null, .int (zi ((-1))), .int (zi (fuel)), .int (zi (0))])) := zu_eq
  refine lv_aload_n hx hb dX0_init_68 rfl (lv_at hl 0 rfl) ?_
  refine lv_iconst (v := zi (-1)) hx hb dX0_init_69 rfl ?_
  refine z_put hx hb (q_wsX0 hT hW) tyX0 tyX0_ok nmX0 hown hK hR hS he_12 rfl 12 (by decide) (q_267 hT hW) (fun _ h => h) rfl (tyX0_ok 12 (by decide)) rfl rfl (Nat.le_of_ble_eq_true rfl) dX0_init_70 (fun H locs hR hS => ?_)
  rw [zu_zu] at hR
  have hR : zR D A (zu w (b) (.inr (1, [.int (zi (num)), .int (zi (club)), .int (zi (bears)), .int (zi (home)), .int (zi (speed)), .int (zi (fuel)), .int (zi (club)), .int (zi (club)), .int (zi (0)), .null, .int (zi ((-1))), .int (zi (fuel)), .int (zi ((-1)))]))) H := hR
  have he_13 : (zu w (b) (.inr (1, [.int (zi (num)), .int (zi (club)), .int (zi (bears)), .int (zi (home)), .int (zi (speed)), .int (zi (fuel)), .int (zi (club)), .int (zi (club)), .int (zi (0)), .null, .int (zi ((-1))), .int (zi (fuel)), .int (zi ((-1)))]))) (b) = some (.inr (1, [.int (zi (num)), .int (zi (club)), .int (zi (bears)), .int (zi (home)), .int (zi (speed)), .int (zi (fuel)), .int (zi (club)), .int (zi (club)), .int (zi (0)), .null, .int (zi ((-1))), .int (zi (fuel)), .int (zi ((-1)))])) := zu_eq
  exact z_vret hx hb hr hlocks hS (by decide) (by decide) dX0_init_73 ⟨rfl, hR⟩
set_option maxHeartbeats 4000000 in
set_option maxRecDepth 100000 in
theorem c_X1_init (l : Launch) {S : State} {D : va_G} {tc : Nat → ClassId} {A : Nat → Prop} {dz : Nat} (hZ : zB S D tc A dz) {w : zW} {b : Nat} {num cell need last : Int} (hb0 : w b = some (.inr (2, [.int (zi (0)), .int (zi (0)), .int (zi (0)), .int (zi (0)), .int (zi (0)), .null, .int (zi (0)), .int (zi (0))]))) : zM l S A yX1_init cX1_init 5 (Option.none : Option Jvm.ClassFile.FieldType) { frames := 2, locals := 40, cells := 0, slots := 0 } [.ref (b), .int (zi (num)), .int (zi (cell)), .int (zi (need)), .int (zi (last))] (zR D A w) (fun v H => v = none ∧ zR D A (zu w b (.inr (2, [.int (zi (num)), .int (zi (cell)), .int (zi (need)), .int (zi (last)), .int (zi (0)), .null, .int (zi (0)), .int (zi (0))]))) H) := by
  refine zM.mk (by decide +kernel) (Nat.le_of_ble_eq_true rfl) ?_
  intro p e s m below meth c ls X0 hR hl
  obtain ⟨hx, hb, hml, hr, hlocks, hown, hnm, hW, hpre, hA⟩ := X0
  have X : zH S A p s m c cX1_init 5 RX1 := ⟨hx, hb, hml, hown, hW, hpre, hA, hZ.2.2.1⟩
  have hT := hZ.1
  have hK := va_K.moved hW.alike hZ.2.1
  have hS : va_S A s.heap s.heap [] := va_S.rf
  have hl : lv_has ls 5 [(0, .ref (b)), (1, .int (zi (num))), (2, .int (zi (cell))), (3, .int (zi (need))), (4, .int (zi (last)))] := hl
  skip
  refine lv_aload_n hx hb dX1_init_0 rfl (lv_at hl 0 rfl) ?_
  refine W.objInit hx hb hown (q_417 hT hW) (q_28 hT hW) (q_29 hT hW) rfl (by rw [hml]; exact hl.1) rfl dX1_init_1 (Nat.le_of_ble_eq_true rfl) (Nat.le_of_ble_eq_true rfl) ?_
  refine W.eq (g2 := F0 m 4 ls []) rfl ?_
  refine lv_aload_n hx hb dX1_init_4 rfl (lv_at hl 0 rfl) ?_
  refine lv_iload_n hx hb dX1_init_5 rfl (lv_at hl 1 rfl) ?_
  refine z_putF hx hb (q_wsX1 hT hW) tyX1 tyX1_ok nmX1 hown hK hR hS hb0 rfl 0 (by decide) (q_418 hT hW) (fun _ h => h) rfl hnm rfl (tyX1_ok 0 (by decide)) rfl rfl (Nat.le_of_ble_eq_true rfl) dX1_init_6 (fun H locs hR hS => ?_)
  have hR : zR D A (zu w (b) (.inr (2, [.int (zi (num)), .int (zi (0)), .int (zi (0)), .int (zi (0)), .int (zi (0)), .null, .int (zi (0)), .int (zi (0))]))) H := hR
  have he_1 : (zu w (b) (.inr (2, [.int (zi (num)), .int (zi (0)), .int (zi (0)), .int (zi (0)), .int (zi (0)), .null, .int (zi (0)), .int (zi (0))]))) (b) = some (.inr (2, [.int (zi (num)), .int (zi (0)), .int (zi (0)), .int (zi (0)), .int (zi (0)), .null, .int (zi (0)), .int (zi (0))])) := zu_eq
  refine lv_aload_n hx hb dX1_init_9 rfl (lv_at hl 0 rfl) ?_
  refine lv_iload_n hx hb dX1_init_10 rfl (lv_at hl 2 rfl) ?_
  refine z_putF hx hb (q_wsX1 hT hW) tyX1 tyX1_ok nmX1 hown hK hR hS he_1 rfl 1 (by decide) (q_420 hT hW) (fun _ h => h) rfl hnm rfl (tyX1_ok 1 (by decide)) rfl rfl (Nat.le_of_ble_eq_true rfl) dX1_init_11 (fun H locs hR hS => ?_)
  rw [zu_zu] at hR
  have hR : zR D A (zu w (b) (.inr (2, [.int (zi (num)), .int (zi (cell)), .int (zi (0)), .int (zi (0)), .int (zi (0)), .null, .int (zi (0)), .int (zi (0))]))) H := hR
  have he_2 : (zu w (b) (.inr (2, [.int (zi (num)), .int (zi (cell)), .int (zi (0)), .int (zi (0)), .int (zi (0)), .null, .int (zi (0)), .int (zi (0))]))) (b) = some (.inr (2, [.int (zi (num)), .int (zi (cell)), .int (zi (0)), .int (zi (0)), .int (zi (0)), .null, .int (zi (0)), .int (zi (0))])) := zu_eq
  refine lv_aload_n hx hb dX1_init_14 rfl (lv_at hl 0 rfl) ?_
  refine lv_iload_n hx hb dX1_init_15 rfl (lv_at hl 3 rfl) ?_
  refine z_putF hx hb (q_wsX1 hT hW) tyX1 tyX1_ok nmX1 hown hK hR hS he_2 rfl 2 (by decide) (q_422 hT hW) (fun _ h => h) rfl hnm rfl (tyX1_ok 2 (by decide)) rfl rfl (Nat.le_of_ble_eq_true rfl) dX1_init_16 (fun H locs hR hS => ?_)
  rw [zu_zu] at hR
  have hR : zR D A (zu w (b) (.inr (2, [.int (zi (num)), .int (zi (cell)), .int (zi (need)), .int (zi (0)), .int (zi (0)), .null, .int (zi (0)), .int (zi (0))]))) H := hR
  have he_3 : (zu w (b) (.inr (2, [.int (zi (num)), .int (zi (cell)), .int (zi (need)), .int (zi (0)), .int (zi (0)), .null, .int (zi (0)), .int (zi (0))]))) (b) = some (.inr (2, [.int (zi (num)), .int (zi (cell)), .int (zi (need)), .int (zi (0)), .int (zi (0)), .null, .int (zi (0)), .int (zi (0))])) := zu_eq
  refine lv_aload_n hx hb dX1_init_19 rfl (lv_at hl 0 rfl) ?_
  refine lv_iload hx hb dX1_init_20 (lv_at hl 4 rfl) ?_
  refine z_putF hx hb (q_wsX1 hT hW) tyX1 tyX1_ok nmX1 hown hK hR hS he_3 rfl 3 (by decide) (q_424 hT hW) (fun _ h => h) rfl hnm rfl (tyX1_ok 3 (by decide)) rfl rfl (Nat.le_of_ble_eq_true rfl) dX1_init_22 (fun H locs hR hS => ?_)
  rw [zu_zu] at hR
  have hR : zR D A (zu w (b) (.inr (2, [.int (zi (num)), .int (zi (cell)), .int (zi (need)), .int (zi (last)), .int (zi (0)), .null, .int (zi (0)), .int (zi (0))]))) H := hR
  have he_4 : (zu w (b) (.inr (2, [.int (zi (num)), .int (zi (cell)), .int (zi (need)), .int (zi (last)), .int (zi (0)), .null, .int (zi (0)), .int (zi (0))]))) (b) = some (.inr (2, [.int (zi (num)), .int (zi (cell)), .int (zi (need)), .int (zi (last)), .int (zi (0)), .null, .int (zi (0)), .int (zi (0))])) := zu_eq
  refine lv_aload_n hx hb dX1_init_25 rfl (lv_at hl 0 rfl) ?_
  refine lv_iconst (v := zi (0)) hx hb dX1_init_26 rfl ?_
  refine z_put hx hb (q_wsX1 hT hW) tyX1 tyX1_ok nmX1 hown hK hR hS he_4 rfl 4 (by decide) (q_426 hT hW) (fun _ h => h) rfl (tyX1_ok 4 (by decide)) rfl rfl (Nat.le_of_ble_eq_true rfl) dX1_init_27 (fun H locs hR hS => ?_)
  rw [zu_zu] at hR
  have hR : zR D A (zu w (b) (.inr (2, [.int (zi (num)), .int (zi (cell)), .int (zi (need)), .int (zi (last)), .int (zi (0)), .null, .int (zi (0)), .int (zi (0))]))) H := hR
  have he_5 : (zu w (b) (.inr (2, [.int (zi (num)), .int (zi (cell)), .int (zi (need)), .int (zi (last)), .int (zi (0)), .null, .int (zi (0)), .int (zi (0))]))) (b) = some (.inr (2, [.int (zi (num)), .int (zi (cell)), .int (zi (need)), .int (zi (last)), .int (zi (0)), .null, .int (zi (0)), .int (zi (0))])) := zu_eq
  refine lv_aload_n hx hb dX1_init_30 rfl (lv_at hl 0 rfl) ?_
  refine lv_null hx hb dX1_init_31 ?_
  refine z_put hx hb (q_wsX1 hT hW) tyX1 tyX1_ok nmX1 hown hK hR hS he_5 rfl 5 (by decide) (q_428 hT hW) (fun _ h => h) rfl (tyX1_ok 5 (by decide)) rfl rfl (Nat.le_of_ble_eq_true rfl) dX1_init_32 (fun H locs hR hS => ?_)
  rw [zu_zu] at hR
  have hR : zR D A (zu w (b) (.inr (2, [.int (zi (num)), .int (zi (cell)), .int (zi (need)), .int (zi (last)), .int (zi (0)), .null, .int (zi (0)), .int (zi (0))]))) H := hR
  have he_6 : (zu w (b) (.inr (2, [.int (zi (num)), .int (zi (cell)), .int (zi (need)), .int (zi (last)), .int (zi (0)), .null, .int (zi (0)), .int (zi (0))]))) (b) = some (.inr (2, [.int (zi (num)), .int (zi (cell)), .int (zi (need)), .int (zi (last)), .int (zi (0)), .null, .int (zi (0)), .int (zi (0))])) := zu_eq
  refine lv_aload_n hx hb dX1_init_35 rfl (lv_at hl 0 rfl) ?_
  refine lv_iconst (v := zi (0)) hx hb dX1_init_36 rfl ?_
  refine z_put hx hb (q_wsX1 hT hW) tyX1 tyX1_ok nmX1 hown hK hR hS he_6 rfl 6 (by decide) (q_430 hT hW) (fun _ h => h) rfl (tyX1_ok 6 (by decide)) rfl rfl (Nat.le_of_ble_eq_true rfl) dX1_init_37 (fun H locs hR hS => ?_)
  rw [zu_zu] at hR
  have hR : zR D A (zu w (b) (.inr (2, [.int (zi (num)), .int (zi (cell)), .int (zi (need)), .int (zi (last)), .int (zi (0)), .null, .int (zi (0)), .int (zi (0))]))) H := hR
  have he_7 : (zu w (b) (.inr (2, [.int (zi (num)), .int (zi (cell)), .int (zi (need)), .int (zi (last)), .int (zi (0)), .null, .int (zi (0)), .int (zi (0))]))) (b) = some (.inr (2, [.int (zi (num)), .int (zi (cell)), .int (zi (need)), .int (zi (last)), .int (zi (0)), .null, .int (zi (0)), .int (zi (0))])) := zu_eq
  refine lv_aload_n hx hb dX1_init_40 rfl (lv_at hl 0 rfl) ?_
  refine lv_iconst (v := zi (0)) hx hb dX1_init_41 rfl ?_
  refine z_put hx hb (q_wsX1 hT hW) tyX1 tyX1_ok nmX1 hown hK hR hS he_7 rfl 7 (by decide) (q_432 hT hW) (fun _ h => h) rfl (tyX1_ok 7 (by decide)) rfl rfl (Nat.le_of_ble_eq_true rfl) dX1_init_42 (fun H locs hR hS => ?_)
  rw [zu_zu] at hR
  have hR : zR D A (zu w (b) (.inr (2, [.int (zi (num)), .int (zi (cell)), .int (zi (need)), .int (zi (last)), .int (zi (0)), .null, .int (zi (0)), .int (zi (0))]))) H := hR
  have he_8 : (zu w (b) (.inr (2, [.int (zi (num)), .int (zi (cell)), .int (zi (need)), .int (zi (last)), .int (zi (0)), .null, .int (zi (0)), .int (zi (0))]))) (b) = some (.inr (2, [.int (zi (num)), .int (zi (cell)), .int (zi (need)), .int (zi (last)), .int (zi (0)), .null, .int (zi (0)), .int (zi (0))])) := zu_eq
  exact z_vret hx hb hr hlocks hS (by decide) (by decide) dX1_init_45 ⟨rfl, hR⟩
set_option maxHeartbeats 4000000 in
set_option maxRecDepth 100000 in
theorem c_X2_init (l : Launch) {S : State} {D : va_G} {tc : Nat → ClassId} {A : Nat → Prop} {dz : Nat} (hZ : zB S D tc A dz) {w : zW} {b : Nat} {ow us wy need cap : Int} (hb0 : w b = some (.inr (3, [.int (zi (0)), .int (zi (0)), .int (zi (0)), .int (zi (0)), .int (zi (0))]))) : zM l S A yX2_init cX2_init 6 (Option.none : Option Jvm.ClassFile.FieldType) { frames := 2, locals := 40, cells := 0, slots := 0 } [.ref (b), .int (zi (ow)), .int (zi (us)), .int (zi (wy)), .int (zi (need)), .int (zi (cap))] (zR D A w) (fun v H => v = none ∧ zR D A (zu w b (.inr (3, [.int (zi (ow)), .int (zi (us)), .int (zi (wy)), .int (zi (need)), .int (zi (cap))]))) H) := by
  refine zM.mk (by decide +kernel) (Nat.le_of_ble_eq_true rfl) ?_
  intro p e s m below meth c ls X0 hR hl
  obtain ⟨hx, hb, hml, hr, hlocks, hown, hnm, hW, hpre, hA⟩ := X0
  have X : zH S A p s m c cX2_init 6 RX2 := ⟨hx, hb, hml, hown, hW, hpre, hA, hZ.2.2.1⟩
  have hT := hZ.1
  have hK := va_K.moved hW.alike hZ.2.1
  have hS : va_S A s.heap s.heap [] := va_S.rf
  have hl : lv_has ls 6 [(0, .ref (b)), (1, .int (zi (ow))), (2, .int (zi (us))), (3, .int (zi (wy))), (4, .int (zi (need))), (5, .int (zi (cap)))] := hl
  skip
  refine lv_aload_n hx hb dX2_init_0 rfl (lv_at hl 0 rfl) ?_
  refine W.objInit hx hb hown (q_507 hT hW) (q_28 hT hW) (q_29 hT hW) rfl (by rw [hml]; exact hl.1) rfl dX2_init_1 (Nat.le_of_ble_eq_true rfl) (Nat.le_of_ble_eq_true rfl) ?_
  refine W.eq (g2 := F0 m 4 ls []) rfl ?_
  refine lv_aload_n hx hb dX2_init_4 rfl (lv_at hl 0 rfl) ?_
  refine lv_iload_n hx hb dX2_init_5 rfl (lv_at hl 1 rfl) ?_
  refine z_putF hx hb (q_wsX2 hT hW) tyX2 tyX2_ok nmX2 hown hK hR hS hb0 rfl 0 (by decide) (q_508 hT hW) (fun _ h => h) rfl hnm rfl (tyX2_ok 0 (by decide)) rfl rfl (Nat.le_of_ble_eq_true rfl) dX2_init_6 (fun H locs hR hS => ?_)
  have hR : zR D A (zu w (b) (.inr (3, [.int (zi (ow)), .int (zi (0)), .int (zi (0)), .int (zi (0)), .int (zi (0))]))) H := hR
  have he_1 : (zu w (b) (.inr (3, [.int (zi (ow)), .int (zi (0)), .int (zi (0)), .int (zi (0)), .int (zi (0))]))) (b) = some (.inr (3, [.int (zi (ow)), .int (zi (0)), .int (zi (0)), .int (zi (0)), .int (zi (0))])) := zu_eq
  refine lv_aload_n hx hb dX2_init_9 rfl (lv_at hl 0 rfl) ?_
  refine lv_iload_n hx hb dX2_init_10 rfl (lv_at hl 2 rfl) ?_
  refine z_putF hx hb (q_wsX2 hT hW) tyX2 tyX2_ok nmX2 hown hK hR hS he_1 rfl 1 (by decide) (q_509 hT hW) (fun _ h => h) rfl hnm rfl (tyX2_ok 1 (by decide)) rfl rfl (Nat.le_of_ble_eq_true rfl) dX2_init_11 (fun H locs hR hS => ?_)
  rw [zu_zu] at hR
  have hR : zR D A (zu w (b) (.inr (3, [.int (zi (ow)), .int (zi (us)), .int (zi (0)), .int (zi (0)), .int (zi (0))]))) H := hR
  have he_2 : (zu w (b) (.inr (3, [.int (zi (ow)), .int (zi (us)), .int (zi (0)), .int (zi (0)), .int (zi (0))]))) (b) = some (.inr (3, [.int (zi (ow)), .int (zi (us)), .int (zi (0)), .int (zi (0)), .int (zi (0))])) := zu_eq
  refine lv_aload_n hx hb dX2_init_14 rfl (lv_at hl 0 rfl) ?_
  refine lv_iload_n hx hb dX2_init_15 rfl (lv_at hl 3 rfl) ?_
  refine z_putF hx hb (q_wsX2 hT hW) tyX2 tyX2_ok nmX2 hown hK hR hS he_2 rfl 2 (by decide) (q_510 hT hW) (fun _ h => h) rfl hnm rfl (tyX2_ok 2 (by decide)) rfl rfl (Nat.le_of_ble_eq_true rfl) dX2_init_16 (fun H locs hR hS => ?_)
  rw [zu_zu] at hR
  have hR : zR D A (zu w (b) (.inr (3, [.int (zi (ow)), .int (zi (us)), .int (zi (wy)), .int (zi (0)), .int (zi (0))]))) H := hR
  have he_3 : (zu w (b) (.inr (3, [.int (zi (ow)), .int (zi (us)), .int (zi (wy)), .int (zi (0)), .int (zi (0))]))) (b) = some (.inr (3, [.int (zi (ow)), .int (zi (us)), .int (zi (wy)), .int (zi (0)), .int (zi (0))])) := zu_eq
  refine lv_aload_n hx hb dX2_init_19 rfl (lv_at hl 0 rfl) ?_
  refine lv_iload hx hb dX2_init_20 (lv_at hl 4 rfl) ?_
  refine z_putF hx hb (q_wsX2 hT hW) tyX2 tyX2_ok nmX2 hown hK hR hS he_3 rfl 3 (by decide) (q_511 hT hW) (fun _ h => h) rfl hnm rfl (tyX2_ok 3 (by decide)) rfl rfl (Nat.le_of_ble_eq_true rfl) dX2_init_22 (fun H locs hR hS => ?_)
  rw [zu_zu] at hR
  have hR : zR D A (zu w (b) (.inr (3, [.int (zi (ow)), .int (zi (us)), .int (zi (wy)), .int (zi (need)), .int (zi (0))]))) H := hR
  have he_4 : (zu w (b) (.inr (3, [.int (zi (ow)), .int (zi (us)), .int (zi (wy)), .int (zi (need)), .int (zi (0))]))) (b) = some (.inr (3, [.int (zi (ow)), .int (zi (us)), .int (zi (wy)), .int (zi (need)), .int (zi (0))])) := zu_eq
  refine lv_aload_n hx hb dX2_init_25 rfl (lv_at hl 0 rfl) ?_
  refine lv_iload hx hb dX2_init_26 (lv_at hl 5 rfl) ?_
  refine z_putF hx hb (q_wsX2 hT hW) tyX2 tyX2_ok nmX2 hown hK hR hS he_4 rfl 4 (by decide) (q_512 hT hW) (fun _ h => h) rfl hnm rfl (tyX2_ok 4 (by decide)) rfl rfl (Nat.le_of_ble_eq_true rfl) dX2_init_28 (fun H locs hR hS => ?_)
  rw [zu_zu] at hR
  have hR : zR D A (zu w (b) (.inr (3, [.int (zi (ow)), .int (zi (us)), .int (zi (wy)), .int (zi (need)), .int (zi (cap))]))) H := hR
  have he_5 : (zu w (b) (.inr (3, [.int (zi (ow)), .int (zi (us)), .int (zi (wy)), .int (zi (need)), .int (zi (cap))]))) (b) = some (.inr (3, [.int (zi (ow)), .int (zi (us)), .int (zi (wy)), .int (zi (need)), .int (zi (cap))])) := zu_eq
  exact z_vret hx hb hr hlocks hS (by decide) (by decide) dX2_init_31 ⟨rfl, hR⟩
set_option maxHeartbeats 4000000 in
set_option maxRecDepth 100000 in
theorem c_X2_reward (l : Launch) {S : State} {D : va_G} {tc : Nat → ClassId} {A : Nat → Prop} {dz : Nat} (hZ : zB S D tc A dz) {w : zW} {b : Nat} {ow us wy need cap : Int} (hb0 : w b = some (.inr (3, [.int (zi (ow)), .int (zi (us)), .int (zi (wy)), .int (zi (need)), .int (zi (cap))]))) (h0 : 0 ≤ wy ∧ wy ≤ 1000 ∧ 0 ≤ need ∧ need ≤ 1000 ∧ 0 ≤ cap ∧ cap ≤ 1000) : zM l S A yX2_reward cX2_reward 1 (Option.some Jvm.ClassFile.FieldType.int) { frames := 1, locals := 20, cells := 0, slots := 0 } [.ref (b)] (zR D A w) (fun v H => v = some (.int (zi (min (10 * wy + 5 * need) cap))) ∧ zR D A w H) := by
  refine zM.mk (by decide +kernel) (Nat.le_of_ble_eq_true rfl) ?_
  intro p e s m below meth c ls X0 hR hl
  obtain ⟨hx, hb, hml, hr, hlocks, hown, hnm, hW, hpre, hA⟩ := X0
  have X : zH S A p s m c cX2_reward 1 RX2 := ⟨hx, hb, hml, hown, hW, hpre, hA, hZ.2.2.1⟩
  have hT := hZ.1
  have hK := va_K.moved hW.alike hZ.2.1
  have hS : va_S A s.heap s.heap [] := va_S.rf
  have hl : lv_has ls 1 [(0, .ref (b))] := hl
  skip
  refine lv_bipush (v := zi (10)) hx hb dX2_reward_0 rfl ?_
  refine lv_aload_n hx hb dX2_reward_2 rfl (lv_at hl 0 rfl) ?_
  refine z_get hx hb (q_wsX2 hT hW) hown hK hR hb0 rfl 2 (by decide) (q_510 hT hW) (fun _ h => h) rfl dX2_reward_3 ?_
  refine z_imul (a := 10) (b := wy) hx hb dX2_reward_6 ?_
  refine lv_iconst (v := zi (5)) hx hb dX2_reward_7 rfl ?_
  refine lv_aload_n hx hb dX2_reward_8 rfl (lv_at hl 0 rfl) ?_
  refine z_get hx hb (q_wsX2 hT hW) hown hK hR hb0 rfl 3 (by decide) (q_511 hT hW) (fun _ h => h) rfl dX2_reward_9 ?_
  refine z_imul (a := 5) (b := need) hx hb dX2_reward_12 ?_
  refine z_iadd (a := (10 * wy)) (b := (5 * need)) hx hb dX2_reward_13 ?_
  refine lv_aload_n hx hb dX2_reward_14 rfl (lv_at hl 0 rfl) ?_
  refine z_get hx hb (q_wsX2 hT hW) hown hK hR hb0 rfl 4 (by decide) (q_512 hT hW) (fun _ h => h) rfl dX2_reward_15 ?_
  refine z_min (a := ((10 * wy) + (5 * need))) (b := cap) hT X hl.1 (q_538 hT hW) (by omega) (Nat.le_of_ble_eq_true rfl) (Nat.le_of_ble_eq_true rfl) (Nat.le_of_ble_eq_true rfl) (Nat.le_of_ble_eq_true rfl) dX2_reward_18 ?_
  exact z_iret hx hb hr hlocks hS (by decide) (by decide) dX2_reward_21 ⟨rfl, hR⟩
set_option maxHeartbeats 4000000 in
set_option maxRecDepth 100000 in
theorem c_X2_shareOf (l : Launch) {S : State} {D : va_G} {tc : Nat → ClassId} {A : Nat → Prop} {dz : Nat} (hZ : zB S D tc A dz) {w : zW} {b : Nat} {ow us wy need cap : Int} (hb0 : w b = some (.inr (3, [.int (zi (ow)), .int (zi (us)), .int (zi (wy)), .int (zi (need)), .int (zi (cap))]))) (h0 : 0 ≤ wy ∧ wy ≤ 1000 ∧ 0 ≤ need ∧ need ≤ 1000 ∧ 0 ≤ cap ∧ cap ≤ 1000) {cb : Int} (h1 : 0 ≤ cb ∧ cb ≤ 2 ∧ 0 ≤ ow ∧ ow ≤ 2 ∧ 0 ≤ us ∧ us ≤ 2) : zM l S A yX2_shareOf cX2_shareOf 5 (Option.some Jvm.ClassFile.FieldType.int) { frames := 2, locals := 50, cells := 0, slots := 0 } [.ref (b), .int (zi (cb))] (zR D A w) (fun v H => v = some (.int (zi (zshare ow us (min (10 * wy + 5 * need) cap) cb))) ∧ zR D A w H) := by
  refine zM.mk (by decide +kernel) (Nat.le_of_ble_eq_true rfl) ?_
  intro p e s m below meth c ls X0 hR hl
  obtain ⟨hx, hb, hml, hr, hlocks, hown, hnm, hW, hpre, hA⟩ := X0
  have X : zH S A p s m c cX2_shareOf 5 RX2 := ⟨hx, hb, hml, hown, hW, hpre, hA, hZ.2.2.1⟩
  have hT := hZ.1
  have hK := va_K.moved hW.alike hZ.2.1
  have hS : va_S A s.heap s.heap [] := va_S.rf
  have hl : lv_has ls 5 [(0, .ref (b)), (1, .int (zi (cb)))] := hl
  skip
  refine lv_aload_n hx hb dX2_shareOf_0 rfl (lv_at hl 0 rfl) ?_
  refine z_invV (n := 0) (C := RX2) (c_X2_reward l hZ hb0 h0) X hS hR hl.1 (q_537 hT hW) (q_21 hT hW) (q_534 hT hW) (q_535 hT hW) (q_536 hT hW) (z_recv hK hR hb0 rfl) (by decide +kernel) rfl ⟨Nat.le_of_ble_eq_true rfl, Nat.le_of_ble_eq_true rfl⟩ ⟨Nat.le_of_ble_eq_true rfl, Nat.le_of_ble_eq_true rfl⟩ (Nat.le_of_ble_eq_true rfl) dX2_shareOf_1 (fun v H locs hv hS => ?_) rfl
  obtain ⟨rfl, hR⟩ := hv
  refine lv_istore_n (lv' := [(2, .int (zi ((min (10 * wy + 5 * need) cap)))), (0, .ref (b)), (1, .int (zi (cb)))]) hx hb dX2_shareOf_4 rfl hl (by decide) rfl (fun ls hl => ?_)
  refine lv_aload_n hx hb dX2_shareOf_5 rfl (lv_at hl 1 rfl) ?_
  refine z_get hx hb (q_wsX2 hT hW) hown hK hR hb0 rfl 0 (by decide) (q_508 hT hW) (fun _ h => h) rfl dX2_shareOf_6 ?_
  refine lv_aload_n hx hb dX2_shareOf_9 rfl (lv_at hl 1 rfl) ?_
  refine z_get hx hb (q_wsX2 hT hW) hown hK hR hb0 rfl 1 (by decide) (q_509 hT hW) (fun _ h => h) rfl dX2_shareOf_10 ?_
  refine z_icmp_ne (a := ow) (b := us) (tgt := 20) hx hb dX2_shareOf_13 (by decide) (by omega) (fun h_13 => ?_) (fun h_13 => ?_)
  · skip
    refine lv_iload_n hx hb dX2_shareOf_20 rfl (lv_at hl 0 rfl) ?_
    refine lv_iconst (v := zi (2)) hx hb dX2_shareOf_21 rfl ?_
    refine z_idiv (a := (min (10 * wy + 5 * need) cap)) (b := 2) hx hb dX2_shareOf_22 (by omega) ?_
    refine lv_istore_n (lv' := [(3, .int (zi (((min (10 * wy + 5 * need) cap) / 2)))), (2, .int (zi ((min (10 * wy + 5 * need) cap)))), (0, .ref (b)), (1, .int (zi (cb)))]) hx hb dX2_shareOf_23 rfl hl (by decide) rfl (fun ls hl => ?_)
    refine lv_iload_n hx hb dX2_shareOf_24 rfl (lv_at hl 3 rfl) ?_
    refine lv_aload_n hx hb dX2_shareOf_25 rfl (lv_at hl 2 rfl) ?_
    refine z_get hx hb (q_wsX2 hT hW) hown hK hR hb0 rfl 0 (by decide) (q_508 hT hW) (fun _ h => h) rfl dX2_shareOf_26 ?_
    refine z_icmp_ne (a := cb) (b := ow) (tgt := 36) hx hb dX2_shareOf_29 (by decide) (by omega) (fun h_29 => ?_) (fun h_29 => ?_)
    · skip
      refine lv_iconst (v := zi (0)) hx hb dX2_shareOf_36 rfl ?_
      refine lv_istore (lv' := [(4, .int (zi (0))), (3, .int (zi (((min (10 * wy + 5 * need) cap) / 2)))), (2, .int (zi ((min (10 * wy + 5 * need) cap)))), (0, .ref (b)), (1, .int (zi (cb)))]) hx hb dX2_shareOf_37 hl (by decide) rfl (fun ls hl => ?_)
      refine lv_iload_n hx hb dX2_shareOf_39 rfl (lv_at hl 4 rfl) ?_
      refine lv_aload_n hx hb dX2_shareOf_40 rfl (lv_at hl 3 rfl) ?_
      refine z_get hx hb (q_wsX2 hT hW) hown hK hR hb0 rfl 1 (by decide) (q_509 hT hW) (fun _ h => h) rfl dX2_shareOf_41 ?_
      refine z_icmp_ne (a := cb) (b := us) (tgt := 56) hx hb dX2_shareOf_44 (by decide) (by omega) (fun h_44 => ?_) (fun h_44 => ?_)
      · skip
        refine lv_iload hx hb dX2_shareOf_56 (lv_at hl 0 rfl) ?_
        exact z_iret hx hb hr hlocks hS (by decide) (by decide) dX2_shareOf_58 ⟨by rw [show zshare ow us (min (10 * wy + 5 * need) cap) cb = 0 from by unfold zshare zown; omega], hR⟩
      · skip
        refine lv_iload hx hb dX2_shareOf_47 (lv_at hl 0 rfl) ?_
        refine lv_iload_n hx hb dX2_shareOf_49 rfl (lv_at hl 2 rfl) ?_
        refine z_iadd (a := 0) (b := (min (10 * wy + 5 * need) cap)) hx hb dX2_shareOf_50 ?_
        refine lv_iload_n hx hb dX2_shareOf_51 rfl (lv_at hl 1 rfl) ?_
        refine z_isub (a := (0 + (min (10 * wy + 5 * need) cap))) (b := ((min (10 * wy + 5 * need) cap) / 2)) hx hb dX2_shareOf_52 ?_
        refine lv_goto (tgt := 58) hx hb dX2_shareOf_53 (by decide) ?_
        exact z_iret hx hb hr hlocks hS (by decide) (by decide) dX2_shareOf_58 ⟨by rw [show zshare ow us (min (10 * wy + 5 * need) cap) cb = ((0 + (min (10 * wy + 5 * need) cap)) - ((min (10 * wy + 5 * need) cap) / 2)) from by unfold zshare zown; omega], hR⟩
    · skip
      refine lv_iload_n hx hb dX2_shareOf_32 rfl (lv_at hl 0 rfl) ?_
      refine lv_goto (tgt := 37) hx hb dX2_shareOf_33 (by decide) ?_
      refine lv_istore (lv' := [(4, .int (zi (((min (10 * wy + 5 * need) cap) / 2)))), (3, .int (zi (((min (10 * wy + 5 * need) cap) / 2)))), (2, .int (zi ((min (10 * wy + 5 * need) cap)))), (0, .ref (b)), (1, .int (zi (cb)))]) hx hb dX2_shareOf_37 hl (by decide) rfl (fun ls hl => ?_)
      refine lv_iload_n hx hb dX2_shareOf_39 rfl (lv_at hl 4 rfl) ?_
      refine lv_aload_n hx hb dX2_shareOf_40 rfl (lv_at hl 3 rfl) ?_
      refine z_get hx hb (q_wsX2 hT hW) hown hK hR hb0 rfl 1 (by decide) (q_509 hT hW) (fun _ h => h) rfl dX2_shareOf_41 ?_
      refine z_icmp_ne (a := cb) (b := us) (tgt := 56) hx hb dX2_shareOf_44 (by decide) (by omega) (fun h_44 => ?_) (fun h_44 => ?_)
      · skip
        refine lv_iload hx hb dX2_shareOf_56 (lv_at hl 0 rfl) ?_
        exact z_iret hx hb hr hlocks hS (by decide) (by decide) dX2_shareOf_58 ⟨by rw [show zshare ow us (min (10 * wy + 5 * need) cap) cb = ((min (10 * wy + 5 * need) cap) / 2) from by unfold zshare zown; omega], hR⟩
      · skip
        refine lv_iload hx hb dX2_shareOf_47 (lv_at hl 0 rfl) ?_
        refine lv_iload_n hx hb dX2_shareOf_49 rfl (lv_at hl 2 rfl) ?_
        refine z_iadd (a := ((min (10 * wy + 5 * need) cap) / 2)) (b := (min (10 * wy + 5 * need) cap)) hx hb dX2_shareOf_50 ?_
        refine lv_iload_n hx hb dX2_shareOf_51 rfl (lv_at hl 1 rfl) ?_
        refine z_isub (a := (((min (10 * wy + 5 * need) cap) / 2) + (min (10 * wy + 5 * need) cap))) (b := ((min (10 * wy + 5 * need) cap) / 2)) hx hb dX2_shareOf_52 ?_
        refine lv_goto (tgt := 58) hx hb dX2_shareOf_53 (by decide) ?_
        exact z_iret hx hb hr hlocks hS (by decide) (by decide) dX2_shareOf_58 ⟨by rw [show zshare ow us (min (10 * wy + 5 * need) cap) cb = ((((min (10 * wy + 5 * need) cap) / 2) + (min (10 * wy + 5 * need) cap)) - ((min (10 * wy + 5 * need) cap) / 2)) from by unfold zshare zown; omega], hR⟩
  · skip
    refine lv_iload_n hx hb dX2_shareOf_16 rfl (lv_at hl 0 rfl) ?_
    refine lv_goto (tgt := 23) hx hb dX2_shareOf_17 (by decide) ?_
    refine lv_istore_n (lv' := [(3, .int (zi ((min (10 * wy + 5 * need) cap)))), (2, .int (zi ((min (10 * wy + 5 * need) cap)))), (0, .ref (b)), (1, .int (zi (cb)))]) hx hb dX2_shareOf_23 rfl hl (by decide) rfl (fun ls hl => ?_)
    refine lv_iload_n hx hb dX2_shareOf_24 rfl (lv_at hl 3 rfl) ?_
    refine lv_aload_n hx hb dX2_shareOf_25 rfl (lv_at hl 2 rfl) ?_
    refine z_get hx hb (q_wsX2 hT hW) hown hK hR hb0 rfl 0 (by decide) (q_508 hT hW) (fun _ h => h) rfl dX2_shareOf_26 ?_
    refine z_icmp_ne (a := cb) (b := ow) (tgt := 36) hx hb dX2_shareOf_29 (by decide) (by omega) (fun h_29 => ?_) (fun h_29 => ?_)
    · skip
      refine lv_iconst (v := zi (0)) hx hb dX2_shareOf_36 rfl ?_
      refine lv_istore (lv' := [(4, .int (zi (0))), (3, .int (zi ((min (10 * wy + 5 * need) cap)))), (2, .int (zi ((min (10 * wy + 5 * need) cap)))), (0, .ref (b)), (1, .int (zi (cb)))]) hx hb dX2_shareOf_37 hl (by decide) rfl (fun ls hl => ?_)
      refine lv_iload_n hx hb dX2_shareOf_39 rfl (lv_at hl 4 rfl) ?_
      refine lv_aload_n hx hb dX2_shareOf_40 rfl (lv_at hl 3 rfl) ?_
      refine z_get hx hb (q_wsX2 hT hW) hown hK hR hb0 rfl 1 (by decide) (q_509 hT hW) (fun _ h => h) rfl dX2_shareOf_41 ?_
      refine z_icmp_ne (a := cb) (b := us) (tgt := 56) hx hb dX2_shareOf_44 (by decide) (by omega) (fun h_44 => ?_) (fun h_44 => ?_)
      · skip
        refine lv_iload hx hb dX2_shareOf_56 (lv_at hl 0 rfl) ?_
        exact z_iret hx hb hr hlocks hS (by decide) (by decide) dX2_shareOf_58 ⟨by rw [show zshare ow us (min (10 * wy + 5 * need) cap) cb = 0 from by unfold zshare zown; omega], hR⟩
      · skip
        refine lv_iload hx hb dX2_shareOf_47 (lv_at hl 0 rfl) ?_
        refine lv_iload_n hx hb dX2_shareOf_49 rfl (lv_at hl 2 rfl) ?_
        refine z_iadd (a := 0) (b := (min (10 * wy + 5 * need) cap)) hx hb dX2_shareOf_50 ?_
        refine lv_iload_n hx hb dX2_shareOf_51 rfl (lv_at hl 1 rfl) ?_
        refine z_isub (a := (0 + (min (10 * wy + 5 * need) cap))) (b := (min (10 * wy + 5 * need) cap)) hx hb dX2_shareOf_52 ?_
        refine lv_goto (tgt := 58) hx hb dX2_shareOf_53 (by decide) ?_
        exact z_iret hx hb hr hlocks hS (by decide) (by decide) dX2_shareOf_58 ⟨by rw [show zshare ow us (min (10 * wy + 5 * need) cap) cb = ((0 + (min (10 * wy + 5 * need) cap)) - (min (10 * wy + 5 * need) cap)) from by unfold zshare zown; omega], hR⟩
    · skip
      refine lv_iload_n hx hb dX2_shareOf_32 rfl (lv_at hl 0 rfl) ?_
      refine lv_goto (tgt := 37) hx hb dX2_shareOf_33 (by decide) ?_
      refine lv_istore (lv' := [(4, .int (zi ((min (10 * wy + 5 * need) cap)))), (3, .int (zi ((min (10 * wy + 5 * need) cap)))), (2, .int (zi ((min (10 * wy + 5 * need) cap)))), (0, .ref (b)), (1, .int (zi (cb)))]) hx hb dX2_shareOf_37 hl (by decide) rfl (fun ls hl => ?_)
      refine lv_iload_n hx hb dX2_shareOf_39 rfl (lv_at hl 4 rfl) ?_
      refine lv_aload_n hx hb dX2_shareOf_40 rfl (lv_at hl 3 rfl) ?_
      refine z_get hx hb (q_wsX2 hT hW) hown hK hR hb0 rfl 1 (by decide) (q_509 hT hW) (fun _ h => h) rfl dX2_shareOf_41 ?_
      refine z_icmp_ne (a := cb) (b := us) (tgt := 56) hx hb dX2_shareOf_44 (by decide) (by omega) (fun h_44 => ?_) (fun h_44 => ?_)
      · skip
        refine lv_iload hx hb dX2_shareOf_56 (lv_at hl 0 rfl) ?_
        exact z_iret hx hb hr hlocks hS (by decide) (by decide) dX2_shareOf_58 ⟨by rw [show zshare ow us (min (10 * wy + 5 * need) cap) cb = (min (10 * wy + 5 * need) cap) from by unfold zshare zown; omega], hR⟩
      · skip
        refine lv_iload hx hb dX2_shareOf_47 (lv_at hl 0 rfl) ?_
        refine lv_iload_n hx hb dX2_shareOf_49 rfl (lv_at hl 2 rfl) ?_
        refine z_iadd (a := (min (10 * wy + 5 * need) cap)) (b := (min (10 * wy + 5 * need) cap)) hx hb dX2_shareOf_50 ?_
        refine lv_iload_n hx hb dX2_shareOf_51 rfl (lv_at hl 1 rfl) ?_
        refine z_isub (a := ((min (10 * wy + 5 * need) cap) + (min (10 * wy + 5 * need) cap))) (b := (min (10 * wy + 5 * need) cap)) hx hb dX2_shareOf_52 ?_
        refine lv_goto (tgt := 58) hx hb dX2_shareOf_53 (by decide) ?_
        exact z_iret hx hb hr hlocks hS (by decide) (by decide) dX2_shareOf_58 ⟨by rw [show zshare ow us (min (10 * wy + 5 * need) cap) cb = (((min (10 * wy + 5 * need) cap) + (min (10 * wy + 5 * need) cap)) - (min (10 * wy + 5 * need) cap)) from by unfold zshare zown; omega], hR⟩

