theorem zIn_25 {u : zS_} {x : Int} (h : zIn u) : zIn (ms u 25 0 x) := h
set_option maxHeartbeats 4000000 in
set_option maxRecDepth 100000 in
theorem c_X6_pass (l : Launch) {S : State} {D : va_G} {tc : Nat → ClassId} {A : Nat → Prop} {dz : Nat} (hZ : zB S D tc A dz) {m0 : Nat} {aM : Nat → Nat} {u : zS_} {n : Int} (h0 : -2147483648 ≤ n ∧ n ≤ 2147483647) (hI : zIn u) : zM l S A yX6_pass cX6_pass 3 (Option.some Jvm.ClassFile.FieldType.int) { frames := 7, locals := 200, cells := 0, slots := 0 } [.ref m0, .int (zi (n))] (mH D tc A m0 aM u) (fun v H => v = some (.int (zi (if 0 < mcPass u n then -1 else mpass (ms u 25 0 0) n.toNat 24 0))) ∧ mH D tc A m0 aM (if 0 < mcPass u n then ms u 25 0 (mcPass u n) else mpass (ms u 25 0 0) n.toNat) H) := by
  refine zM.mk (by decide +kernel) (Nat.le_of_ble_eq_true rfl) ?_
  intro p e s m below meth c ls X0 hR hl
  obtain ⟨hx, hb, hml, hr, hlocks, hown, hnm, hW, hpre, hA⟩ := X0
  have X : zH S A p s m c cX6_pass 3 RX6 := ⟨hx, hb, hml, hown, hW, hpre, hA, hZ.2.2.1⟩
  have hT := hZ.1
  have hK := va_K.moved hW.alike hZ.2.1
  have hS : va_S A s.heap s.heap [] := va_S.rf
  have hl : lv_has ls 3 [(0, .ref m0), (1, .int (zi (n)))] := hl
  skip
  have hI1 := hI.1
  refine lv_aload_n hx hb dX6_pass_0 rfl (lv_at hl 0 rfl) ?_
  have J33 : ∀ (x : Int) (H : Heap) (locs : List Loc) (ls : Array Slot), x = (mcPass u n) → mH D tc A m0 aM u H → va_S A s.heap H locs → lv_has ls 3 [(0, .ref m0), (1, .int (zi (n)))] → W p l e { frames := 7, locals := 200, cells := 0, slots := 0 } s m ([.ref m0, .int (zi (n))] : List Value).toArray below meth c H locs 0 0 (MQ below (zQ A (fun v H => v = some (.int (zi (if 0 < mcPass u n then -1 else mpass (ms u 25 0 0) n.toNat 24 0))) ∧ mH D tc A m0 aM (if 0 < mcPass u n then ms u 25 0 (mcPass u n) else mpass (ms u 25 0 0) n.toNat) H)) ([.ref m0, .int (zi (n))] : List Value).toArray s ({ frames := 7, locals := 200, cells := 0, slots := 0 } : Room).cells ({ frames := 7, locals := 200, cells := 0, slots := 0 } : Room).slots A) (F0 m 33 ls [.int (zi (x)), .ref m0]) := by
    intro x H locs ls hxe hR hS hl
    have hxu := hxe
    unfold mcPass at hxu
    refine z_invV (n := 1) (C := RX6) (c_X6_fails l hZ (u := u) (k := x) (by omega)) X hS hR hl.1 (q_758 hT hW) (q_7 hT hW) (q_755 hT hW) (q_757 hT hW) (q_p18 hT hW) (m_recv hK hR) (by decide +kernel) rfl ⟨Nat.le_of_ble_eq_true rfl, Nat.le_of_ble_eq_true rfl⟩ ⟨Nat.le_of_ble_eq_true rfl, Nat.le_of_ble_eq_true rfl⟩ (Nat.le_of_ble_eq_true rfl) dX6_pass_33 (fun v H locs hv hS => ?_) rfl
    obtain ⟨rfl, hR⟩ := hv
    refine z_if_eq (a := (if 0 < x then 1 else 0)) (tgt := 41) hx hb dX6_pass_36 (by decide) (by omega) (fun h_36 => ?_) (fun h_36 => ?_)
    · skip
      have hx0 : x = 0 := by omega
      subst hx0
      have hI0 : zIn (ms u 25 0 0) := zIn_25 hI
      have hn6 : 1 ≤ n ∧ n ≤ 48 ∧ u 24 0 + n ≤ 999 := by omega
      refine lv_iconst (v := zi (0)) hx hb dX6_pass_41 rfl ?_
      refine lv_istore_n (lv' := [(2, .int (zi (0))), (0, .ref m0), (1, .int (zi (n)))]) hx hb dX6_pass_42 rfl hl (by decide) rfl (fun ls hl => ?_)
      suffices K : ∀ (fu : Nat) (bn : Nat) (H : Heap) (locs : List Loc) (ls : Array Slot), (n.toNat - bn) < fu → ((bn : Int) ≤ n) → mH D tc A m0 aM (mpass (ms u 25 0 0) bn) H → va_S A s.heap H locs → lv_has ls 3 [(2, .int (zi ((bn : Int)))), (0, .ref m0), (1, .int (zi (n)))] → W p l e { frames := 7, locals := 200, cells := 0, slots := 0 } s m ([.ref m0, .int (zi (n))] : List Value).toArray below meth c H locs 0 0 (MQ below (zQ A (fun v H => v = some (.int (zi (if 0 < mcPass u n then -1 else mpass (ms u 25 0 0) n.toNat 24 0))) ∧ mH D tc A m0 aM (if 0 < mcPass u n then ms u 25 0 (mcPass u n) else mpass (ms u 25 0 0) n.toNat) H)) ([.ref m0, .int (zi (n))] : List Value).toArray s ({ frames := 7, locals := 200, cells := 0, slots := 0 } : Room).cells ({ frames := 7, locals := 200, cells := 0, slots := 0 } : Room).slots A) (F0 m 43 ls []) from K _ 0 _ _ _ (Nat.lt_succ_self _) (by omega) hR hS (lv_sub hl [0, 1, 2] rfl)
      intro fu
      induction fu with
      | zero => intro bn H locs ls hm; exact absurd hm (Nat.not_lt_zero _)
      | succ fu ih43 =>
        intro bn H locs ls hm hbn hR hS hl
        have dp := zIn_mpass hI0 bn (by show u 24 0 + (bn : Int) ≤ 999; omega)
        have dp1 := dp.1.1
        refine lv_iload_n hx hb dX6_pass_43 rfl (lv_at hl 0 rfl) ?_
        refine lv_iload_n hx hb dX6_pass_44 rfl (lv_at hl 2 rfl) ?_
        refine z_icmp_ge (a := (bn : Int)) (b := n) (tgt := 58) hx hb dX6_pass_45 (by decide) (by omega) (fun h_45 => ?_) (fun h_45 => ?_)
        · skip
          refine lv_aload_n hx hb dX6_pass_58 rfl (lv_at hl 1 rfl) ?_
          refine m_get hx hb (q_wsX6 hT hW) hown hK hR 24 (by decide) (q_688 hT hW) (fun _ h => h) (v := .int (zi ((mpass (ms u 25 0 0) bn) 24 0))) (congrArg (fun z : Int => some (Value.int (zi z))) rfl) dX6_pass_59 ?_
          exact z_iret hx hb hr hlocks hS (by decide) (by decide) dX6_pass_62 ⟨by rw [← hxe, if_neg (Int.lt_irrefl 0), show n.toNat = bn by omega], by rw [← hxe, if_neg (Int.lt_irrefl 0), show n.toNat = bn by omega]; exact hR⟩
        · skip
          refine lv_aload_n hx hb dX6_pass_48 rfl (lv_at hl 1 rfl) ?_
          refine z_invV (n := 0) (C := RX6) (c_X6_goes l hZ (u := mpass (ms u 25 0 0) bn) dp.1 (by rw [dp.2.1]; show u 24 0 + (bn : Int) < 999; omega)) X hS hR hl.1 (q_786 hT hW) (q_7 hT hW) (q_783 hT hW) (q_785 hT hW) (q_p20 hT hW) (m_recv hK hR) (by decide +kernel) rfl ⟨Nat.le_of_ble_eq_true rfl, Nat.le_of_ble_eq_true rfl⟩ ⟨Nat.le_of_ble_eq_true rfl, Nat.le_of_ble_eq_true rfl⟩ (Nat.le_of_ble_eq_true rfl) dX6_pass_49 (fun v H locs hv hS => ?_) rfl
          obtain ⟨rfl, hR⟩ := hv
          refine z_iinc (a := (bn : Int)) (n := 1) (lv' := [(2, .int (zi (((bn : Int) + 1)))), (0, .ref m0), (1, .int (zi (n)))]) hx hb dX6_pass_52 hl (k := 0) rfl (by decide) rfl (fun ls hl => ?_)
          refine lv_goto (tgt := 43) hx hb dX6_pass_55 (by decide) ?_
          exact ih43 (bn + 1) _ _ _ (by omega) (by omega) hR hS (lv_sub hl [0, 1, 2] rfl)
    · skip
      refine lv_iconst (v := zi (-1)) hx hb dX6_pass_39 rfl ?_
      exact z_iret hx hb hr hlocks hS (by decide) (by decide) dX6_pass_40 ⟨by rw [← hxe, if_pos (show 0 < x by omega)], by rw [← hxe, if_pos (show 0 < x by omega)]; exact hR⟩
  refine lv_aload_n hx hb dX6_pass_1 rfl (lv_at hl 0 rfl) ?_
  refine lv_iload_n hx hb dX6_pass_2 rfl (lv_at hl 1 rfl) ?_
  refine lv_iconst (v := zi (1)) hx hb dX6_pass_3 rfl ?_
  refine lv_bipush (v := zi (48)) hx hb dX6_pass_4 rfl ?_
  refine z_invV (n := 3) (C := RX6) (c_X6_in l hZ (u := u) (a := n) (lo := 1) (hi := 48) (by omega)) X hS hR hl.1 (q_754 hT hW) (q_7 hT hW) (q_751 hT hW) (q_753 hT hW) (q_p17 hT hW) (m_recv hK hR) (by decide +kernel) rfl ⟨Nat.le_of_ble_eq_true rfl, Nat.le_of_ble_eq_true rfl⟩ ⟨Nat.le_of_ble_eq_true rfl, Nat.le_of_ble_eq_true rfl⟩ (Nat.le_of_ble_eq_true rfl) dX6_pass_6 (fun v H locs hv hS => ?_) rfl
  obtain ⟨rfl, hR⟩ := hv
  refine z_if_ne (a := (if 1 ≤ n ∧ n ≤ 48 then 1 else 0)) (tgt := 16) hx hb dX6_pass_9 (by decide) (by omega) (fun h_9 => ?_) (fun h_9 => ?_)
  · skip
    refine lv_aload_n hx hb dX6_pass_16 rfl (lv_at hl 0 rfl) ?_
    refine m_get hx hb (q_wsX6 hT hW) hown hK hR 24 (by decide) (q_688 hT hW) (fun _ h => h) (v := .int (zi (u 24 0))) (congrArg (fun z : Int => some (Value.int (zi z))) rfl) dX6_pass_17 ?_
    refine lv_iload_n hx hb dX6_pass_20 rfl (lv_at hl 1 rfl) ?_
    refine z_iadd (a := (u 24 0)) (b := n) hx hb dX6_pass_21 ?_
    refine lv_sipush (v := zi (999)) hx hb dX6_pass_22 rfl ?_
    refine z_icmp_le (a := ((u 24 0) + n)) (b := 999) (tgt := 32) hx hb dX6_pass_25 (by decide) (by omega) (fun h_25 => ?_) (fun h_25 => ?_)
    · skip
      refine lv_iconst (v := zi (0)) hx hb dX6_pass_32 rfl ?_
      exact J33 _ _ _ _ (by unfold mcPass; omega) hR hS (lv_sub hl [0, 1] rfl)
    · skip
      refine lv_iconst (v := zi (2)) hx hb dX6_pass_28 rfl ?_
      refine lv_goto (tgt := 33) hx hb dX6_pass_29 (by decide) ?_
      exact J33 _ _ _ _ (by unfold mcPass; omega) hR hS (lv_sub hl [0, 1] rfl)
  · skip
    refine lv_iconst (v := zi (1)) hx hb dX6_pass_12 rfl ?_
    refine lv_goto (tgt := 33) hx hb dX6_pass_13 (by decide) ?_
    exact J33 _ _ _ _ (by unfold mcPass; omega) hR hS (lv_sub hl [0, 1] rfl)
set_option maxHeartbeats 4000000 in
set_option maxRecDepth 100000 in
theorem c_X6_foretell (l : Launch) {S : State} {D : va_G} {tc : Nat → ClassId} {A : Nat → Prop} {dz : Nat} (hZ : zB S D tc A dz) {m0 : Nat} {aM : Nat → Nat} {u : zS_} {f t a z st : Int} (h0 : -2147483648 ≤ f ∧ f ≤ 2147483647 ∧ -2147483648 ≤ t ∧ t ≤ 2147483647 ∧ -2147483648 ≤ a ∧ a ≤ 2147483647 ∧ -2147483648 ≤ z ∧ z ≤ 2147483647 ∧ -2147483648 ≤ st ∧ st ≤ 2147483647) (hI : zIn u) : zM l S A yX6_foretell cX6_foretell 11 (Option.some Jvm.ClassFile.FieldType.int) { frames := 3, locals := 80, cells := 0, slots := 0 } [.ref m0, .int (zi (f)), .int (zi (t)), .int (zi (a)), .int (zi (z)), .int (zi (st))] (mH D tc A m0 aM u) (fun v H => v = some (.int (zi (if 0 < mcFore u f t a z st then -1 else (t % 8 - f % 8 + 1) * (t / 8 - f / 8 + 1)))) ∧ mH D tc A m0 aM (if 0 < mcFore u f t a z st then ms u 25 0 (mcFore u f t a z st) else muFore (ms u 25 0 0) f t a z st) H) := by
  refine zM.mk (by decide +kernel) (Nat.le_of_ble_eq_true rfl) ?_
  intro p e s m below meth c ls X0 hR hl
  obtain ⟨hx, hb, hml, hr, hlocks, hown, hnm, hW, hpre, hA⟩ := X0
  have X : zH S A p s m c cX6_foretell 11 RX6 := ⟨hx, hb, hml, hown, hW, hpre, hA, hZ.2.2.1⟩
  have hT := hZ.1
  have hK := va_K.moved hW.alike hZ.2.1
  have hS : va_S A s.heap s.heap [] := va_S.rf
  have hl : lv_has ls 11 [(0, .ref m0), (1, .int (zi (f))), (2, .int (zi (t))), (3, .int (zi (a))), (4, .int (zi (z))), (5, .int (zi (st)))] := hl
  skip
  have hI1 := hI.1
  have J27 : ∀ (x1 : Int) (H : Heap) (locs : List Loc) (ls : Array Slot), x1 = (if (0 ≤ f ∧ f ≤ 47) ∧ (0 ≤ t ∧ t ≤ 47) then 1 else 0) → mH D tc A m0 aM u H → va_S A s.heap H locs → lv_has ls 11 [(0, .ref m0), (1, .int (zi (f))), (2, .int (zi (t))), (3, .int (zi (a))), (4, .int (zi (z))), (5, .int (zi (st)))] → W p l e { frames := 3, locals := 80, cells := 0, slots := 0 } s m ([.ref m0, .int (zi (f)), .int (zi (t)), .int (zi (a)), .int (zi (z)), .int (zi (st))] : List Value).toArray below meth c H locs 0 0 (MQ below (zQ A (fun v H => v = some (.int (zi (if 0 < mcFore u f t a z st then -1 else (t % 8 - f % 8 + 1) * (t / 8 - f / 8 + 1)))) ∧ mH D tc A m0 aM (if 0 < mcFore u f t a z st then ms u 25 0 (mcFore u f t a z st) else muFore (ms u 25 0 0) f t a z st) H)) ([.ref m0, .int (zi (f)), .int (zi (t)), .int (zi (a)), .int (zi (z)), .int (zi (st))] : List Value).toArray s ({ frames := 3, locals := 80, cells := 0, slots := 0 } : Room).cells ({ frames := 3, locals := 80, cells := 0, slots := 0 } : Room).slots A) (F0 m 27 ls [.int (zi (x1))]) := by
    intro x1 H locs ls hx1 hR hS hl
    refine lv_istore (lv' := [(6, .int (zi (x1))), (0, .ref m0), (1, .int (zi (f))), (2, .int (zi (t))), (3, .int (zi (a))), (4, .int (zi (z))), (5, .int (zi (st)))]) hx hb dX6_foretell_27 hl (by decide) rfl (fun ls hl => ?_)
    have J96 : ∀ (x2 : Int) (H : Heap) (locs : List Loc) (ls : Array Slot), (0 ≤ x2 ∧ x2 ≤ 1) ∧ ((0 ≤ f ∧ f ≤ 47) ∧ (0 ≤ t ∧ t ≤ 47) → x2 = if (f % 8 ≤ t % 8 ∧ f / 8 ≤ t / 8 ∧ (u 24 0 ≤ a ∧ a ≤ 999) ∧ (a ≤ z ∧ z ≤ 999) ∧ (0 ≤ st ∧ st ≤ 9)) then 1 else 0) → mH D tc A m0 aM u H → va_S A s.heap H locs → lv_has ls 11 [(6, .int (zi (x1))), (0, .ref m0), (1, .int (zi (f))), (2, .int (zi (t))), (3, .int (zi (a))), (4, .int (zi (z))), (5, .int (zi (st)))] → W p l e { frames := 3, locals := 80, cells := 0, slots := 0 } s m ([.ref m0, .int (zi (f)), .int (zi (t)), .int (zi (a)), .int (zi (z)), .int (zi (st))] : List Value).toArray below meth c H locs 0 0 (MQ below (zQ A (fun v H => v = some (.int (zi (if 0 < mcFore u f t a z st then -1 else (t % 8 - f % 8 + 1) * (t / 8 - f / 8 + 1)))) ∧ mH D tc A m0 aM (if 0 < mcFore u f t a z st then ms u 25 0 (mcFore u f t a z st) else muFore (ms u 25 0 0) f t a z st) H)) ([.ref m0, .int (zi (f)), .int (zi (t)), .int (zi (a)), .int (zi (z)), .int (zi (st))] : List Value).toArray s ({ frames := 3, locals := 80, cells := 0, slots := 0 } : Room).cells ({ frames := 3, locals := 80, cells := 0, slots := 0 } : Room).slots A) (F0 m 96 ls [.int (zi (x2))]) := by
      intro x2 H locs ls hx2 hR hS hl
      refine lv_istore (lv' := [(7, .int (zi (x2))), (6, .int (zi (x1))), (0, .ref m0), (1, .int (zi (f))), (2, .int (zi (t))), (3, .int (zi (a))), (4, .int (zi (z))), (5, .int (zi (st)))]) hx hb dX6_foretell_96 hl (by decide) rfl (fun ls hl => ?_)
      refine lv_aload_n hx hb dX6_foretell_98 rfl (lv_at hl 2 rfl) ?_
      have J118 : ∀ (x : Int) (H : Heap) (locs : List Loc) (ls : Array Slot), x = (mcFore u f t a z st) → mH D tc A m0 aM u H → va_S A s.heap H locs → lv_has ls 11 [(7, .int (zi (x2))), (6, .int (zi (x1))), (0, .ref m0), (1, .int (zi (f))), (2, .int (zi (t))), (3, .int (zi (a))), (4, .int (zi (z))), (5, .int (zi (st)))] → W p l e { frames := 3, locals := 80, cells := 0, slots := 0 } s m ([.ref m0, .int (zi (f)), .int (zi (t)), .int (zi (a)), .int (zi (z)), .int (zi (st))] : List Value).toArray below meth c H locs 0 0 (MQ below (zQ A (fun v H => v = some (.int (zi (if 0 < mcFore u f t a z st then -1 else (t % 8 - f % 8 + 1) * (t / 8 - f / 8 + 1)))) ∧ mH D tc A m0 aM (if 0 < mcFore u f t a z st then ms u 25 0 (mcFore u f t a z st) else muFore (ms u 25 0 0) f t a z st) H)) ([.ref m0, .int (zi (f)), .int (zi (t)), .int (zi (a)), .int (zi (z)), .int (zi (st))] : List Value).toArray s ({ frames := 3, locals := 80, cells := 0, slots := 0 } : Room).cells ({ frames := 3, locals := 80, cells := 0, slots := 0 } : Room).slots A) (F0 m 118 ls [.int (zi (x)), .ref m0]) := by
        intro x H locs ls hxe hR hS hl
        have hxu := hxe
        unfold mcFore at hxu
        refine z_invV (n := 1) (C := RX6) (c_X6_fails l hZ (u := u) (k := x) (by omega)) X hS hR hl.1 (q_758 hT hW) (q_7 hT hW) (q_755 hT hW) (q_757 hT hW) (q_p18 hT hW) (m_recv hK hR) (by decide +kernel) rfl ⟨Nat.le_of_ble_eq_true rfl, Nat.le_of_ble_eq_true rfl⟩ ⟨Nat.le_of_ble_eq_true rfl, Nat.le_of_ble_eq_true rfl⟩ (Nat.le_of_ble_eq_true rfl) dX6_foretell_118 (fun v H locs hv hS => ?_) rfl
        obtain ⟨rfl, hR⟩ := hv
        refine z_if_eq (a := (if 0 < x then 1 else 0)) (tgt := 126) hx hb dX6_foretell_121 (by decide) (by omega) (fun h_121 => ?_) (fun h_121 => ?_)
        · skip
          have hx0 : x = 0 := by omega
          subst hx0
          have hn6 : (0 ≤ f ∧ f ≤ 47) ∧ (0 ≤ t ∧ t ≤ 47) ∧ (f % 8 ≤ t % 8 ∧ f / 8 ≤ t / 8 ∧ (u 24 0 ≤ a ∧ a ≤ 999) ∧ (a ≤ z ∧ z ≤ 999) ∧ (0 ≤ st ∧ st ≤ 9)) := by omega
          refine lv_iconst (v := zi (0)) hx hb dX6_foretell_126 rfl ?_
          refine lv_istore (lv' := [(8, .int (zi (0))), (7, .int (zi (x2))), (6, .int (zi (x1))), (0, .ref m0), (1, .int (zi (f))), (2, .int (zi (t))), (3, .int (zi (a))), (4, .int (zi (z))), (5, .int (zi (st)))]) hx hb dX6_foretell_127 hl (by decide) rfl (fun ls hl => ?_)
          have hR : mH D tc A m0 aM (mfo (ms u 25 0 0) (fun j => mrect f t a z j ∧ (j : Int) / 1000 < ((0 : Nat) : Int)) st) H := by rw [mfo_0 (fun j q => by have := q.2; omega)]; exact hR
          suffices K : ∀ (fu : Nat) (kn : Nat) (H : Heap) (locs : List Loc) (ls : Array Slot), (48 - kn) < fu → ((kn : Int) ≤ 48) → mH D tc A m0 aM (mfo (ms u 25 0 0) (fun j => mrect f t a z j ∧ (j : Int) / 1000 < (kn : Int)) st) H → va_S A s.heap H locs → lv_has ls 11 [(8, .int (zi ((kn : Int)))), (0, .ref m0), (1, .int (zi (f))), (2, .int (zi (t))), (3, .int (zi (a))), (4, .int (zi (z))), (5, .int (zi (st)))] → W p l e { frames := 3, locals := 80, cells := 0, slots := 0 } s m ([.ref m0, .int (zi (f)), .int (zi (t)), .int (zi (a)), .int (zi (z)), .int (zi (st))] : List Value).toArray below meth c H locs 0 0 (MQ below (zQ A (fun v H => v = some (.int (zi (if 0 < mcFore u f t a z st then -1 else (t % 8 - f % 8 + 1) * (t / 8 - f / 8 + 1)))) ∧ mH D tc A m0 aM (if 0 < mcFore u f t a z st then ms u 25 0 (mcFore u f t a z st) else muFore (ms u 25 0 0) f t a z st) H)) ([.ref m0, .int (zi (f)), .int (zi (t)), .int (zi (a)), .int (zi (z)), .int (zi (st))] : List Value).toArray s ({ frames := 3, locals := 80, cells := 0, slots := 0 } : Room).cells ({ frames := 3, locals := 80, cells := 0, slots := 0 } : Room).slots A) (F0 m 129 ls []) from K _ 0 _ _ _ (Nat.lt_succ_self _) (by omega) hR hS (lv_sub hl [0, 3, 4, 5, 6, 7, 8] rfl)
          intro fu
          induction fu with
          | zero => intro kn H locs ls hm; exact absurd hm (Nat.not_lt_zero _)
          | succ fu ih129 =>
            intro kn H locs ls hm hkn hR hS hl
            refine lv_iload hx hb dX6_foretell_129 (lv_at hl 0 rfl) ?_
            refine lv_bipush (v := zi (48)) hx hb dX6_foretell_131 rfl ?_
            refine z_icmp_ge (a := (kn : Int)) (b := 48) (tgt := 227) hx hb dX6_foretell_133 (by decide) (by omega) (fun h_133 => ?_) (fun h_133 => ?_)
            · skip
              have hR : mH D tc A m0 aM (muFore (ms u 25 0 0) f t a z st) H := by rw [show muFore (ms u 25 0 0) f t a z st = mfo (ms u 25 0 0) (fun j => mrect f t a z j ∧ (j : Int) / 1000 < (kn : Int)) st from mfo_c (fun j => ⟨fun q => ⟨q, by have := q.1; omega⟩, fun q => q.1⟩)]; exact hR
              refine lv_iload_n hx hb dX6_foretell_227 rfl (lv_at hl 3 rfl) ?_
              refine lv_bipush (v := zi (8)) hx hb dX6_foretell_228 rfl ?_
              refine z_irem (a := t) (b := 8) hx hb dX6_foretell_230 (by omega) ?_
              refine lv_iload_n hx hb dX6_foretell_231 rfl (lv_at hl 2 rfl) ?_
              refine lv_bipush (v := zi (8)) hx hb dX6_foretell_232 rfl ?_
              refine z_irem (a := f) (b := 8) hx hb dX6_foretell_234 (by omega) ?_
              refine z_isub (a := (t % 8)) (b := (f % 8)) hx hb dX6_foretell_235 ?_
              refine lv_iconst (v := zi (1)) hx hb dX6_foretell_236 rfl ?_
              refine z_iadd (a := ((t % 8) - (f % 8))) (b := 1) hx hb dX6_foretell_237 ?_
              refine lv_iload_n hx hb dX6_foretell_238 rfl (lv_at hl 3 rfl) ?_
              refine lv_bipush (v := zi (8)) hx hb dX6_foretell_239 rfl ?_
              refine z_idiv (a := t) (b := 8) hx hb dX6_foretell_241 (by omega) ?_
              refine lv_iload_n hx hb dX6_foretell_242 rfl (lv_at hl 2 rfl) ?_
              refine lv_bipush (v := zi (8)) hx hb dX6_foretell_243 rfl ?_
              refine z_idiv (a := f) (b := 8) hx hb dX6_foretell_245 (by omega) ?_
              refine z_isub (a := (t / 8)) (b := (f / 8)) hx hb dX6_foretell_246 ?_
              refine lv_iconst (v := zi (1)) hx hb dX6_foretell_247 rfl ?_
              refine z_iadd (a := ((t / 8) - (f / 8))) (b := 1) hx hb dX6_foretell_248 ?_
              refine z_imul (a := (((t % 8) - (f % 8)) + 1)) (b := (((t / 8) - (f / 8)) + 1)) hx hb dX6_foretell_249 ?_
              exact z_iret hx hb hr hlocks hS (by decide) (by decide) dX6_foretell_250 ⟨by rw [← hxe, if_neg (Int.lt_irrefl 0)], by rw [← hxe, if_neg (Int.lt_irrefl 0)]; exact hR⟩
            · skip
              have J181 : ∀ (xi : Int) (H : Heap) (locs : List Loc) (ls : Array Slot), xi = ((if (f % 8 ≤ (kn : Int) % 8 ∧ (kn : Int) % 8 ≤ t % 8) ∧ (f / 8 ≤ (kn : Int) / 8 ∧ (kn : Int) / 8 ≤ t / 8) then 1 else 0)) → mH D tc A m0 aM (mfo (ms u 25 0 0) (fun j => mrect f t a z j ∧ (j : Int) / 1000 < (kn : Int)) st) H → va_S A s.heap H locs → lv_has ls 11 [(8, .int (zi ((kn : Int)))), (0, .ref m0), (1, .int (zi (f))), (2, .int (zi (t))), (3, .int (zi (a))), (4, .int (zi (z))), (5, .int (zi (st)))] → W p l e { frames := 3, locals := 80, cells := 0, slots := 0 } s m ([.ref m0, .int (zi (f)), .int (zi (t)), .int (zi (a)), .int (zi (z)), .int (zi (st))] : List Value).toArray below meth c H locs 0 0 (MQ below (zQ A (fun v H => v = some (.int (zi (if 0 < mcFore u f t a z st then -1 else (t % 8 - f % 8 + 1) * (t / 8 - f / 8 + 1)))) ∧ mH D tc A m0 aM (if 0 < mcFore u f t a z st then ms u 25 0 (mcFore u f t a z st) else muFore (ms u 25 0 0) f t a z st) H)) ([.ref m0, .int (zi (f)), .int (zi (t)), .int (zi (a)), .int (zi (z)), .int (zi (st))] : List Value).toArray s ({ frames := 3, locals := 80, cells := 0, slots := 0 } : Room).cells ({ frames := 3, locals := 80, cells := 0, slots := 0 } : Room).slots A) (F0 m 181 ls [.int (zi (xi))]) := by
                intro xi H locs ls hxi hR hS hl
                refine lv_istore (lv' := [(9, .int (zi (xi))), (8, .int (zi ((kn : Int)))), (0, .ref m0), (1, .int (zi (f))), (2, .int (zi (t))), (3, .int (zi (a))), (4, .int (zi (z))), (5, .int (zi (st)))]) hx hb dX6_foretell_181 hl (by decide) rfl (fun ls hl => ?_)
                refine lv_iload_n hx hb dX6_foretell_183 rfl (lv_at hl 5 rfl) ?_
                refine lv_istore (lv' := [(10, .int (zi (a))), (9, .int (zi (xi))), (8, .int (zi ((kn : Int)))), (0, .ref m0), (1, .int (zi (f))), (2, .int (zi (t))), (3, .int (zi (a))), (4, .int (zi (z))), (5, .int (zi (st)))]) hx hb dX6_foretell_184 hl (by decide) rfl (fun ls hl => ?_)
                have hR : mH D tc A m0 aM (mfo (ms u 25 0 0) (fun j => mrect f t a z j ∧ ((j : Int) / 1000 < (kn : Int) ∨ ((j : Int) / 1000 = (kn : Int) ∧ (j : Int) % 1000 < a))) st) H := by rw [mfo_c (Ql := (fun j => mrect f t a z j ∧ (j : Int) / 1000 < (kn : Int))) (fun j => ⟨fun q => ⟨q.1, by have := q.1.2.2.2.1; omega⟩, fun q => ⟨q.1, Or.inl q.2⟩⟩)]; exact hR
                suffices K : ∀ (fu : Nat) (hh : Int) (H : Heap) (locs : List Loc) (ls : Array Slot), (z + 1 - hh).toNat < fu → (a ≤ hh ∧ hh ≤ z + 1) → mH D tc A m0 aM (mfo (ms u 25 0 0) (fun j => mrect f t a z j ∧ ((j : Int) / 1000 < (kn : Int) ∨ ((j : Int) / 1000 = (kn : Int) ∧ (j : Int) % 1000 < hh))) st) H → va_S A s.heap H locs → lv_has ls 11 [(10, .int (zi (hh))), (9, .int (zi (xi))), (8, .int (zi ((kn : Int)))), (0, .ref m0), (1, .int (zi (f))), (2, .int (zi (t))), (3, .int (zi (a))), (4, .int (zi (z))), (5, .int (zi (st)))] → W p l e { frames := 3, locals := 80, cells := 0, slots := 0 } s m ([.ref m0, .int (zi (f)), .int (zi (t)), .int (zi (a)), .int (zi (z)), .int (zi (st))] : List Value).toArray below meth c H locs 0 0 (MQ below (zQ A (fun v H => v = some (.int (zi (if 0 < mcFore u f t a z st then -1 else (t % 8 - f % 8 + 1) * (t / 8 - f / 8 + 1)))) ∧ mH D tc A m0 aM (if 0 < mcFore u f t a z st then ms u 25 0 (mcFore u f t a z st) else muFore (ms u 25 0 0) f t a z st) H)) ([.ref m0, .int (zi (f)), .int (zi (t)), .int (zi (a)), .int (zi (z)), .int (zi (st))] : List Value).toArray s ({ frames := 3, locals := 80, cells := 0, slots := 0 } : Room).cells ({ frames := 3, locals := 80, cells := 0, slots := 0 } : Room).slots A) (F0 m 186 ls []) from K _ a _ _ _ (Nat.lt_succ_self _) (by omega) hR hS (lv_sub hl [0, 1, 2, 3, 4, 5, 6, 7, 8] rfl)
                intro fu
                induction fu with
                | zero => intro hh H locs ls hm; exact absurd hm (Nat.not_lt_zero _)
                | succ fu ih186 =>
                  intro hh H locs ls hm hhn hR hS hl
                  refine lv_iload hx hb dX6_foretell_186 (lv_at hl 0 rfl) ?_
                  refine lv_iload hx hb dX6_foretell_188 (lv_at hl 7 rfl) ?_
                  refine z_icmp_gt (a := hh) (b := z) (tgt := 221) hx hb dX6_foretell_190 (by decide) (by omega) (fun h_190 => ?_) (fun h_190 => ?_)
                  · skip
                    have hR : mH D tc A m0 aM (mfo (ms u 25 0 0) (fun j => mrect f t a z j ∧ (j : Int) / 1000 < ((kn + 1 : Nat) : Int)) st) H := by
                      rw [mfo_c (Ql := (fun j => mrect f t a z j ∧ ((j : Int) / 1000 < (kn : Int) ∨ ((j : Int) / 1000 = (kn : Int) ∧ (j : Int) % 1000 < hh)))) (fun j => ⟨fun q => ⟨q.1, by have q1 := q.1; unfold mrect at q1; omega⟩, fun q => ⟨q.1, by have q1 := q.1; unfold mrect at q1; omega⟩⟩)]; exact hR
                    refine z_iinc (a := (kn : Int)) (n := 1) (lv' := [(8, .int (zi (((kn : Int) + 1)))), (10, .int (zi (hh))), (9, .int (zi (xi))), (0, .ref m0), (1, .int (zi (f))), (2, .int (zi (t))), (3, .int (zi (a))), (4, .int (zi (z))), (5, .int (zi (st)))]) hx hb dX6_foretell_221 hl (k := 2) rfl (by decide) rfl (fun ls hl => ?_)
                    refine lv_goto (tgt := 129) hx hb dX6_foretell_224 (by decide) ?_
                    exact ih129 (kn + 1) _ _ _ (by omega) (by omega) hR hS (lv_sub hl [0, 3, 4, 5, 6, 7, 8] rfl)
                  · skip
                    refine lv_iload hx hb dX6_foretell_193 (lv_at hl 1 rfl) ?_
                    refine z_if_eq (a := xi) (tgt := 221) hx hb dX6_foretell_195 (by decide) (by omega) (fun h_195 => ?_) (fun h_195 => ?_)
                    · skip
                      have hR : mH D tc A m0 aM (mfo (ms u 25 0 0) (fun j => mrect f t a z j ∧ (j : Int) / 1000 < ((kn + 1 : Nat) : Int)) st) H := by
                        rw [mfo_c (Ql := (fun j => mrect f t a z j ∧ ((j : Int) / 1000 < (kn : Int) ∨ ((j : Int) / 1000 = (kn : Int) ∧ (j : Int) % 1000 < hh)))) (fun j => ⟨fun q => ⟨q.1, by have q1 := q.1; unfold mrect at q1; omega⟩, fun q => ⟨q.1, by have q1 := q.1; unfold mrect at q1; omega⟩⟩)]; exact hR
                      refine z_iinc (a := (kn : Int)) (n := 1) (lv' := [(8, .int (zi (((kn : Int) + 1)))), (10, .int (zi (hh))), (9, .int (zi (xi))), (0, .ref m0), (1, .int (zi (f))), (2, .int (zi (t))), (3, .int (zi (a))), (4, .int (zi (z))), (5, .int (zi (st)))]) hx hb dX6_foretell_221 hl (k := 2) rfl (by decide) rfl (fun ls hl => ?_)
                      refine lv_goto (tgt := 129) hx hb dX6_foretell_224 (by decide) ?_
                      exact ih129 (kn + 1) _ _ _ (by omega) (by omega) hR hS (lv_sub hl [0, 3, 4, 5, 6, 7, 8] rfl)
                    · skip
                      refine lv_aload_n hx hb dX6_foretell_198 rfl (lv_at hl 3 rfl) ?_
                      refine m_get hx hb (q_wsX6 hT hW) hown hK hR 0 (by decide) (q_664 hT hW) (fun _ h => h) (v := .ref (aM 0)) rfl dX6_foretell_199 ?_
                      refine lv_sipush (v := zi (1000)) hx hb dX6_foretell_202 rfl ?_
                      refine lv_iload hx hb dX6_foretell_205 (lv_at hl 2 rfl) ?_
                      refine z_imul (a := 1000) (b := (kn : Int)) hx hb dX6_foretell_207 ?_
                      refine lv_iload hx hb dX6_foretell_208 (lv_at hl 0 rfl) ?_
                      refine z_iadd (a := (1000 * (kn : Int))) (b := hh) hx hb dX6_foretell_210 ?_
                      refine lv_iload hx hb dX6_foretell_211 (lv_at hl 8 rfl) ?_
                      refine lv_i2b hx hb dX6_foretell_213 rfl ?_
                      have hby : vp_nar .byte (zi st).toInt8.toInt32 = zi st := by
                        have hs : st = 0 ∨ st = 1 ∨ st = 2 ∨ st = 3 ∨ st = 4 ∨ st = 5 ∨ st = 6 ∨ st = 7 ∨ st = 8 ∨ st = 9 := by omega
                        rcases hs with e9 | e9 | e9 | e9 | e9 | e9 | e9 | e9 | e9 | e9 <;> rw [e9] <;> decide
                      refine m_bast (i := ((1000 * (kn : Int)) + hh)) (x := st) hx hb hK hR hS (by omega) hby dX6_foretell_214 (fun H locs hR hS => ?_)
                      refine z_iinc (a := hh) (n := 1) (lv' := [(10, .int (zi ((hh + 1)))), (9, .int (zi (xi))), (8, .int (zi ((kn : Int)))), (0, .ref m0), (1, .int (zi (f))), (2, .int (zi (t))), (3, .int (zi (a))), (4, .int (zi (z))), (5, .int (zi (st)))]) hx hb dX6_foretell_215 hl (k := 0) rfl (by decide) rfl (fun ls hl => ?_)
                      refine lv_goto (tgt := 186) hx hb dX6_foretell_218 (by decide) ?_
                      have hR : mH D tc A m0 aM (mfo (ms u 25 0 0) (fun j => mrect f t a z j ∧ ((j : Int) / 1000 < (kn : Int) ∨ ((j : Int) / 1000 = (kn : Int) ∧ (j : Int) % 1000 < (hh + 1)))) st) H := by
                        rw [mfo_c (Ql := fun j => (fun j => mrect f t a z j ∧ ((j : Int) / 1000 < (kn : Int) ∨ ((j : Int) / 1000 = (kn : Int) ∧ (j : Int) % 1000 < hh))) j ∨ j = (1000 * (kn : Int) + hh).toNat) (fun j => ?_), ← mfo_ms]
                        · exact hR
                        · constructor
                          · intro q
                            have q1 := q.1
                            unfold mrect at q1
                            by_cases e9 : (j : Int) / 1000 = (kn : Int) ∧ (j : Int) % 1000 = hh
                            · exact Or.inr (by omega)
                            · exact Or.inl ⟨q.1, by omega⟩
                          · intro q
                            rcases q with q | q
                            · exact ⟨q.1, by have := q.2; omega⟩
                            · have e1 : (j : Int) = 1000 * (kn : Int) + hh := by omega
                              exact ⟨by unfold mrect; omega, by omega⟩
                      exact ih186 (hh + 1) _ _ _ (by omega) (by omega) hR hS (lv_sub hl [0, 1, 2, 3, 4, 5, 6, 7, 8] rfl)
              refine lv_aload_n hx hb dX6_foretell_136 rfl (lv_at hl 1 rfl) ?_
              refine lv_iload hx hb dX6_foretell_137 (lv_at hl 0 rfl) ?_
              refine lv_bipush (v := zi (8)) hx hb dX6_foretell_139 rfl ?_
              refine z_irem (a := (kn : Int)) (b := 8) hx hb dX6_foretell_141 (by omega) ?_
              refine lv_iload_n hx hb dX6_foretell_142 rfl (lv_at hl 2 rfl) ?_
              refine lv_bipush (v := zi (8)) hx hb dX6_foretell_143 rfl ?_
              refine z_irem (a := f) (b := 8) hx hb dX6_foretell_145 (by omega) ?_
              refine lv_iload_n hx hb dX6_foretell_146 rfl (lv_at hl 3 rfl) ?_
              refine lv_bipush (v := zi (8)) hx hb dX6_foretell_147 rfl ?_
              refine z_irem (a := t) (b := 8) hx hb dX6_foretell_149 (by omega) ?_
              refine z_invV (n := 3) (C := RX6) (c_X6_in l hZ (u := (mfo (ms u 25 0 0) (fun j => mrect f t a z j ∧ (j : Int) / 1000 < (kn : Int)) st)) (a := ((kn : Int) % 8)) (lo := (f % 8)) (hi := (t % 8)) (by omega)) X hS hR hl.1 (q_754 hT hW) (q_7 hT hW) (q_751 hT hW) (q_753 hT hW) (q_p17 hT hW) (m_recv hK hR) (by decide +kernel) rfl ⟨Nat.le_of_ble_eq_true rfl, Nat.le_of_ble_eq_true rfl⟩ ⟨Nat.le_of_ble_eq_true rfl, Nat.le_of_ble_eq_true rfl⟩ (Nat.le_of_ble_eq_true rfl) dX6_foretell_150 (fun v H locs hv hS => ?_) rfl
              obtain ⟨rfl, hR⟩ := hv
              refine z_if_eq (a := (if (f % 8) ≤ ((kn : Int) % 8) ∧ ((kn : Int) % 8) ≤ (t % 8) then 1 else 0)) (tgt := 180) hx hb dX6_foretell_153 (by decide) (by omega) (fun h_153 => ?_) (fun h_153 => ?_)
              · skip
                refine lv_iconst (v := zi (0)) hx hb dX6_foretell_180 rfl ?_
                exact J181 _ _ _ _ (by omega) hR hS (lv_sub hl [0, 1, 2, 3, 4, 5, 6] rfl)
              · skip
                refine lv_aload_n hx hb dX6_foretell_156 rfl (lv_at hl 1 rfl) ?_
                refine lv_iload hx hb dX6_foretell_157 (lv_at hl 0 rfl) ?_
                refine lv_bipush (v := zi (8)) hx hb dX6_foretell_159 rfl ?_
                refine z_idiv (a := (kn : Int)) (b := 8) hx hb dX6_foretell_161 (by omega) ?_
                refine lv_iload_n hx hb dX6_foretell_162 rfl (lv_at hl 2 rfl) ?_
                refine lv_bipush (v := zi (8)) hx hb dX6_foretell_163 rfl ?_
                refine z_idiv (a := f) (b := 8) hx hb dX6_foretell_165 (by omega) ?_
                refine lv_iload_n hx hb dX6_foretell_166 rfl (lv_at hl 3 rfl) ?_
                refine lv_bipush (v := zi (8)) hx hb dX6_foretell_167 rfl ?_
                refine z_idiv (a := t) (b := 8) hx hb dX6_foretell_169 (by omega) ?_
                refine z_invV (n := 3) (C := RX6) (c_X6_in l hZ (u := (mfo (ms u 25 0 0) (fun j => mrect f t a z j ∧ (j : Int) / 1000 < (kn : Int)) st)) (a := ((kn : Int) / 8)) (lo := (f / 8)) (hi := (t / 8)) (by omega)) X hS hR hl.1 (q_754 hT hW) (q_7 hT hW) (q_751 hT hW) (q_753 hT hW) (q_p17 hT hW) (m_recv hK hR) (by decide +kernel) rfl ⟨Nat.le_of_ble_eq_true rfl, Nat.le_of_ble_eq_true rfl⟩ ⟨Nat.le_of_ble_eq_true rfl, Nat.le_of_ble_eq_true rfl⟩ (Nat.le_of_ble_eq_true rfl) dX6_foretell_170 (fun v H locs hv hS => ?_) rfl
                obtain ⟨rfl, hR⟩ := hv
                refine z_if_eq (a := (if (f / 8) ≤ ((kn : Int) / 8) ∧ ((kn : Int) / 8) ≤ (t / 8) then 1 else 0)) (tgt := 180) hx hb dX6_foretell_173 (by decide) (by omega) (fun h_173 => ?_) (fun h_173 => ?_)
                · skip
                  refine lv_iconst (v := zi (0)) hx hb dX6_foretell_180 rfl ?_
                  exact J181 _ _ _ _ (by omega) hR hS (lv_sub hl [0, 1, 2, 3, 4, 5, 6] rfl)
                · skip
                  refine lv_iconst (v := zi (1)) hx hb dX6_foretell_176 rfl ?_
                  refine lv_goto (tgt := 181) hx hb dX6_foretell_177 (by decide) ?_
                  exact J181 _ _ _ _ (by omega) hR hS (lv_sub hl [0, 1, 2, 3, 4, 5, 6] rfl)
        · skip
          refine lv_iconst (v := zi (-1)) hx hb dX6_foretell_124 rfl ?_
          exact z_iret hx hb hr hlocks hS (by decide) (by decide) dX6_foretell_125 ⟨by rw [← hxe, if_pos (show 0 < x by omega)], by rw [← hxe, if_pos (show 0 < x by omega)]; exact hR⟩
      refine lv_iload hx hb dX6_foretell_99 (lv_at hl 1 rfl) ?_
      refine z_if_ne (a := x1) (tgt := 108) hx hb dX6_foretell_101 (by decide) (by omega) (fun h_101 => ?_) (fun h_101 => ?_)
      · skip
        refine lv_iload hx hb dX6_foretell_108 (lv_at hl 0 rfl) ?_
        refine z_if_eq (a := x2) (tgt := 117) hx hb dX6_foretell_110 (by decide) (by omega) (fun h_110 => ?_) (fun h_110 => ?_)
        · skip
          refine lv_iconst (v := zi (2)) hx hb dX6_foretell_117 rfl ?_
          exact J118 _ _ _ _ (by unfold mcFore; omega) hR hS (lv_sub hl [0, 1, 2, 3, 4, 5, 6, 7] rfl)
        · skip
          refine lv_iconst (v := zi (0)) hx hb dX6_foretell_113 rfl ?_
          refine lv_goto (tgt := 118) hx hb dX6_foretell_114 (by decide) ?_
          exact J118 _ _ _ _ (by unfold mcFore; omega) hR hS (lv_sub hl [0, 1, 2, 3, 4, 5, 6, 7] rfl)
      · skip
        refine lv_iconst (v := zi (1)) hx hb dX6_foretell_104 rfl ?_
        refine lv_goto (tgt := 118) hx hb dX6_foretell_105 (by decide) ?_
        exact J118 _ _ _ _ (by unfold mcFore; omega) hR hS (lv_sub hl [0, 1, 2, 3, 4, 5, 6, 7] rfl)
    refine lv_iload_n hx hb dX6_foretell_29 rfl (lv_at hl 3 rfl) ?_
    refine lv_bipush (v := zi (8)) hx hb dX6_foretell_30 rfl ?_
    refine z_iremA (a := t) (b := 8) hx hb dX6_foretell_32 (by omega) (fun r_1 hr_1 gr_1 => ?_)
    refine lv_iload_n hx hb dX6_foretell_33 rfl (lv_at hl 2 rfl) ?_
    refine lv_bipush (v := zi (8)) hx hb dX6_foretell_34 rfl ?_
    refine z_iremA (a := f) (b := 8) hx hb dX6_foretell_36 (by omega) (fun r_2 hr_2 gr_2 => ?_)
    refine z_icmp_lt (a := r_1) (b := r_2) (tgt := 95) hx hb dX6_foretell_37 (by decide) (by omega) (fun h_37 => ?_) (fun h_37 => ?_)
    · skip
      refine lv_iconst (v := zi (0)) hx hb dX6_foretell_95 rfl ?_
      exact J96 _ _ _ _ ⟨by omega, fun hq => by omega⟩ hR hS (lv_sub hl [0, 1, 2, 3, 4, 5, 6] rfl)
    · skip
      refine lv_iload_n hx hb dX6_foretell_40 rfl (lv_at hl 3 rfl) ?_
      refine lv_bipush (v := zi (8)) hx hb dX6_foretell_41 rfl ?_
      refine z_idivA (a := t) (b := 8) hx hb dX6_foretell_43 (by omega) (fun r_3 hr_3 gr_3 => ?_)
      refine lv_iload_n hx hb dX6_foretell_44 rfl (lv_at hl 2 rfl) ?_
      refine lv_bipush (v := zi (8)) hx hb dX6_foretell_45 rfl ?_
      refine z_idivA (a := f) (b := 8) hx hb dX6_foretell_47 (by omega) (fun r_4 hr_4 gr_4 => ?_)
      refine z_icmp_lt (a := r_3) (b := r_4) (tgt := 95) hx hb dX6_foretell_48 (by decide) (by omega) (fun h_48 => ?_) (fun h_48 => ?_)
      · skip
        refine lv_iconst (v := zi (0)) hx hb dX6_foretell_95 rfl ?_
        exact J96 _ _ _ _ ⟨by omega, fun hq => by omega⟩ hR hS (lv_sub hl [0, 1, 2, 3, 4, 5, 6] rfl)
      · skip
        refine lv_aload_n hx hb dX6_foretell_51 rfl (lv_at hl 1 rfl) ?_
        refine lv_iload_n hx hb dX6_foretell_52 rfl (lv_at hl 4 rfl) ?_
        refine lv_aload_n hx hb dX6_foretell_53 rfl (lv_at hl 1 rfl) ?_
        refine m_get hx hb (q_wsX6 hT hW) hown hK hR 24 (by decide) (q_688 hT hW) (fun _ h => h) (v := .int (zi (u 24 0))) (congrArg (fun z : Int => some (Value.int (zi z))) rfl) dX6_foretell_54 ?_
        refine lv_sipush (v := zi (999)) hx hb dX6_foretell_57 rfl ?_
        refine z_invV (n := 3) (C := RX6) (c_X6_in l hZ (u := u) (a := a) (lo := (u 24 0)) (hi := 999) (by omega)) X hS hR hl.1 (q_754 hT hW) (q_7 hT hW) (q_751 hT hW) (q_753 hT hW) (q_p17 hT hW) (m_recv hK hR) (by decide +kernel) rfl ⟨Nat.le_of_ble_eq_true rfl, Nat.le_of_ble_eq_true rfl⟩ ⟨Nat.le_of_ble_eq_true rfl, Nat.le_of_ble_eq_true rfl⟩ (Nat.le_of_ble_eq_true rfl) dX6_foretell_60 (fun v H locs hv hS => ?_) rfl
        obtain ⟨rfl, hR⟩ := hv
        refine z_if_eq (a := (if (u 24 0) ≤ a ∧ a ≤ 999 then 1 else 0)) (tgt := 95) hx hb dX6_foretell_63 (by decide) (by omega) (fun h_63 => ?_) (fun h_63 => ?_)
        · skip
          refine lv_iconst (v := zi (0)) hx hb dX6_foretell_95 rfl ?_
          exact J96 _ _ _ _ ⟨by omega, fun hq => by omega⟩ hR hS (lv_sub hl [0, 1, 2, 3, 4, 5, 6] rfl)
        · skip
          refine lv_aload_n hx hb dX6_foretell_66 rfl (lv_at hl 1 rfl) ?_
          refine lv_iload hx hb dX6_foretell_67 (lv_at hl 5 rfl) ?_
          refine lv_iload_n hx hb dX6_foretell_69 rfl (lv_at hl 4 rfl) ?_
          refine lv_sipush (v := zi (999)) hx hb dX6_foretell_70 rfl ?_
          refine z_invV (n := 3) (C := RX6) (c_X6_in l hZ (u := u) (a := z) (lo := a) (hi := 999) (by omega)) X hS hR hl.1 (q_754 hT hW) (q_7 hT hW) (q_751 hT hW) (q_753 hT hW) (q_p17 hT hW) (m_recv hK hR) (by decide +kernel) rfl ⟨Nat.le_of_ble_eq_true rfl, Nat.le_of_ble_eq_true rfl⟩ ⟨Nat.le_of_ble_eq_true rfl, Nat.le_of_ble_eq_true rfl⟩ (Nat.le_of_ble_eq_true rfl) dX6_foretell_73 (fun v H locs hv hS => ?_) rfl
          obtain ⟨rfl, hR⟩ := hv
          refine z_if_eq (a := (if a ≤ z ∧ z ≤ 999 then 1 else 0)) (tgt := 95) hx hb dX6_foretell_76 (by decide) (by omega) (fun h_76 => ?_) (fun h_76 => ?_)
          · skip
            refine lv_iconst (v := zi (0)) hx hb dX6_foretell_95 rfl ?_
            exact J96 _ _ _ _ ⟨by omega, fun hq => by omega⟩ hR hS (lv_sub hl [0, 1, 2, 3, 4, 5, 6] rfl)
          · skip
            refine lv_aload_n hx hb dX6_foretell_79 rfl (lv_at hl 1 rfl) ?_
            refine lv_iload hx hb dX6_foretell_80 (lv_at hl 6 rfl) ?_
            refine lv_iconst (v := zi (0)) hx hb dX6_foretell_82 rfl ?_
            refine lv_bipush (v := zi (9)) hx hb dX6_foretell_83 rfl ?_
            refine z_invV (n := 3) (C := RX6) (c_X6_in l hZ (u := u) (a := st) (lo := 0) (hi := 9) (by omega)) X hS hR hl.1 (q_754 hT hW) (q_7 hT hW) (q_751 hT hW) (q_753 hT hW) (q_p17 hT hW) (m_recv hK hR) (by decide +kernel) rfl ⟨Nat.le_of_ble_eq_true rfl, Nat.le_of_ble_eq_true rfl⟩ ⟨Nat.le_of_ble_eq_true rfl, Nat.le_of_ble_eq_true rfl⟩ (Nat.le_of_ble_eq_true rfl) dX6_foretell_85 (fun v H locs hv hS => ?_) rfl
            obtain ⟨rfl, hR⟩ := hv
            refine z_if_eq (a := (if 0 ≤ st ∧ st ≤ 9 then 1 else 0)) (tgt := 95) hx hb dX6_foretell_88 (by decide) (by omega) (fun h_88 => ?_) (fun h_88 => ?_)
            · skip
              refine lv_iconst (v := zi (0)) hx hb dX6_foretell_95 rfl ?_
              exact J96 _ _ _ _ ⟨by omega, fun hq => by omega⟩ hR hS (lv_sub hl [0, 1, 2, 3, 4, 5, 6] rfl)
            · skip
              refine lv_iconst (v := zi (1)) hx hb dX6_foretell_91 rfl ?_
              refine lv_goto (tgt := 96) hx hb dX6_foretell_92 (by decide) ?_
              exact J96 _ _ _ _ ⟨by omega, fun hq => by omega⟩ hR hS (lv_sub hl [0, 1, 2, 3, 4, 5, 6] rfl)
  refine lv_aload_n hx hb dX6_foretell_0 rfl (lv_at hl 0 rfl) ?_
  refine lv_iload_n hx hb dX6_foretell_1 rfl (lv_at hl 1 rfl) ?_
  refine lv_iconst (v := zi (0)) hx hb dX6_foretell_2 rfl ?_
  refine lv_bipush (v := zi (47)) hx hb dX6_foretell_3 rfl ?_
  refine z_invV (n := 3) (C := RX6) (c_X6_in l hZ (u := u) (a := f) (lo := 0) (hi := 47) (by omega)) X hS hR hl.1 (q_754 hT hW) (q_7 hT hW) (q_751 hT hW) (q_753 hT hW) (q_p17 hT hW) (m_recv hK hR) (by decide +kernel) rfl ⟨Nat.le_of_ble_eq_true rfl, Nat.le_of_ble_eq_true rfl⟩ ⟨Nat.le_of_ble_eq_true rfl, Nat.le_of_ble_eq_true rfl⟩ (Nat.le_of_ble_eq_true rfl) dX6_foretell_5 (fun v H locs hv hS => ?_) rfl
  obtain ⟨rfl, hR⟩ := hv
  refine z_if_eq (a := (if 0 ≤ f ∧ f ≤ 47 then 1 else 0)) (tgt := 26) hx hb dX6_foretell_8 (by decide) (by omega) (fun h_8 => ?_) (fun h_8 => ?_)
  · skip
    refine lv_iconst (v := zi (0)) hx hb dX6_foretell_26 rfl ?_
    exact J27 _ _ _ _ (by omega) hR hS (lv_sub hl [0, 1, 2, 3, 4, 5] rfl)
  · skip
    refine lv_aload_n hx hb dX6_foretell_11 rfl (lv_at hl 0 rfl) ?_
    refine lv_iload_n hx hb dX6_foretell_12 rfl (lv_at hl 2 rfl) ?_
    refine lv_iconst (v := zi (0)) hx hb dX6_foretell_13 rfl ?_
    refine lv_bipush (v := zi (47)) hx hb dX6_foretell_14 rfl ?_
    refine z_invV (n := 3) (C := RX6) (c_X6_in l hZ (u := u) (a := t) (lo := 0) (hi := 47) (by omega)) X hS hR hl.1 (q_754 hT hW) (q_7 hT hW) (q_751 hT hW) (q_753 hT hW) (q_p17 hT hW) (m_recv hK hR) (by decide +kernel) rfl ⟨Nat.le_of_ble_eq_true rfl, Nat.le_of_ble_eq_true rfl⟩ ⟨Nat.le_of_ble_eq_true rfl, Nat.le_of_ble_eq_true rfl⟩ (Nat.le_of_ble_eq_true rfl) dX6_foretell_16 (fun v H locs hv hS => ?_) rfl
    obtain ⟨rfl, hR⟩ := hv
    refine z_if_eq (a := (if 0 ≤ t ∧ t ≤ 47 then 1 else 0)) (tgt := 26) hx hb dX6_foretell_19 (by decide) (by omega) (fun h_19 => ?_) (fun h_19 => ?_)
    · skip
      refine lv_iconst (v := zi (0)) hx hb dX6_foretell_26 rfl ?_
      exact J27 _ _ _ _ (by omega) hR hS (lv_sub hl [0, 1, 2, 3, 4, 5] rfl)
    · skip
      refine lv_iconst (v := zi (1)) hx hb dX6_foretell_22 rfl ?_
      refine lv_goto (tgt := 27) hx hb dX6_foretell_23 (by decide) ?_
      exact J27 _ _ _ _ (by omega) hR hS (lv_sub hl [0, 1, 2, 3, 4, 5] rfl)
set_option maxHeartbeats 4000000 in
set_option maxRecDepth 100000 in
theorem c_X6_premium (l : Launch) {S : State} {D : va_G} {tc : Nat → ClassId} {A : Nat → Prop} {dz : Nat} (hZ : zB S D tc A dz) {m0 : Nat} {aM : Nat → Nat} {u : zS_} {a : Int} (h0 : -2147483648 ≤ a ∧ a ≤ 2147483647) (hI : zIn u) : zM l S A yX6_premium cX6_premium 5 (Option.some Jvm.ClassFile.FieldType.float) { frames := 3, locals := 80, cells := 0, slots := 0 } [.ref m0, .int (zi (a))] (mH D tc A m0 aM u) (fun v H => v = some (.float (if 0 < mcCell a then 3212836864 else mfl (mmost u a) (mmany u a (u 21 0).toNat))) ∧ mH D tc A m0 aM (if 0 < mcCell a then ms u 25 0 (mcCell a) else ms u 25 0 0) H) := by
  refine zM.mk (by decide +kernel) (Nat.le_of_ble_eq_true rfl) ?_
  intro p e s m below meth c ls X0 hR hl
  obtain ⟨hx, hb, hml, hr, hlocks, hown, hnm, hW, hpre, hA⟩ := X0
  have X : zH S A p s m c cX6_premium 5 RX6 := ⟨hx, hb, hml, hown, hW, hpre, hA, hZ.2.2.1⟩
  have hT := hZ.1
  have hK := va_K.moved hW.alike hZ.2.1
  have hS : va_S A s.heap s.heap [] := va_S.rf
  have hl : lv_has ls 5 [(0, .ref m0), (1, .int (zi (a)))] := hl
  skip
  have hI1 := hI.1
  refine lv_aload_n hx hb dX6_premium_0 rfl (lv_at hl 0 rfl) ?_
  have J17 : ∀ (x : Int) (H : Heap) (locs : List Loc) (ls : Array Slot), x = (mcCell a) → mH D tc A m0 aM u H → va_S A s.heap H locs → lv_has ls 5 [(0, .ref m0), (1, .int (zi (a)))] → W p l e { frames := 3, locals := 80, cells := 0, slots := 0 } s m ([.ref m0, .int (zi (a))] : List Value).toArray below meth c H locs 0 0 (MQ below (zQ A (fun v H => v = some (.float (if 0 < mcCell a then 3212836864 else mfl (mmost u a) (mmany u a (u 21 0).toNat))) ∧ mH D tc A m0 aM (if 0 < mcCell a then ms u 25 0 (mcCell a) else ms u 25 0 0) H)) ([.ref m0, .int (zi (a))] : List Value).toArray s ({ frames := 3, locals := 80, cells := 0, slots := 0 } : Room).cells ({ frames := 3, locals := 80, cells := 0, slots := 0 } : Room).slots A) (F0 m 17 ls [.int (zi (x)), .ref m0]) := by
    intro x H locs ls hxe hR hS hl
    have hxu := hxe
    unfold mcCell at hxu
    refine z_invV (n := 1) (C := RX6) (c_X6_fails l hZ (u := u) (k := x) (by omega)) X hS hR hl.1 (q_758 hT hW) (q_7 hT hW) (q_755 hT hW) (q_757 hT hW) (q_p18 hT hW) (m_recv hK hR) (by decide +kernel) rfl ⟨Nat.le_of_ble_eq_true rfl, Nat.le_of_ble_eq_true rfl⟩ ⟨Nat.le_of_ble_eq_true rfl, Nat.le_of_ble_eq_true rfl⟩ (Nat.le_of_ble_eq_true rfl) dX6_premium_17 (fun v H locs hv hS => ?_) rfl
    obtain ⟨rfl, hR⟩ := hv
    refine z_if_eq (a := (if 0 < x then 1 else 0)) (tgt := 26) hx hb dX6_premium_20 (by decide) (by omega) (fun h_20 => ?_) (fun h_20 => ?_)
    · skip
      have hx0 : x = 0 := by omega
      subst hx0
      have hn6 : 0 ≤ a ∧ a ≤ 47 := by omega
      refine lv_iconst (v := zi (0)) hx hb dX6_premium_26 rfl ?_
      refine lv_istore_n (lv' := [(2, .int (zi (0))), (0, .ref m0), (1, .int (zi (a)))]) hx hb dX6_premium_27 rfl hl (by decide) rfl (fun ls hl => ?_)
      refine lv_iconst (v := zi (0)) hx hb dX6_premium_28 rfl ?_
      refine lv_istore_n (lv' := [(3, .int (zi (0))), (2, .int (zi (0))), (0, .ref m0), (1, .int (zi (a)))]) hx hb dX6_premium_29 rfl hl (by decide) rfl (fun ls hl => ?_)
      refine lv_aload_n hx hb dX6_premium_30 rfl (lv_at hl 2 rfl) ?_
      refine m_get hx hb (q_wsX6 hT hW) hown hK hR 24 (by decide) (q_688 hT hW) (fun _ h => h) (v := .int (zi (u 24 0))) (congrArg (fun z : Int => some (Value.int (zi z))) (ms_k (by decide))) dX6_premium_31 ?_
      refine lv_istore (lv' := [(4, .int (zi ((u 24 0)))), (3, .int (zi (0))), (2, .int (zi (0))), (0, .ref m0), (1, .int (zi (a)))]) hx hb dX6_premium_34 hl (by decide) rfl (fun ls hl => ?_)
      suffices K : ∀ (fu : Nat) (hh : Int) (g : Int) (H : Heap) (locs : List Loc) (ls : Array Slot), (1000 - hh).toNat < fu → (u 24 0 ≤ hh ∧ hh ≤ u 24 0 + 24 ∧ hh ≤ 1000) → (g = zmax (fun h => u 0 (1000 * a + h).toNat) (u 24 0) (hh - u 24 0).toNat) → (0 ≤ g ∧ g ≤ 9) → mH D tc A m0 aM (ms u 25 0 0) H → va_S A s.heap H locs → lv_has ls 5 [(4, .int (zi (hh))), (3, .int (zi (0))), (2, .int (zi (g))), (0, .ref m0), (1, .int (zi (a)))] → W p l e { frames := 3, locals := 80, cells := 0, slots := 0 } s m ([.ref m0, .int (zi (a))] : List Value).toArray below meth c H locs 0 0 (MQ below (zQ A (fun v H => v = some (.float (if 0 < mcCell a then 3212836864 else mfl (mmost u a) (mmany u a (u 21 0).toNat))) ∧ mH D tc A m0 aM (if 0 < mcCell a then ms u 25 0 (mcCell a) else ms u 25 0 0) H)) ([.ref m0, .int (zi (a))] : List Value).toArray s ({ frames := 3, locals := 80, cells := 0, slots := 0 } : Room).cells ({ frames := 3, locals := 80, cells := 0, slots := 0 } : Room).slots A) (F0 m 36 ls []) from K _ (u 24 0) 0 _ _ _ (Nat.lt_succ_self _) (by omega) (by rw [Int.sub_self]; rfl) (by omega) hR hS (lv_sub hl [0, 1, 2, 3, 4] rfl)
      intro fu
      induction fu with
      | zero => intro hh g H locs ls hm; exact absurd hm (Nat.not_lt_zero _)
      | succ fu ih36 =>
        intro hh g H locs ls hm hi hg hgb hR hS hl
        refine lv_iload hx hb dX6_premium_36 (lv_at hl 0 rfl) ?_
        refine lv_aload_n hx hb dX6_premium_38 rfl (lv_at hl 3 rfl) ?_
        refine m_get hx hb (q_wsX6 hT hW) hown hK hR 24 (by decide) (q_688 hT hW) (fun _ h => h) (v := .int (zi (u 24 0))) (congrArg (fun z : Int => some (Value.int (zi z))) (ms_k (by decide))) dX6_premium_39 ?_
        refine lv_bipush (v := zi (24)) hx hb dX6_premium_42 rfl ?_
        refine z_iadd (a := (u 24 0)) (b := 24) hx hb dX6_premium_44 ?_
        refine z_icmp_ge (a := hh) (b := ((u 24 0) + 24)) (tgt := 97) hx hb dX6_premium_45 (by decide) (by omega) (fun h_45 => ?_) (fun h_45 => ?_)
        · skip
          have hmo : g = mmost u a := by unfold mmost; rw [hg]; congr 1; omega
          refine lv_iconst (v := zi (0)) hx hb dX6_premium_97 rfl ?_
          refine lv_istore (lv' := [(4, .int (zi (0))), (3, .int (zi (0))), (2, .int (zi (g))), (0, .ref m0), (1, .int (zi (a)))]) hx hb dX6_premium_98 hl (by decide) rfl (fun ls hl => ?_)
          suffices K : ∀ (fu : Nat) (cn : Nat) (q : Int) (H : Heap) (locs : List Loc) (ls : Array Slot), ((u 21 0).toNat - cn) < fu → ((cn : Int) ≤ u 21 0) → (q = mmany u a cn) → mH D tc A m0 aM (ms u 25 0 0) H → va_S A s.heap H locs → lv_has ls 5 [(4, .int (zi ((cn : Int)))), (3, .int (zi (q))), (2, .int (zi (g))), (0, .ref m0), (1, .int (zi (a)))] → W p l e { frames := 3, locals := 80, cells := 0, slots := 0 } s m ([.ref m0, .int (zi (a))] : List Value).toArray below meth c H locs 0 0 (MQ below (zQ A (fun v H => v = some (.float (if 0 < mcCell a then 3212836864 else mfl (mmost u a) (mmany u a (u 21 0).toNat))) ∧ mH D tc A m0 aM (if 0 < mcCell a then ms u 25 0 (mcCell a) else ms u 25 0 0) H)) ([.ref m0, .int (zi (a))] : List Value).toArray s ({ frames := 3, locals := 80, cells := 0, slots := 0 } : Room).cells ({ frames := 3, locals := 80, cells := 0, slots := 0 } : Room).slots A) (F0 m 100 ls []) from K _ 0 0 _ _ _ (Nat.lt_succ_self _) (by omega) rfl hR hS (lv_sub hl [0, 1, 2, 3, 4] rfl)
          intro fu
          induction fu with
          | zero => intro cn q H locs ls hm; exact absurd hm (Nat.not_lt_zero _)
          | succ fu ih100 =>
            intro cn q H locs ls hm hcn hq hR hS hl
            have hC := hI.2.2.2
            refine lv_iload hx hb dX6_premium_100 (lv_at hl 0 rfl) ?_
            refine lv_aload_n hx hb dX6_premium_102 rfl (lv_at hl 3 rfl) ?_
            refine m_get hx hb (q_wsX6 hT hW) hown hK hR 21 (by decide) (q_685 hT hW) (fun _ h => h) (v := .int (zi (u 21 0))) (congrArg (fun z : Int => some (Value.int (zi z))) (ms_k (by decide))) dX6_premium_103 ?_
            refine z_icmp_ge (a := (cn : Int)) (b := (u 21 0)) (tgt := 134) hx hb dX6_premium_106 (by decide) (by omega) (fun h_106 => ?_) (fun h_106 => ?_)
            · skip
              have hma : q = mmany u a (u 21 0).toNat := by rw [hq, show cn = (u 21 0).toNat by omega]
              have hfl := mfl_n g.toNat (by omega) q.toNat (by have := mmany_r (u := u) (a := a) (u 21 0).toNat; omega)
              rw [show ((g.toNat : Nat) : Int) = g by omega, show ((q.toNat : Nat) : Int) = q by have := mmany_r (u := u) (a := a) (u 21 0).toNat; omega] at hfl
              refine lv_ldcf (v := 1069547520) hx hb hown (q_844 hT hW) dX6_premium_134 ?_
              refine lv_iload_n hx hb dX6_premium_136 rfl (lv_at hl 2 rfl) ?_
              refine lv_i2f hx hb dX6_premium_137 ?_
              refine lv_fmul hx hb dX6_premium_138 hfl.1 ?_
              refine lv_ldcf (v := 1048576000) hx hb hown (q_845 hT hW) dX6_premium_139 ?_
              refine lv_iload_n hx hb dX6_premium_141 rfl (lv_at hl 1 rfl) ?_
              refine lv_i2f hx hb dX6_premium_142 ?_
              refine lv_fmul hx hb dX6_premium_143 hfl.2.1 ?_
              refine lv_fadd hx hb dX6_premium_144 hfl.2.2.1 ?_
              exact z_fret hx hb hr hlocks hS (by decide) (by decide) dX6_premium_145 ⟨by rw [← hxe, if_neg (Int.lt_irrefl 0), ← hmo, ← hma]; rfl, by rw [← hxe, if_neg (Int.lt_irrefl 0)]; exact hR⟩
            · skip
              have hC9 := hI.2.2.2 cn (by omega)
              unfold zIc at hC9
              refine lv_iload_n hx hb dX6_premium_109 rfl (lv_at hl 1 rfl) ?_
              refine lv_aload_n hx hb dX6_premium_110 rfl (lv_at hl 3 rfl) ?_
              refine m_get hx hb (q_wsX6 hT hW) hown hK hR 14 (by decide) (q_678 hT hW) (fun _ h => h) (v := .ref (aM 14)) rfl dX6_premium_111 ?_
              refine lv_iload hx hb dX6_premium_114 (lv_at hl 0 rfl) ?_
              refine m_iald (k := 14) (i := (cn : Int)) (v := u 14 cn) hx hb hK hR (by unfold mar; omega) (by decide) (by show 0 ≤ (cn : Int) ∧ (cn : Int) < ((30 : Nat) : Int); omega) (ms_k (by decide)) dX6_premium_116 ?_
              refine lv_iload_n hx hb dX6_premium_117 rfl (lv_at hl 4 rfl) ?_
              refine z_icmp_ne (a := (u 14 cn)) (b := a) (tgt := 125) hx hb dX6_premium_118 (by decide) (by omega) (fun h_118 => ?_) (fun h_118 => ?_)
              · skip
                refine lv_iconst (v := zi (0)) hx hb dX6_premium_125 rfl ?_
                refine z_iadd (a := q) (b := 0) hx hb dX6_premium_126 ?_
                refine lv_istore_n (lv' := [(3, .int (zi ((q + 0)))), (4, .int (zi ((cn : Int)))), (2, .int (zi (g))), (0, .ref m0), (1, .int (zi (a)))]) hx hb dX6_premium_127 rfl hl (by decide) rfl (fun ls hl => ?_)
                refine z_iinc (a := (cn : Int)) (n := 1) (lv' := [(4, .int (zi (((cn : Int) + 1)))), (3, .int (zi ((q + 0)))), (2, .int (zi (g))), (0, .ref m0), (1, .int (zi (a)))]) hx hb dX6_premium_128 hl (k := 1) rfl (by decide) rfl (fun ls hl => ?_)
                refine lv_goto (tgt := 100) hx hb dX6_premium_131 (by decide) ?_
                exact ih100 (cn + 1) (q + 0) _ _ _ (by omega) (by omega) (by unfold mmany; rw [← hq]; first | rw [if_pos (by omega)] | (rw [if_neg (by omega)])) hR hS (lv_sub hl [0, 1, 2, 3, 4] rfl)
              · skip
                refine lv_iconst (v := zi (1)) hx hb dX6_premium_121 rfl ?_
                refine lv_goto (tgt := 126) hx hb dX6_premium_122 (by decide) ?_
                refine z_iadd (a := q) (b := 1) hx hb dX6_premium_126 ?_
                refine lv_istore_n (lv' := [(3, .int (zi ((q + 1)))), (4, .int (zi ((cn : Int)))), (2, .int (zi (g))), (0, .ref m0), (1, .int (zi (a)))]) hx hb dX6_premium_127 rfl hl (by decide) rfl (fun ls hl => ?_)
                refine z_iinc (a := (cn : Int)) (n := 1) (lv' := [(4, .int (zi (((cn : Int) + 1)))), (3, .int (zi ((q + 1)))), (2, .int (zi (g))), (0, .ref m0), (1, .int (zi (a)))]) hx hb dX6_premium_128 hl (k := 1) rfl (by decide) rfl (fun ls hl => ?_)
                refine lv_goto (tgt := 100) hx hb dX6_premium_131 (by decide) ?_
                exact ih100 (cn + 1) (q + 1) _ _ _ (by omega) (by omega) (by unfold mmany; rw [← hq]; first | rw [if_pos (by omega)] | (rw [if_neg (by omega)])) hR hS (lv_sub hl [0, 1, 2, 3, 4] rfl)
        · skip
          have hst := hI.2.1 (1000 * a + hh).toNat
          refine lv_iload hx hb dX6_premium_48 (lv_at hl 0 rfl) ?_
          refine lv_sipush (v := zi (1000)) hx hb dX6_premium_50 rfl ?_
          refine z_icmp_ge (a := hh) (b := 1000) (tgt := 97) hx hb dX6_premium_53 (by decide) (by omega) (fun h_53 => ?_) (fun h_53 => ?_)
          · skip
            have hmo : g = mmost u a := by unfold mmost; rw [hg]; congr 1; omega
            refine lv_iconst (v := zi (0)) hx hb dX6_premium_97 rfl ?_
            refine lv_istore (lv' := [(4, .int (zi (0))), (3, .int (zi (0))), (2, .int (zi (g))), (0, .ref m0), (1, .int (zi (a)))]) hx hb dX6_premium_98 hl (by decide) rfl (fun ls hl => ?_)
            suffices K : ∀ (fu : Nat) (cn : Nat) (q : Int) (H : Heap) (locs : List Loc) (ls : Array Slot), ((u 21 0).toNat - cn) < fu → ((cn : Int) ≤ u 21 0) → (q = mmany u a cn) → mH D tc A m0 aM (ms u 25 0 0) H → va_S A s.heap H locs → lv_has ls 5 [(4, .int (zi ((cn : Int)))), (3, .int (zi (q))), (2, .int (zi (g))), (0, .ref m0), (1, .int (zi (a)))] → W p l e { frames := 3, locals := 80, cells := 0, slots := 0 } s m ([.ref m0, .int (zi (a))] : List Value).toArray below meth c H locs 0 0 (MQ below (zQ A (fun v H => v = some (.float (if 0 < mcCell a then 3212836864 else mfl (mmost u a) (mmany u a (u 21 0).toNat))) ∧ mH D tc A m0 aM (if 0 < mcCell a then ms u 25 0 (mcCell a) else ms u 25 0 0) H)) ([.ref m0, .int (zi (a))] : List Value).toArray s ({ frames := 3, locals := 80, cells := 0, slots := 0 } : Room).cells ({ frames := 3, locals := 80, cells := 0, slots := 0 } : Room).slots A) (F0 m 100 ls []) from K _ 0 0 _ _ _ (Nat.lt_succ_self _) (by omega) rfl hR hS (lv_sub hl [0, 1, 2, 3, 4] rfl)
            intro fu
            induction fu with
            | zero => intro cn q H locs ls hm; exact absurd hm (Nat.not_lt_zero _)
            | succ fu ih100 =>
              intro cn q H locs ls hm hcn hq hR hS hl
              have hC := hI.2.2.2
              refine lv_iload hx hb dX6_premium_100 (lv_at hl 0 rfl) ?_
              refine lv_aload_n hx hb dX6_premium_102 rfl (lv_at hl 3 rfl) ?_
              refine m_get hx hb (q_wsX6 hT hW) hown hK hR 21 (by decide) (q_685 hT hW) (fun _ h => h) (v := .int (zi (u 21 0))) (congrArg (fun z : Int => some (Value.int (zi z))) (ms_k (by decide))) dX6_premium_103 ?_
              refine z_icmp_ge (a := (cn : Int)) (b := (u 21 0)) (tgt := 134) hx hb dX6_premium_106 (by decide) (by omega) (fun h_106 => ?_) (fun h_106 => ?_)
              · skip
                have hma : q = mmany u a (u 21 0).toNat := by rw [hq, show cn = (u 21 0).toNat by omega]
                have hfl := mfl_n g.toNat (by omega) q.toNat (by have := mmany_r (u := u) (a := a) (u 21 0).toNat; omega)
                rw [show ((g.toNat : Nat) : Int) = g by omega, show ((q.toNat : Nat) : Int) = q by have := mmany_r (u := u) (a := a) (u 21 0).toNat; omega] at hfl
                refine lv_ldcf (v := 1069547520) hx hb hown (q_844 hT hW) dX6_premium_134 ?_
                refine lv_iload_n hx hb dX6_premium_136 rfl (lv_at hl 2 rfl) ?_
                refine lv_i2f hx hb dX6_premium_137 ?_
                refine lv_fmul hx hb dX6_premium_138 hfl.1 ?_
                refine lv_ldcf (v := 1048576000) hx hb hown (q_845 hT hW) dX6_premium_139 ?_
                refine lv_iload_n hx hb dX6_premium_141 rfl (lv_at hl 1 rfl) ?_
                refine lv_i2f hx hb dX6_premium_142 ?_
                refine lv_fmul hx hb dX6_premium_143 hfl.2.1 ?_
                refine lv_fadd hx hb dX6_premium_144 hfl.2.2.1 ?_
                exact z_fret hx hb hr hlocks hS (by decide) (by decide) dX6_premium_145 ⟨by rw [← hxe, if_neg (Int.lt_irrefl 0), ← hmo, ← hma]; rfl, by rw [← hxe, if_neg (Int.lt_irrefl 0)]; exact hR⟩
              · skip
                have hC9 := hI.2.2.2 cn (by omega)
                unfold zIc at hC9
                refine lv_iload_n hx hb dX6_premium_109 rfl (lv_at hl 1 rfl) ?_
                refine lv_aload_n hx hb dX6_premium_110 rfl (lv_at hl 3 rfl) ?_
                refine m_get hx hb (q_wsX6 hT hW) hown hK hR 14 (by decide) (q_678 hT hW) (fun _ h => h) (v := .ref (aM 14)) rfl dX6_premium_111 ?_
                refine lv_iload hx hb dX6_premium_114 (lv_at hl 0 rfl) ?_
                refine m_iald (k := 14) (i := (cn : Int)) (v := u 14 cn) hx hb hK hR (by unfold mar; omega) (by decide) (by show 0 ≤ (cn : Int) ∧ (cn : Int) < ((30 : Nat) : Int); omega) (ms_k (by decide)) dX6_premium_116 ?_
                refine lv_iload_n hx hb dX6_premium_117 rfl (lv_at hl 4 rfl) ?_
                refine z_icmp_ne (a := (u 14 cn)) (b := a) (tgt := 125) hx hb dX6_premium_118 (by decide) (by omega) (fun h_118 => ?_) (fun h_118 => ?_)
                · skip
                  refine lv_iconst (v := zi (0)) hx hb dX6_premium_125 rfl ?_
                  refine z_iadd (a := q) (b := 0) hx hb dX6_premium_126 ?_
                  refine lv_istore_n (lv' := [(3, .int (zi ((q + 0)))), (4, .int (zi ((cn : Int)))), (2, .int (zi (g))), (0, .ref m0), (1, .int (zi (a)))]) hx hb dX6_premium_127 rfl hl (by decide) rfl (fun ls hl => ?_)
                  refine z_iinc (a := (cn : Int)) (n := 1) (lv' := [(4, .int (zi (((cn : Int) + 1)))), (3, .int (zi ((q + 0)))), (2, .int (zi (g))), (0, .ref m0), (1, .int (zi (a)))]) hx hb dX6_premium_128 hl (k := 1) rfl (by decide) rfl (fun ls hl => ?_)
                  refine lv_goto (tgt := 100) hx hb dX6_premium_131 (by decide) ?_
                  exact ih100 (cn + 1) (q + 0) _ _ _ (by omega) (by omega) (by unfold mmany; rw [← hq]; first | rw [if_pos (by omega)] | (rw [if_neg (by omega)])) hR hS (lv_sub hl [0, 1, 2, 3, 4] rfl)
                · skip
                  refine lv_iconst (v := zi (1)) hx hb dX6_premium_121 rfl ?_
                  refine lv_goto (tgt := 126) hx hb dX6_premium_122 (by decide) ?_
                  refine z_iadd (a := q) (b := 1) hx hb dX6_premium_126 ?_
                  refine lv_istore_n (lv' := [(3, .int (zi ((q + 1)))), (4, .int (zi ((cn : Int)))), (2, .int (zi (g))), (0, .ref m0), (1, .int (zi (a)))]) hx hb dX6_premium_127 rfl hl (by decide) rfl (fun ls hl => ?_)
                  refine z_iinc (a := (cn : Int)) (n := 1) (lv' := [(4, .int (zi (((cn : Int) + 1)))), (3, .int (zi ((q + 1)))), (2, .int (zi (g))), (0, .ref m0), (1, .int (zi (a)))]) hx hb dX6_premium_128 hl (k := 1) rfl (by decide) rfl (fun ls hl => ?_)
                  refine lv_goto (tgt := 100) hx hb dX6_premium_131 (by decide) ?_
                  exact ih100 (cn + 1) (q + 1) _ _ _ (by omega) (by omega) (by unfold mmany; rw [← hq]; first | rw [if_pos (by omega)] | (rw [if_neg (by omega)])) hR hS (lv_sub hl [0, 1, 2, 3, 4] rfl)
          · skip
            refine lv_aload_n hx hb dX6_premium_56 rfl (lv_at hl 3 rfl) ?_
            refine m_get hx hb (q_wsX6 hT hW) hown hK hR 0 (by decide) (q_664 hT hW) (fun _ h => h) (v := .ref (aM 0)) rfl dX6_premium_57 ?_
            refine lv_sipush (v := zi (1000)) hx hb dX6_premium_60 rfl ?_
            refine lv_iload_n hx hb dX6_premium_63 rfl (lv_at hl 4 rfl) ?_
            refine z_imul (a := 1000) (b := a) hx hb dX6_premium_64 ?_
            refine lv_iload hx hb dX6_premium_65 (lv_at hl 0 rfl) ?_
            refine z_iadd (a := (1000 * a)) (b := hh) hx hb dX6_premium_67 ?_
            refine m_bald (i := ((1000 * a) + hh)) (v := u 0 ((1000 * a) + hh).toNat) hx hb hK hR (by omega) (ms_k (by decide)) dX6_premium_68 ?_
            refine lv_iload_n hx hb dX6_premium_69 rfl (lv_at hl 2 rfl) ?_
            refine z_icmp_le (a := (u 0 ((1000 * a) + hh).toNat)) (b := g) (tgt := 89) hx hb dX6_premium_70 (by decide) (by omega) (fun h_70 => ?_) (fun h_70 => ?_)
            · skip
              refine lv_iload_n hx hb dX6_premium_89 rfl (lv_at hl 2 rfl) ?_
              refine lv_istore_n (lv' := [(2, .int (zi (g))), (4, .int (zi (hh))), (3, .int (zi (0))), (0, .ref m0), (1, .int (zi (a)))]) hx hb dX6_premium_90 rfl hl (by decide) rfl (fun ls hl => ?_)
              refine z_iinc (a := hh) (n := 1) (lv' := [(4, .int (zi ((hh + 1)))), (2, .int (zi (g))), (3, .int (zi (0))), (0, .ref m0), (1, .int (zi (a)))]) hx hb dX6_premium_91 hl (k := 1) rfl (by decide) rfl (fun ls hl => ?_)
              refine lv_goto (tgt := 36) hx hb dX6_premium_94 (by decide) ?_
              have hng : g = max g (u 0 (1000 * a + hh).toNat) := by omega
              exact ih36 (hh + 1) g _ _ _ (by omega) (by omega) (by rw [hng, show (hh + 1 - u 24 0).toNat = (hh - u 24 0).toNat + 1 by omega]; unfold zmax; rw [← hg, show u 24 0 + ((hh - u 24 0).toNat : Int) = hh by omega]) (by omega) hR hS (lv_sub hl [0, 2, 1, 3, 4] rfl)
            · skip
              refine lv_aload_n hx hb dX6_premium_73 rfl (lv_at hl 3 rfl) ?_
              refine m_get hx hb (q_wsX6 hT hW) hown hK hR 0 (by decide) (q_664 hT hW) (fun _ h => h) (v := .ref (aM 0)) rfl dX6_premium_74 ?_
              refine lv_sipush (v := zi (1000)) hx hb dX6_premium_77 rfl ?_
              refine lv_iload_n hx hb dX6_premium_80 rfl (lv_at hl 4 rfl) ?_
              refine z_imul (a := 1000) (b := a) hx hb dX6_premium_81 ?_
              refine lv_iload hx hb dX6_premium_82 (lv_at hl 0 rfl) ?_
              refine z_iadd (a := (1000 * a)) (b := hh) hx hb dX6_premium_84 ?_
              refine m_bald (i := ((1000 * a) + hh)) (v := u 0 ((1000 * a) + hh).toNat) hx hb hK hR (by omega) (ms_k (by decide)) dX6_premium_85 ?_
              refine lv_goto (tgt := 90) hx hb dX6_premium_86 (by decide) ?_
              refine lv_istore_n (lv' := [(2, .int (zi ((u 0 ((1000 * a) + hh).toNat)))), (4, .int (zi (hh))), (3, .int (zi (0))), (0, .ref m0), (1, .int (zi (a)))]) hx hb dX6_premium_90 rfl hl (by decide) rfl (fun ls hl => ?_)
              refine z_iinc (a := hh) (n := 1) (lv' := [(4, .int (zi ((hh + 1)))), (2, .int (zi ((u 0 ((1000 * a) + hh).toNat)))), (3, .int (zi (0))), (0, .ref m0), (1, .int (zi (a)))]) hx hb dX6_premium_91 hl (k := 1) rfl (by decide) rfl (fun ls hl => ?_)
              refine lv_goto (tgt := 36) hx hb dX6_premium_94 (by decide) ?_
              have hng : (u 0 ((1000 * a) + hh).toNat) = max g (u 0 (1000 * a + hh).toNat) := by omega
              exact ih36 (hh + 1) (u 0 ((1000 * a) + hh).toNat) _ _ _ (by omega) (by omega) (by rw [hng, show (hh + 1 - u 24 0).toNat = (hh - u 24 0).toNat + 1 by omega]; unfold zmax; rw [← hg, show u 24 0 + ((hh - u 24 0).toNat : Int) = hh by omega]) (by omega) hR hS (lv_sub hl [0, 2, 1, 3, 4] rfl)
    · skip
      refine lv_ldcf (v := 3212836864) hx hb hown (q_843 hT hW) dX6_premium_23 ?_
      exact z_fret hx hb hr hlocks hS (by decide) (by decide) dX6_premium_25 ⟨by rw [← hxe, if_pos (show 0 < x by omega)], by rw [← hxe, if_pos (show 0 < x by omega)]; exact hR⟩
  refine lv_aload_n hx hb dX6_premium_1 rfl (lv_at hl 0 rfl) ?_
  refine lv_iload_n hx hb dX6_premium_2 rfl (lv_at hl 1 rfl) ?_
  refine lv_iconst (v := zi (0)) hx hb dX6_premium_3 rfl ?_
  refine lv_bipush (v := zi (47)) hx hb dX6_premium_4 rfl ?_
  refine z_invV (n := 3) (C := RX6) (c_X6_in l hZ (u := u) (a := a) (lo := 0) (hi := 47) (by omega)) X hS hR hl.1 (q_754 hT hW) (q_7 hT hW) (q_751 hT hW) (q_753 hT hW) (q_p17 hT hW) (m_recv hK hR) (by decide +kernel) rfl ⟨Nat.le_of_ble_eq_true rfl, Nat.le_of_ble_eq_true rfl⟩ ⟨Nat.le_of_ble_eq_true rfl, Nat.le_of_ble_eq_true rfl⟩ (Nat.le_of_ble_eq_true rfl) dX6_premium_6 (fun v H locs hv hS => ?_) rfl
  obtain ⟨rfl, hR⟩ := hv
  refine z_if_eq (a := (if 0 ≤ a ∧ a ≤ 47 then 1 else 0)) (tgt := 16) hx hb dX6_premium_9 (by decide) (by omega) (fun h_9 => ?_) (fun h_9 => ?_)
  · skip
    refine lv_iconst (v := zi (1)) hx hb dX6_premium_16 rfl ?_
    exact J17 _ _ _ _ (by unfold mcCell; omega) hR hS (lv_sub hl [0, 1] rfl)
  · skip
    refine lv_iconst (v := zi (0)) hx hb dX6_premium_12 rfl ?_
    refine lv_goto (tgt := 17) hx hb dX6_premium_13 (by decide) ?_
    exact J17 _ _ _ _ (by unfold mcCell; omega) hR hS (lv_sub hl [0, 1] rfl)
