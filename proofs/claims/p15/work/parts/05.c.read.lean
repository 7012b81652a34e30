/-! the class's private methods that change nothing -/
section ZAV
variable {p : Program} {l : Launch} {e : Env} {R : Room} {s : State} {m : MethodId} {args : Array Value} {below : List Frame} {meth : Method} {c : Code} {H : Heap} {locs : List Loc} {cells slots : Nat} {Q : State → Prop}
variable {cc : ByteArray} {pc : Nat} {ls : Array Slot} {rest : List Value}
theorem z_aldv_n (hx : p.tables.exec = Jvm.exec) (hb : c.code = cc) {k : Fin 4} {i : Nat} {r : Option Nat} (hdg : decode cc pc = .ok (.aload_n k, 1)) (hi : (k : Nat) = i) (hl : ls[i]? = some (.val (va_rf r))) (kk : W p l e R s m args below meth c H locs cells slots Q (F0 m (pc + 1) ls (va_rf r :: rest))) : W p l e R s m args below meth c H locs cells slots Q (F0 m pc ls rest) := by
  cases r with
  | none => exact lv_aload_nN hx hb hdg hi hl kk
  | some x => exact lv_aload_n hx hb hdg hi hl kk
theorem z_aldv (hx : p.tables.exec = Jvm.exec) (hb : c.code = cc) {i : Nat} {r : Option Nat} (hdg : decode cc pc = .ok (.aload i, 2)) (hl : ls[i]? = some (.val (va_rf r))) (kk : W p l e R s m args below meth c H locs cells slots Q (F0 m (pc + 2) ls (va_rf r :: rest))) : W p l e R s m args below meth c H locs cells slots Q (F0 m pc ls rest) := by
  cases r with
  | none => exact lv_aloadN hx hb hdg hl kk
  | some x => exact lv_aload hx hb hdg hl kk
end ZAV
theorem zWk_at {u : zS_} {Wd : Nat → Int64} (h : zWk u Wd) {n t : Int} (r : 0 ≤ n ∧ n ≤ 47 ∧ 0 ≤ t ∧ t ≤ 999) : (zni (Wd (n * 63 + t / 16).toNat) (t % 16).toNat : Int) = u 0 (1000 * n + t).toNat := by
  have h1 := h n.toNat t.toNat (by omega) (by omega)
  have e1 : (n * 63 + t / 16).toNat = n.toNat * 63 + t.toNat / 16 := by omega
  have e2 : (t % 16).toNat = t.toNat % 16 := by omega
  have e3 : (1000 * n + t).toNat = 1000 * n.toNat + t.toNat := by omega
  rw [e1, e2, e3, h1]
theorem zhr_mh {u : zS_} {b c : Nat} (h : 0 ≤ u 3 b ∧ u 3 b ≤ 47 ∧ 0 ≤ u 14 c ∧ u 14 c ≤ 47 ∧ 1 ≤ u 4 b ∧ u 4 b ≤ 3) : zhr (u 4 b) (mway (u 3 b) (u 14 c)) = if mhours u b c ≤ 5 then mhours u b c else -1 := by
  have h1 := mway_r (a := u 3 b) (b := u 14 c) (by omega)
  unfold mhours mits
  generalize mway (u 3 b) (u 14 c) = y at h1 ⊢
  have h2 : u 4 b = 1 ∨ u 4 b = 2 ∨ u 4 b = 3 := by omega
  unfold zhr
  rcases h2 with e | e | e <;> rw [e] <;> omega
theorem mbest_y {u : zS_} {c n : Nat} (h : mcan u n c ∧ (mbest u c n < 0 ∨ mhours u n c < mhours u (mbest u c n).toNat c)) : mbest u c (n + 1) = (n : Int) := if_pos h
theorem mbest_n {u : zS_} {c n : Nat} (h : ¬ (mcan u n c ∧ (mbest u c n < 0 ∨ mhours u n c < mhours u (mbest u c n).toNat c))) : mbest u c (n + 1) = mbest u c n := if_neg h
theorem zco_n {u : zS_} {aC : Nat → Nat} {i : Nat} (h : u 9 i < 0) : zco u aC i = none := if_pos h
theorem zco_s {u : zS_} {aC : Nat → Nat} {i : Nat} (h : 0 ≤ u 9 i) : zco u aC i = some (aC (u 9 i).toNat) := if_neg (by omega)
set_option maxHeartbeats 4000000 in
set_option maxRecDepth 100000 in
theorem c_X5_hourThere (l : Launch) {S : State} {D : va_G} {tc : Nat → ClassId} {A : Nat → Prop} {dz : Nat} (hZ : zB S D tc A dz) {ad aB aC aD : Nat → Nat} {nd : Nat} {dd : Nat → Nat → Int} {Wd : Nat → Int64} {u : zS_} {w : zW} (hC : zCx tc dz ad aB aC aD nd dd Wd u w) (hI : zIn u) {i j : Nat} (hi : (i : Int) < u 13 0) (hj : (j : Int) < u 21 0) : zM l S A yX5_hourThere cX5_hourThere 6 (Option.some Jvm.ClassFile.FieldType.int) { frames := 3, locals := 80, cells := 0, slots := 0 } [.ref (ad 0), .ref (aB i), .ref (aC j)] (zR D A w) (fun v H => (∃ r : Int, v = some (.int (zi r)) ∧ (mcan u i j → r = u 24 0 + mhours u i j) ∧ (¬ mcan u i j → r = -1)) ∧ zR D A w H) := by
  refine zM.mk (by decide +kernel) (Nat.le_of_ble_eq_true rfl) ?_
  intro p e s m below meth c ls X0 hR hl
  obtain ⟨hx, hb, hml, hr, hlocks, hown, hnm, hW, hpre, hA⟩ := X0
  have X : zH S A p s m c cX5_hourThere 6 RX5 := ⟨hx, hb, hml, hown, hW, hpre, hA, hZ.2.2.1⟩
  have hT := hZ.1
  have hK := va_K.moved hW.alike hZ.2.1
  have hS : va_S A s.heap s.heap [] := va_S.rf
  have hl : lv_has ls 6 [(0, .ref (ad 0)), (1, .ref (aB i)), (2, .ref (aC j))] := hl
  skip
  have hI1 := hI.1
  obtain ⟨uo, nx, lf, hbo, hb1, hb2, hb3⟩ := hC.bo i (by omega)
  have hIb := hI.2.2.1 i (by omega)
  unfold zIb at hIb
  have hca := hC.ca j (by omega)
  have hIc := hI.2.2.2 j (by omega)
  unfold zIc at hIc
  have hmh := mhours_r (u := u) (b := i) (c := j) (by omega)
  have hmw := mway_r (a := u 3 i) (b := u 14 j) (by omega)
  refine lv_aload_n hx hb dX5_hourThere_0 rfl (lv_at hl 1 rfl) ?_
  refine lv_aload_n hx hb dX5_hourThere_1 rfl (lv_at hl 2 rfl) ?_
  refine z_get hx hb (q_wsX1 hT hW) hown hK hR hca rfl 1 (by decide) (q_421 hT hW) (fun _ h => h) rfl dX5_hourThere_2 ?_
  refine z_invV (n := 1) (C := RX0) (c_X0_wayTo l hZ hbo (n := u 14 j) (by omega)) X hS hR hl.1 (q_496 hT hW) (q_13 hT hW) (q_493 hT hW) (q_494 hT hW) (q_495 hT hW) (z_recv hK hR hbo rfl) (by decide +kernel) rfl ⟨Nat.le_of_ble_eq_true rfl, Nat.le_of_ble_eq_true rfl⟩ ⟨Nat.le_of_ble_eq_true rfl, Nat.le_of_ble_eq_true rfl⟩ (Nat.le_of_ble_eq_true rfl) dX5_hourThere_5 (fun v H locs hv hS => ?_) rfl
  obtain ⟨rfl, hR⟩ := hv
  obtain ⟨wy, hwy⟩ : ∃ wy : Int, wy = ((if 0 ≤ (u 14 j % 8 - u 3 i % 8) then (u 14 j % 8 - u 3 i % 8) else -((u 14 j % 8 - u 3 i % 8))) + (if 0 ≤ (u 14 j / 8 - u 3 i / 8) then (u 14 j / 8 - u 3 i / 8) else -((u 14 j / 8 - u 3 i / 8)))) := ⟨_, rfl⟩
  rw [← hwy]
  have hwm : wy = mway (u 3 i) (u 14 j) := by rw [hwy]; unfold mway mab; omega
  refine lv_istore_n (lv' := [(3, .int (zi (wy))), (0, .ref (ad 0)), (1, .ref (aB i)), (2, .ref (aC j))]) hx hb dX5_hourThere_8 rfl hl (by decide) rfl (fun ls hl => ?_)
  refine lv_aload_n hx hb dX5_hourThere_9 rfl (lv_at hl 2 rfl) ?_
  refine lv_iload_n hx hb dX5_hourThere_10 rfl (lv_at hl 0 rfl) ?_
  refine z_invV (n := 1) (C := RX0) (c_X0_hoursFor l hZ hbo (n := wy) (by omega)) X hS hR hl.1 (q_567 hT hW) (q_13 hT hW) (q_564 hT hW) (q_565 hT hW) (q_566 hT hW) (z_recv hK hR hbo rfl) (by decide +kernel) rfl ⟨Nat.le_of_ble_eq_true rfl, Nat.le_of_ble_eq_true rfl⟩ ⟨Nat.le_of_ble_eq_true rfl, Nat.le_of_ble_eq_true rfl⟩ (Nat.le_of_ble_eq_true rfl) dX5_hourThere_11 (fun v H locs hv hS => ?_) rfl
  obtain ⟨rfl, hR⟩ := hv
  obtain ⟨hr9, hhr⟩ : ∃ hr9 : Int, hr9 = zhr (u 4 i) wy := ⟨_, rfl⟩
  rw [← hhr]
  rw [hwm, zhr_mh (by omega)] at hhr
  refine lv_istore (lv' := [(4, .int (zi (hr9))), (3, .int (zi (wy))), (0, .ref (ad 0)), (1, .ref (aB i)), (2, .ref (aC j))]) hx hb dX5_hourThere_14 hl (by decide) rfl (fun ls hl => ?_)
  refine lv_aload_n hx hb dX5_hourThere_16 rfl (lv_at hl 3 rfl) ?_
  refine z_get hx hb (q_wsX0 hT hW) hown hK hR hbo rfl 8 (by decide) (q_260 hT hW) (fun _ h => h) rfl dX5_hourThere_17 ?_
  refine z_if_ne (a := u 8 i) (tgt := 39) hx hb dX5_hourThere_20 (by decide) (by omega) (fun h_20 => ?_) (fun h_20 => ?_)
  · skip
    refine lv_iconst (v := zi (-1)) hx hb dX5_hourThere_39 rfl ?_
    exact z_iret hx hb hr hlocks hS (by decide) (by decide) dX5_hourThere_40 ⟨⟨(-1), rfl, (fun q => by unfold mcan at q; omega), (fun _ => rfl)⟩, hR⟩
  · skip
    refine lv_iload hx hb dX5_hourThere_23 (lv_at hl 0 rfl) ?_
    refine lv_iconst (v := zi (-1)) hx hb dX5_hourThere_25 rfl ?_
    refine z_icmp_eq (a := hr9) (b := (-1)) (tgt := 39) hx hb dX5_hourThere_26 (by decide) (by omega) (fun h_26 => ?_) (fun h_26 => ?_)
    · skip
      refine lv_iconst (v := zi (-1)) hx hb dX5_hourThere_39 rfl ?_
      exact z_iret hx hb hr hlocks hS (by decide) (by decide) dX5_hourThere_40 ⟨⟨(-1), rfl, (fun q => by unfold mcan at q; omega), (fun _ => rfl)⟩, hR⟩
    · skip
      refine lv_aload_n hx hb dX5_hourThere_29 rfl (lv_at hl 3 rfl) ?_
      refine z_get hx hb (q_wsX0 hT hW) hown hK hR hbo rfl 11 (by decide) (q_266 hT hW) (fun _ h => h) rfl dX5_hourThere_30 ?_
      refine lv_iconst (v := zi (2)) hx hb dX5_hourThere_33 rfl ?_
      refine lv_iload_n hx hb dX5_hourThere_34 rfl (lv_at hl 1 rfl) ?_
      refine z_imul (a := 2) (b := wy) hx hb dX5_hourThere_35 ?_
      refine z_icmp_ge (a := u 6 i) (b := (2 * wy)) (tgt := 41) hx hb dX5_hourThere_36 (by decide) (by omega) (fun h_36 => ?_) (fun h_36 => ?_)
      · skip
        refine lv_aload_n hx hb dX5_hourThere_41 rfl (lv_at hl 2 rfl) ?_
        refine z_get hx hb (q_wsX5 hT hW) hown hK hR hC.mk rfl 4 (by decide) (q_87 hT hW) (fun _ h => h) rfl dX5_hourThere_42 ?_
        refine lv_iload hx hb dX5_hourThere_45 (lv_at hl 0 rfl) ?_
        refine z_iadd (a := u 24 0) (b := hr9) hx hb dX5_hourThere_47 ?_
        refine lv_istore (lv' := [(5, .int (zi ((u 24 0 + hr9)))), (4, .int (zi (hr9))), (3, .int (zi (wy))), (0, .ref (ad 0)), (1, .ref (aB i)), (2, .ref (aC j))]) hx hb dX5_hourThere_48 hl (by decide) rfl (fun ls hl => ?_)
        refine lv_iload hx hb dX5_hourThere_50 (lv_at hl 0 rfl) ?_
        refine lv_aload_n hx hb dX5_hourThere_52 rfl (lv_at hl 5 rfl) ?_
        refine z_get hx hb (q_wsX1 hT hW) hown hK hR hca rfl 3 (by decide) (q_425 hT hW) (fun _ h => h) rfl dX5_hourThere_53 ?_
        refine z_icmp_gt (a := (u 24 0 + hr9)) (b := u 16 j) (tgt := 84) hx hb dX5_hourThere_56 (by decide) (by omega) (fun h_56 => ?_) (fun h_56 => ?_)
        · skip
          refine lv_iconst (v := zi (-1)) hx hb dX5_hourThere_84 rfl ?_
          exact z_iret hx hb hr hlocks hS (by decide) (by decide) dX5_hourThere_85 ⟨⟨(-1), rfl, (fun q => by unfold mcan at q; omega), (fun _ => rfl)⟩, hR⟩
        · skip
          refine lv_aload_n hx hb dX5_hourThere_59 rfl (lv_at hl 3 rfl) ?_
          refine z_get hx hb (q_wsX5 hT hW) hown hK hR hC.mk rfl 0 (by decide) (q_83 hT hW) (fun _ h => h) rfl dX5_hourThere_60 ?_
          refine lv_aload_n hx hb dX5_hourThere_63 rfl (lv_at hl 5 rfl) ?_
          refine z_get hx hb (q_wsX1 hT hW) hown hK hR hca rfl 1 (by decide) (q_421 hT hW) (fun _ h => h) rfl dX5_hourThere_64 ?_
          refine lv_iload hx hb dX5_hourThere_67 (lv_at hl 0 rfl) ?_
          refine z_invV (n := 2) (C := RX4) (c_X4_at l hZ hC.we hC.wo (n := u 14 j) (h := (u 24 0 + hr9)) (by omega)) X hS hR hl.1 (q_467 hT hW) (q_2 hT hW) (q_464 hT hW) (q_465 hT hW) (q_466 hT hW) (z_recv hK hR hC.we rfl) (by decide +kernel) rfl ⟨Nat.le_of_ble_eq_true rfl, Nat.le_of_ble_eq_true rfl⟩ ⟨Nat.le_of_ble_eq_true rfl, Nat.le_of_ble_eq_true rfl⟩ (Nat.le_of_ble_eq_true rfl) dX5_hourThere_69 (fun v H locs hv hS => ?_) rfl
          obtain ⟨rfl, hR⟩ := hv
          have hwk := zWk_at hC.wk (n := u 14 j) (t := u 24 0 + hr9) (by omega)
          obtain ⟨st9, hst⟩ : ∃ st9 : Int, st9 = (zni (Wd (u 14 j * 63 + (u 24 0 + hr9) / 16).toNat) ((u 24 0 + hr9) % 16).toNat : Int) := ⟨_, rfl⟩
          rw [← hst]
          rw [hwk] at hst
          have hhm : hr9 = mhours u i j := by omega
          rw [hhm, ← Int.add_assoc] at hst
          have hs0 := hI.2.1 (1000 * u 14 j + u 24 0 + mhours u i j).toNat
          refine lv_aload_n hx hb dX5_hourThere_72 rfl (lv_at hl 4 rfl) ?_
          refine z_get hx hb (q_wsX0 hT hW) hown hK hR hbo rfl 2 (by decide) (q_251 hT hW) (fun _ h => h) rfl dX5_hourThere_73 ?_
          refine z_icmp_gt (a := st9) (b := u 7 i) (tgt := 84) hx hb dX5_hourThere_76 (by decide) (by omega) (fun h_76 => ?_) (fun h_76 => ?_)
          · skip
            refine lv_iconst (v := zi (-1)) hx hb dX5_hourThere_84 rfl ?_
            exact z_iret hx hb hr hlocks hS (by decide) (by decide) dX5_hourThere_85 ⟨⟨(-1), rfl, (fun q => by unfold mcan at q; omega), (fun _ => rfl)⟩, hR⟩
          · skip
            refine lv_iload hx hb dX5_hourThere_79 (lv_at hl 0 rfl) ?_
            refine lv_goto (tgt := 85) hx hb dX5_hourThere_81 (by decide) ?_
            exact z_iret hx hb hr hlocks hS (by decide) (by decide) dX5_hourThere_85 ⟨⟨(u 24 0 + hr9), rfl, (fun q => by unfold mcan at q; omega), (fun q => absurd (show mcan u i j from ⟨⟨by omega, by omega, by omega, by omega⟩, by omega⟩) q)⟩, hR⟩
      · skip
        refine lv_iconst (v := zi (-1)) hx hb dX5_hourThere_39 rfl ?_
        exact z_iret hx hb hr hlocks hS (by decide) (by decide) dX5_hourThere_40 ⟨⟨(-1), rfl, (fun q => by unfold mcan at q; omega), (fun _ => rfl)⟩, hR⟩
set_option maxHeartbeats 4000000 in
set_option maxRecDepth 100000 in
theorem c_X5_boatFirstThere (l : Launch) {S : State} {D : va_G} {tc : Nat → ClassId} {A : Nat → Prop} {dz : Nat} (hZ : zB S D tc A dz) {ad aB aC aD : Nat → Nat} {nd : Nat} {dd : Nat → Nat → Int} {Wd : Nat → Int64} {u : zS_} {w : zW} (hC : zCx tc dz ad aB aC aD nd dd Wd u w) (hI : zIn u) {j : Nat} (hj : (j : Int) < u 21 0) : zM l S A yX5_boatFirstThere cX5_boatFirstThere 7 (Option.some (Jvm.ClassFile.FieldType.object "Rescuemarket$Boat")) { frames := 4, locals := 110, cells := 0, slots := 0 } [.ref (ad 0), .ref (aC j)] (zR D A w) (fun v H => v = some (va_rf (if mbest u j (u 13 0).toNat < 0 then none else some (aB (mbest u j (u 13 0).toNat).toNat))) ∧ zR D A w H) := by
  refine zM.mk (by decide +kernel) (Nat.le_of_ble_eq_true rfl) ?_
  intro p e s m below meth c ls X0 hR hl
  obtain ⟨hx, hb, hml, hr, hlocks, hown, hnm, hW, hpre, hA⟩ := X0
  have X : zH S A p s m c cX5_boatFirstThere 7 RX5 := ⟨hx, hb, hml, hown, hW, hpre, hA, hZ.2.2.1⟩
  have hT := hZ.1
  have hK := va_K.moved hW.alike hZ.2.1
  have hS : va_S A s.heap s.heap [] := va_S.rf
  have hl : lv_has ls 7 [(0, .ref (ad 0)), (1, .ref (aC j))] := hl
  skip
  have hI1 := hI.1
  have hca := hC.ca j (by omega)
  have hIc := hI.2.2.2 j (by omega)
  unfold zIc at hIc
  refine lv_null hx hb dX5_boatFirstThere_0 ?_
  refine lv_astore_nN (lv' := [(2, .null), (0, .ref (ad 0)), (1, .ref (aC j))]) hx hb dX5_boatFirstThere_1 rfl hl (by decide) rfl (fun ls hl => ?_)
  refine lv_iconst (v := zi (-1)) hx hb dX5_boatFirstThere_2 rfl ?_
  refine lv_istore_n (lv' := [(3, .int (zi ((-1)))), (2, .null), (0, .ref (ad 0)), (1, .ref (aC j))]) hx hb dX5_boatFirstThere_3 rfl hl (by decide) rfl (fun ls hl => ?_)
  refine lv_iconst (v := zi (0)) hx hb dX5_boatFirstThere_4 rfl ?_
  refine lv_istore (lv' := [(4, .int (zi (0))), (3, .int (zi ((-1)))), (2, .null), (0, .ref (ad 0)), (1, .ref (aC j))]) hx hb dX5_boatFirstThere_5 hl (by decide) rfl (fun ls hl => ?_)
  suffices K : ∀ (fu : Nat) (i : Nat) (r : Option Nat) (fh : Int) (H : Heap) (locs : List Loc) (ls : Array Slot), ((u 13 0).toNat - i) < fu → ((i : Int) ≤ u 13 0) → (r = if mbest u j i < 0 then none else some (aB (mbest u j i).toNat)) → (fh = if mbest u j i < 0 then -1 else u 24 0 + mhours u (mbest u j i).toNat j) → zR D A w H → va_S A s.heap H locs → lv_has ls 7 [(4, .int (zi (((i : Nat) : Int)))), (3, .int (zi (fh))), (2, va_rf (r)), (0, .ref (ad 0)), (1, .ref (aC j))] → W p l e { frames := 4, locals := 110, cells := 0, slots := 0 } s m ([.ref (ad 0), .ref (aC j)] : List Value).toArray below meth c H locs 0 0 (MQ below (zQ A (fun v H => v = some (va_rf (if mbest u j (u 13 0).toNat < 0 then none else some (aB (mbest u j (u 13 0).toNat).toNat))) ∧ zR D A w H)) ([.ref (ad 0), .ref (aC j)] : List Value).toArray s ({ frames := 4, locals := 110, cells := 0, slots := 0 } : Room).cells ({ frames := 4, locals := 110, cells := 0, slots := 0 } : Room).slots A) (F0 m 7 ls []) from K _ 0 none (-1) _ _ _ (Nat.lt_succ_self _) (by omega) rfl rfl hR hS (lv_sub hl [0, 1, 2, 3, 4] rfl)
  intro fu
  induction fu with
  | zero => intro i r fh H locs ls hm; exact absurd hm (Nat.not_lt_zero _)
  | succ fu ih7 =>
    intro i r fh H locs ls hm hi hrb hf hR hS hl
    have hbr := mbest_r (u := u) (c := j) i
    refine lv_iload hx hb dX5_boatFirstThere_7 (lv_at hl 0 rfl) ?_
    refine lv_aload_n hx hb dX5_boatFirstThere_9 rfl (lv_at hl 3 rfl) ?_
    refine z_get hx hb (q_wsX5 hT hW) hown hK hR hC.mk rfl 2 (by decide) (q_85 hT hW) (fun _ h => h) rfl dX5_boatFirstThere_10 ?_
    refine z_sizeL hZ X hK hl.1 hC.lB hR hS (q_215 hT hW) ⟨Nat.le_of_ble_eq_true rfl, Nat.le_of_ble_eq_true rfl⟩ ⟨Nat.le_of_ble_eq_true rfl, Nat.le_of_ble_eq_true rfl⟩ (Nat.le_of_ble_eq_true rfl) dX5_boatFirstThere_13 (fun H locs hR hS => ?_)
    refine z_icmp_ge (a := ((i : Nat) : Int)) (b := (((u 13 0).toNat : Nat) : Int)) (tgt := 74) hx hb dX5_boatFirstThere_18 (by decide) (by omega) (fun h_18 => ?_) (fun h_18 => ?_)
    · skip
      have hbq : i = (u 13 0).toNat := by omega
      rw [hbq] at hrb
      refine z_aldv_n (r := r) hx hb dX5_boatFirstThere_74 rfl (lv_at hl 2 rfl) ?_
      exact z_aret (r := r) hx hb hr (Or.inl ⟨_, rfl⟩) hlocks hS (by decide) (by decide) dX5_boatFirstThere_75 ⟨by rw [hrb], hR⟩
    · skip
      refine lv_aload_n hx hb dX5_boatFirstThere_21 rfl (lv_at hl 3 rfl) ?_
      refine z_get hx hb (q_wsX5 hT hW) hown hK hR hC.mk rfl 2 (by decide) (q_85 hT hW) (fun _ h => h) rfl dX5_boatFirstThere_22 ?_
      refine lv_iload hx hb dX5_boatFirstThere_25 (lv_at hl 0 rfl) ?_
      refine z_getL (i := ((i : Nat) : Int)) hZ X hK hl.1 hC.lB hR hS (by omega) (q_367 hT hW) ⟨Nat.le_of_ble_eq_true rfl, Nat.le_of_ble_eq_true rfl⟩ ⟨Nat.le_of_ble_eq_true rfl, Nat.le_of_ble_eq_true rfl⟩ (Nat.le_of_ble_eq_true rfl) dX5_boatFirstThere_27 (fun H locs hR hS => ?_)
      obtain ⟨uo, nx, lf, hbo, hb1, hb2, hb3⟩ := hC.bo i (by omega)
      have hIb := hI.2.2.1 i (by omega)
      unfold zIb at hIb
      refine va_castS hx hb hown (q_240 hT hW) (hK.1 1 _ rfl).2 (z_recv hK hR hbo rfl) dX5_boatFirstThere_32 ?_
      refine lv_astore (lv' := [(5, .ref (aB i)), (4, .int (zi (((i : Nat) : Int)))), (3, .int (zi (fh))), (2, va_rf (r)), (0, .ref (ad 0)), (1, .ref (aC j))]) hx hb dX5_boatFirstThere_35 hl (by decide) rfl (fun ls hl => ?_)
      refine lv_aload_n hx hb dX5_boatFirstThere_37 rfl (lv_at hl 4 rfl) ?_
      refine lv_aload hx hb dX5_boatFirstThere_38 (lv_at hl 0 rfl) ?_
      refine lv_aload_n hx hb dX5_boatFirstThere_40 rfl (lv_at hl 5 rfl) ?_
      refine z_invV (n := 2) (C := RX5) (c_X5_hourThere l hZ hC hI (i := i) (j := j) (by omega) hj) X hS hR hl.1 (q_563 hT hW) (q_1 hT hW) (q_560 hT hW) (q_562 hT hW) (q_p13 hT hW) (z_recv hK hR hC.mk rfl) (by decide +kernel) rfl ⟨Nat.le_of_ble_eq_true rfl, Nat.le_of_ble_eq_true rfl⟩ ⟨Nat.le_of_ble_eq_true rfl, Nat.le_of_ble_eq_true rfl⟩ (Nat.le_of_ble_eq_true rfl) dX5_boatFirstThere_41 (fun v H locs hv hS => ?_) rfl
      obtain ⟨⟨hr9, rfl, hr1, hr0⟩, hR⟩ := hv
      have hmh := mhours_r (u := u) (b := i) (c := j) (by omega)
      have hrr : hr9 = -1 ∨ hr9 = u 24 0 + mhours u i j := by
        by_cases q : mcan u i j
        · exact Or.inr (hr1 q)
        · exact Or.inl (hr0 q)
      refine lv_istore (lv' := [(6, .int (zi (hr9))), (5, .ref (aB i)), (4, .int (zi (((i : Nat) : Int)))), (3, .int (zi (fh))), (2, va_rf (r)), (0, .ref (ad 0)), (1, .ref (aC j))]) hx hb dX5_boatFirstThere_44 hl (by decide) rfl (fun ls hl => ?_)
      refine lv_iload hx hb dX5_boatFirstThere_46 (lv_at hl 0 rfl) ?_
      refine lv_iconst (v := zi (-1)) hx hb dX5_boatFirstThere_48 rfl ?_
      refine z_icmp_eq (a := hr9) (b := (-1)) (tgt := 68) hx hb dX5_boatFirstThere_49 (by decide) (by omega) (fun h_49 => ?_) (fun h_49 => ?_)
      · skip
        refine z_iinc (a := ((i : Nat) : Int)) (n := 1) (lv' := [(4, .int (zi ((((i : Nat) : Int) + 1)))), (6, .int (zi (hr9))), (5, .ref (aB i)), (3, .int (zi (fh))), (2, va_rf (r)), (0, .ref (ad 0)), (1, .ref (aC j))]) hx hb dX5_boatFirstThere_68 hl (k := 2) rfl (by decide) rfl (fun ls hl => ?_)
        refine lv_goto (tgt := 7) hx hb dX5_boatFirstThere_71 (by decide) ?_
        have hm : mbest u j (i + 1) = mbest u j i := by
          by_cases hcn : mcan u i j
          · have q1 := hr1 hcn
            first
              | exact mbest_y ⟨hcn, by omega⟩
              | exact mbest_n (fun q => by have q2 := q.2; omega)
          · have q1 := hr0 hcn
            first
              | (exfalso; omega)
              | exact mbest_n (fun q => hcn q.1)
        exact ih7 (i + 1) r fh _ _ _ (by omega) (by omega) (by rw [hm]; exact hrb) (by rw [hm]; exact hf) hR hS (lv_sub hl [0, 3, 4, 5, 6] rfl)
      · skip
        by_cases hb0 : mbest u j i < 0
        · skip
          have hrn : r = none := by rw [hrb, if_pos hb0]
          subst hrn
          have hl : lv_has ls 7 [(6, .int (zi (hr9))), (5, .ref (aB i)), (4, .int (zi (((i : Nat) : Int)))), (3, .int (zi (fh))), (2, .null), (0, .ref (ad 0)), (1, .ref (aC j))] := hl
          refine lv_aload_nN hx hb dX5_boatFirstThere_52 rfl (lv_at hl 4 rfl) ?_
          refine lv_ifnullN (tgt := 62) hx hb dX5_boatFirstThere_53 (by decide) ?_
          refine lv_aload hx hb dX5_boatFirstThere_62 (lv_at hl 1 rfl) ?_
          refine lv_astore_n (lv' := [(2, .ref (aB i)), (6, .int (zi (hr9))), (5, .ref (aB i)), (4, .int (zi (((i : Nat) : Int)))), (3, .int (zi (fh))), (0, .ref (ad 0)), (1, .ref (aC j))]) hx hb dX5_boatFirstThere_64 rfl hl (by decide) rfl (fun ls hl => ?_)
          refine lv_iload hx hb dX5_boatFirstThere_65 (lv_at hl 1 rfl) ?_
          refine lv_istore_n (lv' := [(3, .int (zi (hr9))), (2, .ref (aB i)), (6, .int (zi (hr9))), (5, .ref (aB i)), (4, .int (zi (((i : Nat) : Int)))), (0, .ref (ad 0)), (1, .ref (aC j))]) hx hb dX5_boatFirstThere_67 rfl hl (by decide) rfl (fun ls hl => ?_)
          refine z_iinc (a := ((i : Nat) : Int)) (n := 1) (lv' := [(4, .int (zi ((((i : Nat) : Int) + 1)))), (3, .int (zi (hr9))), (2, .ref (aB i)), (6, .int (zi (hr9))), (5, .ref (aB i)), (0, .ref (ad 0)), (1, .ref (aC j))]) hx hb dX5_boatFirstThere_68 hl (k := 4) rfl (by decide) rfl (fun ls hl => ?_)
          refine lv_goto (tgt := 7) hx hb dX5_boatFirstThere_71 (by decide) ?_
          have hm : mbest u j (i + 1) = (i : Int) := by
            by_cases hcn : mcan u i j
            · have q1 := hr1 hcn
              first
                | exact mbest_y ⟨hcn, by omega⟩
                | exact mbest_n (fun q => by have q2 := q.2; omega)
            · have q1 := hr0 hcn
              first
                | (exfalso; omega)
                | exact mbest_n (fun q => hcn q.1)
          exact ih7 (i + 1) (some (aB i)) hr9 _ _ _ (by omega) (by omega) (by rw [hm, if_neg (by omega)]; rfl) (by rw [hm, if_neg (by omega)]; show hr9 = u 24 0 + mhours u i j; omega) hR hS (lv_sub hl [0, 1, 2, 5, 6] rfl)
        · skip
          have hrn : r = some (aB (mbest u j i).toNat) := by rw [hrb, if_neg hb0]
          have hBb := hI.2.2.1 (mbest u j i).toNat (by omega)
          unfold zIb at hBb
          have hmb := mhours_r (u := u) (b := (mbest u j i).toNat) (c := j) (by omega)
          subst hrn
          have hl : lv_has ls 7 [(6, .int (zi (hr9))), (5, .ref (aB i)), (4, .int (zi (((i : Nat) : Int)))), (3, .int (zi (fh))), (2, .ref (aB (mbest u j i).toNat)), (0, .ref (ad 0)), (1, .ref (aC j))] := hl
          refine lv_aload_n hx hb dX5_boatFirstThere_52 rfl (lv_at hl 4 rfl) ?_
          refine lv_ifnull hx hb dX5_boatFirstThere_53 ?_
          refine lv_iload hx hb dX5_boatFirstThere_56 (lv_at hl 0 rfl) ?_
          refine lv_iload_n hx hb dX5_boatFirstThere_58 rfl (lv_at hl 3 rfl) ?_
          refine z_icmp_ge (a := hr9) (b := fh) (tgt := 68) hx hb dX5_boatFirstThere_59 (by decide) (by omega) (fun h_59 => ?_) (fun h_59 => ?_)
          · skip
            refine z_iinc (a := ((i : Nat) : Int)) (n := 1) (lv' := [(4, .int (zi ((((i : Nat) : Int) + 1)))), (6, .int (zi (hr9))), (5, .ref (aB i)), (3, .int (zi (fh))), (2, .ref (aB (mbest u j i).toNat)), (0, .ref (ad 0)), (1, .ref (aC j))]) hx hb dX5_boatFirstThere_68 hl (k := 2) rfl (by decide) rfl (fun ls hl => ?_)
            refine lv_goto (tgt := 7) hx hb dX5_boatFirstThere_71 (by decide) ?_
            have hm : mbest u j (i + 1) = mbest u j i := by
              by_cases hcn : mcan u i j
              · have q1 := hr1 hcn
                first
                  | exact mbest_y ⟨hcn, by omega⟩
                  | exact mbest_n (fun q => by have q2 := q.2; omega)
              · have q1 := hr0 hcn
                first
                  | (exfalso; omega)
                  | exact mbest_n (fun q => hcn q.1)
            exact ih7 (i + 1) (some (aB (mbest u j i).toNat)) fh _ _ _ (by omega) (by omega) (by rw [hm]; exact hrb) (by rw [hm]; exact hf) hR hS (lv_sub hl [0, 3, 4, 5, 6] rfl)
          · skip
            refine lv_aload hx hb dX5_boatFirstThere_62 (lv_at hl 1 rfl) ?_
            refine lv_astore_n (lv' := [(2, .ref (aB i)), (6, .int (zi (hr9))), (5, .ref (aB i)), (4, .int (zi (((i : Nat) : Int)))), (3, .int (zi (fh))), (0, .ref (ad 0)), (1, .ref (aC j))]) hx hb dX5_boatFirstThere_64 rfl hl (by decide) rfl (fun ls hl => ?_)
            refine lv_iload hx hb dX5_boatFirstThere_65 (lv_at hl 1 rfl) ?_
            refine lv_istore_n (lv' := [(3, .int (zi (hr9))), (2, .ref (aB i)), (6, .int (zi (hr9))), (5, .ref (aB i)), (4, .int (zi (((i : Nat) : Int)))), (0, .ref (ad 0)), (1, .ref (aC j))]) hx hb dX5_boatFirstThere_67 rfl hl (by decide) rfl (fun ls hl => ?_)
            refine z_iinc (a := ((i : Nat) : Int)) (n := 1) (lv' := [(4, .int (zi ((((i : Nat) : Int) + 1)))), (3, .int (zi (hr9))), (2, .ref (aB i)), (6, .int (zi (hr9))), (5, .ref (aB i)), (0, .ref (ad 0)), (1, .ref (aC j))]) hx hb dX5_boatFirstThere_68 hl (k := 4) rfl (by decide) rfl (fun ls hl => ?_)
            refine lv_goto (tgt := 7) hx hb dX5_boatFirstThere_71 (by decide) ?_
            have hm : mbest u j (i + 1) = (i : Int) := by
              by_cases hcn : mcan u i j
              · have q1 := hr1 hcn
                first
                  | exact mbest_y ⟨hcn, by omega⟩
                  | exact mbest_n (fun q => by have q2 := q.2; omega)
              · have q1 := hr0 hcn
                first
                  | (exfalso; omega)
                  | exact mbest_n (fun q => hcn q.1)
            exact ih7 (i + 1) (some (aB i)) hr9 _ _ _ (by omega) (by omega) (by rw [hm, if_neg (by omega)]; rfl) (by rw [hm, if_neg (by omega)]; show hr9 = u 24 0 + mhours u i j; omega) hR hS (lv_sub hl [0, 1, 2, 5, 6] rfl)
