/-! the class's private methods over the boats and the calls -/
theorem ms_cg {u v : zS_} {k j k' j' : Nat} {x : Int} (h : u k' j' = v k' j') : ms u k j x k' j' = ms v k j x k' j' := by
  unfold ms; rw [h]
theorem ms_ne {u : zS_} {k j k' j' : Nat} {x : Int} (h : ¬ (k' = k ∧ j' = j)) : ms u k j x k' j' = u k' j' := if_neg h
section ZBK
variable {tc : Nat → ClassId} {dz : Nat} {ad aB aC aD : Nat → Nat} {nd : Nat} {dd : Nat → Nat → Int} {Wd : Nat → Int64} {u v : zS_} {w : zW}
theorem zBk_of {a i : Nat} {c1 c7 c3 c4 c5 c2 uo st nx fu lf : Int} {co : Option Nat} (hw : w a = some (zBo ((i : Nat) : Int) c1 c7 c3 c4 c5 c2 uo st co nx fu lf)) (e1 : v 1 i = c1) (e7 : v 7 i = c7) (e3 : v 3 i = c3) (e4 : v 4 i = c4) (e5 : v 5 i = c5) (e2 : v 2 i = c2) (e8 : v 8 i = st) (eco : zco v aC i = co) (e6 : v 6 i = fu) (h9 : 0 ≤ v 9 i → uo = v 12 i) (hf : v 8 i = 0 → nx = -1) (hn : v 8 i ≠ 0 → nx = v 11 i ∧ lf = v 10 i) : zBk v aC w a i :=
  ⟨uo, nx, lf, by rw [e1, e7, e3, e4, e5, e2, e8, eco, e6]; exact hw, h9, hf, hn⟩
theorem zCk_of {a j : Nat} {c14 c15 c16 c17 c19 c20 : Int} {bo : Option Nat} (hw : w a = some (zCa ((j : Nat) : Int) c14 c15 c16 c17 bo c19 c20)) (e14 : v 14 j = c14) (e15 : v 15 j = c15) (e16 : v 16 j = c16) (e17 : v 17 j = c17) (ebo : zbo v aB j = bo) (e19 : v 19 j = c19) (e20 : v 20 j = c20) : zCk v aB w a j := by
  unfold zCk
  rw [e14, e15, e16, e17, ebo, e19, e20]; exact hw
theorem zmt_y {b : Nat} (h : 0 ≤ u 9 b ∧ u 7 b < u 0 (1000 * u 14 (u 9 b).toNat + u 11 b).toNat) : mturn u b = ms (ms (ms (ms u 17 (u 9 b).toNat 0) 9 b (-1)) 11 b (u 24 0 + (u 24 0 - u 10 b))) 6 b (u 6 b - (if u 6 b < 2 * u 4 b * (u 24 0 - u 10 b) then u 6 b else 2 * u 4 b * (u 24 0 - u 10 b))) := if_pos h
theorem zmt_n {b : Nat} (h : ¬ (0 ≤ u 9 b ∧ u 7 b < u 0 (1000 * u 14 (u 9 b).toNat + u 11 b).toNat)) : mturn u b = u := if_neg h
end ZBK
set_option maxHeartbeats 4000000 in
set_option maxRecDepth 100000 in
theorem c_X5_turnBoatsBack (l : Launch) {S : State} {D : va_G} {tc : Nat → ClassId} {A : Nat → Prop} {dz : Nat} (hZ : zB S D tc A dz) {ad aB aC aD : Nat → Nat} {nd : Nat} {dd : Nat → Nat → Int} {Wd : Nat → Int64} {u : zS_} {w : zW} (hC : zCx tc dz ad aB aC aD nd dd Wd u w) (hI : zIn u)  : zM l S A yX5_turnBoatsBack cX5_turnBoatsBack 4 (Option.none : Option Jvm.ClassFile.FieldType) { frames := 4, locals := 130, cells := 0, slots := 0 } [.ref (ad 0)] (zR D A w) (fun v H => v = none ∧ ∃ w' : zW, zCx tc dz ad aB aC aD nd dd Wd (mh2 u) w' ∧ zR D A w' H) := by
  refine zM.mk (by decide +kernel) (Nat.le_of_ble_eq_true rfl) ?_
  intro p e s m below meth c ls X0 hR hl
  obtain ⟨hx, hb, hml, hr, hlocks, hown, hnm, hW, hpre, hA⟩ := X0
  have X : zH S A p s m c cX5_turnBoatsBack 4 RX5 := ⟨hx, hb, hml, hown, hW, hpre, hA, hZ.2.2.1⟩
  have hT := hZ.1
  have hK := va_K.moved hW.alike hZ.2.1
  have hS : va_S A s.heap s.heap [] := va_S.rf
  have hl : lv_has ls 4 [(0, .ref (ad 0))] := hl
  skip
  have hI1 := hI.1
  refine lv_iconst (v := zi (0)) hx hb dX5_turnBoatsBack_0 rfl ?_
  refine lv_istore_n (lv' := [(1, .int (zi (0))), (0, .ref (ad 0))]) hx hb dX5_turnBoatsBack_1 rfl hl (by decide) rfl (fun ls hl => ?_)
  have hI0 := hI
  suffices K : ∀ (fu : Nat) (i : Nat) (U : zS_) (w1 : zW) (H : Heap) (locs : List Loc) (ls : Array Slot), ((u 13 0).toNat - i) < fu → ((i : Int) ≤ u 13 0) → (U = zfold mturn u i) → (zCx tc dz ad aB aC aD nd dd Wd U w1) → zR D A w1 H → va_S A s.heap H locs → lv_has ls 4 [(1, .int (zi (((i : Nat) : Int)))), (0, .ref (ad 0))] → W p l e { frames := 4, locals := 130, cells := 0, slots := 0 } s m ([.ref (ad 0)] : List Value).toArray below meth c H locs 0 0 (MQ below (zQ A (fun v H => v = none ∧ ∃ w' : zW, zCx tc dz ad aB aC aD nd dd Wd (mh2 u) w' ∧ zR D A w' H)) ([.ref (ad 0)] : List Value).toArray s ({ frames := 4, locals := 130, cells := 0, slots := 0 } : Room).cells ({ frames := 4, locals := 130, cells := 0, slots := 0 } : Room).slots A) (F0 m 2 ls []) from K _ 0 u w _ _ _ (Nat.lt_succ_self _) (by omega) rfl hC hR hS (lv_sub hl [0, 1] rfl)
  intro fu
  induction fu with
  | zero => intro i U w1 H locs ls hm; exact absurd hm (Nat.not_lt_zero _)
  | succ fu ih2 =>
    intro i U w1 H locs ls hm hi hU hC hR hS hl
    have hIp := mh2_p hI0 (n := i) hi
    rw [show zfold mturn u i = U from hU.symm] at hIp
    obtain ⟨hI, hc13, hc21, hc24, hc23⟩ := hIp
    have hI1 := hI.1
    refine lv_iload_n hx hb dX5_turnBoatsBack_2 rfl (lv_at hl 0 rfl) ?_
    refine lv_aload_n hx hb dX5_turnBoatsBack_3 rfl (lv_at hl 1 rfl) ?_
    refine z_get hx hb (q_wsX5 hT hW) hown hK hR hC.mk rfl 2 (by decide) (q_85 hT hW) (fun _ h => h) rfl dX5_turnBoatsBack_4 ?_
    refine z_sizeL hZ X hK hl.1 hC.lB hR hS (q_215 hT hW) ⟨Nat.le_of_ble_eq_true rfl, Nat.le_of_ble_eq_true rfl⟩ ⟨Nat.le_of_ble_eq_true rfl, Nat.le_of_ble_eq_true rfl⟩ (Nat.le_of_ble_eq_true rfl) dX5_turnBoatsBack_7 (fun H locs hR hS => ?_)
    refine z_icmp_ge (a := ((i : Nat) : Int)) (b := (((U 13 0).toNat : Nat) : Int)) (tgt := 79) hx hb dX5_turnBoatsBack_12 (by decide) (by omega) (fun h_12 => ?_) (fun h_12 => ?_)
    · skip
      have hbq : i = (u 13 0).toNat := by omega
      have hU2 : U = mh2 u := by rw [hU]; unfold mh2; rw [← hbq]
      exact z_vret hx hb hr hlocks hS (by decide) (by decide) dX5_turnBoatsBack_79 ⟨rfl, w1, by rw [← hU2]; exact hC, hR⟩
    · skip
      refine lv_aload_n hx hb dX5_turnBoatsBack_15 rfl (lv_at hl 1 rfl) ?_
      refine z_get hx hb (q_wsX5 hT hW) hown hK hR hC.mk rfl 2 (by decide) (q_85 hT hW) (fun _ h => h) rfl dX5_turnBoatsBack_16 ?_
      refine lv_iload_n hx hb dX5_turnBoatsBack_19 rfl (lv_at hl 0 rfl) ?_
      refine z_getL (i := ((i : Nat) : Int)) hZ X hK hl.1 hC.lB hR hS (by omega) (q_367 hT hW) ⟨Nat.le_of_ble_eq_true rfl, Nat.le_of_ble_eq_true rfl⟩ ⟨Nat.le_of_ble_eq_true rfl, Nat.le_of_ble_eq_true rfl⟩ (Nat.le_of_ble_eq_true rfl) dX5_turnBoatsBack_20 (fun H locs hR hS => ?_)
      obtain ⟨uo, nx, lf, hbo, hb1, hb2, hb3⟩ := hC.bo i (by omega)
      have hIb := hI.2.2.1 i (by omega)
      unfold zIb at hIb
      refine va_castS hx hb hown (q_240 hT hW) (hK.1 1 _ rfl).2 (z_recv hK hR hbo rfl) dX5_turnBoatsBack_25 ?_
      refine lv_astore_n (lv' := [(2, .ref (aB i)), (1, .int (zi (((i : Nat) : Int)))), (0, .ref (ad 0))]) hx hb dX5_turnBoatsBack_28 rfl hl (by decide) rfl (fun ls hl => ?_)
      refine lv_aload_n hx hb dX5_turnBoatsBack_29 rfl (lv_at hl 0 rfl) ?_
      by_cases h9 : U 9 i < 0
      · skip
        rw [zco_n h9] at hbo
        refine z_get hx hb (q_wsX0 hT hW) hown hK hR hbo rfl 9 (by decide) (q_262 hT hW) (fun _ h => h) rfl dX5_turnBoatsBack_30 ?_
        refine lv_astore_nN (lv' := [(3, .null), (2, .ref (aB i)), (1, .int (zi (((i : Nat) : Int)))), (0, .ref (ad 0))]) hx hb dX5_turnBoatsBack_33 rfl hl (by decide) rfl (fun ls hl => ?_)
        refine lv_aload_nN hx hb dX5_turnBoatsBack_34 rfl (lv_at hl 0 rfl) ?_
        refine lv_ifnullN (tgt := 73) hx hb dX5_turnBoatsBack_35 (by decide) ?_
        refine z_iinc (a := ((i : Nat) : Int)) (n := 1) (lv' := [(1, .int (zi ((((i : Nat) : Int) + 1)))), (3, .null), (2, .ref (aB i)), (0, .ref (ad 0))]) hx hb dX5_turnBoatsBack_73 hl (k := 2) rfl (by decide) rfl (fun ls hl => ?_)
        refine lv_goto (tgt := 2) hx hb dX5_turnBoatsBack_76 (by decide) ?_
        have hm : zfold mturn u (i + 1) = U := by rw [hU]; exact zmt_n (by rw [← hU]; omega)
        exact ih2 (i + 1) U w1 _ _ _ (by omega) (by omega) hm.symm hC hR hS (lv_sub hl [0, 3] rfl)
      · skip
        rw [zco_s (by omega)] at hbo
        have hca := hC.ca (U 9 i).toNat (by omega)
        have hIc := hI.2.2.2 (U 9 i).toNat (by omega)
        unfold zIc at hIc
        refine z_get hx hb (q_wsX0 hT hW) hown hK hR hbo rfl 9 (by decide) (q_262 hT hW) (fun _ h => h) rfl dX5_turnBoatsBack_30 ?_
        refine lv_astore_n (lv' := [(3, .ref (aC (U 9 i).toNat)), (2, .ref (aB i)), (1, .int (zi (((i : Nat) : Int)))), (0, .ref (ad 0))]) hx hb dX5_turnBoatsBack_33 rfl hl (by decide) rfl (fun ls hl => ?_)
        refine lv_aload_n hx hb dX5_turnBoatsBack_34 rfl (lv_at hl 0 rfl) ?_
        refine lv_ifnull hx hb dX5_turnBoatsBack_35 ?_
        refine lv_aload_n hx hb dX5_turnBoatsBack_38 rfl (lv_at hl 3 rfl) ?_
        refine z_get hx hb (q_wsX5 hT hW) hown hK hR hC.mk rfl 0 (by decide) (q_83 hT hW) (fun _ h => h) rfl dX5_turnBoatsBack_39 ?_
        refine lv_aload_n hx hb dX5_turnBoatsBack_42 rfl (lv_at hl 0 rfl) ?_
        refine z_get hx hb (q_wsX1 hT hW) hown hK hR hca rfl 1 (by decide) (q_421 hT hW) (fun _ h => h) rfl dX5_turnBoatsBack_43 ?_
        refine lv_aload_n hx hb dX5_turnBoatsBack_46 rfl (lv_at hl 1 rfl) ?_
        refine z_get hx hb (q_wsX0 hT hW) hown hK hR hbo rfl 10 (by decide) (q_264 hT hW) (fun _ h => h) rfl dX5_turnBoatsBack_47 ?_
        obtain ⟨hnx, hlf⟩ := hb3 (by omega)
        refine z_invV (n := 2) (C := RX4) (c_X4_at l hZ hC.we hC.wo (n := U 14 (U 9 i).toNat) (h := nx) (by omega)) X hS hR hl.1 (q_467 hT hW) (q_2 hT hW) (q_464 hT hW) (q_465 hT hW) (q_466 hT hW) (z_recv hK hR hC.we rfl) (by decide +kernel) rfl ⟨Nat.le_of_ble_eq_true rfl, Nat.le_of_ble_eq_true rfl⟩ ⟨Nat.le_of_ble_eq_true rfl, Nat.le_of_ble_eq_true rfl⟩ (Nat.le_of_ble_eq_true rfl) dX5_turnBoatsBack_50 (fun v H locs hv hS => ?_) rfl
        obtain ⟨rfl, hR⟩ := hv
        have hwk := zWk_at hC.wk (n := U 14 (U 9 i).toNat) (t := nx) (by omega)
        obtain ⟨st9, hst⟩ : ∃ st9 : Int, st9 = (zni (Wd (U 14 (U 9 i).toNat * 63 + nx / 16).toNat) (nx % 16).toNat : Int) := ⟨_, rfl⟩
        rw [← hst]
        rw [hwk, hnx] at hst
        have hs0 := hI.2.1 (1000 * U 14 (U 9 i).toNat + U 11 i).toNat
        refine lv_aload_n hx hb dX5_turnBoatsBack_53 rfl (lv_at hl 1 rfl) ?_
        refine z_get hx hb (q_wsX0 hT hW) hown hK hR hbo rfl 2 (by decide) (q_251 hT hW) (fun _ h => h) rfl dX5_turnBoatsBack_54 ?_
        refine z_icmp_le (a := st9) (b := U 7 i) (tgt := 73) hx hb dX5_turnBoatsBack_57 (by decide) (by omega) (fun h_57 => ?_) (fun h_57 => ?_)
        · skip
          refine z_iinc (a := ((i : Nat) : Int)) (n := 1) (lv' := [(1, .int (zi ((((i : Nat) : Int) + 1)))), (3, .ref (aC (U 9 i).toNat)), (2, .ref (aB i)), (0, .ref (ad 0))]) hx hb dX5_turnBoatsBack_73 hl (k := 2) rfl (by decide) rfl (fun ls hl => ?_)
          refine lv_goto (tgt := 2) hx hb dX5_turnBoatsBack_76 (by decide) ?_
          have hm : zfold mturn u (i + 1) = U := by rw [hU]; exact zmt_n (by rw [← hU]; omega)
          exact ih2 (i + 1) U w1 _ _ _ (by omega) (by omega) hm.symm hC hR hS (lv_sub hl [0, 3] rfl)
        · skip
          refine lv_aload_n hx hb dX5_turnBoatsBack_60 rfl (lv_at hl 1 rfl) ?_
          refine lv_aload_n hx hb dX5_turnBoatsBack_61 rfl (lv_at hl 3 rfl) ?_
          refine z_get hx hb (q_wsX5 hT hW) hown hK hR hC.mk rfl 4 (by decide) (q_87 hT hW) (fun _ h => h) rfl dX5_turnBoatsBack_62 ?_
          have hsp : U 4 i = 1 ∨ U 4 i = 2 ∨ U 4 i = 3 := by omega
          have hbu : 0 ≤ 2 * U 4 i * (U 24 0 - lf) ∧ 2 * U 4 i * (U 24 0 - lf) ≤ 1000000 := by rcases hsp with q | q | q <;> rw [q] <;> omega
          refine z_invV (n := 1) (C := RX0) (c_X0_turnBack l hZ hbo (h := U 24 0) (by omega)) X hS hR hl.1 (q_471 hT hW) (q_13 hT hW) (q_468 hT hW) (q_469 hT hW) (q_470 hT hW) (z_recv hK hR hbo rfl) (by decide +kernel) rfl ⟨Nat.le_of_ble_eq_true rfl, Nat.le_of_ble_eq_true rfl⟩ ⟨Nat.le_of_ble_eq_true rfl, Nat.le_of_ble_eq_true rfl⟩ (Nat.le_of_ble_eq_true rfl) dX5_turnBoatsBack_65 (fun v H locs hv hS => ?_) rfl
          obtain ⟨rfl, hR⟩ := hv
          have hR : zR D A (zu w1 (aB i) (.inr (1, [.int (zi (((i : Nat) : Int))), .int (zi (U 1 i)), .int (zi (U 7 i)), .int (zi (U 3 i)), .int (zi (U 4 i)), .int (zi (U 5 i)), .int (zi (U 2 i)), .int (zi (uo)), .int (zi (U 8 i)), .null, .int (zi ((U 24 0 + (U 24 0 - lf)))), .int (zi ((U 6 i - (min (2 * U 4 i * (U 24 0 - lf)) (U 6 i))))), .int (zi (lf))]))) H := hR
          have he_1 : (zu w1 (aB i) (.inr (1, [.int (zi (((i : Nat) : Int))), .int (zi (U 1 i)), .int (zi (U 7 i)), .int (zi (U 3 i)), .int (zi (U 4 i)), .int (zi (U 5 i)), .int (zi (U 2 i)), .int (zi (uo)), .int (zi (U 8 i)), .null, .int (zi ((U 24 0 + (U 24 0 - lf)))), .int (zi ((U 6 i - (min (2 * U 4 i * (U 24 0 - lf)) (U 6 i))))), .int (zi (lf))]))) (aB i) = some (.inr (1, [.int (zi (((i : Nat) : Int))), .int (zi (U 1 i)), .int (zi (U 7 i)), .int (zi (U 3 i)), .int (zi (U 4 i)), .int (zi (U 5 i)), .int (zi (U 2 i)), .int (zi (uo)), .int (zi (U 8 i)), .null, .int (zi ((U 24 0 + (U 24 0 - lf)))), .int (zi ((U 6 i - (min (2 * U 4 i * (U 24 0 - lf)) (U 6 i))))), .int (zi (lf))])) := zu_eq
          have he_2 : (zu w1 (aB i) (.inr (1, [.int (zi (((i : Nat) : Int))), .int (zi (U 1 i)), .int (zi (U 7 i)), .int (zi (U 3 i)), .int (zi (U 4 i)), .int (zi (U 5 i)), .int (zi (U 2 i)), .int (zi (uo)), .int (zi (U 8 i)), .null, .int (zi ((U 24 0 + (U 24 0 - lf)))), .int (zi ((U 6 i - (min (2 * U 4 i * (U 24 0 - lf)) (U 6 i))))), .int (zi (lf))]))) (ad 1) = some (.inr (5, [.ref (ad 2)])) := (zu_ne (zne hC.we hbo (by intro z; cases z))).trans hC.we
          have he_3 : (zu w1 (aB i) (.inr (1, [.int (zi (((i : Nat) : Int))), .int (zi (U 1 i)), .int (zi (U 7 i)), .int (zi (U 3 i)), .int (zi (U 4 i)), .int (zi (U 5 i)), .int (zi (U 2 i)), .int (zi (uo)), .int (zi (U 8 i)), .null, .int (zi ((U 24 0 + (U 24 0 - lf)))), .int (zi ((U 6 i - (min (2 * U 4 i * (U 24 0 - lf)) (U 6 i))))), .int (zi (lf))]))) (ad 0) = some (.inr (6, [.ref (ad 1), .ref (ad 3), .ref (ad 5), .ref (ad 6), .int (zi (U 24 0)), .int (zi (U 23 0))])) := (zu_ne (zne hC.mk hbo (by intro z; cases z))).trans hC.mk
          have he_4 : (zu w1 (aB i) (.inr (1, [.int (zi (((i : Nat) : Int))), .int (zi (U 1 i)), .int (zi (U 7 i)), .int (zi (U 3 i)), .int (zi (U 4 i)), .int (zi (U 5 i)), .int (zi (U 2 i)), .int (zi (uo)), .int (zi (U 8 i)), .null, .int (zi ((U 24 0 + (U 24 0 - lf)))), .int (zi ((U 6 i - (min (2 * U 4 i * (U 24 0 - lf)) (U 6 i))))), .int (zi (lf))]))) (aC (U 9 i).toNat) = some (.inr (2, [.int (zi ((((U 9 i).toNat : Nat) : Int))), .int (zi (U 14 (U 9 i).toNat)), .int (zi (U 15 (U 9 i).toNat)), .int (zi (U 16 (U 9 i).toNat)), .int (zi (U 17 (U 9 i).toNat)), va_rf (zbo U aB (U 9 i).toNat), .int (zi (U 19 (U 9 i).toNat)), .int (zi (U 20 (U 9 i).toNat))])) := (zu_ne (zne hca hbo (by intro z; cases z))).trans hca
          refine lv_aload_n hx hb dX5_turnBoatsBack_68 rfl (lv_at hl 0 rfl) ?_
          refine lv_iconst (v := zi (0)) hx hb dX5_turnBoatsBack_69 rfl ?_
          refine z_put hx hb (q_wsX1 hT hW) tyX1 tyX1_ok nmX1 hown hK hR hS he_4 rfl 4 (by decide) (q_427 hT hW) (fun _ h => h) rfl (tyX1_ok 4 (by decide)) rfl rfl (Nat.le_of_ble_eq_true rfl) dX5_turnBoatsBack_70 (fun H locs hR hS => ?_)
          have hR : zR D A (zu (zu w1 (aB i) (.inr (1, [.int (zi (((i : Nat) : Int))), .int (zi (U 1 i)), .int (zi (U 7 i)), .int (zi (U 3 i)), .int (zi (U 4 i)), .int (zi (U 5 i)), .int (zi (U 2 i)), .int (zi (uo)), .int (zi (U 8 i)), .null, .int (zi ((U 24 0 + (U 24 0 - lf)))), .int (zi ((U 6 i - (min (2 * U 4 i * (U 24 0 - lf)) (U 6 i))))), .int (zi (lf))]))) (aC (U 9 i).toNat) (.inr (2, [.int (zi ((((U 9 i).toNat : Nat) : Int))), .int (zi (U 14 (U 9 i).toNat)), .int (zi (U 15 (U 9 i).toNat)), .int (zi (U 16 (U 9 i).toNat)), .int (zi (0)), va_rf (zbo U aB (U 9 i).toNat), .int (zi (U 19 (U 9 i).toNat)), .int (zi (U 20 (U 9 i).toNat))]))) H := hR
          have he_5 : (zu (zu w1 (aB i) (.inr (1, [.int (zi (((i : Nat) : Int))), .int (zi (U 1 i)), .int (zi (U 7 i)), .int (zi (U 3 i)), .int (zi (U 4 i)), .int (zi (U 5 i)), .int (zi (U 2 i)), .int (zi (uo)), .int (zi (U 8 i)), .null, .int (zi ((U 24 0 + (U 24 0 - lf)))), .int (zi ((U 6 i - (min (2 * U 4 i * (U 24 0 - lf)) (U 6 i))))), .int (zi (lf))]))) (aC (U 9 i).toNat) (.inr (2, [.int (zi ((((U 9 i).toNat : Nat) : Int))), .int (zi (U 14 (U 9 i).toNat)), .int (zi (U 15 (U 9 i).toNat)), .int (zi (U 16 (U 9 i).toNat)), .int (zi (0)), va_rf (zbo U aB (U 9 i).toNat), .int (zi (U 19 (U 9 i).toNat)), .int (zi (U 20 (U 9 i).toNat))]))) (aC (U 9 i).toNat) = some (.inr (2, [.int (zi ((((U 9 i).toNat : Nat) : Int))), .int (zi (U 14 (U 9 i).toNat)), .int (zi (U 15 (U 9 i).toNat)), .int (zi (U 16 (U 9 i).toNat)), .int (zi (0)), va_rf (zbo U aB (U 9 i).toNat), .int (zi (U 19 (U 9 i).toNat)), .int (zi (U 20 (U 9 i).toNat))])) := zu_eq
          have he_6 : (zu (zu w1 (aB i) (.inr (1, [.int (zi (((i : Nat) : Int))), .int (zi (U 1 i)), .int (zi (U 7 i)), .int (zi (U 3 i)), .int (zi (U 4 i)), .int (zi (U 5 i)), .int (zi (U 2 i)), .int (zi (uo)), .int (zi (U 8 i)), .null, .int (zi ((U 24 0 + (U 24 0 - lf)))), .int (zi ((U 6 i - (min (2 * U 4 i * (U 24 0 - lf)) (U 6 i))))), .int (zi (lf))]))) (aC (U 9 i).toNat) (.inr (2, [.int (zi ((((U 9 i).toNat : Nat) : Int))), .int (zi (U 14 (U 9 i).toNat)), .int (zi (U 15 (U 9 i).toNat)), .int (zi (U 16 (U 9 i).toNat)), .int (zi (0)), va_rf (zbo U aB (U 9 i).toNat), .int (zi (U 19 (U 9 i).toNat)), .int (zi (U 20 (U 9 i).toNat))]))) (ad 1) = some (.inr (5, [.ref (ad 2)])) := (zu_ne (zne hC.we hca (by intro z; cases z))).trans he_2
          have he_7 : (zu (zu w1 (aB i) (.inr (1, [.int (zi (((i : Nat) : Int))), .int (zi (U 1 i)), .int (zi (U 7 i)), .int (zi (U 3 i)), .int (zi (U 4 i)), .int (zi (U 5 i)), .int (zi (U 2 i)), .int (zi (uo)), .int (zi (U 8 i)), .null, .int (zi ((U 24 0 + (U 24 0 - lf)))), .int (zi ((U 6 i - (min (2 * U 4 i * (U 24 0 - lf)) (U 6 i))))), .int (zi (lf))]))) (aC (U 9 i).toNat) (.inr (2, [.int (zi ((((U 9 i).toNat : Nat) : Int))), .int (zi (U 14 (U 9 i).toNat)), .int (zi (U 15 (U 9 i).toNat)), .int (zi (U 16 (U 9 i).toNat)), .int (zi (0)), va_rf (zbo U aB (U 9 i).toNat), .int (zi (U 19 (U 9 i).toNat)), .int (zi (U 20 (U 9 i).toNat))]))) (ad 0) = some (.inr (6, [.ref (ad 1), .ref (ad 3), .ref (ad 5), .ref (ad 6), .int (zi (U 24 0)), .int (zi (U 23 0))])) := (zu_ne (zne hC.mk hca (by intro z; cases z))).trans he_3
          have he_8 : (zu (zu w1 (aB i) (.inr (1, [.int (zi (((i : Nat) : Int))), .int (zi (U 1 i)), .int (zi (U 7 i)), .int (zi (U 3 i)), .int (zi (U 4 i)), .int (zi (U 5 i)), .int (zi (U 2 i)), .int (zi (uo)), .int (zi (U 8 i)), .null, .int (zi ((U 24 0 + (U 24 0 - lf)))), .int (zi ((U 6 i - (min (2 * U 4 i * (U 24 0 - lf)) (U 6 i))))), .int (zi (lf))]))) (aC (U 9 i).toNat) (.inr (2, [.int (zi ((((U 9 i).toNat : Nat) : Int))), .int (zi (U 14 (U 9 i).toNat)), .int (zi (U 15 (U 9 i).toNat)), .int (zi (U 16 (U 9 i).toNat)), .int (zi (0)), va_rf (zbo U aB (U 9 i).toNat), .int (zi (U 19 (U 9 i).toNat)), .int (zi (U 20 (U 9 i).toNat))]))) (aB i) = some (.inr (1, [.int (zi (((i : Nat) : Int))), .int (zi (U 1 i)), .int (zi (U 7 i)), .int (zi (U 3 i)), .int (zi (U 4 i)), .int (zi (U 5 i)), .int (zi (U 2 i)), .int (zi (uo)), .int (zi (U 8 i)), .null, .int (zi ((U 24 0 + (U 24 0 - lf)))), .int (zi ((U 6 i - (min (2 * U 4 i * (U 24 0 - lf)) (U 6 i))))), .int (zi (lf))])) := (zu_ne (zne hbo hca (by intro z; cases z))).trans he_1
          refine z_iinc (a := ((i : Nat) : Int)) (n := 1) (lv' := [(1, .int (zi ((((i : Nat) : Int) + 1)))), (3, .ref (aC (U 9 i).toNat)), (2, .ref (aB i)), (0, .ref (ad 0))]) hx hb dX5_turnBoatsBack_73 hl (k := 2) rfl (by decide) rfl (fun ls hl => ?_)
          refine lv_goto (tgt := 2) hx hb dX5_turnBoatsBack_76 (by decide) ?_
          have hm : zfold mturn u (i + 1) = mturn U i := by rw [hU]; rfl
          rw [zmt_y ⟨by omega, by omega⟩] at hm
          have hC1 : zCx tc dz ad aB aC aD nd dd Wd (ms (ms (ms U 9 i (-1)) 11 i (U 24 0 + (U 24 0 - U 10 i))) 6 i (U 6 i - (if U 6 i < 2 * U 4 i * (U 24 0 - U 10 i) then U 6 i else 2 * U 4 i * (U 24 0 - U 10 i)))) (zu w1 (aB i) (.inr (1, [.int (zi (((i : Nat) : Int))), .int (zi (U 1 i)), .int (zi (U 7 i)), .int (zi (U 3 i)), .int (zi (U 4 i)), .int (zi (U 5 i)), .int (zi (U 2 i)), .int (zi (uo)), .int (zi (U 8 i)), .null, .int (zi ((U 24 0 + (U 24 0 - lf)))), .int (zi ((U 6 i - (min (2 * U 4 i * (U 24 0 - lf)) (U 6 i))))), .int (zi (lf))]))) := hC.boat (by omega) (by omega) (fun k j h => (ms_ne (by omega)).trans ((ms_ne (by omega)).trans (ms_ne (by omega)))) (zBk_of zu_eq (by first | rfl | exact ms_s | simp [ms]) (by first | rfl | exact ms_s | simp [ms]) (by first | rfl | exact ms_s | simp [ms]) (by first | rfl | exact ms_s | simp [ms]) (by first | rfl | exact ms_s | simp [ms]) (by first | rfl | exact ms_s | simp [ms]) (by first | rfl | exact ms_s | simp [ms]) (zco_n (by rw [show (ms (ms (ms U 9 i (-1)) 11 i (U 24 0 + (U 24 0 - U 10 i))) 6 i (U 6 i - (if U 6 i < 2 * U 4 i * (U 24 0 - U 10 i) then U 6 i else 2 * U 4 i * (U 24 0 - U 10 i)))) 9 i = -1 from (by first | rfl | exact ms_s | simp [ms])]; omega)) (by
              rw [show (ms (ms (ms U 9 i (-1)) 11 i (U 24 0 + (U 24 0 - U 10 i))) 6 i (U 6 i - (if U 6 i < 2 * U 4 i * (U 24 0 - U 10 i) then U 6 i else 2 * U 4 i * (U 24 0 - U 10 i)))) 6 i = _ from ms_s, hlf]
              congr 1
              omega) (fun q => absurd q (by rw [show (ms (ms (ms U 9 i (-1)) 11 i (U 24 0 + (U 24 0 - U 10 i))) 6 i (U 6 i - (if U 6 i < 2 * U 4 i * (U 24 0 - U 10 i) then U 6 i else 2 * U 4 i * (U 24 0 - U 10 i)))) 9 i = -1 from (by first | rfl | exact ms_s | simp [ms])]; omega)) (fun q => absurd (show U 8 i = 0 from q) (by omega)) (fun _ => ⟨by rw [show (ms (ms (ms U 9 i (-1)) 11 i (U 24 0 + (U 24 0 - U 10 i))) 6 i (U 6 i - (if U 6 i < 2 * U 4 i * (U 24 0 - U 10 i) then U 6 i else 2 * U 4 i * (U 24 0 - U 10 i)))) 11 i = _ from (ms_k (by decide)).trans ms_s, hlf], hlf⟩))
          have hC2 : zCx tc dz ad aB aC aD nd dd Wd (zfold mturn u (i + 1)) (zu (zu w1 (aB i) (.inr (1, [.int (zi (((i : Nat) : Int))), .int (zi (U 1 i)), .int (zi (U 7 i)), .int (zi (U 3 i)), .int (zi (U 4 i)), .int (zi (U 5 i)), .int (zi (U 2 i)), .int (zi (uo)), .int (zi (U 8 i)), .null, .int (zi ((U 24 0 + (U 24 0 - lf)))), .int (zi ((U 6 i - (min (2 * U 4 i * (U 24 0 - lf)) (U 6 i))))), .int (zi (lf))]))) (aC (U 9 i).toNat) (.inr (2, [.int (zi ((((U 9 i).toNat : Nat) : Int))), .int (zi (U 14 (U 9 i).toNat)), .int (zi (U 15 (U 9 i).toNat)), .int (zi (U 16 (U 9 i).toNat)), .int (zi (0)), va_rf (zbo U aB (U 9 i).toNat), .int (zi (U 19 (U 9 i).toNat)), .int (zi (U 20 (U 9 i).toNat))]))) := hC1.call (i := (U 9 i).toNat) (by show U 21 0 ≤ 30; omega) (by show _ < (U 21 0).toNat; omega) (u' := zfold mturn u (i + 1)) (fun k j h => by rw [hm]; exact ms_cg (ms_cg (ms_cg (ms_ne (by omega))))) (zCk_of zu_eq (by rw [hm]; rfl) (by rw [hm]; rfl) (by rw [hm]; rfl) (by rw [hm]; simp [ms]) (by rw [hm]; rfl) (by rw [hm]; rfl) (by rw [hm]; rfl))
          exact ih2 (i + 1) (zfold mturn u (i + 1)) _ _ _ _ (by omega) (by omega) rfl hC2 hR hS (lv_sub hl [0, 3] rfl)
set_option maxHeartbeats 4000000 in
set_option maxRecDepth 100000 in
theorem c_X5_freeBoatsThatRested (l : Launch) {S : State} {D : va_G} {tc : Nat → ClassId} {A : Nat → Prop} {dz : Nat} (hZ : zB S D tc A dz) {ad aB aC aD : Nat → Nat} {nd : Nat} {dd : Nat → Nat → Int} {Wd : Nat → Int64} {u : zS_} {w : zW} (hC : zCx tc dz ad aB aC aD nd dd Wd u w) (hI : zIn u)  : zM l S A yX5_freeBoatsThatRested cX5_freeBoatsThatRested 3 (Option.none : Option Jvm.ClassFile.FieldType) { frames := 4, locals := 130, cells := 0, slots := 0 } [.ref (ad 0)] (zR D A w) (fun v H => v = none ∧ ∃ w' : zW, zCx tc dz ad aB aC aD nd dd Wd (mh4 u) w' ∧ zR D A w' H) := by
  refine zM.mk (by decide +kernel) (Nat.le_of_ble_eq_true rfl) ?_
  intro p e s m below meth c ls X0 hR hl
  obtain ⟨hx, hb, hml, hr, hlocks, hown, hnm, hW, hpre, hA⟩ := X0
  have X : zH S A p s m c cX5_freeBoatsThatRested 3 RX5 := ⟨hx, hb, hml, hown, hW, hpre, hA, hZ.2.2.1⟩
  have hT := hZ.1
  have hK := va_K.moved hW.alike hZ.2.1
  have hS : va_S A s.heap s.heap [] := va_S.rf
  have hl : lv_has ls 3 [(0, .ref (ad 0))] := hl
  skip
  have hI1 := hI.1
  refine lv_iconst (v := zi (0)) hx hb dX5_freeBoatsThatRested_0 rfl ?_
  refine lv_istore_n (lv' := [(1, .int (zi (0))), (0, .ref (ad 0))]) hx hb dX5_freeBoatsThatRested_1 rfl hl (by decide) rfl (fun ls hl => ?_)
  have hI0 := hI
  suffices K : ∀ (fu : Nat) (i : Nat) (U : zS_) (w1 : zW) (H : Heap) (locs : List Loc) (ls : Array Slot), ((u 13 0).toNat - i) < fu → ((i : Int) ≤ u 13 0) → (U = zfold mfree u i) → (zCx tc dz ad aB aC aD nd dd Wd U w1) → zR D A w1 H → va_S A s.heap H locs → lv_has ls 3 [(1, .int (zi (((i : Nat) : Int)))), (0, .ref (ad 0))] → W p l e { frames := 4, locals := 130, cells := 0, slots := 0 } s m ([.ref (ad 0)] : List Value).toArray below meth c H locs 0 0 (MQ below (zQ A (fun v H => v = none ∧ ∃ w' : zW, zCx tc dz ad aB aC aD nd dd Wd (mh4 u) w' ∧ zR D A w' H)) ([.ref (ad 0)] : List Value).toArray s ({ frames := 4, locals := 130, cells := 0, slots := 0 } : Room).cells ({ frames := 4, locals := 130, cells := 0, slots := 0 } : Room).slots A) (F0 m 2 ls []) from K _ 0 u w _ _ _ (Nat.lt_succ_self _) (by omega) rfl hC hR hS (lv_sub hl [0, 1] rfl)
  intro fu
  induction fu with
  | zero => intro i U w1 H locs ls hm; exact absurd hm (Nat.not_lt_zero _)
  | succ fu ih2 =>
    intro i U w1 H locs ls hm hi hU hC hR hS hl
    have hIp := mh4_p hI0 (n := i) hi
    rw [show zfold mfree u i = U from hU.symm] at hIp
    obtain ⟨hI, hc13, hc21, hc24, hc23⟩ := hIp
    have hI1 := hI.1
    refine lv_iload_n hx hb dX5_freeBoatsThatRested_2 rfl (lv_at hl 0 rfl) ?_
    refine lv_aload_n hx hb dX5_freeBoatsThatRested_3 rfl (lv_at hl 1 rfl) ?_
    refine z_get hx hb (q_wsX5 hT hW) hown hK hR hC.mk rfl 2 (by decide) (q_85 hT hW) (fun _ h => h) rfl dX5_freeBoatsThatRested_4 ?_
    refine z_sizeL hZ X hK hl.1 hC.lB hR hS (q_215 hT hW) ⟨Nat.le_of_ble_eq_true rfl, Nat.le_of_ble_eq_true rfl⟩ ⟨Nat.le_of_ble_eq_true rfl, Nat.le_of_ble_eq_true rfl⟩ (Nat.le_of_ble_eq_true rfl) dX5_freeBoatsThatRested_7 (fun H locs hR hS => ?_)
    refine z_icmp_ge (a := ((i : Nat) : Int)) (b := (((U 13 0).toNat : Nat) : Int)) (tgt := 58) hx hb dX5_freeBoatsThatRested_12 (by decide) (by omega) (fun h_12 => ?_) (fun h_12 => ?_)
    · skip
      have hbq : i = (u 13 0).toNat := by omega
      have hU2 : U = mh4 u := by rw [hU]; unfold mh4; rw [← hbq]
      exact z_vret hx hb hr hlocks hS (by decide) (by decide) dX5_freeBoatsThatRested_58 ⟨rfl, w1, by rw [← hU2]; exact hC, hR⟩
    · skip
      refine lv_aload_n hx hb dX5_freeBoatsThatRested_15 rfl (lv_at hl 1 rfl) ?_
      refine z_get hx hb (q_wsX5 hT hW) hown hK hR hC.mk rfl 2 (by decide) (q_85 hT hW) (fun _ h => h) rfl dX5_freeBoatsThatRested_16 ?_
      refine lv_iload_n hx hb dX5_freeBoatsThatRested_19 rfl (lv_at hl 0 rfl) ?_
      refine z_getL (i := ((i : Nat) : Int)) hZ X hK hl.1 hC.lB hR hS (by omega) (q_367 hT hW) ⟨Nat.le_of_ble_eq_true rfl, Nat.le_of_ble_eq_true rfl⟩ ⟨Nat.le_of_ble_eq_true rfl, Nat.le_of_ble_eq_true rfl⟩ (Nat.le_of_ble_eq_true rfl) dX5_freeBoatsThatRested_20 (fun H locs hR hS => ?_)
      obtain ⟨uo, nx, lf, hbo, hb1, hb2, hb3⟩ := hC.bo i (by omega)
      have hIb := hI.2.2.1 i (by omega)
      unfold zIb at hIb
      refine va_castS hx hb hown (q_240 hT hW) (hK.1 1 _ rfl).2 (z_recv hK hR hbo rfl) dX5_freeBoatsThatRested_25 ?_
      refine lv_astore_n (lv' := [(2, .ref (aB i)), (1, .int (zi (((i : Nat) : Int)))), (0, .ref (ad 0))]) hx hb dX5_freeBoatsThatRested_28 rfl hl (by decide) rfl (fun ls hl => ?_)
      refine lv_aload_n hx hb dX5_freeBoatsThatRested_29 rfl (lv_at hl 0 rfl) ?_
      refine z_get hx hb (q_wsX0 hT hW) hown hK hR hbo rfl 8 (by decide) (q_260 hT hW) (fun _ h => h) rfl dX5_freeBoatsThatRested_30 ?_
      refine lv_iconst (v := zi (2)) hx hb dX5_freeBoatsThatRested_33 rfl ?_
      refine z_icmp_ne (a := U 8 i) (b := 2) (tgt := 52) hx hb dX5_freeBoatsThatRested_34 (by decide) (by omega) (fun h_34 => ?_) (fun h_34 => ?_)
      · skip
        refine z_iinc (a := ((i : Nat) : Int)) (n := 1) (lv' := [(1, .int (zi ((((i : Nat) : Int) + 1)))), (2, .ref (aB i)), (0, .ref (ad 0))]) hx hb dX5_freeBoatsThatRested_52 hl (k := 1) rfl (by decide) rfl (fun ls hl => ?_)
        refine lv_goto (tgt := 2) hx hb dX5_freeBoatsThatRested_55 (by decide) ?_
        have hm : zfold mfree u (i + 1) = U := by
          show mfree (zfold mfree u i) i = _
          rw [← hU, mfree_n (by omega), ms_id]
        exact ih2 (i + 1) U w1 _ _ _ (by omega) (by omega) hm.symm hC hR hS (lv_sub hl [0, 2] rfl)
      · skip
        obtain ⟨hnx, hlf⟩ := hb3 (by omega)
        refine lv_aload_n hx hb dX5_freeBoatsThatRested_37 rfl (lv_at hl 0 rfl) ?_
        refine z_get hx hb (q_wsX0 hT hW) hown hK hR hbo rfl 10 (by decide) (q_264 hT hW) (fun _ h => h) rfl dX5_freeBoatsThatRested_38 ?_
        refine lv_aload_n hx hb dX5_freeBoatsThatRested_41 rfl (lv_at hl 2 rfl) ?_
        refine z_get hx hb (q_wsX5 hT hW) hown hK hR hC.mk rfl 4 (by decide) (q_87 hT hW) (fun _ h => h) rfl dX5_freeBoatsThatRested_42 ?_
        refine z_icmp_ne (a := nx) (b := U 24 0) (tgt := 52) hx hb dX5_freeBoatsThatRested_45 (by decide) (by omega) (fun h_45 => ?_) (fun h_45 => ?_)
        · skip
          refine z_iinc (a := ((i : Nat) : Int)) (n := 1) (lv' := [(1, .int (zi ((((i : Nat) : Int) + 1)))), (2, .ref (aB i)), (0, .ref (ad 0))]) hx hb dX5_freeBoatsThatRested_52 hl (k := 1) rfl (by decide) rfl (fun ls hl => ?_)
          refine lv_goto (tgt := 2) hx hb dX5_freeBoatsThatRested_55 (by decide) ?_
          have hm : zfold mfree u (i + 1) = U := by
            show mfree (zfold mfree u i) i = _
            rw [← hU, mfree_n (by omega), ms_id]
          exact ih2 (i + 1) U w1 _ _ _ (by omega) (by omega) hm.symm hC hR hS (lv_sub hl [0, 2] rfl)
        · skip
          refine lv_aload_n hx hb dX5_freeBoatsThatRested_48 rfl (lv_at hl 0 rfl) ?_
          refine z_invV (n := 0) (C := RX0) (c_X0_becomeFree l hZ hbo) X hS hR hl.1 (q_551 hT hW) (q_13 hT hW) (q_548 hT hW) (q_549 hT hW) (q_550 hT hW) (z_recv hK hR hbo rfl) (by decide +kernel) rfl ⟨Nat.le_of_ble_eq_true rfl, Nat.le_of_ble_eq_true rfl⟩ ⟨Nat.le_of_ble_eq_true rfl, Nat.le_of_ble_eq_true rfl⟩ (Nat.le_of_ble_eq_true rfl) dX5_freeBoatsThatRested_49 (fun v H locs hv hS => ?_) rfl
          obtain ⟨rfl, hR⟩ := hv
          have hR : zR D A (zu w1 (aB i) (.inr (1, [.int (zi (((i : Nat) : Int))), .int (zi (U 1 i)), .int (zi (U 7 i)), .int (zi (U 3 i)), .int (zi (U 4 i)), .int (zi (U 5 i)), .int (zi (U 2 i)), .int (zi (uo)), .int (zi (0)), va_rf (zco U aC i), .int (zi ((-1))), .int (zi (U 6 i)), .int (zi (lf))]))) H := hR
          have he_1 : (zu w1 (aB i) (.inr (1, [.int (zi (((i : Nat) : Int))), .int (zi (U 1 i)), .int (zi (U 7 i)), .int (zi (U 3 i)), .int (zi (U 4 i)), .int (zi (U 5 i)), .int (zi (U 2 i)), .int (zi (uo)), .int (zi (0)), va_rf (zco U aC i), .int (zi ((-1))), .int (zi (U 6 i)), .int (zi (lf))]))) (aB i) = some (.inr (1, [.int (zi (((i : Nat) : Int))), .int (zi (U 1 i)), .int (zi (U 7 i)), .int (zi (U 3 i)), .int (zi (U 4 i)), .int (zi (U 5 i)), .int (zi (U 2 i)), .int (zi (uo)), .int (zi (0)), va_rf (zco U aC i), .int (zi ((-1))), .int (zi (U 6 i)), .int (zi (lf))])) := zu_eq
          have he_2 : (zu w1 (aB i) (.inr (1, [.int (zi (((i : Nat) : Int))), .int (zi (U 1 i)), .int (zi (U 7 i)), .int (zi (U 3 i)), .int (zi (U 4 i)), .int (zi (U 5 i)), .int (zi (U 2 i)), .int (zi (uo)), .int (zi (0)), va_rf (zco U aC i), .int (zi ((-1))), .int (zi (U 6 i)), .int (zi (lf))]))) (ad 0) = some (.inr (6, [.ref (ad 1), .ref (ad 3), .ref (ad 5), .ref (ad 6), .int (zi (U 24 0)), .int (zi (U 23 0))])) := (zu_ne (zne hC.mk hbo (by intro z; cases z))).trans hC.mk
          refine z_iinc (a := ((i : Nat) : Int)) (n := 1) (lv' := [(1, .int (zi ((((i : Nat) : Int) + 1)))), (2, .ref (aB i)), (0, .ref (ad 0))]) hx hb dX5_freeBoatsThatRested_52 hl (k := 1) rfl (by decide) rfl (fun ls hl => ?_)
          refine lv_goto (tgt := 2) hx hb dX5_freeBoatsThatRested_55 (by decide) ?_
          have hm : zfold mfree u (i + 1) = (ms U 8 i 0) := by
            show mfree (zfold mfree u i) i = _
            rw [← hU]; exact mfree_y ⟨by omega, by omega⟩
          have hC1 : zCx tc dz ad aB aC aD nd dd Wd (ms U 8 i 0) (zu w1 (aB i) (.inr (1, [.int (zi (((i : Nat) : Int))), .int (zi (U 1 i)), .int (zi (U 7 i)), .int (zi (U 3 i)), .int (zi (U 4 i)), .int (zi (U 5 i)), .int (zi (U 2 i)), .int (zi (uo)), .int (zi (0)), va_rf (zco U aC i), .int (zi ((-1))), .int (zi (U 6 i)), .int (zi (lf))]))) := hC.boat (by omega) (by omega) (fun k j h => ms_ne (by omega)) (zBk_of zu_eq rfl rfl rfl rfl rfl rfl ms_s rfl rfl hb1 (fun _ => rfl) (fun q => absurd ms_s q))
          exact ih2 (i + 1) (zfold mfree u (i + 1)) _ _ _ _ (by omega) (by omega) rfl (by rw [hm]; exact hC1) hR hS (lv_sub hl [0, 2] rfl)
theorem mtasks_y {u : zS_} {c b : Nat} (h : mbest u c (u 13 0).toNat = (b : Int)) : mtasks u c = ms (ms (ms (ms (ms (ms (ms (ms u 8 b 1) 9 b (c : Int)) 10 b (u 24 0)) 11 b (u 24 0 + mhours u b c)) 12 b (u 2 b)) 17 c 1) 18 c (b : Int)) 19 c (u 19 c + 1) := by
  unfold mtasks; rw [h]; exact if_pos (by omega)
theorem mtasks_n {u : zS_} {c : Nat} (h : mbest u c (u 13 0).toNat < 0) : mtasks u c = u := if_neg (by omega)
theorem zco_i {v : zS_} {aC : Nat → Nat} {i c : Nat} (h : v 9 i = (c : Int)) : zco v aC i = some (aC c) := by
  unfold zco; rw [h, if_neg (by omega)]; rfl
theorem zbo_i {v : zS_} {aB : Nat → Nat} {j b : Nat} (h : v 18 j = (b : Int)) : zbo v aB j = some (aB b) := by
  unfold zbo; rw [h, if_neg (by omega)]; rfl
set_option maxHeartbeats 4000000 in
set_option maxRecDepth 100000 in
theorem c_task0 (l : Launch) {S : State} {D : va_G} {tc : Nat → ClassId} {A : Nat → Prop} {dz : Nat} (hZ : zB S D tc A dz) {ad aB aC aD : Nat → Nat} {nd : Nat} {dd : Nat → Nat → Int} {Wd : Nat → Int64} {u : zS_} {w : zW} (hC : zCx tc dz ad aB aC aD nd dd Wd u w) (hI : zIn u) {j : Nat} : zM l S A yX5_task cX5_task 3 (Option.none : Option Jvm.ClassFile.FieldType) { frames := 1, locals := 20, cells := 0, slots := 0 } [.ref (ad 0), .null, .ref (aC j)] (zR D A w) (fun v H => v = none ∧ zR D A w H) := by
  refine zM.mk (by decide +kernel) (Nat.le_of_ble_eq_true rfl) ?_
  intro p e s m below meth c ls X0 hR hl
  obtain ⟨hx, hb, hml, hr, hlocks, hown, hnm, hW, hpre, hA⟩ := X0
  have X : zH S A p s m c cX5_task 3 RX5 := ⟨hx, hb, hml, hown, hW, hpre, hA, hZ.2.2.1⟩
  have hT := hZ.1
  have hK := va_K.moved hW.alike hZ.2.1
  have hS : va_S A s.heap s.heap [] := va_S.rf
  have hl : lv_has ls 3 [(0, .ref (ad 0)), (1, .null), (2, .ref (aC j))] := hl
  skip
  refine lv_aload_nN hx hb dX5_task_0 rfl (lv_at hl 1 rfl) ?_
  refine lv_ifnullN (tgt := 39) hx hb dX5_task_1 (by decide) ?_
  exact z_vret hx hb hr hlocks hS (by decide) (by decide) dX5_task_39 ⟨rfl, hR⟩
set_option maxHeartbeats 4000000 in
set_option maxRecDepth 100000 in
theorem c_task1 (l : Launch) {S : State} {D : va_G} {tc : Nat → ClassId} {A : Nat → Prop} {dz : Nat} (hZ : zB S D tc A dz) {ad aB aC aD : Nat → Nat} {nd : Nat} {dd : Nat → Nat → Int} {Wd : Nat → Int64} {u : zS_} {w : zW} (hC : zCx tc dz ad aB aC aD nd dd Wd u w) (hI : zIn u) {i j : Nat} (hj : (j : Int) < u 21 0) (hbi : mbest u j (u 13 0).toNat = (i : Int)) : zM l S A yX5_task cX5_task 3 (Option.none : Option Jvm.ClassFile.FieldType) { frames := 4, locals := 110, cells := 0, slots := 0 } [.ref (ad 0), .ref (aB i), .ref (aC j)] (zR D A w) (fun v H => v = none ∧ ∃ w' : zW, zCx tc dz ad aB aC aD nd dd Wd (mtasks u j) w' ∧ zR D A w' H) := by
  refine zM.mk (by decide +kernel) (Nat.le_of_ble_eq_true rfl) ?_
  intro p e s m below meth c ls X0 hR hl
  obtain ⟨hx, hb, hml, hr, hlocks, hown, hnm, hW, hpre, hA⟩ := X0
  have X : zH S A p s m c cX5_task 3 RX5 := ⟨hx, hb, hml, hown, hW, hpre, hA, hZ.2.2.1⟩
  have hT := hZ.1
  have hK := va_K.moved hW.alike hZ.2.1
  have hS : va_S A s.heap s.heap [] := va_S.rf
  have hl : lv_has ls 3 [(0, .ref (ad 0)), (1, .ref (aB i)), (2, .ref (aC j))] := hl
  skip
  have hI1 := hI.1
  have hbr := mbest_r (u := u) (c := j) (u 13 0).toNat
  have hi : (i : Int) < u 13 0 := by omega
  have hcan := mbest_can (u := u) (c := j) (u 13 0).toNat (by omega)
  rw [hbi, zn_nat] at hcan
  obtain ⟨uo, nx, lf, hbo, hb1, hb2, hb3⟩ := hC.bo i (by omega)
  have hIb := hI.2.2.1 i (by omega)
  unfold zIb at hIb
  have hca := hC.ca j (by omega)
  have hIc := hI.2.2.2 j (by omega)
  unfold zIc at hIc
  refine lv_aload_n hx hb dX5_task_0 rfl (lv_at hl 1 rfl) ?_
  refine lv_ifnull hx hb dX5_task_1 ?_
  refine lv_aload_n hx hb dX5_task_4 rfl (lv_at hl 1 rfl) ?_
  refine lv_aload_n hx hb dX5_task_5 rfl (lv_at hl 2 rfl) ?_
  refine lv_aload_n hx hb dX5_task_6 rfl (lv_at hl 0 rfl) ?_
  refine z_get hx hb (q_wsX5 hT hW) hown hK hR hC.mk rfl 4 (by decide) (q_87 hT hW) (fun _ h => h) rfl dX5_task_7 ?_
  refine lv_aload_n hx hb dX5_task_10 rfl (lv_at hl 0 rfl) ?_
  refine lv_aload_n hx hb dX5_task_11 rfl (lv_at hl 1 rfl) ?_
  refine lv_aload_n hx hb dX5_task_12 rfl (lv_at hl 2 rfl) ?_
  refine z_invV (n := 2) (C := RX5) (c_X5_hourThere l hZ hC hI (i := i) (j := j) hi hj) X hS hR hl.1 (q_563 hT hW) (q_1 hT hW) (q_560 hT hW) (q_562 hT hW) (q_p13 hT hW) (z_recv hK hR hC.mk rfl) (by decide +kernel) rfl ⟨Nat.le_of_ble_eq_true rfl, Nat.le_of_ble_eq_true rfl⟩ ⟨Nat.le_of_ble_eq_true rfl, Nat.le_of_ble_eq_true rfl⟩ (Nat.le_of_ble_eq_true rfl) dX5_task_13 (fun v H locs hv hS => ?_) rfl
  obtain ⟨⟨hr9, rfl, hr1, hr0⟩, hR⟩ := hv
  have hr2 := hr1 hcan
  subst hr2
  refine z_invV (n := 3) (C := RX0) (c_X0_leaveFor l hZ hbo (ca := aC j) (h := u 24 0) (th := u 24 0 + mhours u i j)) X hS hR hl.1 (q_575 hT hW) (q_13 hT hW) (q_572 hT hW) (q_573 hT hW) (q_574 hT hW) (z_recv hK hR hbo rfl) (by decide +kernel) rfl ⟨Nat.le_of_ble_eq_true rfl, Nat.le_of_ble_eq_true rfl⟩ ⟨Nat.le_of_ble_eq_true rfl, Nat.le_of_ble_eq_true rfl⟩ (Nat.le_of_ble_eq_true rfl) dX5_task_16 (fun v H locs hv hS => ?_) rfl
  obtain ⟨rfl, hR⟩ := hv
  have hR : zR D A (zu w (aB i) (.inr (1, [.int (zi (((i : Nat) : Int))), .int (zi (u 1 i)), .int (zi (u 7 i)), .int (zi (u 3 i)), .int (zi (u 4 i)), .int (zi (u 5 i)), .int (zi (u 2 i)), .int (zi (u 2 i)), .int (zi (1)), .ref (aC j), .int (zi ((u 24 0 + mhours u i j))), .int (zi (u 6 i)), .int (zi (u 24 0))]))) H := hR
  have he_1 : (zu w (aB i) (.inr (1, [.int (zi (((i : Nat) : Int))), .int (zi (u 1 i)), .int (zi (u 7 i)), .int (zi (u 3 i)), .int (zi (u 4 i)), .int (zi (u 5 i)), .int (zi (u 2 i)), .int (zi (u 2 i)), .int (zi (1)), .ref (aC j), .int (zi ((u 24 0 + mhours u i j))), .int (zi (u 6 i)), .int (zi (u 24 0))]))) (aB i) = some (.inr (1, [.int (zi (((i : Nat) : Int))), .int (zi (u 1 i)), .int (zi (u 7 i)), .int (zi (u 3 i)), .int (zi (u 4 i)), .int (zi (u 5 i)), .int (zi (u 2 i)), .int (zi (u 2 i)), .int (zi (1)), .ref (aC j), .int (zi ((u 24 0 + mhours u i j))), .int (zi (u 6 i)), .int (zi (u 24 0))])) := zu_eq
  have he_2 : (zu w (aB i) (.inr (1, [.int (zi (((i : Nat) : Int))), .int (zi (u 1 i)), .int (zi (u 7 i)), .int (zi (u 3 i)), .int (zi (u 4 i)), .int (zi (u 5 i)), .int (zi (u 2 i)), .int (zi (u 2 i)), .int (zi (1)), .ref (aC j), .int (zi ((u 24 0 + mhours u i j))), .int (zi (u 6 i)), .int (zi (u 24 0))]))) (ad 0) = some (.inr (6, [.ref (ad 1), .ref (ad 3), .ref (ad 5), .ref (ad 6), .int (zi (u 24 0)), .int (zi (u 23 0))])) := (zu_ne (zne hC.mk hbo (by intro z; cases z))).trans hC.mk
  have he_3 : (zu w (aB i) (.inr (1, [.int (zi (((i : Nat) : Int))), .int (zi (u 1 i)), .int (zi (u 7 i)), .int (zi (u 3 i)), .int (zi (u 4 i)), .int (zi (u 5 i)), .int (zi (u 2 i)), .int (zi (u 2 i)), .int (zi (1)), .ref (aC j), .int (zi ((u 24 0 + mhours u i j))), .int (zi (u 6 i)), .int (zi (u 24 0))]))) (aC j) = some (.inr (2, [.int (zi (((j : Nat) : Int))), .int (zi (u 14 j)), .int (zi (u 15 j)), .int (zi (u 16 j)), .int (zi (u 17 j)), va_rf (zbo u aB j), .int (zi (u 19 j)), .int (zi (u 20 j))])) := (zu_ne (zne hca hbo (by intro z; cases z))).trans hca
  refine lv_aload_n hx hb dX5_task_19 rfl (lv_at hl 2 rfl) ?_
  refine lv_iconst (v := zi (1)) hx hb dX5_task_20 rfl ?_
  refine z_put hx hb (q_wsX1 hT hW) tyX1 tyX1_ok nmX1 hown hK hR hS he_3 rfl 4 (by decide) (q_427 hT hW) (fun _ h => h) rfl (tyX1_ok 4 (by decide)) rfl rfl (Nat.le_of_ble_eq_true rfl) dX5_task_21 (fun H locs hR hS => ?_)
  have hR : zR D A (zu (zu w (aB i) (.inr (1, [.int (zi (((i : Nat) : Int))), .int (zi (u 1 i)), .int (zi (u 7 i)), .int (zi (u 3 i)), .int (zi (u 4 i)), .int (zi (u 5 i)), .int (zi (u 2 i)), .int (zi (u 2 i)), .int (zi (1)), .ref (aC j), .int (zi ((u 24 0 + mhours u i j))), .int (zi (u 6 i)), .int (zi (u 24 0))]))) (aC j) (.inr (2, [.int (zi (((j : Nat) : Int))), .int (zi (u 14 j)), .int (zi (u 15 j)), .int (zi (u 16 j)), .int (zi (1)), va_rf (zbo u aB j), .int (zi (u 19 j)), .int (zi (u 20 j))]))) H := hR
  have he_4 : (zu (zu w (aB i) (.inr (1, [.int (zi (((i : Nat) : Int))), .int (zi (u 1 i)), .int (zi (u 7 i)), .int (zi (u 3 i)), .int (zi (u 4 i)), .int (zi (u 5 i)), .int (zi (u 2 i)), .int (zi (u 2 i)), .int (zi (1)), .ref (aC j), .int (zi ((u 24 0 + mhours u i j))), .int (zi (u 6 i)), .int (zi (u 24 0))]))) (aC j) (.inr (2, [.int (zi (((j : Nat) : Int))), .int (zi (u 14 j)), .int (zi (u 15 j)), .int (zi (u 16 j)), .int (zi (1)), va_rf (zbo u aB j), .int (zi (u 19 j)), .int (zi (u 20 j))]))) (aC j) = some (.inr (2, [.int (zi (((j : Nat) : Int))), .int (zi (u 14 j)), .int (zi (u 15 j)), .int (zi (u 16 j)), .int (zi (1)), va_rf (zbo u aB j), .int (zi (u 19 j)), .int (zi (u 20 j))])) := zu_eq
  have he_5 : (zu (zu w (aB i) (.inr (1, [.int (zi (((i : Nat) : Int))), .int (zi (u 1 i)), .int (zi (u 7 i)), .int (zi (u 3 i)), .int (zi (u 4 i)), .int (zi (u 5 i)), .int (zi (u 2 i)), .int (zi (u 2 i)), .int (zi (1)), .ref (aC j), .int (zi ((u 24 0 + mhours u i j))), .int (zi (u 6 i)), .int (zi (u 24 0))]))) (aC j) (.inr (2, [.int (zi (((j : Nat) : Int))), .int (zi (u 14 j)), .int (zi (u 15 j)), .int (zi (u 16 j)), .int (zi (1)), va_rf (zbo u aB j), .int (zi (u 19 j)), .int (zi (u 20 j))]))) (ad 0) = some (.inr (6, [.ref (ad 1), .ref (ad 3), .ref (ad 5), .ref (ad 6), .int (zi (u 24 0)), .int (zi (u 23 0))])) := (zu_ne (zne hC.mk hca (by intro z; cases z))).trans he_2
  have he_6 : (zu (zu w (aB i) (.inr (1, [.int (zi (((i : Nat) : Int))), .int (zi (u 1 i)), .int (zi (u 7 i)), .int (zi (u 3 i)), .int (zi (u 4 i)), .int (zi (u 5 i)), .int (zi (u 2 i)), .int (zi (u 2 i)), .int (zi (1)), .ref (aC j), .int (zi ((u 24 0 + mhours u i j))), .int (zi (u 6 i)), .int (zi (u 24 0))]))) (aC j) (.inr (2, [.int (zi (((j : Nat) : Int))), .int (zi (u 14 j)), .int (zi (u 15 j)), .int (zi (u 16 j)), .int (zi (1)), va_rf (zbo u aB j), .int (zi (u 19 j)), .int (zi (u 20 j))]))) (aB i) = some (.inr (1, [.int (zi (((i : Nat) : Int))), .int (zi (u 1 i)), .int (zi (u 7 i)), .int (zi (u 3 i)), .int (zi (u 4 i)), .int (zi (u 5 i)), .int (zi (u 2 i)), .int (zi (u 2 i)), .int (zi (1)), .ref (aC j), .int (zi ((u 24 0 + mhours u i j))), .int (zi (u 6 i)), .int (zi (u 24 0))])) := (zu_ne (zne hbo hca (by intro z; cases z))).trans he_1
  refine lv_aload_n hx hb dX5_task_24 rfl (lv_at hl 2 rfl) ?_
  refine lv_aload_n hx hb dX5_task_25 rfl (lv_at hl 1 rfl) ?_
  refine z_put hx hb (q_wsX1 hT hW) tyX1 tyX1_ok nmX1 hown hK hR hS he_4 rfl 5 (by decide) (q_429 hT hW) (fun _ h => h) rfl (tyX1_ok 5 (by decide)) rfl rfl (Nat.le_of_ble_eq_true rfl) dX5_task_26 (fun H locs hR hS => ?_)
  rw [zu_zu] at hR
  have hR : zR D A (zu (zu w (aB i) (.inr (1, [.int (zi (((i : Nat) : Int))), .int (zi (u 1 i)), .int (zi (u 7 i)), .int (zi (u 3 i)), .int (zi (u 4 i)), .int (zi (u 5 i)), .int (zi (u 2 i)), .int (zi (u 2 i)), .int (zi (1)), .ref (aC j), .int (zi ((u 24 0 + mhours u i j))), .int (zi (u 6 i)), .int (zi (u 24 0))]))) (aC j) (.inr (2, [.int (zi (((j : Nat) : Int))), .int (zi (u 14 j)), .int (zi (u 15 j)), .int (zi (u 16 j)), .int (zi (1)), .ref (aB i), .int (zi (u 19 j)), .int (zi (u 20 j))]))) H := hR
  have he_7 : (zu (zu w (aB i) (.inr (1, [.int (zi (((i : Nat) : Int))), .int (zi (u 1 i)), .int (zi (u 7 i)), .int (zi (u 3 i)), .int (zi (u 4 i)), .int (zi (u 5 i)), .int (zi (u 2 i)), .int (zi (u 2 i)), .int (zi (1)), .ref (aC j), .int (zi ((u 24 0 + mhours u i j))), .int (zi (u 6 i)), .int (zi (u 24 0))]))) (aC j) (.inr (2, [.int (zi (((j : Nat) : Int))), .int (zi (u 14 j)), .int (zi (u 15 j)), .int (zi (u 16 j)), .int (zi (1)), .ref (aB i), .int (zi (u 19 j)), .int (zi (u 20 j))]))) (aC j) = some (.inr (2, [.int (zi (((j : Nat) : Int))), .int (zi (u 14 j)), .int (zi (u 15 j)), .int (zi (u 16 j)), .int (zi (1)), .ref (aB i), .int (zi (u 19 j)), .int (zi (u 20 j))])) := zu_eq
  have he_8 : (zu (zu w (aB i) (.inr (1, [.int (zi (((i : Nat) : Int))), .int (zi (u 1 i)), .int (zi (u 7 i)), .int (zi (u 3 i)), .int (zi (u 4 i)), .int (zi (u 5 i)), .int (zi (u 2 i)), .int (zi (u 2 i)), .int (zi (1)), .ref (aC j), .int (zi ((u 24 0 + mhours u i j))), .int (zi (u 6 i)), .int (zi (u 24 0))]))) (aC j) (.inr (2, [.int (zi (((j : Nat) : Int))), .int (zi (u 14 j)), .int (zi (u 15 j)), .int (zi (u 16 j)), .int (zi (1)), .ref (aB i), .int (zi (u 19 j)), .int (zi (u 20 j))]))) (ad 0) = some (.inr (6, [.ref (ad 1), .ref (ad 3), .ref (ad 5), .ref (ad 6), .int (zi (u 24 0)), .int (zi (u 23 0))])) := (zu_ne (zne hC.mk hca (by intro z; cases z))).trans ((zu_ne (zne hC.mk hca (by intro z; cases z))).symm.trans he_5)
  have he_9 : (zu (zu w (aB i) (.inr (1, [.int (zi (((i : Nat) : Int))), .int (zi (u 1 i)), .int (zi (u 7 i)), .int (zi (u 3 i)), .int (zi (u 4 i)), .int (zi (u 5 i)), .int (zi (u 2 i)), .int (zi (u 2 i)), .int (zi (1)), .ref (aC j), .int (zi ((u 24 0 + mhours u i j))), .int (zi (u 6 i)), .int (zi (u 24 0))]))) (aC j) (.inr (2, [.int (zi (((j : Nat) : Int))), .int (zi (u 14 j)), .int (zi (u 15 j)), .int (zi (u 16 j)), .int (zi (1)), .ref (aB i), .int (zi (u 19 j)), .int (zi (u 20 j))]))) (aB i) = some (.inr (1, [.int (zi (((i : Nat) : Int))), .int (zi (u 1 i)), .int (zi (u 7 i)), .int (zi (u 3 i)), .int (zi (u 4 i)), .int (zi (u 5 i)), .int (zi (u 2 i)), .int (zi (u 2 i)), .int (zi (1)), .ref (aC j), .int (zi ((u 24 0 + mhours u i j))), .int (zi (u 6 i)), .int (zi (u 24 0))])) := (zu_ne (zne hbo hca (by intro z; cases z))).trans ((zu_ne (zne hbo hca (by intro z; cases z))).symm.trans he_6)
  refine lv_aload_n hx hb dX5_task_29 rfl (lv_at hl 2 rfl) ?_
  refine lv_dup hx hb dX5_task_30 rfl ?_
  refine z_get hx hb (q_wsX1 hT hW) hown hK hR he_7 rfl 6 (by decide) (q_431 hT hW) (fun _ h => h) rfl dX5_task_31 ?_
  refine lv_iconst (v := zi (1)) hx hb dX5_task_34 rfl ?_
  refine z_iadd (a := u 19 j) (b := 1) hx hb dX5_task_35 ?_
  refine z_put hx hb (q_wsX1 hT hW) tyX1 tyX1_ok nmX1 hown hK hR hS he_7 rfl 6 (by decide) (q_431 hT hW) (fun _ h => h) rfl (tyX1_ok 6 (by decide)) rfl rfl (Nat.le_of_ble_eq_true rfl) dX5_task_36 (fun H locs hR hS => ?_)
  rw [zu_zu] at hR
  have hR : zR D A (zu (zu w (aB i) (.inr (1, [.int (zi (((i : Nat) : Int))), .int (zi (u 1 i)), .int (zi (u 7 i)), .int (zi (u 3 i)), .int (zi (u 4 i)), .int (zi (u 5 i)), .int (zi (u 2 i)), .int (zi (u 2 i)), .int (zi (1)), .ref (aC j), .int (zi ((u 24 0 + mhours u i j))), .int (zi (u 6 i)), .int (zi (u 24 0))]))) (aC j) (.inr (2, [.int (zi (((j : Nat) : Int))), .int (zi (u 14 j)), .int (zi (u 15 j)), .int (zi (u 16 j)), .int (zi (1)), .ref (aB i), .int (zi ((u 19 j + 1))), .int (zi (u 20 j))]))) H := hR
  have he_10 : (zu (zu w (aB i) (.inr (1, [.int (zi (((i : Nat) : Int))), .int (zi (u 1 i)), .int (zi (u 7 i)), .int (zi (u 3 i)), .int (zi (u 4 i)), .int (zi (u 5 i)), .int (zi (u 2 i)), .int (zi (u 2 i)), .int (zi (1)), .ref (aC j), .int (zi ((u 24 0 + mhours u i j))), .int (zi (u 6 i)), .int (zi (u 24 0))]))) (aC j) (.inr (2, [.int (zi (((j : Nat) : Int))), .int (zi (u 14 j)), .int (zi (u 15 j)), .int (zi (u 16 j)), .int (zi (1)), .ref (aB i), .int (zi ((u 19 j + 1))), .int (zi (u 20 j))]))) (aC j) = some (.inr (2, [.int (zi (((j : Nat) : Int))), .int (zi (u 14 j)), .int (zi (u 15 j)), .int (zi (u 16 j)), .int (zi (1)), .ref (aB i), .int (zi ((u 19 j + 1))), .int (zi (u 20 j))])) := zu_eq
  have he_11 : (zu (zu w (aB i) (.inr (1, [.int (zi (((i : Nat) : Int))), .int (zi (u 1 i)), .int (zi (u 7 i)), .int (zi (u 3 i)), .int (zi (u 4 i)), .int (zi (u 5 i)), .int (zi (u 2 i)), .int (zi (u 2 i)), .int (zi (1)), .ref (aC j), .int (zi ((u 24 0 + mhours u i j))), .int (zi (u 6 i)), .int (zi (u 24 0))]))) (aC j) (.inr (2, [.int (zi (((j : Nat) : Int))), .int (zi (u 14 j)), .int (zi (u 15 j)), .int (zi (u 16 j)), .int (zi (1)), .ref (aB i), .int (zi ((u 19 j + 1))), .int (zi (u 20 j))]))) (ad 0) = some (.inr (6, [.ref (ad 1), .ref (ad 3), .ref (ad 5), .ref (ad 6), .int (zi (u 24 0)), .int (zi (u 23 0))])) := (zu_ne (zne hC.mk hca (by intro z; cases z))).trans ((zu_ne (zne hC.mk hca (by intro z; cases z))).symm.trans he_8)
  have he_12 : (zu (zu w (aB i) (.inr (1, [.int (zi (((i : Nat) : Int))), .int (zi (u 1 i)), .int (zi (u 7 i)), .int (zi (u 3 i)), .int (zi (u 4 i)), .int (zi (u 5 i)), .int (zi (u 2 i)), .int (zi (u 2 i)), .int (zi (1)), .ref (aC j), .int (zi ((u 24 0 + mhours u i j))), .int (zi (u 6 i)), .int (zi (u 24 0))]))) (aC j) (.inr (2, [.int (zi (((j : Nat) : Int))), .int (zi (u 14 j)), .int (zi (u 15 j)), .int (zi (u 16 j)), .int (zi (1)), .ref (aB i), .int (zi ((u 19 j + 1))), .int (zi (u 20 j))]))) (aB i) = some (.inr (1, [.int (zi (((i : Nat) : Int))), .int (zi (u 1 i)), .int (zi (u 7 i)), .int (zi (u 3 i)), .int (zi (u 4 i)), .int (zi (u 5 i)), .int (zi (u 2 i)), .int (zi (u 2 i)), .int (zi (1)), .ref (aC j), .int (zi ((u 24 0 + mhours u i j))), .int (zi (u 6 i)), .int (zi (u 24 0))])) := (zu_ne (zne hbo hca (by intro z; cases z))).trans ((zu_ne (zne hbo hca (by intro z; cases z))).symm.trans he_9)
  have hC1 : zCx tc dz ad aB aC aD nd dd Wd (ms (ms (ms (ms (ms u 8 i 1) 9 i (j : Int)) 10 i (u 24 0)) 11 i (u 24 0 + mhours u i j)) 12 i (u 2 i)) (zu w (aB i) (.inr (1, [.int (zi (((i : Nat) : Int))), .int (zi (u 1 i)), .int (zi (u 7 i)), .int (zi (u 3 i)), .int (zi (u 4 i)), .int (zi (u 5 i)), .int (zi (u 2 i)), .int (zi (u 2 i)), .int (zi (1)), .ref (aC j), .int (zi ((u 24 0 + mhours u i j))), .int (zi (u 6 i)), .int (zi (u 24 0))]))) := hC.boat (by omega) (by omega) (fun k j h => (ms_ne (by omega)).trans ((ms_ne (by omega)).trans ((ms_ne (by omega)).trans ((ms_ne (by omega)).trans (ms_ne (by omega)))))) (zBk_of zu_eq rfl rfl rfl rfl rfl rfl (by first | rfl | exact ms_s | simp [ms]) (zco_i (by first | rfl | exact ms_s | simp [ms])) rfl (fun _ => ms_s.symm) (fun q => absurd q (by rw [show (ms (ms (ms (ms (ms u 8 i 1) 9 i (j : Int)) 10 i (u 24 0)) 11 i (u 24 0 + mhours u i j)) 12 i (u 2 i)) 8 i = 1 from (by first | rfl | exact ms_s | simp [ms])]; decide)) (fun _ => ⟨by rw [show (ms (ms (ms (ms (ms u 8 i 1) 9 i (j : Int)) 10 i (u 24 0)) 11 i (u 24 0 + mhours u i j)) 12 i (u 2 i)) 11 i = _ from (ms_k (by decide)).trans ms_s], by rw [show (ms (ms (ms (ms (ms u 8 i 1) 9 i (j : Int)) 10 i (u 24 0)) 11 i (u 24 0 + mhours u i j)) 12 i (u 2 i)) 10 i = u 24 0 from (by first | rfl | exact ms_s | simp [ms])]⟩))
  have hC2 : zCx tc dz ad aB aC aD nd dd Wd (mtasks u j) (zu (zu w (aB i) (.inr (1, [.int (zi (((i : Nat) : Int))), .int (zi (u 1 i)), .int (zi (u 7 i)), .int (zi (u 3 i)), .int (zi (u 4 i)), .int (zi (u 5 i)), .int (zi (u 2 i)), .int (zi (u 2 i)), .int (zi (1)), .ref (aC j), .int (zi ((u 24 0 + mhours u i j))), .int (zi (u 6 i)), .int (zi (u 24 0))]))) (aC j) (.inr (2, [.int (zi (((j : Nat) : Int))), .int (zi (u 14 j)), .int (zi (u 15 j)), .int (zi (u 16 j)), .int (zi (1)), .ref (aB i), .int (zi ((u 19 j + 1))), .int (zi (u 20 j))]))) := hC1.call (i := j) (by show u 21 0 ≤ 30; omega) (by show _ < (u 21 0).toNat; omega) (u' := mtasks u j) (fun k j' h => by rw [mtasks_y hbi]; exact (ms_ne (by omega)).trans ((ms_ne (by omega)).trans (ms_ne (by omega)))) (zCk_of zu_eq (by rw [mtasks_y hbi]; rfl) (by rw [mtasks_y hbi]; rfl) (by rw [mtasks_y hbi]; rfl) (by rw [mtasks_y hbi]; simp [ms]) (zbo_i (by rw [mtasks_y hbi]; simp [ms])) (by rw [mtasks_y hbi]; exact ms_s) (by rw [mtasks_y hbi]; rfl))
  exact z_vret hx hb hr hlocks hS (by decide) (by decide) dX5_task_39 ⟨rfl, _, hC2, hR⟩
set_option maxHeartbeats 4000000 in
set_option maxRecDepth 100000 in
theorem c_X5_answerCalls (l : Launch) {S : State} {D : va_G} {tc : Nat → ClassId} {A : Nat → Prop} {dz : Nat} (hZ : zB S D tc A dz) {ad aB aC aD : Nat → Nat} {nd : Nat} {dd : Nat → Nat → Int} {Wd : Nat → Int64} {u : zS_} {w : zW} (hC : zCx tc dz ad aB aC aD nd dd Wd u w) (hI : zIn u)  : zM l S A yX5_answerCalls cX5_answerCalls 3 (Option.none : Option Jvm.ClassFile.FieldType) { frames := 5, locals := 150, cells := 0, slots := 0 } [.ref (ad 0)] (zR D A w) (fun v H => v = none ∧ ∃ w' : zW, zCx tc dz ad aB aC aD nd dd Wd (mh5 u) w' ∧ zR D A w' H) := by
  refine zM.mk (by decide +kernel) (Nat.le_of_ble_eq_true rfl) ?_
  intro p e s m below meth c ls X0 hR hl
  obtain ⟨hx, hb, hml, hr, hlocks, hown, hnm, hW, hpre, hA⟩ := X0
  have X : zH S A p s m c cX5_answerCalls 3 RX5 := ⟨hx, hb, hml, hown, hW, hpre, hA, hZ.2.2.1⟩
  have hT := hZ.1
  have hK := va_K.moved hW.alike hZ.2.1
  have hS : va_S A s.heap s.heap [] := va_S.rf
  have hl : lv_has ls 3 [(0, .ref (ad 0))] := hl
  skip
  have hI1 := hI.1
  refine lv_iconst (v := zi (0)) hx hb dX5_answerCalls_0 rfl ?_
  refine lv_istore_n (lv' := [(1, .int (zi (0))), (0, .ref (ad 0))]) hx hb dX5_answerCalls_1 rfl hl (by decide) rfl (fun ls hl => ?_)
  have hI0 := hI
  suffices K : ∀ (fu : Nat) (i : Nat) (U : zS_) (w1 : zW) (H : Heap) (locs : List Loc) (ls : Array Slot), ((u 21 0).toNat - i) < fu → ((i : Int) ≤ u 21 0) → (U = zfold mcall u i) → (zCx tc dz ad aB aC aD nd dd Wd U w1) → zR D A w1 H → va_S A s.heap H locs → lv_has ls 3 [(1, .int (zi (((i : Nat) : Int)))), (0, .ref (ad 0))] → W p l e { frames := 5, locals := 150, cells := 0, slots := 0 } s m ([.ref (ad 0)] : List Value).toArray below meth c H locs 0 0 (MQ below (zQ A (fun v H => v = none ∧ ∃ w' : zW, zCx tc dz ad aB aC aD nd dd Wd (mh5 u) w' ∧ zR D A w' H)) ([.ref (ad 0)] : List Value).toArray s ({ frames := 5, locals := 150, cells := 0, slots := 0 } : Room).cells ({ frames := 5, locals := 150, cells := 0, slots := 0 } : Room).slots A) (F0 m 2 ls []) from K _ 0 u w _ _ _ (Nat.lt_succ_self _) (by omega) rfl hC hR hS (lv_sub hl [0, 1] rfl)
  intro fu
  induction fu with
  | zero => intro i U w1 H locs ls hm; exact absurd hm (Nat.not_lt_zero _)
  | succ fu ih2 =>
    intro i U w1 H locs ls hm hi hU hC hR hS hl
    have hIp := mh5_p hI0 (n := i) hi
    rw [show zfold mcall u i = U from hU.symm] at hIp
    obtain ⟨hI, hc13, hc21, hc24, hc23⟩ := hIp
    have hI1 := hI.1
    refine lv_iload_n hx hb dX5_answerCalls_2 rfl (lv_at hl 0 rfl) ?_
    refine lv_aload_n hx hb dX5_answerCalls_3 rfl (lv_at hl 1 rfl) ?_
    refine z_get hx hb (q_wsX5 hT hW) hown hK hR hC.mk rfl 3 (by decide) (q_86 hT hW) (fun _ h => h) rfl dX5_answerCalls_4 ?_
    refine z_sizeL hZ X hK hl.1 hC.lC hR hS (q_215 hT hW) ⟨Nat.le_of_ble_eq_true rfl, Nat.le_of_ble_eq_true rfl⟩ ⟨Nat.le_of_ble_eq_true rfl, Nat.le_of_ble_eq_true rfl⟩ (Nat.le_of_ble_eq_true rfl) dX5_answerCalls_7 (fun H locs hR hS => ?_)
    refine z_icmp_ge (a := ((i : Nat) : Int)) (b := (((U 21 0).toNat : Nat) : Int)) (tgt := 78) hx hb dX5_answerCalls_12 (by decide) (by omega) (fun h_12 => ?_) (fun h_12 => ?_)
    · skip
      have hbq : i = (u 21 0).toNat := by omega
      have hU2 : U = mh5 u := by rw [hU]; unfold mh5; rw [← hbq]
      exact z_vret hx hb hr hlocks hS (by decide) (by decide) dX5_answerCalls_78 ⟨rfl, w1, by rw [← hU2]; exact hC, hR⟩
    · skip
      refine lv_aload_n hx hb dX5_answerCalls_15 rfl (lv_at hl 1 rfl) ?_
      refine z_get hx hb (q_wsX5 hT hW) hown hK hR hC.mk rfl 3 (by decide) (q_86 hT hW) (fun _ h => h) rfl dX5_answerCalls_16 ?_
      refine lv_iload_n hx hb dX5_answerCalls_19 rfl (lv_at hl 0 rfl) ?_
      refine z_getL (i := ((i : Nat) : Int)) hZ X hK hl.1 hC.lC hR hS (by omega) (q_367 hT hW) ⟨Nat.le_of_ble_eq_true rfl, Nat.le_of_ble_eq_true rfl⟩ ⟨Nat.le_of_ble_eq_true rfl, Nat.le_of_ble_eq_true rfl⟩ (Nat.le_of_ble_eq_true rfl) dX5_answerCalls_20 (fun H locs hR hS => ?_)
      have hca := hC.ca i (by omega)
      have hIc := hI.2.2.2 i (by omega)
      unfold zIc at hIc
      refine va_castS hx hb hown (q_412 hT hW) (hK.1 2 _ rfl).2 (z_recv hK hR hca rfl) dX5_answerCalls_25 ?_
      refine lv_astore_n (lv' := [(2, .ref (aC i)), (1, .int (zi (((i : Nat) : Int)))), (0, .ref (ad 0))]) hx hb dX5_answerCalls_28 rfl hl (by decide) rfl (fun ls hl => ?_)
      refine lv_aload_n hx hb dX5_answerCalls_29 rfl (lv_at hl 0 rfl) ?_
      refine z_get hx hb (q_wsX1 hT hW) hown hK hR hca rfl 4 (by decide) (q_427 hT hW) (fun _ h => h) rfl dX5_answerCalls_30 ?_
      refine z_if_ne (a := U 17 i) (tgt := 55) hx hb dX5_answerCalls_33 (by decide) (by omega) (fun h_33 => ?_) (fun h_33 => ?_)
      · skip
        refine lv_aload_n hx hb dX5_answerCalls_55 rfl (lv_at hl 0 rfl) ?_
        refine z_get hx hb (q_wsX1 hT hW) hown hK hR hca rfl 4 (by decide) (q_427 hT hW) (fun _ h => h) rfl dX5_answerCalls_56 ?_
        refine z_if_ne (a := U 17 i) (tgt := 72) hx hb dX5_answerCalls_59 (by decide) (by omega) (fun h_59 => ?_) (fun h_59 => ?_)
        · skip
          refine z_iinc (a := ((i : Nat) : Int)) (n := 1) (lv' := [(1, .int (zi ((((i : Nat) : Int) + 1)))), (2, .ref (aC i)), (0, .ref (ad 0))]) hx hb dX5_answerCalls_72 hl (k := 1) rfl (by decide) rfl (fun ls hl => ?_)
          refine lv_goto (tgt := 2) hx hb dX5_answerCalls_75 (by decide) ?_
          have hm : zfold mcall u (i + 1) = U := by
            show mcall (zfold mcall u i) i = _
            rw [← hU]
            rw [mcall_n (by rw [mlost_n (by omega)]; omega), mlost_n (by omega)]
          exact ih2 (i + 1) U w1 _ _ _ (by omega) (by omega) hm.symm hC hR hS (lv_sub hl [0, 2] rfl)
        · skip
          exact absurd h_59 (by omega)
      · skip
        refine lv_aload_n hx hb dX5_answerCalls_36 rfl (lv_at hl 0 rfl) ?_
        refine z_get hx hb (q_wsX1 hT hW) hown hK hR hca rfl 3 (by decide) (q_425 hT hW) (fun _ h => h) rfl dX5_answerCalls_37 ?_
        refine lv_aload_n hx hb dX5_answerCalls_40 rfl (lv_at hl 2 rfl) ?_
        refine z_get hx hb (q_wsX5 hT hW) hown hK hR hC.mk rfl 4 (by decide) (q_87 hT hW) (fun _ h => h) rfl dX5_answerCalls_41 ?_
        refine z_icmp_ge (a := U 16 i) (b := U 24 0) (tgt := 55) hx hb dX5_answerCalls_44 (by decide) (by omega) (fun h_44 => ?_) (fun h_44 => ?_)
        · skip
          refine lv_aload_n hx hb dX5_answerCalls_55 rfl (lv_at hl 0 rfl) ?_
          refine z_get hx hb (q_wsX1 hT hW) hown hK hR hca rfl 4 (by decide) (q_427 hT hW) (fun _ h => h) rfl dX5_answerCalls_56 ?_
          refine z_if_ne (a := U 17 i) (tgt := 72) hx hb dX5_answerCalls_59 (by decide) (by omega) (fun h_59 => ?_) (fun h_59 => ?_)
          · skip
            exact absurd h_59 (by omega)
          · skip
            refine lv_aload_n hx hb dX5_answerCalls_62 rfl (lv_at hl 2 rfl) ?_
            refine lv_aload_n hx hb dX5_answerCalls_63 rfl (lv_at hl 2 rfl) ?_
            refine lv_aload_n hx hb dX5_answerCalls_64 rfl (lv_at hl 0 rfl) ?_
            refine z_invV (n := 1) (C := RX5) (c_X5_boatFirstThere l hZ hC hI (j := i) (by omega)) X hS hR hl.1 (q_559 hT hW) (q_1 hT hW) (q_556 hT hW) (q_558 hT hW) (q_p12 hT hW) (z_recv hK hR hC.mk rfl) (by decide +kernel) rfl ⟨Nat.le_of_ble_eq_true rfl, Nat.le_of_ble_eq_true rfl⟩ ⟨Nat.le_of_ble_eq_true rfl, Nat.le_of_ble_eq_true rfl⟩ (Nat.le_of_ble_eq_true rfl) dX5_answerCalls_65 (fun v H locs hv hS => ?_) rfl
            obtain ⟨rfl, hR⟩ := hv
            have hbr := mbest_r (u := U) (c := i) (U 13 0).toNat
            by_cases hbn : mbest U i (U 13 0).toNat < 0
            · skip
              rw [if_pos hbn]
              refine lv_aload_n hx hb dX5_answerCalls_68 rfl (lv_at hl 0 rfl) ?_
              refine z_invV (n := 2) (C := RX5) (c_task0 l hZ hC hI (j := i)) X hS hR hl.1 (q_571 hT hW) (q_1 hT hW) (q_568 hT hW) (q_570 hT hW) (q_p14 hT hW) (z_recv hK hR hC.mk rfl) (by decide +kernel) rfl ⟨Nat.le_of_ble_eq_true rfl, Nat.le_of_ble_eq_true rfl⟩ ⟨Nat.le_of_ble_eq_true rfl, Nat.le_of_ble_eq_true rfl⟩ (Nat.le_of_ble_eq_true rfl) dX5_answerCalls_69 (fun v H locs hv hS => ?_) rfl
              obtain ⟨rfl, hR⟩ := hv
              refine z_iinc (a := ((i : Nat) : Int)) (n := 1) (lv' := [(1, .int (zi ((((i : Nat) : Int) + 1)))), (2, .ref (aC i)), (0, .ref (ad 0))]) hx hb dX5_answerCalls_72 hl (k := 1) rfl (by decide) rfl (fun ls hl => ?_)
              refine lv_goto (tgt := 2) hx hb dX5_answerCalls_75 (by decide) ?_
              have hm : zfold mcall u (i + 1) = mtasks U i := by
                show mcall (zfold mcall u i) i = _
                rw [← hU]
                rw [mcall_y (by rw [mlost_n (by omega)]; omega), mlost_n (by omega)]
              exact ih2 (i + 1) U w1 _ _ _ (by omega) (by omega) (by rw [hm, mtasks_n hbn]) hC hR hS (lv_sub hl [0, 2] rfl)
            · skip
              rw [if_neg hbn]
              have hbi : mbest U i (U 13 0).toNat = (((mbest U i (U 13 0).toNat).toNat : Nat) : Int) := by omega
              generalize (mbest U i (U 13 0).toNat).toNat = bi at hbi ⊢
              refine lv_aload_n hx hb dX5_answerCalls_68 rfl (lv_at hl 0 rfl) ?_
              refine z_invV (n := 2) (C := RX5) (c_task1 l hZ hC hI (i := bi) (j := i) (by omega) hbi) X hS hR hl.1 (q_571 hT hW) (q_1 hT hW) (q_568 hT hW) (q_570 hT hW) (q_p14 hT hW) (z_recv hK hR hC.mk rfl) (by decide +kernel) rfl ⟨Nat.le_of_ble_eq_true rfl, Nat.le_of_ble_eq_true rfl⟩ ⟨Nat.le_of_ble_eq_true rfl, Nat.le_of_ble_eq_true rfl⟩ (Nat.le_of_ble_eq_true rfl) dX5_answerCalls_69 (fun v H locs hv hS => ?_) rfl
              obtain ⟨rfl, w2, hC2, hR⟩ := hv
              refine z_iinc (a := ((i : Nat) : Int)) (n := 1) (lv' := [(1, .int (zi ((((i : Nat) : Int) + 1)))), (2, .ref (aC i)), (0, .ref (ad 0))]) hx hb dX5_answerCalls_72 hl (k := 1) rfl (by decide) rfl (fun ls hl => ?_)
              refine lv_goto (tgt := 2) hx hb dX5_answerCalls_75 (by decide) ?_
              have hm : zfold mcall u (i + 1) = mtasks U i := by
                show mcall (zfold mcall u i) i = _
                rw [← hU]
                rw [mcall_y (by rw [mlost_n (by omega)]; omega), mlost_n (by omega)]
              exact ih2 (i + 1) (zfold mcall u (i + 1)) w2 _ _ _ (by omega) (by omega) rfl (by rw [hm]; exact hC2) hR hS (lv_sub hl [0, 2] rfl)
        · skip
          refine lv_aload_n hx hb dX5_answerCalls_47 rfl (lv_at hl 0 rfl) ?_
          refine lv_iconst (v := zi (3)) hx hb dX5_answerCalls_48 rfl ?_
          refine z_put hx hb (q_wsX1 hT hW) tyX1 tyX1_ok nmX1 hown hK hR hS hca rfl 4 (by decide) (q_427 hT hW) (fun _ h => h) rfl (tyX1_ok 4 (by decide)) rfl rfl (Nat.le_of_ble_eq_true rfl) dX5_answerCalls_49 (fun H locs hR hS => ?_)
          have hR : zR D A (zu w1 (aC i) (.inr (2, [.int (zi (((i : Nat) : Int))), .int (zi (U 14 i)), .int (zi (U 15 i)), .int (zi (U 16 i)), .int (zi (3)), va_rf (zbo U aB i), .int (zi (U 19 i)), .int (zi (U 20 i))]))) H := hR
          have he_1 : (zu w1 (aC i) (.inr (2, [.int (zi (((i : Nat) : Int))), .int (zi (U 14 i)), .int (zi (U 15 i)), .int (zi (U 16 i)), .int (zi (3)), va_rf (zbo U aB i), .int (zi (U 19 i)), .int (zi (U 20 i))]))) (aC i) = some (.inr (2, [.int (zi (((i : Nat) : Int))), .int (zi (U 14 i)), .int (zi (U 15 i)), .int (zi (U 16 i)), .int (zi (3)), va_rf (zbo U aB i), .int (zi (U 19 i)), .int (zi (U 20 i))])) := zu_eq
          have he_2 : (zu w1 (aC i) (.inr (2, [.int (zi (((i : Nat) : Int))), .int (zi (U 14 i)), .int (zi (U 15 i)), .int (zi (U 16 i)), .int (zi (3)), va_rf (zbo U aB i), .int (zi (U 19 i)), .int (zi (U 20 i))]))) (ad 0) = some (.inr (6, [.ref (ad 1), .ref (ad 3), .ref (ad 5), .ref (ad 6), .int (zi (U 24 0)), .int (zi (U 23 0))])) := (zu_ne (zne hC.mk hca (by intro z; cases z))).trans hC.mk
          refine lv_goto (tgt := 72) hx hb dX5_answerCalls_52 (by decide) ?_
          refine z_iinc (a := ((i : Nat) : Int)) (n := 1) (lv' := [(1, .int (zi ((((i : Nat) : Int) + 1)))), (2, .ref (aC i)), (0, .ref (ad 0))]) hx hb dX5_answerCalls_72 hl (k := 1) rfl (by decide) rfl (fun ls hl => ?_)
          refine lv_goto (tgt := 2) hx hb dX5_answerCalls_75 (by decide) ?_
          have hm : zfold mcall u (i + 1) = (ms U 17 i 3) := by
            show mcall (zfold mcall u i) i = _
            rw [← hU]
            rw [mcall_n (by rw [mlost_y ⟨by omega, by omega⟩, ms_s]; decide), mlost_y ⟨by omega, by omega⟩]
          have hC1 : zCx tc dz ad aB aC aD nd dd Wd (ms U 17 i 3) (zu w1 (aC i) (.inr (2, [.int (zi (((i : Nat) : Int))), .int (zi (U 14 i)), .int (zi (U 15 i)), .int (zi (U 16 i)), .int (zi (3)), va_rf (zbo U aB i), .int (zi (U 19 i)), .int (zi (U 20 i))]))) := hC.call (by omega) (by omega) (fun k j h => ms_ne (by omega)) (zCk_of zu_eq rfl rfl rfl ms_s rfl rfl rfl)
          exact ih2 (i + 1) (zfold mcall u (i + 1)) _ _ _ _ (by omega) (by omega) rfl (by rw [hm]; exact hC1) hR hS (lv_sub hl [0, 2] rfl)

