theorem ms_raw {u : zS_} {k j k' i i' : Nat} {x y : Int} (h : k' ≠ k) : ms (ms u k j y) k' i x k' i' = ms u k' i x k' i' := by
  rw [ms_kj, ms_kj, ms_k h]
set_option maxHeartbeats 4000000 in
set_option maxRecDepth 100000 in
theorem c_X6_turnsBack (l : Launch) {S : State} {D : va_G} {tc : Nat → ClassId} {A : Nat → Prop} {dz : Nat} (hZ : zB S D tc A dz) {m0 : Nat} {aM : Nat → Nat} {u : zS_} {b : Nat} (hb0 : (b : Int) < u 13 0) (hI : zIn u) : zM l S A yX6_turnsBack cX6_turnsBack 4 (Option.none : Option Jvm.ClassFile.FieldType) { frames := 1, locals := 20, cells := 0, slots := 0 } [.ref m0, .int (zi ((b : Int)))] (mH D tc A m0 aM u) (fun v H => v = none ∧ mH D tc A m0 aM (mturn u b) H) := by
  refine zM.mk (by decide +kernel) (Nat.le_of_ble_eq_true rfl) ?_
  intro p e s m below meth c ls X0 hR hl
  obtain ⟨hx, hb, hml, hr, hlocks, hown, hnm, hW, hpre, hA⟩ := X0
  have X : zH S A p s m c cX6_turnsBack 4 RX6 := ⟨hx, hb, hml, hown, hW, hpre, hA, hZ.2.2.1⟩
  have hT := hZ.1
  have hK := va_K.moved hW.alike hZ.2.1
  have hS : va_S A s.heap s.heap [] := va_S.rf
  have hl : lv_has ls 4 [(0, .ref m0), (1, .int (zi ((b : Int))))] := hl
  skip
  have hI1 := hI.1
  have hB := hI.2.2.1 b hb0
  unfold zIb at hB
  have hst := hI.2.1 (1000 * u 14 (u 9 b).toNat + u 11 b).toNat
  by_cases hc : 0 ≤ u 9 b
  · skip
    have hC := hI.2.2.2 (u 9 b).toNat (by omega)
    unfold zIc at hC
    have hB2 := hB.2.1 hc
    have hB3 := hB.2.2 (by omega)
    have hmul : 0 ≤ 2 * u 4 b * (u 24 0 - u 10 b) ∧ 2 * u 4 b * (u 24 0 - u 10 b) ≤ 10000 := by
      have hs : u 4 b = 1 ∨ u 4 b = 2 ∨ u 4 b = 3 := by omega
      rcases hs with e9 | e9 | e9 <;> rw [e9] <;> omega
    refine lv_aload_n hx hb dX6_turnsBack_0 rfl (lv_at hl 0 rfl) ?_
    refine m_get hx hb (q_wsX6 hT hW) hown hK hR 9 (by decide) (q_673 hT hW) (fun _ h => h) (v := .ref (aM 9)) rfl dX6_turnsBack_1 ?_
    refine lv_iload_n hx hb dX6_turnsBack_4 rfl (lv_at hl 1 rfl) ?_
    refine m_iald (k := 9) (i := (b : Int)) (v := u 9 b) hx hb hK hR (by unfold mar; omega) (by decide) (by show 0 ≤ (b : Int) ∧ (b : Int) < ((6 : Nat) : Int); omega) rfl dX6_turnsBack_5 ?_
    refine lv_istore_n (lv' := [(2, .int (zi ((u 9 b)))), (0, .ref m0), (1, .int (zi ((b : Int))))]) hx hb dX6_turnsBack_6 rfl hl (by decide) rfl (fun ls hl => ?_)
    refine lv_iload_n hx hb dX6_turnsBack_7 rfl (lv_at hl 0 rfl) ?_
    refine z_if_lt (a := (u 9 b)) (tgt := 127) hx hb dX6_turnsBack_8 (by decide) (by omega) (fun h_8 => ?_) (fun h_8 => ?_)
    · skip
      exact absurd hc (by omega)
    · skip
      refine lv_aload_n hx hb dX6_turnsBack_11 rfl (lv_at hl 1 rfl) ?_
      refine m_get hx hb (q_wsX6 hT hW) hown hK hR 0 (by decide) (q_664 hT hW) (fun _ h => h) (v := .ref (aM 0)) rfl dX6_turnsBack_12 ?_
      refine lv_sipush (v := zi (1000)) hx hb dX6_turnsBack_15 rfl ?_
      refine lv_aload_n hx hb dX6_turnsBack_18 rfl (lv_at hl 1 rfl) ?_
      refine m_get hx hb (q_wsX6 hT hW) hown hK hR 14 (by decide) (q_678 hT hW) (fun _ h => h) (v := .ref (aM 14)) rfl dX6_turnsBack_19 ?_
      refine lv_iload_n hx hb dX6_turnsBack_22 rfl (lv_at hl 0 rfl) ?_
      refine m_iald (k := 14) (i := (u 9 b)) (v := u 14 (u 9 b).toNat) hx hb hK hR (by unfold mar; omega) (by decide) (by show 0 ≤ (u 9 b) ∧ (u 9 b) < ((30 : Nat) : Int); omega) rfl dX6_turnsBack_23 ?_
      refine z_imul (a := 1000) (b := (u 14 (u 9 b).toNat)) hx hb dX6_turnsBack_24 ?_
      refine lv_aload_n hx hb dX6_turnsBack_25 rfl (lv_at hl 1 rfl) ?_
      refine m_get hx hb (q_wsX6 hT hW) hown hK hR 11 (by decide) (q_675 hT hW) (fun _ h => h) (v := .ref (aM 11)) rfl dX6_turnsBack_26 ?_
      refine lv_iload_n hx hb dX6_turnsBack_29 rfl (lv_at hl 2 rfl) ?_
      refine m_iald (k := 11) (i := (b : Int)) (v := u 11 b) hx hb hK hR (by unfold mar; omega) (by decide) (by show 0 ≤ (b : Int) ∧ (b : Int) < ((6 : Nat) : Int); omega) rfl dX6_turnsBack_30 ?_
      refine z_iadd (a := (1000 * (u 14 (u 9 b).toNat))) (b := (u 11 b)) hx hb dX6_turnsBack_31 ?_
      refine m_bald (i := ((1000 * (u 14 (u 9 b).toNat)) + (u 11 b))) (v := u 0 ((1000 * (u 14 (u 9 b).toNat)) + (u 11 b)).toNat) hx hb hK hR (by omega) rfl dX6_turnsBack_32 ?_
      refine lv_aload_n hx hb dX6_turnsBack_33 rfl (lv_at hl 1 rfl) ?_
      refine m_get hx hb (q_wsX6 hT hW) hown hK hR 7 (by decide) (q_671 hT hW) (fun _ h => h) (v := .ref (aM 7)) rfl dX6_turnsBack_34 ?_
      refine lv_iload_n hx hb dX6_turnsBack_37 rfl (lv_at hl 2 rfl) ?_
      refine m_iald (k := 7) (i := (b : Int)) (v := u 7 b) hx hb hK hR (by unfold mar; omega) (by decide) (by show 0 ≤ (b : Int) ∧ (b : Int) < ((6 : Nat) : Int); omega) rfl dX6_turnsBack_38 ?_
      refine z_icmp_le (a := (u 0 ((1000 * (u 14 (u 9 b).toNat)) + (u 11 b)).toNat)) (b := (u 7 b)) (tgt := 127) hx hb dX6_turnsBack_39 (by decide) (by omega) (fun h_39 => ?_) (fun h_39 => ?_)
      · skip
        exact z_vret hx hb hr hlocks hS (by decide) (by decide) dX6_turnsBack_127 ⟨rfl, by rw [show mturn u b = u from by unfold mturn; exact if_neg (by omega)]; exact hR⟩
      · skip
        refine lv_aload_n hx hb dX6_turnsBack_42 rfl (lv_at hl 1 rfl) ?_
        refine m_get hx hb (q_wsX6 hT hW) hown hK hR 24 (by decide) (q_688 hT hW) (fun _ h => h) (v := .int (zi (u 24 0))) (congrArg (fun z : Int => some (Value.int (zi z))) rfl) dX6_turnsBack_43 ?_
        refine lv_aload_n hx hb dX6_turnsBack_46 rfl (lv_at hl 1 rfl) ?_
        refine m_get hx hb (q_wsX6 hT hW) hown hK hR 10 (by decide) (q_674 hT hW) (fun _ h => h) (v := .ref (aM 10)) rfl dX6_turnsBack_47 ?_
        refine lv_iload_n hx hb dX6_turnsBack_50 rfl (lv_at hl 2 rfl) ?_
        refine m_iald (k := 10) (i := (b : Int)) (v := u 10 b) hx hb hK hR (by unfold mar; omega) (by decide) (by show 0 ≤ (b : Int) ∧ (b : Int) < ((6 : Nat) : Int); omega) rfl dX6_turnsBack_51 ?_
        refine z_isub (a := (u 24 0)) (b := (u 10 b)) hx hb dX6_turnsBack_52 ?_
        refine lv_istore_n (lv' := [(3, .int (zi (((u 24 0) - (u 10 b))))), (2, .int (zi ((u 9 b)))), (0, .ref m0), (1, .int (zi ((b : Int))))]) hx hb dX6_turnsBack_53 rfl hl (by decide) rfl (fun ls hl => ?_)
        refine lv_aload_n hx hb dX6_turnsBack_54 rfl (lv_at hl 2 rfl) ?_
        refine m_get hx hb (q_wsX6 hT hW) hown hK hR 17 (by decide) (q_681 hT hW) (fun _ h => h) (v := .ref (aM 17)) rfl dX6_turnsBack_55 ?_
        refine lv_iload_n hx hb dX6_turnsBack_58 rfl (lv_at hl 1 rfl) ?_
        refine lv_iconst (v := zi (0)) hx hb dX6_turnsBack_59 rfl ?_
        refine m_iast (k := 17) (i := (u 9 b)) (x := 0) hx hb hK hR hS (by unfold mar; omega) (by decide) (by show 0 ≤ (u 9 b) ∧ (u 9 b) < ((30 : Nat) : Int); omega) dX6_turnsBack_60 (fun H locs hR hS => ?_)
        refine lv_aload_n hx hb dX6_turnsBack_61 rfl (lv_at hl 2 rfl) ?_
        refine m_get hx hb (q_wsX6 hT hW) hown hK hR 9 (by decide) (q_673 hT hW) (fun _ h => h) (v := .ref (aM 9)) rfl dX6_turnsBack_62 ?_
        refine lv_iload_n hx hb dX6_turnsBack_65 rfl (lv_at hl 3 rfl) ?_
        refine lv_iconst (v := zi (-1)) hx hb dX6_turnsBack_66 rfl ?_
        refine m_iast (k := 9) (i := (b : Int)) (x := (-1)) hx hb hK hR hS (by unfold mar; omega) (by decide) (by show 0 ≤ (b : Int) ∧ (b : Int) < ((6 : Nat) : Int); omega) dX6_turnsBack_67 (fun H locs hR hS => ?_)
        refine lv_aload_n hx hb dX6_turnsBack_68 rfl (lv_at hl 2 rfl) ?_
        refine m_get hx hb (q_wsX6 hT hW) hown hK hR 11 (by decide) (q_675 hT hW) (fun _ h => h) (v := .ref (aM 11)) rfl dX6_turnsBack_69 ?_
        refine lv_iload_n hx hb dX6_turnsBack_72 rfl (lv_at hl 3 rfl) ?_
        refine lv_aload_n hx hb dX6_turnsBack_73 rfl (lv_at hl 2 rfl) ?_
        refine m_get hx hb (q_wsX6 hT hW) hown hK hR 24 (by decide) (q_688 hT hW) (fun _ h => h) (v := .int (zi (u 24 0))) (congrArg (fun z : Int => some (Value.int (zi z))) ((ms_k (by decide)).trans (ms_k (by decide)))) dX6_turnsBack_74 ?_
        refine lv_iload_n hx hb dX6_turnsBack_77 rfl (lv_at hl 0 rfl) ?_
        refine z_iadd (a := (u 24 0)) (b := ((u 24 0) - (u 10 b))) hx hb dX6_turnsBack_78 ?_
        refine m_iast (k := 11) (i := (b : Int)) (x := ((u 24 0) + ((u 24 0) - (u 10 b)))) hx hb hK hR hS (by unfold mar; omega) (by decide) (by show 0 ≤ (b : Int) ∧ (b : Int) < ((6 : Nat) : Int); omega) dX6_turnsBack_79 (fun H locs hR hS => ?_)
        refine lv_aload_n hx hb dX6_turnsBack_80 rfl (lv_at hl 2 rfl) ?_
        refine m_get hx hb (q_wsX6 hT hW) hown hK hR 6 (by decide) (q_670 hT hW) (fun _ h => h) (v := .ref (aM 6)) rfl dX6_turnsBack_81 ?_
        refine lv_iload_n hx hb dX6_turnsBack_84 rfl (lv_at hl 3 rfl) ?_
        refine lv_dup2_11 hx hb dX6_turnsBack_85 rfl rfl ?_
        refine m_iald (k := 6) (i := (b : Int)) (v := u 6 b) hx hb hK hR (by unfold mar; omega) (by decide) (by show 0 ≤ (b : Int) ∧ (b : Int) < ((6 : Nat) : Int); omega) ((ms_k (by decide)).trans ((ms_k (by decide)).trans (ms_k (by decide)))) dX6_turnsBack_86 ?_
        refine lv_aload_n hx hb dX6_turnsBack_87 rfl (lv_at hl 2 rfl) ?_
        refine m_get hx hb (q_wsX6 hT hW) hown hK hR 6 (by decide) (q_670 hT hW) (fun _ h => h) (v := .ref (aM 6)) rfl dX6_turnsBack_88 ?_
        refine lv_iload_n hx hb dX6_turnsBack_91 rfl (lv_at hl 3 rfl) ?_
        refine m_iald (k := 6) (i := (b : Int)) (v := u 6 b) hx hb hK hR (by unfold mar; omega) (by decide) (by show 0 ≤ (b : Int) ∧ (b : Int) < ((6 : Nat) : Int); omega) ((ms_k (by decide)).trans ((ms_k (by decide)).trans (ms_k (by decide)))) dX6_turnsBack_92 ?_
        refine lv_iconst (v := zi (2)) hx hb dX6_turnsBack_93 rfl ?_
        refine lv_aload_n hx hb dX6_turnsBack_94 rfl (lv_at hl 2 rfl) ?_
        refine m_get hx hb (q_wsX6 hT hW) hown hK hR 4 (by decide) (q_668 hT hW) (fun _ h => h) (v := .ref (aM 4)) rfl dX6_turnsBack_95 ?_
        refine lv_iload_n hx hb dX6_turnsBack_98 rfl (lv_at hl 3 rfl) ?_
        refine m_iald (k := 4) (i := (b : Int)) (v := u 4 b) hx hb hK hR (by unfold mar; omega) (by decide) (by show 0 ≤ (b : Int) ∧ (b : Int) < ((6 : Nat) : Int); omega) ((ms_k (by decide)).trans ((ms_k (by decide)).trans (ms_k (by decide)))) dX6_turnsBack_99 ?_
        refine z_imul (a := 2) (b := (u 4 b)) hx hb dX6_turnsBack_100 ?_
        refine lv_iload_n hx hb dX6_turnsBack_101 rfl (lv_at hl 0 rfl) ?_
        refine z_imul (a := (2 * (u 4 b))) (b := ((u 24 0) - (u 10 b))) hx hb dX6_turnsBack_102 ?_
        refine z_icmp_ge (a := (u 6 b)) (b := ((2 * (u 4 b)) * ((u 24 0) - (u 10 b)))) (tgt := 115) hx hb dX6_turnsBack_103 (by decide) (by omega) (fun h_103 => ?_) (fun h_103 => ?_)
        · skip
          refine lv_iconst (v := zi (2)) hx hb dX6_turnsBack_115 rfl ?_
          refine lv_aload_n hx hb dX6_turnsBack_116 rfl (lv_at hl 2 rfl) ?_
          refine m_get hx hb (q_wsX6 hT hW) hown hK hR 4 (by decide) (q_668 hT hW) (fun _ h => h) (v := .ref (aM 4)) rfl dX6_turnsBack_117 ?_
          refine lv_iload_n hx hb dX6_turnsBack_120 rfl (lv_at hl 3 rfl) ?_
          refine m_iald (k := 4) (i := (b : Int)) (v := u 4 b) hx hb hK hR (by unfold mar; omega) (by decide) (by show 0 ≤ (b : Int) ∧ (b : Int) < ((6 : Nat) : Int); omega) ((ms_k (by decide)).trans ((ms_k (by decide)).trans (ms_k (by decide)))) dX6_turnsBack_121 ?_
          refine z_imul (a := 2) (b := (u 4 b)) hx hb dX6_turnsBack_122 ?_
          refine lv_iload_n hx hb dX6_turnsBack_123 rfl (lv_at hl 0 rfl) ?_
          refine z_imul (a := (2 * (u 4 b))) (b := ((u 24 0) - (u 10 b))) hx hb dX6_turnsBack_124 ?_
          refine z_isub (a := (u 6 b)) (b := ((2 * (u 4 b)) * ((u 24 0) - (u 10 b)))) hx hb dX6_turnsBack_125 ?_
          refine m_iast (k := 6) (i := (b : Int)) (x := ((u 6 b) - ((2 * (u 4 b)) * ((u 24 0) - (u 10 b))))) hx hb hK hR hS (by unfold mar; omega) (by decide) (by show 0 ≤ (b : Int) ∧ (b : Int) < ((6 : Nat) : Int); omega) dX6_turnsBack_126 (fun H locs hR hS => ?_)
          exact z_vret hx hb hr hlocks hS (by decide) (by decide) dX6_turnsBack_127 ⟨rfl, by rw [show mturn u b = (ms (ms (ms (ms u 17 (u 9 b).toNat (0)) 9 b ((-1))) 11 b (((u 24 0) + ((u 24 0) - (u 10 b))))) 6 b (((u 6 b) - ((2 * (u 4 b)) * ((u 24 0) - (u 10 b)))))) from by unfold mturn; rw [if_pos ⟨by omega, by omega⟩]; first | rw [if_pos (by omega)] | rw [if_neg (by omega)]]; exact hR⟩
        · skip
          refine lv_aload_n hx hb dX6_turnsBack_106 rfl (lv_at hl 2 rfl) ?_
          refine m_get hx hb (q_wsX6 hT hW) hown hK hR 6 (by decide) (q_670 hT hW) (fun _ h => h) (v := .ref (aM 6)) rfl dX6_turnsBack_107 ?_
          refine lv_iload_n hx hb dX6_turnsBack_110 rfl (lv_at hl 3 rfl) ?_
          refine m_iald (k := 6) (i := (b : Int)) (v := u 6 b) hx hb hK hR (by unfold mar; omega) (by decide) (by show 0 ≤ (b : Int) ∧ (b : Int) < ((6 : Nat) : Int); omega) ((ms_k (by decide)).trans ((ms_k (by decide)).trans (ms_k (by decide)))) dX6_turnsBack_111 ?_
          refine lv_goto (tgt := 125) hx hb dX6_turnsBack_112 (by decide) ?_
          refine z_isub (a := (u 6 b)) (b := (u 6 b)) hx hb dX6_turnsBack_125 ?_
          refine m_iast (k := 6) (i := (b : Int)) (x := ((u 6 b) - (u 6 b))) hx hb hK hR hS (by unfold mar; omega) (by decide) (by show 0 ≤ (b : Int) ∧ (b : Int) < ((6 : Nat) : Int); omega) dX6_turnsBack_126 (fun H locs hR hS => ?_)
          exact z_vret hx hb hr hlocks hS (by decide) (by decide) dX6_turnsBack_127 ⟨rfl, by rw [show mturn u b = (ms (ms (ms (ms u 17 (u 9 b).toNat (0)) 9 b ((-1))) 11 b (((u 24 0) + ((u 24 0) - (u 10 b))))) 6 b (((u 6 b) - (u 6 b)))) from by unfold mturn; rw [if_pos ⟨by omega, by omega⟩]; first | rw [if_pos (by omega)] | rw [if_neg (by omega)]]; exact hR⟩
  · skip
    refine lv_aload_n hx hb dX6_turnsBack_0 rfl (lv_at hl 0 rfl) ?_
    refine m_get hx hb (q_wsX6 hT hW) hown hK hR 9 (by decide) (q_673 hT hW) (fun _ h => h) (v := .ref (aM 9)) rfl dX6_turnsBack_1 ?_
    refine lv_iload_n hx hb dX6_turnsBack_4 rfl (lv_at hl 1 rfl) ?_
    refine m_iald (k := 9) (i := (b : Int)) (v := u 9 b) hx hb hK hR (by unfold mar; omega) (by decide) (by show 0 ≤ (b : Int) ∧ (b : Int) < ((6 : Nat) : Int); omega) rfl dX6_turnsBack_5 ?_
    refine lv_istore_n (lv' := [(2, .int (zi ((u 9 b)))), (0, .ref m0), (1, .int (zi ((b : Int))))]) hx hb dX6_turnsBack_6 rfl hl (by decide) rfl (fun ls hl => ?_)
    refine lv_iload_n hx hb dX6_turnsBack_7 rfl (lv_at hl 0 rfl) ?_
    refine z_if_lt (a := (u 9 b)) (tgt := 127) hx hb dX6_turnsBack_8 (by decide) (by omega) (fun h_8 => ?_) (fun h_8 => ?_)
    · skip
      exact z_vret hx hb hr hlocks hS (by decide) (by decide) dX6_turnsBack_127 ⟨rfl, by rw [show mturn u b = u from by unfold mturn; exact if_neg (by omega)]; exact hR⟩
    · skip
      exact absurd h_8 (by omega)
set_option maxHeartbeats 4000000 in
set_option maxRecDepth 100000 in
theorem c_X6_pays (l : Launch) {S : State} {D : va_G} {tc : Nat → ClassId} {A : Nat → Prop} {dz : Nat} (hZ : zB S D tc A dz) {m0 : Nat} {aM : Nat → Nat} {u : zS_} {b : Nat} {ji : Int} (h0 : 0 ≤ ji ∧ ji < 30 ∧ b < 6 ∧ 0 ≤ u 1 b ∧ u 1 b ≤ 2 ∧ 0 ≤ u 12 b ∧ u 12 b ≤ 2 ∧ 0 ≤ u 3 b ∧ u 3 b ≤ 47 ∧ 0 ≤ u 14 ji.toNat ∧ u 14 ji.toNat ≤ 47 ∧ 0 ≤ u 15 ji.toNat ∧ u 15 ji.toNat ≤ 50 ∧ 0 ≤ u 23 0 ∧ u 23 0 ≤ 1000) : zM l S A yX6_pays cX6_pays 5 (Option.none : Option Jvm.ClassFile.FieldType) { frames := 3, locals := 80, cells := 0, slots := 0 } [.ref m0, .int (zi ((b : Int))), .int (zi (ji))] (mH D tc A m0 aM u) (fun v H => v = none ∧ mH D tc A m0 aM (mpays u b ji.toNat) H) := by
  refine zM.mk (by decide +kernel) (Nat.le_of_ble_eq_true rfl) ?_
  intro p e s m below meth c ls X0 hR hl
  obtain ⟨hx, hb, hml, hr, hlocks, hown, hnm, hW, hpre, hA⟩ := X0
  have X : zH S A p s m c cX6_pays 5 RX6 := ⟨hx, hb, hml, hown, hW, hpre, hA, hZ.2.2.1⟩
  have hT := hZ.1
  have hK := va_K.moved hW.alike hZ.2.1
  have hS : va_S A s.heap s.heap [] := va_S.rf
  have hl : lv_has ls 5 [(0, .ref m0), (1, .int (zi ((b : Int)))), (2, .int (zi (ji)))] := hl
  skip
  have hw0 := mway_r (a := u 3 b) (b := u 14 ji.toNat) (by omega)
  have hrw : 0 ≤ mrew u b ji.toNat ∧ mrew u b ji.toNat ≤ 1000 := by unfold mrew; omega
  refine lv_bipush (v := zi (10)) hx hb dX6_pays_0 rfl ?_
  refine lv_aload_n hx hb dX6_pays_2 rfl (lv_at hl 0 rfl) ?_
  refine lv_aload_n hx hb dX6_pays_3 rfl (lv_at hl 0 rfl) ?_
  refine m_get hx hb (q_wsX6 hT hW) hown hK hR 3 (by decide) (q_667 hT hW) (fun _ h => h) (v := .ref (aM 3)) rfl dX6_pays_4 ?_
  refine lv_iload_n hx hb dX6_pays_7 rfl (lv_at hl 1 rfl) ?_
  refine m_iald (k := 3) (i := (b : Int)) (v := u 3 b) hx hb hK hR (by unfold mar; omega) (by decide) (by show 0 ≤ (b : Int) ∧ (b : Int) < ((6 : Nat) : Int); omega) rfl dX6_pays_8 ?_
  refine lv_aload_n hx hb dX6_pays_9 rfl (lv_at hl 0 rfl) ?_
  refine m_get hx hb (q_wsX6 hT hW) hown hK hR 14 (by decide) (q_678 hT hW) (fun _ h => h) (v := .ref (aM 14)) rfl dX6_pays_10 ?_
  refine lv_iload_n hx hb dX6_pays_13 rfl (lv_at hl 2 rfl) ?_
  refine m_iald (k := 14) (i := ji) (v := u 14 ji.toNat) hx hb hK hR (by unfold mar; omega) (by decide) (by show 0 ≤ ji ∧ ji < ((30 : Nat) : Int); omega) rfl dX6_pays_14 ?_
  refine z_invV (n := 2) (C := RX6) (c_X6_way l hZ (u := u) (a := u 3 b) (b := u 14 ji.toNat) (by omega)) X hS hR hl.1 (q_802 hT hW) (q_7 hT hW) (q_799 hT hW) (q_801 hT hW) (q_p24 hT hW) (m_recv hK hR) (by decide +kernel) rfl ⟨Nat.le_of_ble_eq_true rfl, Nat.le_of_ble_eq_true rfl⟩ ⟨Nat.le_of_ble_eq_true rfl, Nat.le_of_ble_eq_true rfl⟩ (Nat.le_of_ble_eq_true rfl) dX6_pays_15 (fun v H locs hv hS => ?_) rfl
  obtain ⟨rfl, hR⟩ := hv
  refine z_imul (a := 10) (b := (mway (u 3 b) (u 14 ji.toNat))) hx hb dX6_pays_18 ?_
  refine lv_iconst (v := zi (5)) hx hb dX6_pays_19 rfl ?_
  refine lv_aload_n hx hb dX6_pays_20 rfl (lv_at hl 0 rfl) ?_
  refine m_get hx hb (q_wsX6 hT hW) hown hK hR 15 (by decide) (q_679 hT hW) (fun _ h => h) (v := .ref (aM 15)) rfl dX6_pays_21 ?_
  refine lv_iload_n hx hb dX6_pays_24 rfl (lv_at hl 2 rfl) ?_
  refine m_iald (k := 15) (i := ji) (v := u 15 ji.toNat) hx hb hK hR (by unfold mar; omega) (by decide) (by show 0 ≤ ji ∧ ji < ((30 : Nat) : Int); omega) rfl dX6_pays_25 ?_
  refine z_imul (a := 5) (b := (u 15 ji.toNat)) hx hb dX6_pays_26 ?_
  refine z_iadd (a := (10 * (mway (u 3 b) (u 14 ji.toNat)))) (b := (5 * (u 15 ji.toNat))) hx hb dX6_pays_27 ?_
  refine lv_istore_n (lv' := [(3, .int (zi (((10 * (mway (u 3 b) (u 14 ji.toNat))) + (5 * (u 15 ji.toNat)))))), (0, .ref m0), (1, .int (zi ((b : Int)))), (2, .int (zi (ji)))]) hx hb dX6_pays_28 rfl hl (by decide) rfl (fun ls hl => ?_)
  refine lv_aload_n hx hb dX6_pays_29 rfl (lv_at hl 1 rfl) ?_
  refine m_get hx hb (q_wsX6 hT hW) hown hK hR 20 (by decide) (q_684 hT hW) (fun _ h => h) (v := .ref (aM 20)) rfl dX6_pays_30 ?_
  refine lv_iload_n hx hb dX6_pays_33 rfl (lv_at hl 3 rfl) ?_
  have J50 : ∀ (x1 : Int) (H : Heap) (locs : List Loc) (ls : Array Slot), x1 = (mrew u b ji.toNat) → mH D tc A m0 aM u H → va_S A s.heap H locs → lv_has ls 5 [(3, .int (zi (((10 * (mway (u 3 b) (u 14 ji.toNat))) + (5 * (u 15 ji.toNat)))))), (0, .ref m0), (1, .int (zi ((b : Int)))), (2, .int (zi (ji)))] → W p l e { frames := 3, locals := 80, cells := 0, slots := 0 } s m ([.ref m0, .int (zi ((b : Int))), .int (zi (ji))] : List Value).toArray below meth c H locs 0 0 (MQ below (zQ A (fun v H => v = none ∧ mH D tc A m0 aM (mpays u b ji.toNat) H)) ([.ref m0, .int (zi ((b : Int))), .int (zi (ji))] : List Value).toArray s ({ frames := 3, locals := 80, cells := 0, slots := 0 } : Room).cells ({ frames := 3, locals := 80, cells := 0, slots := 0 } : Room).slots A) (F0 m 50 ls [.int (zi (x1)), .int (zi (ji)), .ref (aM 20)]) := by
    intro x1 H locs ls hx1 hR hS hl
    subst hx1
    refine m_iast (k := 20) (i := ji) (x := (mrew u b ji.toNat)) hx hb hK hR hS (by unfold mar; omega) (by decide) (by show 0 ≤ ji ∧ ji < ((30 : Nat) : Int); omega) dX6_pays_50 (fun H locs hR hS => ?_)
    have J83 : ∀ (x2 : Int) (H : Heap) (locs : List Loc) (ls : Array Slot), x2 = (mown u b ji.toNat) → mH D tc A m0 aM (ms u 20 ji.toNat ((mrew u b ji.toNat))) H → va_S A s.heap H locs → lv_has ls 5 [(3, .int (zi (((10 * (mway (u 3 b) (u 14 ji.toNat))) + (5 * (u 15 ji.toNat)))))), (0, .ref m0), (1, .int (zi ((b : Int)))), (2, .int (zi (ji)))] → W p l e { frames := 3, locals := 80, cells := 0, slots := 0 } s m ([.ref m0, .int (zi ((b : Int))), .int (zi (ji))] : List Value).toArray below meth c H locs 0 0 (MQ below (zQ A (fun v H => v = none ∧ mH D tc A m0 aM (mpays u b ji.toNat) H)) ([.ref m0, .int (zi ((b : Int))), .int (zi (ji))] : List Value).toArray s ({ frames := 3, locals := 80, cells := 0, slots := 0 } : Room).cells ({ frames := 3, locals := 80, cells := 0, slots := 0 } : Room).slots A) (F0 m 83 ls [.int (zi (x2))]) := by
      intro x2 H locs ls hx2 hR hS hl
      subst hx2
      refine lv_istore (lv' := [(4, .int (zi ((mown u b ji.toNat)))), (3, .int (zi (((10 * (mway (u 3 b) (u 14 ji.toNat))) + (5 * (u 15 ji.toNat)))))), (0, .ref m0), (1, .int (zi ((b : Int)))), (2, .int (zi (ji)))]) hx hb dX6_pays_83 hl (by decide) rfl (fun ls hl => ?_)
      refine lv_aload_n hx hb dX6_pays_85 rfl (lv_at hl 2 rfl) ?_
      refine m_get hx hb (q_wsX6 hT hW) hown hK hR 22 (by decide) (q_686 hT hW) (fun _ h => h) (v := .ref (aM 22)) rfl dX6_pays_86 ?_
      refine lv_aload_n hx hb dX6_pays_89 rfl (lv_at hl 2 rfl) ?_
      refine m_get hx hb (q_wsX6 hT hW) hown hK hR 1 (by decide) (q_665 hT hW) (fun _ h => h) (v := .ref (aM 1)) rfl dX6_pays_90 ?_
      refine lv_iload_n hx hb dX6_pays_93 rfl (lv_at hl 3 rfl) ?_
      refine m_iald (k := 1) (i := (b : Int)) (v := u 1 b) hx hb hK hR (by unfold mar; omega) (by decide) (by show 0 ≤ (b : Int) ∧ (b : Int) < ((6 : Nat) : Int); omega) (ms_k (by decide)) dX6_pays_94 ?_
      refine lv_dup2_11 hx hb dX6_pays_95 rfl rfl ?_
      refine m_iald (k := 22) (i := (u 1 b)) (v := u 22 (u 1 b).toNat) hx hb hK hR (by unfold mar; omega) (by decide) (by show 0 ≤ (u 1 b) ∧ (u 1 b) < ((3 : Nat) : Int); omega) (ms_k (by decide)) dX6_pays_96 ?_
      refine lv_iload hx hb dX6_pays_97 (lv_at hl 0 rfl) ?_
      refine z_iadd (a := (u 22 (u 1 b).toNat)) (b := (mown u b ji.toNat)) hx hb dX6_pays_99 ?_
      refine m_iast (k := 22) (i := (u 1 b)) (x := ((u 22 (u 1 b).toNat) + (mown u b ji.toNat))) hx hb hK hR hS (by unfold mar; omega) (by decide) (by show 0 ≤ (u 1 b) ∧ (u 1 b) < ((3 : Nat) : Int); omega) dX6_pays_100 (fun H locs hR hS => ?_)
      refine lv_aload_n hx hb dX6_pays_101 rfl (lv_at hl 2 rfl) ?_
      refine m_get hx hb (q_wsX6 hT hW) hown hK hR 22 (by decide) (q_686 hT hW) (fun _ h => h) (v := .ref (aM 22)) rfl dX6_pays_102 ?_
      refine lv_aload_n hx hb dX6_pays_105 rfl (lv_at hl 2 rfl) ?_
      refine m_get hx hb (q_wsX6 hT hW) hown hK hR 12 (by decide) (q_676 hT hW) (fun _ h => h) (v := .ref (aM 12)) rfl dX6_pays_106 ?_
      refine lv_iload_n hx hb dX6_pays_109 rfl (lv_at hl 3 rfl) ?_
      refine m_iald (k := 12) (i := (b : Int)) (v := u 12 b) hx hb hK hR (by unfold mar; omega) (by decide) (by show 0 ≤ (b : Int) ∧ (b : Int) < ((6 : Nat) : Int); omega) ((ms_k (by decide)).trans (ms_k (by decide))) dX6_pays_110 ?_
      refine lv_dup2_11 hx hb dX6_pays_111 rfl rfl ?_
      refine m_iald (k := 22) (i := (u 12 b)) (v := ms u 22 (u 1 b).toNat (((u 22 (u 1 b).toNat) + (mown u b ji.toNat))) 22 (u 12 b).toNat) hx hb hK hR (by unfold mar; omega) (by decide) (by show 0 ≤ (u 12 b) ∧ (u 12 b) < ((3 : Nat) : Int); omega) (ms_raw (by decide)) dX6_pays_112 ?_
      refine lv_aload_n hx hb dX6_pays_113 rfl (lv_at hl 2 rfl) ?_
      refine m_get hx hb (q_wsX6 hT hW) hown hK hR 20 (by decide) (q_684 hT hW) (fun _ h => h) (v := .ref (aM 20)) rfl dX6_pays_114 ?_
      refine lv_iload_n hx hb dX6_pays_117 rfl (lv_at hl 4 rfl) ?_
      refine m_iald (k := 20) (i := ji) (v := (mrew u b ji.toNat)) hx hb hK hR (by unfold mar; omega) (by decide) (by show 0 ≤ ji ∧ ji < ((30 : Nat) : Int); omega) ((ms_k (by decide)).trans (ms_s)) dX6_pays_118 ?_
      refine lv_iload hx hb dX6_pays_119 (lv_at hl 0 rfl) ?_
      refine z_isub (a := (mrew u b ji.toNat)) (b := (mown u b ji.toNat)) hx hb dX6_pays_121 ?_
      refine z_iadd (a := (ms u 22 (u 1 b).toNat (((u 22 (u 1 b).toNat) + (mown u b ji.toNat))) 22 (u 12 b).toNat)) (b := ((mrew u b ji.toNat) - (mown u b ji.toNat))) hx hb dX6_pays_122 ?_
      refine m_iast (k := 22) (i := (u 12 b)) (x := ((ms u 22 (u 1 b).toNat (((u 22 (u 1 b).toNat) + (mown u b ji.toNat))) 22 (u 12 b).toNat) + ((mrew u b ji.toNat) - (mown u b ji.toNat)))) hx hb hK hR hS (by unfold mar; omega) (by decide) (by show 0 ≤ (u 12 b) ∧ (u 12 b) < ((3 : Nat) : Int); omega) dX6_pays_123 (fun H locs hR hS => ?_)
      exact z_vret hx hb hr hlocks hS (by decide) (by decide) dX6_pays_124 ⟨rfl, by rw [show mpays u b ji.toNat = (ms (ms (ms u 20 ji.toNat ((mrew u b ji.toNat))) 22 (u 1 b).toNat (((u 22 (u 1 b).toNat) + (mown u b ji.toNat)))) 22 (u 12 b).toNat (((ms u 22 (u 1 b).toNat (((u 22 (u 1 b).toNat) + (mown u b ji.toNat))) 22 (u 12 b).toNat) + ((mrew u b ji.toNat) - (mown u b ji.toNat))))) from rfl]; exact hR⟩
    refine lv_aload_n hx hb dX6_pays_51 rfl (lv_at hl 1 rfl) ?_
    refine m_get hx hb (q_wsX6 hT hW) hown hK hR 12 (by decide) (q_676 hT hW) (fun _ h => h) (v := .ref (aM 12)) rfl dX6_pays_52 ?_
    refine lv_iload_n hx hb dX6_pays_55 rfl (lv_at hl 2 rfl) ?_
    refine m_iald (k := 12) (i := (b : Int)) (v := u 12 b) hx hb hK hR (by unfold mar; omega) (by decide) (by show 0 ≤ (b : Int) ∧ (b : Int) < ((6 : Nat) : Int); omega) (ms_k (by decide)) dX6_pays_56 ?_
    refine lv_aload_n hx hb dX6_pays_57 rfl (lv_at hl 1 rfl) ?_
    refine m_get hx hb (q_wsX6 hT hW) hown hK hR 1 (by decide) (q_665 hT hW) (fun _ h => h) (v := .ref (aM 1)) rfl dX6_pays_58 ?_
    refine lv_iload_n hx hb dX6_pays_61 rfl (lv_at hl 2 rfl) ?_
    refine m_iald (k := 1) (i := (b : Int)) (v := u 1 b) hx hb hK hR (by unfold mar; omega) (by decide) (by show 0 ≤ (b : Int) ∧ (b : Int) < ((6 : Nat) : Int); omega) (ms_k (by decide)) dX6_pays_62 ?_
    refine z_icmp_ne (a := (u 12 b)) (b := (u 1 b)) (tgt := 75) hx hb dX6_pays_63 (by decide) (by omega) (fun h_63 => ?_) (fun h_63 => ?_)
    · skip
      refine lv_aload_n hx hb dX6_pays_75 rfl (lv_at hl 1 rfl) ?_
      refine m_get hx hb (q_wsX6 hT hW) hown hK hR 20 (by decide) (q_684 hT hW) (fun _ h => h) (v := .ref (aM 20)) rfl dX6_pays_76 ?_
      refine lv_iload_n hx hb dX6_pays_79 rfl (lv_at hl 3 rfl) ?_
      refine m_iald (k := 20) (i := ji) (v := (mrew u b ji.toNat)) hx hb hK hR (by unfold mar; omega) (by decide) (by show 0 ≤ ji ∧ ji < ((30 : Nat) : Int); omega) (ms_s) dX6_pays_80 ?_
      refine lv_iconst (v := zi (2)) hx hb dX6_pays_81 rfl ?_
      refine z_idiv (a := (mrew u b ji.toNat)) (b := 2) hx hb dX6_pays_82 (by omega) ?_
      exact J83 _ _ _ _ (by unfold mown; omega) hR hS (lv_sub hl [0, 1, 2, 3] rfl)
    · skip
      refine lv_aload_n hx hb dX6_pays_66 rfl (lv_at hl 1 rfl) ?_
      refine m_get hx hb (q_wsX6 hT hW) hown hK hR 20 (by decide) (q_684 hT hW) (fun _ h => h) (v := .ref (aM 20)) rfl dX6_pays_67 ?_
      refine lv_iload_n hx hb dX6_pays_70 rfl (lv_at hl 3 rfl) ?_
      refine m_iald (k := 20) (i := ji) (v := (mrew u b ji.toNat)) hx hb hK hR (by unfold mar; omega) (by decide) (by show 0 ≤ ji ∧ ji < ((30 : Nat) : Int); omega) (ms_s) dX6_pays_71 ?_
      refine lv_goto (tgt := 83) hx hb dX6_pays_72 (by decide) ?_
      exact J83 _ _ _ _ (by unfold mown; omega) hR hS (lv_sub hl [0, 1, 2, 3] rfl)
  refine lv_iload_n hx hb dX6_pays_34 rfl (lv_at hl 0 rfl) ?_
  refine lv_aload_n hx hb dX6_pays_35 rfl (lv_at hl 1 rfl) ?_
  refine m_get hx hb (q_wsX6 hT hW) hown hK hR 23 (by decide) (q_687 hT hW) (fun _ h => h) (v := .int (zi (u 23 0))) (congrArg (fun z : Int => some (Value.int (zi z))) rfl) dX6_pays_36 ?_
  refine z_icmp_ge (a := ((10 * (mway (u 3 b) (u 14 ji.toNat))) + (5 * (u 15 ji.toNat)))) (b := (u 23 0)) (tgt := 46) hx hb dX6_pays_39 (by decide) (by omega) (fun h_39 => ?_) (fun h_39 => ?_)
  · skip
    refine lv_aload_n hx hb dX6_pays_46 rfl (lv_at hl 1 rfl) ?_
    refine m_get hx hb (q_wsX6 hT hW) hown hK hR 23 (by decide) (q_687 hT hW) (fun _ h => h) (v := .int (zi (u 23 0))) (congrArg (fun z : Int => some (Value.int (zi z))) rfl) dX6_pays_47 ?_
    exact J50 _ _ _ _ (by unfold mrew; omega) hR hS (lv_sub hl [0, 1, 2, 3] rfl)
  · skip
    refine lv_iload_n hx hb dX6_pays_42 rfl (lv_at hl 0 rfl) ?_
    refine lv_goto (tgt := 50) hx hb dX6_pays_43 (by decide) ?_
    exact J50 _ _ _ _ (by unfold mrew; omega) hR hS (lv_sub hl [0, 1, 2, 3] rfl)
set_option maxHeartbeats 4000000 in
set_option maxRecDepth 100000 in
theorem c_X6_arrives (l : Launch) {S : State} {D : va_G} {tc : Nat → ClassId} {A : Nat → Prop} {dz : Nat} (hZ : zB S D tc A dz) {m0 : Nat} {aM : Nat → Nat} {u : zS_} {b : Nat} (hb0 : (b : Int) < u 13 0) (hI : zIn u) : zM l S A yX6_arrives cX6_arrives 4 (Option.none : Option Jvm.ClassFile.FieldType) { frames := 4, locals := 110, cells := 0, slots := 0 } [.ref m0, .int (zi ((b : Int)))] (mH D tc A m0 aM u) (fun v H => v = none ∧ mH D tc A m0 aM (marr u b) H) := by
  refine zM.mk (by decide +kernel) (Nat.le_of_ble_eq_true rfl) ?_
  intro p e s m below meth c ls X0 hR hl
  obtain ⟨hx, hb, hml, hr, hlocks, hown, hnm, hW, hpre, hA⟩ := X0
  have X : zH S A p s m c cX6_arrives 4 RX6 := ⟨hx, hb, hml, hown, hW, hpre, hA, hZ.2.2.1⟩
  have hT := hZ.1
  have hK := va_K.moved hW.alike hZ.2.1
  have hS : va_S A s.heap s.heap [] := va_S.rf
  have hl : lv_has ls 4 [(0, .ref m0), (1, .int (zi ((b : Int))))] := hl
  skip
  have hI1 := hI.1
  have hB := hI.2.2.1 b hb0
  unfold zIb at hB
  have hB4 : u 8 b ≠ 0 → 0 ≤ u 10 b ∧ u 10 b ≤ u 24 0 ∧ 0 ≤ u 11 b ∧ u 11 b ≤ 2000 := hB.2.2
  refine lv_aload_n hx hb dX6_arrives_0 rfl (lv_at hl 0 rfl) ?_
  refine m_get hx hb (q_wsX6 hT hW) hown hK hR 8 (by decide) (q_672 hT hW) (fun _ h => h) (v := .ref (aM 8)) rfl dX6_arrives_1 ?_
  refine lv_iload_n hx hb dX6_arrives_4 rfl (lv_at hl 1 rfl) ?_
  refine m_iald (k := 8) (i := (b : Int)) (v := u 8 b) hx hb hK hR (by unfold mar; omega) (by decide) (by show 0 ≤ (b : Int) ∧ (b : Int) < ((6 : Nat) : Int); omega) rfl dX6_arrives_5 ?_
  refine lv_iconst (v := zi (1)) hx hb dX6_arrives_6 rfl ?_
  refine z_icmp_ne (a := (u 8 b)) (b := 1) (tgt := 23) hx hb dX6_arrives_7 (by decide) (by omega) (fun h_7 => ?_) (fun h_7 => ?_)
  · skip
    exact z_vret hx hb hr hlocks hS (by decide) (by decide) dX6_arrives_23 ⟨rfl, by rw [show marr u b = u from by unfold marr; first | exact if_neg (by omega) | (rw [if_pos ⟨by omega, by omega⟩]; first | exact if_pos (by omega) | exact if_neg (by omega))]; exact hR⟩
  · skip
    refine lv_aload_n hx hb dX6_arrives_10 rfl (lv_at hl 0 rfl) ?_
    refine m_get hx hb (q_wsX6 hT hW) hown hK hR 11 (by decide) (q_675 hT hW) (fun _ h => h) (v := .ref (aM 11)) rfl dX6_arrives_11 ?_
    refine lv_iload_n hx hb dX6_arrives_14 rfl (lv_at hl 1 rfl) ?_
    refine m_iald (k := 11) (i := (b : Int)) (v := u 11 b) hx hb hK hR (by unfold mar; omega) (by decide) (by show 0 ≤ (b : Int) ∧ (b : Int) < ((6 : Nat) : Int); omega) rfl dX6_arrives_15 ?_
    refine lv_aload_n hx hb dX6_arrives_16 rfl (lv_at hl 0 rfl) ?_
    refine m_get hx hb (q_wsX6 hT hW) hown hK hR 24 (by decide) (q_688 hT hW) (fun _ h => h) (v := .int (zi (u 24 0))) (congrArg (fun z : Int => some (Value.int (zi z))) rfl) dX6_arrives_17 ?_
    refine z_icmp_eq (a := (u 11 b)) (b := (u 24 0)) (tgt := 24) hx hb dX6_arrives_20 (by decide) (by omega) (fun h_20 => ?_) (fun h_20 => ?_)
    · skip
      refine lv_aload_n hx hb dX6_arrives_24 rfl (lv_at hl 0 rfl) ?_
      refine m_get hx hb (q_wsX6 hT hW) hown hK hR 24 (by decide) (q_688 hT hW) (fun _ h => h) (v := .int (zi (u 24 0))) (congrArg (fun z : Int => some (Value.int (zi z))) rfl) dX6_arrives_25 ?_
      refine lv_aload_n hx hb dX6_arrives_28 rfl (lv_at hl 0 rfl) ?_
      refine m_get hx hb (q_wsX6 hT hW) hown hK hR 10 (by decide) (q_674 hT hW) (fun _ h => h) (v := .ref (aM 10)) rfl dX6_arrives_29 ?_
      refine lv_iload_n hx hb dX6_arrives_32 rfl (lv_at hl 1 rfl) ?_
      refine m_iald (k := 10) (i := (b : Int)) (v := u 10 b) hx hb hK hR (by unfold mar; omega) (by decide) (by show 0 ≤ (b : Int) ∧ (b : Int) < ((6 : Nat) : Int); omega) rfl dX6_arrives_33 ?_
      refine z_isub (a := (u 24 0)) (b := (u 10 b)) hx hb dX6_arrives_34 ?_
      refine lv_istore_n (lv' := [(2, .int (zi (((u 24 0) - (u 10 b))))), (0, .ref m0), (1, .int (zi ((b : Int))))]) hx hb dX6_arrives_35 rfl hl (by decide) rfl (fun ls hl => ?_)
      refine lv_aload_n hx hb dX6_arrives_36 rfl (lv_at hl 1 rfl) ?_
      refine m_get hx hb (q_wsX6 hT hW) hown hK hR 9 (by decide) (q_673 hT hW) (fun _ h => h) (v := .ref (aM 9)) rfl dX6_arrives_37 ?_
      refine lv_iload_n hx hb dX6_arrives_40 rfl (lv_at hl 2 rfl) ?_
      refine m_iald (k := 9) (i := (b : Int)) (v := u 9 b) hx hb hK hR (by unfold mar; omega) (by decide) (by show 0 ≤ (b : Int) ∧ (b : Int) < ((6 : Nat) : Int); omega) rfl dX6_arrives_41 ?_
      refine lv_istore_n (lv' := [(3, .int (zi ((u 9 b)))), (2, .int (zi (((u 24 0) - (u 10 b))))), (0, .ref m0), (1, .int (zi ((b : Int))))]) hx hb dX6_arrives_42 rfl hl (by decide) rfl (fun ls hl => ?_)
      refine lv_iload_n hx hb dX6_arrives_43 rfl (lv_at hl 0 rfl) ?_
      refine z_if_lt (a := (u 9 b)) (tgt := 109) hx hb dX6_arrives_44 (by decide) (by omega) (fun h_44 => ?_) (fun h_44 => ?_)
      · skip
        refine lv_aload_n hx hb dX6_arrives_109 rfl (lv_at hl 2 rfl) ?_
        refine m_get hx hb (q_wsX6 hT hW) hown hK hR 8 (by decide) (q_672 hT hW) (fun _ h => h) (v := .ref (aM 8)) rfl dX6_arrives_110 ?_
        refine lv_iload_n hx hb dX6_arrives_113 rfl (lv_at hl 3 rfl) ?_
        refine lv_iconst (v := zi (2)) hx hb dX6_arrives_114 rfl ?_
        refine m_iast (k := 8) (i := (b : Int)) (x := 2) hx hb hK hR hS (by unfold mar; omega) (by decide) (by show 0 ≤ (b : Int) ∧ (b : Int) < ((6 : Nat) : Int); omega) dX6_arrives_115 (fun H locs hR hS => ?_)
        refine lv_aload_n hx hb dX6_arrives_116 rfl (lv_at hl 2 rfl) ?_
        refine m_get hx hb (q_wsX6 hT hW) hown hK hR 6 (by decide) (q_670 hT hW) (fun _ h => h) (v := .ref (aM 6)) rfl dX6_arrives_117 ?_
        refine lv_iload_n hx hb dX6_arrives_120 rfl (lv_at hl 3 rfl) ?_
        refine lv_aload_n hx hb dX6_arrives_121 rfl (lv_at hl 2 rfl) ?_
        refine m_get hx hb (q_wsX6 hT hW) hown hK hR 5 (by decide) (q_669 hT hW) (fun _ h => h) (v := .ref (aM 5)) rfl dX6_arrives_122 ?_
        refine lv_iload_n hx hb dX6_arrives_125 rfl (lv_at hl 3 rfl) ?_
        refine m_iald (k := 5) (i := (b : Int)) (v := u 5 b) hx hb hK hR (by unfold mar; omega) (by decide) (by show 0 ≤ (b : Int) ∧ (b : Int) < ((6 : Nat) : Int); omega) (ms_k (by decide)) dX6_arrives_126 ?_
        refine m_iast (k := 6) (i := (b : Int)) (x := (u 5 b)) hx hb hK hR hS (by unfold mar; omega) (by decide) (by show 0 ≤ (b : Int) ∧ (b : Int) < ((6 : Nat) : Int); omega) dX6_arrives_127 (fun H locs hR hS => ?_)
        refine lv_aload_n hx hb dX6_arrives_128 rfl (lv_at hl 2 rfl) ?_
        refine m_get hx hb (q_wsX6 hT hW) hown hK hR 11 (by decide) (q_675 hT hW) (fun _ h => h) (v := .ref (aM 11)) rfl dX6_arrives_129 ?_
        refine lv_iload_n hx hb dX6_arrives_132 rfl (lv_at hl 3 rfl) ?_
        refine lv_aload_n hx hb dX6_arrives_133 rfl (lv_at hl 2 rfl) ?_
        refine m_get hx hb (q_wsX6 hT hW) hown hK hR 24 (by decide) (q_688 hT hW) (fun _ h => h) (v := .int (zi (u 24 0))) (congrArg (fun z : Int => some (Value.int (zi z))) ((ms_k (by decide)).trans (ms_k (by decide)))) dX6_arrives_134 ?_
        refine lv_iload_n hx hb dX6_arrives_137 rfl (lv_at hl 1 rfl) ?_
        refine z_iadd (a := (u 24 0)) (b := ((u 24 0) - (u 10 b))) hx hb dX6_arrives_138 ?_
        refine m_iast (k := 11) (i := (b : Int)) (x := ((u 24 0) + ((u 24 0) - (u 10 b)))) hx hb hK hR hS (by unfold mar; omega) (by decide) (by show 0 ≤ (b : Int) ∧ (b : Int) < ((6 : Nat) : Int); omega) dX6_arrives_139 (fun H locs hR hS => ?_)
        exact z_vret hx hb hr hlocks hS (by decide) (by decide) dX6_arrives_140 ⟨rfl, by rw [show marr u b = (ms (ms (ms u 8 b (2)) 6 b ((u 5 b))) 11 b (((u 24 0) + ((u 24 0) - (u 10 b))))) from by unfold marr; first | exact if_neg (by omega) | (rw [if_pos ⟨by omega, by omega⟩]; first | exact if_pos (by omega) | exact if_neg (by omega))]; exact hR⟩
      · skip
        have hc : 0 ≤ u 9 b := by omega
        have hC := hI.2.2.2 (u 9 b).toNat (by omega)
        unfold zIc at hC
        have hB2 := hB.2.1 hc
        have hw0 := mway_r (a := u 3 b) (b := u 14 (u 9 b).toNat) (by omega)
        refine lv_aload_n hx hb dX6_arrives_47 rfl (lv_at hl 2 rfl) ?_
        refine m_get hx hb (q_wsX6 hT hW) hown hK hR 17 (by decide) (q_681 hT hW) (fun _ h => h) (v := .ref (aM 17)) rfl dX6_arrives_48 ?_
        refine lv_iload_n hx hb dX6_arrives_51 rfl (lv_at hl 0 rfl) ?_
        refine lv_iconst (v := zi (2)) hx hb dX6_arrives_52 rfl ?_
        refine m_iast (k := 17) (i := (u 9 b)) (x := 2) hx hb hK hR hS (by unfold mar; omega) (by decide) (by show 0 ≤ (u 9 b) ∧ (u 9 b) < ((30 : Nat) : Int); omega) dX6_arrives_53 (fun H locs hR hS => ?_)
        refine lv_aload_n hx hb dX6_arrives_54 rfl (lv_at hl 2 rfl) ?_
        refine lv_iload_n hx hb dX6_arrives_55 rfl (lv_at hl 3 rfl) ?_
        refine lv_iload_n hx hb dX6_arrives_56 rfl (lv_at hl 0 rfl) ?_
        have e1 : ∀ k j, k ≠ 17 → (ms u 17 (u 9 b).toNat 2) k j = u k j := fun k j h => ms_k h
        refine z_invV (n := 2) (C := RX6) (c_X6_pays l hZ (u := (ms u 17 (u 9 b).toNat 2)) (b := b) (ji := u 9 b) (by rw [e1 1 b (by decide), e1 12 b (by decide), e1 3 b (by decide), e1 14 _ (by decide), e1 15 _ (by decide), e1 23 0 (by decide)]; omega)) X hS hR hl.1 (q_798 hT hW) (q_7 hT hW) (q_795 hT hW) (q_797 hT hW) (q_p23 hT hW) (m_recv hK hR) (by decide +kernel) rfl ⟨Nat.le_of_ble_eq_true rfl, Nat.le_of_ble_eq_true rfl⟩ ⟨Nat.le_of_ble_eq_true rfl, Nat.le_of_ble_eq_true rfl⟩ (Nat.le_of_ble_eq_true rfl) dX6_arrives_57 (fun v H locs hv hS => ?_) rfl
        obtain ⟨rfl, hR⟩ := hv
        refine lv_aload_n hx hb dX6_arrives_60 rfl (lv_at hl 2 rfl) ?_
        refine m_get hx hb (q_wsX6 hT hW) hown hK hR 6 (by decide) (q_670 hT hW) (fun _ h => h) (v := .ref (aM 6)) rfl dX6_arrives_61 ?_
        refine lv_iload_n hx hb dX6_arrives_64 rfl (lv_at hl 3 rfl) ?_
        refine lv_dup2_11 hx hb dX6_arrives_65 rfl rfl ?_
        refine m_iald (k := 6) (i := (b : Int)) (v := u 6 b) hx hb hK hR (by unfold mar; omega) (by decide) (by show 0 ≤ (b : Int) ∧ (b : Int) < ((6 : Nat) : Int); omega) ((mpays_k ⟨by decide, by decide⟩).trans (ms_k (by decide))) dX6_arrives_66 ?_
        refine lv_iconst (v := zi (2)) hx hb dX6_arrives_67 rfl ?_
        refine lv_aload_n hx hb dX6_arrives_68 rfl (lv_at hl 2 rfl) ?_
        refine lv_aload_n hx hb dX6_arrives_69 rfl (lv_at hl 2 rfl) ?_
        refine m_get hx hb (q_wsX6 hT hW) hown hK hR 3 (by decide) (q_667 hT hW) (fun _ h => h) (v := .ref (aM 3)) rfl dX6_arrives_70 ?_
        refine lv_iload_n hx hb dX6_arrives_73 rfl (lv_at hl 3 rfl) ?_
        refine m_iald (k := 3) (i := (b : Int)) (v := u 3 b) hx hb hK hR (by unfold mar; omega) (by decide) (by show 0 ≤ (b : Int) ∧ (b : Int) < ((6 : Nat) : Int); omega) ((mpays_k ⟨by decide, by decide⟩).trans (ms_k (by decide))) dX6_arrives_74 ?_
        refine lv_aload_n hx hb dX6_arrives_75 rfl (lv_at hl 2 rfl) ?_
        refine m_get hx hb (q_wsX6 hT hW) hown hK hR 14 (by decide) (q_678 hT hW) (fun _ h => h) (v := .ref (aM 14)) rfl dX6_arrives_76 ?_
        refine lv_iload_n hx hb dX6_arrives_79 rfl (lv_at hl 0 rfl) ?_
        refine m_iald (k := 14) (i := (u 9 b)) (v := u 14 (u 9 b).toNat) hx hb hK hR (by unfold mar; omega) (by decide) (by show 0 ≤ (u 9 b) ∧ (u 9 b) < ((30 : Nat) : Int); omega) ((mpays_k ⟨by decide, by decide⟩).trans (ms_k (by decide))) dX6_arrives_80 ?_
        refine z_invV (n := 2) (C := RX6) (c_X6_way l hZ (u := (mpays (ms u 17 (u 9 b).toNat 2) b (u 9 b).toNat)) (a := u 3 b) (b := u 14 (u 9 b).toNat) (by omega)) X hS hR hl.1 (q_802 hT hW) (q_7 hT hW) (q_799 hT hW) (q_801 hT hW) (q_p24 hT hW) (m_recv hK hR) (by decide +kernel) rfl ⟨Nat.le_of_ble_eq_true rfl, Nat.le_of_ble_eq_true rfl⟩ ⟨Nat.le_of_ble_eq_true rfl, Nat.le_of_ble_eq_true rfl⟩ (Nat.le_of_ble_eq_true rfl) dX6_arrives_81 (fun v H locs hv hS => ?_) rfl
        obtain ⟨rfl, hR⟩ := hv
        refine z_imul (a := 2) (b := (mway (u 3 b) (u 14 (u 9 b).toNat))) hx hb dX6_arrives_84 ?_
        refine z_isub (a := (u 6 b)) (b := (2 * (mway (u 3 b) (u 14 (u 9 b).toNat)))) hx hb dX6_arrives_85 ?_
        refine m_iast (k := 6) (i := (b : Int)) (x := ((u 6 b) - (2 * (mway (u 3 b) (u 14 (u 9 b).toNat))))) hx hb hK hR hS (by unfold mar; omega) (by decide) (by show 0 ≤ (b : Int) ∧ (b : Int) < ((6 : Nat) : Int); omega) dX6_arrives_86 (fun H locs hR hS => ?_)
        refine lv_aload_n hx hb dX6_arrives_87 rfl (lv_at hl 2 rfl) ?_
        refine m_get hx hb (q_wsX6 hT hW) hown hK hR 9 (by decide) (q_673 hT hW) (fun _ h => h) (v := .ref (aM 9)) rfl dX6_arrives_88 ?_
        refine lv_iload_n hx hb dX6_arrives_91 rfl (lv_at hl 3 rfl) ?_
        refine lv_iconst (v := zi (-1)) hx hb dX6_arrives_92 rfl ?_
        refine m_iast (k := 9) (i := (b : Int)) (x := (-1)) hx hb hK hR hS (by unfold mar; omega) (by decide) (by show 0 ≤ (b : Int) ∧ (b : Int) < ((6 : Nat) : Int); omega) dX6_arrives_93 (fun H locs hR hS => ?_)
        refine lv_aload_n hx hb dX6_arrives_94 rfl (lv_at hl 2 rfl) ?_
        refine m_get hx hb (q_wsX6 hT hW) hown hK hR 11 (by decide) (q_675 hT hW) (fun _ h => h) (v := .ref (aM 11)) rfl dX6_arrives_95 ?_
        refine lv_iload_n hx hb dX6_arrives_98 rfl (lv_at hl 3 rfl) ?_
        refine lv_aload_n hx hb dX6_arrives_99 rfl (lv_at hl 2 rfl) ?_
        refine m_get hx hb (q_wsX6 hT hW) hown hK hR 24 (by decide) (q_688 hT hW) (fun _ h => h) (v := .int (zi (u 24 0))) (congrArg (fun z : Int => some (Value.int (zi z))) ((ms_k (by decide)).trans ((ms_k (by decide)).trans ((mpays_k ⟨by decide, by decide⟩).trans (ms_k (by decide)))))) dX6_arrives_100 ?_
        refine lv_iload_n hx hb dX6_arrives_103 rfl (lv_at hl 1 rfl) ?_
        refine z_iadd (a := (u 24 0)) (b := ((u 24 0) - (u 10 b))) hx hb dX6_arrives_104 ?_
        refine m_iast (k := 11) (i := (b : Int)) (x := ((u 24 0) + ((u 24 0) - (u 10 b)))) hx hb hK hR hS (by unfold mar; omega) (by decide) (by show 0 ≤ (b : Int) ∧ (b : Int) < ((6 : Nat) : Int); omega) dX6_arrives_105 (fun H locs hR hS => ?_)
        refine lv_goto (tgt := 140) hx hb dX6_arrives_106 (by decide) ?_
        exact z_vret hx hb hr hlocks hS (by decide) (by decide) dX6_arrives_140 ⟨rfl, by rw [show marr u b = (ms (ms (ms (mpays (ms u 17 (u 9 b).toNat (2)) b (u 9 b).toNat) 6 b (((u 6 b) - (2 * (mway (u 3 b) (u 14 (u 9 b).toNat)))))) 9 b ((-1))) 11 b (((u 24 0) + ((u 24 0) - (u 10 b))))) from by unfold marr; first | exact if_neg (by omega) | (rw [if_pos ⟨by omega, by omega⟩]; first | exact if_pos (by omega) | exact if_neg (by omega))]; exact hR⟩
    · skip
      exact z_vret hx hb hr hlocks hS (by decide) (by decide) dX6_arrives_23 ⟨rfl, by rw [show marr u b = u from by unfold marr; first | exact if_neg (by omega) | (rw [if_pos ⟨by omega, by omega⟩]; first | exact if_pos (by omega) | exact if_neg (by omega))]; exact hR⟩
