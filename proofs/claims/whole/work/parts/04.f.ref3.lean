theorem mcall_y {u : zS_} {c : Nat} (h : mlost u c 17 c = 0) : mcall u c = mtasks (mlost u c) c := if_pos h
theorem mcall_n {u : zS_} {c : Nat} (h : ¬ mlost u c 17 c = 0) : mcall u c = mlost u c := if_neg h
theorem mlost_y {u : zS_} {c : Nat} (h : u 17 c = 0 ∧ u 16 c < u 24 0) : mlost u c = ms u 17 c 3 := if_pos h
theorem mlost_n {u : zS_} {c : Nat} (h : ¬ (u 17 c = 0 ∧ u 16 c < u 24 0)) : mlost u c = u := if_neg h
theorem mfree_y {u : zS_} {b : Nat} (h : u 8 b = 2 ∧ u 11 b = u 24 0) : mfree u b = ms u 8 b 0 := by
  unfold mfree; rw [if_pos h]
theorem mfree_n {u : zS_} {b : Nat} (h : ¬ (u 8 b = 2 ∧ u 11 b = u 24 0)) : mfree u b = ms u 8 b (u 8 b) := by
  unfold mfree; rw [if_neg h]
theorem zn_nat (n : Nat) : ((n : Int)).toNat = n := rfl
set_option maxHeartbeats 4000000 in
set_option maxRecDepth 100000 in
theorem c_X6_tasks (l : Launch) {S : State} {D : va_G} {tc : Nat → ClassId} {A : Nat → Prop} {dz : Nat} (hZ : zB S D tc A dz) {m0 : Nat} {aM : Nat → Nat} {u : zS_} {j : Nat} (hj0 : (j : Int) < u 21 0) (hI : zIn u) : zM l S A yX6_tasks cX6_tasks 4 (Option.none : Option Jvm.ClassFile.FieldType) { frames := 5, locals := 140, cells := 0, slots := 0 } [.ref m0, .int (zi ((j : Int)))] (mH D tc A m0 aM u) (fun v H => v = none ∧ mH D tc A m0 aM (mtasks u j) H) := by
  refine zM.mk (by decide +kernel) (Nat.le_of_ble_eq_true rfl) ?_
  intro p e s m below meth c ls X0 hR hl
  obtain ⟨hx, hb, hml, hr, hlocks, hown, hnm, hW, hpre, hA⟩ := X0
  have X : zH S A p s m c cX6_tasks 4 RX6 := ⟨hx, hb, hml, hown, hW, hpre, hA, hZ.2.2.1⟩
  have hT := hZ.1
  have hK := va_K.moved hW.alike hZ.2.1
  have hS : va_S A s.heap s.heap [] := va_S.rf
  have hl : lv_has ls 4 [(0, .ref m0), (1, .int (zi ((j : Int))))] := hl
  skip
  have hI1 := hI.1
  have hC := hI.2.2.2 j hj0
  unfold zIc at hC
  refine lv_iconst (v := zi (-1)) hx hb dX6_tasks_0 rfl ?_
  refine lv_istore_n (lv' := [(2, .int (zi ((-1)))), (0, .ref m0), (1, .int (zi ((j : Int))))]) hx hb dX6_tasks_1 rfl hl (by decide) rfl (fun ls hl => ?_)
  refine lv_iconst (v := zi (0)) hx hb dX6_tasks_2 rfl ?_
  refine lv_istore_n (lv' := [(3, .int (zi (0))), (2, .int (zi ((-1)))), (0, .ref m0), (1, .int (zi ((j : Int))))]) hx hb dX6_tasks_3 rfl hl (by decide) rfl (fun ls hl => ?_)
  suffices K : ∀ (fu : Nat) (bn : Nat) (best : Int) (H : Heap) (locs : List Loc) (ls : Array Slot), ((u 13 0).toNat - bn) < fu → ((bn : Int) ≤ u 13 0) → (best = mbest u j bn) → mH D tc A m0 aM u H → va_S A s.heap H locs → lv_has ls 4 [(3, .int (zi ((bn : Int)))), (2, .int (zi (best))), (0, .ref m0), (1, .int (zi ((j : Int))))] → W p l e { frames := 5, locals := 140, cells := 0, slots := 0 } s m ([.ref m0, .int (zi ((j : Int)))] : List Value).toArray below meth c H locs 0 0 (MQ below (zQ A (fun v H => v = none ∧ mH D tc A m0 aM (mtasks u j) H)) ([.ref m0, .int (zi ((j : Int)))] : List Value).toArray s ({ frames := 5, locals := 140, cells := 0, slots := 0 } : Room).cells ({ frames := 5, locals := 140, cells := 0, slots := 0 } : Room).slots A) (F0 m 4 ls []) from K _ 0 (-1) _ _ _ (Nat.lt_succ_self _) (by omega) rfl hR hS (lv_sub hl [0, 1, 2, 3] rfl)
  intro fu
  induction fu with
  | zero => intro bn best H locs ls hm; exact absurd hm (Nat.not_lt_zero _)
  | succ fu ih =>
    intro bn best H locs ls hm hbn hbest hR hS hl
    have hbr := mbest_r (u := u) (c := j) bn
    rw [← hbest] at hbr
    refine lv_iload_n hx hb dX6_tasks_4 rfl (lv_at hl 0 rfl) ?_
    refine lv_aload_n hx hb dX6_tasks_5 rfl (lv_at hl 2 rfl) ?_
    refine m_get hx hb (q_wsX6 hT hW) hown hK hR 13 (by decide) (q_677 hT hW) (fun _ h => h) (v := .int (zi (u 13 0))) (congrArg (fun z : Int => some (Value.int (zi z))) rfl) dX6_tasks_6 ?_
    refine z_icmp_ge (a := (bn : Int)) (b := (u 13 0)) (tgt := 52) hx hb dX6_tasks_9 (by decide) (by omega) (fun h_9 => ?_) (fun h_9 => ?_)
    · skip
      have hbq : bn = (u 13 0).toNat := by omega
      rw [hbq] at hbest
      refine lv_iload_n hx hb dX6_tasks_52 rfl (lv_at hl 1 rfl) ?_
      refine z_if_lt (a := best) (tgt := 133) hx hb dX6_tasks_53 (by decide) (by omega) (fun h_53 => ?_) (fun h_53 => ?_)
      · skip
        exact z_vret hx hb hr hlocks hS (by decide) (by decide) dX6_tasks_133 ⟨rfl, by rw [show mtasks u j = u from by unfold mtasks; rw [← hbest]; first | exact if_pos (by omega) | exact if_neg (by omega)]; exact hR⟩
      · skip
        refine lv_aload_n hx hb dX6_tasks_56 rfl (lv_at hl 2 rfl) ?_
        refine m_get hx hb (q_wsX6 hT hW) hown hK hR 8 (by decide) (q_672 hT hW) (fun _ h => h) (v := .ref (aM 8)) rfl dX6_tasks_57 ?_
        refine lv_iload_n hx hb dX6_tasks_60 rfl (lv_at hl 1 rfl) ?_
        refine lv_iconst (v := zi (1)) hx hb dX6_tasks_61 rfl ?_
        refine m_iast (k := 8) (i := best) (x := 1) hx hb hK hR hS (by unfold mar; omega) (by decide) (by show 0 ≤ best ∧ best < ((6 : Nat) : Int); omega) dX6_tasks_62 (fun H locs hR hS => ?_)
        refine lv_aload_n hx hb dX6_tasks_63 rfl (lv_at hl 2 rfl) ?_
        refine m_get hx hb (q_wsX6 hT hW) hown hK hR 9 (by decide) (q_673 hT hW) (fun _ h => h) (v := .ref (aM 9)) rfl dX6_tasks_64 ?_
        refine lv_iload_n hx hb dX6_tasks_67 rfl (lv_at hl 1 rfl) ?_
        refine lv_iload_n hx hb dX6_tasks_68 rfl (lv_at hl 3 rfl) ?_
        refine m_iast (k := 9) (i := best) (x := (j : Int)) hx hb hK hR hS (by unfold mar; omega) (by decide) (by show 0 ≤ best ∧ best < ((6 : Nat) : Int); omega) dX6_tasks_69 (fun H locs hR hS => ?_)
        refine lv_aload_n hx hb dX6_tasks_70 rfl (lv_at hl 2 rfl) ?_
        refine m_get hx hb (q_wsX6 hT hW) hown hK hR 10 (by decide) (q_674 hT hW) (fun _ h => h) (v := .ref (aM 10)) rfl dX6_tasks_71 ?_
        refine lv_iload_n hx hb dX6_tasks_74 rfl (lv_at hl 1 rfl) ?_
        refine lv_aload_n hx hb dX6_tasks_75 rfl (lv_at hl 2 rfl) ?_
        refine m_get hx hb (q_wsX6 hT hW) hown hK hR 24 (by decide) (q_688 hT hW) (fun _ h => h) (v := .int (zi (u 24 0))) (congrArg (fun z : Int => some (Value.int (zi z))) ((ms_k (by decide)).trans (ms_k (by decide)))) dX6_tasks_76 ?_
        refine m_iast (k := 10) (i := best) (x := (u 24 0)) hx hb hK hR hS (by unfold mar; omega) (by decide) (by show 0 ≤ best ∧ best < ((6 : Nat) : Int); omega) dX6_tasks_79 (fun H locs hR hS => ?_)
        refine lv_aload_n hx hb dX6_tasks_80 rfl (lv_at hl 2 rfl) ?_
        refine m_get hx hb (q_wsX6 hT hW) hown hK hR 11 (by decide) (q_675 hT hW) (fun _ h => h) (v := .ref (aM 11)) rfl dX6_tasks_81 ?_
        refine lv_iload_n hx hb dX6_tasks_84 rfl (lv_at hl 1 rfl) ?_
        refine lv_aload_n hx hb dX6_tasks_85 rfl (lv_at hl 2 rfl) ?_
        refine m_get hx hb (q_wsX6 hT hW) hown hK hR 24 (by decide) (q_688 hT hW) (fun _ h => h) (v := .int (zi (u 24 0))) (congrArg (fun z : Int => some (Value.int (zi z))) ((ms_k (by decide)).trans ((ms_k (by decide)).trans (ms_k (by decide))))) dX6_tasks_86 ?_
        refine lv_aload_n hx hb dX6_tasks_89 rfl (lv_at hl 2 rfl) ?_
        refine lv_iload_n hx hb dX6_tasks_90 rfl (lv_at hl 1 rfl) ?_
        refine lv_iload_n hx hb dX6_tasks_91 rfl (lv_at hl 3 rfl) ?_
        have hBb := hI.2.2.1 best.toNat (by omega)
        unfold zIb at hBb
        have e3 : ∀ i, (ms (ms (ms u 8 best.toNat (1)) 9 best.toNat ((j : Int))) 10 best.toNat ((u 24 0))) 3 i = u 3 i := fun _ => rfl
        have e14 : ∀ i, (ms (ms (ms u 8 best.toNat (1)) 9 best.toNat ((j : Int))) 10 best.toNat ((u 24 0))) 14 i = u 14 i := fun _ => rfl
        have e4 : ∀ i, (ms (ms (ms u 8 best.toNat (1)) 9 best.toNat ((j : Int))) 10 best.toNat ((u 24 0))) 4 i = u 4 i := fun _ => rfl
        refine z_invV (n := 2) (C := RX6) (c_X6_hours l hZ (u := (ms (ms (ms u 8 best.toNat (1)) 9 best.toNat ((j : Int))) 10 best.toNat ((u 24 0)))) (bi := best) (ji := (j : Int)) (by rw [e3, e4, e14]; simp only [zn_nat]; omega)) X hS hR hl.1 (q_818 hT hW) (q_7 hT hW) (q_815 hT hW) (q_817 hT hW) (q_p28 hT hW) (m_recv hK hR) (by decide +kernel) rfl ⟨Nat.le_of_ble_eq_true rfl, Nat.le_of_ble_eq_true rfl⟩ ⟨Nat.le_of_ble_eq_true rfl, Nat.le_of_ble_eq_true rfl⟩ (Nat.le_of_ble_eq_true rfl) dX6_tasks_92 (fun v H locs hv hS => ?_) rfl
        obtain ⟨rfl, hR⟩ := hv
        rw [show mhours (ms (ms (ms u 8 best.toNat (1)) 9 best.toNat ((j : Int))) 10 best.toNat ((u 24 0))) best.toNat ((j : Int)).toNat = mhours u best.toNat j from rfl]
        refine z_iadd (a := (u 24 0)) (b := (mhours u best.toNat j)) hx hb dX6_tasks_95 ?_
        refine m_iast (k := 11) (i := best) (x := ((u 24 0) + (mhours u best.toNat j))) hx hb hK hR hS (by unfold mar; omega) (by decide) (by show 0 ≤ best ∧ best < ((6 : Nat) : Int); omega) dX6_tasks_96 (fun H locs hR hS => ?_)
        refine lv_aload_n hx hb dX6_tasks_97 rfl (lv_at hl 2 rfl) ?_
        refine m_get hx hb (q_wsX6 hT hW) hown hK hR 12 (by decide) (q_676 hT hW) (fun _ h => h) (v := .ref (aM 12)) rfl dX6_tasks_98 ?_
        refine lv_iload_n hx hb dX6_tasks_101 rfl (lv_at hl 1 rfl) ?_
        refine lv_aload_n hx hb dX6_tasks_102 rfl (lv_at hl 2 rfl) ?_
        refine m_get hx hb (q_wsX6 hT hW) hown hK hR 2 (by decide) (q_666 hT hW) (fun _ h => h) (v := .ref (aM 2)) rfl dX6_tasks_103 ?_
        refine lv_iload_n hx hb dX6_tasks_106 rfl (lv_at hl 1 rfl) ?_
        refine m_iald (k := 2) (i := best) (v := u 2 best.toNat) hx hb hK hR (by unfold mar; omega) (by decide) (by show 0 ≤ best ∧ best < ((6 : Nat) : Int); omega) ((ms_k (by decide)).trans ((ms_k (by decide)).trans ((ms_k (by decide)).trans (ms_k (by decide))))) dX6_tasks_107 ?_
        refine m_iast (k := 12) (i := best) (x := (u 2 best.toNat)) hx hb hK hR hS (by unfold mar; omega) (by decide) (by show 0 ≤ best ∧ best < ((6 : Nat) : Int); omega) dX6_tasks_108 (fun H locs hR hS => ?_)
        refine lv_aload_n hx hb dX6_tasks_109 rfl (lv_at hl 2 rfl) ?_
        refine m_get hx hb (q_wsX6 hT hW) hown hK hR 17 (by decide) (q_681 hT hW) (fun _ h => h) (v := .ref (aM 17)) rfl dX6_tasks_110 ?_
        refine lv_iload_n hx hb dX6_tasks_113 rfl (lv_at hl 3 rfl) ?_
        refine lv_iconst (v := zi (1)) hx hb dX6_tasks_114 rfl ?_
        refine m_iast (k := 17) (i := (j : Int)) (x := 1) hx hb hK hR hS (by unfold mar; omega) (by decide) (by show 0 ≤ (j : Int) ∧ (j : Int) < ((30 : Nat) : Int); omega) dX6_tasks_115 (fun H locs hR hS => ?_)
        refine lv_aload_n hx hb dX6_tasks_116 rfl (lv_at hl 2 rfl) ?_
        refine m_get hx hb (q_wsX6 hT hW) hown hK hR 18 (by decide) (q_682 hT hW) (fun _ h => h) (v := .ref (aM 18)) rfl dX6_tasks_117 ?_
        refine lv_iload_n hx hb dX6_tasks_120 rfl (lv_at hl 3 rfl) ?_
        refine lv_iload_n hx hb dX6_tasks_121 rfl (lv_at hl 1 rfl) ?_
        refine m_iast (k := 18) (i := (j : Int)) (x := best) hx hb hK hR hS (by unfold mar; omega) (by decide) (by show 0 ≤ (j : Int) ∧ (j : Int) < ((30 : Nat) : Int); omega) dX6_tasks_122 (fun H locs hR hS => ?_)
        refine lv_aload_n hx hb dX6_tasks_123 rfl (lv_at hl 2 rfl) ?_
        refine m_get hx hb (q_wsX6 hT hW) hown hK hR 19 (by decide) (q_683 hT hW) (fun _ h => h) (v := .ref (aM 19)) rfl dX6_tasks_124 ?_
        refine lv_iload_n hx hb dX6_tasks_127 rfl (lv_at hl 3 rfl) ?_
        refine lv_dup2_11 hx hb dX6_tasks_128 rfl rfl ?_
        refine m_iald (k := 19) (i := (j : Int)) (v := u 19 j) hx hb hK hR (by unfold mar; omega) (by decide) (by show 0 ≤ (j : Int) ∧ (j : Int) < ((30 : Nat) : Int); omega) ((ms_k (by decide)).trans ((ms_k (by decide)).trans ((ms_k (by decide)).trans ((ms_k (by decide)).trans ((ms_k (by decide)).trans ((ms_k (by decide)).trans (ms_k (by decide)))))))) dX6_tasks_129 ?_
        refine lv_iconst (v := zi (1)) hx hb dX6_tasks_130 rfl ?_
        refine z_iadd (a := (u 19 j)) (b := 1) hx hb dX6_tasks_131 ?_
        refine m_iast (k := 19) (i := (j : Int)) (x := ((u 19 j) + 1)) hx hb hK hR hS (by unfold mar; omega) (by decide) (by show 0 ≤ (j : Int) ∧ (j : Int) < ((30 : Nat) : Int); omega) dX6_tasks_132 (fun H locs hR hS => ?_)
        exact z_vret hx hb hr hlocks hS (by decide) (by decide) dX6_tasks_133 ⟨rfl, by rw [show mtasks u j = (ms (ms (ms (ms (ms (ms (ms (ms u 8 best.toNat (1)) 9 best.toNat ((j : Int))) 10 best.toNat ((u 24 0))) 11 best.toNat (((u 24 0) + (mhours u best.toNat j)))) 12 best.toNat ((u 2 best.toNat))) 17 j (1)) 18 j (best)) 19 j (((u 19 j) + 1))) from by unfold mtasks; rw [← hbest]; first | exact if_pos (by omega) | exact if_neg (by omega)]; exact hR⟩
    · skip
      refine lv_aload_n hx hb dX6_tasks_12 rfl (lv_at hl 2 rfl) ?_
      refine lv_iload_n hx hb dX6_tasks_13 rfl (lv_at hl 0 rfl) ?_
      refine lv_iload_n hx hb dX6_tasks_14 rfl (lv_at hl 3 rfl) ?_
      have hB := hI.2.2.1 bn (by omega)
      unfold zIb at hB
      refine z_invV (n := 2) (C := RX6) (c_X6_can l hZ (u := u) (bi := (bn : Int)) (ji := (j : Int)) (by simp only [zn_nat]; omega) (by simp only [zn_nat]; omega) hI.2.1) X hS hR hl.1 (q_814 hT hW) (q_7 hT hW) (q_811 hT hW) (q_813 hT hW) (q_p27 hT hW) (m_recv hK hR) (by decide +kernel) rfl ⟨Nat.le_of_ble_eq_true rfl, Nat.le_of_ble_eq_true rfl⟩ ⟨Nat.le_of_ble_eq_true rfl, Nat.le_of_ble_eq_true rfl⟩ (Nat.le_of_ble_eq_true rfl) dX6_tasks_15 (fun v H locs hv hS => ?_) rfl
      obtain ⟨⟨r, rfl, hr1, hr0⟩, hR⟩ := hv
      simp only [zn_nat] at hr1 hr0
      have hrr : r = 0 ∨ r = 1 := by
        by_cases q : mcan u bn j
        · exact Or.inr (hr1 q)
        · exact Or.inl (hr0 q)
      refine z_if_eq (a := r) (tgt := 44) hx hb dX6_tasks_18 (by decide) (by omega) (fun h_18 => ?_) (fun h_18 => ?_)
      · skip
        refine lv_iload_n hx hb dX6_tasks_44 rfl (lv_at hl 1 rfl) ?_
        refine lv_istore_n (lv' := [(2, .int (zi (best))), (3, .int (zi ((bn : Int)))), (0, .ref m0), (1, .int (zi ((j : Int))))]) hx hb dX6_tasks_45 rfl hl (by decide) rfl (fun ls hl => ?_)
        refine z_iinc (a := (bn : Int)) (n := 1) (lv' := [(3, .int (zi (((bn : Int) + 1)))), (2, .int (zi (best))), (0, .ref m0), (1, .int (zi ((j : Int))))]) hx hb dX6_tasks_46 hl (k := 1) rfl (by decide) rfl (fun ls hl => ?_)
        refine lv_goto (tgt := 4) hx hb dX6_tasks_49 (by decide) ?_
        have hnb : best = mbest u j (bn + 1) := by
          unfold mbest
          rw [← hbest]
          by_cases hcn : mcan u bn j
          · have q1 := hr1 hcn
            first
              | (rw [if_pos ⟨hcn, by omega⟩]; done)
              | (rw [if_neg (fun q => by have q2 := q.2; omega)]; done)
          · have q1 := hr0 hcn
            first
              | (exfalso; omega)
              | (rw [if_neg (fun q => hcn q.1)]; done)
        exact ih (bn + 1) best _ _ _ (by omega) (by omega) hnb hR hS (lv_sub hl [0, 1, 2, 3] rfl)
      · skip
        refine lv_iload_n hx hb dX6_tasks_21 rfl (lv_at hl 1 rfl) ?_
        refine z_if_lt (a := best) (tgt := 40) hx hb dX6_tasks_22 (by decide) (by omega) (fun h_22 => ?_) (fun h_22 => ?_)
        · skip
          refine lv_iload_n hx hb dX6_tasks_40 rfl (lv_at hl 0 rfl) ?_
          refine lv_goto (tgt := 45) hx hb dX6_tasks_41 (by decide) ?_
          refine lv_istore_n (lv' := [(2, .int (zi ((bn : Int)))), (3, .int (zi ((bn : Int)))), (0, .ref m0), (1, .int (zi ((j : Int))))]) hx hb dX6_tasks_45 rfl hl (by decide) rfl (fun ls hl => ?_)
          refine z_iinc (a := (bn : Int)) (n := 1) (lv' := [(3, .int (zi (((bn : Int) + 1)))), (2, .int (zi ((bn : Int)))), (0, .ref m0), (1, .int (zi ((j : Int))))]) hx hb dX6_tasks_46 hl (k := 1) rfl (by decide) rfl (fun ls hl => ?_)
          refine lv_goto (tgt := 4) hx hb dX6_tasks_49 (by decide) ?_
          have hnb : (bn : Int) = mbest u j (bn + 1) := by
            unfold mbest
            rw [← hbest]
            by_cases hcn : mcan u bn j
            · have q1 := hr1 hcn
              first
                | (rw [if_pos ⟨hcn, by omega⟩]; done)
                | (rw [if_neg (fun q => by have q2 := q.2; omega)]; done)
            · have q1 := hr0 hcn
              first
                | (exfalso; omega)
                | (rw [if_neg (fun q => hcn q.1)]; done)
          exact ih (bn + 1) (bn : Int) _ _ _ (by omega) (by omega) hnb hR hS (lv_sub hl [0, 1, 2, 3] rfl)
        · skip
          refine lv_aload_n hx hb dX6_tasks_25 rfl (lv_at hl 2 rfl) ?_
          refine lv_iload_n hx hb dX6_tasks_26 rfl (lv_at hl 0 rfl) ?_
          refine lv_iload_n hx hb dX6_tasks_27 rfl (lv_at hl 3 rfl) ?_
          refine z_invV (n := 2) (C := RX6) (c_X6_hours l hZ (u := u) (bi := (bn : Int)) (ji := (j : Int)) (by simp only [zn_nat]; omega)) X hS hR hl.1 (q_818 hT hW) (q_7 hT hW) (q_815 hT hW) (q_817 hT hW) (q_p28 hT hW) (m_recv hK hR) (by decide +kernel) rfl ⟨Nat.le_of_ble_eq_true rfl, Nat.le_of_ble_eq_true rfl⟩ ⟨Nat.le_of_ble_eq_true rfl, Nat.le_of_ble_eq_true rfl⟩ (Nat.le_of_ble_eq_true rfl) dX6_tasks_28 (fun v H locs hv hS => ?_) rfl
          obtain ⟨rfl, hR⟩ := hv
          simp only [zn_nat]
          have hh1 := mhours_r (u := u) (b := bn) (c := j) (by omega)
          refine lv_aload_n hx hb dX6_tasks_31 rfl (lv_at hl 2 rfl) ?_
          refine lv_iload_n hx hb dX6_tasks_32 rfl (lv_at hl 1 rfl) ?_
          refine lv_iload_n hx hb dX6_tasks_33 rfl (lv_at hl 3 rfl) ?_
          have hBb := hI.2.2.1 best.toNat (by omega)
          unfold zIb at hBb
          refine z_invV (n := 2) (C := RX6) (c_X6_hours l hZ (u := u) (bi := best) (ji := (j : Int)) (by simp only [zn_nat]; omega)) X hS hR hl.1 (q_818 hT hW) (q_7 hT hW) (q_815 hT hW) (q_817 hT hW) (q_p28 hT hW) (m_recv hK hR) (by decide +kernel) rfl ⟨Nat.le_of_ble_eq_true rfl, Nat.le_of_ble_eq_true rfl⟩ ⟨Nat.le_of_ble_eq_true rfl, Nat.le_of_ble_eq_true rfl⟩ (Nat.le_of_ble_eq_true rfl) dX6_tasks_34 (fun v H locs hv hS => ?_) rfl
          obtain ⟨rfl, hR⟩ := hv
          simp only [zn_nat]
          have hh2 := mhours_r (u := u) (b := best.toNat) (c := j) (by omega)
          refine z_icmp_ge (a := (mhours u bn j)) (b := (mhours u best.toNat j)) (tgt := 44) hx hb dX6_tasks_37 (by decide) (by omega) (fun h_37 => ?_) (fun h_37 => ?_)
          · skip
            refine lv_iload_n hx hb dX6_tasks_44 rfl (lv_at hl 1 rfl) ?_
            refine lv_istore_n (lv' := [(2, .int (zi (best))), (3, .int (zi ((bn : Int)))), (0, .ref m0), (1, .int (zi ((j : Int))))]) hx hb dX6_tasks_45 rfl hl (by decide) rfl (fun ls hl => ?_)
            refine z_iinc (a := (bn : Int)) (n := 1) (lv' := [(3, .int (zi (((bn : Int) + 1)))), (2, .int (zi (best))), (0, .ref m0), (1, .int (zi ((j : Int))))]) hx hb dX6_tasks_46 hl (k := 1) rfl (by decide) rfl (fun ls hl => ?_)
            refine lv_goto (tgt := 4) hx hb dX6_tasks_49 (by decide) ?_
            have hnb : best = mbest u j (bn + 1) := by
              unfold mbest
              rw [← hbest]
              by_cases hcn : mcan u bn j
              · have q1 := hr1 hcn
                first
                  | (rw [if_pos ⟨hcn, by omega⟩]; done)
                  | (rw [if_neg (fun q => by have q2 := q.2; omega)]; done)
              · have q1 := hr0 hcn
                first
                  | (exfalso; omega)
                  | (rw [if_neg (fun q => hcn q.1)]; done)
            exact ih (bn + 1) best _ _ _ (by omega) (by omega) hnb hR hS (lv_sub hl [0, 1, 2, 3] rfl)
          · skip
            refine lv_iload_n hx hb dX6_tasks_40 rfl (lv_at hl 0 rfl) ?_
            refine lv_goto (tgt := 45) hx hb dX6_tasks_41 (by decide) ?_
            refine lv_istore_n (lv' := [(2, .int (zi ((bn : Int)))), (3, .int (zi ((bn : Int)))), (0, .ref m0), (1, .int (zi ((j : Int))))]) hx hb dX6_tasks_45 rfl hl (by decide) rfl (fun ls hl => ?_)
            refine z_iinc (a := (bn : Int)) (n := 1) (lv' := [(3, .int (zi (((bn : Int) + 1)))), (2, .int (zi ((bn : Int)))), (0, .ref m0), (1, .int (zi ((j : Int))))]) hx hb dX6_tasks_46 hl (k := 1) rfl (by decide) rfl (fun ls hl => ?_)
            refine lv_goto (tgt := 4) hx hb dX6_tasks_49 (by decide) ?_
            have hnb : (bn : Int) = mbest u j (bn + 1) := by
              unfold mbest
              rw [← hbest]
              by_cases hcn : mcan u bn j
              · have q1 := hr1 hcn
                first
                  | (rw [if_pos ⟨hcn, by omega⟩]; done)
                  | (rw [if_neg (fun q => by have q2 := q.2; omega)]; done)
              · have q1 := hr0 hcn
                first
                  | (exfalso; omega)
                  | (rw [if_neg (fun q => hcn q.1)]; done)
            exact ih (bn + 1) (bn : Int) _ _ _ (by omega) (by omega) hnb hR hS (lv_sub hl [0, 1, 2, 3] rfl)
set_option maxHeartbeats 4000000 in
set_option maxRecDepth 100000 in
theorem c_X6_goes (l : Launch) {S : State} {D : va_G} {tc : Nat → ClassId} {A : Nat → Prop} {dz : Nat} (hZ : zB S D tc A dz) {m0 : Nat} {aM : Nat → Nat} {u : zS_} (hI : zIn u) (hn : u 24 0 < 999) : zM l S A yX6_goes cX6_goes 2 (Option.none : Option Jvm.ClassFile.FieldType) { frames := 6, locals := 170, cells := 0, slots := 0 } [.ref m0] (mH D tc A m0 aM u) (fun v H => v = none ∧ mH D tc A m0 aM (mgo u) H) := by
  refine zM.mk (by decide +kernel) (Nat.le_of_ble_eq_true rfl) ?_
  intro p e s m below meth c ls X0 hR hl
  obtain ⟨hx, hb, hml, hr, hlocks, hown, hnm, hW, hpre, hA⟩ := X0
  have X : zH S A p s m c cX6_goes 2 RX6 := ⟨hx, hb, hml, hown, hW, hpre, hA, hZ.2.2.1⟩
  have hT := hZ.1
  have hK := va_K.moved hW.alike hZ.2.1
  have hS : va_S A s.heap s.heap [] := va_S.rf
  have hl : lv_has ls 2 [(0, .ref m0)] := hl
  skip
  have hI1 := hI.1
  have g1 := zIn_mh1 hI hn
  have n1 := g1.1
  refine lv_aload_n hx hb dX6_goes_0 rfl (lv_at hl 0 rfl) ?_
  refine lv_dup hx hb dX6_goes_1 rfl ?_
  refine m_get hx hb (q_wsX6 hT hW) hown hK hR 24 (by decide) (q_688 hT hW) (fun _ h => h) (v := .int (zi (u 24 0))) (congrArg (fun z : Int => some (Value.int (zi z))) rfl) dX6_goes_2 ?_
  refine lv_iconst (v := zi (1)) hx hb dX6_goes_5 rfl ?_
  refine z_iadd (a := (u 24 0)) (b := 1) hx hb dX6_goes_6 ?_
  refine m_put (k := 24) (x := ((u 24 0) + 1)) hx hb (q_wsX6 hT hW) hown hK hR hS (by decide) (by unfold mar; omega) (q_688 hT hW) (fun _ h => h) rfl (tyX6_ok 24 (by decide)) (by unfold mF; rw [ms_s, ms_k (by decide), ms_k (by decide), ms_k (by decide), ms_k (by decide)]; rfl) dX6_goes_7 (fun H locs hR hS => ?_)
  have hR : mH D tc A m0 aM (mh1 u) H := hR
  refine lv_iconst (v := zi (0)) hx hb dX6_goes_10 rfl ?_
  refine lv_istore_n (lv' := [(1, .int (zi (0))), (0, .ref m0)]) hx hb dX6_goes_11 rfl hl (by decide) rfl (fun ls hl => ?_)
  have c0 : ∀ bn : Nat, (bn : Int) ≤ (mh1 u) 13 0 → zIn (zfold mturn (mh1 u) bn) ∧ (zfold mturn (mh1 u) bn) 13 0 = (mh1 u) 13 0 ∧ (zfold mturn (mh1 u) bn) 21 0 = (mh1 u) 21 0 ∧ (zfold mturn (mh1 u) bn) 24 0 = (mh1 u) 24 0 ∧ (zfold mturn (mh1 u) bn) 23 0 = (mh1 u) 23 0 := fun bn hb => mh2_p g1 hb
  suffices K : ∀ (fu : Nat) (bn : Nat) (H : Heap) (locs : List Loc) (ls : Array Slot), (((mh1 u) 13 0).toNat - bn) < fu → ((bn : Int) ≤ (mh1 u) 13 0) → mH D tc A m0 aM (zfold mturn (mh1 u) bn) H → va_S A s.heap H locs → lv_has ls 2 [(1, .int (zi ((bn : Int)))), (0, .ref m0)] → W p l e { frames := 6, locals := 170, cells := 0, slots := 0 } s m ([.ref m0] : List Value).toArray below meth c H locs 0 0 (MQ below (zQ A (fun v H => v = none ∧ mH D tc A m0 aM (mgo u) H)) ([.ref m0] : List Value).toArray s ({ frames := 6, locals := 170, cells := 0, slots := 0 } : Room).cells ({ frames := 6, locals := 170, cells := 0, slots := 0 } : Room).slots A) (F0 m 12 ls []) from K _ 0 _ _ _ (Nat.lt_succ_self _) (by omega) hR hS (lv_sub hl [0, 1] rfl)
  intro fu
  induction fu with
  | zero => intro bn H locs ls hm; exact absurd hm (Nat.not_lt_zero _)
  | succ fu ih =>
    intro bn H locs ls hm hbn0 hR hS hl
    have d0 := c0 bn hbn0
    have di := d0.1.1
    refine lv_iload_n hx hb dX6_goes_12 rfl (lv_at hl 0 rfl) ?_
    refine lv_aload_n hx hb dX6_goes_13 rfl (lv_at hl 1 rfl) ?_
    refine m_get hx hb (q_wsX6 hT hW) hown hK hR 13 (by decide) (q_677 hT hW) (fun _ h => h) (v := .int (zi ((mh1 u) 13 0))) (congrArg (fun z : Int => some (Value.int (zi z))) (d0.2.1)) dX6_goes_14 ?_
    refine z_icmp_ge (a := (bn : Int)) (b := ((mh1 u) 13 0)) (tgt := 31) hx hb dX6_goes_17 (by decide) (by omega) (fun h_17 => ?_) (fun h_17 => ?_)
    · skip
      have hq0 : bn = ((mh1 u) 13 0).toNat := by omega
      have hR : mH D tc A m0 aM (mh2 (mh1 u)) H := by unfold mh2; rw [← hq0]; exact hR
      have g2 : zIn (mh2 (mh1 u)) := by unfold mh2; rw [← hq0]; exact d0.1
      have n2 := g2.1
      refine lv_iconst (v := zi (0)) hx hb dX6_goes_31 rfl ?_
      refine lv_istore_n (lv' := [(1, .int (zi (0))), (0, .ref m0)]) hx hb dX6_goes_32 rfl hl (by decide) rfl (fun ls hl => ?_)
      have c1 : ∀ bn : Nat, (bn : Int) ≤ (mh2 (mh1 u)) 13 0 → zIn (zfold marr (mh2 (mh1 u)) bn) ∧ (zfold marr (mh2 (mh1 u)) bn) 13 0 = (mh2 (mh1 u)) 13 0 ∧ (zfold marr (mh2 (mh1 u)) bn) 21 0 = (mh2 (mh1 u)) 21 0 ∧ (zfold marr (mh2 (mh1 u)) bn) 24 0 = (mh2 (mh1 u)) 24 0 ∧ (zfold marr (mh2 (mh1 u)) bn) 23 0 = (mh2 (mh1 u)) 23 0 := fun bn hb => mh3_p g2 hb
      suffices K : ∀ (fu : Nat) (bn : Nat) (H : Heap) (locs : List Loc) (ls : Array Slot), (((mh2 (mh1 u)) 13 0).toNat - bn) < fu → ((bn : Int) ≤ (mh2 (mh1 u)) 13 0) → mH D tc A m0 aM (zfold marr (mh2 (mh1 u)) bn) H → va_S A s.heap H locs → lv_has ls 2 [(1, .int (zi ((bn : Int)))), (0, .ref m0)] → W p l e { frames := 6, locals := 170, cells := 0, slots := 0 } s m ([.ref m0] : List Value).toArray below meth c H locs 0 0 (MQ below (zQ A (fun v H => v = none ∧ mH D tc A m0 aM (mgo u) H)) ([.ref m0] : List Value).toArray s ({ frames := 6, locals := 170, cells := 0, slots := 0 } : Room).cells ({ frames := 6, locals := 170, cells := 0, slots := 0 } : Room).slots A) (F0 m 33 ls []) from K _ 0 _ _ _ (Nat.lt_succ_self _) (by omega) hR hS (lv_sub hl [0, 1] rfl)
      intro fu
      induction fu with
      | zero => intro bn H locs ls hm; exact absurd hm (Nat.not_lt_zero _)
      | succ fu ih =>
        intro bn H locs ls hm hbn1 hR hS hl
        have d1 := c1 bn hbn1
        have di := d1.1.1
        refine lv_iload_n hx hb dX6_goes_33 rfl (lv_at hl 0 rfl) ?_
        refine lv_aload_n hx hb dX6_goes_34 rfl (lv_at hl 1 rfl) ?_
        refine m_get hx hb (q_wsX6 hT hW) hown hK hR 13 (by decide) (q_677 hT hW) (fun _ h => h) (v := .int (zi ((mh2 (mh1 u)) 13 0))) (congrArg (fun z : Int => some (Value.int (zi z))) (d1.2.1)) dX6_goes_35 ?_
        refine z_icmp_ge (a := (bn : Int)) (b := ((mh2 (mh1 u)) 13 0)) (tgt := 52) hx hb dX6_goes_38 (by decide) (by omega) (fun h_38 => ?_) (fun h_38 => ?_)
        · skip
          have hq1 : bn = ((mh2 (mh1 u)) 13 0).toNat := by omega
          have hR : mH D tc A m0 aM (mh3 (mh2 (mh1 u))) H := by unfold mh3; rw [← hq1]; exact hR
          have g3 : zIn (mh3 (mh2 (mh1 u))) := by unfold mh3; rw [← hq1]; exact d1.1
          have n3 := g3.1
          refine lv_iconst (v := zi (0)) hx hb dX6_goes_52 rfl ?_
          refine lv_istore_n (lv' := [(1, .int (zi (0))), (0, .ref m0)]) hx hb dX6_goes_53 rfl hl (by decide) rfl (fun ls hl => ?_)
          have c2 : ∀ bn : Nat, (bn : Int) ≤ (mh3 (mh2 (mh1 u))) 13 0 → zIn (zfold mfree (mh3 (mh2 (mh1 u))) bn) ∧ (zfold mfree (mh3 (mh2 (mh1 u))) bn) 13 0 = (mh3 (mh2 (mh1 u))) 13 0 ∧ (zfold mfree (mh3 (mh2 (mh1 u))) bn) 21 0 = (mh3 (mh2 (mh1 u))) 21 0 ∧ (zfold mfree (mh3 (mh2 (mh1 u))) bn) 24 0 = (mh3 (mh2 (mh1 u))) 24 0 ∧ (zfold mfree (mh3 (mh2 (mh1 u))) bn) 23 0 = (mh3 (mh2 (mh1 u))) 23 0 := fun bn hb => mh4_p g3 hb
          suffices K : ∀ (fu : Nat) (bn : Nat) (H : Heap) (locs : List Loc) (ls : Array Slot), (((mh3 (mh2 (mh1 u))) 13 0).toNat - bn) < fu → ((bn : Int) ≤ (mh3 (mh2 (mh1 u))) 13 0) → mH D tc A m0 aM (zfold mfree (mh3 (mh2 (mh1 u))) bn) H → va_S A s.heap H locs → lv_has ls 2 [(1, .int (zi ((bn : Int)))), (0, .ref m0)] → W p l e { frames := 6, locals := 170, cells := 0, slots := 0 } s m ([.ref m0] : List Value).toArray below meth c H locs 0 0 (MQ below (zQ A (fun v H => v = none ∧ mH D tc A m0 aM (mgo u) H)) ([.ref m0] : List Value).toArray s ({ frames := 6, locals := 170, cells := 0, slots := 0 } : Room).cells ({ frames := 6, locals := 170, cells := 0, slots := 0 } : Room).slots A) (F0 m 54 ls []) from K _ 0 _ _ _ (Nat.lt_succ_self _) (by omega) hR hS (lv_sub hl [0, 1] rfl)
          intro fu
          induction fu with
          | zero => intro bn H locs ls hm; exact absurd hm (Nat.not_lt_zero _)
          | succ fu ih =>
            intro bn H locs ls hm hbn2 hR hS hl
            have d2 := c2 bn hbn2
            have di := d2.1.1
            refine lv_iload_n hx hb dX6_goes_54 rfl (lv_at hl 0 rfl) ?_
            refine lv_aload_n hx hb dX6_goes_55 rfl (lv_at hl 1 rfl) ?_
            refine m_get hx hb (q_wsX6 hT hW) hown hK hR 13 (by decide) (q_677 hT hW) (fun _ h => h) (v := .int (zi ((mh3 (mh2 (mh1 u))) 13 0))) (congrArg (fun z : Int => some (Value.int (zi z))) (d2.2.1)) dX6_goes_56 ?_
            refine z_icmp_ge (a := (bn : Int)) (b := ((mh3 (mh2 (mh1 u))) 13 0)) (tgt := 107) hx hb dX6_goes_59 (by decide) (by omega) (fun h_59 => ?_) (fun h_59 => ?_)
            · skip
              have hq2 : bn = ((mh3 (mh2 (mh1 u))) 13 0).toNat := by omega
              have hR : mH D tc A m0 aM (mh4 (mh3 (mh2 (mh1 u)))) H := by unfold mh4; rw [← hq2]; exact hR
              have g4 : zIn (mh4 (mh3 (mh2 (mh1 u)))) := by unfold mh4; rw [← hq2]; exact d2.1
              have n4 := g4.1
              refine lv_iconst (v := zi (0)) hx hb dX6_goes_107 rfl ?_
              refine lv_istore_n (lv' := [(1, .int (zi (0))), (0, .ref m0)]) hx hb dX6_goes_108 rfl hl (by decide) rfl (fun ls hl => ?_)
              have c3 : ∀ bn : Nat, (bn : Int) ≤ (mh4 (mh3 (mh2 (mh1 u)))) 21 0 → zIn (zfold mcall (mh4 (mh3 (mh2 (mh1 u)))) bn) ∧ (zfold mcall (mh4 (mh3 (mh2 (mh1 u)))) bn) 13 0 = (mh4 (mh3 (mh2 (mh1 u)))) 13 0 ∧ (zfold mcall (mh4 (mh3 (mh2 (mh1 u)))) bn) 21 0 = (mh4 (mh3 (mh2 (mh1 u)))) 21 0 ∧ (zfold mcall (mh4 (mh3 (mh2 (mh1 u)))) bn) 24 0 = (mh4 (mh3 (mh2 (mh1 u)))) 24 0 ∧ (zfold mcall (mh4 (mh3 (mh2 (mh1 u)))) bn) 23 0 = (mh4 (mh3 (mh2 (mh1 u)))) 23 0 := fun bn hb => mh5_p g4 hb
              suffices K : ∀ (fu : Nat) (bn : Nat) (H : Heap) (locs : List Loc) (ls : Array Slot), (((mh4 (mh3 (mh2 (mh1 u)))) 21 0).toNat - bn) < fu → ((bn : Int) ≤ (mh4 (mh3 (mh2 (mh1 u)))) 21 0) → mH D tc A m0 aM (zfold mcall (mh4 (mh3 (mh2 (mh1 u)))) bn) H → va_S A s.heap H locs → lv_has ls 2 [(1, .int (zi ((bn : Int)))), (0, .ref m0)] → W p l e { frames := 6, locals := 170, cells := 0, slots := 0 } s m ([.ref m0] : List Value).toArray below meth c H locs 0 0 (MQ below (zQ A (fun v H => v = none ∧ mH D tc A m0 aM (mgo u) H)) ([.ref m0] : List Value).toArray s ({ frames := 6, locals := 170, cells := 0, slots := 0 } : Room).cells ({ frames := 6, locals := 170, cells := 0, slots := 0 } : Room).slots A) (F0 m 109 ls []) from K _ 0 _ _ _ (Nat.lt_succ_self _) (by omega) hR hS (lv_sub hl [0, 1] rfl)
              intro fu
              induction fu with
              | zero => intro bn H locs ls hm; exact absurd hm (Nat.not_lt_zero _)
              | succ fu ih =>
                intro bn H locs ls hm hbn3 hR hS hl
                have d3 := c3 bn hbn3
                have di := d3.1.1
                refine lv_iload_n hx hb dX6_goes_109 rfl (lv_at hl 0 rfl) ?_
                refine lv_aload_n hx hb dX6_goes_110 rfl (lv_at hl 1 rfl) ?_
                refine m_get hx hb (q_wsX6 hT hW) hown hK hR 21 (by decide) (q_685 hT hW) (fun _ h => h) (v := .int (zi ((mh4 (mh3 (mh2 (mh1 u)))) 21 0))) (congrArg (fun z : Int => some (Value.int (zi z))) (d3.2.2.1)) dX6_goes_111 ?_
                refine z_icmp_ge (a := (bn : Int)) (b := ((mh4 (mh3 (mh2 (mh1 u)))) 21 0)) (tgt := 166) hx hb dX6_goes_114 (by decide) (by omega) (fun h_114 => ?_) (fun h_114 => ?_)
                · skip
                  have hq3 : bn = ((mh4 (mh3 (mh2 (mh1 u)))) 21 0).toNat := by omega
                  have hR : mH D tc A m0 aM (mh5 (mh4 (mh3 (mh2 (mh1 u))))) H := by unfold mh5; rw [← hq3]; exact hR
                  exact z_vret hx hb hr hlocks hS (by decide) (by decide) dX6_goes_166 ⟨rfl, hR⟩
                · skip
                  have hC := d3.1.2.2.2 bn (by rw [d3.2.2.1]; omega)
                  unfold zIc at hC
                  have hC2 := (zIn_mlost (c := bn) d3.1).2.2.2 bn (by rw [mlost_k (by decide), d3.2.2.1]; omega)
                  unfold zIc at hC2
                  have J146 : ∀ (H : Heap) (locs : List Loc) (ls : Array Slot), mH D tc A m0 aM (mlost (zfold mcall (mh4 (mh3 (mh2 (mh1 u)))) bn) bn) H → va_S A s.heap H locs → lv_has ls 2 [(1, .int (zi ((bn : Int)))), (0, .ref m0)] → W p l e { frames := 6, locals := 170, cells := 0, slots := 0 } s m ([.ref m0] : List Value).toArray below meth c H locs 0 0 (MQ below (zQ A (fun v H => v = none ∧ mH D tc A m0 aM (mgo u) H)) ([.ref m0] : List Value).toArray s ({ frames := 6, locals := 170, cells := 0, slots := 0 } : Room).cells ({ frames := 6, locals := 170, cells := 0, slots := 0 } : Room).slots A) (F0 m 146 ls []) := by
                    intro H locs ls hR hS hl
                    refine lv_aload_n hx hb dX6_goes_146 rfl (lv_at hl 1 rfl) ?_
                    refine m_get hx hb (q_wsX6 hT hW) hown hK hR 17 (by decide) (q_681 hT hW) (fun _ h => h) (v := .ref (aM 17)) rfl dX6_goes_147 ?_
                    refine lv_iload_n hx hb dX6_goes_150 rfl (lv_at hl 0 rfl) ?_
                    refine m_iald (k := 17) (i := (bn : Int)) (v := (mlost (zfold mcall (mh4 (mh3 (mh2 (mh1 u)))) bn) bn) 17 bn) hx hb hK hR (by unfold mar; omega) (by decide) (by show 0 ≤ (bn : Int) ∧ (bn : Int) < ((30 : Nat) : Int); omega) rfl dX6_goes_151 ?_
                    refine z_if_ne (a := ((mlost (zfold mcall (mh4 (mh3 (mh2 (mh1 u)))) bn) bn) 17 bn)) (tgt := 160) hx hb dX6_goes_152 (by decide) (by omega) (fun h_152 => ?_) (fun h_152 => ?_)
                    · skip
                      refine z_iinc (a := (bn : Int)) (n := 1) (lv' := [(1, .int (zi (((bn : Int) + 1)))), (0, .ref m0)]) hx hb dX6_goes_160 hl (k := 0) rfl (by decide) rfl (fun ls hl => ?_)
                      refine lv_goto (tgt := 109) hx hb dX6_goes_163 (by decide) ?_
                      exact ih (bn + 1) _ _ _ (by omega) (by omega) (by rw [show zfold mcall (mh4 (mh3 (mh2 (mh1 u)))) (bn + 1) = mlost (zfold mcall (mh4 (mh3 (mh2 (mh1 u)))) bn) bn from mcall_n (by omega)]; exact hR) hS (lv_sub hl [0, 1] rfl)
                    · skip
                      refine lv_aload_n hx hb dX6_goes_155 rfl (lv_at hl 1 rfl) ?_
                      refine lv_iload_n hx hb dX6_goes_156 rfl (lv_at hl 0 rfl) ?_
                      refine z_invV (n := 1) (C := RX6) (c_X6_tasks l hZ (u := (mlost (zfold mcall (mh4 (mh3 (mh2 (mh1 u)))) bn) bn)) (j := bn) (by rw [mlost_k (by decide), d3.2.2.1]; omega) (zIn_mlost d3.1)) X hS hR hl.1 (q_810 hT hW) (q_7 hT hW) (q_807 hT hW) (q_809 hT hW) (q_p26 hT hW) (m_recv hK hR) (by decide +kernel) rfl ⟨Nat.le_of_ble_eq_true rfl, Nat.le_of_ble_eq_true rfl⟩ ⟨Nat.le_of_ble_eq_true rfl, Nat.le_of_ble_eq_true rfl⟩ (Nat.le_of_ble_eq_true rfl) dX6_goes_157 (fun v H locs hv hS => ?_) rfl
                      obtain ⟨rfl, hR⟩ := hv
                      refine z_iinc (a := (bn : Int)) (n := 1) (lv' := [(1, .int (zi (((bn : Int) + 1)))), (0, .ref m0)]) hx hb dX6_goes_160 hl (k := 0) rfl (by decide) rfl (fun ls hl => ?_)
                      refine lv_goto (tgt := 109) hx hb dX6_goes_163 (by decide) ?_
                      exact ih (bn + 1) _ _ _ (by omega) (by omega) (by rw [show zfold mcall (mh4 (mh3 (mh2 (mh1 u)))) (bn + 1) = mtasks (mlost (zfold mcall (mh4 (mh3 (mh2 (mh1 u)))) bn) bn) bn from mcall_y (by omega)]; exact hR) hS (lv_sub hl [0, 1] rfl)
                  refine lv_aload_n hx hb dX6_goes_117 rfl (lv_at hl 1 rfl) ?_
                  refine m_get hx hb (q_wsX6 hT hW) hown hK hR 17 (by decide) (q_681 hT hW) (fun _ h => h) (v := .ref (aM 17)) rfl dX6_goes_118 ?_
                  refine lv_iload_n hx hb dX6_goes_121 rfl (lv_at hl 0 rfl) ?_
                  refine m_iald (k := 17) (i := (bn : Int)) (v := (zfold mcall (mh4 (mh3 (mh2 (mh1 u)))) bn) 17 bn) hx hb hK hR (by unfold mar; omega) (by decide) (by show 0 ≤ (bn : Int) ∧ (bn : Int) < ((30 : Nat) : Int); omega) rfl dX6_goes_122 ?_
                  refine z_if_ne (a := ((zfold mcall (mh4 (mh3 (mh2 (mh1 u)))) bn) 17 bn)) (tgt := 146) hx hb dX6_goes_123 (by decide) (by omega) (fun h_123 => ?_) (fun h_123 => ?_)
                  · skip
                    exact J146 _ _ _ (by rw [show mlost (zfold mcall (mh4 (mh3 (mh2 (mh1 u)))) bn) bn = (zfold mcall (mh4 (mh3 (mh2 (mh1 u)))) bn) from by first | exact mlost_n (by omega) | exact mlost_y ⟨by omega, by omega⟩]; exact hR) hS (lv_sub hl [0, 1] rfl)
                  · skip
                    refine lv_aload_n hx hb dX6_goes_126 rfl (lv_at hl 1 rfl) ?_
                    refine m_get hx hb (q_wsX6 hT hW) hown hK hR 24 (by decide) (q_688 hT hW) (fun _ h => h) (v := .int (zi ((zfold mcall (mh4 (mh3 (mh2 (mh1 u)))) bn) 24 0))) (congrArg (fun z : Int => some (Value.int (zi z))) rfl) dX6_goes_127 ?_
                    refine lv_aload_n hx hb dX6_goes_130 rfl (lv_at hl 1 rfl) ?_
                    refine m_get hx hb (q_wsX6 hT hW) hown hK hR 16 (by decide) (q_680 hT hW) (fun _ h => h) (v := .ref (aM 16)) rfl dX6_goes_131 ?_
                    refine lv_iload_n hx hb dX6_goes_134 rfl (lv_at hl 0 rfl) ?_
                    refine m_iald (k := 16) (i := (bn : Int)) (v := (zfold mcall (mh4 (mh3 (mh2 (mh1 u)))) bn) 16 bn) hx hb hK hR (by unfold mar; omega) (by decide) (by show 0 ≤ (bn : Int) ∧ (bn : Int) < ((30 : Nat) : Int); omega) rfl dX6_goes_135 ?_
                    refine z_icmp_le (a := ((zfold mcall (mh4 (mh3 (mh2 (mh1 u)))) bn) 24 0)) (b := ((zfold mcall (mh4 (mh3 (mh2 (mh1 u)))) bn) 16 bn)) (tgt := 146) hx hb dX6_goes_136 (by decide) (by omega) (fun h_136 => ?_) (fun h_136 => ?_)
                    · skip
                      exact J146 _ _ _ (by rw [show mlost (zfold mcall (mh4 (mh3 (mh2 (mh1 u)))) bn) bn = (zfold mcall (mh4 (mh3 (mh2 (mh1 u)))) bn) from by first | exact mlost_n (by omega) | exact mlost_y ⟨by omega, by omega⟩]; exact hR) hS (lv_sub hl [0, 1] rfl)
                    · skip
                      refine lv_aload_n hx hb dX6_goes_139 rfl (lv_at hl 1 rfl) ?_
                      refine m_get hx hb (q_wsX6 hT hW) hown hK hR 17 (by decide) (q_681 hT hW) (fun _ h => h) (v := .ref (aM 17)) rfl dX6_goes_140 ?_
                      refine lv_iload_n hx hb dX6_goes_143 rfl (lv_at hl 0 rfl) ?_
                      refine lv_iconst (v := zi (3)) hx hb dX6_goes_144 rfl ?_
                      refine m_iast (k := 17) (i := (bn : Int)) (x := 3) hx hb hK hR hS (by unfold mar; omega) (by decide) (by show 0 ≤ (bn : Int) ∧ (bn : Int) < ((30 : Nat) : Int); omega) dX6_goes_145 (fun H locs hR hS => ?_)
                      exact J146 _ _ _ (by rw [show mlost (zfold mcall (mh4 (mh3 (mh2 (mh1 u)))) bn) bn = (ms (zfold mcall (mh4 (mh3 (mh2 (mh1 u)))) bn) 17 bn (3)) from by first | exact mlost_n (by omega) | exact mlost_y ⟨by omega, by omega⟩]; exact hR) hS (lv_sub hl [0, 1] rfl)
            · skip
              have hB := d2.1.2.2.1 bn (by rw [d2.2.1]; omega)
              unfold zIb at hB
              refine lv_aload_n hx hb dX6_goes_62 rfl (lv_at hl 1 rfl) ?_
              refine m_get hx hb (q_wsX6 hT hW) hown hK hR 8 (by decide) (q_672 hT hW) (fun _ h => h) (v := .ref (aM 8)) rfl dX6_goes_63 ?_
              refine lv_iload_n hx hb dX6_goes_66 rfl (lv_at hl 0 rfl) ?_
              refine lv_aload_n hx hb dX6_goes_67 rfl (lv_at hl 1 rfl) ?_
              refine m_get hx hb (q_wsX6 hT hW) hown hK hR 8 (by decide) (q_672 hT hW) (fun _ h => h) (v := .ref (aM 8)) rfl dX6_goes_68 ?_
              refine lv_iload_n hx hb dX6_goes_71 rfl (lv_at hl 0 rfl) ?_
              refine m_iald (k := 8) (i := (bn : Int)) (v := (zfold mfree (mh3 (mh2 (mh1 u))) bn) 8 bn) hx hb hK hR (by unfold mar; omega) (by decide) (by show 0 ≤ (bn : Int) ∧ (bn : Int) < ((6 : Nat) : Int); omega) rfl dX6_goes_72 ?_
              refine lv_iconst (v := zi (2)) hx hb dX6_goes_73 rfl ?_
              refine z_icmp_ne (a := ((zfold mfree (mh3 (mh2 (mh1 u))) bn) 8 bn)) (b := 2) (tgt := 94) hx hb dX6_goes_74 (by decide) (by omega) (fun h_74 => ?_) (fun h_74 => ?_)
              · skip
                refine lv_aload_n hx hb dX6_goes_94 rfl (lv_at hl 1 rfl) ?_
                refine m_get hx hb (q_wsX6 hT hW) hown hK hR 8 (by decide) (q_672 hT hW) (fun _ h => h) (v := .ref (aM 8)) rfl dX6_goes_95 ?_
                refine lv_iload_n hx hb dX6_goes_98 rfl (lv_at hl 0 rfl) ?_
                refine m_iald (k := 8) (i := (bn : Int)) (v := (zfold mfree (mh3 (mh2 (mh1 u))) bn) 8 bn) hx hb hK hR (by unfold mar; omega) (by decide) (by show 0 ≤ (bn : Int) ∧ (bn : Int) < ((6 : Nat) : Int); omega) rfl dX6_goes_99 ?_
                refine m_iast (k := 8) (i := (bn : Int)) (x := ((zfold mfree (mh3 (mh2 (mh1 u))) bn) 8 bn)) hx hb hK hR hS (by unfold mar; omega) (by decide) (by show 0 ≤ (bn : Int) ∧ (bn : Int) < ((6 : Nat) : Int); omega) dX6_goes_100 (fun H locs hR hS => ?_)
                refine z_iinc (a := (bn : Int)) (n := 1) (lv' := [(1, .int (zi (((bn : Int) + 1)))), (0, .ref m0)]) hx hb dX6_goes_101 hl (k := 0) rfl (by decide) rfl (fun ls hl => ?_)
                refine lv_goto (tgt := 54) hx hb dX6_goes_104 (by decide) ?_
                exact ih (bn + 1) _ _ _ (by omega) (by omega) (by rw [show zfold mfree (mh3 (mh2 (mh1 u))) (bn + 1) = (ms (zfold mfree (mh3 (mh2 (mh1 u))) bn) 8 bn (((zfold mfree (mh3 (mh2 (mh1 u))) bn) 8 bn))) from by show mfree (zfold mfree (mh3 (mh2 (mh1 u))) bn) bn = _; first | exact mfree_y ⟨by omega, by omega⟩ | exact mfree_n (by omega)]; exact hR) hS (lv_sub hl [0, 1] rfl)
              · skip
                refine lv_aload_n hx hb dX6_goes_77 rfl (lv_at hl 1 rfl) ?_
                refine m_get hx hb (q_wsX6 hT hW) hown hK hR 11 (by decide) (q_675 hT hW) (fun _ h => h) (v := .ref (aM 11)) rfl dX6_goes_78 ?_
                refine lv_iload_n hx hb dX6_goes_81 rfl (lv_at hl 0 rfl) ?_
                refine m_iald (k := 11) (i := (bn : Int)) (v := (zfold mfree (mh3 (mh2 (mh1 u))) bn) 11 bn) hx hb hK hR (by unfold mar; omega) (by decide) (by show 0 ≤ (bn : Int) ∧ (bn : Int) < ((6 : Nat) : Int); omega) rfl dX6_goes_82 ?_
                refine lv_aload_n hx hb dX6_goes_83 rfl (lv_at hl 1 rfl) ?_
                refine m_get hx hb (q_wsX6 hT hW) hown hK hR 24 (by decide) (q_688 hT hW) (fun _ h => h) (v := .int (zi ((zfold mfree (mh3 (mh2 (mh1 u))) bn) 24 0))) (congrArg (fun z : Int => some (Value.int (zi z))) rfl) dX6_goes_84 ?_
                refine z_icmp_ne (a := ((zfold mfree (mh3 (mh2 (mh1 u))) bn) 11 bn)) (b := ((zfold mfree (mh3 (mh2 (mh1 u))) bn) 24 0)) (tgt := 94) hx hb dX6_goes_87 (by decide) (by omega) (fun h_87 => ?_) (fun h_87 => ?_)
                · skip
                  refine lv_aload_n hx hb dX6_goes_94 rfl (lv_at hl 1 rfl) ?_
                  refine m_get hx hb (q_wsX6 hT hW) hown hK hR 8 (by decide) (q_672 hT hW) (fun _ h => h) (v := .ref (aM 8)) rfl dX6_goes_95 ?_
                  refine lv_iload_n hx hb dX6_goes_98 rfl (lv_at hl 0 rfl) ?_
                  refine m_iald (k := 8) (i := (bn : Int)) (v := (zfold mfree (mh3 (mh2 (mh1 u))) bn) 8 bn) hx hb hK hR (by unfold mar; omega) (by decide) (by show 0 ≤ (bn : Int) ∧ (bn : Int) < ((6 : Nat) : Int); omega) rfl dX6_goes_99 ?_
                  refine m_iast (k := 8) (i := (bn : Int)) (x := ((zfold mfree (mh3 (mh2 (mh1 u))) bn) 8 bn)) hx hb hK hR hS (by unfold mar; omega) (by decide) (by show 0 ≤ (bn : Int) ∧ (bn : Int) < ((6 : Nat) : Int); omega) dX6_goes_100 (fun H locs hR hS => ?_)
                  refine z_iinc (a := (bn : Int)) (n := 1) (lv' := [(1, .int (zi (((bn : Int) + 1)))), (0, .ref m0)]) hx hb dX6_goes_101 hl (k := 0) rfl (by decide) rfl (fun ls hl => ?_)
                  refine lv_goto (tgt := 54) hx hb dX6_goes_104 (by decide) ?_
                  exact ih (bn + 1) _ _ _ (by omega) (by omega) (by rw [show zfold mfree (mh3 (mh2 (mh1 u))) (bn + 1) = (ms (zfold mfree (mh3 (mh2 (mh1 u))) bn) 8 bn (((zfold mfree (mh3 (mh2 (mh1 u))) bn) 8 bn))) from by show mfree (zfold mfree (mh3 (mh2 (mh1 u))) bn) bn = _; first | exact mfree_y ⟨by omega, by omega⟩ | exact mfree_n (by omega)]; exact hR) hS (lv_sub hl [0, 1] rfl)
                · skip
                  refine lv_iconst (v := zi (0)) hx hb dX6_goes_90 rfl ?_
                  refine lv_goto (tgt := 100) hx hb dX6_goes_91 (by decide) ?_
                  refine m_iast (k := 8) (i := (bn : Int)) (x := 0) hx hb hK hR hS (by unfold mar; omega) (by decide) (by show 0 ≤ (bn : Int) ∧ (bn : Int) < ((6 : Nat) : Int); omega) dX6_goes_100 (fun H locs hR hS => ?_)
                  refine z_iinc (a := (bn : Int)) (n := 1) (lv' := [(1, .int (zi (((bn : Int) + 1)))), (0, .ref m0)]) hx hb dX6_goes_101 hl (k := 0) rfl (by decide) rfl (fun ls hl => ?_)
                  refine lv_goto (tgt := 54) hx hb dX6_goes_104 (by decide) ?_
                  exact ih (bn + 1) _ _ _ (by omega) (by omega) (by rw [show zfold mfree (mh3 (mh2 (mh1 u))) (bn + 1) = (ms (zfold mfree (mh3 (mh2 (mh1 u))) bn) 8 bn (0)) from by show mfree (zfold mfree (mh3 (mh2 (mh1 u))) bn) bn = _; first | exact mfree_y ⟨by omega, by omega⟩ | exact mfree_n (by omega)]; exact hR) hS (lv_sub hl [0, 1] rfl)
        · skip
          refine lv_aload_n hx hb dX6_goes_41 rfl (lv_at hl 1 rfl) ?_
          refine lv_iload_n hx hb dX6_goes_42 rfl (lv_at hl 0 rfl) ?_
          refine z_invV (n := 1) (C := RX6) (c_X6_arrives l hZ (u := (zfold marr (mh2 (mh1 u)) bn)) (b := bn) (by rw [d1.2.1]; omega) d1.1) X hS hR hl.1 (q_794 hT hW) (q_7 hT hW) (q_791 hT hW) (q_793 hT hW) (q_p22 hT hW) (m_recv hK hR) (by decide +kernel) rfl ⟨Nat.le_of_ble_eq_true rfl, Nat.le_of_ble_eq_true rfl⟩ ⟨Nat.le_of_ble_eq_true rfl, Nat.le_of_ble_eq_true rfl⟩ (Nat.le_of_ble_eq_true rfl) dX6_goes_43 (fun v H locs hv hS => ?_) rfl
          obtain ⟨rfl, hR⟩ := hv
          refine z_iinc (a := (bn : Int)) (n := 1) (lv' := [(1, .int (zi (((bn : Int) + 1)))), (0, .ref m0)]) hx hb dX6_goes_46 hl (k := 0) rfl (by decide) rfl (fun ls hl => ?_)
          refine lv_goto (tgt := 33) hx hb dX6_goes_49 (by decide) ?_
          exact ih (bn + 1) _ _ _ (by omega) (by omega) hR hS (lv_sub hl [0, 1] rfl)
    · skip
      refine lv_aload_n hx hb dX6_goes_20 rfl (lv_at hl 1 rfl) ?_
      refine lv_iload_n hx hb dX6_goes_21 rfl (lv_at hl 0 rfl) ?_
      refine z_invV (n := 1) (C := RX6) (c_X6_turnsBack l hZ (u := (zfold mturn (mh1 u) bn)) (b := bn) (by rw [d0.2.1]; omega) d0.1) X hS hR hl.1 (q_790 hT hW) (q_7 hT hW) (q_787 hT hW) (q_789 hT hW) (q_p21 hT hW) (m_recv hK hR) (by decide +kernel) rfl ⟨Nat.le_of_ble_eq_true rfl, Nat.le_of_ble_eq_true rfl⟩ ⟨Nat.le_of_ble_eq_true rfl, Nat.le_of_ble_eq_true rfl⟩ (Nat.le_of_ble_eq_true rfl) dX6_goes_22 (fun v H locs hv hS => ?_) rfl
      obtain ⟨rfl, hR⟩ := hv
      refine z_iinc (a := (bn : Int)) (n := 1) (lv' := [(1, .int (zi (((bn : Int) + 1)))), (0, .ref m0)]) hx hb dX6_goes_25 hl (k := 0) rfl (by decide) rfl (fun ls hl => ?_)
      refine lv_goto (tgt := 12) hx hb dX6_goes_28 (by decide) ?_
      exact ih (bn + 1) _ _ _ (by omega) (by omega) hR hS (lv_sub hl [0, 1] rfl)
