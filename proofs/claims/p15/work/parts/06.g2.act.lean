/-! one act of the law -/
theorem z_area {x y : Int} (h : (1 ≤ x ∧ x ≤ 8) ∧ 1 ≤ y ∧ y ≤ 6) : 0 ≤ x * y ∧ x * y ≤ 1000 := by
  have h1 : x = 1 ∨ x = 2 ∨ x = 3 ∨ x = 4 ∨ x = 5 ∨ x = 6 ∨ x = 7 ∨ x = 8 := by omega
  rcases h1 with rfl | rfl | rfl | rfl | rfl | rfl | rfl | rfl <;> omega
set_option maxHeartbeats 4000000 in
set_option maxRecDepth 100000 in
theorem c_L_act (l : Launch) {S : State} {D : va_G} {tc : Nat → ClassId} {A : Nat → Prop} {dz : Nat} (hZ : zB S D tc A dz) {ad : Nat → Nat} {u : zS_} {y : Int32} {now kind : Int} (hflags : l.stackTraces = false) (hNC : zNC S) (hO : zOk u) (hn : u 24 0 = now) (hk : 0 ≤ kind ∧ kind ≤ 8) : zM l S A yL_act cL_act 4 (Option.some Jvm.ClassFile.FieldType.int)  { frames := 11, locals := 400, cells := 7, slots := 76 } [.ref (ad 0), .int (y), .int (zi (now)), .int (zi (kind))] (zHC D tc dz A ad u) (fun v H => ∃ (k : Int) (u' : zS_), v = some (.int (zi k)) ∧ zOk u' ∧ u' 24 0 = u 24 0 ∧ zHC D tc dz A ad u' H ∧ ((0 ≤ k ∧ k ≤ 1000) ∨ ((-4 ≤ k ∧ k ≤ -2) ∧ u' = u))) := by
  refine zM.mk (by decide +kernel) (Nat.le_of_ble_eq_true rfl) ?_
  intro p e s m below meth c ls X0 hR hl
  obtain ⟨hx, hb, hml, hr, hlocks, hown, hnm, hW, hpre, hA⟩ := X0
  have X : zH S A p s m c cL_act 4 RL := ⟨hx, hb, hml, hown, hW, hpre, hA, hZ.2.2.1⟩
  have hT := hZ.1
  have hK := va_K.moved hW.alike hZ.2.1
  have hS : va_S A s.heap s.heap [] := va_S.rf
  have hl : lv_has ls 4 [(0, .ref (ad 0)), (1, .int (y)), (2, .int (zi (now))), (3, .int (zi (kind)))] := hl
  have hHC := hR
  have hI1 := hO.1.1
  skip
  have K48 : W p l e { frames := 11, locals := 400, cells := 7, slots := 76 } s m ([.ref (ad 0), .int (y), .int (zi (now)), .int (zi (kind))] : List Value).toArray below meth c s.heap [] 0 0 (MQ below (zQ A (fun v H => ∃ (k : Int) (u' : zS_), v = some (.int (zi k)) ∧ zOk u' ∧ u' 24 0 = u 24 0 ∧ zHC D tc dz A ad u' H ∧ ((0 ≤ k ∧ k ≤ 1000) ∨ ((-4 ≤ k ∧ k ≤ -2) ∧ u' = u)))) ([.ref (ad 0), .int (y), .int (zi (now)), .int (zi (kind))] : List Value).toArray s ({ frames := 11, locals := 400, cells := 7, slots := 76 } : Room).cells ({ frames := 11, locals := 400, cells := 7, slots := 76 } : Room).slots A) (F0 m 48 ls []) := by
    refine lv_aload_n hx hb dL_act_48 rfl (lv_at hl 0 rfl) ?_
    refine lv_iconst (v := zi (0)) hx hb dL_act_49 rfl ?_
    refine lv_iload_n hx hb dL_act_50 rfl (lv_at hl 1 rfl) ?_
    refine lv_iconst (v := zi (4)) hx hb dL_act_51 rfl ?_
    refine z_invS (n := 2) (c_L_low l hZ (x := y) (n := 4) (by omega)) X hS rfl hl.1 (q_108 hT hW) (q_0 hT hW) (q_106 hT hW) (q_107 hT hW) (by decide +kernel) rfl ⟨Nat.le_of_ble_eq_true rfl, Nat.le_of_ble_eq_true rfl⟩ ⟨by show 0 + 0 ≤ 7; omega, by show 0 + 0 ≤ 76; omega⟩ (Nat.le_of_ble_eq_true rfl) dL_act_52 (fun v H locs hv hS => ?_) rfl
    obtain ⟨hH, r1, hr1, rfl⟩ := hv
    subst hH
    refine lv_iload_n hx hb dL_act_55 rfl (lv_at hl 1 rfl) ?_
    refine lv_iconst (v := zi (2)) hx hb dL_act_56 rfl ?_
    refine lv_ishr hx hb dL_act_57 ?_
    refine lv_bipush (v := zi (48)) hx hb dL_act_58 rfl ?_
    refine z_invS (n := 2) (c_L_low l hZ (x := (y >>> (zi (2) &&& 31))) (n := 48) (by omega)) X hS rfl hl.1 (q_108 hT hW) (q_0 hT hW) (q_106 hT hW) (q_107 hT hW) (by decide +kernel) rfl ⟨Nat.le_of_ble_eq_true rfl, Nat.le_of_ble_eq_true rfl⟩ ⟨by show 0 + 0 + 0 ≤ 7; omega, by show 0 + 0 + 0 ≤ 76; omega⟩ (Nat.le_of_ble_eq_true rfl) dL_act_60 (fun v H locs hv hS => ?_) rfl
    obtain ⟨hH, r2, hr2, rfl⟩ := hv
    subst hH
    refine lv_iconst (v := zi (1)) hx hb dL_act_63 rfl ?_
    refine lv_iload_n hx hb dL_act_64 rfl (lv_at hl 1 rfl) ?_
    refine lv_iconst (v := zi (4)) hx hb dL_act_65 rfl ?_
    refine lv_ishr hx hb dL_act_66 ?_
    refine lv_iconst (v := zi (3)) hx hb dL_act_67 rfl ?_
    refine z_invS (n := 2) (c_L_low l hZ (x := (y >>> (zi (4) &&& 31))) (n := 3) (by omega)) X hS rfl hl.1 (q_108 hT hW) (q_0 hT hW) (q_106 hT hW) (q_107 hT hW) (by decide +kernel) rfl ⟨Nat.le_of_ble_eq_true rfl, Nat.le_of_ble_eq_true rfl⟩ ⟨by show 0 + 0 + 0 + 0 ≤ 7; omega, by show 0 + 0 + 0 + 0 ≤ 76; omega⟩ (Nat.le_of_ble_eq_true rfl) dL_act_68 (fun v H locs hv hS => ?_) rfl
    obtain ⟨hH, r3, hr3, rfl⟩ := hv
    subst hH
    refine z_iadd (a := 1) (b := r3) hx hb dL_act_71 ?_
    refine lv_iconst (v := zi (1)) hx hb dL_act_72 rfl ?_
    refine lv_iload_n hx hb dL_act_73 rfl (lv_at hl 1 rfl) ?_
    refine lv_bipush (v := zi (6)) hx hb dL_act_74 rfl ?_
    refine lv_ishr hx hb dL_act_76 ?_
    refine lv_bipush (v := zi (60)) hx hb dL_act_77 rfl ?_
    refine z_invS (n := 2) (c_L_low l hZ (x := (y >>> (zi (6) &&& 31))) (n := 60) (by omega)) X hS rfl hl.1 (q_108 hT hW) (q_0 hT hW) (q_106 hT hW) (q_107 hT hW) (by decide +kernel) rfl ⟨Nat.le_of_ble_eq_true rfl, Nat.le_of_ble_eq_true rfl⟩ ⟨by show 0 + 0 + 0 + 0 + 0 ≤ 7; omega, by show 0 + 0 + 0 + 0 + 0 ≤ 76; omega⟩ (Nat.le_of_ble_eq_true rfl) dL_act_79 (fun v H locs hv hS => ?_) rfl
    obtain ⟨hH, r4, hr4, rfl⟩ := hv
    subst hH
    refine z_iadd (a := 1) (b := r4) hx hb dL_act_82 ?_
    refine z_invSH (n := 6) (B := A) (fun q h => h) (c_L_does0 l hZ (ad := ad) (u := u) (a := r1) (b := r2) (cx := (1 + r3)) (d := (1 + r4)) hflags hNC hO (by omega) (by omega)) X hS (fun q h => hA q (Nat.le_trans hS.1 h)) hHC hl.1 (q_112 hT hW) (q_0 hT hW) (q_110 hT hW) (q_111 hT hW) (by decide +kernel) rfl ⟨Nat.le_of_ble_eq_true rfl, Nat.le_of_ble_eq_true rfl⟩ ⟨by show 0 + 0 + 0 + 0 + 0 + 7 ≤ 7; omega, by show 0 + 0 + 0 + 0 + 0 + 76 ≤ 76; omega⟩ (Nat.le_of_ble_eq_true rfl) dL_act_83 (fun v H locs hv hfr hS => ?_) rfl
    skip
    have hc9 : mcBoat u r1 r2 (1 + r3) (1 + r4) (r1 + (1 + r3)) = 0 ∨ (1 ≤ mcBoat u r1 r2 (1 + r3) (1 + r4) (r1 + (1 + r3)) ∧ mcBoat u r1 r2 (1 + r3) (1 + r4) (r1 + (1 + r3)) ≤ 3) := by unfold mcBoat; omega
    rcases hc9 with hcd | hcd
    · skip
      obtain ⟨rfl, hHC⟩ := hv.1 hcd
      exact z_iret hx hb hr hlocks hS (by show 0 + 0 + 0 + 0 + 0 + 7 ≤ 7; omega) (by show 0 + 0 + 0 + 0 + 0 + 76 ≤ 76; omega) dL_act_86 ⟨_, _, rfl, (zOk_boat hO hcd), rfl, hHC, Or.inl ⟨by omega, by omega⟩⟩
    · skip
      obtain ⟨rfl, hHC⟩ := hv.2 (by omega)
      exact z_iret hx hb hr hlocks hS (by show 0 + 0 + 0 + 0 + 0 + 7 ≤ 7; omega) (by show 0 + 0 + 0 + 0 + 0 + 76 ≤ 76; omega) dL_act_86 ⟨_, _, rfl, hO, rfl, hHC, Or.inr ⟨by omega, rfl⟩⟩
  have K87 : W p l e { frames := 11, locals := 400, cells := 7, slots := 76 } s m ([.ref (ad 0), .int (y), .int (zi (now)), .int (zi (kind))] : List Value).toArray below meth c s.heap [] 0 0 (MQ below (zQ A (fun v H => ∃ (k : Int) (u' : zS_), v = some (.int (zi k)) ∧ zOk u' ∧ u' 24 0 = u 24 0 ∧ zHC D tc dz A ad u' H ∧ ((0 ≤ k ∧ k ≤ 1000) ∨ ((-4 ≤ k ∧ k ≤ -2) ∧ u' = u)))) ([.ref (ad 0), .int (y), .int (zi (now)), .int (zi (kind))] : List Value).toArray s ({ frames := 11, locals := 400, cells := 7, slots := 76 } : Room).cells ({ frames := 11, locals := 400, cells := 7, slots := 76 } : Room).slots A) (F0 m 87 ls []) := by
    refine lv_aload_n hx hb dL_act_87 rfl (lv_at hl 0 rfl) ?_
    refine lv_iconst (v := zi (1)) hx hb dL_act_88 rfl ?_
    refine lv_iload_n hx hb dL_act_89 rfl (lv_at hl 1 rfl) ?_
    refine lv_bipush (v := zi (7)) hx hb dL_act_90 rfl ?_
    refine z_invS (n := 2) (c_L_low l hZ (x := y) (n := 7) (by omega)) X hS rfl hl.1 (q_108 hT hW) (q_0 hT hW) (q_106 hT hW) (q_107 hT hW) (by decide +kernel) rfl ⟨Nat.le_of_ble_eq_true rfl, Nat.le_of_ble_eq_true rfl⟩ ⟨by show 0 + 0 ≤ 7; omega, by show 0 + 0 ≤ 76; omega⟩ (Nat.le_of_ble_eq_true rfl) dL_act_92 (fun v H locs hv hS => ?_) rfl
    obtain ⟨hH, r5, hr5, rfl⟩ := hv
    subst hH
    refine lv_iload_n hx hb dL_act_95 rfl (lv_at hl 1 rfl) ?_
    refine lv_iconst (v := zi (3)) hx hb dL_act_96 rfl ?_
    refine lv_ishr hx hb dL_act_97 ?_
    refine lv_iconst (v := zi (4)) hx hb dL_act_98 rfl ?_
    refine z_invS (n := 2) (c_L_low l hZ (x := (y >>> (zi (3) &&& 31))) (n := 4) (by omega)) X hS rfl hl.1 (q_108 hT hW) (q_0 hT hW) (q_106 hT hW) (q_107 hT hW) (by decide +kernel) rfl ⟨Nat.le_of_ble_eq_true rfl, Nat.le_of_ble_eq_true rfl⟩ ⟨by show 0 + 0 + 0 ≤ 7; omega, by show 0 + 0 + 0 ≤ 76; omega⟩ (Nat.le_of_ble_eq_true rfl) dL_act_99 (fun v H locs hv hS => ?_) rfl
    obtain ⟨hH, r6, hr6, rfl⟩ := hv
    subst hH
    refine lv_iconst (v := zi (0)) hx hb dL_act_102 rfl ?_
    refine lv_iconst (v := zi (0)) hx hb dL_act_103 rfl ?_
    refine z_invSH (n := 6) (B := A) (fun q h => h) (c_L_does1 l hZ (ad := ad) (u := u) (a := r5) (b := r6) (cx := 0) (d := 0) hflags hNC hO (by omega)) X hS (fun q h => hA q (Nat.le_trans hS.1 h)) hHC hl.1 (q_112 hT hW) (q_0 hT hW) (q_110 hT hW) (q_111 hT hW) (by decide +kernel) rfl ⟨Nat.le_of_ble_eq_true rfl, Nat.le_of_ble_eq_true rfl⟩ ⟨by show 0 + 0 + 0 + 2 ≤ 7; omega, by show 0 + 0 + 0 + 12 ≤ 76; omega⟩ (Nat.le_of_ble_eq_true rfl) dL_act_104 (fun v H locs hv hfr hS => ?_) rfl
    skip
    have hc9 : mcLend u r5 r6 = 0 ∨ (1 ≤ mcLend u r5 r6 ∧ mcLend u r5 r6 ≤ 1) := by unfold mcLend; omega
    rcases hc9 with hcd | hcd
    · skip
      obtain ⟨rfl, hHC⟩ := hv.1 hcd
      exact z_iret hx hb hr hlocks hS (by show 0 + 0 + 0 + 2 ≤ 7; omega) (by show 0 + 0 + 0 + 12 ≤ 76; omega) dL_act_107 ⟨_, _, rfl, (zOk_lend hO hcd), rfl, hHC, Or.inl (by have hIb := hO.1.2.2.1 (r5).toNat (by unfold mcLend at hcd; omega); unfold zIb at hIb; omega)⟩
    · skip
      obtain ⟨rfl, hHC⟩ := hv.2 (by omega)
      exact z_iret hx hb hr hlocks hS (by show 0 + 0 + 0 + 2 ≤ 7; omega) (by show 0 + 0 + 0 + 12 ≤ 76; omega) dL_act_107 ⟨_, _, rfl, hO, rfl, hHC, Or.inr ⟨by omega, rfl⟩⟩
  have K108 : W p l e { frames := 11, locals := 400, cells := 7, slots := 76 } s m ([.ref (ad 0), .int (y), .int (zi (now)), .int (zi (kind))] : List Value).toArray below meth c s.heap [] 0 0 (MQ below (zQ A (fun v H => ∃ (k : Int) (u' : zS_), v = some (.int (zi k)) ∧ zOk u' ∧ u' 24 0 = u 24 0 ∧ zHC D tc dz A ad u' H ∧ ((0 ≤ k ∧ k ≤ 1000) ∨ ((-4 ≤ k ∧ k ≤ -2) ∧ u' = u)))) ([.ref (ad 0), .int (y), .int (zi (now)), .int (zi (kind))] : List Value).toArray s ({ frames := 11, locals := 400, cells := 7, slots := 76 } : Room).cells ({ frames := 11, locals := 400, cells := 7, slots := 76 } : Room).slots A) (F0 m 108 ls []) := by
    refine lv_aload_n hx hb dL_act_108 rfl (lv_at hl 0 rfl) ?_
    refine lv_iconst (v := zi (2)) hx hb dL_act_109 rfl ?_
    refine lv_iload_n hx hb dL_act_110 rfl (lv_at hl 1 rfl) ?_
    refine lv_bipush (v := zi (30)) hx hb dL_act_111 rfl ?_
    refine z_invS (n := 2) (c_L_low l hZ (x := y) (n := 30) (by omega)) X hS rfl hl.1 (q_108 hT hW) (q_0 hT hW) (q_106 hT hW) (q_107 hT hW) (by decide +kernel) rfl ⟨Nat.le_of_ble_eq_true rfl, Nat.le_of_ble_eq_true rfl⟩ ⟨by show 0 + 0 ≤ 7; omega, by show 0 + 0 ≤ 76; omega⟩ (Nat.le_of_ble_eq_true rfl) dL_act_113 (fun v H locs hv hS => ?_) rfl
    obtain ⟨hH, r7, hr7, rfl⟩ := hv
    subst hH
    refine lv_bipush (v := zi (20)) hx hb dL_act_116 rfl ?_
    refine lv_iload_n hx hb dL_act_118 rfl (lv_at hl 1 rfl) ?_
    refine lv_iconst (v := zi (2)) hx hb dL_act_119 rfl ?_
    refine lv_ishr hx hb dL_act_120 ?_
    refine lv_bipush (v := zi (28)) hx hb dL_act_121 rfl ?_
    refine z_invS (n := 2) (c_L_low l hZ (x := (y >>> (zi (2) &&& 31))) (n := 28) (by omega)) X hS rfl hl.1 (q_108 hT hW) (q_0 hT hW) (q_106 hT hW) (q_107 hT hW) (by decide +kernel) rfl ⟨Nat.le_of_ble_eq_true rfl, Nat.le_of_ble_eq_true rfl⟩ ⟨by show 0 + 0 + 0 ≤ 7; omega, by show 0 + 0 + 0 ≤ 76; omega⟩ (Nat.le_of_ble_eq_true rfl) dL_act_123 (fun v H locs hv hS => ?_) rfl
    obtain ⟨hH, r8, hr8, rfl⟩ := hv
    subst hH
    refine z_iadd (a := 20) (b := r8) hx hb dL_act_126 ?_
    refine lv_iload_n hx hb dL_act_127 rfl (lv_at hl 2 rfl) ?_
    refine lv_iload_n hx hb dL_act_128 rfl (lv_at hl 1 rfl) ?_
    refine lv_iconst (v := zi (5)) hx hb dL_act_129 rfl ?_
    refine lv_ishr hx hb dL_act_130 ?_
    refine lv_bipush (v := zi (9)) hx hb dL_act_131 rfl ?_
    refine z_invS (n := 2) (c_L_low l hZ (x := (y >>> (zi (5) &&& 31))) (n := 9) (by omega)) X hS rfl hl.1 (q_108 hT hW) (q_0 hT hW) (q_106 hT hW) (q_107 hT hW) (by decide +kernel) rfl ⟨Nat.le_of_ble_eq_true rfl, Nat.le_of_ble_eq_true rfl⟩ ⟨by show 0 + 0 + 0 + 0 ≤ 7; omega, by show 0 + 0 + 0 + 0 ≤ 76; omega⟩ (Nat.le_of_ble_eq_true rfl) dL_act_133 (fun v H locs hv hS => ?_) rfl
    obtain ⟨hH, r9, hr9, rfl⟩ := hv
    subst hH
    refine z_iadd (a := now) (b := r9) hx hb dL_act_136 ?_
    refine lv_iload_n hx hb dL_act_137 rfl (lv_at hl 1 rfl) ?_
    refine lv_iconst (v := zi (4)) hx hb dL_act_138 rfl ?_
    refine lv_ishr hx hb dL_act_139 ?_
    refine lv_bipush (v := zi (10)) hx hb dL_act_140 rfl ?_
    refine z_invS (n := 2) (c_L_low l hZ (x := (y >>> (zi (4) &&& 31))) (n := 10) (by omega)) X hS rfl hl.1 (q_108 hT hW) (q_0 hT hW) (q_106 hT hW) (q_107 hT hW) (by decide +kernel) rfl ⟨Nat.le_of_ble_eq_true rfl, Nat.le_of_ble_eq_true rfl⟩ ⟨by show 0 + 0 + 0 + 0 + 0 ≤ 7; omega, by show 0 + 0 + 0 + 0 + 0 ≤ 76; omega⟩ (Nat.le_of_ble_eq_true rfl) dL_act_142 (fun v H locs hv hS => ?_) rfl
    obtain ⟨hH, r10, hr10, rfl⟩ := hv
    subst hH
    refine z_invSH (n := 6) (B := A) (fun q h => h) (c_L_does2 l hZ (ad := ad) (u := u) (a := r7) (b := (20 + r8)) (cx := (now + r9)) (d := r10) hflags hNC hO (by omega) (by omega)) X hS (fun q h => hA q (Nat.le_trans hS.1 h)) hHC hl.1 (q_112 hT hW) (q_0 hT hW) (q_110 hT hW) (q_111 hT hW) (by decide +kernel) rfl ⟨Nat.le_of_ble_eq_true rfl, Nat.le_of_ble_eq_true rfl⟩ ⟨by show 0 + 0 + 0 + 0 + 0 + 6 ≤ 7; omega, by show 0 + 0 + 0 + 0 + 0 + 36 ≤ 76; omega⟩ (Nat.le_of_ble_eq_true rfl) dL_act_145 (fun v H locs hv hfr hS => ?_) rfl
    skip
    have hc9 : mcFore u r7 (20 + r8) (now + r9) ((now + r9) + 4) r10 = 0 ∨ (1 ≤ mcFore u r7 (20 + r8) (now + r9) ((now + r9) + 4) r10 ∧ mcFore u r7 (20 + r8) (now + r9) ((now + r9) + 4) r10 ≤ 2) := by unfold mcFore; omega
    rcases hc9 with hcd | hcd
    · skip
      obtain ⟨rfl, hHC⟩ := hv.1 hcd
      exact z_iret hx hb hr hlocks hS (by show 0 + 0 + 0 + 0 + 0 + 6 ≤ 7; omega) (by show 0 + 0 + 0 + 0 + 0 + 36 ≤ 76; omega) dL_act_148 ⟨_, _, rfl, (zOk_fore hO hcd), (mfo_k (by decide)), hHC, Or.inl (z_area (by unfold mcFore at hcd; omega))⟩
    · skip
      obtain ⟨rfl, hHC⟩ := hv.2 (by omega)
      exact z_iret hx hb hr hlocks hS (by show 0 + 0 + 0 + 0 + 0 + 6 ≤ 7; omega) (by show 0 + 0 + 0 + 0 + 0 + 36 ≤ 76; omega) dL_act_148 ⟨_, _, rfl, hO, rfl, hHC, Or.inr ⟨by omega, rfl⟩⟩
  have K149 : W p l e { frames := 11, locals := 400, cells := 7, slots := 76 } s m ([.ref (ad 0), .int (y), .int (zi (now)), .int (zi (kind))] : List Value).toArray below meth c s.heap [] 0 0 (MQ below (zQ A (fun v H => ∃ (k : Int) (u' : zS_), v = some (.int (zi k)) ∧ zOk u' ∧ u' 24 0 = u 24 0 ∧ zHC D tc dz A ad u' H ∧ ((0 ≤ k ∧ k ≤ 1000) ∨ ((-4 ≤ k ∧ k ≤ -2) ∧ u' = u)))) ([.ref (ad 0), .int (y), .int (zi (now)), .int (zi (kind))] : List Value).toArray s ({ frames := 11, locals := 400, cells := 7, slots := 76 } : Room).cells ({ frames := 11, locals := 400, cells := 7, slots := 76 } : Room).slots A) (F0 m 149 ls []) := by
    refine lv_aload_n hx hb dL_act_149 rfl (lv_at hl 0 rfl) ?_
    refine lv_iconst (v := zi (3)) hx hb dL_act_150 rfl ?_
    refine lv_iload_n hx hb dL_act_151 rfl (lv_at hl 1 rfl) ?_
    refine lv_bipush (v := zi (49)) hx hb dL_act_152 rfl ?_
    refine z_invS (n := 2) (c_L_low l hZ (x := y) (n := 49) (by omega)) X hS rfl hl.1 (q_108 hT hW) (q_0 hT hW) (q_106 hT hW) (q_107 hT hW) (by decide +kernel) rfl ⟨Nat.le_of_ble_eq_true rfl, Nat.le_of_ble_eq_true rfl⟩ ⟨by show 0 + 0 ≤ 7; omega, by show 0 + 0 ≤ 76; omega⟩ (Nat.le_of_ble_eq_true rfl) dL_act_154 (fun v H locs hv hS => ?_) rfl
    obtain ⟨hH, r11, hr11, rfl⟩ := hv
    subst hH
    refine lv_iload_n hx hb dL_act_157 rfl (lv_at hl 1 rfl) ?_
    refine lv_iconst (v := zi (3)) hx hb dL_act_158 rfl ?_
    refine lv_ishr hx hb dL_act_159 ?_
    refine lv_bipush (v := zi (52)) hx hb dL_act_160 rfl ?_
    refine z_invS (n := 2) (c_L_low l hZ (x := (y >>> (zi (3) &&& 31))) (n := 52) (by omega)) X hS rfl hl.1 (q_108 hT hW) (q_0 hT hW) (q_106 hT hW) (q_107 hT hW) (by decide +kernel) rfl ⟨Nat.le_of_ble_eq_true rfl, Nat.le_of_ble_eq_true rfl⟩ ⟨by show 0 + 0 + 0 ≤ 7; omega, by show 0 + 0 + 0 ≤ 76; omega⟩ (Nat.le_of_ble_eq_true rfl) dL_act_162 (fun v H locs hv hS => ?_) rfl
    obtain ⟨hH, r12, hr12, rfl⟩ := hv
    subst hH
    refine lv_iload_n hx hb dL_act_165 rfl (lv_at hl 2 rfl) ?_
    refine lv_iload_n hx hb dL_act_166 rfl (lv_at hl 1 rfl) ?_
    refine lv_iconst (v := zi (5)) hx hb dL_act_167 rfl ?_
    refine lv_ishr hx hb dL_act_168 ?_
    refine lv_bipush (v := zi (12)) hx hb dL_act_169 rfl ?_
    refine z_invS (n := 2) (c_L_low l hZ (x := (y >>> (zi (5) &&& 31))) (n := 12) (by omega)) X hS rfl hl.1 (q_108 hT hW) (q_0 hT hW) (q_106 hT hW) (q_107 hT hW) (by decide +kernel) rfl ⟨Nat.le_of_ble_eq_true rfl, Nat.le_of_ble_eq_true rfl⟩ ⟨by show 0 + 0 + 0 + 0 ≤ 7; omega, by show 0 + 0 + 0 + 0 ≤ 76; omega⟩ (Nat.le_of_ble_eq_true rfl) dL_act_171 (fun v H locs hv hS => ?_) rfl
    obtain ⟨hH, r13, hr13, rfl⟩ := hv
    subst hH
    refine z_iadd (a := now) (b := r13) hx hb dL_act_174 ?_
    refine lv_iconst (v := zi (0)) hx hb dL_act_175 rfl ?_
    refine z_invSH (n := 6) (B := A) (fun q h => h) (c_L_does3 l hZ (ad := ad) (u := u) (a := r11) (b := r12) (cx := (now + r13)) (d := 0) hflags hNC hO (by omega)) X hS (fun q h => hA q (Nat.le_trans hS.1 h)) hHC hl.1 (q_112 hT hW) (q_0 hT hW) (q_110 hT hW) (q_111 hT hW) (by decide +kernel) rfl ⟨Nat.le_of_ble_eq_true rfl, Nat.le_of_ble_eq_true rfl⟩ ⟨by show 0 + 0 + 0 + 0 + 5 ≤ 7; omega, by show 0 + 0 + 0 + 0 + 59 ≤ 76; omega⟩ (Nat.le_of_ble_eq_true rfl) dL_act_176 (fun v H locs hv hfr hS => ?_) rfl
    skip
    have hc9 : mcCall u r11 r12 (now + r13) = 0 ∨ (1 ≤ mcCall u r11 r12 (now + r13) ∧ mcCall u r11 r12 (now + r13) ≤ 3) := by unfold mcCall; omega
    rcases hc9 with hcd | hcd
    · skip
      obtain ⟨rfl, hHC⟩ := hv.1 hcd
      exact z_iret hx hb hr hlocks hS (by show 0 + 0 + 0 + 0 + 5 ≤ 7; omega) (by show 0 + 0 + 0 + 0 + 59 ≤ 76; omega) dL_act_179 ⟨_, _, rfl, (zOk_call hO hcd), rfl, hHC, Or.inl ⟨by omega, by omega⟩⟩
    · skip
      obtain ⟨rfl, hHC⟩ := hv.2 (by omega)
      exact z_iret hx hb hr hlocks hS (by show 0 + 0 + 0 + 0 + 5 ≤ 7; omega) (by show 0 + 0 + 0 + 0 + 59 ≤ 76; omega) dL_act_179 ⟨_, _, rfl, hO, rfl, hHC, Or.inr ⟨by omega, rfl⟩⟩
  have K180 : W p l e { frames := 11, locals := 400, cells := 7, slots := 76 } s m ([.ref (ad 0), .int (y), .int (zi (now)), .int (zi (kind))] : List Value).toArray below meth c s.heap [] 0 0 (MQ below (zQ A (fun v H => ∃ (k : Int) (u' : zS_), v = some (.int (zi k)) ∧ zOk u' ∧ u' 24 0 = u 24 0 ∧ zHC D tc dz A ad u' H ∧ ((0 ≤ k ∧ k ≤ 1000) ∨ ((-4 ≤ k ∧ k ≤ -2) ∧ u' = u)))) ([.ref (ad 0), .int (y), .int (zi (now)), .int (zi (kind))] : List Value).toArray s ({ frames := 11, locals := 400, cells := 7, slots := 76 } : Room).cells ({ frames := 11, locals := 400, cells := 7, slots := 76 } : Room).slots A) (F0 m 180 ls []) := by
    refine lv_aload_n hx hb dL_act_180 rfl (lv_at hl 0 rfl) ?_
    refine lv_iconst (v := zi (4)) hx hb dL_act_181 rfl ?_
    refine lv_iload_n hx hb dL_act_182 rfl (lv_at hl 1 rfl) ?_
    refine lv_sipush (v := zi (300)) hx hb dL_act_183 rfl ?_
    refine z_invS (n := 2) (c_L_low l hZ (x := y) (n := 300) (by omega)) X hS rfl hl.1 (q_108 hT hW) (q_0 hT hW) (q_106 hT hW) (q_107 hT hW) (by decide +kernel) rfl ⟨Nat.le_of_ble_eq_true rfl, Nat.le_of_ble_eq_true rfl⟩ ⟨by show 0 + 0 ≤ 7; omega, by show 0 + 0 ≤ 76; omega⟩ (Nat.le_of_ble_eq_true rfl) dL_act_186 (fun v H locs hv hS => ?_) rfl
    obtain ⟨hH, r14, hr14, rfl⟩ := hv
    subst hH
    refine lv_iconst (v := zi (0)) hx hb dL_act_189 rfl ?_
    refine lv_iconst (v := zi (0)) hx hb dL_act_190 rfl ?_
    refine lv_iconst (v := zi (0)) hx hb dL_act_191 rfl ?_
    refine z_invSH (n := 6) (B := A) (fun q h => h) (c_L_does4 l hZ (ad := ad) (u := u) (a := r14) (b := 0) (cx := 0) (d := 0) hflags hNC hO (by omega)) X hS (fun q h => hA q (Nat.le_trans hS.1 h)) hHC hl.1 (q_112 hT hW) (q_0 hT hW) (q_110 hT hW) (q_111 hT hW) (by decide +kernel) rfl ⟨Nat.le_of_ble_eq_true rfl, Nat.le_of_ble_eq_true rfl⟩ ⟨by show 0 + 0 + 1 ≤ 7; omega, by show 0 + 0 + 6 ≤ 76; omega⟩ (Nat.le_of_ble_eq_true rfl) dL_act_192 (fun v H locs hv hfr hS => ?_) rfl
    skip
    have hc9 : mcCap r14 = 0 ∨ (1 ≤ mcCap r14 ∧ mcCap r14 ≤ 1) := by unfold mcCap; omega
    rcases hc9 with hcd | hcd
    · skip
      obtain ⟨rfl, hHC⟩ := hv.1 hcd
      exact z_iret hx hb hr hlocks hS (by show 0 + 0 + 1 ≤ 7; omega) (by show 0 + 0 + 6 ≤ 76; omega) dL_act_195 ⟨_, _, rfl, (zOk_cap hO hcd), rfl, hHC, Or.inl ⟨by omega, by omega⟩⟩
    · skip
      obtain ⟨rfl, hHC⟩ := hv.2 (by omega)
      exact z_iret hx hb hr hlocks hS (by show 0 + 0 + 1 ≤ 7; omega) (by show 0 + 0 + 6 ≤ 76; omega) dL_act_195 ⟨_, _, rfl, hO, rfl, hHC, Or.inr ⟨by omega, rfl⟩⟩
  refine lv_iload_n hx hb dL_act_0 rfl (lv_at hl 3 rfl) ?_
  have hkk : kind = 0 ∨ kind = 1 ∨ kind = 2 ∨ kind = 3 ∨ kind = 4 ∨ kind = 5 ∨ kind = 6 ∨ kind = 7 ∨ kind = 8 := by omega
  rcases hkk with rfl | rfl | rfl | rfl | rfl | rfl | rfl | rfl | rfl
  · exact lv_tableIn (off := 47) (tgt := 48) hx hb dL_act_1 (by decide) (by decide) rfl (by decide) K48
  · exact lv_tableIn (off := 47) (tgt := 48) hx hb dL_act_1 (by decide) (by decide) rfl (by decide) K48
  · exact lv_tableIn (off := 86) (tgt := 87) hx hb dL_act_1 (by decide) (by decide) rfl (by decide) K87
  · exact lv_tableIn (off := 107) (tgt := 108) hx hb dL_act_1 (by decide) (by decide) rfl (by decide) K108
  · exact lv_tableIn (off := 107) (tgt := 108) hx hb dL_act_1 (by decide) (by decide) rfl (by decide) K108
  · exact lv_tableIn (off := 148) (tgt := 149) hx hb dL_act_1 (by decide) (by decide) rfl (by decide) K149
  · exact lv_tableIn (off := 148) (tgt := 149) hx hb dL_act_1 (by decide) (by decide) rfl (by decide) K149
  · exact lv_tableIn (off := 148) (tgt := 149) hx hb dL_act_1 (by decide) (by decide) rfl (by decide) K149
  · exact lv_tableOut (tgt := 180) hx hb dL_act_1 (Or.inr (by decide)) (by decide) K180
