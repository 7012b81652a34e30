/-! what the law tells of the object -/
set_option maxHeartbeats 4000000 in
set_option maxRecDepth 100000 in
theorem c_L_tell (l : Launch) {S : State} {D : va_G} {tc : Nat → ClassId} {A : Nat → Prop} {dz : Nat} (hZ : zB S D tc A dz) {ad : Nat → Nat} {u : zS_} (hflags : l.stackTraces = false) (hNC : zNC S) (hO : zOk u) : zM l S A yL_tell cL_tell 4 (Option.some (Jvm.ClassFile.FieldType.array Jvm.ClassFile.FieldType.int))  { frames := 10, locals := 300, cells := 150, slots := 950 } [.ref (ad 0)] (zHC D tc dz A ad u) (fun v H => ∃ (r : Nat) (f : Nat → Int32), v = some (.ref r) ∧ A r ∧ zHC D tc dz (fun q => A q ∧ q ≠ r) ad u H ∧ zR D (fun q => q = r) (zoI tc r 64 f) H ∧ ∀ j : Nat, j < 64 → f j = zi (ztl u j)) := by
  refine zM.mk (by decide +kernel) (Nat.le_of_ble_eq_true rfl) ?_
  intro p e s m below meth c ls X0 hR hl
  obtain ⟨hx, hb, hml, hr, hlocks, hown, hnm, hW, hpre, hA⟩ := X0
  have X : zH S A p s m c cL_tell 4 RL := ⟨hx, hb, hml, hown, hW, hpre, hA, hZ.2.2.1⟩
  have hT := hZ.1
  have hK := va_K.moved hW.alike hZ.2.1
  have hS : va_S A s.heap s.heap [] := va_S.rf
  have hl : lv_has ls 4 [(0, .ref (ad 0))] := hl
  have hHC := hR
  obtain ⟨aB, aC, aD, nd, dd, Wd, w, hC, hD, hRw⟩ := hR
  refine lv_bipush (v := zi (64)) hx hb dL_tell_0 rfl ?_
  refine z_newa (atype := .int) (n := 64) (N := 64) (ty := .int) (a0 := (64, .inl (fun _ => 0))) hx hb (q_73 hT hW) rfl hK hRw hS hA (by decide +kernel) 0 rfl (fun cA => rfl) (by omega) (by decide +kernel) (Nat.le_of_ble_eq_true rfl) (Nat.le_of_ble_eq_true rfl) dL_tell_2 (fun r H hfr0 hR hS => ?_)
  have hrA : A r := hR.inA zu_eq
  have hRr : zR D (fun q => q = r) (zoI tc r 64 (fun _ => 0)) H := hR.restrict (fun q e hq => by
    by_cases z : q = r
    · subst z
      exact ⟨zu_eq.trans (zu_eq.symm.trans hq), rfl⟩
    · rw [show zoI tc r 64 (fun _ => 0) q = none from zu_ne z] at hq
      cases hq)
  have hHC : zHC D tc dz (fun q => A q ∧ q ≠ r) ad u H := ⟨aB, aC, aD, nd, dd, Wd, w, hC, hD, hR.restrict (fun q e hq => ⟨(zu_ne (hfr0 q e hq)).trans hq, hRw.inA hq, hfr0 q e hq⟩)⟩
  have hZB : zB S D tc (fun q => A q ∧ q ≠ r) dz := hZ.sub (fun q h => h.1)
  have hfrB : ∀ (f : Nat → Int32) (H H1 : Heap), zR D (fun q => q = r) (zoI tc r 64 f) H → zfr (fun q => A q ∧ q ≠ r) H H1 → zR D (fun q => q = r) (zoI tc r 64 f) H1 := fun f H H1 h hf => h.frame hf (fun q h _ z => z.2 h)
  have K106 : ∀ (fu k : Nat) (f : Nat → Int32) (H : Heap) (locs : List Loc) (ls : Array Slot) (cells slots : Nat), 3 < fu + k → k ≤ 3 → cells ≤ 145 + k → slots ≤ 928 + 6 * k → zTl u f (48 + k) 0 → zHC D tc dz (fun q => A q ∧ q ≠ r) ad u H → zR D (fun q => q = r) (zoI tc r 64 f) H → va_S A s.heap H locs → lv_has ls 4 [(2, .int (zi ((k : Int)))), (1, .ref (r)), (0, .ref (ad 0))] → W p l e { frames := 10, locals := 300, cells := 150, slots := 950 } s m ([.ref (ad 0)] : List Value).toArray below meth c H locs cells slots (MQ below (zQ A (fun v H => ∃ (r : Nat) (f : Nat → Int32), v = some (.ref r) ∧ A r ∧ zHC D tc dz (fun q => A q ∧ q ≠ r) ad u H ∧ zR D (fun q => q = r) (zoI tc r 64 f) H ∧ ∀ j : Nat, j < 64 → f j = zi (ztl u j))) ([.ref (ad 0)] : List Value).toArray s ({ frames := 10, locals := 300, cells := 150, slots := 950 } : Room).cells ({ frames := 10, locals := 300, cells := 150, slots := 950 } : Room).slots A) (F0 m 106 ls []) := by
    intro fu
    induction fu with
    | zero => intro k f H locs ls cells slots h1 h2; omega
    | succ fu ih =>
      intro k f H locs ls cells slots h1 h2 h3 h4 hT9 hHC hRr hS hl
      refine lv_iload_n hx hb dL_tell_106 rfl (lv_at hl 0 rfl) ?_
      refine lv_iconst (v := zi (3)) hx hb dL_tell_107 rfl ?_
      refine z_icmp_ge (a := (k : Int)) (b := 3) (tgt := 128) hx hb dL_tell_108 (by decide) (by omega) (fun h_108 => ?_) (fun h_108 => ?_)
      · skip
        refine lv_aload_n hx hb dL_tell_128 rfl (lv_at hl 1 rfl) ?_
        exact z_aret (r := some r) hx hb hr (Or.inr ⟨_, rfl⟩) hlocks hS (by show cells ≤ 150; omega) (by show slots ≤ 950; omega) dL_tell_129 ⟨r, f, rfl, hrA, hHC, hRr, fun j hj => hT9 j (by omega)⟩
      · skip
        refine lv_aload_n hx hb dL_tell_111 rfl (lv_at hl 1 rfl) ?_
        refine lv_bipush (v := zi (48)) hx hb dL_tell_112 rfl ?_
        refine lv_iload_n hx hb dL_tell_114 rfl (lv_at hl 0 rfl) ?_
        refine z_iadd (a := 48) (b := (k : Int)) hx hb dL_tell_115 ?_
        refine lv_aload_n hx hb dL_tell_116 rfl (lv_at hl 2 rfl) ?_
        refine lv_iload_n hx hb dL_tell_117 rfl (lv_at hl 0 rfl) ?_
        have hHC0 := hHC
        obtain ⟨aB, aC, aD, nd, dd, Wd, w, hC, hD, hRw⟩ := hHC0
        refine z_invVXB (n := 1) (C := RX5) (B := (fun q => A q ∧ q ≠ r)) (fun q h => h.1) (c_X5_rewards l hflags hZB (a := (k : Int)) (by omega) hO.1 hO.2.1) X hS (fun q h => ⟨hA q (Nat.le_trans hS.1 h), fun z => by have := hRr.lt zu_eq; omega⟩) hHC hl.1 (q_601 hT hW) (q_1 hT hW) (q_598 hT hW) (q_599 hT hW) (q_600 hT hW) (z_recv hK hRw hC.mk rfl) (by decide +kernel) rfl ⟨Nat.le_of_ble_eq_true rfl, Nat.le_of_ble_eq_true rfl⟩ ⟨by show cells + 1 ≤ 150; omega, by show slots + 6 ≤ 950; omega⟩ (Nat.le_of_ble_eq_true rfl) dL_tell_118 (fun E ce q9 H locs hv hfr hS hq9 hcv hcl => ?_) (fun v H locs hv hfr hS => ?_) rfl
        · skip
          have hz := hv.1
          exact absurd hz (by unfold mcClub; rw [if_pos (by omega)]; decide)
        · skip
          obtain ⟨hcd, rfl, hHC⟩ := hv
          have hRr := hfrB _ _ _ hRr hfr
          refine z_iastR (r := r) (N := 64) (i := (48 + (k : Int))) (x := zi (u 22 ((k : Int)).toNat)) hx hb hK hRr hHC hrA hS (by omega) dL_tell_121 (fun H locs hRr hHC hS => ?_)
          have hT9 := zTl_set (i := ((48 + (k : Int))).toNat) (x := zi (u 22 ((k : Int)).toNat)) (m1 := 48 + (k + 1)) (m2 := 0) hT9 (by rw [zt_r (k := k) (by omega)]) (fun j hj hne => by omega)
          refine z_iinc (a := (k : Int)) (n := 1) (lv' := [(2, .int (zi (((k : Int) + 1)))), (1, .ref (r)), (0, .ref (ad 0))]) hx hb dL_tell_122 hl (k := 0) rfl (by decide) rfl (fun ls hl => ?_)
          refine lv_goto (tgt := 106) hx hb dL_tell_125 (by decide) ?_
          rw [show (k : Int) + 1 = ((k + 1 : Nat) : Int) by omega] at hl
          exact ih (k + 1) _ H locs ls (cells + 1) (slots + 6) (by omega) (by omega) (by omega) (by omega) hT9 hHC hRr hS (lv_sub hl [0, 1, 2] rfl)
  have K47 : ∀ (fu c9 : Nat) (f : Nat → Int32) (H : Heap) (locs : List Loc) (ls : Array Slot) (cells slots : Nat), 12 < fu + c9 → c9 ≤ 12 → cells ≤ 49 + 8 * c9 → slots ≤ 352 + 48 * c9 → zTl u f (24 + c9) (36 + c9) → zHC D tc dz (fun q => A q ∧ q ≠ r) ad u H → zR D (fun q => q = r) (zoI tc r 64 f) H → va_S A s.heap H locs → lv_has ls 4 [(2, .int (zi ((c9 : Int)))), (1, .ref (r)), (0, .ref (ad 0))] → W p l e { frames := 10, locals := 300, cells := 150, slots := 950 } s m ([.ref (ad 0)] : List Value).toArray below meth c H locs cells slots (MQ below (zQ A (fun v H => ∃ (r : Nat) (f : Nat → Int32), v = some (.ref r) ∧ A r ∧ zHC D tc dz (fun q => A q ∧ q ≠ r) ad u H ∧ zR D (fun q => q = r) (zoI tc r 64 f) H ∧ ∀ j : Nat, j < 64 → f j = zi (ztl u j))) ([.ref (ad 0)] : List Value).toArray s ({ frames := 10, locals := 300, cells := 150, slots := 950 } : Room).cells ({ frames := 10, locals := 300, cells := 150, slots := 950 } : Room).slots A) (F0 m 47 ls []) := by
    intro fu
    induction fu with
    | zero => intro c9 f H locs ls cells slots h1 h2; omega
    | succ fu ih =>
      intro c9 f H locs ls cells slots h1 h2 h3 h4 hT9 hHC hRr hS hl
      refine lv_iload_n hx hb dL_tell_47 rfl (lv_at hl 0 rfl) ?_
      refine lv_bipush (v := zi (12)) hx hb dL_tell_48 rfl ?_
      refine z_icmp_ge (a := (c9 : Int)) (b := 12) (tgt := 104) hx hb dL_tell_50 (by decide) (by omega) (fun h_50 => ?_) (fun h_50 => ?_)
      · skip
        refine lv_iconst (v := zi (0)) hx hb dL_tell_104 rfl ?_
        refine lv_istore_n (lv' := [(2, .int (zi (0))), (1, .ref (r)), (0, .ref (ad 0))]) hx hb dL_tell_105 rfl hl (by decide) rfl (fun ls hl => ?_)
        exact K106 4 0 f H locs ls (cells) (slots) (by omega) (by omega) (by omega) (by omega) (fun j hj => hT9 j (by omega)) hHC hRr hS (lv_sub hl [0, 1, 2] rfl)
      · skip
        refine lv_aload_n hx hb dL_tell_53 rfl (lv_at hl 1 rfl) ?_
        refine lv_bipush (v := zi (24)) hx hb dL_tell_54 rfl ?_
        refine lv_iload_n hx hb dL_tell_56 rfl (lv_at hl 0 rfl) ?_
        refine z_iadd (a := 24) (b := (c9 : Int)) hx hb dL_tell_57 ?_
        refine lv_aload_n hx hb dL_tell_58 rfl (lv_at hl 2 rfl) ?_
        refine lv_iload_n hx hb dL_tell_59 rfl (lv_at hl 0 rfl) ?_
        refine lv_iconst (v := zi (0)) hx hb dL_tell_60 rfl ?_
        refine z_invSH (n := 3) (B := (fun q => A q ∧ q ≠ r)) (fun q h => h.1) (c_L_call l hZB (ad := ad) (u := u) (a := (c9 : Int)) (n := 0) hflags hNC hO (by omega) (by omega)) X hS (fun q h => ⟨hA q (Nat.le_trans hS.1 h), fun z => by have := hRr.lt zu_eq; omega⟩) hHC hl.1 (q_585 hT hW) (q_0 hT hW) (q_583 hT hW) (q_584 hT hW) (by decide +kernel) rfl ⟨Nat.le_of_ble_eq_true rfl, Nat.le_of_ble_eq_true rfl⟩ ⟨by show cells + 2 ≤ 150; omega, by show slots + 12 ≤ 950; omega⟩ (Nat.le_of_ble_eq_true rfl) dL_tell_61 (fun v H locs hv hfr hS => ?_) rfl
        obtain ⟨rfl, hHC⟩ := hv
        have hRr := hfrB _ _ _ hRr hfr
        refine lv_bipush (v := zi (10)) hx hb dL_tell_64 rfl ?_
        refine lv_aload_n hx hb dL_tell_66 rfl (lv_at hl 2 rfl) ?_
        refine lv_iload_n hx hb dL_tell_67 rfl (lv_at hl 0 rfl) ?_
        refine lv_iconst (v := zi (1)) hx hb dL_tell_68 rfl ?_
        refine z_invSH (n := 3) (B := (fun q => A q ∧ q ≠ r)) (fun q h => h.1) (c_L_call l hZB (ad := ad) (u := u) (a := (c9 : Int)) (n := 1) hflags hNC hO (by omega) (by omega)) X hS (fun q h => ⟨hA q (Nat.le_trans hS.1 h), fun z => by have := hRr.lt zu_eq; omega⟩) hHC hl.1 (q_585 hT hW) (q_0 hT hW) (q_583 hT hW) (q_584 hT hW) (by decide +kernel) rfl ⟨Nat.le_of_ble_eq_true rfl, Nat.le_of_ble_eq_true rfl⟩ ⟨by show cells + 2 + 2 ≤ 150; omega, by show slots + 12 + 12 ≤ 950; omega⟩ (Nat.le_of_ble_eq_true rfl) dL_tell_69 (fun v H locs hv hfr hS => ?_) rfl
        obtain ⟨rfl, hHC⟩ := hv
        have hRr := hfrB _ _ _ hRr hfr
        refine z_imul (a := 10) (b := vC u (c9 : Int) 1) hx hb dL_tell_72 ?_
        refine z_iadd (a := vC u (c9 : Int) 0) (b := (10 * vC u (c9 : Int) 1)) hx hb dL_tell_73 ?_
        refine z_iastR (r := r) (N := 64) (i := (24 + (c9 : Int))) (x := zi ((vC u (c9 : Int) 0 + (10 * vC u (c9 : Int) 1)))) hx hb hK hRr hHC hrA hS (by omega) dL_tell_74 (fun H locs hRr hHC hS => ?_)
        have hT9 := zTl_set (i := ((24 + (c9 : Int))).toNat) (x := zi ((vC u (c9 : Int) 0 + (10 * vC u (c9 : Int) 1)))) (m1 := 24 + (c9 + 1)) (m2 := 36 + c9) hT9 (by rw [zt_c (c := c9) (by omega)]) (fun j hj hne => by omega)
        refine lv_aload_n hx hb dL_tell_75 rfl (lv_at hl 1 rfl) ?_
        refine lv_bipush (v := zi (36)) hx hb dL_tell_76 rfl ?_
        refine lv_iload_n hx hb dL_tell_78 rfl (lv_at hl 0 rfl) ?_
        refine z_iadd (a := 36) (b := (c9 : Int)) hx hb dL_tell_79 ?_
        refine lv_aload_n hx hb dL_tell_80 rfl (lv_at hl 2 rfl) ?_
        refine lv_iload_n hx hb dL_tell_81 rfl (lv_at hl 0 rfl) ?_
        refine lv_iconst (v := zi (3)) hx hb dL_tell_82 rfl ?_
        refine z_invSH (n := 3) (B := (fun q => A q ∧ q ≠ r)) (fun q h => h.1) (c_L_call l hZB (ad := ad) (u := u) (a := (c9 : Int)) (n := 3) hflags hNC hO (by omega) (by omega)) X hS (fun q h => ⟨hA q (Nat.le_trans hS.1 h), fun z => by have := hRr.lt zu_eq; omega⟩) hHC hl.1 (q_585 hT hW) (q_0 hT hW) (q_583 hT hW) (q_584 hT hW) (by decide +kernel) rfl ⟨Nat.le_of_ble_eq_true rfl, Nat.le_of_ble_eq_true rfl⟩ ⟨by show cells + 2 + 2 + 2 ≤ 150; omega, by show slots + 12 + 12 + 12 ≤ 950; omega⟩ (Nat.le_of_ble_eq_true rfl) dL_tell_83 (fun v H locs hv hfr hS => ?_) rfl
        obtain ⟨rfl, hHC⟩ := hv
        have hRr := hfrB _ _ _ hRr hfr
        refine lv_sipush (v := zi (1000)) hx hb dL_tell_86 rfl ?_
        refine lv_aload_n hx hb dL_tell_89 rfl (lv_at hl 2 rfl) ?_
        refine lv_iload_n hx hb dL_tell_90 rfl (lv_at hl 0 rfl) ?_
        refine lv_iconst (v := zi (2)) hx hb dL_tell_91 rfl ?_
        refine z_invSH (n := 3) (B := (fun q => A q ∧ q ≠ r)) (fun q h => h.1) (c_L_call l hZB (ad := ad) (u := u) (a := (c9 : Int)) (n := 2) hflags hNC hO (by omega) (by omega)) X hS (fun q h => ⟨hA q (Nat.le_trans hS.1 h), fun z => by have := hRr.lt zu_eq; omega⟩) hHC hl.1 (q_585 hT hW) (q_0 hT hW) (q_583 hT hW) (q_584 hT hW) (by decide +kernel) rfl ⟨Nat.le_of_ble_eq_true rfl, Nat.le_of_ble_eq_true rfl⟩ ⟨by show cells + 2 + 2 + 2 + 2 ≤ 150; omega, by show slots + 12 + 12 + 12 + 12 ≤ 950; omega⟩ (Nat.le_of_ble_eq_true rfl) dL_tell_92 (fun v H locs hv hfr hS => ?_) rfl
        obtain ⟨rfl, hHC⟩ := hv
        have hRr := hfrB _ _ _ hRr hfr
        refine z_imul (a := 1000) (b := vC u (c9 : Int) 2) hx hb dL_tell_95 ?_
        refine z_iadd (a := vC u (c9 : Int) 3) (b := (1000 * vC u (c9 : Int) 2)) hx hb dL_tell_96 ?_
        refine z_iastR (r := r) (N := 64) (i := (36 + (c9 : Int))) (x := zi ((vC u (c9 : Int) 3 + (1000 * vC u (c9 : Int) 2)))) hx hb hK hRr hHC hrA hS (by omega) dL_tell_97 (fun H locs hRr hHC hS => ?_)
        have hT9 := zTl_set (i := ((36 + (c9 : Int))).toNat) (x := zi ((vC u (c9 : Int) 3 + (1000 * vC u (c9 : Int) 2)))) (m1 := 24 + (c9 + 1)) (m2 := 36 + (c9 + 1)) hT9 (by rw [zt_d (c := c9) (by omega)]) (fun j hj hne => by omega)
        refine z_iinc (a := (c9 : Int)) (n := 1) (lv' := [(2, .int (zi (((c9 : Int) + 1)))), (1, .ref (r)), (0, .ref (ad 0))]) hx hb dL_tell_98 hl (k := 0) rfl (by decide) rfl (fun ls hl => ?_)
        refine lv_goto (tgt := 47) hx hb dL_tell_101 (by decide) ?_
        rw [show (c9 : Int) + 1 = ((c9 + 1 : Nat) : Int) by omega] at hl
        exact ih (c9 + 1) _ H locs ls (cells + 2 + 2 + 2 + 2) (slots + 12 + 12 + 12 + 12) (by omega) (by omega) (by omega) (by omega) hT9 hHC hRr hS (lv_sub hl [0, 1, 2] rfl)
  have K7 : ∀ (fu b9 : Nat) (f : Nat → Int32) (H : Heap) (locs : List Loc) (ls : Array Slot) (cells slots : Nat), 6 < fu + b9 → b9 ≤ 6 → cells ≤ 1 + 8 * b9 → slots ≤ 64 + 48 * b9 → zTl u f (4 * b9) 0 → zHC D tc dz (fun q => A q ∧ q ≠ r) ad u H → zR D (fun q => q = r) (zoI tc r 64 f) H → va_S A s.heap H locs → lv_has ls 4 [(2, .int (zi ((b9 : Int)))), (1, .ref (r)), (0, .ref (ad 0))] → W p l e { frames := 10, locals := 300, cells := 150, slots := 950 } s m ([.ref (ad 0)] : List Value).toArray below meth c H locs cells slots (MQ below (zQ A (fun v H => ∃ (r : Nat) (f : Nat → Int32), v = some (.ref r) ∧ A r ∧ zHC D tc dz (fun q => A q ∧ q ≠ r) ad u H ∧ zR D (fun q => q = r) (zoI tc r 64 f) H ∧ ∀ j : Nat, j < 64 → f j = zi (ztl u j))) ([.ref (ad 0)] : List Value).toArray s ({ frames := 10, locals := 300, cells := 150, slots := 950 } : Room).cells ({ frames := 10, locals := 300, cells := 150, slots := 950 } : Room).slots A) (F0 m 7 ls []) := by
    intro fu
    induction fu with
    | zero => intro b9 f H locs ls cells slots h1 h2; omega
    | succ fu ih =>
      intro b9 f H locs ls cells slots h1 h2 h3 h4 hT9 hHC hRr hS hl
      refine lv_iload_n hx hb dL_tell_7 rfl (lv_at hl 0 rfl) ?_
      refine lv_bipush (v := zi (6)) hx hb dL_tell_8 rfl ?_
      refine z_icmp_ge (a := (b9 : Int)) (b := 6) (tgt := 45) hx hb dL_tell_10 (by decide) (by omega) (fun h_10 => ?_) (fun h_10 => ?_)
      · skip
        refine lv_iconst (v := zi (0)) hx hb dL_tell_45 rfl ?_
        refine lv_istore_n (lv' := [(2, .int (zi (0))), (1, .ref (r)), (0, .ref (ad 0))]) hx hb dL_tell_46 rfl hl (by decide) rfl (fun ls hl => ?_)
        exact K47 13 0 f H locs ls (cells) (slots) (by omega) (by omega) (by omega) (by omega) (fun j hj => hT9 j (by omega)) hHC hRr hS (lv_sub hl [0, 1, 2] rfl)
      · skip
        refine lv_iconst (v := zi (0)) hx hb dL_tell_13 rfl ?_
        refine lv_istore_n (lv' := [(3, .int (zi (0))), (2, .int (zi ((b9 : Int)))), (1, .ref (r)), (0, .ref (ad 0))]) hx hb dL_tell_14 rfl hl (by decide) rfl (fun ls hl => ?_)
        have K15 : ∀ (fv k : Nat) (f : Nat → Int32) (H : Heap) (locs : List Loc) (ls : Array Slot) (cells slots : Nat), 4 < fv + k → k ≤ 4 → cells ≤ 1 + 8 * b9 + 2 * k → slots ≤ 64 + 48 * b9 + 12 * k → zTl u f (4 * b9 + k) 0 → zHC D tc dz (fun q => A q ∧ q ≠ r) ad u H → zR D (fun q => q = r) (zoI tc r 64 f) H → va_S A s.heap H locs → lv_has ls 4 [(3, .int (zi ((k : Int)))), (2, .int (zi ((b9 : Int)))), (1, .ref (r)), (0, .ref (ad 0))] → W p l e { frames := 10, locals := 300, cells := 150, slots := 950 } s m ([.ref (ad 0)] : List Value).toArray below meth c H locs cells slots (MQ below (zQ A (fun v H => ∃ (r : Nat) (f : Nat → Int32), v = some (.ref r) ∧ A r ∧ zHC D tc dz (fun q => A q ∧ q ≠ r) ad u H ∧ zR D (fun q => q = r) (zoI tc r 64 f) H ∧ ∀ j : Nat, j < 64 → f j = zi (ztl u j))) ([.ref (ad 0)] : List Value).toArray s ({ frames := 10, locals := 300, cells := 150, slots := 950 } : Room).cells ({ frames := 10, locals := 300, cells := 150, slots := 950 } : Room).slots A) (F0 m 15 ls []) := by
          intro fv
          induction fv with
          | zero => intro k f H locs ls cells slots h1 h2; omega
          | succ fv ih2 =>
            intro k f H locs ls cells slots h1 h2 h3 h4 hT9 hHC hRr hS hl
            refine lv_iload_n hx hb dL_tell_15 rfl (lv_at hl 0 rfl) ?_
            refine lv_iconst (v := zi (4)) hx hb dL_tell_16 rfl ?_
            refine z_icmp_ge (a := (k : Int)) (b := 4) (tgt := 39) hx hb dL_tell_17 (by decide) (by omega) (fun h_17 => ?_) (fun h_17 => ?_)
            · skip
              refine z_iinc (a := (b9 : Int)) (n := 1) (lv' := [(2, .int (zi (((b9 : Int) + 1)))), (3, .int (zi ((k : Int)))), (1, .ref (r)), (0, .ref (ad 0))]) hx hb dL_tell_39 hl (k := 1) rfl (by decide) rfl (fun ls hl => ?_)
              refine lv_goto (tgt := 7) hx hb dL_tell_42 (by decide) ?_
              rw [show (b9 : Int) + 1 = ((b9 + 1 : Nat) : Int) by omega] at hl
              exact ih (b9 + 1) f H locs ls (cells) (slots) (by omega) (by omega) (by omega) (by omega) (fun j hj => hT9 j (by omega)) hHC hRr hS (lv_sub hl [0, 2, 3] rfl)
            · skip
              refine lv_aload_n hx hb dL_tell_20 rfl (lv_at hl 2 rfl) ?_
              refine lv_iconst (v := zi (4)) hx hb dL_tell_21 rfl ?_
              refine lv_iload_n hx hb dL_tell_22 rfl (lv_at hl 1 rfl) ?_
              refine z_imul (a := 4) (b := (b9 : Int)) hx hb dL_tell_23 ?_
              refine lv_iload_n hx hb dL_tell_24 rfl (lv_at hl 0 rfl) ?_
              refine z_iadd (a := (4 * (b9 : Int))) (b := (k : Int)) hx hb dL_tell_25 ?_
              refine lv_aload_n hx hb dL_tell_26 rfl (lv_at hl 3 rfl) ?_
              refine lv_iload_n hx hb dL_tell_27 rfl (lv_at hl 1 rfl) ?_
              refine lv_iload_n hx hb dL_tell_28 rfl (lv_at hl 0 rfl) ?_
              refine z_invSH (n := 3) (B := (fun q => A q ∧ q ≠ r)) (fun q h => h.1) (c_L_boat l hZB (ad := ad) (u := u) (a := (b9 : Int)) (n := (k : Int)) hflags hNC hO (by omega) (by omega)) X hS (fun q h => ⟨hA q (Nat.le_trans hS.1 h), fun z => by have := hRr.lt zu_eq; omega⟩) hHC hl.1 (q_578 hT hW) (q_0 hT hW) (q_576 hT hW) (q_577 hT hW) (by decide +kernel) rfl ⟨Nat.le_of_ble_eq_true rfl, Nat.le_of_ble_eq_true rfl⟩ ⟨by show cells + 2 ≤ 150; omega, by show slots + 12 ≤ 950; omega⟩ (Nat.le_of_ble_eq_true rfl) dL_tell_29 (fun v H locs hv hfr hS => ?_) rfl
              obtain ⟨rfl, hHC⟩ := hv
              have hRr := hfrB _ _ _ hRr hfr
              refine z_iastR (r := r) (N := 64) (i := ((4 * (b9 : Int)) + (k : Int))) (x := zi (vB u (b9 : Int) (k : Int))) hx hb hK hRr hHC hrA hS (by omega) dL_tell_32 (fun H locs hRr hHC hS => ?_)
              have hT9 := zTl_set (i := (((4 * (b9 : Int)) + (k : Int))).toNat) (x := zi (vB u (b9 : Int) (k : Int))) (m1 := 4 * b9 + (k + 1)) (m2 := 0) hT9 (by rw [zt_b (b := b9) (k := k) (by omega) (by omega)]) (fun j hj hne => by omega)
              refine z_iinc (a := (k : Int)) (n := 1) (lv' := [(3, .int (zi (((k : Int) + 1)))), (2, .int (zi ((b9 : Int)))), (1, .ref (r)), (0, .ref (ad 0))]) hx hb dL_tell_33 hl (k := 0) rfl (by decide) rfl (fun ls hl => ?_)
              refine lv_goto (tgt := 15) hx hb dL_tell_36 (by decide) ?_
              rw [show (k : Int) + 1 = ((k + 1 : Nat) : Int) by omega] at hl
              exact ih2 (k + 1) _ H locs ls (cells + 2) (slots + 12) (by omega) (by omega) (by omega) (by omega) hT9 hHC hRr hS (lv_sub hl [0, 1, 2, 3] rfl)
        exact K15 5 0 f H locs ls (cells) (slots) (by omega) (by omega) (by omega) (by omega) (fun j hj => hT9 j (by omega)) hHC hRr hS (lv_sub hl [0, 1, 2, 3] rfl)
  refine lv_astore_n (lv' := [(1, .ref (r)), (0, .ref (ad 0))]) hx hb dL_tell_4 rfl hl (by decide) rfl (fun ls hl => ?_)
  refine lv_iconst (v := zi (0)) hx hb dL_tell_5 rfl ?_
  refine lv_istore_n (lv' := [(2, .int (zi (0))), (1, .ref (r)), (0, .ref (ad 0))]) hx hb dL_tell_6 rfl hl (by decide) rfl (fun ls hl => ?_)
  exact K7 7 0 _ H _ ls (0 + 1) (0 + 64) (by omega) (by omega) (by omega) (by omega) zTl_0 hHC hRr hS (lv_sub hl [0, 1, 2] rfl)
