/-! one turn of the law -/
set_option maxHeartbeats 4000000 in
set_option maxRecDepth 100000 in
theorem law_tail {p : Program} {l : Launch} {e : Env} {s : State} {m : MethodId} {below : List Frame} {meth : Method} {c : Code} {Q : State → Prop} {b L : Nat} {xs : Nat → Int32} {D : va_G} {tc : Nat → ClassId} {dz : Nat} {ad : Nat → Nat} (hst : l.stackTraces = false) (hx : p.tables.exec = Jvm.exec) (hb : c.code = cL_law) (hml : c.maxLocals = 10) (hown : s.vm.findClass RL = some m.cls) (hZ : zB s D tc (fun q : Nat => s.heap.size ≤ q) dz) (hNC : zNC s) (hXs : va_X b L xs s s.heap) (hbl : b < s.heap.size) (hL : L ≤ 260) {u : zS_} {now t9 x9 : Int} {e9 : Nat} {H : Heap} {locs : List Loc} {ls : Array Slot} {cells slots : Nat} (hO : zOk u) (hn : u 24 0 = now) (he : e9 < 46) (hce : cells + 600 ≤ 662435 ∧ slots + 3100 ≤ 7114394) (hHC : zHC D tc dz (fun q : Nat => s.heap.size ≤ q) ad u H) (hS : va_S (fun q : Nat => s.heap.size ≤ q) s.heap H locs) (hl : lv_has ls 10 [(5, .int (zi (x9))), (4, .int (zi ((e9 : Int)))), (3, .int (zi (t9))), (2, .int (zi (now))), (1, .ref (ad 0)), (0, .ref (b))])
    (kq : ∀ (H : Heap) (locs : List Loc) (ls : Array Slot) (cells' slots' : Nat), cells' ≤ cells + 500 → slots' ≤ slots + 3000 → zHC D tc dz (fun q : Nat => s.heap.size ≤ q) ad u H → va_S (fun q : Nat => s.heap.size ≤ q) s.heap H locs → lv_has ls 10 [(4, .int (zi (((e9 + 1 : Nat) : Int)))), (3, .int (zi (t9))), (2, .int (zi (now))), (1, .ref (ad 0)), (0, .ref (b))] → W p l e room_1 s m #[Value.ref b] below meth c H locs cells' slots' Q (F0 m 15 ls [])) : W p l e room_1 s m #[Value.ref b] below meth c H locs cells slots Q (F0 m 190 ls []) := by
  have hW := State.WarmedH.refl s
  have hA : ∀ q : Nat, s.heap.size ≤ q → (fun q : Nat => s.heap.size ≤ q) q := fun q h => h
  have X : zH s (fun q : Nat => s.heap.size ≤ q) p s m c cL_law 10 RL := ⟨hx, hb, hml, hown, hW, ⟨Nat.le_refl _, fun _ _ => rfl⟩, fun q h => h, hA⟩
  have hT := hZ.1
  have hK := hZ.2.1
  have hbA : ¬ (fun q : Nat => s.heap.size ≤ q) b := fun z => absurd z (by show ¬ s.heap.size ≤ b; omega)
  have hI1 := hO.1.1
  refine lv_iload hx hb dL_law_190 (lv_at hl 0 rfl) ?_
  refine lv_iconst (v := zi (4)) hx hb dL_law_192 rfl ?_
  refine z_invS (n := 2) (c_L_low l hZ (x := zi (x9)) (n := 4) (by omega)) X hS rfl hl.1 (q_108 hT hW) (q_0 hT hW) (q_106 hT hW) (q_107 hT hW) (by decide +kernel) rfl ⟨Nat.le_of_ble_eq_true rfl, Nat.le_of_ble_eq_true rfl⟩ ⟨by show cells + 0 ≤ 662435; omega, by show slots + 0 ≤ 7114394; omega⟩ (Nat.le_of_ble_eq_true rfl) dL_law_193 (fun v H locs hv hS => ?_) rfl
  obtain ⟨hH, r1, hr1, rfl⟩ := hv
  rw [hH] at hS ⊢
  refine z_if_ne (a := r1) (tgt := 209) hx hb dL_law_196 (by decide) (by omega) (fun h_196 => ?_) (fun h_196 => ?_)
  · skip
    refine z_iinc (a := (e9 : Int)) (n := 1) (lv' := [(4, .int (zi (((e9 : Int) + 1)))), (5, .int (zi (x9))), (3, .int (zi (t9))), (2, .int (zi (now))), (1, .ref (ad 0)), (0, .ref (b))]) hx hb dL_law_209 hl (k := 1) rfl (by decide) rfl (fun ls hl => ?_)
    refine lv_goto (tgt := 15) hx hb dL_law_212 (by decide) ?_
    rw [show (e9 : Int) + 1 = ((e9 + 1 : Nat) : Int) by omega] at hl
    exact kq _ locs ls (cells + 0) (slots + 0) (by omega) (by omega) hHC hS (lv_sub hl [0, 2, 3, 4, 5] rfl)
  · skip
    refine lv_aload_n hx hb dL_law_199 rfl (lv_at hl 4 rfl) ?_
    refine lv_iload_n hx hb dL_law_200 rfl (lv_at hl 3 rfl) ?_
    refine z_invSB (n := 2) (B := (fun q : Nat => s.heap.size ≤ q)) (fun q h => h) (c_L_asks l hZ (ad := ad) (u := u) (now := now) hst hNC hO hn) X hS (fun q h => hA q (Nat.le_trans hS.1 h)) hHC hl.1 (q_611 hT hW) (q_0 hT hW) (q_609 hT hW) (q_610 hT hW) (by decide +kernel) rfl ⟨Nat.le_of_ble_eq_true rfl, Nat.le_of_ble_eq_true rfl⟩ ⟨by show cells + 0 + 500 ≤ 662435; omega, by show slots + 0 + 3000 ≤ 7114394; omega⟩ (Nat.le_of_ble_eq_true rfl) dL_law_201 (fun v H locs hv hfr hS => ?_) rfl
    obtain ⟨rfl, hHC⟩ := hv
    refine z_if_ne (a := 1) (tgt := 209) hx hb dL_law_204 (by decide) (by omega) (fun _ => ?_) (fun h_204 => False.elim (by omega))
    refine z_iinc (a := (e9 : Int)) (n := 1) (lv' := [(4, .int (zi (((e9 : Int) + 1)))), (5, .int (zi (x9))), (3, .int (zi (t9))), (2, .int (zi (now))), (1, .ref (ad 0)), (0, .ref (b))]) hx hb dL_law_209 hl (k := 1) rfl (by decide) rfl (fun ls hl => ?_)
    refine lv_goto (tgt := 15) hx hb dL_law_212 (by decide) ?_
    rw [show (e9 : Int) + 1 = ((e9 + 1 : Nat) : Int) by omega] at hl
    exact kq _ locs ls (cells + 0 + 500) (slots + 0 + 3000) (by omega) (by omega) hHC hS (lv_sub hl [0, 2, 3, 4, 5] rfl)
set_option maxHeartbeats 4000000 in
set_option maxRecDepth 100000 in
theorem law_turn {p : Program} {l : Launch} {e : Env} {s : State} {m : MethodId} {below : List Frame} {meth : Method} {c : Code} {Q : State → Prop} {b L : Nat} {xs : Nat → Int32} {D : va_G} {tc : Nat → ClassId} {dz : Nat} {ad : Nat → Nat} (hst : l.stackTraces = false) (hx : p.tables.exec = Jvm.exec) (hb : c.code = cL_law) (hml : c.maxLocals = 10) (hown : s.vm.findClass RL = some m.cls) (hZ : zB s D tc (fun q : Nat => s.heap.size ≤ q) dz) (hNC : zNC s) (hXs : va_X b L xs s s.heap) (hbl : b < s.heap.size) (hL : L ≤ 260) {u : zS_} {now t9 x9 y9 kind : Int} {e9 : Nat} {H : Heap} {locs : List Loc} {ls : Array Slot} {cells slots : Nat} (hO : zOk u) (hn : u 24 0 = now) (hn2 : 0 ≤ now ∧ now ≤ 300) (ht : 0 ≤ t9 ∧ t9 ≤ 100) (hk : 0 ≤ kind ∧ kind ≤ 12) (hce : cells + 600 ≤ 662435 ∧ slots + 11000 ≤ 7114394) (hHC : zHC D tc dz (fun q : Nat => s.heap.size ≤ q) ad u H) (hS : va_S (fun q : Nat => s.heap.size ≤ q) s.heap H locs) (hl : lv_has ls 10 [(7, .int (zi (kind))), (6, .int (zi (y9))), (5, .int (zi (x9))), (4, .int (zi ((e9 : Int)))), (3, .int (zi (t9))), (2, .int (zi (now))), (1, .ref (ad 0)), (0, .ref (b))])
    (kq : ∀ (u' : zS_) (now' t' : Int) (H : Heap) (locs : List Loc) (ls : Array Slot) (cells' slots' : Nat), cells' ≤ cells + 590 → slots' ≤ slots + 10990 → zOk u' → u' 24 0 = now' → (0 ≤ now' ∧ now' ≤ now + 6) → (0 ≤ t' ∧ t' ≤ t9 + 1) → zHC D tc dz (fun q : Nat => s.heap.size ≤ q) ad u' H → va_S (fun q : Nat => s.heap.size ≤ q) s.heap H locs → lv_has ls 10 [(5, .int (zi (x9))), (4, .int (zi ((e9 : Int)))), (3, .int (zi (t'))), (2, .int (zi (now'))), (1, .ref (ad 0)), (0, .ref (b))] → W p l e room_1 s m #[Value.ref b] below meth c H locs cells' slots' Q (F0 m 190 ls [])) : W p l e room_1 s m #[Value.ref b] below meth c H locs cells slots Q (F0 m 65 ls []) := by
  have hW := State.WarmedH.refl s
  have hA : ∀ q : Nat, s.heap.size ≤ q → (fun q : Nat => s.heap.size ≤ q) q := fun q h => h
  have X : zH s (fun q : Nat => s.heap.size ≤ q) p s m c cL_law 10 RL := ⟨hx, hb, hml, hown, hW, ⟨Nat.le_refl _, fun _ _ => rfl⟩, fun q h => h, hA⟩
  have hT := hZ.1
  have hK := hZ.2.1
  have hbA : ¬ (fun q : Nat => s.heap.size ≤ q) b := fun z => absurd z (by show ¬ s.heap.size ≤ b; omega)
  have hI1 := hO.1.1
  have hkq := hn2
  have K91 : W p l e room_1 s m #[Value.ref b] below meth c H locs cells slots Q (F0 m 91 ls []) := by
    refine lv_iconst (v := zi (1)) hx hb dL_law_91 rfl ?_
    refine lv_iload hx hb dL_law_92 (lv_at hl 1 rfl) ?_
    refine lv_bipush (v := zi (6)) hx hb dL_law_94 rfl ?_
    refine z_invS (n := 2) (c_L_low l hZ (x := zi (y9)) (n := 6) (by omega)) X hS rfl hl.1 (q_108 hT hW) (q_0 hT hW) (q_106 hT hW) (q_107 hT hW) (by decide +kernel) rfl ⟨Nat.le_of_ble_eq_true rfl, Nat.le_of_ble_eq_true rfl⟩ ⟨by show cells + 0 ≤ 662435; omega, by show slots + 0 ≤ 7114394; omega⟩ (Nat.le_of_ble_eq_true rfl) dL_law_96 (fun v H locs hv hS => ?_) rfl
    obtain ⟨hH, r2, hr2, rfl⟩ := hv
    rw [hH] at hS ⊢
    refine z_iadd (a := 1) (b := r2) hx hb dL_law_99 ?_
    refine lv_istore (lv' := [(8, .int (zi ((1 + r2)))), (7, .int (zi (kind))), (6, .int (zi (y9))), (5, .int (zi (x9))), (4, .int (zi ((e9 : Int)))), (3, .int (zi (t9))), (2, .int (zi (now))), (1, .ref (ad 0)), (0, .ref (b))]) hx hb dL_law_100 hl (by decide) rfl (fun ls hl => ?_)
    refine lv_iload_n hx hb dL_law_102 rfl (lv_at hl 6 rfl) ?_
    refine lv_iload hx hb dL_law_103 (lv_at hl 0 rfl) ?_
    refine z_iadd (a := now) (b := (1 + r2)) hx hb dL_law_105 ?_
    refine lv_istore_n (lv' := [(2, .int (zi ((now + (1 + r2))))), (8, .int (zi ((1 + r2)))), (7, .int (zi (kind))), (6, .int (zi (y9))), (5, .int (zi (x9))), (4, .int (zi ((e9 : Int)))), (3, .int (zi (t9))), (1, .ref (ad 0)), (0, .ref (b))]) hx hb dL_law_106 rfl hl (by decide) rfl (fun ls hl => ?_)
    refine lv_aload_n hx hb dL_law_107 rfl (lv_at hl 7 rfl) ?_
    refine lv_iconst (v := zi (5)) hx hb dL_law_108 rfl ?_
    refine lv_iload hx hb dL_law_109 (lv_at hl 1 rfl) ?_
    refine lv_iconst (v := zi (0)) hx hb dL_law_111 rfl ?_
    refine lv_iconst (v := zi (0)) hx hb dL_law_112 rfl ?_
    refine lv_iconst (v := zi (0)) hx hb dL_law_113 rfl ?_
    refine z_invSH (n := 6) (B := (fun q : Nat => s.heap.size ≤ q)) (fun q h => h) (c_L_does5 l hZ (ad := ad) (u := u) (a := (1 + r2)) (b := 0) (cx := 0) (d := 0) hst hNC hO (by omega)) X hS (fun q h => hA q (Nat.le_trans hS.1 h)) hHC hl.1 (q_112 hT hW) (q_0 hT hW) (q_110 hT hW) (q_111 hT hW) (by decide +kernel) rfl ⟨Nat.le_of_ble_eq_true rfl, Nat.le_of_ble_eq_true rfl⟩ ⟨by show cells + 0 + 577 ≤ 662435; omega, by show slots + 0 + 10950 ≤ 7114394; omega⟩ (Nat.le_of_ble_eq_true rfl) dL_law_114 (fun v H locs hv hfr hS => ?_) rfl
    skip
    have hcd : mcPass u (1 + r2) = 0 := by unfold mcPass; omega
    obtain ⟨rfl, hHC⟩ := hv.1 hcd
    have hp := zOk_pass hO hcd
    refine lv_iload_n hx hb dL_law_117 rfl (lv_at hl 0 rfl) ?_
    refine z_icmp_eq (a := mpass u ((1 + r2)).toNat 24 0) (b := (now + (1 + r2))) (tgt := 123) hx hb dL_law_118 (by decide) (by omega) (fun h_118 => ?_) (fun h_118 => False.elim (by omega))
    refine lv_goto (tgt := 190) hx hb dL_law_123 (by decide) ?_
    exact kq (mpass u ((1 + r2)).toNat) ((now + (1 + r2))) (t9) _ locs ls (cells + 0 + 577) (slots + 0 + 10950) (by omega) (by omega) hp.1 (hp.2.trans (by rw [hn])) (by omega) (by omega) hHC hS (lv_sub hl [4, 5, 6, 0, 7, 8] rfl)
  have K147 : ∀ (ta : Int) (ls : Array Slot), (0 ≤ ta ∧ ta ≤ t9 + 1) → (0 ≤ kind ∧ kind ≤ 8) → lv_has ls 10 [(3, .int (zi (ta))), (7, .int (zi (kind))), (6, .int (zi (y9))), (5, .int (zi (x9))), (4, .int (zi ((e9 : Int)))), (2, .int (zi (now))), (1, .ref (ad 0)), (0, .ref (b))] → W p l e room_1 s m #[Value.ref b] below meth c H locs cells slots Q (F0 m 147 ls []) := by
    intro ta ls hta hk8 hl
    refine lv_aload_n hx hb dL_law_147 rfl (lv_at hl 6 rfl) ?_
    refine z_invSB (n := 1) (B := (fun q : Nat => s.heap.size ≤ q)) (fun q h => h) (c_L_tell l hZ (ad := ad) (u := u) hst hNC hO) X hS (fun q h => hA q (Nat.le_trans hS.1 h)) hHC hl.1 (q_597 hT hW) (q_0 hT hW) (q_595 hT hW) (q_596 hT hW) (by decide +kernel) rfl ⟨Nat.le_of_ble_eq_true rfl, Nat.le_of_ble_eq_true rfl⟩ ⟨by show cells + 150 ≤ 662435; omega, by show slots + 950 ≤ 7114394; omega⟩ (Nat.le_of_ble_eq_true rfl) dL_law_148 (fun v H locs hv hfr hS => ?_) rfl
    obtain ⟨r, f, rfl, hrA, hHC, hRr, hTl⟩ := hv
    have hZ1 : zB s D tc (fun q : Nat => s.heap.size ≤ q ∧ q ≠ r) dz := hZ.sub (fun q h => h.1)
    refine lv_astore (lv' := [(8, .ref (r)), (3, .int (zi (ta))), (7, .int (zi (kind))), (6, .int (zi (y9))), (5, .int (zi (x9))), (4, .int (zi ((e9 : Int)))), (2, .int (zi (now))), (1, .ref (ad 0)), (0, .ref (b))]) hx hb dL_law_151 hl (by decide) rfl (fun ls hl => ?_)
    refine lv_aload_n hx hb dL_law_153 rfl (lv_at hl 7 rfl) ?_
    refine lv_iload hx hb dL_law_154 (lv_at hl 3 rfl) ?_
    refine lv_iload_n hx hb dL_law_156 rfl (lv_at hl 6 rfl) ?_
    refine lv_iload hx hb dL_law_157 (lv_at hl 2 rfl) ?_
    refine z_invSB (n := 4) (B := (fun q : Nat => s.heap.size ≤ q ∧ q ≠ r)) (fun q h => h.1) (c_L_act l hZ1 (ad := ad) (u := u) (y := zi y9) (now := now) (kind := kind) hst hNC hO hn hk8) X hS (fun q h => ⟨Nat.le_trans hS.1 h, fun z => by have := hRr.lt zu_eq; omega⟩) hHC hl.1 (q_627 hT hW) (q_0 hT hW) (q_625 hT hW) (q_626 hT hW) (by decide +kernel) rfl ⟨Nat.le_of_ble_eq_true rfl, Nat.le_of_ble_eq_true rfl⟩ ⟨by show cells + 150 + 7 ≤ 662435; omega, by show slots + 950 + 76 ≤ 7114394; omega⟩ (Nat.le_of_ble_eq_true rfl) dL_law_159 (fun v H locs hv hfr hS => ?_) rfl
    obtain ⟨k9, u9, rfl, hO9, h24, hHC, hk9⟩ := hv
    have hRr := hRr.frame hfr (fun q h _ z => z.2 h)
    refine lv_istore (lv' := [(9, .int (zi (k9))), (8, .ref (r)), (3, .int (zi (ta))), (7, .int (zi (kind))), (6, .int (zi (y9))), (5, .int (zi (x9))), (4, .int (zi ((e9 : Int)))), (2, .int (zi (now))), (1, .ref (ad 0)), (0, .ref (b))]) hx hb dL_law_162 hl (by decide) rfl (fun ls hl => ?_)
    refine lv_iload hx hb dL_law_164 (lv_at hl 0 rfl) ?_
    refine lv_iconst (v := zi (-1)) hx hb dL_law_166 rfl ?_
    refine z_icmp_eq (a := k9) (b := (-1)) (tgt := 188) hx hb dL_law_167 (by decide) (by omega) (fun h_167 => False.elim (by omega)) (fun h_167 => ?_)
    refine lv_iload hx hb dL_law_170 (lv_at hl 0 rfl) ?_
    refine lv_iconst (v := zi (-1)) hx hb dL_law_172 rfl ?_
    refine z_icmp_ge (a := k9) (b := (-1)) (tgt := 190) hx hb dL_law_173 (by decide) (by omega) (fun h_173 => ?_) (fun h_173 => ?_)
    · skip
      exact kq u9 (now) (ta) _ locs ls (cells + 150 + 7) (slots + 950 + 76) (by omega) (by omega) hO9 (h24.trans hn) (by omega) (by omega) (hHC.mono (fun q _ h => h.1)) hS (lv_sub hl [5, 6, 2, 7, 8, 9] rfl)
    · skip
      refine lv_aload hx hb dL_law_176 (lv_at hl 1 rfl) ?_
      refine lv_aload_n hx hb dL_law_178 rfl (lv_at hl 8 rfl) ?_
      have hu9 : u9 = u := by
        rcases hk9 with g | g
        · omega
        · exact g.2
      refine z_invSB (n := 1) (B := (fun q : Nat => s.heap.size ≤ q ∧ q ≠ r)) (fun q h => h.1) (c_L_tell l hZ1 (ad := ad) (u := u9) hst hNC hO9) X hS (fun q h => ⟨Nat.le_trans hS.1 h, fun z => by have := hRr.lt zu_eq; omega⟩) hHC hl.1 (q_597 hT hW) (q_0 hT hW) (q_595 hT hW) (q_596 hT hW) (by decide +kernel) rfl ⟨Nat.le_of_ble_eq_true rfl, Nat.le_of_ble_eq_true rfl⟩ ⟨by show cells + 150 + 7 + 150 ≤ 662435; omega, by show slots + 950 + 76 + 950 ≤ 7114394; omega⟩ (Nat.le_of_ble_eq_true rfl) dL_law_179 (fun v H locs hv hfr hS => ?_) rfl
      obtain ⟨r2, f2, rfl, hrA2, hHC, hRr2, hTl2⟩ := hv
      have hRr := hRr.frame hfr (fun q h _ z => z.2 h)
      refine z_invS (n := 2) (c_L_same l hZ (r1 := r) (r2 := r2) (f := f) (g := f2) (fun j hj => (hTl j hj).trans ((congrArg (fun v => zi (ztl v j)) hu9).symm.trans (hTl2 j hj).symm))) X hS ⟨rfl, hRr, hRr2⟩ hl.1 (q_608 hT hW) (q_0 hT hW) (q_606 hT hW) (q_607 hT hW) (by decide +kernel) rfl ⟨Nat.le_of_ble_eq_true rfl, Nat.le_of_ble_eq_true rfl⟩ ⟨by show cells + 150 + 7 + 150 + 0 ≤ 662435; omega, by show slots + 950 + 76 + 950 + 0 ≤ 7114394; omega⟩ (Nat.le_of_ble_eq_true rfl) dL_law_182 (fun v H locs hv hS => ?_) rfl
      obtain ⟨hH, rfl⟩ := hv
      rw [hH] at hS ⊢
      refine z_if_ne (a := 1) (tgt := 190) hx hb dL_law_185 (by decide) (by omega) (fun _ => ?_) (fun h_185 => False.elim (by omega))
      exact kq u9 (now) (ta) _ locs ls (cells + 150 + 7 + 150 + 0) (slots + 950 + 76 + 950 + 0) (by omega) (by omega) hO9 (h24.trans hn) (by omega) (by omega) (hHC.mono (fun q _ h => h.1.1)) hS (lv_sub hl [5, 6, 2, 7, 8, 9] rfl)
  have K126 : (0 ≤ kind ∧ kind ≤ 8) → W p l e room_1 s m #[Value.ref b] below meth c H locs cells slots Q (F0 m 126 ls []) := by
    intro hk8
    refine lv_iload_n hx hb dL_law_126 rfl (lv_at hl 4 rfl) ?_
    refine lv_iload hx hb dL_law_127 (lv_at hl 0 rfl) ?_
    refine lv_iconst (v := zi (4)) hx hb dL_law_129 rfl ?_
    refine z_icmp_le (a := kind) (b := 4) (tgt := 144) hx hb dL_law_130 (by decide) (by omega) (fun h_130 => ?_) (fun h_130 => ?_)
    · skip
      refine lv_iconst (v := zi (0)) hx hb dL_law_144 rfl ?_
      refine z_iadd (a := t9) (b := 0) hx hb dL_law_145 ?_
      refine lv_istore_n (lv' := [(3, .int (zi ((t9 + 0)))), (7, .int (zi (kind))), (6, .int (zi (y9))), (5, .int (zi (x9))), (4, .int (zi ((e9 : Int)))), (2, .int (zi (now))), (1, .ref (ad 0)), (0, .ref (b))]) hx hb dL_law_146 rfl hl (by decide) rfl (fun ls hl => ?_)
      exact K147 ((t9 + 0)) ls (by omega) hk8 (lv_sub hl [0, 1, 2, 3, 4, 5, 6, 7] rfl)
    · skip
      refine lv_iload hx hb dL_law_133 (lv_at hl 0 rfl) ?_
      refine lv_bipush (v := zi (8)) hx hb dL_law_135 rfl ?_
      refine z_icmp_ge (a := kind) (b := 8) (tgt := 144) hx hb dL_law_137 (by decide) (by omega) (fun h_137 => ?_) (fun h_137 => ?_)
      · skip
        refine lv_iconst (v := zi (0)) hx hb dL_law_144 rfl ?_
        refine z_iadd (a := t9) (b := 0) hx hb dL_law_145 ?_
        refine lv_istore_n (lv' := [(3, .int (zi ((t9 + 0)))), (7, .int (zi (kind))), (6, .int (zi (y9))), (5, .int (zi (x9))), (4, .int (zi ((e9 : Int)))), (2, .int (zi (now))), (1, .ref (ad 0)), (0, .ref (b))]) hx hb dL_law_146 rfl hl (by decide) rfl (fun ls hl => ?_)
        exact K147 ((t9 + 0)) ls (by omega) hk8 (lv_sub hl [0, 1, 2, 3, 4, 5, 6, 7] rfl)
      · skip
        refine lv_iconst (v := zi (1)) hx hb dL_law_140 rfl ?_
        refine lv_goto (tgt := 145) hx hb dL_law_141 (by decide) ?_
        refine z_iadd (a := t9) (b := 1) hx hb dL_law_145 ?_
        refine lv_istore_n (lv' := [(3, .int (zi ((t9 + 1)))), (7, .int (zi (kind))), (6, .int (zi (y9))), (5, .int (zi (x9))), (4, .int (zi ((e9 : Int)))), (2, .int (zi (now))), (1, .ref (ad 0)), (0, .ref (b))]) hx hb dL_law_146 rfl hl (by decide) rfl (fun ls hl => ?_)
        exact K147 ((t9 + 1)) ls (by omega) hk8 (lv_sub hl [0, 1, 2, 3, 4, 5, 6, 7] rfl)
  refine lv_iload hx hb dL_law_65 (lv_at hl 0 rfl) ?_
  refine lv_bipush (v := zi (8)) hx hb dL_law_67 rfl ?_
  refine z_icmp_gt (a := kind) (b := 8) (tgt := 91) hx hb dL_law_69 (by decide) (by omega) (fun h_69 => ?_) (fun h_69 => ?_)
  · skip
    exact K91
  · skip
    refine lv_iload hx hb dL_law_72 (lv_at hl 0 rfl) ?_
    refine lv_iconst (v := zi (4)) hx hb dL_law_74 rfl ?_
    refine z_icmp_le (a := kind) (b := 4) (tgt := 126) hx hb dL_law_75 (by decide) (by omega) (fun h_75 => ?_) (fun h_75 => ?_)
    · skip
      exact K126 (by omega)
    · skip
      refine lv_iload hx hb dL_law_78 (lv_at hl 0 rfl) ?_
      refine lv_bipush (v := zi (8)) hx hb dL_law_80 rfl ?_
      refine z_icmp_ge (a := kind) (b := 8) (tgt := 126) hx hb dL_law_82 (by decide) (by omega) (fun h_82 => ?_) (fun h_82 => ?_)
      · skip
        exact K126 (by omega)
      · skip
        refine lv_iload_n hx hb dL_law_85 rfl (lv_at hl 4 rfl) ?_
        refine lv_bipush (v := zi (20)) hx hb dL_law_86 rfl ?_
        refine z_icmp_le (a := t9) (b := 20) (tgt := 126) hx hb dL_law_88 (by decide) (by omega) (fun h_88 => ?_) (fun h_88 => ?_)
        · skip
          exact K126 (by omega)
        · skip
          exact K91
