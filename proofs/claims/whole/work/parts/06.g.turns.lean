/-! one turn of the law -/
section ZSL
variable {p : Program} {l : Launch} {e : Env} {R : Room} {s : State} {m : MethodId} {args : Array Value} {below : List Frame} {meth : Method} {c : Code} {H0 H : Heap} {locs : List Loc} {cells slots : Nat} {Q : State → Prop} {A : Nat → Prop}
variable {cc : ByteArray} {pc : Nat} {ls : Array Slot} {rest : List Value}
theorem z_sld (hx : p.tables.exec = Jvm.exec) (hb : c.code = cc) {b L : Nat} {xs : Nat → Int32} (hX : va_X b L xs s H0) (hbl : b < H0.size) (hbA : ¬ A b) (hS : va_S A H0 H locs) {i v : Int} (hi : 0 ≤ i ∧ i < L ∧ L ≤ 2147483647) (hv : xs i.toNat = zi v) (hdg : decode cc pc = .ok (.iaload, 1))
    (kk : W p l e R s m args below meth c H locs cells slots Q (F0 m (pc + 1) ls (.int (zi v) :: rest))) : W p l e R s m args below meth c H locs cells slots Q (F0 m pc ls (.int (zi i) :: .ref b :: rest)) :=
  va_sld hx hb hX hbl hbA hS (zi_in hi) hdg (by rw [zi_clamp (by omega), hv]; exact kk)
end ZSL
theorem mmany_25 {u : zS_} {a x : Int} (n : Nat) : mmany (ms u 25 0 x) a n = mmany u a n := by
  induction n with
  | zero => rfl
  | succ n ih => unfold mmany; rw [ih]; rfl
theorem mfl_cmp : ∀ x : Nat, x < 16 → ∀ y : Nat, y < 31 → Op.cmpValue (FP.dcmp (FP.f2d (mfl x y)) (FP.f2d (mfl x y))) CmpOp.l = zi 0 := by
  have h : (List.range 16).all (fun x => (List.range 31).all fun y => decide (Op.cmpValue (FP.dcmp (FP.f2d (mfl (x : Int) (y : Int))) (FP.f2d (mfl (x : Int) (y : Int)))) CmpOp.l = zi 0)) = true := by decide +kernel
  intro x hx y hy
  have h1 := List.all_eq_true.mp h x (List.mem_range.mpr hx)
  have h2 := List.all_eq_true.mp h1 y (List.mem_range.mpr hy)
  exact of_decide_eq_true h2
set_option maxHeartbeats 4000000 in
set_option maxRecDepth 100000 in
theorem t_boat {p : Program} {l : Launch} {e : Env} {s : State} {m : MethodId} {below : List Frame} {meth : Method} {c : Code} {Q : State → Prop} {b L : Nat} {xs : Nat → Int32} {D : va_G} {tc : Nat → ClassId} {dz m0 : Nat} {aM : Nat → Nat} {o o2 : Nat} {ad : Nat → Nat} {u : zS_} {H : Heap} {locs : List Loc} {ls : Array Slot} {cells slots : Nat} (hflags : l.stackTraces = false) (hx : p.tables.exec = Jvm.exec) (hb : c.code = cL_law) (hml : c.maxLocals = 8) (hown : s.vm.findClass RL = some m.cls) (hX : va_X b L xs s s.heap) (hbl : b < s.heap.size) (hL : L ≤ 3072) (hLA : zLA s D tc dz m0 aM o o2) (hI : zIn u) (hU : zUn u) {kk : Nat} (hkk : 6 * kk + 6 ≤ L) {a b_ k d f : Int} (h0 : -2147483648 ≤ a ∧ a ≤ 2147483647 ∧ -2147483648 ≤ b_ ∧ b_ ≤ 2147483647 ∧ -2147483648 ≤ k ∧ k ≤ 2147483647 ∧ -2147483648 ≤ d ∧ d ≤ 2147483647 ∧ -2147483648 ≤ f ∧ f ≤ 2147483647) (e1 : xs (6 * kk + 1) = zi a) (e2 : xs (6 * kk + 2) = zi b_) (e3 : xs (6 * kk + 3) = zi k) (e4 : xs (6 * kk + 4) = zi d) (e5 : xs (6 * kk + 5) = zi f)
    (hw : zLw s D tc dz ad m0 aM o o2 u H) (hS : va_S (fun q => s.heap.size ≤ q) s.heap H locs) (hl : lv_has ls 8 [(5, .int (zi (6 * (kk : Int)))), (4, .ref (o2)), (3, .ref (o)), (2, .ref (m0)), (1, .ref (ad 0)), (0, .ref (b))]) (hcs : cells + 600 ≤ 601024 ∧ slots + 10960 ≤ 7293034)
    (kq : ∀ (u' : zS_) (H : Heap) (locs : List Loc) (ls : Array Slot) (cells' slots' : Nat), cells' ≤ cells + 600 → slots' ≤ slots + 10960 → zIn u' → zUn u' → zLw s D tc dz ad m0 aM o o2 u' H → va_S (fun q => s.heap.size ≤ q) s.heap H locs → lv_has ls 8 [(5, .int (zi (6 * (kk : Int)))), (4, .ref (o2)), (3, .ref (o)), (2, .ref (m0)), (1, .ref (ad 0)), (0, .ref (b))] → W p l e room_1 s m #[Value.ref b] below meth c H locs cells' slots' Q (F0 m 970 ls [])) : W p l e room_1 s m #[Value.ref b] below meth c H locs cells slots Q (F0 m 108 ls []) := by
  have hW := State.WarmedH.refl s
  have X : zH s (fun q => s.heap.size ≤ q) p s m c cL_law 8 RL := ⟨hx, hb, hml, hown, hW, ⟨Nat.le_refl _, fun _ _ => rfl⟩, fun q h => h, fun q h => h⟩
  have hT := hLA.1.1
  have hK := hLA.1.2.1
  have hbA : ¬ (fun q => s.heap.size ≤ q) b := fun z => absurd z (by show ¬ s.heap.size ≤ b; omega)
  have hc9 : 0 ≤ mcBoat u a b_ k d f ∧ mcBoat u a b_ k d f ≤ 3 := by unfold mcBoat; omega
  have hI1 := hI.1
  refine lv_aload_n hx hb dL_law_108 rfl (lv_at hl 4 rfl) ?_
  refine lv_aload_n hx hb dL_law_109 rfl (lv_at hl 5 rfl) ?_
  refine lv_iload hx hb dL_law_110 (lv_at hl 0 rfl) ?_
  refine lv_iconst (v := zi (1)) hx hb dL_law_112 rfl ?_
  refine z_iadd (a := 6 * (kk : Int)) (b := 1) hx hb dL_law_113 ?_
  refine z_sld (i := (6 * (kk : Int) + 1)) (v := a) hx hb hX hbl hbA hS (by omega) (by rw [show ((6 * (kk : Int) + 1) : Int).toNat = 6 * kk + 1 by omega]; exact e1) dL_law_114 ?_
  refine lv_aload_n hx hb dL_law_115 rfl (lv_at hl 5 rfl) ?_
  refine lv_iload hx hb dL_law_116 (lv_at hl 0 rfl) ?_
  refine lv_iconst (v := zi (2)) hx hb dL_law_118 rfl ?_
  refine z_iadd (a := 6 * (kk : Int)) (b := 2) hx hb dL_law_119 ?_
  refine z_sld (i := (6 * (kk : Int) + 2)) (v := b_) hx hb hX hbl hbA hS (by omega) (by rw [show ((6 * (kk : Int) + 2) : Int).toNat = 6 * kk + 2 by omega]; exact e2) dL_law_120 ?_
  refine lv_aload_n hx hb dL_law_121 rfl (lv_at hl 5 rfl) ?_
  refine lv_iload hx hb dL_law_122 (lv_at hl 0 rfl) ?_
  refine lv_iconst (v := zi (3)) hx hb dL_law_124 rfl ?_
  refine z_iadd (a := 6 * (kk : Int)) (b := 3) hx hb dL_law_125 ?_
  refine z_sld (i := (6 * (kk : Int) + 3)) (v := k) hx hb hX hbl hbA hS (by omega) (by rw [show ((6 * (kk : Int) + 3) : Int).toNat = 6 * kk + 3 by omega]; exact e3) dL_law_126 ?_
  refine lv_aload_n hx hb dL_law_127 rfl (lv_at hl 5 rfl) ?_
  refine lv_iload hx hb dL_law_128 (lv_at hl 0 rfl) ?_
  refine lv_iconst (v := zi (4)) hx hb dL_law_130 rfl ?_
  refine z_iadd (a := 6 * (kk : Int)) (b := 4) hx hb dL_law_131 ?_
  refine z_sld (i := (6 * (kk : Int) + 4)) (v := d) hx hb hX hbl hbA hS (by omega) (by rw [show ((6 * (kk : Int) + 4) : Int).toNat = 6 * kk + 4 by omega]; exact e4) dL_law_132 ?_
  refine lv_aload_n hx hb dL_law_133 rfl (lv_at hl 5 rfl) ?_
  refine lv_iload hx hb dL_law_134 (lv_at hl 0 rfl) ?_
  refine lv_iconst (v := zi (5)) hx hb dL_law_136 rfl ?_
  refine z_iadd (a := 6 * (kk : Int)) (b := 5) hx hb dL_law_137 ?_
  refine z_sld (i := (6 * (kk : Int) + 5)) (v := f) hx hb hX hbl hbA hS (by omega) (by rw [show ((6 * (kk : Int) + 5) : Int).toNat = 6 * kk + 5 by omega]; exact e5) dL_law_138 ?_
  refine lv_aload_n hx hb dL_law_139 rfl (lv_at hl 2 rfl) ?_
  obtain ⟨hHC, hM, ⟨v1, hO⟩, ⟨v2, hO2⟩⟩ := hw
  have hsz := hS.1
  have hfr0 : ∀ q : Nat, H.size ≤ q → zBc s m0 aM o o2 q := zLw.fresh hsz ⟨hHC, hM, ⟨v1, hO⟩, ⟨v2, hO2⟩⟩
  refine z_invSH (n := 7) (B := (fun q => zBc s m0 aM o o2 q ∨ q = o)) (fun q h => h.elim (fun z => z.1) (fun z => by rw [z]; exact hLA.2.2.1.2.2.1)) (c_L_boat l hflags hLA.B hLA.2.1 (ad := ad) (u := ms u 25 0 0) (o := o) hLA.2.2.1.2.2.1 (fun z => z.2.2.2.1 rfl) (a := a) (b_ := b_) (k := k) (d := d) (f := f) h0 (zIn_25 hI) hU) X hS (fun q h => Or.inl (hfr0 q h)) ⟨hHC.c25, ⟨v1, hO⟩, hfr0⟩ hl.1 (q_105 hT hW) (q_0 hT hW) (q_103 hT hW) (q_104 hT hW) (by decide +kernel) rfl ⟨Nat.le_of_ble_eq_true rfl, Nat.le_of_ble_eq_true rfl⟩ ⟨by show cells + 7 ≤ 601024; omega, by show slots + 76 ≤ 7293034; omega⟩ (Nat.le_of_ble_eq_true rfl) dL_law_140 (fun v H1 locs hv hfr hS => ?_) rfl
  have hv : v = some (.int (zi (mcBoat u a b_ k d f))) ∧ (0 < mcBoat u a b_ k d f → zHC D tc dz (zBc s m0 aM o o2) ad (ms u 25 0 0) H1) ∧ (mcBoat u a b_ k d f = 0 → zHC D tc dz (zBc s m0 aM o o2) ad (muBoat (ms u 25 0 0) a b_ k d f) H1) ∧ ∃ v : Int64, zOL D tc o v H1 ∧ (mcBoat u a b_ k d f = 0 → v = (zi (u 13 0)).toInt64) := hv
  obtain ⟨rfl, hc1, hc0, v3, hO3, hv3⟩ := hv
  have hM := mH.frame hM hfr (fun q hq _ hB => hB.elim (fun g => zBc_M g hq) (fun g => (zMm_not hLA).1 (by rw [← g]; exact hq)))
  have hO2 := hO2.frame hfr (fun z => z.elim (fun g => g.2.2.2.2 rfl) (fun g => hLA.2.2.2.1 g.symm))
  clear hHC hfr hfr0 hsz
  refine lv_istore (lv' := [(6, .int (zi (mcBoat u a b_ k d f))), (5, .int (zi (6 * (kk : Int)))), (4, .ref (o2)), (3, .ref (o)), (2, .ref (m0)), (1, .ref (ad 0)), (0, .ref (b))]) hx hb dL_law_143 hl (by decide) rfl (fun ls hl => ?_)
  by_cases hcd : 0 < mcBoat u a b_ k d f
  · skip
    have hHC : zHC D tc dz (zBc s m0 aM o o2) ad (ms u 25 0 (mcBoat u a b_ k d f)) H1 := by
      have g := (hc1 hcd).c25 (x := mcBoat u a b_ k d f)
      rw [ms_ms] at g
      exact g
    have hIu : zIn (ms u 25 0 (mcBoat u a b_ k d f)) := zIn_25 hI
    have hUu : zUn (ms u 25 0 (mcBoat u a b_ k d f)) := hU
    refine lv_aload_n hx hb dL_law_145 rfl (lv_at hl 4 rfl) ?_
    refine lv_aload_n hx hb dL_law_146 rfl (lv_at hl 6 rfl) ?_
    refine lv_iload hx hb dL_law_147 (lv_at hl 1 rfl) ?_
    refine lv_iconst (v := zi (1)) hx hb dL_law_149 rfl ?_
    refine z_iadd (a := 6 * (kk : Int)) (b := 1) hx hb dL_law_150 ?_
    refine z_sld (i := (6 * (kk : Int) + 1)) (v := a) hx hb hX hbl hbA hS (by omega) (by rw [show ((6 * (kk : Int) + 1) : Int).toNat = 6 * kk + 1 by omega]; exact e1) dL_law_151 ?_
    refine lv_aload_n hx hb dL_law_152 rfl (lv_at hl 6 rfl) ?_
    refine lv_iload hx hb dL_law_153 (lv_at hl 1 rfl) ?_
    refine lv_iconst (v := zi (2)) hx hb dL_law_155 rfl ?_
    refine z_iadd (a := 6 * (kk : Int)) (b := 2) hx hb dL_law_156 ?_
    refine z_sld (i := (6 * (kk : Int) + 2)) (v := b_) hx hb hX hbl hbA hS (by omega) (by rw [show ((6 * (kk : Int) + 2) : Int).toNat = 6 * kk + 2 by omega]; exact e2) dL_law_157 ?_
    refine lv_aload_n hx hb dL_law_158 rfl (lv_at hl 6 rfl) ?_
    refine lv_iload hx hb dL_law_159 (lv_at hl 1 rfl) ?_
    refine lv_iconst (v := zi (3)) hx hb dL_law_161 rfl ?_
    refine z_iadd (a := 6 * (kk : Int)) (b := 3) hx hb dL_law_162 ?_
    refine z_sld (i := (6 * (kk : Int) + 3)) (v := k) hx hb hX hbl hbA hS (by omega) (by rw [show ((6 * (kk : Int) + 3) : Int).toNat = 6 * kk + 3 by omega]; exact e3) dL_law_163 ?_
    refine lv_aload_n hx hb dL_law_164 rfl (lv_at hl 6 rfl) ?_
    refine lv_iload hx hb dL_law_165 (lv_at hl 1 rfl) ?_
    refine lv_iconst (v := zi (4)) hx hb dL_law_167 rfl ?_
    refine z_iadd (a := 6 * (kk : Int)) (b := 4) hx hb dL_law_168 ?_
    refine z_sld (i := (6 * (kk : Int) + 4)) (v := d) hx hb hX hbl hbA hS (by omega) (by rw [show ((6 * (kk : Int) + 4) : Int).toNat = 6 * kk + 4 by omega]; exact e4) dL_law_169 ?_
    refine lv_aload_n hx hb dL_law_170 rfl (lv_at hl 6 rfl) ?_
    refine lv_iload hx hb dL_law_171 (lv_at hl 1 rfl) ?_
    refine lv_iconst (v := zi (5)) hx hb dL_law_173 rfl ?_
    refine z_iadd (a := 6 * (kk : Int)) (b := 5) hx hb dL_law_174 ?_
    refine z_sld (i := (6 * (kk : Int) + 5)) (v := f) hx hb hX hbl hbA hS (by omega) (by rw [show ((6 * (kk : Int) + 5) : Int).toNat = 6 * kk + 5 by omega]; exact e5) dL_law_175 ?_
    have hsz := hS.1
    have hMw : mH D tc (fun q => zMm m0 aM q ∨ H1.size ≤ q) m0 aM u H1 := hM.mono (fun q _ h => Or.inl h)
    refine z_invVB (n := 5) (C := RX6) (B := (fun q => zMm m0 aM q ∨ H1.size ≤ q)) (fun q h => (hLA.M (H := H1) hsz).2.2.1 q h) (c_X6_boat l (hLA.M (H := H1) hsz) (a := a) (b_ := b_) (k := k) (d := d) (f := f) h0 hI) X hS (fun q h => Or.inr h) hMw hl.1 (q_750 hT hW) (q_7 hT hW) (q_747 hT hW) (q_748 hT hW) (q_749 hT hW) (m_recv hK hMw) (by decide +kernel) rfl ⟨Nat.le_of_ble_eq_true rfl, Nat.le_of_ble_eq_true rfl⟩ ⟨by show cells + 7 + 0 ≤ 601024; omega, by show slots + 76 + 0 ≤ 7293034; omega⟩ (Nat.le_of_ble_eq_true rfl) dL_law_176 (fun v H2 locs hv hfr hS => ?_) rfl
    rw [if_pos hcd, if_pos hcd] at hv
    obtain ⟨rfl, hM⟩ := hv
    have hM := hM.restrict
    have hHC := hHC.frame hfr (fun q hB hq hm => hm.elim (zBc_M hB) (fun g => by omega))
    have hO3 := hO3.frame hfr (fun z => z.elim (zMm_not hLA).1 (fun g => by have := hO3.lt; omega))
    have hO2 := hO2.frame hfr (fun z => z.elim (zMm_not hLA).2 (fun g => by have := hO2.lt; omega))
    clear hfr hMw hsz
    refine lv_istore (lv' := [(7, .int (zi ((-1)))), (6, .int (zi (mcBoat u a b_ k d f))), (5, .int (zi (6 * (kk : Int)))), (4, .ref (o2)), (3, .ref (o)), (2, .ref (m0)), (1, .ref (ad 0)), (0, .ref (b))]) hx hb dL_law_179 hl (by decide) rfl (fun ls hl => ?_)
    refine lv_aload_n hx hb dL_law_181 rfl (lv_at hl 5 rfl) ?_
    have hsz := hS.1
    have hMw : mH D tc (fun q => zMm m0 aM q ∨ H2.size ≤ q) m0 aM (ms u 25 0 (mcBoat u a b_ k d f)) H2 := hM.mono (fun q _ h => Or.inl h)
    refine z_invVB (n := 0) (C := RX6) (B := (fun q => zMm m0 aM q ∨ H2.size ≤ q)) (fun q h => (hLA.M (H := H2) hsz).2.2.1 q h) (c_X6_thrown l (hLA.M (H := H2) hsz) (u := (ms u 25 0 (mcBoat u a b_ k d f)))) X hS (fun q h => Or.inr h) hMw hl.1 (q_746 hT hW) (q_7 hT hW) (q_743 hT hW) (q_744 hT hW) (q_745 hT hW) (m_recv hK hMw) (by decide +kernel) rfl ⟨Nat.le_of_ble_eq_true rfl, Nat.le_of_ble_eq_true rfl⟩ ⟨by show cells + 7 + 0 + 0 ≤ 601024; omega, by show slots + 76 + 0 + 0 ≤ 7293034; omega⟩ (Nat.le_of_ble_eq_true rfl) dL_law_182 (fun v H3 locs hv hfr hS => ?_) rfl
    obtain ⟨rfl, hM⟩ := hv
    have hM := hM.restrict
    have hHC := hHC.frame hfr (fun q hB hq hm => hm.elim (zBc_M hB) (fun g => by omega))
    have hO3 := hO3.frame hfr (fun z => z.elim (zMm_not hLA).1 (fun g => by have := hO3.lt; omega))
    have hO2 := hO2.frame hfr (fun z => z.elim (zMm_not hLA).2 (fun g => by have := hO2.lt; omega))
    clear hfr hMw hsz
    obtain ⟨t25, ht25⟩ : ∃ t25 : Int, t25 = (ms u 25 0 (mcBoat u a b_ k d f)) 25 0 := ⟨_, rfl⟩
    rw [← ht25]
    rw [ms_s] at ht25
    refine lv_iload hx hb dL_law_185 (lv_at hl 1 rfl) ?_
    refine z_icmp_eq (a := t25) (b := mcBoat u a b_ k d f) (tgt := 192) hx hb dL_law_187 (by decide) (by omega) (fun h_187 => ?_) (fun h_187 => ?_)
    · skip
      refine lv_iload hx hb dL_law_192 (lv_at hl 1 rfl) ?_
      refine z_if_ne (a := mcBoat u a b_ k d f) (tgt := 209) hx hb dL_law_194 (by decide) (by omega) (fun h_194 => ?_) (fun h_194 => ?_)
      · skip
        refine lv_goto (tgt := 970) hx hb dL_law_209 (by decide) ?_
        exact kq (ms u 25 0 (mcBoat u a b_ k d f)) _ _ _ _ _ (by show cells + 7 + 0 + 0 ≤ cells + 600; omega) (by show slots + 76 + 0 + 0 ≤ slots + 10960; omega) hIu hUu ⟨hHC, hM, ⟨v3, hO3⟩, ⟨v2, hO2⟩⟩ hS (lv_sub hl [2, 3, 4, 5, 6, 7] rfl)
      · skip
        exact absurd h_194 (by omega)
    · skip
      exact absurd (by omega) h_187
  · skip
    have hcd9 : mcBoat u a b_ k d f = 0 := by omega
    have hHC := hc0 hcd9
    have hv4 := hv3 hcd9
    have hIu : zIn (muBoat (ms u 25 0 0) a b_ k d f) := zIn_boat (zIn_25 hI) hU (by unfold mcBoat at hcd9; omega) (by unfold mcBoat at hcd9; show u 13 0 ≤ 5; have := hI.1; omega)
    have hUu : zUn (muBoat (ms u 25 0 0) a b_ k d f) := zUn_boat (zIn_25 hI) hU
    refine lv_aload_n hx hb dL_law_145 rfl (lv_at hl 4 rfl) ?_
    refine lv_aload_n hx hb dL_law_146 rfl (lv_at hl 6 rfl) ?_
    refine lv_iload hx hb dL_law_147 (lv_at hl 1 rfl) ?_
    refine lv_iconst (v := zi (1)) hx hb dL_law_149 rfl ?_
    refine z_iadd (a := 6 * (kk : Int)) (b := 1) hx hb dL_law_150 ?_
    refine z_sld (i := (6 * (kk : Int) + 1)) (v := a) hx hb hX hbl hbA hS (by omega) (by rw [show ((6 * (kk : Int) + 1) : Int).toNat = 6 * kk + 1 by omega]; exact e1) dL_law_151 ?_
    refine lv_aload_n hx hb dL_law_152 rfl (lv_at hl 6 rfl) ?_
    refine lv_iload hx hb dL_law_153 (lv_at hl 1 rfl) ?_
    refine lv_iconst (v := zi (2)) hx hb dL_law_155 rfl ?_
    refine z_iadd (a := 6 * (kk : Int)) (b := 2) hx hb dL_law_156 ?_
    refine z_sld (i := (6 * (kk : Int) + 2)) (v := b_) hx hb hX hbl hbA hS (by omega) (by rw [show ((6 * (kk : Int) + 2) : Int).toNat = 6 * kk + 2 by omega]; exact e2) dL_law_157 ?_
    refine lv_aload_n hx hb dL_law_158 rfl (lv_at hl 6 rfl) ?_
    refine lv_iload hx hb dL_law_159 (lv_at hl 1 rfl) ?_
    refine lv_iconst (v := zi (3)) hx hb dL_law_161 rfl ?_
    refine z_iadd (a := 6 * (kk : Int)) (b := 3) hx hb dL_law_162 ?_
    refine z_sld (i := (6 * (kk : Int) + 3)) (v := k) hx hb hX hbl hbA hS (by omega) (by rw [show ((6 * (kk : Int) + 3) : Int).toNat = 6 * kk + 3 by omega]; exact e3) dL_law_163 ?_
    refine lv_aload_n hx hb dL_law_164 rfl (lv_at hl 6 rfl) ?_
    refine lv_iload hx hb dL_law_165 (lv_at hl 1 rfl) ?_
    refine lv_iconst (v := zi (4)) hx hb dL_law_167 rfl ?_
    refine z_iadd (a := 6 * (kk : Int)) (b := 4) hx hb dL_law_168 ?_
    refine z_sld (i := (6 * (kk : Int) + 4)) (v := d) hx hb hX hbl hbA hS (by omega) (by rw [show ((6 * (kk : Int) + 4) : Int).toNat = 6 * kk + 4 by omega]; exact e4) dL_law_169 ?_
    refine lv_aload_n hx hb dL_law_170 rfl (lv_at hl 6 rfl) ?_
    refine lv_iload hx hb dL_law_171 (lv_at hl 1 rfl) ?_
    refine lv_iconst (v := zi (5)) hx hb dL_law_173 rfl ?_
    refine z_iadd (a := 6 * (kk : Int)) (b := 5) hx hb dL_law_174 ?_
    refine z_sld (i := (6 * (kk : Int) + 5)) (v := f) hx hb hX hbl hbA hS (by omega) (by rw [show ((6 * (kk : Int) + 5) : Int).toNat = 6 * kk + 5 by omega]; exact e5) dL_law_175 ?_
    have hsz := hS.1
    have hMw : mH D tc (fun q => zMm m0 aM q ∨ H1.size ≤ q) m0 aM u H1 := hM.mono (fun q _ h => Or.inl h)
    refine z_invVB (n := 5) (C := RX6) (B := (fun q => zMm m0 aM q ∨ H1.size ≤ q)) (fun q h => (hLA.M (H := H1) hsz).2.2.1 q h) (c_X6_boat l (hLA.M (H := H1) hsz) (a := a) (b_ := b_) (k := k) (d := d) (f := f) h0 hI) X hS (fun q h => Or.inr h) hMw hl.1 (q_750 hT hW) (q_7 hT hW) (q_747 hT hW) (q_748 hT hW) (q_749 hT hW) (m_recv hK hMw) (by decide +kernel) rfl ⟨Nat.le_of_ble_eq_true rfl, Nat.le_of_ble_eq_true rfl⟩ ⟨by show cells + 7 + 0 ≤ 601024; omega, by show slots + 76 + 0 ≤ 7293034; omega⟩ (Nat.le_of_ble_eq_true rfl) dL_law_176 (fun v H2 locs hv hfr hS => ?_) rfl
    rw [if_neg hcd, if_neg hcd] at hv
    obtain ⟨rfl, hM⟩ := hv
    have hM := hM.restrict
    have hHC := hHC.frame hfr (fun q hB hq hm => hm.elim (zBc_M hB) (fun g => by omega))
    have hO3 := hO3.frame hfr (fun z => z.elim (zMm_not hLA).1 (fun g => by have := hO3.lt; omega))
    have hO2 := hO2.frame hfr (fun z => z.elim (zMm_not hLA).2 (fun g => by have := hO2.lt; omega))
    clear hfr hMw hsz
    refine lv_istore (lv' := [(7, .int (zi ((u 13 0)))), (6, .int (zi (mcBoat u a b_ k d f))), (5, .int (zi (6 * (kk : Int)))), (4, .ref (o2)), (3, .ref (o)), (2, .ref (m0)), (1, .ref (ad 0)), (0, .ref (b))]) hx hb dL_law_179 hl (by decide) rfl (fun ls hl => ?_)
    refine lv_aload_n hx hb dL_law_181 rfl (lv_at hl 5 rfl) ?_
    have hsz := hS.1
    have hMw : mH D tc (fun q => zMm m0 aM q ∨ H2.size ≤ q) m0 aM (muBoat (ms u 25 0 0) a b_ k d f) H2 := hM.mono (fun q _ h => Or.inl h)
    refine z_invVB (n := 0) (C := RX6) (B := (fun q => zMm m0 aM q ∨ H2.size ≤ q)) (fun q h => (hLA.M (H := H2) hsz).2.2.1 q h) (c_X6_thrown l (hLA.M (H := H2) hsz) (u := (muBoat (ms u 25 0 0) a b_ k d f))) X hS (fun q h => Or.inr h) hMw hl.1 (q_746 hT hW) (q_7 hT hW) (q_743 hT hW) (q_744 hT hW) (q_745 hT hW) (m_recv hK hMw) (by decide +kernel) rfl ⟨Nat.le_of_ble_eq_true rfl, Nat.le_of_ble_eq_true rfl⟩ ⟨by show cells + 7 + 0 + 0 ≤ 601024; omega, by show slots + 76 + 0 + 0 ≤ 7293034; omega⟩ (Nat.le_of_ble_eq_true rfl) dL_law_182 (fun v H3 locs hv hfr hS => ?_) rfl
    obtain ⟨rfl, hM⟩ := hv
    have hM := hM.restrict
    have hHC := hHC.frame hfr (fun q hB hq hm => hm.elim (zBc_M hB) (fun g => by omega))
    have hO3 := hO3.frame hfr (fun z => z.elim (zMm_not hLA).1 (fun g => by have := hO3.lt; omega))
    have hO2 := hO2.frame hfr (fun z => z.elim (zMm_not hLA).2 (fun g => by have := hO2.lt; omega))
    clear hfr hMw hsz
    obtain ⟨t25, ht25⟩ : ∃ t25 : Int, t25 = (muBoat (ms u 25 0 0) a b_ k d f) 25 0 := ⟨_, rfl⟩
    rw [← ht25]
    have h25 : (muBoat (ms u 25 0 0) a b_ k d f) 25 0 = 0 := by rfl
    rw [h25] at ht25
    refine lv_iload hx hb dL_law_185 (lv_at hl 1 rfl) ?_
    refine z_icmp_eq (a := t25) (b := mcBoat u a b_ k d f) (tgt := 192) hx hb dL_law_187 (by decide) (by omega) (fun h_187 => ?_) (fun h_187 => ?_)
    · skip
      refine lv_iload hx hb dL_law_192 (lv_at hl 1 rfl) ?_
      refine z_if_ne (a := mcBoat u a b_ k d f) (tgt := 209) hx hb dL_law_194 (by decide) (by omega) (fun h_194 => ?_) (fun h_194 => ?_)
      · skip
        exact absurd h_194 (by omega)
      · skip
        refine lv_aload_n hx hb dL_law_197 rfl (lv_at hl 4 rfl) ?_
        refine lv_iconst (v := zi (0)) hx hb dL_law_198 rfl ?_
        obtain ⟨f9, hf9, hR9⟩ := hO3
        refine z_lald (i := 0) hx hb hK hR9 2 zu_eq rfl (by omega) dL_law_199 ?_
        rw [show f9 (0 : Int).toNat = (zi (u 13 0)).toInt64 from hf9.trans hv4]
        have hO3 : zOL D tc o v3 H3 := ⟨f9, hf9, hR9⟩
        refine lv_iload hx hb dL_law_200 (lv_at hl 0 rfl) ?_
        refine lv_i2l hx hb dL_law_202 rfl ?_
        refine z_lcmp0 hx hb dL_law_203 ?_
        refine z_if_eq (a := 0) (tgt := 209) hx hb dL_law_204 (by decide) (by omega) (fun h_204 => ?_) (fun h_204 => ?_)
        · skip
          refine lv_goto (tgt := 970) hx hb dL_law_209 (by decide) ?_
          exact kq (muBoat (ms u 25 0 0) a b_ k d f) _ _ _ _ _ (by show cells + 7 + 0 + 0 ≤ cells + 600; omega) (by show slots + 76 + 0 + 0 ≤ slots + 10960; omega) hIu hUu ⟨hHC, hM, ⟨v3, hO3⟩, ⟨v2, hO2⟩⟩ hS (lv_sub hl [2, 3, 4, 5, 6, 7] rfl)
        · skip
          exact absurd rfl h_204
    · skip
      exact absurd (by omega) h_187
set_option maxHeartbeats 4000000 in
set_option maxRecDepth 100000 in
theorem t_lend {p : Program} {l : Launch} {e : Env} {s : State} {m : MethodId} {below : List Frame} {meth : Method} {c : Code} {Q : State → Prop} {b L : Nat} {xs : Nat → Int32} {D : va_G} {tc : Nat → ClassId} {dz m0 : Nat} {aM : Nat → Nat} {o o2 : Nat} {ad : Nat → Nat} {u : zS_} {H : Heap} {locs : List Loc} {ls : Array Slot} {cells slots : Nat} (hflags : l.stackTraces = false) (hx : p.tables.exec = Jvm.exec) (hb : c.code = cL_law) (hml : c.maxLocals = 8) (hown : s.vm.findClass RL = some m.cls) (hX : va_X b L xs s s.heap) (hbl : b < s.heap.size) (hL : L ≤ 3072) (hLA : zLA s D tc dz m0 aM o o2) (hI : zIn u) (hU : zUn u) {kk : Nat} (hkk : 6 * kk + 6 ≤ L) {a b_ : Int} (h0 : -2147483648 ≤ a ∧ a ≤ 2147483647 ∧ -2147483648 ≤ b_ ∧ b_ ≤ 2147483647) (e1 : xs (6 * kk + 1) = zi a) (e2 : xs (6 * kk + 2) = zi b_)
    (hw : zLw s D tc dz ad m0 aM o o2 u H) (hS : va_S (fun q => s.heap.size ≤ q) s.heap H locs) (hl : lv_has ls 8 [(5, .int (zi (6 * (kk : Int)))), (4, .ref (o2)), (3, .ref (o)), (2, .ref (m0)), (1, .ref (ad 0)), (0, .ref (b))]) (hcs : cells + 600 ≤ 601024 ∧ slots + 10960 ≤ 7293034)
    (kq : ∀ (u' : zS_) (H : Heap) (locs : List Loc) (ls : Array Slot) (cells' slots' : Nat), cells' ≤ cells + 600 → slots' ≤ slots + 10960 → zIn u' → zUn u' → zLw s D tc dz ad m0 aM o o2 u' H → va_S (fun q => s.heap.size ≤ q) s.heap H locs → lv_has ls 8 [(5, .int (zi (6 * (kk : Int)))), (4, .ref (o2)), (3, .ref (o)), (2, .ref (m0)), (1, .ref (ad 0)), (0, .ref (b))] → W p l e room_1 s m #[Value.ref b] below meth c H locs cells' slots' Q (F0 m 970 ls [])) : W p l e room_1 s m #[Value.ref b] below meth c H locs cells slots Q (F0 m 212 ls []) := by
  have hW := State.WarmedH.refl s
  have X : zH s (fun q => s.heap.size ≤ q) p s m c cL_law 8 RL := ⟨hx, hb, hml, hown, hW, ⟨Nat.le_refl _, fun _ _ => rfl⟩, fun q h => h, fun q h => h⟩
  have hT := hLA.1.1
  have hK := hLA.1.2.1
  have hbA : ¬ (fun q => s.heap.size ≤ q) b := fun z => absurd z (by show ¬ s.heap.size ≤ b; omega)
  have hc9 : 0 ≤ mcLend u a b_ ∧ mcLend u a b_ ≤ 3 := by unfold mcLend; omega
  have hI1 := hI.1
  refine lv_aload_n hx hb dL_law_212 rfl (lv_at hl 4 rfl) ?_
  refine lv_aload_n hx hb dL_law_213 rfl (lv_at hl 5 rfl) ?_
  refine lv_iload hx hb dL_law_214 (lv_at hl 0 rfl) ?_
  refine lv_iconst (v := zi (1)) hx hb dL_law_216 rfl ?_
  refine z_iadd (a := 6 * (kk : Int)) (b := 1) hx hb dL_law_217 ?_
  refine z_sld (i := (6 * (kk : Int) + 1)) (v := a) hx hb hX hbl hbA hS (by omega) (by rw [show ((6 * (kk : Int) + 1) : Int).toNat = 6 * kk + 1 by omega]; exact e1) dL_law_218 ?_
  refine lv_aload_n hx hb dL_law_219 rfl (lv_at hl 5 rfl) ?_
  refine lv_iload hx hb dL_law_220 (lv_at hl 0 rfl) ?_
  refine lv_iconst (v := zi (2)) hx hb dL_law_222 rfl ?_
  refine z_iadd (a := 6 * (kk : Int)) (b := 2) hx hb dL_law_223 ?_
  refine z_sld (i := (6 * (kk : Int) + 2)) (v := b_) hx hb hX hbl hbA hS (by omega) (by rw [show ((6 * (kk : Int) + 2) : Int).toNat = 6 * kk + 2 by omega]; exact e2) dL_law_224 ?_
  refine lv_aload_n hx hb dL_law_225 rfl (lv_at hl 2 rfl) ?_
  obtain ⟨hHC, hM, ⟨v1, hO⟩, ⟨v2, hO2⟩⟩ := hw
  have hsz := hS.1
  have hfr0 : ∀ q : Nat, H.size ≤ q → zBc s m0 aM o o2 q := zLw.fresh hsz ⟨hHC, hM, ⟨v1, hO⟩, ⟨v2, hO2⟩⟩
  refine z_invSH (n := 4) (B := (fun q => zBc s m0 aM o o2 q ∨ q = o)) (fun q h => h.elim (fun z => z.1) (fun z => by rw [z]; exact hLA.2.2.1.2.2.1)) (c_L_lend l hflags hLA.B hLA.2.1 (ad := ad) (u := ms u 25 0 0) (o := o) hLA.2.2.1.2.2.1 (fun z => z.2.2.2.1 rfl) (a := a) (b_ := b_) h0 (zIn_25 hI) hU) X hS (fun q h => Or.inl (hfr0 q h)) ⟨hHC.c25, ⟨v1, hO⟩, hfr0⟩ hl.1 (q_353 hT hW) (q_0 hT hW) (q_351 hT hW) (q_352 hT hW) (by decide +kernel) rfl ⟨Nat.le_of_ble_eq_true rfl, Nat.le_of_ble_eq_true rfl⟩ ⟨by show cells + 2 ≤ 601024; omega, by show slots + 12 ≤ 7293034; omega⟩ (Nat.le_of_ble_eq_true rfl) dL_law_226 (fun v H1 locs hv hfr hS => ?_) rfl
  have hv : v = some (.int (zi (mcLend u a b_))) ∧ (0 < mcLend u a b_ → zHC D tc dz (zBc s m0 aM o o2) ad (ms u 25 0 0) H1) ∧ (mcLend u a b_ = 0 → zHC D tc dz (zBc s m0 aM o o2) ad (ms (ms u 25 0 0) 2 a.toNat b_) H1) ∧ ∃ v : Int64, zOL D tc o v H1 ∧ (mcLend u a b_ = 0 → v = (zi (u 2 a.toNat)).toInt64) := hv
  obtain ⟨rfl, hc1, hc0, v3, hO3, hv3⟩ := hv
  have hM := mH.frame hM hfr (fun q hq _ hB => hB.elim (fun g => zBc_M g hq) (fun g => (zMm_not hLA).1 (by rw [← g]; exact hq)))
  have hO2 := hO2.frame hfr (fun z => z.elim (fun g => g.2.2.2.2 rfl) (fun g => hLA.2.2.2.1 g.symm))
  clear hHC hfr hfr0 hsz
  refine lv_istore (lv' := [(6, .int (zi (mcLend u a b_))), (5, .int (zi (6 * (kk : Int)))), (4, .ref (o2)), (3, .ref (o)), (2, .ref (m0)), (1, .ref (ad 0)), (0, .ref (b))]) hx hb dL_law_229 hl (by decide) rfl (fun ls hl => ?_)
  by_cases hcd : 0 < mcLend u a b_
  · skip
    have hHC : zHC D tc dz (zBc s m0 aM o o2) ad (ms u 25 0 (mcLend u a b_)) H1 := by
      have g := (hc1 hcd).c25 (x := mcLend u a b_)
      rw [ms_ms] at g
      exact g
    have hIu : zIn (ms u 25 0 (mcLend u a b_)) := zIn_25 hI
    have hUu : zUn (ms u 25 0 (mcLend u a b_)) := hU
    refine lv_aload_n hx hb dL_law_231 rfl (lv_at hl 4 rfl) ?_
    refine lv_aload_n hx hb dL_law_232 rfl (lv_at hl 6 rfl) ?_
    refine lv_iload hx hb dL_law_233 (lv_at hl 1 rfl) ?_
    refine lv_iconst (v := zi (1)) hx hb dL_law_235 rfl ?_
    refine z_iadd (a := 6 * (kk : Int)) (b := 1) hx hb dL_law_236 ?_
    refine z_sld (i := (6 * (kk : Int) + 1)) (v := a) hx hb hX hbl hbA hS (by omega) (by rw [show ((6 * (kk : Int) + 1) : Int).toNat = 6 * kk + 1 by omega]; exact e1) dL_law_237 ?_
    refine lv_aload_n hx hb dL_law_238 rfl (lv_at hl 6 rfl) ?_
    refine lv_iload hx hb dL_law_239 (lv_at hl 1 rfl) ?_
    refine lv_iconst (v := zi (2)) hx hb dL_law_241 rfl ?_
    refine z_iadd (a := 6 * (kk : Int)) (b := 2) hx hb dL_law_242 ?_
    refine z_sld (i := (6 * (kk : Int) + 2)) (v := b_) hx hb hX hbl hbA hS (by omega) (by rw [show ((6 * (kk : Int) + 2) : Int).toNat = 6 * kk + 2 by omega]; exact e2) dL_law_243 ?_
    have hsz := hS.1
    have hMw : mH D tc (fun q => zMm m0 aM q ∨ H1.size ≤ q) m0 aM u H1 := hM.mono (fun q _ h => Or.inl h)
    refine z_invVB (n := 2) (C := RX6) (B := (fun q => zMm m0 aM q ∨ H1.size ≤ q)) (fun q h => (hLA.M (H := H1) hsz).2.2.1 q h) (c_X6_lend l (hLA.M (H := H1) hsz) (a := a) (b_ := b_) h0 hI) X hS (fun q h => Or.inr h) hMw hl.1 (q_762 hT hW) (q_7 hT hW) (q_759 hT hW) (q_760 hT hW) (q_761 hT hW) (m_recv hK hMw) (by decide +kernel) rfl ⟨Nat.le_of_ble_eq_true rfl, Nat.le_of_ble_eq_true rfl⟩ ⟨by show cells + 2 + 0 ≤ 601024; omega, by show slots + 12 + 0 ≤ 7293034; omega⟩ (Nat.le_of_ble_eq_true rfl) dL_law_244 (fun v H2 locs hv hfr hS => ?_) rfl
    rw [if_pos hcd, if_pos hcd] at hv
    obtain ⟨rfl, hM⟩ := hv
    have hM := hM.restrict
    have hHC := hHC.frame hfr (fun q hB hq hm => hm.elim (zBc_M hB) (fun g => by omega))
    have hO3 := hO3.frame hfr (fun z => z.elim (zMm_not hLA).1 (fun g => by have := hO3.lt; omega))
    have hO2 := hO2.frame hfr (fun z => z.elim (zMm_not hLA).2 (fun g => by have := hO2.lt; omega))
    clear hfr hMw hsz
    refine lv_istore (lv' := [(7, .int (zi ((-1)))), (6, .int (zi (mcLend u a b_))), (5, .int (zi (6 * (kk : Int)))), (4, .ref (o2)), (3, .ref (o)), (2, .ref (m0)), (1, .ref (ad 0)), (0, .ref (b))]) hx hb dL_law_247 hl (by decide) rfl (fun ls hl => ?_)
    refine lv_aload_n hx hb dL_law_249 rfl (lv_at hl 5 rfl) ?_
    have hsz := hS.1
    have hMw : mH D tc (fun q => zMm m0 aM q ∨ H2.size ≤ q) m0 aM (ms u 25 0 (mcLend u a b_)) H2 := hM.mono (fun q _ h => Or.inl h)
    refine z_invVB (n := 0) (C := RX6) (B := (fun q => zMm m0 aM q ∨ H2.size ≤ q)) (fun q h => (hLA.M (H := H2) hsz).2.2.1 q h) (c_X6_thrown l (hLA.M (H := H2) hsz) (u := (ms u 25 0 (mcLend u a b_)))) X hS (fun q h => Or.inr h) hMw hl.1 (q_746 hT hW) (q_7 hT hW) (q_743 hT hW) (q_744 hT hW) (q_745 hT hW) (m_recv hK hMw) (by decide +kernel) rfl ⟨Nat.le_of_ble_eq_true rfl, Nat.le_of_ble_eq_true rfl⟩ ⟨by show cells + 2 + 0 + 0 ≤ 601024; omega, by show slots + 12 + 0 + 0 ≤ 7293034; omega⟩ (Nat.le_of_ble_eq_true rfl) dL_law_250 (fun v H3 locs hv hfr hS => ?_) rfl
    obtain ⟨rfl, hM⟩ := hv
    have hM := hM.restrict
    have hHC := hHC.frame hfr (fun q hB hq hm => hm.elim (zBc_M hB) (fun g => by omega))
    have hO3 := hO3.frame hfr (fun z => z.elim (zMm_not hLA).1 (fun g => by have := hO3.lt; omega))
    have hO2 := hO2.frame hfr (fun z => z.elim (zMm_not hLA).2 (fun g => by have := hO2.lt; omega))
    clear hfr hMw hsz
    obtain ⟨t25, ht25⟩ : ∃ t25 : Int, t25 = (ms u 25 0 (mcLend u a b_)) 25 0 := ⟨_, rfl⟩
    rw [← ht25]
    rw [ms_s] at ht25
    refine lv_iload hx hb dL_law_253 (lv_at hl 1 rfl) ?_
    refine z_icmp_eq (a := t25) (b := mcLend u a b_) (tgt := 260) hx hb dL_law_255 (by decide) (by omega) (fun h_255 => ?_) (fun h_255 => ?_)
    · skip
      refine lv_iload hx hb dL_law_260 (lv_at hl 1 rfl) ?_
      refine z_if_ne (a := mcLend u a b_) (tgt := 277) hx hb dL_law_262 (by decide) (by omega) (fun h_262 => ?_) (fun h_262 => ?_)
      · skip
        refine lv_goto (tgt := 970) hx hb dL_law_277 (by decide) ?_
        exact kq (ms u 25 0 (mcLend u a b_)) _ _ _ _ _ (by show cells + 2 + 0 + 0 ≤ cells + 600; omega) (by show slots + 12 + 0 + 0 ≤ slots + 10960; omega) hIu hUu ⟨hHC, hM, ⟨v3, hO3⟩, ⟨v2, hO2⟩⟩ hS (lv_sub hl [2, 3, 4, 5, 6, 7] rfl)
      · skip
        exact absurd h_262 (by omega)
    · skip
      exact absurd (by omega) h_255
  · skip
    have hcd9 : mcLend u a b_ = 0 := by omega
    have hHC := hc0 hcd9
    have hv4 := hv3 hcd9
    have hIu : zIn (ms (ms u 25 0 0) 2 a.toNat b_) := zIn_lend (zIn_25 hI) (by unfold mcLend at hcd9; omega)
    have hUu : zUn (ms (ms u 25 0 0) 2 a.toNat b_) := hU
    refine lv_aload_n hx hb dL_law_231 rfl (lv_at hl 4 rfl) ?_
    refine lv_aload_n hx hb dL_law_232 rfl (lv_at hl 6 rfl) ?_
    refine lv_iload hx hb dL_law_233 (lv_at hl 1 rfl) ?_
    refine lv_iconst (v := zi (1)) hx hb dL_law_235 rfl ?_
    refine z_iadd (a := 6 * (kk : Int)) (b := 1) hx hb dL_law_236 ?_
    refine z_sld (i := (6 * (kk : Int) + 1)) (v := a) hx hb hX hbl hbA hS (by omega) (by rw [show ((6 * (kk : Int) + 1) : Int).toNat = 6 * kk + 1 by omega]; exact e1) dL_law_237 ?_
    refine lv_aload_n hx hb dL_law_238 rfl (lv_at hl 6 rfl) ?_
    refine lv_iload hx hb dL_law_239 (lv_at hl 1 rfl) ?_
    refine lv_iconst (v := zi (2)) hx hb dL_law_241 rfl ?_
    refine z_iadd (a := 6 * (kk : Int)) (b := 2) hx hb dL_law_242 ?_
    refine z_sld (i := (6 * (kk : Int) + 2)) (v := b_) hx hb hX hbl hbA hS (by omega) (by rw [show ((6 * (kk : Int) + 2) : Int).toNat = 6 * kk + 2 by omega]; exact e2) dL_law_243 ?_
    have hsz := hS.1
    have hMw : mH D tc (fun q => zMm m0 aM q ∨ H1.size ≤ q) m0 aM u H1 := hM.mono (fun q _ h => Or.inl h)
    refine z_invVB (n := 2) (C := RX6) (B := (fun q => zMm m0 aM q ∨ H1.size ≤ q)) (fun q h => (hLA.M (H := H1) hsz).2.2.1 q h) (c_X6_lend l (hLA.M (H := H1) hsz) (a := a) (b_ := b_) h0 hI) X hS (fun q h => Or.inr h) hMw hl.1 (q_762 hT hW) (q_7 hT hW) (q_759 hT hW) (q_760 hT hW) (q_761 hT hW) (m_recv hK hMw) (by decide +kernel) rfl ⟨Nat.le_of_ble_eq_true rfl, Nat.le_of_ble_eq_true rfl⟩ ⟨by show cells + 2 + 0 ≤ 601024; omega, by show slots + 12 + 0 ≤ 7293034; omega⟩ (Nat.le_of_ble_eq_true rfl) dL_law_244 (fun v H2 locs hv hfr hS => ?_) rfl
    rw [if_neg hcd, if_neg hcd] at hv
    obtain ⟨rfl, hM⟩ := hv
    have hM := hM.restrict
    have hHC := hHC.frame hfr (fun q hB hq hm => hm.elim (zBc_M hB) (fun g => by omega))
    have hO3 := hO3.frame hfr (fun z => z.elim (zMm_not hLA).1 (fun g => by have := hO3.lt; omega))
    have hO2 := hO2.frame hfr (fun z => z.elim (zMm_not hLA).2 (fun g => by have := hO2.lt; omega))
    clear hfr hMw hsz
    refine lv_istore (lv' := [(7, .int (zi ((u 2 a.toNat)))), (6, .int (zi (mcLend u a b_))), (5, .int (zi (6 * (kk : Int)))), (4, .ref (o2)), (3, .ref (o)), (2, .ref (m0)), (1, .ref (ad 0)), (0, .ref (b))]) hx hb dL_law_247 hl (by decide) rfl (fun ls hl => ?_)
    refine lv_aload_n hx hb dL_law_249 rfl (lv_at hl 5 rfl) ?_
    have hsz := hS.1
    have hMw : mH D tc (fun q => zMm m0 aM q ∨ H2.size ≤ q) m0 aM (ms (ms u 25 0 0) 2 a.toNat b_) H2 := hM.mono (fun q _ h => Or.inl h)
    refine z_invVB (n := 0) (C := RX6) (B := (fun q => zMm m0 aM q ∨ H2.size ≤ q)) (fun q h => (hLA.M (H := H2) hsz).2.2.1 q h) (c_X6_thrown l (hLA.M (H := H2) hsz) (u := (ms (ms u 25 0 0) 2 a.toNat b_))) X hS (fun q h => Or.inr h) hMw hl.1 (q_746 hT hW) (q_7 hT hW) (q_743 hT hW) (q_744 hT hW) (q_745 hT hW) (m_recv hK hMw) (by decide +kernel) rfl ⟨Nat.le_of_ble_eq_true rfl, Nat.le_of_ble_eq_true rfl⟩ ⟨by show cells + 2 + 0 + 0 ≤ 601024; omega, by show slots + 12 + 0 + 0 ≤ 7293034; omega⟩ (Nat.le_of_ble_eq_true rfl) dL_law_250 (fun v H3 locs hv hfr hS => ?_) rfl
    obtain ⟨rfl, hM⟩ := hv
    have hM := hM.restrict
    have hHC := hHC.frame hfr (fun q hB hq hm => hm.elim (zBc_M hB) (fun g => by omega))
    have hO3 := hO3.frame hfr (fun z => z.elim (zMm_not hLA).1 (fun g => by have := hO3.lt; omega))
    have hO2 := hO2.frame hfr (fun z => z.elim (zMm_not hLA).2 (fun g => by have := hO2.lt; omega))
    clear hfr hMw hsz
    obtain ⟨t25, ht25⟩ : ∃ t25 : Int, t25 = (ms (ms u 25 0 0) 2 a.toNat b_) 25 0 := ⟨_, rfl⟩
    rw [← ht25]
    have h25 : (ms (ms u 25 0 0) 2 a.toNat b_) 25 0 = 0 := by rfl
    rw [h25] at ht25
    refine lv_iload hx hb dL_law_253 (lv_at hl 1 rfl) ?_
    refine z_icmp_eq (a := t25) (b := mcLend u a b_) (tgt := 260) hx hb dL_law_255 (by decide) (by omega) (fun h_255 => ?_) (fun h_255 => ?_)
    · skip
      refine lv_iload hx hb dL_law_260 (lv_at hl 1 rfl) ?_
      refine z_if_ne (a := mcLend u a b_) (tgt := 277) hx hb dL_law_262 (by decide) (by omega) (fun h_262 => ?_) (fun h_262 => ?_)
      · skip
        exact absurd h_262 (by omega)
      · skip
        refine lv_aload_n hx hb dL_law_265 rfl (lv_at hl 4 rfl) ?_
        refine lv_iconst (v := zi (0)) hx hb dL_law_266 rfl ?_
        obtain ⟨f9, hf9, hR9⟩ := hO3
        refine z_lald (i := 0) hx hb hK hR9 2 zu_eq rfl (by omega) dL_law_267 ?_
        rw [show f9 (0 : Int).toNat = (zi (u 2 a.toNat)).toInt64 from hf9.trans hv4]
        have hO3 : zOL D tc o v3 H3 := ⟨f9, hf9, hR9⟩
        refine lv_iload hx hb dL_law_268 (lv_at hl 0 rfl) ?_
        refine lv_i2l hx hb dL_law_270 rfl ?_
        refine z_lcmp0 hx hb dL_law_271 ?_
        refine z_if_eq (a := 0) (tgt := 277) hx hb dL_law_272 (by decide) (by omega) (fun h_272 => ?_) (fun h_272 => ?_)
        · skip
          refine lv_goto (tgt := 970) hx hb dL_law_277 (by decide) ?_
          exact kq (ms (ms u 25 0 0) 2 a.toNat b_) _ _ _ _ _ (by show cells + 2 + 0 + 0 ≤ cells + 600; omega) (by show slots + 12 + 0 + 0 ≤ slots + 10960; omega) hIu hUu ⟨hHC, hM, ⟨v3, hO3⟩, ⟨v2, hO2⟩⟩ hS (lv_sub hl [2, 3, 4, 5, 6, 7] rfl)
        · skip
          exact absurd rfl h_272
    · skip
      exact absurd (by omega) h_255
set_option maxHeartbeats 4000000 in
set_option maxRecDepth 100000 in
theorem t_foretell {p : Program} {l : Launch} {e : Env} {s : State} {m : MethodId} {below : List Frame} {meth : Method} {c : Code} {Q : State → Prop} {b L : Nat} {xs : Nat → Int32} {D : va_G} {tc : Nat → ClassId} {dz m0 : Nat} {aM : Nat → Nat} {o o2 : Nat} {ad : Nat → Nat} {u : zS_} {H : Heap} {locs : List Loc} {ls : Array Slot} {cells slots : Nat} (hflags : l.stackTraces = false) (hx : p.tables.exec = Jvm.exec) (hb : c.code = cL_law) (hml : c.maxLocals = 8) (hown : s.vm.findClass RL = some m.cls) (hX : va_X b L xs s s.heap) (hbl : b < s.heap.size) (hL : L ≤ 3072) (hLA : zLA s D tc dz m0 aM o o2) (hI : zIn u) (hU : zUn u) {kk : Nat} (hkk : 6 * kk + 6 ≤ L) {f t a z st : Int} (h0 : -2147483648 ≤ f ∧ f ≤ 2147483647 ∧ -2147483648 ≤ t ∧ t ≤ 2147483647 ∧ -2147483648 ≤ a ∧ a ≤ 2147483647 ∧ -2147483648 ≤ z ∧ z ≤ 2147483647 ∧ -2147483648 ≤ st ∧ st ≤ 2147483647) (e1 : xs (6 * kk + 1) = zi f) (e2 : xs (6 * kk + 2) = zi t) (e3 : xs (6 * kk + 3) = zi a) (e4 : xs (6 * kk + 4) = zi z) (e5 : xs (6 * kk + 5) = zi st)
    (hw : zLw s D tc dz ad m0 aM o o2 u H) (hS : va_S (fun q => s.heap.size ≤ q) s.heap H locs) (hl : lv_has ls 8 [(5, .int (zi (6 * (kk : Int)))), (4, .ref (o2)), (3, .ref (o)), (2, .ref (m0)), (1, .ref (ad 0)), (0, .ref (b))]) (hcs : cells + 600 ≤ 601024 ∧ slots + 10960 ≤ 7293034)
    (kq : ∀ (u' : zS_) (H : Heap) (locs : List Loc) (ls : Array Slot) (cells' slots' : Nat), cells' ≤ cells + 600 → slots' ≤ slots + 10960 → zIn u' → zUn u' → zLw s D tc dz ad m0 aM o o2 u' H → va_S (fun q => s.heap.size ≤ q) s.heap H locs → lv_has ls 8 [(5, .int (zi (6 * (kk : Int)))), (4, .ref (o2)), (3, .ref (o)), (2, .ref (m0)), (1, .ref (ad 0)), (0, .ref (b))] → W p l e room_1 s m #[Value.ref b] below meth c H locs cells' slots' Q (F0 m 970 ls [])) : W p l e room_1 s m #[Value.ref b] below meth c H locs cells slots Q (F0 m 280 ls []) := by
  have hW := State.WarmedH.refl s
  have X : zH s (fun q => s.heap.size ≤ q) p s m c cL_law 8 RL := ⟨hx, hb, hml, hown, hW, ⟨Nat.le_refl _, fun _ _ => rfl⟩, fun q h => h, fun q h => h⟩
  have hT := hLA.1.1
  have hK := hLA.1.2.1
  have hbA : ¬ (fun q => s.heap.size ≤ q) b := fun z => absurd z (by show ¬ s.heap.size ≤ b; omega)
  have hc9 : 0 ≤ mcFore u f t a z st ∧ mcFore u f t a z st ≤ 3 := by unfold mcFore; omega
  have hI1 := hI.1
  refine lv_aload_n hx hb dL_law_280 rfl (lv_at hl 4 rfl) ?_
  refine lv_aload_n hx hb dL_law_281 rfl (lv_at hl 5 rfl) ?_
  refine lv_iload hx hb dL_law_282 (lv_at hl 0 rfl) ?_
  refine lv_iconst (v := zi (1)) hx hb dL_law_284 rfl ?_
  refine z_iadd (a := 6 * (kk : Int)) (b := 1) hx hb dL_law_285 ?_
  refine z_sld (i := (6 * (kk : Int) + 1)) (v := f) hx hb hX hbl hbA hS (by omega) (by rw [show ((6 * (kk : Int) + 1) : Int).toNat = 6 * kk + 1 by omega]; exact e1) dL_law_286 ?_
  refine lv_aload_n hx hb dL_law_287 rfl (lv_at hl 5 rfl) ?_
  refine lv_iload hx hb dL_law_288 (lv_at hl 0 rfl) ?_
  refine lv_iconst (v := zi (2)) hx hb dL_law_290 rfl ?_
  refine z_iadd (a := 6 * (kk : Int)) (b := 2) hx hb dL_law_291 ?_
  refine z_sld (i := (6 * (kk : Int) + 2)) (v := t) hx hb hX hbl hbA hS (by omega) (by rw [show ((6 * (kk : Int) + 2) : Int).toNat = 6 * kk + 2 by omega]; exact e2) dL_law_292 ?_
  refine lv_aload_n hx hb dL_law_293 rfl (lv_at hl 5 rfl) ?_
  refine lv_iload hx hb dL_law_294 (lv_at hl 0 rfl) ?_
  refine lv_iconst (v := zi (3)) hx hb dL_law_296 rfl ?_
  refine z_iadd (a := 6 * (kk : Int)) (b := 3) hx hb dL_law_297 ?_
  refine z_sld (i := (6 * (kk : Int) + 3)) (v := a) hx hb hX hbl hbA hS (by omega) (by rw [show ((6 * (kk : Int) + 3) : Int).toNat = 6 * kk + 3 by omega]; exact e3) dL_law_298 ?_
  refine lv_aload_n hx hb dL_law_299 rfl (lv_at hl 5 rfl) ?_
  refine lv_iload hx hb dL_law_300 (lv_at hl 0 rfl) ?_
  refine lv_iconst (v := zi (4)) hx hb dL_law_302 rfl ?_
  refine z_iadd (a := 6 * (kk : Int)) (b := 4) hx hb dL_law_303 ?_
  refine z_sld (i := (6 * (kk : Int) + 4)) (v := z) hx hb hX hbl hbA hS (by omega) (by rw [show ((6 * (kk : Int) + 4) : Int).toNat = 6 * kk + 4 by omega]; exact e4) dL_law_304 ?_
  refine lv_aload_n hx hb dL_law_305 rfl (lv_at hl 5 rfl) ?_
  refine lv_iload hx hb dL_law_306 (lv_at hl 0 rfl) ?_
  refine lv_iconst (v := zi (5)) hx hb dL_law_308 rfl ?_
  refine z_iadd (a := 6 * (kk : Int)) (b := 5) hx hb dL_law_309 ?_
  refine z_sld (i := (6 * (kk : Int) + 5)) (v := st) hx hb hX hbl hbA hS (by omega) (by rw [show ((6 * (kk : Int) + 5) : Int).toNat = 6 * kk + 5 by omega]; exact e5) dL_law_310 ?_
  refine lv_aload_n hx hb dL_law_311 rfl (lv_at hl 2 rfl) ?_
  obtain ⟨hHC, hM, ⟨v1, hO⟩, ⟨v2, hO2⟩⟩ := hw
  have hsz := hS.1
  have hfr0 : ∀ q : Nat, H.size ≤ q → zBc s m0 aM o o2 q := zLw.fresh hsz ⟨hHC, hM, ⟨v1, hO⟩, ⟨v2, hO2⟩⟩
  refine z_invSH (n := 7) (B := (fun q => zBc s m0 aM o o2 q ∨ q = o)) (fun q h => h.elim (fun z => z.1) (fun z => by rw [z]; exact hLA.2.2.1.2.2.1)) (c_L_foretell l hflags hLA.B hLA.2.1 (ad := ad) (u := ms u 25 0 0) (o := o) hLA.2.2.1.2.2.1 (fun z => z.2.2.2.1 rfl) (f := f) (t := t) (a := a) (z := z) (st := st) h0 (zIn_25 hI) hU) X hS (fun q h => Or.inl (hfr0 q h)) ⟨hHC.c25, ⟨v1, hO⟩, hfr0⟩ hl.1 (q_384 hT hW) (q_0 hT hW) (q_382 hT hW) (q_383 hT hW) (by decide +kernel) rfl ⟨Nat.le_of_ble_eq_true rfl, Nat.le_of_ble_eq_true rfl⟩ ⟨by show cells + 6 ≤ 601024; omega, by show slots + 36 ≤ 7293034; omega⟩ (Nat.le_of_ble_eq_true rfl) dL_law_312 (fun v H1 locs hv hfr hS => ?_) rfl
  have hv : v = some (.int (zi (mcFore u f t a z st))) ∧ (0 < mcFore u f t a z st → zHC D tc dz (zBc s m0 aM o o2) ad (ms u 25 0 0) H1) ∧ (mcFore u f t a z st = 0 → zHC D tc dz (zBc s m0 aM o o2) ad (muFore (ms u 25 0 0) f t a z st) H1) ∧ ∃ v : Int64, zOL D tc o v H1 ∧ (mcFore u f t a z st = 0 → v = (zi ((t % 8 - f % 8 + 1) * (t / 8 - f / 8 + 1))).toInt64) := hv
  obtain ⟨rfl, hc1, hc0, v3, hO3, hv3⟩ := hv
  have hM := mH.frame hM hfr (fun q hq _ hB => hB.elim (fun g => zBc_M g hq) (fun g => (zMm_not hLA).1 (by rw [← g]; exact hq)))
  have hO2 := hO2.frame hfr (fun z => z.elim (fun g => g.2.2.2.2 rfl) (fun g => hLA.2.2.2.1 g.symm))
  clear hHC hfr hfr0 hsz
  refine lv_istore (lv' := [(6, .int (zi (mcFore u f t a z st))), (5, .int (zi (6 * (kk : Int)))), (4, .ref (o2)), (3, .ref (o)), (2, .ref (m0)), (1, .ref (ad 0)), (0, .ref (b))]) hx hb dL_law_315 hl (by decide) rfl (fun ls hl => ?_)
  by_cases hcd : 0 < mcFore u f t a z st
  · skip
    have hHC : zHC D tc dz (zBc s m0 aM o o2) ad (ms u 25 0 (mcFore u f t a z st)) H1 := by
      have g := (hc1 hcd).c25 (x := mcFore u f t a z st)
      rw [ms_ms] at g
      exact g
    have hIu : zIn (ms u 25 0 (mcFore u f t a z st)) := zIn_25 hI
    have hUu : zUn (ms u 25 0 (mcFore u f t a z st)) := hU
    refine lv_aload_n hx hb dL_law_317 rfl (lv_at hl 4 rfl) ?_
    refine lv_aload_n hx hb dL_law_318 rfl (lv_at hl 6 rfl) ?_
    refine lv_iload hx hb dL_law_319 (lv_at hl 1 rfl) ?_
    refine lv_iconst (v := zi (1)) hx hb dL_law_321 rfl ?_
    refine z_iadd (a := 6 * (kk : Int)) (b := 1) hx hb dL_law_322 ?_
    refine z_sld (i := (6 * (kk : Int) + 1)) (v := f) hx hb hX hbl hbA hS (by omega) (by rw [show ((6 * (kk : Int) + 1) : Int).toNat = 6 * kk + 1 by omega]; exact e1) dL_law_323 ?_
    refine lv_aload_n hx hb dL_law_324 rfl (lv_at hl 6 rfl) ?_
    refine lv_iload hx hb dL_law_325 (lv_at hl 1 rfl) ?_
    refine lv_iconst (v := zi (2)) hx hb dL_law_327 rfl ?_
    refine z_iadd (a := 6 * (kk : Int)) (b := 2) hx hb dL_law_328 ?_
    refine z_sld (i := (6 * (kk : Int) + 2)) (v := t) hx hb hX hbl hbA hS (by omega) (by rw [show ((6 * (kk : Int) + 2) : Int).toNat = 6 * kk + 2 by omega]; exact e2) dL_law_329 ?_
    refine lv_aload_n hx hb dL_law_330 rfl (lv_at hl 6 rfl) ?_
    refine lv_iload hx hb dL_law_331 (lv_at hl 1 rfl) ?_
    refine lv_iconst (v := zi (3)) hx hb dL_law_333 rfl ?_
    refine z_iadd (a := 6 * (kk : Int)) (b := 3) hx hb dL_law_334 ?_
    refine z_sld (i := (6 * (kk : Int) + 3)) (v := a) hx hb hX hbl hbA hS (by omega) (by rw [show ((6 * (kk : Int) + 3) : Int).toNat = 6 * kk + 3 by omega]; exact e3) dL_law_335 ?_
    refine lv_aload_n hx hb dL_law_336 rfl (lv_at hl 6 rfl) ?_
    refine lv_iload hx hb dL_law_337 (lv_at hl 1 rfl) ?_
    refine lv_iconst (v := zi (4)) hx hb dL_law_339 rfl ?_
    refine z_iadd (a := 6 * (kk : Int)) (b := 4) hx hb dL_law_340 ?_
    refine z_sld (i := (6 * (kk : Int) + 4)) (v := z) hx hb hX hbl hbA hS (by omega) (by rw [show ((6 * (kk : Int) + 4) : Int).toNat = 6 * kk + 4 by omega]; exact e4) dL_law_341 ?_
    refine lv_aload_n hx hb dL_law_342 rfl (lv_at hl 6 rfl) ?_
    refine lv_iload hx hb dL_law_343 (lv_at hl 1 rfl) ?_
    refine lv_iconst (v := zi (5)) hx hb dL_law_345 rfl ?_
    refine z_iadd (a := 6 * (kk : Int)) (b := 5) hx hb dL_law_346 ?_
    refine z_sld (i := (6 * (kk : Int) + 5)) (v := st) hx hb hX hbl hbA hS (by omega) (by rw [show ((6 * (kk : Int) + 5) : Int).toNat = 6 * kk + 5 by omega]; exact e5) dL_law_347 ?_
    have hsz := hS.1
    have hMw : mH D tc (fun q => zMm m0 aM q ∨ H1.size ≤ q) m0 aM u H1 := hM.mono (fun q _ h => Or.inl h)
    refine z_invVB (n := 5) (C := RX6) (B := (fun q => zMm m0 aM q ∨ H1.size ≤ q)) (fun q h => (hLA.M (H := H1) hsz).2.2.1 q h) (c_X6_foretell l (hLA.M (H := H1) hsz) (f := f) (t := t) (a := a) (z := z) (st := st) h0 hI) X hS (fun q h => Or.inr h) hMw hl.1 (q_770 hT hW) (q_7 hT hW) (q_767 hT hW) (q_768 hT hW) (q_769 hT hW) (m_recv hK hMw) (by decide +kernel) rfl ⟨Nat.le_of_ble_eq_true rfl, Nat.le_of_ble_eq_true rfl⟩ ⟨by show cells + 6 + 0 ≤ 601024; omega, by show slots + 36 + 0 ≤ 7293034; omega⟩ (Nat.le_of_ble_eq_true rfl) dL_law_348 (fun v H2 locs hv hfr hS => ?_) rfl
    rw [if_pos hcd, if_pos hcd] at hv
    obtain ⟨rfl, hM⟩ := hv
    have hM := hM.restrict
    have hHC := hHC.frame hfr (fun q hB hq hm => hm.elim (zBc_M hB) (fun g => by omega))
    have hO3 := hO3.frame hfr (fun z => z.elim (zMm_not hLA).1 (fun g => by have := hO3.lt; omega))
    have hO2 := hO2.frame hfr (fun z => z.elim (zMm_not hLA).2 (fun g => by have := hO2.lt; omega))
    clear hfr hMw hsz
    refine lv_istore (lv' := [(7, .int (zi ((-1)))), (6, .int (zi (mcFore u f t a z st))), (5, .int (zi (6 * (kk : Int)))), (4, .ref (o2)), (3, .ref (o)), (2, .ref (m0)), (1, .ref (ad 0)), (0, .ref (b))]) hx hb dL_law_351 hl (by decide) rfl (fun ls hl => ?_)
    refine lv_aload_n hx hb dL_law_353 rfl (lv_at hl 5 rfl) ?_
    have hsz := hS.1
    have hMw : mH D tc (fun q => zMm m0 aM q ∨ H2.size ≤ q) m0 aM (ms u 25 0 (mcFore u f t a z st)) H2 := hM.mono (fun q _ h => Or.inl h)
    refine z_invVB (n := 0) (C := RX6) (B := (fun q => zMm m0 aM q ∨ H2.size ≤ q)) (fun q h => (hLA.M (H := H2) hsz).2.2.1 q h) (c_X6_thrown l (hLA.M (H := H2) hsz) (u := (ms u 25 0 (mcFore u f t a z st)))) X hS (fun q h => Or.inr h) hMw hl.1 (q_746 hT hW) (q_7 hT hW) (q_743 hT hW) (q_744 hT hW) (q_745 hT hW) (m_recv hK hMw) (by decide +kernel) rfl ⟨Nat.le_of_ble_eq_true rfl, Nat.le_of_ble_eq_true rfl⟩ ⟨by show cells + 6 + 0 + 0 ≤ 601024; omega, by show slots + 36 + 0 + 0 ≤ 7293034; omega⟩ (Nat.le_of_ble_eq_true rfl) dL_law_354 (fun v H3 locs hv hfr hS => ?_) rfl
    obtain ⟨rfl, hM⟩ := hv
    have hM := hM.restrict
    have hHC := hHC.frame hfr (fun q hB hq hm => hm.elim (zBc_M hB) (fun g => by omega))
    have hO3 := hO3.frame hfr (fun z => z.elim (zMm_not hLA).1 (fun g => by have := hO3.lt; omega))
    have hO2 := hO2.frame hfr (fun z => z.elim (zMm_not hLA).2 (fun g => by have := hO2.lt; omega))
    clear hfr hMw hsz
    obtain ⟨t25, ht25⟩ : ∃ t25 : Int, t25 = (ms u 25 0 (mcFore u f t a z st)) 25 0 := ⟨_, rfl⟩
    rw [← ht25]
    rw [ms_s] at ht25
    refine lv_iload hx hb dL_law_357 (lv_at hl 1 rfl) ?_
    refine z_icmp_eq (a := t25) (b := mcFore u f t a z st) (tgt := 364) hx hb dL_law_359 (by decide) (by omega) (fun h_359 => ?_) (fun h_359 => ?_)
    · skip
      refine lv_iload hx hb dL_law_364 (lv_at hl 1 rfl) ?_
      refine z_if_ne (a := mcFore u f t a z st) (tgt := 381) hx hb dL_law_366 (by decide) (by omega) (fun h_366 => ?_) (fun h_366 => ?_)
      · skip
        refine lv_goto (tgt := 970) hx hb dL_law_381 (by decide) ?_
        exact kq (ms u 25 0 (mcFore u f t a z st)) _ _ _ _ _ (by show cells + 6 + 0 + 0 ≤ cells + 600; omega) (by show slots + 36 + 0 + 0 ≤ slots + 10960; omega) hIu hUu ⟨hHC, hM, ⟨v3, hO3⟩, ⟨v2, hO2⟩⟩ hS (lv_sub hl [2, 3, 4, 5, 6, 7] rfl)
      · skip
        exact absurd h_366 (by omega)
    · skip
      exact absurd (by omega) h_359
  · skip
    have hcd9 : mcFore u f t a z st = 0 := by omega
    have hHC := hc0 hcd9
    have hv4 := hv3 hcd9
    have hIu : zIn (muFore (ms u 25 0 0) f t a z st) := zIn_fore (zIn_25 hI) (by unfold mcFore at hcd9; omega)
    have hUu : zUn (muFore (ms u 25 0 0) f t a z st) := zUn_fore hU
    refine lv_aload_n hx hb dL_law_317 rfl (lv_at hl 4 rfl) ?_
    refine lv_aload_n hx hb dL_law_318 rfl (lv_at hl 6 rfl) ?_
    refine lv_iload hx hb dL_law_319 (lv_at hl 1 rfl) ?_
    refine lv_iconst (v := zi (1)) hx hb dL_law_321 rfl ?_
    refine z_iadd (a := 6 * (kk : Int)) (b := 1) hx hb dL_law_322 ?_
    refine z_sld (i := (6 * (kk : Int) + 1)) (v := f) hx hb hX hbl hbA hS (by omega) (by rw [show ((6 * (kk : Int) + 1) : Int).toNat = 6 * kk + 1 by omega]; exact e1) dL_law_323 ?_
    refine lv_aload_n hx hb dL_law_324 rfl (lv_at hl 6 rfl) ?_
    refine lv_iload hx hb dL_law_325 (lv_at hl 1 rfl) ?_
    refine lv_iconst (v := zi (2)) hx hb dL_law_327 rfl ?_
    refine z_iadd (a := 6 * (kk : Int)) (b := 2) hx hb dL_law_328 ?_
    refine z_sld (i := (6 * (kk : Int) + 2)) (v := t) hx hb hX hbl hbA hS (by omega) (by rw [show ((6 * (kk : Int) + 2) : Int).toNat = 6 * kk + 2 by omega]; exact e2) dL_law_329 ?_
    refine lv_aload_n hx hb dL_law_330 rfl (lv_at hl 6 rfl) ?_
    refine lv_iload hx hb dL_law_331 (lv_at hl 1 rfl) ?_
    refine lv_iconst (v := zi (3)) hx hb dL_law_333 rfl ?_
    refine z_iadd (a := 6 * (kk : Int)) (b := 3) hx hb dL_law_334 ?_
    refine z_sld (i := (6 * (kk : Int) + 3)) (v := a) hx hb hX hbl hbA hS (by omega) (by rw [show ((6 * (kk : Int) + 3) : Int).toNat = 6 * kk + 3 by omega]; exact e3) dL_law_335 ?_
    refine lv_aload_n hx hb dL_law_336 rfl (lv_at hl 6 rfl) ?_
    refine lv_iload hx hb dL_law_337 (lv_at hl 1 rfl) ?_
    refine lv_iconst (v := zi (4)) hx hb dL_law_339 rfl ?_
    refine z_iadd (a := 6 * (kk : Int)) (b := 4) hx hb dL_law_340 ?_
    refine z_sld (i := (6 * (kk : Int) + 4)) (v := z) hx hb hX hbl hbA hS (by omega) (by rw [show ((6 * (kk : Int) + 4) : Int).toNat = 6 * kk + 4 by omega]; exact e4) dL_law_341 ?_
    refine lv_aload_n hx hb dL_law_342 rfl (lv_at hl 6 rfl) ?_
    refine lv_iload hx hb dL_law_343 (lv_at hl 1 rfl) ?_
    refine lv_iconst (v := zi (5)) hx hb dL_law_345 rfl ?_
    refine z_iadd (a := 6 * (kk : Int)) (b := 5) hx hb dL_law_346 ?_
    refine z_sld (i := (6 * (kk : Int) + 5)) (v := st) hx hb hX hbl hbA hS (by omega) (by rw [show ((6 * (kk : Int) + 5) : Int).toNat = 6 * kk + 5 by omega]; exact e5) dL_law_347 ?_
    have hsz := hS.1
    have hMw : mH D tc (fun q => zMm m0 aM q ∨ H1.size ≤ q) m0 aM u H1 := hM.mono (fun q _ h => Or.inl h)
    refine z_invVB (n := 5) (C := RX6) (B := (fun q => zMm m0 aM q ∨ H1.size ≤ q)) (fun q h => (hLA.M (H := H1) hsz).2.2.1 q h) (c_X6_foretell l (hLA.M (H := H1) hsz) (f := f) (t := t) (a := a) (z := z) (st := st) h0 hI) X hS (fun q h => Or.inr h) hMw hl.1 (q_770 hT hW) (q_7 hT hW) (q_767 hT hW) (q_768 hT hW) (q_769 hT hW) (m_recv hK hMw) (by decide +kernel) rfl ⟨Nat.le_of_ble_eq_true rfl, Nat.le_of_ble_eq_true rfl⟩ ⟨by show cells + 6 + 0 ≤ 601024; omega, by show slots + 36 + 0 ≤ 7293034; omega⟩ (Nat.le_of_ble_eq_true rfl) dL_law_348 (fun v H2 locs hv hfr hS => ?_) rfl
    rw [if_neg hcd, if_neg hcd] at hv
    obtain ⟨rfl, hM⟩ := hv
    have hM := hM.restrict
    have hHC := hHC.frame hfr (fun q hB hq hm => hm.elim (zBc_M hB) (fun g => by omega))
    have hO3 := hO3.frame hfr (fun z => z.elim (zMm_not hLA).1 (fun g => by have := hO3.lt; omega))
    have hO2 := hO2.frame hfr (fun z => z.elim (zMm_not hLA).2 (fun g => by have := hO2.lt; omega))
    clear hfr hMw hsz
    refine lv_istore (lv' := [(7, .int (zi (((t % 8 - f % 8 + 1) * (t / 8 - f / 8 + 1))))), (6, .int (zi (mcFore u f t a z st))), (5, .int (zi (6 * (kk : Int)))), (4, .ref (o2)), (3, .ref (o)), (2, .ref (m0)), (1, .ref (ad 0)), (0, .ref (b))]) hx hb dL_law_351 hl (by decide) rfl (fun ls hl => ?_)
    refine lv_aload_n hx hb dL_law_353 rfl (lv_at hl 5 rfl) ?_
    have hsz := hS.1
    have hMw : mH D tc (fun q => zMm m0 aM q ∨ H2.size ≤ q) m0 aM (muFore (ms u 25 0 0) f t a z st) H2 := hM.mono (fun q _ h => Or.inl h)
    refine z_invVB (n := 0) (C := RX6) (B := (fun q => zMm m0 aM q ∨ H2.size ≤ q)) (fun q h => (hLA.M (H := H2) hsz).2.2.1 q h) (c_X6_thrown l (hLA.M (H := H2) hsz) (u := (muFore (ms u 25 0 0) f t a z st))) X hS (fun q h => Or.inr h) hMw hl.1 (q_746 hT hW) (q_7 hT hW) (q_743 hT hW) (q_744 hT hW) (q_745 hT hW) (m_recv hK hMw) (by decide +kernel) rfl ⟨Nat.le_of_ble_eq_true rfl, Nat.le_of_ble_eq_true rfl⟩ ⟨by show cells + 6 + 0 + 0 ≤ 601024; omega, by show slots + 36 + 0 + 0 ≤ 7293034; omega⟩ (Nat.le_of_ble_eq_true rfl) dL_law_354 (fun v H3 locs hv hfr hS => ?_) rfl
    obtain ⟨rfl, hM⟩ := hv
    have hM := hM.restrict
    have hHC := hHC.frame hfr (fun q hB hq hm => hm.elim (zBc_M hB) (fun g => by omega))
    have hO3 := hO3.frame hfr (fun z => z.elim (zMm_not hLA).1 (fun g => by have := hO3.lt; omega))
    have hO2 := hO2.frame hfr (fun z => z.elim (zMm_not hLA).2 (fun g => by have := hO2.lt; omega))
    clear hfr hMw hsz
    obtain ⟨t25, ht25⟩ : ∃ t25 : Int, t25 = (muFore (ms u 25 0 0) f t a z st) 25 0 := ⟨_, rfl⟩
    rw [← ht25]
    have h25 : (muFore (ms u 25 0 0) f t a z st) 25 0 = 0 := by exact (mfo_k (by decide)).trans rfl
    rw [h25] at ht25
    refine lv_iload hx hb dL_law_357 (lv_at hl 1 rfl) ?_
    refine z_icmp_eq (a := t25) (b := mcFore u f t a z st) (tgt := 364) hx hb dL_law_359 (by decide) (by omega) (fun h_359 => ?_) (fun h_359 => ?_)
    · skip
      refine lv_iload hx hb dL_law_364 (lv_at hl 1 rfl) ?_
      refine z_if_ne (a := mcFore u f t a z st) (tgt := 381) hx hb dL_law_366 (by decide) (by omega) (fun h_366 => ?_) (fun h_366 => ?_)
      · skip
        exact absurd h_366 (by omega)
      · skip
        refine lv_aload_n hx hb dL_law_369 rfl (lv_at hl 4 rfl) ?_
        refine lv_iconst (v := zi (0)) hx hb dL_law_370 rfl ?_
        obtain ⟨f9, hf9, hR9⟩ := hO3
        refine z_lald (i := 0) hx hb hK hR9 2 zu_eq rfl (by omega) dL_law_371 ?_
        rw [show f9 (0 : Int).toNat = (zi ((t % 8 - f % 8 + 1) * (t / 8 - f / 8 + 1))).toInt64 from hf9.trans hv4]
        have hO3 : zOL D tc o v3 H3 := ⟨f9, hf9, hR9⟩
        refine lv_iload hx hb dL_law_372 (lv_at hl 0 rfl) ?_
        refine lv_i2l hx hb dL_law_374 rfl ?_
        refine z_lcmp0 hx hb dL_law_375 ?_
        refine z_if_eq (a := 0) (tgt := 381) hx hb dL_law_376 (by decide) (by omega) (fun h_376 => ?_) (fun h_376 => ?_)
        · skip
          refine lv_goto (tgt := 970) hx hb dL_law_381 (by decide) ?_
          exact kq (muFore (ms u 25 0 0) f t a z st) _ _ _ _ _ (by show cells + 6 + 0 + 0 ≤ cells + 600; omega) (by show slots + 36 + 0 + 0 ≤ slots + 10960; omega) hIu hUu ⟨hHC, hM, ⟨v3, hO3⟩, ⟨v2, hO2⟩⟩ hS (lv_sub hl [2, 3, 4, 5, 6, 7] rfl)
        · skip
          exact absurd rfl h_376
    · skip
      exact absurd (by omega) h_359
set_option maxHeartbeats 4000000 in
set_option maxRecDepth 100000 in
theorem t_call {p : Program} {l : Launch} {e : Env} {s : State} {m : MethodId} {below : List Frame} {meth : Method} {c : Code} {Q : State → Prop} {b L : Nat} {xs : Nat → Int32} {D : va_G} {tc : Nat → ClassId} {dz m0 : Nat} {aM : Nat → Nat} {o o2 : Nat} {ad : Nat → Nat} {u : zS_} {H : Heap} {locs : List Loc} {ls : Array Slot} {cells slots : Nat} (hflags : l.stackTraces = false) (hx : p.tables.exec = Jvm.exec) (hb : c.code = cL_law) (hml : c.maxLocals = 8) (hown : s.vm.findClass RL = some m.cls) (hX : va_X b L xs s s.heap) (hbl : b < s.heap.size) (hL : L ≤ 3072) (hLA : zLA s D tc dz m0 aM o o2) (hI : zIn u) (hU : zUn u) {kk : Nat} (hkk : 6 * kk + 6 ≤ L) {a n z : Int} (h0 : -2147483648 ≤ a ∧ a ≤ 2147483647 ∧ -2147483648 ≤ n ∧ n ≤ 2147483647 ∧ -2147483648 ≤ z ∧ z ≤ 2147483647) (e1 : xs (6 * kk + 1) = zi a) (e2 : xs (6 * kk + 2) = zi n) (e3 : xs (6 * kk + 3) = zi z)
    (hw : zLw s D tc dz ad m0 aM o o2 u H) (hS : va_S (fun q => s.heap.size ≤ q) s.heap H locs) (hl : lv_has ls 8 [(5, .int (zi (6 * (kk : Int)))), (4, .ref (o2)), (3, .ref (o)), (2, .ref (m0)), (1, .ref (ad 0)), (0, .ref (b))]) (hcs : cells + 600 ≤ 601024 ∧ slots + 10960 ≤ 7293034)
    (kq : ∀ (u' : zS_) (H : Heap) (locs : List Loc) (ls : Array Slot) (cells' slots' : Nat), cells' ≤ cells + 600 → slots' ≤ slots + 10960 → zIn u' → zUn u' → zLw s D tc dz ad m0 aM o o2 u' H → va_S (fun q => s.heap.size ≤ q) s.heap H locs → lv_has ls 8 [(5, .int (zi (6 * (kk : Int)))), (4, .ref (o2)), (3, .ref (o)), (2, .ref (m0)), (1, .ref (ad 0)), (0, .ref (b))] → W p l e room_1 s m #[Value.ref b] below meth c H locs cells' slots' Q (F0 m 970 ls [])) : W p l e room_1 s m #[Value.ref b] below meth c H locs cells slots Q (F0 m 384 ls []) := by
  have hW := State.WarmedH.refl s
  have X : zH s (fun q => s.heap.size ≤ q) p s m c cL_law 8 RL := ⟨hx, hb, hml, hown, hW, ⟨Nat.le_refl _, fun _ _ => rfl⟩, fun q h => h, fun q h => h⟩
  have hT := hLA.1.1
  have hK := hLA.1.2.1
  have hbA : ¬ (fun q => s.heap.size ≤ q) b := fun z => absurd z (by show ¬ s.heap.size ≤ b; omega)
  have hc9 : 0 ≤ mcCall u a n z ∧ mcCall u a n z ≤ 3 := by unfold mcCall; omega
  have hI1 := hI.1
  refine lv_aload_n hx hb dL_law_384 rfl (lv_at hl 4 rfl) ?_
  refine lv_aload_n hx hb dL_law_385 rfl (lv_at hl 5 rfl) ?_
  refine lv_iload hx hb dL_law_386 (lv_at hl 0 rfl) ?_
  refine lv_iconst (v := zi (1)) hx hb dL_law_388 rfl ?_
  refine z_iadd (a := 6 * (kk : Int)) (b := 1) hx hb dL_law_389 ?_
  refine z_sld (i := (6 * (kk : Int) + 1)) (v := a) hx hb hX hbl hbA hS (by omega) (by rw [show ((6 * (kk : Int) + 1) : Int).toNat = 6 * kk + 1 by omega]; exact e1) dL_law_390 ?_
  refine lv_aload_n hx hb dL_law_391 rfl (lv_at hl 5 rfl) ?_
  refine lv_iload hx hb dL_law_392 (lv_at hl 0 rfl) ?_
  refine lv_iconst (v := zi (2)) hx hb dL_law_394 rfl ?_
  refine z_iadd (a := 6 * (kk : Int)) (b := 2) hx hb dL_law_395 ?_
  refine z_sld (i := (6 * (kk : Int) + 2)) (v := n) hx hb hX hbl hbA hS (by omega) (by rw [show ((6 * (kk : Int) + 2) : Int).toNat = 6 * kk + 2 by omega]; exact e2) dL_law_396 ?_
  refine lv_aload_n hx hb dL_law_397 rfl (lv_at hl 5 rfl) ?_
  refine lv_iload hx hb dL_law_398 (lv_at hl 0 rfl) ?_
  refine lv_iconst (v := zi (3)) hx hb dL_law_400 rfl ?_
  refine z_iadd (a := 6 * (kk : Int)) (b := 3) hx hb dL_law_401 ?_
  refine z_sld (i := (6 * (kk : Int) + 3)) (v := z) hx hb hX hbl hbA hS (by omega) (by rw [show ((6 * (kk : Int) + 3) : Int).toNat = 6 * kk + 3 by omega]; exact e3) dL_law_402 ?_
  refine lv_aload_n hx hb dL_law_403 rfl (lv_at hl 2 rfl) ?_
  obtain ⟨hHC, hM, ⟨v1, hO⟩, ⟨v2, hO2⟩⟩ := hw
  have hsz := hS.1
  have hfr0 : ∀ q : Nat, H.size ≤ q → zBc s m0 aM o o2 q := zLw.fresh hsz ⟨hHC, hM, ⟨v1, hO⟩, ⟨v2, hO2⟩⟩
  refine z_invSH (n := 5) (B := (fun q => zBc s m0 aM o o2 q ∨ q = o)) (fun q h => h.elim (fun z => z.1) (fun z => by rw [z]; exact hLA.2.2.1.2.2.1)) (c_L_call l hflags hLA.B hLA.2.1 (ad := ad) (u := ms u 25 0 0) (o := o) hLA.2.2.1.2.2.1 (fun z => z.2.2.2.1 rfl) (a := a) (n := n) (z := z) h0 (zIn_25 hI) hU) X hS (fun q h => Or.inl (hfr0 q h)) ⟨hHC.c25, ⟨v1, hO⟩, hfr0⟩ hl.1 (q_409 hT hW) (q_0 hT hW) (q_407 hT hW) (q_408 hT hW) (by decide +kernel) rfl ⟨Nat.le_of_ble_eq_true rfl, Nat.le_of_ble_eq_true rfl⟩ ⟨by show cells + 5 ≤ 601024; omega, by show slots + 59 ≤ 7293034; omega⟩ (Nat.le_of_ble_eq_true rfl) dL_law_404 (fun v H1 locs hv hfr hS => ?_) rfl
  have hv : v = some (.int (zi (mcCall u a n z))) ∧ (0 < mcCall u a n z → zHC D tc dz (zBc s m0 aM o o2) ad (ms u 25 0 0) H1) ∧ (mcCall u a n z = 0 → zHC D tc dz (zBc s m0 aM o o2) ad (muCall (ms u 25 0 0) a n z) H1) ∧ ∃ v : Int64, zOL D tc o v H1 ∧ (mcCall u a n z = 0 → v = (zi (u 21 0)).toInt64) := hv
  obtain ⟨rfl, hc1, hc0, v3, hO3, hv3⟩ := hv
  have hM := mH.frame hM hfr (fun q hq _ hB => hB.elim (fun g => zBc_M g hq) (fun g => (zMm_not hLA).1 (by rw [← g]; exact hq)))
  have hO2 := hO2.frame hfr (fun z => z.elim (fun g => g.2.2.2.2 rfl) (fun g => hLA.2.2.2.1 g.symm))
  clear hHC hfr hfr0 hsz
  refine lv_istore (lv' := [(6, .int (zi (mcCall u a n z))), (5, .int (zi (6 * (kk : Int)))), (4, .ref (o2)), (3, .ref (o)), (2, .ref (m0)), (1, .ref (ad 0)), (0, .ref (b))]) hx hb dL_law_407 hl (by decide) rfl (fun ls hl => ?_)
  by_cases hcd : 0 < mcCall u a n z
  · skip
    have hHC : zHC D tc dz (zBc s m0 aM o o2) ad (ms u 25 0 (mcCall u a n z)) H1 := by
      have g := (hc1 hcd).c25 (x := mcCall u a n z)
      rw [ms_ms] at g
      exact g
    have hIu : zIn (ms u 25 0 (mcCall u a n z)) := zIn_25 hI
    have hUu : zUn (ms u 25 0 (mcCall u a n z)) := hU
    refine lv_aload_n hx hb dL_law_409 rfl (lv_at hl 4 rfl) ?_
    refine lv_aload_n hx hb dL_law_410 rfl (lv_at hl 6 rfl) ?_
    refine lv_iload hx hb dL_law_411 (lv_at hl 1 rfl) ?_
    refine lv_iconst (v := zi (1)) hx hb dL_law_413 rfl ?_
    refine z_iadd (a := 6 * (kk : Int)) (b := 1) hx hb dL_law_414 ?_
    refine z_sld (i := (6 * (kk : Int) + 1)) (v := a) hx hb hX hbl hbA hS (by omega) (by rw [show ((6 * (kk : Int) + 1) : Int).toNat = 6 * kk + 1 by omega]; exact e1) dL_law_415 ?_
    refine lv_aload_n hx hb dL_law_416 rfl (lv_at hl 6 rfl) ?_
    refine lv_iload hx hb dL_law_417 (lv_at hl 1 rfl) ?_
    refine lv_iconst (v := zi (2)) hx hb dL_law_419 rfl ?_
    refine z_iadd (a := 6 * (kk : Int)) (b := 2) hx hb dL_law_420 ?_
    refine z_sld (i := (6 * (kk : Int) + 2)) (v := n) hx hb hX hbl hbA hS (by omega) (by rw [show ((6 * (kk : Int) + 2) : Int).toNat = 6 * kk + 2 by omega]; exact e2) dL_law_421 ?_
    refine lv_aload_n hx hb dL_law_422 rfl (lv_at hl 6 rfl) ?_
    refine lv_iload hx hb dL_law_423 (lv_at hl 1 rfl) ?_
    refine lv_iconst (v := zi (3)) hx hb dL_law_425 rfl ?_
    refine z_iadd (a := 6 * (kk : Int)) (b := 3) hx hb dL_law_426 ?_
    refine z_sld (i := (6 * (kk : Int) + 3)) (v := z) hx hb hX hbl hbA hS (by omega) (by rw [show ((6 * (kk : Int) + 3) : Int).toNat = 6 * kk + 3 by omega]; exact e3) dL_law_427 ?_
    have hsz := hS.1
    have hMw : mH D tc (fun q => zMm m0 aM q ∨ H1.size ≤ q) m0 aM u H1 := hM.mono (fun q _ h => Or.inl h)
    refine z_invVB (n := 3) (C := RX6) (B := (fun q => zMm m0 aM q ∨ H1.size ≤ q)) (fun q h => (hLA.M (H := H1) hsz).2.2.1 q h) (c_X6_call l (hLA.M (H := H1) hsz) (a := a) (n := n) (z := z) h0 hI) X hS (fun q h => Or.inr h) hMw hl.1 (q_774 hT hW) (q_7 hT hW) (q_771 hT hW) (q_772 hT hW) (q_773 hT hW) (m_recv hK hMw) (by decide +kernel) rfl ⟨Nat.le_of_ble_eq_true rfl, Nat.le_of_ble_eq_true rfl⟩ ⟨by show cells + 5 + 0 ≤ 601024; omega, by show slots + 59 + 0 ≤ 7293034; omega⟩ (Nat.le_of_ble_eq_true rfl) dL_law_428 (fun v H2 locs hv hfr hS => ?_) rfl
    rw [if_pos hcd, if_pos hcd] at hv
    obtain ⟨rfl, hM⟩ := hv
    have hM := hM.restrict
    have hHC := hHC.frame hfr (fun q hB hq hm => hm.elim (zBc_M hB) (fun g => by omega))
    have hO3 := hO3.frame hfr (fun z => z.elim (zMm_not hLA).1 (fun g => by have := hO3.lt; omega))
    have hO2 := hO2.frame hfr (fun z => z.elim (zMm_not hLA).2 (fun g => by have := hO2.lt; omega))
    clear hfr hMw hsz
    refine lv_istore (lv' := [(7, .int (zi ((-1)))), (6, .int (zi (mcCall u a n z))), (5, .int (zi (6 * (kk : Int)))), (4, .ref (o2)), (3, .ref (o)), (2, .ref (m0)), (1, .ref (ad 0)), (0, .ref (b))]) hx hb dL_law_431 hl (by decide) rfl (fun ls hl => ?_)
    refine lv_aload_n hx hb dL_law_433 rfl (lv_at hl 5 rfl) ?_
    have hsz := hS.1
    have hMw : mH D tc (fun q => zMm m0 aM q ∨ H2.size ≤ q) m0 aM (ms u 25 0 (mcCall u a n z)) H2 := hM.mono (fun q _ h => Or.inl h)
    refine z_invVB (n := 0) (C := RX6) (B := (fun q => zMm m0 aM q ∨ H2.size ≤ q)) (fun q h => (hLA.M (H := H2) hsz).2.2.1 q h) (c_X6_thrown l (hLA.M (H := H2) hsz) (u := (ms u 25 0 (mcCall u a n z)))) X hS (fun q h => Or.inr h) hMw hl.1 (q_746 hT hW) (q_7 hT hW) (q_743 hT hW) (q_744 hT hW) (q_745 hT hW) (m_recv hK hMw) (by decide +kernel) rfl ⟨Nat.le_of_ble_eq_true rfl, Nat.le_of_ble_eq_true rfl⟩ ⟨by show cells + 5 + 0 + 0 ≤ 601024; omega, by show slots + 59 + 0 + 0 ≤ 7293034; omega⟩ (Nat.le_of_ble_eq_true rfl) dL_law_434 (fun v H3 locs hv hfr hS => ?_) rfl
    obtain ⟨rfl, hM⟩ := hv
    have hM := hM.restrict
    have hHC := hHC.frame hfr (fun q hB hq hm => hm.elim (zBc_M hB) (fun g => by omega))
    have hO3 := hO3.frame hfr (fun z => z.elim (zMm_not hLA).1 (fun g => by have := hO3.lt; omega))
    have hO2 := hO2.frame hfr (fun z => z.elim (zMm_not hLA).2 (fun g => by have := hO2.lt; omega))
    clear hfr hMw hsz
    obtain ⟨t25, ht25⟩ : ∃ t25 : Int, t25 = (ms u 25 0 (mcCall u a n z)) 25 0 := ⟨_, rfl⟩
    rw [← ht25]
    rw [ms_s] at ht25
    refine lv_iload hx hb dL_law_437 (lv_at hl 1 rfl) ?_
    refine z_icmp_eq (a := t25) (b := mcCall u a n z) (tgt := 444) hx hb dL_law_439 (by decide) (by omega) (fun h_439 => ?_) (fun h_439 => ?_)
    · skip
      refine lv_iload hx hb dL_law_444 (lv_at hl 1 rfl) ?_
      refine z_if_ne (a := mcCall u a n z) (tgt := 461) hx hb dL_law_446 (by decide) (by omega) (fun h_446 => ?_) (fun h_446 => ?_)
      · skip
        refine lv_goto (tgt := 970) hx hb dL_law_461 (by decide) ?_
        exact kq (ms u 25 0 (mcCall u a n z)) _ _ _ _ _ (by show cells + 5 + 0 + 0 ≤ cells + 600; omega) (by show slots + 59 + 0 + 0 ≤ slots + 10960; omega) hIu hUu ⟨hHC, hM, ⟨v3, hO3⟩, ⟨v2, hO2⟩⟩ hS (lv_sub hl [2, 3, 4, 5, 6, 7] rfl)
      · skip
        exact absurd h_446 (by omega)
    · skip
      exact absurd (by omega) h_439
  · skip
    have hcd9 : mcCall u a n z = 0 := by omega
    have hHC := hc0 hcd9
    have hv4 := hv3 hcd9
    have hIu : zIn (muCall (ms u 25 0 0) a n z) := zIn_call (zIn_25 hI) hU (by have := hI.1; unfold mcCall at hcd9; omega) (by unfold mcCall at hcd9; show u 21 0 ≤ 29; have := hI.1; omega)
    have hUu : zUn (muCall (ms u 25 0 0) a n z) := zUn_call (zIn_25 hI) hU
    refine lv_aload_n hx hb dL_law_409 rfl (lv_at hl 4 rfl) ?_
    refine lv_aload_n hx hb dL_law_410 rfl (lv_at hl 6 rfl) ?_
    refine lv_iload hx hb dL_law_411 (lv_at hl 1 rfl) ?_
    refine lv_iconst (v := zi (1)) hx hb dL_law_413 rfl ?_
    refine z_iadd (a := 6 * (kk : Int)) (b := 1) hx hb dL_law_414 ?_
    refine z_sld (i := (6 * (kk : Int) + 1)) (v := a) hx hb hX hbl hbA hS (by omega) (by rw [show ((6 * (kk : Int) + 1) : Int).toNat = 6 * kk + 1 by omega]; exact e1) dL_law_415 ?_
    refine lv_aload_n hx hb dL_law_416 rfl (lv_at hl 6 rfl) ?_
    refine lv_iload hx hb dL_law_417 (lv_at hl 1 rfl) ?_
    refine lv_iconst (v := zi (2)) hx hb dL_law_419 rfl ?_
    refine z_iadd (a := 6 * (kk : Int)) (b := 2) hx hb dL_law_420 ?_
    refine z_sld (i := (6 * (kk : Int) + 2)) (v := n) hx hb hX hbl hbA hS (by omega) (by rw [show ((6 * (kk : Int) + 2) : Int).toNat = 6 * kk + 2 by omega]; exact e2) dL_law_421 ?_
    refine lv_aload_n hx hb dL_law_422 rfl (lv_at hl 6 rfl) ?_
    refine lv_iload hx hb dL_law_423 (lv_at hl 1 rfl) ?_
    refine lv_iconst (v := zi (3)) hx hb dL_law_425 rfl ?_
    refine z_iadd (a := 6 * (kk : Int)) (b := 3) hx hb dL_law_426 ?_
    refine z_sld (i := (6 * (kk : Int) + 3)) (v := z) hx hb hX hbl hbA hS (by omega) (by rw [show ((6 * (kk : Int) + 3) : Int).toNat = 6 * kk + 3 by omega]; exact e3) dL_law_427 ?_
    have hsz := hS.1
    have hMw : mH D tc (fun q => zMm m0 aM q ∨ H1.size ≤ q) m0 aM u H1 := hM.mono (fun q _ h => Or.inl h)
    refine z_invVB (n := 3) (C := RX6) (B := (fun q => zMm m0 aM q ∨ H1.size ≤ q)) (fun q h => (hLA.M (H := H1) hsz).2.2.1 q h) (c_X6_call l (hLA.M (H := H1) hsz) (a := a) (n := n) (z := z) h0 hI) X hS (fun q h => Or.inr h) hMw hl.1 (q_774 hT hW) (q_7 hT hW) (q_771 hT hW) (q_772 hT hW) (q_773 hT hW) (m_recv hK hMw) (by decide +kernel) rfl ⟨Nat.le_of_ble_eq_true rfl, Nat.le_of_ble_eq_true rfl⟩ ⟨by show cells + 5 + 0 ≤ 601024; omega, by show slots + 59 + 0 ≤ 7293034; omega⟩ (Nat.le_of_ble_eq_true rfl) dL_law_428 (fun v H2 locs hv hfr hS => ?_) rfl
    rw [if_neg hcd, if_neg hcd] at hv
    obtain ⟨rfl, hM⟩ := hv
    have hM := hM.restrict
    have hHC := hHC.frame hfr (fun q hB hq hm => hm.elim (zBc_M hB) (fun g => by omega))
    have hO3 := hO3.frame hfr (fun z => z.elim (zMm_not hLA).1 (fun g => by have := hO3.lt; omega))
    have hO2 := hO2.frame hfr (fun z => z.elim (zMm_not hLA).2 (fun g => by have := hO2.lt; omega))
    clear hfr hMw hsz
    refine lv_istore (lv' := [(7, .int (zi ((u 21 0)))), (6, .int (zi (mcCall u a n z))), (5, .int (zi (6 * (kk : Int)))), (4, .ref (o2)), (3, .ref (o)), (2, .ref (m0)), (1, .ref (ad 0)), (0, .ref (b))]) hx hb dL_law_431 hl (by decide) rfl (fun ls hl => ?_)
    refine lv_aload_n hx hb dL_law_433 rfl (lv_at hl 5 rfl) ?_
    have hsz := hS.1
    have hMw : mH D tc (fun q => zMm m0 aM q ∨ H2.size ≤ q) m0 aM (muCall (ms u 25 0 0) a n z) H2 := hM.mono (fun q _ h => Or.inl h)
    refine z_invVB (n := 0) (C := RX6) (B := (fun q => zMm m0 aM q ∨ H2.size ≤ q)) (fun q h => (hLA.M (H := H2) hsz).2.2.1 q h) (c_X6_thrown l (hLA.M (H := H2) hsz) (u := (muCall (ms u 25 0 0) a n z))) X hS (fun q h => Or.inr h) hMw hl.1 (q_746 hT hW) (q_7 hT hW) (q_743 hT hW) (q_744 hT hW) (q_745 hT hW) (m_recv hK hMw) (by decide +kernel) rfl ⟨Nat.le_of_ble_eq_true rfl, Nat.le_of_ble_eq_true rfl⟩ ⟨by show cells + 5 + 0 + 0 ≤ 601024; omega, by show slots + 59 + 0 + 0 ≤ 7293034; omega⟩ (Nat.le_of_ble_eq_true rfl) dL_law_434 (fun v H3 locs hv hfr hS => ?_) rfl
    obtain ⟨rfl, hM⟩ := hv
    have hM := hM.restrict
    have hHC := hHC.frame hfr (fun q hB hq hm => hm.elim (zBc_M hB) (fun g => by omega))
    have hO3 := hO3.frame hfr (fun z => z.elim (zMm_not hLA).1 (fun g => by have := hO3.lt; omega))
    have hO2 := hO2.frame hfr (fun z => z.elim (zMm_not hLA).2 (fun g => by have := hO2.lt; omega))
    clear hfr hMw hsz
    obtain ⟨t25, ht25⟩ : ∃ t25 : Int, t25 = (muCall (ms u 25 0 0) a n z) 25 0 := ⟨_, rfl⟩
    rw [← ht25]
    have h25 : (muCall (ms u 25 0 0) a n z) 25 0 = 0 := by rfl
    rw [h25] at ht25
    refine lv_iload hx hb dL_law_437 (lv_at hl 1 rfl) ?_
    refine z_icmp_eq (a := t25) (b := mcCall u a n z) (tgt := 444) hx hb dL_law_439 (by decide) (by omega) (fun h_439 => ?_) (fun h_439 => ?_)
    · skip
      refine lv_iload hx hb dL_law_444 (lv_at hl 1 rfl) ?_
      refine z_if_ne (a := mcCall u a n z) (tgt := 461) hx hb dL_law_446 (by decide) (by omega) (fun h_446 => ?_) (fun h_446 => ?_)
      · skip
        exact absurd h_446 (by omega)
      · skip
        refine lv_aload_n hx hb dL_law_449 rfl (lv_at hl 4 rfl) ?_
        refine lv_iconst (v := zi (0)) hx hb dL_law_450 rfl ?_
        obtain ⟨f9, hf9, hR9⟩ := hO3
        refine z_lald (i := 0) hx hb hK hR9 2 zu_eq rfl (by omega) dL_law_451 ?_
        rw [show f9 (0 : Int).toNat = (zi (u 21 0)).toInt64 from hf9.trans hv4]
        have hO3 : zOL D tc o v3 H3 := ⟨f9, hf9, hR9⟩
        refine lv_iload hx hb dL_law_452 (lv_at hl 0 rfl) ?_
        refine lv_i2l hx hb dL_law_454 rfl ?_
        refine z_lcmp0 hx hb dL_law_455 ?_
        refine z_if_eq (a := 0) (tgt := 461) hx hb dL_law_456 (by decide) (by omega) (fun h_456 => ?_) (fun h_456 => ?_)
        · skip
          refine lv_goto (tgt := 970) hx hb dL_law_461 (by decide) ?_
          exact kq (muCall (ms u 25 0 0) a n z) _ _ _ _ _ (by show cells + 5 + 0 + 0 ≤ cells + 600; omega) (by show slots + 59 + 0 + 0 ≤ slots + 10960; omega) hIu hUu ⟨hHC, hM, ⟨v3, hO3⟩, ⟨v2, hO2⟩⟩ hS (lv_sub hl [2, 3, 4, 5, 6, 7] rfl)
        · skip
          exact absurd rfl h_456
    · skip
      exact absurd (by omega) h_439
set_option maxHeartbeats 4000000 in
set_option maxRecDepth 100000 in
theorem t_cap {p : Program} {l : Launch} {e : Env} {s : State} {m : MethodId} {below : List Frame} {meth : Method} {c : Code} {Q : State → Prop} {b L : Nat} {xs : Nat → Int32} {D : va_G} {tc : Nat → ClassId} {dz m0 : Nat} {aM : Nat → Nat} {o o2 : Nat} {ad : Nat → Nat} {u : zS_} {H : Heap} {locs : List Loc} {ls : Array Slot} {cells slots : Nat} (hflags : l.stackTraces = false) (hx : p.tables.exec = Jvm.exec) (hb : c.code = cL_law) (hml : c.maxLocals = 8) (hown : s.vm.findClass RL = some m.cls) (hX : va_X b L xs s s.heap) (hbl : b < s.heap.size) (hL : L ≤ 3072) (hLA : zLA s D tc dz m0 aM o o2) (hI : zIn u) (hU : zUn u) {kk : Nat} (hkk : 6 * kk + 6 ≤ L) {a : Int} (h0 : -2147483648 ≤ a ∧ a ≤ 2147483647) (e1 : xs (6 * kk + 1) = zi a)
    (hw : zLw s D tc dz ad m0 aM o o2 u H) (hS : va_S (fun q => s.heap.size ≤ q) s.heap H locs) (hl : lv_has ls 8 [(5, .int (zi (6 * (kk : Int)))), (4, .ref (o2)), (3, .ref (o)), (2, .ref (m0)), (1, .ref (ad 0)), (0, .ref (b))]) (hcs : cells + 600 ≤ 601024 ∧ slots + 10960 ≤ 7293034)
    (kq : ∀ (u' : zS_) (H : Heap) (locs : List Loc) (ls : Array Slot) (cells' slots' : Nat), cells' ≤ cells + 600 → slots' ≤ slots + 10960 → zIn u' → zUn u' → zLw s D tc dz ad m0 aM o o2 u' H → va_S (fun q => s.heap.size ≤ q) s.heap H locs → lv_has ls 8 [(5, .int (zi (6 * (kk : Int)))), (4, .ref (o2)), (3, .ref (o)), (2, .ref (m0)), (1, .ref (ad 0)), (0, .ref (b))] → W p l e room_1 s m #[Value.ref b] below meth c H locs cells' slots' Q (F0 m 970 ls [])) : W p l e room_1 s m #[Value.ref b] below meth c H locs cells slots Q (F0 m 464 ls []) := by
  have hW := State.WarmedH.refl s
  have X : zH s (fun q => s.heap.size ≤ q) p s m c cL_law 8 RL := ⟨hx, hb, hml, hown, hW, ⟨Nat.le_refl _, fun _ _ => rfl⟩, fun q h => h, fun q h => h⟩
  have hT := hLA.1.1
  have hK := hLA.1.2.1
  have hbA : ¬ (fun q => s.heap.size ≤ q) b := fun z => absurd z (by show ¬ s.heap.size ≤ b; omega)
  have hc9 : 0 ≤ mcCap a ∧ mcCap a ≤ 3 := by unfold mcCap; omega
  have hI1 := hI.1
  refine lv_aload_n hx hb dL_law_464 rfl (lv_at hl 4 rfl) ?_
  refine lv_aload_n hx hb dL_law_465 rfl (lv_at hl 5 rfl) ?_
  refine lv_iload hx hb dL_law_466 (lv_at hl 0 rfl) ?_
  refine lv_iconst (v := zi (1)) hx hb dL_law_468 rfl ?_
  refine z_iadd (a := 6 * (kk : Int)) (b := 1) hx hb dL_law_469 ?_
  refine z_sld (i := (6 * (kk : Int) + 1)) (v := a) hx hb hX hbl hbA hS (by omega) (by rw [show ((6 * (kk : Int) + 1) : Int).toNat = 6 * kk + 1 by omega]; exact e1) dL_law_470 ?_
  refine lv_aload_n hx hb dL_law_471 rfl (lv_at hl 2 rfl) ?_
  obtain ⟨hHC, hM, ⟨v1, hO⟩, ⟨v2, hO2⟩⟩ := hw
  have hsz := hS.1
  have hfr0 : ∀ q : Nat, H.size ≤ q → zBc s m0 aM o o2 q := zLw.fresh hsz ⟨hHC, hM, ⟨v1, hO⟩, ⟨v2, hO2⟩⟩
  refine z_invSH (n := 3) (B := (fun q => zBc s m0 aM o o2 q ∨ q = o)) (fun q h => h.elim (fun z => z.1) (fun z => by rw [z]; exact hLA.2.2.1.2.2.1)) (c_L_cap l hflags hLA.B hLA.2.1 (ad := ad) (u := ms u 25 0 0) (o := o) hLA.2.2.1.2.2.1 (fun z => z.2.2.2.1 rfl) (a := a) h0 (zIn_25 hI) hU) X hS (fun q h => Or.inl (hfr0 q h)) ⟨hHC.c25, ⟨v1, hO⟩, hfr0⟩ hl.1 (q_456 hT hW) (q_0 hT hW) (q_454 hT hW) (q_455 hT hW) (by decide +kernel) rfl ⟨Nat.le_of_ble_eq_true rfl, Nat.le_of_ble_eq_true rfl⟩ ⟨by show cells + 1 ≤ 601024; omega, by show slots + 6 ≤ 7293034; omega⟩ (Nat.le_of_ble_eq_true rfl) dL_law_472 (fun v H1 locs hv hfr hS => ?_) rfl
  have hv : v = some (.int (zi (mcCap a))) ∧ (0 < mcCap a → zHC D tc dz (zBc s m0 aM o o2) ad (ms u 25 0 0) H1) ∧ (mcCap a = 0 → zHC D tc dz (zBc s m0 aM o o2) ad (ms (ms u 25 0 0) 23 0 a) H1) ∧ ∃ v : Int64, zOL D tc o v H1 ∧ (mcCap a = 0 → v = (zi (u 23 0)).toInt64) := hv
  obtain ⟨rfl, hc1, hc0, v3, hO3, hv3⟩ := hv
  have hM := mH.frame hM hfr (fun q hq _ hB => hB.elim (fun g => zBc_M g hq) (fun g => (zMm_not hLA).1 (by rw [← g]; exact hq)))
  have hO2 := hO2.frame hfr (fun z => z.elim (fun g => g.2.2.2.2 rfl) (fun g => hLA.2.2.2.1 g.symm))
  clear hHC hfr hfr0 hsz
  refine lv_istore (lv' := [(6, .int (zi (mcCap a))), (5, .int (zi (6 * (kk : Int)))), (4, .ref (o2)), (3, .ref (o)), (2, .ref (m0)), (1, .ref (ad 0)), (0, .ref (b))]) hx hb dL_law_475 hl (by decide) rfl (fun ls hl => ?_)
  by_cases hcd : 0 < mcCap a
  · skip
    have hHC : zHC D tc dz (zBc s m0 aM o o2) ad (ms u 25 0 (mcCap a)) H1 := by
      have g := (hc1 hcd).c25 (x := mcCap a)
      rw [ms_ms] at g
      exact g
    have hIu : zIn (ms u 25 0 (mcCap a)) := zIn_25 hI
    have hUu : zUn (ms u 25 0 (mcCap a)) := hU
    refine lv_aload_n hx hb dL_law_477 rfl (lv_at hl 4 rfl) ?_
    refine lv_aload_n hx hb dL_law_478 rfl (lv_at hl 6 rfl) ?_
    refine lv_iload hx hb dL_law_479 (lv_at hl 1 rfl) ?_
    refine lv_iconst (v := zi (1)) hx hb dL_law_481 rfl ?_
    refine z_iadd (a := 6 * (kk : Int)) (b := 1) hx hb dL_law_482 ?_
    refine z_sld (i := (6 * (kk : Int) + 1)) (v := a) hx hb hX hbl hbA hS (by omega) (by rw [show ((6 * (kk : Int) + 1) : Int).toNat = 6 * kk + 1 by omega]; exact e1) dL_law_483 ?_
    have hsz := hS.1
    have hMw : mH D tc (fun q => zMm m0 aM q ∨ H1.size ≤ q) m0 aM u H1 := hM.mono (fun q _ h => Or.inl h)
    refine z_invVB (n := 1) (C := RX6) (B := (fun q => zMm m0 aM q ∨ H1.size ≤ q)) (fun q h => (hLA.M (H := H1) hsz).2.2.1 q h) (c_X6_cap l (hLA.M (H := H1) hsz) (a := a) h0 hI) X hS (fun q h => Or.inr h) hMw hl.1 (q_778 hT hW) (q_7 hT hW) (q_775 hT hW) (q_776 hT hW) (q_777 hT hW) (m_recv hK hMw) (by decide +kernel) rfl ⟨Nat.le_of_ble_eq_true rfl, Nat.le_of_ble_eq_true rfl⟩ ⟨by show cells + 1 + 0 ≤ 601024; omega, by show slots + 6 + 0 ≤ 7293034; omega⟩ (Nat.le_of_ble_eq_true rfl) dL_law_484 (fun v H2 locs hv hfr hS => ?_) rfl
    rw [if_pos hcd, if_pos hcd] at hv
    obtain ⟨rfl, hM⟩ := hv
    have hM := hM.restrict
    have hHC := hHC.frame hfr (fun q hB hq hm => hm.elim (zBc_M hB) (fun g => by omega))
    have hO3 := hO3.frame hfr (fun z => z.elim (zMm_not hLA).1 (fun g => by have := hO3.lt; omega))
    have hO2 := hO2.frame hfr (fun z => z.elim (zMm_not hLA).2 (fun g => by have := hO2.lt; omega))
    clear hfr hMw hsz
    refine lv_istore (lv' := [(7, .int (zi ((-1)))), (6, .int (zi (mcCap a))), (5, .int (zi (6 * (kk : Int)))), (4, .ref (o2)), (3, .ref (o)), (2, .ref (m0)), (1, .ref (ad 0)), (0, .ref (b))]) hx hb dL_law_487 hl (by decide) rfl (fun ls hl => ?_)
    refine lv_aload_n hx hb dL_law_489 rfl (lv_at hl 5 rfl) ?_
    have hsz := hS.1
    have hMw : mH D tc (fun q => zMm m0 aM q ∨ H2.size ≤ q) m0 aM (ms u 25 0 (mcCap a)) H2 := hM.mono (fun q _ h => Or.inl h)
    refine z_invVB (n := 0) (C := RX6) (B := (fun q => zMm m0 aM q ∨ H2.size ≤ q)) (fun q h => (hLA.M (H := H2) hsz).2.2.1 q h) (c_X6_thrown l (hLA.M (H := H2) hsz) (u := (ms u 25 0 (mcCap a)))) X hS (fun q h => Or.inr h) hMw hl.1 (q_746 hT hW) (q_7 hT hW) (q_743 hT hW) (q_744 hT hW) (q_745 hT hW) (m_recv hK hMw) (by decide +kernel) rfl ⟨Nat.le_of_ble_eq_true rfl, Nat.le_of_ble_eq_true rfl⟩ ⟨by show cells + 1 + 0 + 0 ≤ 601024; omega, by show slots + 6 + 0 + 0 ≤ 7293034; omega⟩ (Nat.le_of_ble_eq_true rfl) dL_law_490 (fun v H3 locs hv hfr hS => ?_) rfl
    obtain ⟨rfl, hM⟩ := hv
    have hM := hM.restrict
    have hHC := hHC.frame hfr (fun q hB hq hm => hm.elim (zBc_M hB) (fun g => by omega))
    have hO3 := hO3.frame hfr (fun z => z.elim (zMm_not hLA).1 (fun g => by have := hO3.lt; omega))
    have hO2 := hO2.frame hfr (fun z => z.elim (zMm_not hLA).2 (fun g => by have := hO2.lt; omega))
    clear hfr hMw hsz
    obtain ⟨t25, ht25⟩ : ∃ t25 : Int, t25 = (ms u 25 0 (mcCap a)) 25 0 := ⟨_, rfl⟩
    rw [← ht25]
    rw [ms_s] at ht25
    refine lv_iload hx hb dL_law_493 (lv_at hl 1 rfl) ?_
    refine z_icmp_eq (a := t25) (b := mcCap a) (tgt := 500) hx hb dL_law_495 (by decide) (by omega) (fun h_495 => ?_) (fun h_495 => ?_)
    · skip
      refine lv_iload hx hb dL_law_500 (lv_at hl 1 rfl) ?_
      refine z_if_ne (a := mcCap a) (tgt := 517) hx hb dL_law_502 (by decide) (by omega) (fun h_502 => ?_) (fun h_502 => ?_)
      · skip
        refine lv_goto (tgt := 970) hx hb dL_law_517 (by decide) ?_
        exact kq (ms u 25 0 (mcCap a)) _ _ _ _ _ (by show cells + 1 + 0 + 0 ≤ cells + 600; omega) (by show slots + 6 + 0 + 0 ≤ slots + 10960; omega) hIu hUu ⟨hHC, hM, ⟨v3, hO3⟩, ⟨v2, hO2⟩⟩ hS (lv_sub hl [2, 3, 4, 5, 6, 7] rfl)
      · skip
        exact absurd h_502 (by omega)
    · skip
      exact absurd (by omega) h_495
  · skip
    have hcd9 : mcCap a = 0 := by omega
    have hHC := hc0 hcd9
    have hv4 := hv3 hcd9
    have hIu : zIn (ms (ms u 25 0 0) 23 0 a) := zIn_cap (zIn_25 hI) (by unfold mcCap at hcd9; omega)
    have hUu : zUn (ms (ms u 25 0 0) 23 0 a) := hU
    refine lv_aload_n hx hb dL_law_477 rfl (lv_at hl 4 rfl) ?_
    refine lv_aload_n hx hb dL_law_478 rfl (lv_at hl 6 rfl) ?_
    refine lv_iload hx hb dL_law_479 (lv_at hl 1 rfl) ?_
    refine lv_iconst (v := zi (1)) hx hb dL_law_481 rfl ?_
    refine z_iadd (a := 6 * (kk : Int)) (b := 1) hx hb dL_law_482 ?_
    refine z_sld (i := (6 * (kk : Int) + 1)) (v := a) hx hb hX hbl hbA hS (by omega) (by rw [show ((6 * (kk : Int) + 1) : Int).toNat = 6 * kk + 1 by omega]; exact e1) dL_law_483 ?_
    have hsz := hS.1
    have hMw : mH D tc (fun q => zMm m0 aM q ∨ H1.size ≤ q) m0 aM u H1 := hM.mono (fun q _ h => Or.inl h)
    refine z_invVB (n := 1) (C := RX6) (B := (fun q => zMm m0 aM q ∨ H1.size ≤ q)) (fun q h => (hLA.M (H := H1) hsz).2.2.1 q h) (c_X6_cap l (hLA.M (H := H1) hsz) (a := a) h0 hI) X hS (fun q h => Or.inr h) hMw hl.1 (q_778 hT hW) (q_7 hT hW) (q_775 hT hW) (q_776 hT hW) (q_777 hT hW) (m_recv hK hMw) (by decide +kernel) rfl ⟨Nat.le_of_ble_eq_true rfl, Nat.le_of_ble_eq_true rfl⟩ ⟨by show cells + 1 + 0 ≤ 601024; omega, by show slots + 6 + 0 ≤ 7293034; omega⟩ (Nat.le_of_ble_eq_true rfl) dL_law_484 (fun v H2 locs hv hfr hS => ?_) rfl
    rw [if_neg hcd, if_neg hcd] at hv
    obtain ⟨rfl, hM⟩ := hv
    have hM := hM.restrict
    have hHC := hHC.frame hfr (fun q hB hq hm => hm.elim (zBc_M hB) (fun g => by omega))
    have hO3 := hO3.frame hfr (fun z => z.elim (zMm_not hLA).1 (fun g => by have := hO3.lt; omega))
    have hO2 := hO2.frame hfr (fun z => z.elim (zMm_not hLA).2 (fun g => by have := hO2.lt; omega))
    clear hfr hMw hsz
    refine lv_istore (lv' := [(7, .int (zi ((u 23 0)))), (6, .int (zi (mcCap a))), (5, .int (zi (6 * (kk : Int)))), (4, .ref (o2)), (3, .ref (o)), (2, .ref (m0)), (1, .ref (ad 0)), (0, .ref (b))]) hx hb dL_law_487 hl (by decide) rfl (fun ls hl => ?_)
    refine lv_aload_n hx hb dL_law_489 rfl (lv_at hl 5 rfl) ?_
    have hsz := hS.1
    have hMw : mH D tc (fun q => zMm m0 aM q ∨ H2.size ≤ q) m0 aM (ms (ms u 25 0 0) 23 0 a) H2 := hM.mono (fun q _ h => Or.inl h)
    refine z_invVB (n := 0) (C := RX6) (B := (fun q => zMm m0 aM q ∨ H2.size ≤ q)) (fun q h => (hLA.M (H := H2) hsz).2.2.1 q h) (c_X6_thrown l (hLA.M (H := H2) hsz) (u := (ms (ms u 25 0 0) 23 0 a))) X hS (fun q h => Or.inr h) hMw hl.1 (q_746 hT hW) (q_7 hT hW) (q_743 hT hW) (q_744 hT hW) (q_745 hT hW) (m_recv hK hMw) (by decide +kernel) rfl ⟨Nat.le_of_ble_eq_true rfl, Nat.le_of_ble_eq_true rfl⟩ ⟨by show cells + 1 + 0 + 0 ≤ 601024; omega, by show slots + 6 + 0 + 0 ≤ 7293034; omega⟩ (Nat.le_of_ble_eq_true rfl) dL_law_490 (fun v H3 locs hv hfr hS => ?_) rfl
    obtain ⟨rfl, hM⟩ := hv
    have hM := hM.restrict
    have hHC := hHC.frame hfr (fun q hB hq hm => hm.elim (zBc_M hB) (fun g => by omega))
    have hO3 := hO3.frame hfr (fun z => z.elim (zMm_not hLA).1 (fun g => by have := hO3.lt; omega))
    have hO2 := hO2.frame hfr (fun z => z.elim (zMm_not hLA).2 (fun g => by have := hO2.lt; omega))
    clear hfr hMw hsz
    obtain ⟨t25, ht25⟩ : ∃ t25 : Int, t25 = (ms (ms u 25 0 0) 23 0 a) 25 0 := ⟨_, rfl⟩
    rw [← ht25]
    have h25 : (ms (ms u 25 0 0) 23 0 a) 25 0 = 0 := by rfl
    rw [h25] at ht25
    refine lv_iload hx hb dL_law_493 (lv_at hl 1 rfl) ?_
    refine z_icmp_eq (a := t25) (b := mcCap a) (tgt := 500) hx hb dL_law_495 (by decide) (by omega) (fun h_495 => ?_) (fun h_495 => ?_)
    · skip
      refine lv_iload hx hb dL_law_500 (lv_at hl 1 rfl) ?_
      refine z_if_ne (a := mcCap a) (tgt := 517) hx hb dL_law_502 (by decide) (by omega) (fun h_502 => ?_) (fun h_502 => ?_)
      · skip
        exact absurd h_502 (by omega)
      · skip
        refine lv_aload_n hx hb dL_law_505 rfl (lv_at hl 4 rfl) ?_
        refine lv_iconst (v := zi (0)) hx hb dL_law_506 rfl ?_
        obtain ⟨f9, hf9, hR9⟩ := hO3
        refine z_lald (i := 0) hx hb hK hR9 2 zu_eq rfl (by omega) dL_law_507 ?_
        rw [show f9 (0 : Int).toNat = (zi (u 23 0)).toInt64 from hf9.trans hv4]
        have hO3 : zOL D tc o v3 H3 := ⟨f9, hf9, hR9⟩
        refine lv_iload hx hb dL_law_508 (lv_at hl 0 rfl) ?_
        refine lv_i2l hx hb dL_law_510 rfl ?_
        refine z_lcmp0 hx hb dL_law_511 ?_
        refine z_if_eq (a := 0) (tgt := 517) hx hb dL_law_512 (by decide) (by omega) (fun h_512 => ?_) (fun h_512 => ?_)
        · skip
          refine lv_goto (tgt := 970) hx hb dL_law_517 (by decide) ?_
          exact kq (ms (ms u 25 0 0) 23 0 a) _ _ _ _ _ (by show cells + 1 + 0 + 0 ≤ cells + 600; omega) (by show slots + 6 + 0 + 0 ≤ slots + 10960; omega) hIu hUu ⟨hHC, hM, ⟨v3, hO3⟩, ⟨v2, hO2⟩⟩ hS (lv_sub hl [2, 3, 4, 5, 6, 7] rfl)
        · skip
          exact absurd rfl h_512
    · skip
      exact absurd (by omega) h_495
set_option maxHeartbeats 4000000 in
set_option maxRecDepth 100000 in
theorem t_pass {p : Program} {l : Launch} {e : Env} {s : State} {m : MethodId} {below : List Frame} {meth : Method} {c : Code} {Q : State → Prop} {b L : Nat} {xs : Nat → Int32} {D : va_G} {tc : Nat → ClassId} {dz m0 : Nat} {aM : Nat → Nat} {o o2 : Nat} {ad : Nat → Nat} {u : zS_} {H : Heap} {locs : List Loc} {ls : Array Slot} {cells slots : Nat} (hflags : l.stackTraces = false) (hx : p.tables.exec = Jvm.exec) (hb : c.code = cL_law) (hml : c.maxLocals = 8) (hown : s.vm.findClass RL = some m.cls) (hX : va_X b L xs s s.heap) (hbl : b < s.heap.size) (hL : L ≤ 3072) (hLA : zLA s D tc dz m0 aM o o2) (hI : zIn u) (hU : zUn u) {kk : Nat} (hkk : 6 * kk + 6 ≤ L) {n : Int} (h0 : -2147483648 ≤ n ∧ n ≤ 2147483647) (e1 : xs (6 * kk + 1) = zi n)
    (hw : zLw s D tc dz ad m0 aM o o2 u H) (hS : va_S (fun q => s.heap.size ≤ q) s.heap H locs) (hl : lv_has ls 8 [(5, .int (zi (6 * (kk : Int)))), (4, .ref (o2)), (3, .ref (o)), (2, .ref (m0)), (1, .ref (ad 0)), (0, .ref (b))]) (hcs : cells + 600 ≤ 601024 ∧ slots + 10960 ≤ 7293034)
    (kq : ∀ (u' : zS_) (H : Heap) (locs : List Loc) (ls : Array Slot) (cells' slots' : Nat), cells' ≤ cells + 600 → slots' ≤ slots + 10960 → zIn u' → zUn u' → zLw s D tc dz ad m0 aM o o2 u' H → va_S (fun q => s.heap.size ≤ q) s.heap H locs → lv_has ls 8 [(5, .int (zi (6 * (kk : Int)))), (4, .ref (o2)), (3, .ref (o)), (2, .ref (m0)), (1, .ref (ad 0)), (0, .ref (b))] → W p l e room_1 s m #[Value.ref b] below meth c H locs cells' slots' Q (F0 m 970 ls [])) : W p l e room_1 s m #[Value.ref b] below meth c H locs cells slots Q (F0 m 520 ls []) := by
  have hW := State.WarmedH.refl s
  have X : zH s (fun q => s.heap.size ≤ q) p s m c cL_law 8 RL := ⟨hx, hb, hml, hown, hW, ⟨Nat.le_refl _, fun _ _ => rfl⟩, fun q h => h, fun q h => h⟩
  have hT := hLA.1.1
  have hK := hLA.1.2.1
  have hbA : ¬ (fun q => s.heap.size ≤ q) b := fun z => absurd z (by show ¬ s.heap.size ≤ b; omega)
  have hc9 : 0 ≤ mcPass u n ∧ mcPass u n ≤ 3 := by unfold mcPass; omega
  have hI1 := hI.1
  refine lv_aload_n hx hb dL_law_520 rfl (lv_at hl 4 rfl) ?_
  refine lv_aload_n hx hb dL_law_521 rfl (lv_at hl 5 rfl) ?_
  refine lv_iload hx hb dL_law_522 (lv_at hl 0 rfl) ?_
  refine lv_iconst (v := zi (1)) hx hb dL_law_524 rfl ?_
  refine z_iadd (a := 6 * (kk : Int)) (b := 1) hx hb dL_law_525 ?_
  refine z_sld (i := (6 * (kk : Int) + 1)) (v := n) hx hb hX hbl hbA hS (by omega) (by rw [show ((6 * (kk : Int) + 1) : Int).toNat = 6 * kk + 1 by omega]; exact e1) dL_law_526 ?_
  refine lv_aload_n hx hb dL_law_527 rfl (lv_at hl 2 rfl) ?_
  obtain ⟨hHC, hM, ⟨v1, hO⟩, ⟨v2, hO2⟩⟩ := hw
  have hsz := hS.1
  have hfr0 : ∀ q : Nat, H.size ≤ q → zBc s m0 aM o o2 q := zLw.fresh hsz ⟨hHC, hM, ⟨v1, hO⟩, ⟨v2, hO2⟩⟩
  refine z_invSH (n := 3) (B := (fun q => zBc s m0 aM o o2 q ∨ q = o)) (fun q h => h.elim (fun z => z.1) (fun z => by rw [z]; exact hLA.2.2.1.2.2.1)) (c_L_pass l hflags hLA.B hLA.2.1 (ad := ad) (u := ms u 25 0 0) (o := o) hLA.2.2.1.2.2.1 (fun z => z.2.2.2.1 rfl) (n := n) h0 (zIn_25 hI) hU) X hS (fun q h => Or.inl (hfr0 q h)) ⟨hHC.c25, ⟨v1, hO⟩, hfr0⟩ hl.1 (q_463 hT hW) (q_0 hT hW) (q_461 hT hW) (q_462 hT hW) (by decide +kernel) rfl ⟨Nat.le_of_ble_eq_true rfl, Nat.le_of_ble_eq_true rfl⟩ ⟨by show cells + 577 ≤ 601024; omega, by show slots + 10950 ≤ 7293034; omega⟩ (Nat.le_of_ble_eq_true rfl) dL_law_528 (fun v H1 locs hv hfr hS => ?_) rfl
  have hv : v = some (.int (zi (mcPass u n))) ∧ (0 < mcPass u n → zHC D tc dz (zBc s m0 aM o o2) ad (ms u 25 0 0) H1) ∧ (mcPass u n = 0 → zHC D tc dz (zBc s m0 aM o o2) ad (mpass (ms u 25 0 0) n.toNat) H1) ∧ ∃ v : Int64, zOL D tc o v H1 ∧ (mcPass u n = 0 → v = (zi (mpass (ms u 25 0 0) n.toNat 24 0)).toInt64) := hv
  obtain ⟨rfl, hc1, hc0, v3, hO3, hv3⟩ := hv
  have hM := mH.frame hM hfr (fun q hq _ hB => hB.elim (fun g => zBc_M g hq) (fun g => (zMm_not hLA).1 (by rw [← g]; exact hq)))
  have hO2 := hO2.frame hfr (fun z => z.elim (fun g => g.2.2.2.2 rfl) (fun g => hLA.2.2.2.1 g.symm))
  clear hHC hfr hfr0 hsz
  refine lv_istore (lv' := [(6, .int (zi (mcPass u n))), (5, .int (zi (6 * (kk : Int)))), (4, .ref (o2)), (3, .ref (o)), (2, .ref (m0)), (1, .ref (ad 0)), (0, .ref (b))]) hx hb dL_law_531 hl (by decide) rfl (fun ls hl => ?_)
  by_cases hcd : 0 < mcPass u n
  · skip
    have hHC : zHC D tc dz (zBc s m0 aM o o2) ad (ms u 25 0 (mcPass u n)) H1 := by
      have g := (hc1 hcd).c25 (x := mcPass u n)
      rw [ms_ms] at g
      exact g
    have hIu : zIn (ms u 25 0 (mcPass u n)) := zIn_25 hI
    have hUu : zUn (ms u 25 0 (mcPass u n)) := hU
    refine lv_aload_n hx hb dL_law_533 rfl (lv_at hl 4 rfl) ?_
    refine lv_aload_n hx hb dL_law_534 rfl (lv_at hl 6 rfl) ?_
    refine lv_iload hx hb dL_law_535 (lv_at hl 1 rfl) ?_
    refine lv_iconst (v := zi (1)) hx hb dL_law_537 rfl ?_
    refine z_iadd (a := 6 * (kk : Int)) (b := 1) hx hb dL_law_538 ?_
    refine z_sld (i := (6 * (kk : Int) + 1)) (v := n) hx hb hX hbl hbA hS (by omega) (by rw [show ((6 * (kk : Int) + 1) : Int).toNat = 6 * kk + 1 by omega]; exact e1) dL_law_539 ?_
    have hsz := hS.1
    have hMw : mH D tc (fun q => zMm m0 aM q ∨ H1.size ≤ q) m0 aM u H1 := hM.mono (fun q _ h => Or.inl h)
    refine z_invVB (n := 1) (C := RX6) (B := (fun q => zMm m0 aM q ∨ H1.size ≤ q)) (fun q h => (hLA.M (H := H1) hsz).2.2.1 q h) (c_X6_pass l (hLA.M (H := H1) hsz) (n := n) h0 hI) X hS (fun q h => Or.inr h) hMw hl.1 (q_782 hT hW) (q_7 hT hW) (q_779 hT hW) (q_780 hT hW) (q_781 hT hW) (m_recv hK hMw) (by decide +kernel) rfl ⟨Nat.le_of_ble_eq_true rfl, Nat.le_of_ble_eq_true rfl⟩ ⟨by show cells + 577 + 0 ≤ 601024; omega, by show slots + 10950 + 0 ≤ 7293034; omega⟩ (Nat.le_of_ble_eq_true rfl) dL_law_540 (fun v H2 locs hv hfr hS => ?_) rfl
    rw [if_pos hcd, if_pos hcd] at hv
    obtain ⟨rfl, hM⟩ := hv
    have hM := hM.restrict
    have hHC := hHC.frame hfr (fun q hB hq hm => hm.elim (zBc_M hB) (fun g => by omega))
    have hO3 := hO3.frame hfr (fun z => z.elim (zMm_not hLA).1 (fun g => by have := hO3.lt; omega))
    have hO2 := hO2.frame hfr (fun z => z.elim (zMm_not hLA).2 (fun g => by have := hO2.lt; omega))
    clear hfr hMw hsz
    refine lv_istore (lv' := [(7, .int (zi ((-1)))), (6, .int (zi (mcPass u n))), (5, .int (zi (6 * (kk : Int)))), (4, .ref (o2)), (3, .ref (o)), (2, .ref (m0)), (1, .ref (ad 0)), (0, .ref (b))]) hx hb dL_law_543 hl (by decide) rfl (fun ls hl => ?_)
    refine lv_aload_n hx hb dL_law_545 rfl (lv_at hl 5 rfl) ?_
    have hsz := hS.1
    have hMw : mH D tc (fun q => zMm m0 aM q ∨ H2.size ≤ q) m0 aM (ms u 25 0 (mcPass u n)) H2 := hM.mono (fun q _ h => Or.inl h)
    refine z_invVB (n := 0) (C := RX6) (B := (fun q => zMm m0 aM q ∨ H2.size ≤ q)) (fun q h => (hLA.M (H := H2) hsz).2.2.1 q h) (c_X6_thrown l (hLA.M (H := H2) hsz) (u := (ms u 25 0 (mcPass u n)))) X hS (fun q h => Or.inr h) hMw hl.1 (q_746 hT hW) (q_7 hT hW) (q_743 hT hW) (q_744 hT hW) (q_745 hT hW) (m_recv hK hMw) (by decide +kernel) rfl ⟨Nat.le_of_ble_eq_true rfl, Nat.le_of_ble_eq_true rfl⟩ ⟨by show cells + 577 + 0 + 0 ≤ 601024; omega, by show slots + 10950 + 0 + 0 ≤ 7293034; omega⟩ (Nat.le_of_ble_eq_true rfl) dL_law_546 (fun v H3 locs hv hfr hS => ?_) rfl
    obtain ⟨rfl, hM⟩ := hv
    have hM := hM.restrict
    have hHC := hHC.frame hfr (fun q hB hq hm => hm.elim (zBc_M hB) (fun g => by omega))
    have hO3 := hO3.frame hfr (fun z => z.elim (zMm_not hLA).1 (fun g => by have := hO3.lt; omega))
    have hO2 := hO2.frame hfr (fun z => z.elim (zMm_not hLA).2 (fun g => by have := hO2.lt; omega))
    clear hfr hMw hsz
    obtain ⟨t25, ht25⟩ : ∃ t25 : Int, t25 = (ms u 25 0 (mcPass u n)) 25 0 := ⟨_, rfl⟩
    rw [← ht25]
    rw [ms_s] at ht25
    refine lv_iload hx hb dL_law_549 (lv_at hl 1 rfl) ?_
    refine z_icmp_eq (a := t25) (b := mcPass u n) (tgt := 556) hx hb dL_law_551 (by decide) (by omega) (fun h_551 => ?_) (fun h_551 => ?_)
    · skip
      refine lv_iload hx hb dL_law_556 (lv_at hl 1 rfl) ?_
      refine z_if_ne (a := mcPass u n) (tgt := 573) hx hb dL_law_558 (by decide) (by omega) (fun h_558 => ?_) (fun h_558 => ?_)
      · skip
        refine lv_goto (tgt := 970) hx hb dL_law_573 (by decide) ?_
        exact kq (ms u 25 0 (mcPass u n)) _ _ _ _ _ (by show cells + 577 + 0 + 0 ≤ cells + 600; omega) (by show slots + 10950 + 0 + 0 ≤ slots + 10960; omega) hIu hUu ⟨hHC, hM, ⟨v3, hO3⟩, ⟨v2, hO2⟩⟩ hS (lv_sub hl [2, 3, 4, 5, 6, 7] rfl)
      · skip
        exact absurd h_558 (by omega)
    · skip
      exact absurd (by omega) h_551
  · skip
    have hcd9 : mcPass u n = 0 := by omega
    have hHC := hc0 hcd9
    have hv4 := hv3 hcd9
    have hIu : zIn (mpass (ms u 25 0 0) n.toNat) := (zIn_mpass (zIn_25 hI) n.toNat (by unfold mcPass at hcd9; show u 24 0 + (n.toNat : Int) ≤ 999; omega)).1
    have hUu : zUn (mpass (ms u 25 0 0) n.toNat) := zUn_mpass (zIn_25 hI) hU n.toNat (by unfold mcPass at hcd9; show u 24 0 + (n.toNat : Int) ≤ 999; omega)
    refine lv_aload_n hx hb dL_law_533 rfl (lv_at hl 4 rfl) ?_
    refine lv_aload_n hx hb dL_law_534 rfl (lv_at hl 6 rfl) ?_
    refine lv_iload hx hb dL_law_535 (lv_at hl 1 rfl) ?_
    refine lv_iconst (v := zi (1)) hx hb dL_law_537 rfl ?_
    refine z_iadd (a := 6 * (kk : Int)) (b := 1) hx hb dL_law_538 ?_
    refine z_sld (i := (6 * (kk : Int) + 1)) (v := n) hx hb hX hbl hbA hS (by omega) (by rw [show ((6 * (kk : Int) + 1) : Int).toNat = 6 * kk + 1 by omega]; exact e1) dL_law_539 ?_
    have hsz := hS.1
    have hMw : mH D tc (fun q => zMm m0 aM q ∨ H1.size ≤ q) m0 aM u H1 := hM.mono (fun q _ h => Or.inl h)
    refine z_invVB (n := 1) (C := RX6) (B := (fun q => zMm m0 aM q ∨ H1.size ≤ q)) (fun q h => (hLA.M (H := H1) hsz).2.2.1 q h) (c_X6_pass l (hLA.M (H := H1) hsz) (n := n) h0 hI) X hS (fun q h => Or.inr h) hMw hl.1 (q_782 hT hW) (q_7 hT hW) (q_779 hT hW) (q_780 hT hW) (q_781 hT hW) (m_recv hK hMw) (by decide +kernel) rfl ⟨Nat.le_of_ble_eq_true rfl, Nat.le_of_ble_eq_true rfl⟩ ⟨by show cells + 577 + 0 ≤ 601024; omega, by show slots + 10950 + 0 ≤ 7293034; omega⟩ (Nat.le_of_ble_eq_true rfl) dL_law_540 (fun v H2 locs hv hfr hS => ?_) rfl
    rw [if_neg hcd, if_neg hcd] at hv
    obtain ⟨rfl, hM⟩ := hv
    have hM := hM.restrict
    have hHC := hHC.frame hfr (fun q hB hq hm => hm.elim (zBc_M hB) (fun g => by omega))
    have hO3 := hO3.frame hfr (fun z => z.elim (zMm_not hLA).1 (fun g => by have := hO3.lt; omega))
    have hO2 := hO2.frame hfr (fun z => z.elim (zMm_not hLA).2 (fun g => by have := hO2.lt; omega))
    clear hfr hMw hsz
    refine lv_istore (lv' := [(7, .int (zi ((mpass (ms u 25 0 0) n.toNat 24 0)))), (6, .int (zi (mcPass u n))), (5, .int (zi (6 * (kk : Int)))), (4, .ref (o2)), (3, .ref (o)), (2, .ref (m0)), (1, .ref (ad 0)), (0, .ref (b))]) hx hb dL_law_543 hl (by decide) rfl (fun ls hl => ?_)
    refine lv_aload_n hx hb dL_law_545 rfl (lv_at hl 5 rfl) ?_
    have hsz := hS.1
    have hMw : mH D tc (fun q => zMm m0 aM q ∨ H2.size ≤ q) m0 aM (mpass (ms u 25 0 0) n.toNat) H2 := hM.mono (fun q _ h => Or.inl h)
    refine z_invVB (n := 0) (C := RX6) (B := (fun q => zMm m0 aM q ∨ H2.size ≤ q)) (fun q h => (hLA.M (H := H2) hsz).2.2.1 q h) (c_X6_thrown l (hLA.M (H := H2) hsz) (u := (mpass (ms u 25 0 0) n.toNat))) X hS (fun q h => Or.inr h) hMw hl.1 (q_746 hT hW) (q_7 hT hW) (q_743 hT hW) (q_744 hT hW) (q_745 hT hW) (m_recv hK hMw) (by decide +kernel) rfl ⟨Nat.le_of_ble_eq_true rfl, Nat.le_of_ble_eq_true rfl⟩ ⟨by show cells + 577 + 0 + 0 ≤ 601024; omega, by show slots + 10950 + 0 + 0 ≤ 7293034; omega⟩ (Nat.le_of_ble_eq_true rfl) dL_law_546 (fun v H3 locs hv hfr hS => ?_) rfl
    obtain ⟨rfl, hM⟩ := hv
    have hM := hM.restrict
    have hHC := hHC.frame hfr (fun q hB hq hm => hm.elim (zBc_M hB) (fun g => by omega))
    have hO3 := hO3.frame hfr (fun z => z.elim (zMm_not hLA).1 (fun g => by have := hO3.lt; omega))
    have hO2 := hO2.frame hfr (fun z => z.elim (zMm_not hLA).2 (fun g => by have := hO2.lt; omega))
    clear hfr hMw hsz
    obtain ⟨t25, ht25⟩ : ∃ t25 : Int, t25 = (mpass (ms u 25 0 0) n.toNat) 25 0 := ⟨_, rfl⟩
    rw [← ht25]
    have h25 : (mpass (ms u 25 0 0) n.toNat) 25 0 = 0 := by rw [mpass_25]; rfl
    rw [h25] at ht25
    refine lv_iload hx hb dL_law_549 (lv_at hl 1 rfl) ?_
    refine z_icmp_eq (a := t25) (b := mcPass u n) (tgt := 556) hx hb dL_law_551 (by decide) (by omega) (fun h_551 => ?_) (fun h_551 => ?_)
    · skip
      refine lv_iload hx hb dL_law_556 (lv_at hl 1 rfl) ?_
      refine z_if_ne (a := mcPass u n) (tgt := 573) hx hb dL_law_558 (by decide) (by omega) (fun h_558 => ?_) (fun h_558 => ?_)
      · skip
        exact absurd h_558 (by omega)
      · skip
        refine lv_aload_n hx hb dL_law_561 rfl (lv_at hl 4 rfl) ?_
        refine lv_iconst (v := zi (0)) hx hb dL_law_562 rfl ?_
        obtain ⟨f9, hf9, hR9⟩ := hO3
        refine z_lald (i := 0) hx hb hK hR9 2 zu_eq rfl (by omega) dL_law_563 ?_
        rw [show f9 (0 : Int).toNat = (zi (mpass (ms u 25 0 0) n.toNat 24 0)).toInt64 from hf9.trans hv4]
        have hO3 : zOL D tc o v3 H3 := ⟨f9, hf9, hR9⟩
        refine lv_iload hx hb dL_law_564 (lv_at hl 0 rfl) ?_
        refine lv_i2l hx hb dL_law_566 rfl ?_
        refine z_lcmp0 hx hb dL_law_567 ?_
        refine z_if_eq (a := 0) (tgt := 573) hx hb dL_law_568 (by decide) (by omega) (fun h_568 => ?_) (fun h_568 => ?_)
        · skip
          refine lv_goto (tgt := 970) hx hb dL_law_573 (by decide) ?_
          exact kq (mpass (ms u 25 0 0) n.toNat) _ _ _ _ _ (by show cells + 577 + 0 + 0 ≤ cells + 600; omega) (by show slots + 10950 + 0 + 0 ≤ slots + 10960; omega) hIu hUu ⟨hHC, hM, ⟨v3, hO3⟩, ⟨v2, hO2⟩⟩ hS (lv_sub hl [2, 3, 4, 5, 6, 7] rfl)
        · skip
          exact absurd rfl h_568
    · skip
      exact absurd (by omega) h_551
set_option maxHeartbeats 4000000 in
set_option maxRecDepth 100000 in
theorem t_storm {p : Program} {l : Launch} {e : Env} {s : State} {m : MethodId} {below : List Frame} {meth : Method} {c : Code} {Q : State → Prop} {b L : Nat} {xs : Nat → Int32} {D : va_G} {tc : Nat → ClassId} {dz m0 : Nat} {aM : Nat → Nat} {o o2 : Nat} {ad : Nat → Nat} {u : zS_} {H : Heap} {locs : List Loc} {ls : Array Slot} {cells slots : Nat} (hflags : l.stackTraces = false) (hx : p.tables.exec = Jvm.exec) (hb : c.code = cL_law) (hml : c.maxLocals = 8) (hown : s.vm.findClass RL = some m.cls) (hX : va_X b L xs s s.heap) (hbl : b < s.heap.size) (hL : L ≤ 3072) (hLA : zLA s D tc dz m0 aM o o2) (hI : zIn u) (hU : zUn u) {kk : Nat} (hkk : 6 * kk + 6 ≤ L) {a h : Int} (h0 : -2147483648 ≤ a ∧ a ≤ 2147483647 ∧ -2147483648 ≤ h ∧ h ≤ 2147483647) (e1 : xs (6 * kk + 1) = zi a) (e2 : xs (6 * kk + 2) = zi h)
    (hw : zLw s D tc dz ad m0 aM o o2 u H) (hS : va_S (fun q => s.heap.size ≤ q) s.heap H locs) (hl : lv_has ls 8 [(5, .int (zi (6 * (kk : Int)))), (4, .ref (o2)), (3, .ref (o)), (2, .ref (m0)), (1, .ref (ad 0)), (0, .ref (b))]) (hcs : cells + 600 ≤ 601024 ∧ slots + 10960 ≤ 7293034)
    (kq : ∀ (u' : zS_) (H : Heap) (locs : List Loc) (ls : Array Slot) (cells' slots' : Nat), cells' ≤ cells + 600 → slots' ≤ slots + 10960 → zIn u' → zUn u' → zLw s D tc dz ad m0 aM o o2 u' H → va_S (fun q => s.heap.size ≤ q) s.heap H locs → lv_has ls 8 [(5, .int (zi (6 * (kk : Int)))), (4, .ref (o2)), (3, .ref (o)), (2, .ref (m0)), (1, .ref (ad 0)), (0, .ref (b))] → W p l e room_1 s m #[Value.ref b] below meth c H locs cells' slots' Q (F0 m 970 ls [])) : W p l e room_1 s m #[Value.ref b] below meth c H locs cells slots Q (F0 m 576 ls []) := by
  have hW := State.WarmedH.refl s
  have X : zH s (fun q => s.heap.size ≤ q) p s m c cL_law 8 RL := ⟨hx, hb, hml, hown, hW, ⟨Nat.le_refl _, fun _ _ => rfl⟩, fun q h => h, fun q h => h⟩
  have hT := hLA.1.1
  have hK := hLA.1.2.1
  have hbA : ¬ (fun q => s.heap.size ≤ q) b := fun z => absurd z (by show ¬ s.heap.size ≤ b; omega)
  have hc9 : 0 ≤ mcStorm u a h ∧ mcStorm u a h ≤ 3 := by unfold mcStorm; omega
  have hI1 := hI.1
  refine lv_aload_n hx hb dL_law_576 rfl (lv_at hl 4 rfl) ?_
  refine lv_aload_n hx hb dL_law_577 rfl (lv_at hl 5 rfl) ?_
  refine lv_iload hx hb dL_law_578 (lv_at hl 0 rfl) ?_
  refine lv_iconst (v := zi (1)) hx hb dL_law_580 rfl ?_
  refine z_iadd (a := 6 * (kk : Int)) (b := 1) hx hb dL_law_581 ?_
  refine z_sld (i := (6 * (kk : Int) + 1)) (v := a) hx hb hX hbl hbA hS (by omega) (by rw [show ((6 * (kk : Int) + 1) : Int).toNat = 6 * kk + 1 by omega]; exact e1) dL_law_582 ?_
  refine lv_aload_n hx hb dL_law_583 rfl (lv_at hl 5 rfl) ?_
  refine lv_iload hx hb dL_law_584 (lv_at hl 0 rfl) ?_
  refine lv_iconst (v := zi (2)) hx hb dL_law_586 rfl ?_
  refine z_iadd (a := 6 * (kk : Int)) (b := 2) hx hb dL_law_587 ?_
  refine z_sld (i := (6 * (kk : Int) + 2)) (v := h) hx hb hX hbl hbA hS (by omega) (by rw [show ((6 * (kk : Int) + 2) : Int).toNat = 6 * kk + 2 by omega]; exact e2) dL_law_588 ?_
  refine lv_aload_n hx hb dL_law_589 rfl (lv_at hl 2 rfl) ?_
  obtain ⟨hHC, hM, ⟨v1, hO⟩, ⟨v2, hO2⟩⟩ := hw
  have hsz := hS.1
  have hfr0 : ∀ q : Nat, H.size ≤ q → zBc s m0 aM o o2 q := zLw.fresh hsz ⟨hHC, hM, ⟨v1, hO⟩, ⟨v2, hO2⟩⟩
  refine z_invSH (n := 4) (B := (fun q => zBc s m0 aM o o2 q ∨ q = o)) (fun q h => h.elim (fun z => z.1) (fun z => by rw [z]; exact hLA.2.2.1.2.2.1)) (c_L_storm l hflags hLA.B hLA.2.1 (ad := ad) (u := ms u 25 0 0) (o := o) hLA.2.2.1.2.2.1 (fun z => z.2.2.2.1 rfl) (a := a) (h := h) h0 (zIn_25 hI) hU) X hS (fun q h => Or.inl (hfr0 q h)) ⟨hHC.c25, ⟨v1, hO⟩, hfr0⟩ hl.1 (q_587 hT hW) (q_0 hT hW) (q_585 hT hW) (q_586 hT hW) (by decide +kernel) rfl ⟨Nat.le_of_ble_eq_true rfl, Nat.le_of_ble_eq_true rfl⟩ ⟨by show cells + 2 ≤ 601024; omega, by show slots + 12 ≤ 7293034; omega⟩ (Nat.le_of_ble_eq_true rfl) dL_law_590 (fun v H1 locs hv hfr hS => ?_) rfl
  have hv : v = some (.int (zi (mcStorm u a h))) ∧ (0 < mcStorm u a h → zHC D tc dz (zBc s m0 aM o o2) ad (ms u 25 0 0) H1) ∧ (mcStorm u a h = 0 → zHC D tc dz (zBc s m0 aM o o2) ad ((ms u 25 0 0)) H1) ∧ ∃ v : Int64, zOL D tc o v H1 ∧ (mcStorm u a h = 0 → v = (zi (u 0 (1000 * a + h).toNat)).toInt64) := hv
  obtain ⟨rfl, hc1, hc0, v3, hO3, hv3⟩ := hv
  have hM := mH.frame hM hfr (fun q hq _ hB => hB.elim (fun g => zBc_M g hq) (fun g => (zMm_not hLA).1 (by rw [← g]; exact hq)))
  have hO2 := hO2.frame hfr (fun z => z.elim (fun g => g.2.2.2.2 rfl) (fun g => hLA.2.2.2.1 g.symm))
  clear hHC hfr hfr0 hsz
  refine lv_istore (lv' := [(6, .int (zi (mcStorm u a h))), (5, .int (zi (6 * (kk : Int)))), (4, .ref (o2)), (3, .ref (o)), (2, .ref (m0)), (1, .ref (ad 0)), (0, .ref (b))]) hx hb dL_law_593 hl (by decide) rfl (fun ls hl => ?_)
  by_cases hcd : 0 < mcStorm u a h
  · skip
    have hHC : zHC D tc dz (zBc s m0 aM o o2) ad (ms u 25 0 (mcStorm u a h)) H1 := by
      have g := (hc1 hcd).c25 (x := mcStorm u a h)
      rw [ms_ms] at g
      exact g
    have hIu : zIn (ms u 25 0 (mcStorm u a h)) := zIn_25 hI
    have hUu : zUn (ms u 25 0 (mcStorm u a h)) := hU
    refine lv_aload_n hx hb dL_law_595 rfl (lv_at hl 4 rfl) ?_
    refine lv_aload_n hx hb dL_law_596 rfl (lv_at hl 6 rfl) ?_
    refine lv_iload hx hb dL_law_597 (lv_at hl 1 rfl) ?_
    refine lv_iconst (v := zi (1)) hx hb dL_law_599 rfl ?_
    refine z_iadd (a := 6 * (kk : Int)) (b := 1) hx hb dL_law_600 ?_
    refine z_sld (i := (6 * (kk : Int) + 1)) (v := a) hx hb hX hbl hbA hS (by omega) (by rw [show ((6 * (kk : Int) + 1) : Int).toNat = 6 * kk + 1 by omega]; exact e1) dL_law_601 ?_
    refine lv_aload_n hx hb dL_law_602 rfl (lv_at hl 6 rfl) ?_
    refine lv_iload hx hb dL_law_603 (lv_at hl 1 rfl) ?_
    refine lv_iconst (v := zi (2)) hx hb dL_law_605 rfl ?_
    refine z_iadd (a := 6 * (kk : Int)) (b := 2) hx hb dL_law_606 ?_
    refine z_sld (i := (6 * (kk : Int) + 2)) (v := h) hx hb hX hbl hbA hS (by omega) (by rw [show ((6 * (kk : Int) + 2) : Int).toNat = 6 * kk + 2 by omega]; exact e2) dL_law_607 ?_
    have hsz := hS.1
    have hMw : mH D tc (fun q => zMm m0 aM q ∨ H1.size ≤ q) m0 aM u H1 := hM.mono (fun q _ h => Or.inl h)
    refine z_invVB (n := 2) (C := RX6) (B := (fun q => zMm m0 aM q ∨ H1.size ≤ q)) (fun q h => (hLA.M (H := H1) hsz).2.2.1 q h) (c_X6_storm l (hLA.M (H := H1) hsz) (a := a) (h := h) h0 hI) X hS (fun q h => Or.inr h) hMw hl.1 (q_822 hT hW) (q_7 hT hW) (q_819 hT hW) (q_820 hT hW) (q_821 hT hW) (m_recv hK hMw) (by decide +kernel) rfl ⟨Nat.le_of_ble_eq_true rfl, Nat.le_of_ble_eq_true rfl⟩ ⟨by show cells + 2 + 0 ≤ 601024; omega, by show slots + 12 + 0 ≤ 7293034; omega⟩ (Nat.le_of_ble_eq_true rfl) dL_law_608 (fun v H2 locs hv hfr hS => ?_) rfl
    rw [if_pos hcd, if_pos hcd] at hv
    obtain ⟨rfl, hM⟩ := hv
    have hM := hM.restrict
    have hHC := hHC.frame hfr (fun q hB hq hm => hm.elim (zBc_M hB) (fun g => by omega))
    have hO3 := hO3.frame hfr (fun z => z.elim (zMm_not hLA).1 (fun g => by have := hO3.lt; omega))
    have hO2 := hO2.frame hfr (fun z => z.elim (zMm_not hLA).2 (fun g => by have := hO2.lt; omega))
    clear hfr hMw hsz
    refine lv_istore (lv' := [(7, .int (zi ((-1)))), (6, .int (zi (mcStorm u a h))), (5, .int (zi (6 * (kk : Int)))), (4, .ref (o2)), (3, .ref (o)), (2, .ref (m0)), (1, .ref (ad 0)), (0, .ref (b))]) hx hb dL_law_611 hl (by decide) rfl (fun ls hl => ?_)
    refine lv_aload_n hx hb dL_law_613 rfl (lv_at hl 5 rfl) ?_
    have hsz := hS.1
    have hMw : mH D tc (fun q => zMm m0 aM q ∨ H2.size ≤ q) m0 aM (ms u 25 0 (mcStorm u a h)) H2 := hM.mono (fun q _ h => Or.inl h)
    refine z_invVB (n := 0) (C := RX6) (B := (fun q => zMm m0 aM q ∨ H2.size ≤ q)) (fun q h => (hLA.M (H := H2) hsz).2.2.1 q h) (c_X6_thrown l (hLA.M (H := H2) hsz) (u := (ms u 25 0 (mcStorm u a h)))) X hS (fun q h => Or.inr h) hMw hl.1 (q_746 hT hW) (q_7 hT hW) (q_743 hT hW) (q_744 hT hW) (q_745 hT hW) (m_recv hK hMw) (by decide +kernel) rfl ⟨Nat.le_of_ble_eq_true rfl, Nat.le_of_ble_eq_true rfl⟩ ⟨by show cells + 2 + 0 + 0 ≤ 601024; omega, by show slots + 12 + 0 + 0 ≤ 7293034; omega⟩ (Nat.le_of_ble_eq_true rfl) dL_law_614 (fun v H3 locs hv hfr hS => ?_) rfl
    obtain ⟨rfl, hM⟩ := hv
    have hM := hM.restrict
    have hHC := hHC.frame hfr (fun q hB hq hm => hm.elim (zBc_M hB) (fun g => by omega))
    have hO3 := hO3.frame hfr (fun z => z.elim (zMm_not hLA).1 (fun g => by have := hO3.lt; omega))
    have hO2 := hO2.frame hfr (fun z => z.elim (zMm_not hLA).2 (fun g => by have := hO2.lt; omega))
    clear hfr hMw hsz
    obtain ⟨t25, ht25⟩ : ∃ t25 : Int, t25 = (ms u 25 0 (mcStorm u a h)) 25 0 := ⟨_, rfl⟩
    rw [← ht25]
    rw [ms_s] at ht25
    refine lv_iload hx hb dL_law_617 (lv_at hl 1 rfl) ?_
    refine z_icmp_eq (a := t25) (b := mcStorm u a h) (tgt := 624) hx hb dL_law_619 (by decide) (by omega) (fun h_619 => ?_) (fun h_619 => ?_)
    · skip
      refine lv_iload hx hb dL_law_624 (lv_at hl 1 rfl) ?_
      refine z_if_ne (a := mcStorm u a h) (tgt := 641) hx hb dL_law_626 (by decide) (by omega) (fun h_626 => ?_) (fun h_626 => ?_)
      · skip
        refine lv_goto (tgt := 970) hx hb dL_law_641 (by decide) ?_
        exact kq (ms u 25 0 (mcStorm u a h)) _ _ _ _ _ (by show cells + 2 + 0 + 0 ≤ cells + 600; omega) (by show slots + 12 + 0 + 0 ≤ slots + 10960; omega) hIu hUu ⟨hHC, hM, ⟨v3, hO3⟩, ⟨v2, hO2⟩⟩ hS (lv_sub hl [2, 3, 4, 5, 6, 7] rfl)
      · skip
        exact absurd h_626 (by omega)
    · skip
      exact absurd (by omega) h_619
  · skip
    have hcd9 : mcStorm u a h = 0 := by omega
    have hHC := hc0 hcd9
    have hv4 := hv3 hcd9
    have hIu : zIn ((ms u 25 0 0)) := zIn_25 hI
    have hUu : zUn ((ms u 25 0 0)) := hU
    refine lv_aload_n hx hb dL_law_595 rfl (lv_at hl 4 rfl) ?_
    refine lv_aload_n hx hb dL_law_596 rfl (lv_at hl 6 rfl) ?_
    refine lv_iload hx hb dL_law_597 (lv_at hl 1 rfl) ?_
    refine lv_iconst (v := zi (1)) hx hb dL_law_599 rfl ?_
    refine z_iadd (a := 6 * (kk : Int)) (b := 1) hx hb dL_law_600 ?_
    refine z_sld (i := (6 * (kk : Int) + 1)) (v := a) hx hb hX hbl hbA hS (by omega) (by rw [show ((6 * (kk : Int) + 1) : Int).toNat = 6 * kk + 1 by omega]; exact e1) dL_law_601 ?_
    refine lv_aload_n hx hb dL_law_602 rfl (lv_at hl 6 rfl) ?_
    refine lv_iload hx hb dL_law_603 (lv_at hl 1 rfl) ?_
    refine lv_iconst (v := zi (2)) hx hb dL_law_605 rfl ?_
    refine z_iadd (a := 6 * (kk : Int)) (b := 2) hx hb dL_law_606 ?_
    refine z_sld (i := (6 * (kk : Int) + 2)) (v := h) hx hb hX hbl hbA hS (by omega) (by rw [show ((6 * (kk : Int) + 2) : Int).toNat = 6 * kk + 2 by omega]; exact e2) dL_law_607 ?_
    have hsz := hS.1
    have hMw : mH D tc (fun q => zMm m0 aM q ∨ H1.size ≤ q) m0 aM u H1 := hM.mono (fun q _ h => Or.inl h)
    refine z_invVB (n := 2) (C := RX6) (B := (fun q => zMm m0 aM q ∨ H1.size ≤ q)) (fun q h => (hLA.M (H := H1) hsz).2.2.1 q h) (c_X6_storm l (hLA.M (H := H1) hsz) (a := a) (h := h) h0 hI) X hS (fun q h => Or.inr h) hMw hl.1 (q_822 hT hW) (q_7 hT hW) (q_819 hT hW) (q_820 hT hW) (q_821 hT hW) (m_recv hK hMw) (by decide +kernel) rfl ⟨Nat.le_of_ble_eq_true rfl, Nat.le_of_ble_eq_true rfl⟩ ⟨by show cells + 2 + 0 ≤ 601024; omega, by show slots + 12 + 0 ≤ 7293034; omega⟩ (Nat.le_of_ble_eq_true rfl) dL_law_608 (fun v H2 locs hv hfr hS => ?_) rfl
    rw [if_neg hcd, if_neg hcd] at hv
    obtain ⟨rfl, hM⟩ := hv
    have hM := hM.restrict
    have hHC := hHC.frame hfr (fun q hB hq hm => hm.elim (zBc_M hB) (fun g => by omega))
    have hO3 := hO3.frame hfr (fun z => z.elim (zMm_not hLA).1 (fun g => by have := hO3.lt; omega))
    have hO2 := hO2.frame hfr (fun z => z.elim (zMm_not hLA).2 (fun g => by have := hO2.lt; omega))
    clear hfr hMw hsz
    refine lv_istore (lv' := [(7, .int (zi ((u 0 (1000 * a + h).toNat)))), (6, .int (zi (mcStorm u a h))), (5, .int (zi (6 * (kk : Int)))), (4, .ref (o2)), (3, .ref (o)), (2, .ref (m0)), (1, .ref (ad 0)), (0, .ref (b))]) hx hb dL_law_611 hl (by decide) rfl (fun ls hl => ?_)
    refine lv_aload_n hx hb dL_law_613 rfl (lv_at hl 5 rfl) ?_
    have hsz := hS.1
    have hMw : mH D tc (fun q => zMm m0 aM q ∨ H2.size ≤ q) m0 aM ((ms u 25 0 0)) H2 := hM.mono (fun q _ h => Or.inl h)
    refine z_invVB (n := 0) (C := RX6) (B := (fun q => zMm m0 aM q ∨ H2.size ≤ q)) (fun q h => (hLA.M (H := H2) hsz).2.2.1 q h) (c_X6_thrown l (hLA.M (H := H2) hsz) (u := ((ms u 25 0 0)))) X hS (fun q h => Or.inr h) hMw hl.1 (q_746 hT hW) (q_7 hT hW) (q_743 hT hW) (q_744 hT hW) (q_745 hT hW) (m_recv hK hMw) (by decide +kernel) rfl ⟨Nat.le_of_ble_eq_true rfl, Nat.le_of_ble_eq_true rfl⟩ ⟨by show cells + 2 + 0 + 0 ≤ 601024; omega, by show slots + 12 + 0 + 0 ≤ 7293034; omega⟩ (Nat.le_of_ble_eq_true rfl) dL_law_614 (fun v H3 locs hv hfr hS => ?_) rfl
    obtain ⟨rfl, hM⟩ := hv
    have hM := hM.restrict
    have hHC := hHC.frame hfr (fun q hB hq hm => hm.elim (zBc_M hB) (fun g => by omega))
    have hO3 := hO3.frame hfr (fun z => z.elim (zMm_not hLA).1 (fun g => by have := hO3.lt; omega))
    have hO2 := hO2.frame hfr (fun z => z.elim (zMm_not hLA).2 (fun g => by have := hO2.lt; omega))
    clear hfr hMw hsz
    obtain ⟨t25, ht25⟩ : ∃ t25 : Int, t25 = ((ms u 25 0 0)) 25 0 := ⟨_, rfl⟩
    rw [← ht25]
    have h25 : ((ms u 25 0 0)) 25 0 = 0 := by rfl
    rw [h25] at ht25
    refine lv_iload hx hb dL_law_617 (lv_at hl 1 rfl) ?_
    refine z_icmp_eq (a := t25) (b := mcStorm u a h) (tgt := 624) hx hb dL_law_619 (by decide) (by omega) (fun h_619 => ?_) (fun h_619 => ?_)
    · skip
      refine lv_iload hx hb dL_law_624 (lv_at hl 1 rfl) ?_
      refine z_if_ne (a := mcStorm u a h) (tgt := 641) hx hb dL_law_626 (by decide) (by omega) (fun h_626 => ?_) (fun h_626 => ?_)
      · skip
        exact absurd h_626 (by omega)
      · skip
        refine lv_aload_n hx hb dL_law_629 rfl (lv_at hl 4 rfl) ?_
        refine lv_iconst (v := zi (0)) hx hb dL_law_630 rfl ?_
        obtain ⟨f9, hf9, hR9⟩ := hO3
        refine z_lald (i := 0) hx hb hK hR9 2 zu_eq rfl (by omega) dL_law_631 ?_
        rw [show f9 (0 : Int).toNat = (zi (u 0 (1000 * a + h).toNat)).toInt64 from hf9.trans hv4]
        have hO3 : zOL D tc o v3 H3 := ⟨f9, hf9, hR9⟩
        refine lv_iload hx hb dL_law_632 (lv_at hl 0 rfl) ?_
        refine lv_i2l hx hb dL_law_634 rfl ?_
        refine z_lcmp0 hx hb dL_law_635 ?_
        refine z_if_eq (a := 0) (tgt := 641) hx hb dL_law_636 (by decide) (by omega) (fun h_636 => ?_) (fun h_636 => ?_)
        · skip
          refine lv_goto (tgt := 970) hx hb dL_law_641 (by decide) ?_
          exact kq ((ms u 25 0 0)) _ _ _ _ _ (by show cells + 2 + 0 + 0 ≤ cells + 600; omega) (by show slots + 12 + 0 + 0 ≤ slots + 10960; omega) hIu hUu ⟨hHC, hM, ⟨v3, hO3⟩, ⟨v2, hO2⟩⟩ hS (lv_sub hl [2, 3, 4, 5, 6, 7] rfl)
        · skip
          exact absurd rfl h_636
    · skip
      exact absurd (by omega) h_619
set_option maxHeartbeats 4000000 in
set_option maxRecDepth 100000 in
theorem t_ofBoat {p : Program} {l : Launch} {e : Env} {s : State} {m : MethodId} {below : List Frame} {meth : Method} {c : Code} {Q : State → Prop} {b L : Nat} {xs : Nat → Int32} {D : va_G} {tc : Nat → ClassId} {dz m0 : Nat} {aM : Nat → Nat} {o o2 : Nat} {ad : Nat → Nat} {u : zS_} {H : Heap} {locs : List Loc} {ls : Array Slot} {cells slots : Nat} (hflags : l.stackTraces = false) (hx : p.tables.exec = Jvm.exec) (hb : c.code = cL_law) (hml : c.maxLocals = 8) (hown : s.vm.findClass RL = some m.cls) (hX : va_X b L xs s s.heap) (hbl : b < s.heap.size) (hL : L ≤ 3072) (hLA : zLA s D tc dz m0 aM o o2) (hI : zIn u) (hU : zUn u) {kk : Nat} (hkk : 6 * kk + 6 ≤ L) {a n : Int} (h0 : -2147483648 ≤ a ∧ a ≤ 2147483647 ∧ -2147483648 ≤ n ∧ n ≤ 2147483647) (e1 : xs (6 * kk + 1) = zi a) (e2 : xs (6 * kk + 2) = zi n)
    (hw : zLw s D tc dz ad m0 aM o o2 u H) (hS : va_S (fun q => s.heap.size ≤ q) s.heap H locs) (hl : lv_has ls 8 [(5, .int (zi (6 * (kk : Int)))), (4, .ref (o2)), (3, .ref (o)), (2, .ref (m0)), (1, .ref (ad 0)), (0, .ref (b))]) (hcs : cells + 600 ≤ 601024 ∧ slots + 10960 ≤ 7293034)
    (kq : ∀ (u' : zS_) (H : Heap) (locs : List Loc) (ls : Array Slot) (cells' slots' : Nat), cells' ≤ cells + 600 → slots' ≤ slots + 10960 → zIn u' → zUn u' → zLw s D tc dz ad m0 aM o o2 u' H → va_S (fun q => s.heap.size ≤ q) s.heap H locs → lv_has ls 8 [(5, .int (zi (6 * (kk : Int)))), (4, .ref (o2)), (3, .ref (o)), (2, .ref (m0)), (1, .ref (ad 0)), (0, .ref (b))] → W p l e room_1 s m #[Value.ref b] below meth c H locs cells' slots' Q (F0 m 970 ls [])) : W p l e room_1 s m #[Value.ref b] below meth c H locs cells slots Q (F0 m 644 ls []) := by
  have hW := State.WarmedH.refl s
  have X : zH s (fun q => s.heap.size ≤ q) p s m c cL_law 8 RL := ⟨hx, hb, hml, hown, hW, ⟨Nat.le_refl _, fun _ _ => rfl⟩, fun q h => h, fun q h => h⟩
  have hT := hLA.1.1
  have hK := hLA.1.2.1
  have hbA : ¬ (fun q => s.heap.size ≤ q) b := fun z => absurd z (by show ¬ s.heap.size ≤ b; omega)
  have hc9 : 0 ≤ mcOfB u a n ∧ mcOfB u a n ≤ 3 := by unfold mcOfB; omega
  have hI1 := hI.1
  refine lv_aload_n hx hb dL_law_644 rfl (lv_at hl 4 rfl) ?_
  refine lv_aload_n hx hb dL_law_645 rfl (lv_at hl 5 rfl) ?_
  refine lv_iload hx hb dL_law_646 (lv_at hl 0 rfl) ?_
  refine lv_iconst (v := zi (1)) hx hb dL_law_648 rfl ?_
  refine z_iadd (a := 6 * (kk : Int)) (b := 1) hx hb dL_law_649 ?_
  refine z_sld (i := (6 * (kk : Int) + 1)) (v := a) hx hb hX hbl hbA hS (by omega) (by rw [show ((6 * (kk : Int) + 1) : Int).toNat = 6 * kk + 1 by omega]; exact e1) dL_law_650 ?_
  refine lv_aload_n hx hb dL_law_651 rfl (lv_at hl 5 rfl) ?_
  refine lv_iload hx hb dL_law_652 (lv_at hl 0 rfl) ?_
  refine lv_iconst (v := zi (2)) hx hb dL_law_654 rfl ?_
  refine z_iadd (a := 6 * (kk : Int)) (b := 2) hx hb dL_law_655 ?_
  refine z_sld (i := (6 * (kk : Int) + 2)) (v := n) hx hb hX hbl hbA hS (by omega) (by rw [show ((6 * (kk : Int) + 2) : Int).toNat = 6 * kk + 2 by omega]; exact e2) dL_law_656 ?_
  refine lv_aload_n hx hb dL_law_657 rfl (lv_at hl 2 rfl) ?_
  obtain ⟨hHC, hM, ⟨v1, hO⟩, ⟨v2, hO2⟩⟩ := hw
  have hsz := hS.1
  have hfr0 : ∀ q : Nat, H.size ≤ q → zBc s m0 aM o o2 q := zLw.fresh hsz ⟨hHC, hM, ⟨v1, hO⟩, ⟨v2, hO2⟩⟩
  refine z_invSH (n := 4) (B := (fun q => zBc s m0 aM o o2 q ∨ q = o)) (fun q h => h.elim (fun z => z.1) (fun z => by rw [z]; exact hLA.2.2.1.2.2.1)) (c_L_ofBoat l hflags hLA.B hLA.2.1 (ad := ad) (u := ms u 25 0 0) (o := o) hLA.2.2.1.2.2.1 (fun z => z.2.2.2.1 rfl) (a := a) (n := n) h0 (zIn_25 hI) hU) X hS (fun q h => Or.inl (hfr0 q h)) ⟨hHC.c25, ⟨v1, hO⟩, hfr0⟩ hl.1 (q_594 hT hW) (q_0 hT hW) (q_592 hT hW) (q_593 hT hW) (by decide +kernel) rfl ⟨Nat.le_of_ble_eq_true rfl, Nat.le_of_ble_eq_true rfl⟩ ⟨by show cells + 2 ≤ 601024; omega, by show slots + 12 ≤ 7293034; omega⟩ (Nat.le_of_ble_eq_true rfl) dL_law_658 (fun v H1 locs hv hfr hS => ?_) rfl
  have hv : v = some (.int (zi (mcOfB u a n))) ∧ (0 < mcOfB u a n → zHC D tc dz (zBc s m0 aM o o2) ad (ms u 25 0 0) H1) ∧ (mcOfB u a n = 0 → zHC D tc dz (zBc s m0 aM o o2) ad ((ms u 25 0 0)) H1) ∧ ∃ v : Int64, zOL D tc o v H1 ∧ (mcOfB u a n = 0 → v = (zi (mvOfB u a n)).toInt64) := hv
  obtain ⟨rfl, hc1, hc0, v3, hO3, hv3⟩ := hv
  have hM := mH.frame hM hfr (fun q hq _ hB => hB.elim (fun g => zBc_M g hq) (fun g => (zMm_not hLA).1 (by rw [← g]; exact hq)))
  have hO2 := hO2.frame hfr (fun z => z.elim (fun g => g.2.2.2.2 rfl) (fun g => hLA.2.2.2.1 g.symm))
  clear hHC hfr hfr0 hsz
  refine lv_istore (lv' := [(6, .int (zi (mcOfB u a n))), (5, .int (zi (6 * (kk : Int)))), (4, .ref (o2)), (3, .ref (o)), (2, .ref (m0)), (1, .ref (ad 0)), (0, .ref (b))]) hx hb dL_law_661 hl (by decide) rfl (fun ls hl => ?_)
  by_cases hcd : 0 < mcOfB u a n
  · skip
    have hHC : zHC D tc dz (zBc s m0 aM o o2) ad (ms u 25 0 (mcOfB u a n)) H1 := by
      have g := (hc1 hcd).c25 (x := mcOfB u a n)
      rw [ms_ms] at g
      exact g
    have hIu : zIn (ms u 25 0 (mcOfB u a n)) := zIn_25 hI
    have hUu : zUn (ms u 25 0 (mcOfB u a n)) := hU
    refine lv_aload_n hx hb dL_law_663 rfl (lv_at hl 4 rfl) ?_
    refine lv_aload_n hx hb dL_law_664 rfl (lv_at hl 6 rfl) ?_
    refine lv_iload hx hb dL_law_665 (lv_at hl 1 rfl) ?_
    refine lv_iconst (v := zi (1)) hx hb dL_law_667 rfl ?_
    refine z_iadd (a := 6 * (kk : Int)) (b := 1) hx hb dL_law_668 ?_
    refine z_sld (i := (6 * (kk : Int) + 1)) (v := a) hx hb hX hbl hbA hS (by omega) (by rw [show ((6 * (kk : Int) + 1) : Int).toNat = 6 * kk + 1 by omega]; exact e1) dL_law_669 ?_
    refine lv_aload_n hx hb dL_law_670 rfl (lv_at hl 6 rfl) ?_
    refine lv_iload hx hb dL_law_671 (lv_at hl 1 rfl) ?_
    refine lv_iconst (v := zi (2)) hx hb dL_law_673 rfl ?_
    refine z_iadd (a := 6 * (kk : Int)) (b := 2) hx hb dL_law_674 ?_
    refine z_sld (i := (6 * (kk : Int) + 2)) (v := n) hx hb hX hbl hbA hS (by omega) (by rw [show ((6 * (kk : Int) + 2) : Int).toNat = 6 * kk + 2 by omega]; exact e2) dL_law_675 ?_
    have hsz := hS.1
    have hMw : mH D tc (fun q => zMm m0 aM q ∨ H1.size ≤ q) m0 aM u H1 := hM.mono (fun q _ h => Or.inl h)
    refine z_invVB (n := 2) (C := RX6) (B := (fun q => zMm m0 aM q ∨ H1.size ≤ q)) (fun q h => (hLA.M (H := H1) hsz).2.2.1 q h) (c_X6_ofBoat l (hLA.M (H := H1) hsz) (a := a) (n := n) h0 hI) X hS (fun q h => Or.inr h) hMw hl.1 (q_826 hT hW) (q_7 hT hW) (q_823 hT hW) (q_824 hT hW) (q_825 hT hW) (m_recv hK hMw) (by decide +kernel) rfl ⟨Nat.le_of_ble_eq_true rfl, Nat.le_of_ble_eq_true rfl⟩ ⟨by show cells + 2 + 0 ≤ 601024; omega, by show slots + 12 + 0 ≤ 7293034; omega⟩ (Nat.le_of_ble_eq_true rfl) dL_law_676 (fun v H2 locs hv hfr hS => ?_) rfl
    rw [if_pos hcd, if_pos hcd] at hv
    obtain ⟨rfl, hM⟩ := hv
    have hM := hM.restrict
    have hHC := hHC.frame hfr (fun q hB hq hm => hm.elim (zBc_M hB) (fun g => by omega))
    have hO3 := hO3.frame hfr (fun z => z.elim (zMm_not hLA).1 (fun g => by have := hO3.lt; omega))
    have hO2 := hO2.frame hfr (fun z => z.elim (zMm_not hLA).2 (fun g => by have := hO2.lt; omega))
    clear hfr hMw hsz
    refine lv_istore (lv' := [(7, .int (zi ((-1)))), (6, .int (zi (mcOfB u a n))), (5, .int (zi (6 * (kk : Int)))), (4, .ref (o2)), (3, .ref (o)), (2, .ref (m0)), (1, .ref (ad 0)), (0, .ref (b))]) hx hb dL_law_679 hl (by decide) rfl (fun ls hl => ?_)
    refine lv_aload_n hx hb dL_law_681 rfl (lv_at hl 5 rfl) ?_
    have hsz := hS.1
    have hMw : mH D tc (fun q => zMm m0 aM q ∨ H2.size ≤ q) m0 aM (ms u 25 0 (mcOfB u a n)) H2 := hM.mono (fun q _ h => Or.inl h)
    refine z_invVB (n := 0) (C := RX6) (B := (fun q => zMm m0 aM q ∨ H2.size ≤ q)) (fun q h => (hLA.M (H := H2) hsz).2.2.1 q h) (c_X6_thrown l (hLA.M (H := H2) hsz) (u := (ms u 25 0 (mcOfB u a n)))) X hS (fun q h => Or.inr h) hMw hl.1 (q_746 hT hW) (q_7 hT hW) (q_743 hT hW) (q_744 hT hW) (q_745 hT hW) (m_recv hK hMw) (by decide +kernel) rfl ⟨Nat.le_of_ble_eq_true rfl, Nat.le_of_ble_eq_true rfl⟩ ⟨by show cells + 2 + 0 + 0 ≤ 601024; omega, by show slots + 12 + 0 + 0 ≤ 7293034; omega⟩ (Nat.le_of_ble_eq_true rfl) dL_law_682 (fun v H3 locs hv hfr hS => ?_) rfl
    obtain ⟨rfl, hM⟩ := hv
    have hM := hM.restrict
    have hHC := hHC.frame hfr (fun q hB hq hm => hm.elim (zBc_M hB) (fun g => by omega))
    have hO3 := hO3.frame hfr (fun z => z.elim (zMm_not hLA).1 (fun g => by have := hO3.lt; omega))
    have hO2 := hO2.frame hfr (fun z => z.elim (zMm_not hLA).2 (fun g => by have := hO2.lt; omega))
    clear hfr hMw hsz
    obtain ⟨t25, ht25⟩ : ∃ t25 : Int, t25 = (ms u 25 0 (mcOfB u a n)) 25 0 := ⟨_, rfl⟩
    rw [← ht25]
    rw [ms_s] at ht25
    refine lv_iload hx hb dL_law_685 (lv_at hl 1 rfl) ?_
    refine z_icmp_eq (a := t25) (b := mcOfB u a n) (tgt := 692) hx hb dL_law_687 (by decide) (by omega) (fun h_687 => ?_) (fun h_687 => ?_)
    · skip
      refine lv_iload hx hb dL_law_692 (lv_at hl 1 rfl) ?_
      refine z_if_ne (a := mcOfB u a n) (tgt := 709) hx hb dL_law_694 (by decide) (by omega) (fun h_694 => ?_) (fun h_694 => ?_)
      · skip
        refine lv_goto (tgt := 970) hx hb dL_law_709 (by decide) ?_
        exact kq (ms u 25 0 (mcOfB u a n)) _ _ _ _ _ (by show cells + 2 + 0 + 0 ≤ cells + 600; omega) (by show slots + 12 + 0 + 0 ≤ slots + 10960; omega) hIu hUu ⟨hHC, hM, ⟨v3, hO3⟩, ⟨v2, hO2⟩⟩ hS (lv_sub hl [2, 3, 4, 5, 6, 7] rfl)
      · skip
        exact absurd h_694 (by omega)
    · skip
      exact absurd (by omega) h_687
  · skip
    have hcd9 : mcOfB u a n = 0 := by omega
    have hHC := hc0 hcd9
    have hv4 := hv3 hcd9
    have hIu : zIn ((ms u 25 0 0)) := zIn_25 hI
    have hUu : zUn ((ms u 25 0 0)) := hU
    refine lv_aload_n hx hb dL_law_663 rfl (lv_at hl 4 rfl) ?_
    refine lv_aload_n hx hb dL_law_664 rfl (lv_at hl 6 rfl) ?_
    refine lv_iload hx hb dL_law_665 (lv_at hl 1 rfl) ?_
    refine lv_iconst (v := zi (1)) hx hb dL_law_667 rfl ?_
    refine z_iadd (a := 6 * (kk : Int)) (b := 1) hx hb dL_law_668 ?_
    refine z_sld (i := (6 * (kk : Int) + 1)) (v := a) hx hb hX hbl hbA hS (by omega) (by rw [show ((6 * (kk : Int) + 1) : Int).toNat = 6 * kk + 1 by omega]; exact e1) dL_law_669 ?_
    refine lv_aload_n hx hb dL_law_670 rfl (lv_at hl 6 rfl) ?_
    refine lv_iload hx hb dL_law_671 (lv_at hl 1 rfl) ?_
    refine lv_iconst (v := zi (2)) hx hb dL_law_673 rfl ?_
    refine z_iadd (a := 6 * (kk : Int)) (b := 2) hx hb dL_law_674 ?_
    refine z_sld (i := (6 * (kk : Int) + 2)) (v := n) hx hb hX hbl hbA hS (by omega) (by rw [show ((6 * (kk : Int) + 2) : Int).toNat = 6 * kk + 2 by omega]; exact e2) dL_law_675 ?_
    have hsz := hS.1
    have hMw : mH D tc (fun q => zMm m0 aM q ∨ H1.size ≤ q) m0 aM u H1 := hM.mono (fun q _ h => Or.inl h)
    refine z_invVB (n := 2) (C := RX6) (B := (fun q => zMm m0 aM q ∨ H1.size ≤ q)) (fun q h => (hLA.M (H := H1) hsz).2.2.1 q h) (c_X6_ofBoat l (hLA.M (H := H1) hsz) (a := a) (n := n) h0 hI) X hS (fun q h => Or.inr h) hMw hl.1 (q_826 hT hW) (q_7 hT hW) (q_823 hT hW) (q_824 hT hW) (q_825 hT hW) (m_recv hK hMw) (by decide +kernel) rfl ⟨Nat.le_of_ble_eq_true rfl, Nat.le_of_ble_eq_true rfl⟩ ⟨by show cells + 2 + 0 ≤ 601024; omega, by show slots + 12 + 0 ≤ 7293034; omega⟩ (Nat.le_of_ble_eq_true rfl) dL_law_676 (fun v H2 locs hv hfr hS => ?_) rfl
    rw [if_neg hcd, if_neg hcd] at hv
    obtain ⟨rfl, hM⟩ := hv
    have hM := hM.restrict
    have hHC := hHC.frame hfr (fun q hB hq hm => hm.elim (zBc_M hB) (fun g => by omega))
    have hO3 := hO3.frame hfr (fun z => z.elim (zMm_not hLA).1 (fun g => by have := hO3.lt; omega))
    have hO2 := hO2.frame hfr (fun z => z.elim (zMm_not hLA).2 (fun g => by have := hO2.lt; omega))
    clear hfr hMw hsz
    refine lv_istore (lv' := [(7, .int (zi ((mvOfB u a n)))), (6, .int (zi (mcOfB u a n))), (5, .int (zi (6 * (kk : Int)))), (4, .ref (o2)), (3, .ref (o)), (2, .ref (m0)), (1, .ref (ad 0)), (0, .ref (b))]) hx hb dL_law_679 hl (by decide) rfl (fun ls hl => ?_)
    refine lv_aload_n hx hb dL_law_681 rfl (lv_at hl 5 rfl) ?_
    have hsz := hS.1
    have hMw : mH D tc (fun q => zMm m0 aM q ∨ H2.size ≤ q) m0 aM ((ms u 25 0 0)) H2 := hM.mono (fun q _ h => Or.inl h)
    refine z_invVB (n := 0) (C := RX6) (B := (fun q => zMm m0 aM q ∨ H2.size ≤ q)) (fun q h => (hLA.M (H := H2) hsz).2.2.1 q h) (c_X6_thrown l (hLA.M (H := H2) hsz) (u := ((ms u 25 0 0)))) X hS (fun q h => Or.inr h) hMw hl.1 (q_746 hT hW) (q_7 hT hW) (q_743 hT hW) (q_744 hT hW) (q_745 hT hW) (m_recv hK hMw) (by decide +kernel) rfl ⟨Nat.le_of_ble_eq_true rfl, Nat.le_of_ble_eq_true rfl⟩ ⟨by show cells + 2 + 0 + 0 ≤ 601024; omega, by show slots + 12 + 0 + 0 ≤ 7293034; omega⟩ (Nat.le_of_ble_eq_true rfl) dL_law_682 (fun v H3 locs hv hfr hS => ?_) rfl
    obtain ⟨rfl, hM⟩ := hv
    have hM := hM.restrict
    have hHC := hHC.frame hfr (fun q hB hq hm => hm.elim (zBc_M hB) (fun g => by omega))
    have hO3 := hO3.frame hfr (fun z => z.elim (zMm_not hLA).1 (fun g => by have := hO3.lt; omega))
    have hO2 := hO2.frame hfr (fun z => z.elim (zMm_not hLA).2 (fun g => by have := hO2.lt; omega))
    clear hfr hMw hsz
    obtain ⟨t25, ht25⟩ : ∃ t25 : Int, t25 = ((ms u 25 0 0)) 25 0 := ⟨_, rfl⟩
    rw [← ht25]
    have h25 : ((ms u 25 0 0)) 25 0 = 0 := by rfl
    rw [h25] at ht25
    refine lv_iload hx hb dL_law_685 (lv_at hl 1 rfl) ?_
    refine z_icmp_eq (a := t25) (b := mcOfB u a n) (tgt := 692) hx hb dL_law_687 (by decide) (by omega) (fun h_687 => ?_) (fun h_687 => ?_)
    · skip
      refine lv_iload hx hb dL_law_692 (lv_at hl 1 rfl) ?_
      refine z_if_ne (a := mcOfB u a n) (tgt := 709) hx hb dL_law_694 (by decide) (by omega) (fun h_694 => ?_) (fun h_694 => ?_)
      · skip
        exact absurd h_694 (by omega)
      · skip
        refine lv_aload_n hx hb dL_law_697 rfl (lv_at hl 4 rfl) ?_
        refine lv_iconst (v := zi (0)) hx hb dL_law_698 rfl ?_
        obtain ⟨f9, hf9, hR9⟩ := hO3
        refine z_lald (i := 0) hx hb hK hR9 2 zu_eq rfl (by omega) dL_law_699 ?_
        rw [show f9 (0 : Int).toNat = (zi (mvOfB u a n)).toInt64 from hf9.trans hv4]
        have hO3 : zOL D tc o v3 H3 := ⟨f9, hf9, hR9⟩
        refine lv_iload hx hb dL_law_700 (lv_at hl 0 rfl) ?_
        refine lv_i2l hx hb dL_law_702 rfl ?_
        refine z_lcmp0 hx hb dL_law_703 ?_
        refine z_if_eq (a := 0) (tgt := 709) hx hb dL_law_704 (by decide) (by omega) (fun h_704 => ?_) (fun h_704 => ?_)
        · skip
          refine lv_goto (tgt := 970) hx hb dL_law_709 (by decide) ?_
          exact kq ((ms u 25 0 0)) _ _ _ _ _ (by show cells + 2 + 0 + 0 ≤ cells + 600; omega) (by show slots + 12 + 0 + 0 ≤ slots + 10960; omega) hIu hUu ⟨hHC, hM, ⟨v3, hO3⟩, ⟨v2, hO2⟩⟩ hS (lv_sub hl [2, 3, 4, 5, 6, 7] rfl)
        · skip
          exact absurd rfl h_704
    · skip
      exact absurd (by omega) h_687
set_option maxHeartbeats 4000000 in
set_option maxRecDepth 100000 in
theorem t_ofCall {p : Program} {l : Launch} {e : Env} {s : State} {m : MethodId} {below : List Frame} {meth : Method} {c : Code} {Q : State → Prop} {b L : Nat} {xs : Nat → Int32} {D : va_G} {tc : Nat → ClassId} {dz m0 : Nat} {aM : Nat → Nat} {o o2 : Nat} {ad : Nat → Nat} {u : zS_} {H : Heap} {locs : List Loc} {ls : Array Slot} {cells slots : Nat} (hflags : l.stackTraces = false) (hx : p.tables.exec = Jvm.exec) (hb : c.code = cL_law) (hml : c.maxLocals = 8) (hown : s.vm.findClass RL = some m.cls) (hX : va_X b L xs s s.heap) (hbl : b < s.heap.size) (hL : L ≤ 3072) (hLA : zLA s D tc dz m0 aM o o2) (hI : zIn u) (hU : zUn u) {kk : Nat} (hkk : 6 * kk + 6 ≤ L) {a n : Int} (h0 : -2147483648 ≤ a ∧ a ≤ 2147483647 ∧ -2147483648 ≤ n ∧ n ≤ 2147483647) (e1 : xs (6 * kk + 1) = zi a) (e2 : xs (6 * kk + 2) = zi n)
    (hw : zLw s D tc dz ad m0 aM o o2 u H) (hS : va_S (fun q => s.heap.size ≤ q) s.heap H locs) (hl : lv_has ls 8 [(5, .int (zi (6 * (kk : Int)))), (4, .ref (o2)), (3, .ref (o)), (2, .ref (m0)), (1, .ref (ad 0)), (0, .ref (b))]) (hcs : cells + 600 ≤ 601024 ∧ slots + 10960 ≤ 7293034)
    (kq : ∀ (u' : zS_) (H : Heap) (locs : List Loc) (ls : Array Slot) (cells' slots' : Nat), cells' ≤ cells + 600 → slots' ≤ slots + 10960 → zIn u' → zUn u' → zLw s D tc dz ad m0 aM o o2 u' H → va_S (fun q => s.heap.size ≤ q) s.heap H locs → lv_has ls 8 [(5, .int (zi (6 * (kk : Int)))), (4, .ref (o2)), (3, .ref (o)), (2, .ref (m0)), (1, .ref (ad 0)), (0, .ref (b))] → W p l e room_1 s m #[Value.ref b] below meth c H locs cells' slots' Q (F0 m 970 ls [])) : W p l e room_1 s m #[Value.ref b] below meth c H locs cells slots Q (F0 m 712 ls []) := by
  have hW := State.WarmedH.refl s
  have X : zH s (fun q => s.heap.size ≤ q) p s m c cL_law 8 RL := ⟨hx, hb, hml, hown, hW, ⟨Nat.le_refl _, fun _ _ => rfl⟩, fun q h => h, fun q h => h⟩
  have hT := hLA.1.1
  have hK := hLA.1.2.1
  have hbA : ¬ (fun q => s.heap.size ≤ q) b := fun z => absurd z (by show ¬ s.heap.size ≤ b; omega)
  have hc9 : 0 ≤ mcOfC u a n ∧ mcOfC u a n ≤ 3 := by unfold mcOfC; omega
  have hI1 := hI.1
  refine lv_aload_n hx hb dL_law_712 rfl (lv_at hl 4 rfl) ?_
  refine lv_aload_n hx hb dL_law_713 rfl (lv_at hl 5 rfl) ?_
  refine lv_iload hx hb dL_law_714 (lv_at hl 0 rfl) ?_
  refine lv_iconst (v := zi (1)) hx hb dL_law_716 rfl ?_
  refine z_iadd (a := 6 * (kk : Int)) (b := 1) hx hb dL_law_717 ?_
  refine z_sld (i := (6 * (kk : Int) + 1)) (v := a) hx hb hX hbl hbA hS (by omega) (by rw [show ((6 * (kk : Int) + 1) : Int).toNat = 6 * kk + 1 by omega]; exact e1) dL_law_718 ?_
  refine lv_aload_n hx hb dL_law_719 rfl (lv_at hl 5 rfl) ?_
  refine lv_iload hx hb dL_law_720 (lv_at hl 0 rfl) ?_
  refine lv_iconst (v := zi (2)) hx hb dL_law_722 rfl ?_
  refine z_iadd (a := 6 * (kk : Int)) (b := 2) hx hb dL_law_723 ?_
  refine z_sld (i := (6 * (kk : Int) + 2)) (v := n) hx hb hX hbl hbA hS (by omega) (by rw [show ((6 * (kk : Int) + 2) : Int).toNat = 6 * kk + 2 by omega]; exact e2) dL_law_724 ?_
  refine lv_aload_n hx hb dL_law_725 rfl (lv_at hl 2 rfl) ?_
  obtain ⟨hHC, hM, ⟨v1, hO⟩, ⟨v2, hO2⟩⟩ := hw
  have hsz := hS.1
  have hfr0 : ∀ q : Nat, H.size ≤ q → zBc s m0 aM o o2 q := zLw.fresh hsz ⟨hHC, hM, ⟨v1, hO⟩, ⟨v2, hO2⟩⟩
  refine z_invSH (n := 4) (B := (fun q => zBc s m0 aM o o2 q ∨ q = o)) (fun q h => h.elim (fun z => z.1) (fun z => by rw [z]; exact hLA.2.2.1.2.2.1)) (c_L_ofCall l hflags hLA.B hLA.2.1 (ad := ad) (u := ms u 25 0 0) (o := o) hLA.2.2.1.2.2.1 (fun z => z.2.2.2.1 rfl) (a := a) (n := n) h0 (zIn_25 hI) hU) X hS (fun q h => Or.inl (hfr0 q h)) ⟨hHC.c25, ⟨v1, hO⟩, hfr0⟩ hl.1 (q_601 hT hW) (q_0 hT hW) (q_599 hT hW) (q_600 hT hW) (by decide +kernel) rfl ⟨Nat.le_of_ble_eq_true rfl, Nat.le_of_ble_eq_true rfl⟩ ⟨by show cells + 2 ≤ 601024; omega, by show slots + 12 ≤ 7293034; omega⟩ (Nat.le_of_ble_eq_true rfl) dL_law_726 (fun v H1 locs hv hfr hS => ?_) rfl
  have hv : v = some (.int (zi (mcOfC u a n))) ∧ (0 < mcOfC u a n → zHC D tc dz (zBc s m0 aM o o2) ad (ms u 25 0 0) H1) ∧ (mcOfC u a n = 0 → zHC D tc dz (zBc s m0 aM o o2) ad ((ms u 25 0 0)) H1) ∧ ∃ v : Int64, zOL D tc o v H1 ∧ (mcOfC u a n = 0 → v = (zi (mvOfC u a n)).toInt64) := hv
  obtain ⟨rfl, hc1, hc0, v3, hO3, hv3⟩ := hv
  have hM := mH.frame hM hfr (fun q hq _ hB => hB.elim (fun g => zBc_M g hq) (fun g => (zMm_not hLA).1 (by rw [← g]; exact hq)))
  have hO2 := hO2.frame hfr (fun z => z.elim (fun g => g.2.2.2.2 rfl) (fun g => hLA.2.2.2.1 g.symm))
  clear hHC hfr hfr0 hsz
  refine lv_istore (lv' := [(6, .int (zi (mcOfC u a n))), (5, .int (zi (6 * (kk : Int)))), (4, .ref (o2)), (3, .ref (o)), (2, .ref (m0)), (1, .ref (ad 0)), (0, .ref (b))]) hx hb dL_law_729 hl (by decide) rfl (fun ls hl => ?_)
  by_cases hcd : 0 < mcOfC u a n
  · skip
    have hHC : zHC D tc dz (zBc s m0 aM o o2) ad (ms u 25 0 (mcOfC u a n)) H1 := by
      have g := (hc1 hcd).c25 (x := mcOfC u a n)
      rw [ms_ms] at g
      exact g
    have hIu : zIn (ms u 25 0 (mcOfC u a n)) := zIn_25 hI
    have hUu : zUn (ms u 25 0 (mcOfC u a n)) := hU
    refine lv_aload_n hx hb dL_law_731 rfl (lv_at hl 4 rfl) ?_
    refine lv_aload_n hx hb dL_law_732 rfl (lv_at hl 6 rfl) ?_
    refine lv_iload hx hb dL_law_733 (lv_at hl 1 rfl) ?_
    refine lv_iconst (v := zi (1)) hx hb dL_law_735 rfl ?_
    refine z_iadd (a := 6 * (kk : Int)) (b := 1) hx hb dL_law_736 ?_
    refine z_sld (i := (6 * (kk : Int) + 1)) (v := a) hx hb hX hbl hbA hS (by omega) (by rw [show ((6 * (kk : Int) + 1) : Int).toNat = 6 * kk + 1 by omega]; exact e1) dL_law_737 ?_
    refine lv_aload_n hx hb dL_law_738 rfl (lv_at hl 6 rfl) ?_
    refine lv_iload hx hb dL_law_739 (lv_at hl 1 rfl) ?_
    refine lv_iconst (v := zi (2)) hx hb dL_law_741 rfl ?_
    refine z_iadd (a := 6 * (kk : Int)) (b := 2) hx hb dL_law_742 ?_
    refine z_sld (i := (6 * (kk : Int) + 2)) (v := n) hx hb hX hbl hbA hS (by omega) (by rw [show ((6 * (kk : Int) + 2) : Int).toNat = 6 * kk + 2 by omega]; exact e2) dL_law_743 ?_
    have hsz := hS.1
    have hMw : mH D tc (fun q => zMm m0 aM q ∨ H1.size ≤ q) m0 aM u H1 := hM.mono (fun q _ h => Or.inl h)
    refine z_invVB (n := 2) (C := RX6) (B := (fun q => zMm m0 aM q ∨ H1.size ≤ q)) (fun q h => (hLA.M (H := H1) hsz).2.2.1 q h) (c_X6_ofCall l (hLA.M (H := H1) hsz) (a := a) (n := n) h0 hI) X hS (fun q h => Or.inr h) hMw hl.1 (q_830 hT hW) (q_7 hT hW) (q_827 hT hW) (q_828 hT hW) (q_829 hT hW) (m_recv hK hMw) (by decide +kernel) rfl ⟨Nat.le_of_ble_eq_true rfl, Nat.le_of_ble_eq_true rfl⟩ ⟨by show cells + 2 + 0 ≤ 601024; omega, by show slots + 12 + 0 ≤ 7293034; omega⟩ (Nat.le_of_ble_eq_true rfl) dL_law_744 (fun v H2 locs hv hfr hS => ?_) rfl
    rw [if_pos hcd, if_pos hcd] at hv
    obtain ⟨rfl, hM⟩ := hv
    have hM := hM.restrict
    have hHC := hHC.frame hfr (fun q hB hq hm => hm.elim (zBc_M hB) (fun g => by omega))
    have hO3 := hO3.frame hfr (fun z => z.elim (zMm_not hLA).1 (fun g => by have := hO3.lt; omega))
    have hO2 := hO2.frame hfr (fun z => z.elim (zMm_not hLA).2 (fun g => by have := hO2.lt; omega))
    clear hfr hMw hsz
    refine lv_istore (lv' := [(7, .int (zi ((-1)))), (6, .int (zi (mcOfC u a n))), (5, .int (zi (6 * (kk : Int)))), (4, .ref (o2)), (3, .ref (o)), (2, .ref (m0)), (1, .ref (ad 0)), (0, .ref (b))]) hx hb dL_law_747 hl (by decide) rfl (fun ls hl => ?_)
    refine lv_aload_n hx hb dL_law_749 rfl (lv_at hl 5 rfl) ?_
    have hsz := hS.1
    have hMw : mH D tc (fun q => zMm m0 aM q ∨ H2.size ≤ q) m0 aM (ms u 25 0 (mcOfC u a n)) H2 := hM.mono (fun q _ h => Or.inl h)
    refine z_invVB (n := 0) (C := RX6) (B := (fun q => zMm m0 aM q ∨ H2.size ≤ q)) (fun q h => (hLA.M (H := H2) hsz).2.2.1 q h) (c_X6_thrown l (hLA.M (H := H2) hsz) (u := (ms u 25 0 (mcOfC u a n)))) X hS (fun q h => Or.inr h) hMw hl.1 (q_746 hT hW) (q_7 hT hW) (q_743 hT hW) (q_744 hT hW) (q_745 hT hW) (m_recv hK hMw) (by decide +kernel) rfl ⟨Nat.le_of_ble_eq_true rfl, Nat.le_of_ble_eq_true rfl⟩ ⟨by show cells + 2 + 0 + 0 ≤ 601024; omega, by show slots + 12 + 0 + 0 ≤ 7293034; omega⟩ (Nat.le_of_ble_eq_true rfl) dL_law_750 (fun v H3 locs hv hfr hS => ?_) rfl
    obtain ⟨rfl, hM⟩ := hv
    have hM := hM.restrict
    have hHC := hHC.frame hfr (fun q hB hq hm => hm.elim (zBc_M hB) (fun g => by omega))
    have hO3 := hO3.frame hfr (fun z => z.elim (zMm_not hLA).1 (fun g => by have := hO3.lt; omega))
    have hO2 := hO2.frame hfr (fun z => z.elim (zMm_not hLA).2 (fun g => by have := hO2.lt; omega))
    clear hfr hMw hsz
    obtain ⟨t25, ht25⟩ : ∃ t25 : Int, t25 = (ms u 25 0 (mcOfC u a n)) 25 0 := ⟨_, rfl⟩
    rw [← ht25]
    rw [ms_s] at ht25
    refine lv_iload hx hb dL_law_753 (lv_at hl 1 rfl) ?_
    refine z_icmp_eq (a := t25) (b := mcOfC u a n) (tgt := 760) hx hb dL_law_755 (by decide) (by omega) (fun h_755 => ?_) (fun h_755 => ?_)
    · skip
      refine lv_iload hx hb dL_law_760 (lv_at hl 1 rfl) ?_
      refine z_if_ne (a := mcOfC u a n) (tgt := 777) hx hb dL_law_762 (by decide) (by omega) (fun h_762 => ?_) (fun h_762 => ?_)
      · skip
        refine lv_goto (tgt := 970) hx hb dL_law_777 (by decide) ?_
        exact kq (ms u 25 0 (mcOfC u a n)) _ _ _ _ _ (by show cells + 2 + 0 + 0 ≤ cells + 600; omega) (by show slots + 12 + 0 + 0 ≤ slots + 10960; omega) hIu hUu ⟨hHC, hM, ⟨v3, hO3⟩, ⟨v2, hO2⟩⟩ hS (lv_sub hl [2, 3, 4, 5, 6, 7] rfl)
      · skip
        exact absurd h_762 (by omega)
    · skip
      exact absurd (by omega) h_755
  · skip
    have hcd9 : mcOfC u a n = 0 := by omega
    have hHC := hc0 hcd9
    have hv4 := hv3 hcd9
    have hIu : zIn ((ms u 25 0 0)) := zIn_25 hI
    have hUu : zUn ((ms u 25 0 0)) := hU
    refine lv_aload_n hx hb dL_law_731 rfl (lv_at hl 4 rfl) ?_
    refine lv_aload_n hx hb dL_law_732 rfl (lv_at hl 6 rfl) ?_
    refine lv_iload hx hb dL_law_733 (lv_at hl 1 rfl) ?_
    refine lv_iconst (v := zi (1)) hx hb dL_law_735 rfl ?_
    refine z_iadd (a := 6 * (kk : Int)) (b := 1) hx hb dL_law_736 ?_
    refine z_sld (i := (6 * (kk : Int) + 1)) (v := a) hx hb hX hbl hbA hS (by omega) (by rw [show ((6 * (kk : Int) + 1) : Int).toNat = 6 * kk + 1 by omega]; exact e1) dL_law_737 ?_
    refine lv_aload_n hx hb dL_law_738 rfl (lv_at hl 6 rfl) ?_
    refine lv_iload hx hb dL_law_739 (lv_at hl 1 rfl) ?_
    refine lv_iconst (v := zi (2)) hx hb dL_law_741 rfl ?_
    refine z_iadd (a := 6 * (kk : Int)) (b := 2) hx hb dL_law_742 ?_
    refine z_sld (i := (6 * (kk : Int) + 2)) (v := n) hx hb hX hbl hbA hS (by omega) (by rw [show ((6 * (kk : Int) + 2) : Int).toNat = 6 * kk + 2 by omega]; exact e2) dL_law_743 ?_
    have hsz := hS.1
    have hMw : mH D tc (fun q => zMm m0 aM q ∨ H1.size ≤ q) m0 aM u H1 := hM.mono (fun q _ h => Or.inl h)
    refine z_invVB (n := 2) (C := RX6) (B := (fun q => zMm m0 aM q ∨ H1.size ≤ q)) (fun q h => (hLA.M (H := H1) hsz).2.2.1 q h) (c_X6_ofCall l (hLA.M (H := H1) hsz) (a := a) (n := n) h0 hI) X hS (fun q h => Or.inr h) hMw hl.1 (q_830 hT hW) (q_7 hT hW) (q_827 hT hW) (q_828 hT hW) (q_829 hT hW) (m_recv hK hMw) (by decide +kernel) rfl ⟨Nat.le_of_ble_eq_true rfl, Nat.le_of_ble_eq_true rfl⟩ ⟨by show cells + 2 + 0 ≤ 601024; omega, by show slots + 12 + 0 ≤ 7293034; omega⟩ (Nat.le_of_ble_eq_true rfl) dL_law_744 (fun v H2 locs hv hfr hS => ?_) rfl
    rw [if_neg hcd, if_neg hcd] at hv
    obtain ⟨rfl, hM⟩ := hv
    have hM := hM.restrict
    have hHC := hHC.frame hfr (fun q hB hq hm => hm.elim (zBc_M hB) (fun g => by omega))
    have hO3 := hO3.frame hfr (fun z => z.elim (zMm_not hLA).1 (fun g => by have := hO3.lt; omega))
    have hO2 := hO2.frame hfr (fun z => z.elim (zMm_not hLA).2 (fun g => by have := hO2.lt; omega))
    clear hfr hMw hsz
    refine lv_istore (lv' := [(7, .int (zi ((mvOfC u a n)))), (6, .int (zi (mcOfC u a n))), (5, .int (zi (6 * (kk : Int)))), (4, .ref (o2)), (3, .ref (o)), (2, .ref (m0)), (1, .ref (ad 0)), (0, .ref (b))]) hx hb dL_law_747 hl (by decide) rfl (fun ls hl => ?_)
    refine lv_aload_n hx hb dL_law_749 rfl (lv_at hl 5 rfl) ?_
    have hsz := hS.1
    have hMw : mH D tc (fun q => zMm m0 aM q ∨ H2.size ≤ q) m0 aM ((ms u 25 0 0)) H2 := hM.mono (fun q _ h => Or.inl h)
    refine z_invVB (n := 0) (C := RX6) (B := (fun q => zMm m0 aM q ∨ H2.size ≤ q)) (fun q h => (hLA.M (H := H2) hsz).2.2.1 q h) (c_X6_thrown l (hLA.M (H := H2) hsz) (u := ((ms u 25 0 0)))) X hS (fun q h => Or.inr h) hMw hl.1 (q_746 hT hW) (q_7 hT hW) (q_743 hT hW) (q_744 hT hW) (q_745 hT hW) (m_recv hK hMw) (by decide +kernel) rfl ⟨Nat.le_of_ble_eq_true rfl, Nat.le_of_ble_eq_true rfl⟩ ⟨by show cells + 2 + 0 + 0 ≤ 601024; omega, by show slots + 12 + 0 + 0 ≤ 7293034; omega⟩ (Nat.le_of_ble_eq_true rfl) dL_law_750 (fun v H3 locs hv hfr hS => ?_) rfl
    obtain ⟨rfl, hM⟩ := hv
    have hM := hM.restrict
    have hHC := hHC.frame hfr (fun q hB hq hm => hm.elim (zBc_M hB) (fun g => by omega))
    have hO3 := hO3.frame hfr (fun z => z.elim (zMm_not hLA).1 (fun g => by have := hO3.lt; omega))
    have hO2 := hO2.frame hfr (fun z => z.elim (zMm_not hLA).2 (fun g => by have := hO2.lt; omega))
    clear hfr hMw hsz
    obtain ⟨t25, ht25⟩ : ∃ t25 : Int, t25 = ((ms u 25 0 0)) 25 0 := ⟨_, rfl⟩
    rw [← ht25]
    have h25 : ((ms u 25 0 0)) 25 0 = 0 := by rfl
    rw [h25] at ht25
    refine lv_iload hx hb dL_law_753 (lv_at hl 1 rfl) ?_
    refine z_icmp_eq (a := t25) (b := mcOfC u a n) (tgt := 760) hx hb dL_law_755 (by decide) (by omega) (fun h_755 => ?_) (fun h_755 => ?_)
    · skip
      refine lv_iload hx hb dL_law_760 (lv_at hl 1 rfl) ?_
      refine z_if_ne (a := mcOfC u a n) (tgt := 777) hx hb dL_law_762 (by decide) (by omega) (fun h_762 => ?_) (fun h_762 => ?_)
      · skip
        exact absurd h_762 (by omega)
      · skip
        refine lv_aload_n hx hb dL_law_765 rfl (lv_at hl 4 rfl) ?_
        refine lv_iconst (v := zi (0)) hx hb dL_law_766 rfl ?_
        obtain ⟨f9, hf9, hR9⟩ := hO3
        refine z_lald (i := 0) hx hb hK hR9 2 zu_eq rfl (by omega) dL_law_767 ?_
        rw [show f9 (0 : Int).toNat = (zi (mvOfC u a n)).toInt64 from hf9.trans hv4]
        have hO3 : zOL D tc o v3 H3 := ⟨f9, hf9, hR9⟩
        refine lv_iload hx hb dL_law_768 (lv_at hl 0 rfl) ?_
        refine lv_i2l hx hb dL_law_770 rfl ?_
        refine z_lcmp0 hx hb dL_law_771 ?_
        refine z_if_eq (a := 0) (tgt := 777) hx hb dL_law_772 (by decide) (by omega) (fun h_772 => ?_) (fun h_772 => ?_)
        · skip
          refine lv_goto (tgt := 970) hx hb dL_law_777 (by decide) ?_
          exact kq ((ms u 25 0 0)) _ _ _ _ _ (by show cells + 2 + 0 + 0 ≤ cells + 600; omega) (by show slots + 12 + 0 + 0 ≤ slots + 10960; omega) hIu hUu ⟨hHC, hM, ⟨v3, hO3⟩, ⟨v2, hO2⟩⟩ hS (lv_sub hl [2, 3, 4, 5, 6, 7] rfl)
        · skip
          exact absurd rfl h_772
    · skip
      exact absurd (by omega) h_755
set_option maxHeartbeats 4000000 in
set_option maxRecDepth 100000 in
theorem t_rewards {p : Program} {l : Launch} {e : Env} {s : State} {m : MethodId} {below : List Frame} {meth : Method} {c : Code} {Q : State → Prop} {b L : Nat} {xs : Nat → Int32} {D : va_G} {tc : Nat → ClassId} {dz m0 : Nat} {aM : Nat → Nat} {o o2 : Nat} {ad : Nat → Nat} {u : zS_} {H : Heap} {locs : List Loc} {ls : Array Slot} {cells slots : Nat} (hflags : l.stackTraces = false) (hx : p.tables.exec = Jvm.exec) (hb : c.code = cL_law) (hml : c.maxLocals = 8) (hown : s.vm.findClass RL = some m.cls) (hX : va_X b L xs s s.heap) (hbl : b < s.heap.size) (hL : L ≤ 3072) (hLA : zLA s D tc dz m0 aM o o2) (hI : zIn u) (hU : zUn u) {kk : Nat} (hkk : 6 * kk + 6 ≤ L) {a : Int} (h0 : -2147483648 ≤ a ∧ a ≤ 2147483647) (e1 : xs (6 * kk + 1) = zi a)
    (hw : zLw s D tc dz ad m0 aM o o2 u H) (hS : va_S (fun q => s.heap.size ≤ q) s.heap H locs) (hl : lv_has ls 8 [(5, .int (zi (6 * (kk : Int)))), (4, .ref (o2)), (3, .ref (o)), (2, .ref (m0)), (1, .ref (ad 0)), (0, .ref (b))]) (hcs : cells + 600 ≤ 601024 ∧ slots + 10960 ≤ 7293034)
    (kq : ∀ (u' : zS_) (H : Heap) (locs : List Loc) (ls : Array Slot) (cells' slots' : Nat), cells' ≤ cells + 600 → slots' ≤ slots + 10960 → zIn u' → zUn u' → zLw s D tc dz ad m0 aM o o2 u' H → va_S (fun q => s.heap.size ≤ q) s.heap H locs → lv_has ls 8 [(5, .int (zi (6 * (kk : Int)))), (4, .ref (o2)), (3, .ref (o)), (2, .ref (m0)), (1, .ref (ad 0)), (0, .ref (b))] → W p l e room_1 s m #[Value.ref b] below meth c H locs cells' slots' Q (F0 m 970 ls [])) : W p l e room_1 s m #[Value.ref b] below meth c H locs cells slots Q (F0 m 780 ls []) := by
  have hW := State.WarmedH.refl s
  have X : zH s (fun q => s.heap.size ≤ q) p s m c cL_law 8 RL := ⟨hx, hb, hml, hown, hW, ⟨Nat.le_refl _, fun _ _ => rfl⟩, fun q h => h, fun q h => h⟩
  have hT := hLA.1.1
  have hK := hLA.1.2.1
  have hbA : ¬ (fun q => s.heap.size ≤ q) b := fun z => absurd z (by show ¬ s.heap.size ≤ b; omega)
  have hc9 : 0 ≤ mcClub a ∧ mcClub a ≤ 3 := by unfold mcClub; omega
  have hI1 := hI.1
  refine lv_aload_n hx hb dL_law_780 rfl (lv_at hl 4 rfl) ?_
  refine lv_aload_n hx hb dL_law_781 rfl (lv_at hl 5 rfl) ?_
  refine lv_iload hx hb dL_law_782 (lv_at hl 0 rfl) ?_
  refine lv_iconst (v := zi (1)) hx hb dL_law_784 rfl ?_
  refine z_iadd (a := 6 * (kk : Int)) (b := 1) hx hb dL_law_785 ?_
  refine z_sld (i := (6 * (kk : Int) + 1)) (v := a) hx hb hX hbl hbA hS (by omega) (by rw [show ((6 * (kk : Int) + 1) : Int).toNat = 6 * kk + 1 by omega]; exact e1) dL_law_786 ?_
  refine lv_aload_n hx hb dL_law_787 rfl (lv_at hl 2 rfl) ?_
  obtain ⟨hHC, hM, ⟨v1, hO⟩, ⟨v2, hO2⟩⟩ := hw
  have hsz := hS.1
  have hfr0 : ∀ q : Nat, H.size ≤ q → zBc s m0 aM o o2 q := zLw.fresh hsz ⟨hHC, hM, ⟨v1, hO⟩, ⟨v2, hO2⟩⟩
  refine z_invSH (n := 3) (B := (fun q => zBc s m0 aM o o2 q ∨ q = o)) (fun q h => h.elim (fun z => z.1) (fun z => by rw [z]; exact hLA.2.2.1.2.2.1)) (c_L_rewards l hflags hLA.B hLA.2.1 (ad := ad) (u := ms u 25 0 0) (o := o) hLA.2.2.1.2.2.1 (fun z => z.2.2.2.1 rfl) (a := a) h0 (zIn_25 hI) hU) X hS (fun q h => Or.inl (hfr0 q h)) ⟨hHC.c25, ⟨v1, hO⟩, hfr0⟩ hl.1 (q_613 hT hW) (q_0 hT hW) (q_611 hT hW) (q_612 hT hW) (by decide +kernel) rfl ⟨Nat.le_of_ble_eq_true rfl, Nat.le_of_ble_eq_true rfl⟩ ⟨by show cells + 1 ≤ 601024; omega, by show slots + 6 ≤ 7293034; omega⟩ (Nat.le_of_ble_eq_true rfl) dL_law_788 (fun v H1 locs hv hfr hS => ?_) rfl
  have hv : v = some (.int (zi (mcClub a))) ∧ (0 < mcClub a → zHC D tc dz (zBc s m0 aM o o2) ad (ms u 25 0 0) H1) ∧ (mcClub a = 0 → zHC D tc dz (zBc s m0 aM o o2) ad ((ms u 25 0 0)) H1) ∧ ∃ v : Int64, zOL D tc o v H1 ∧ (mcClub a = 0 → v = (zi (u 22 a.toNat)).toInt64) := hv
  obtain ⟨rfl, hc1, hc0, v3, hO3, hv3⟩ := hv
  have hM := mH.frame hM hfr (fun q hq _ hB => hB.elim (fun g => zBc_M g hq) (fun g => (zMm_not hLA).1 (by rw [← g]; exact hq)))
  have hO2 := hO2.frame hfr (fun z => z.elim (fun g => g.2.2.2.2 rfl) (fun g => hLA.2.2.2.1 g.symm))
  clear hHC hfr hfr0 hsz
  refine lv_istore (lv' := [(6, .int (zi (mcClub a))), (5, .int (zi (6 * (kk : Int)))), (4, .ref (o2)), (3, .ref (o)), (2, .ref (m0)), (1, .ref (ad 0)), (0, .ref (b))]) hx hb dL_law_791 hl (by decide) rfl (fun ls hl => ?_)
  by_cases hcd : 0 < mcClub a
  · skip
    have hHC : zHC D tc dz (zBc s m0 aM o o2) ad (ms u 25 0 (mcClub a)) H1 := by
      have g := (hc1 hcd).c25 (x := mcClub a)
      rw [ms_ms] at g
      exact g
    have hIu : zIn (ms u 25 0 (mcClub a)) := zIn_25 hI
    have hUu : zUn (ms u 25 0 (mcClub a)) := hU
    refine lv_aload_n hx hb dL_law_793 rfl (lv_at hl 4 rfl) ?_
    refine lv_aload_n hx hb dL_law_794 rfl (lv_at hl 6 rfl) ?_
    refine lv_iload hx hb dL_law_795 (lv_at hl 1 rfl) ?_
    refine lv_iconst (v := zi (1)) hx hb dL_law_797 rfl ?_
    refine z_iadd (a := 6 * (kk : Int)) (b := 1) hx hb dL_law_798 ?_
    refine z_sld (i := (6 * (kk : Int) + 1)) (v := a) hx hb hX hbl hbA hS (by omega) (by rw [show ((6 * (kk : Int) + 1) : Int).toNat = 6 * kk + 1 by omega]; exact e1) dL_law_799 ?_
    have hsz := hS.1
    have hMw : mH D tc (fun q => zMm m0 aM q ∨ H1.size ≤ q) m0 aM u H1 := hM.mono (fun q _ h => Or.inl h)
    refine z_invVB (n := 1) (C := RX6) (B := (fun q => zMm m0 aM q ∨ H1.size ≤ q)) (fun q h => (hLA.M (H := H1) hsz).2.2.1 q h) (c_X6_rewards l (hLA.M (H := H1) hsz) (a := a) h0 hI) X hS (fun q h => Or.inr h) hMw hl.1 (q_834 hT hW) (q_7 hT hW) (q_831 hT hW) (q_832 hT hW) (q_833 hT hW) (m_recv hK hMw) (by decide +kernel) rfl ⟨Nat.le_of_ble_eq_true rfl, Nat.le_of_ble_eq_true rfl⟩ ⟨by show cells + 1 + 0 ≤ 601024; omega, by show slots + 6 + 0 ≤ 7293034; omega⟩ (Nat.le_of_ble_eq_true rfl) dL_law_800 (fun v H2 locs hv hfr hS => ?_) rfl
    rw [if_pos hcd, if_pos hcd] at hv
    obtain ⟨rfl, hM⟩ := hv
    have hM := hM.restrict
    have hHC := hHC.frame hfr (fun q hB hq hm => hm.elim (zBc_M hB) (fun g => by omega))
    have hO3 := hO3.frame hfr (fun z => z.elim (zMm_not hLA).1 (fun g => by have := hO3.lt; omega))
    have hO2 := hO2.frame hfr (fun z => z.elim (zMm_not hLA).2 (fun g => by have := hO2.lt; omega))
    clear hfr hMw hsz
    refine lv_istore (lv' := [(7, .int (zi ((-1)))), (6, .int (zi (mcClub a))), (5, .int (zi (6 * (kk : Int)))), (4, .ref (o2)), (3, .ref (o)), (2, .ref (m0)), (1, .ref (ad 0)), (0, .ref (b))]) hx hb dL_law_803 hl (by decide) rfl (fun ls hl => ?_)
    refine lv_aload_n hx hb dL_law_805 rfl (lv_at hl 5 rfl) ?_
    have hsz := hS.1
    have hMw : mH D tc (fun q => zMm m0 aM q ∨ H2.size ≤ q) m0 aM (ms u 25 0 (mcClub a)) H2 := hM.mono (fun q _ h => Or.inl h)
    refine z_invVB (n := 0) (C := RX6) (B := (fun q => zMm m0 aM q ∨ H2.size ≤ q)) (fun q h => (hLA.M (H := H2) hsz).2.2.1 q h) (c_X6_thrown l (hLA.M (H := H2) hsz) (u := (ms u 25 0 (mcClub a)))) X hS (fun q h => Or.inr h) hMw hl.1 (q_746 hT hW) (q_7 hT hW) (q_743 hT hW) (q_744 hT hW) (q_745 hT hW) (m_recv hK hMw) (by decide +kernel) rfl ⟨Nat.le_of_ble_eq_true rfl, Nat.le_of_ble_eq_true rfl⟩ ⟨by show cells + 1 + 0 + 0 ≤ 601024; omega, by show slots + 6 + 0 + 0 ≤ 7293034; omega⟩ (Nat.le_of_ble_eq_true rfl) dL_law_806 (fun v H3 locs hv hfr hS => ?_) rfl
    obtain ⟨rfl, hM⟩ := hv
    have hM := hM.restrict
    have hHC := hHC.frame hfr (fun q hB hq hm => hm.elim (zBc_M hB) (fun g => by omega))
    have hO3 := hO3.frame hfr (fun z => z.elim (zMm_not hLA).1 (fun g => by have := hO3.lt; omega))
    have hO2 := hO2.frame hfr (fun z => z.elim (zMm_not hLA).2 (fun g => by have := hO2.lt; omega))
    clear hfr hMw hsz
    obtain ⟨t25, ht25⟩ : ∃ t25 : Int, t25 = (ms u 25 0 (mcClub a)) 25 0 := ⟨_, rfl⟩
    rw [← ht25]
    rw [ms_s] at ht25
    refine lv_iload hx hb dL_law_809 (lv_at hl 1 rfl) ?_
    refine z_icmp_eq (a := t25) (b := mcClub a) (tgt := 816) hx hb dL_law_811 (by decide) (by omega) (fun h_811 => ?_) (fun h_811 => ?_)
    · skip
      refine lv_iload hx hb dL_law_816 (lv_at hl 1 rfl) ?_
      refine z_if_ne (a := mcClub a) (tgt := 833) hx hb dL_law_818 (by decide) (by omega) (fun h_818 => ?_) (fun h_818 => ?_)
      · skip
        refine lv_goto (tgt := 970) hx hb dL_law_833 (by decide) ?_
        exact kq (ms u 25 0 (mcClub a)) _ _ _ _ _ (by show cells + 1 + 0 + 0 ≤ cells + 600; omega) (by show slots + 6 + 0 + 0 ≤ slots + 10960; omega) hIu hUu ⟨hHC, hM, ⟨v3, hO3⟩, ⟨v2, hO2⟩⟩ hS (lv_sub hl [2, 3, 4, 5, 6, 7] rfl)
      · skip
        exact absurd h_818 (by omega)
    · skip
      exact absurd (by omega) h_811
  · skip
    have hcd9 : mcClub a = 0 := by omega
    have hHC := hc0 hcd9
    have hv4 := hv3 hcd9
    have hIu : zIn ((ms u 25 0 0)) := zIn_25 hI
    have hUu : zUn ((ms u 25 0 0)) := hU
    refine lv_aload_n hx hb dL_law_793 rfl (lv_at hl 4 rfl) ?_
    refine lv_aload_n hx hb dL_law_794 rfl (lv_at hl 6 rfl) ?_
    refine lv_iload hx hb dL_law_795 (lv_at hl 1 rfl) ?_
    refine lv_iconst (v := zi (1)) hx hb dL_law_797 rfl ?_
    refine z_iadd (a := 6 * (kk : Int)) (b := 1) hx hb dL_law_798 ?_
    refine z_sld (i := (6 * (kk : Int) + 1)) (v := a) hx hb hX hbl hbA hS (by omega) (by rw [show ((6 * (kk : Int) + 1) : Int).toNat = 6 * kk + 1 by omega]; exact e1) dL_law_799 ?_
    have hsz := hS.1
    have hMw : mH D tc (fun q => zMm m0 aM q ∨ H1.size ≤ q) m0 aM u H1 := hM.mono (fun q _ h => Or.inl h)
    refine z_invVB (n := 1) (C := RX6) (B := (fun q => zMm m0 aM q ∨ H1.size ≤ q)) (fun q h => (hLA.M (H := H1) hsz).2.2.1 q h) (c_X6_rewards l (hLA.M (H := H1) hsz) (a := a) h0 hI) X hS (fun q h => Or.inr h) hMw hl.1 (q_834 hT hW) (q_7 hT hW) (q_831 hT hW) (q_832 hT hW) (q_833 hT hW) (m_recv hK hMw) (by decide +kernel) rfl ⟨Nat.le_of_ble_eq_true rfl, Nat.le_of_ble_eq_true rfl⟩ ⟨by show cells + 1 + 0 ≤ 601024; omega, by show slots + 6 + 0 ≤ 7293034; omega⟩ (Nat.le_of_ble_eq_true rfl) dL_law_800 (fun v H2 locs hv hfr hS => ?_) rfl
    rw [if_neg hcd, if_neg hcd] at hv
    obtain ⟨rfl, hM⟩ := hv
    have hM := hM.restrict
    have hHC := hHC.frame hfr (fun q hB hq hm => hm.elim (zBc_M hB) (fun g => by omega))
    have hO3 := hO3.frame hfr (fun z => z.elim (zMm_not hLA).1 (fun g => by have := hO3.lt; omega))
    have hO2 := hO2.frame hfr (fun z => z.elim (zMm_not hLA).2 (fun g => by have := hO2.lt; omega))
    clear hfr hMw hsz
    refine lv_istore (lv' := [(7, .int (zi ((u 22 a.toNat)))), (6, .int (zi (mcClub a))), (5, .int (zi (6 * (kk : Int)))), (4, .ref (o2)), (3, .ref (o)), (2, .ref (m0)), (1, .ref (ad 0)), (0, .ref (b))]) hx hb dL_law_803 hl (by decide) rfl (fun ls hl => ?_)
    refine lv_aload_n hx hb dL_law_805 rfl (lv_at hl 5 rfl) ?_
    have hsz := hS.1
    have hMw : mH D tc (fun q => zMm m0 aM q ∨ H2.size ≤ q) m0 aM ((ms u 25 0 0)) H2 := hM.mono (fun q _ h => Or.inl h)
    refine z_invVB (n := 0) (C := RX6) (B := (fun q => zMm m0 aM q ∨ H2.size ≤ q)) (fun q h => (hLA.M (H := H2) hsz).2.2.1 q h) (c_X6_thrown l (hLA.M (H := H2) hsz) (u := ((ms u 25 0 0)))) X hS (fun q h => Or.inr h) hMw hl.1 (q_746 hT hW) (q_7 hT hW) (q_743 hT hW) (q_744 hT hW) (q_745 hT hW) (m_recv hK hMw) (by decide +kernel) rfl ⟨Nat.le_of_ble_eq_true rfl, Nat.le_of_ble_eq_true rfl⟩ ⟨by show cells + 1 + 0 + 0 ≤ 601024; omega, by show slots + 6 + 0 + 0 ≤ 7293034; omega⟩ (Nat.le_of_ble_eq_true rfl) dL_law_806 (fun v H3 locs hv hfr hS => ?_) rfl
    obtain ⟨rfl, hM⟩ := hv
    have hM := hM.restrict
    have hHC := hHC.frame hfr (fun q hB hq hm => hm.elim (zBc_M hB) (fun g => by omega))
    have hO3 := hO3.frame hfr (fun z => z.elim (zMm_not hLA).1 (fun g => by have := hO3.lt; omega))
    have hO2 := hO2.frame hfr (fun z => z.elim (zMm_not hLA).2 (fun g => by have := hO2.lt; omega))
    clear hfr hMw hsz
    obtain ⟨t25, ht25⟩ : ∃ t25 : Int, t25 = ((ms u 25 0 0)) 25 0 := ⟨_, rfl⟩
    rw [← ht25]
    have h25 : ((ms u 25 0 0)) 25 0 = 0 := by rfl
    rw [h25] at ht25
    refine lv_iload hx hb dL_law_809 (lv_at hl 1 rfl) ?_
    refine z_icmp_eq (a := t25) (b := mcClub a) (tgt := 816) hx hb dL_law_811 (by decide) (by omega) (fun h_811 => ?_) (fun h_811 => ?_)
    · skip
      refine lv_iload hx hb dL_law_816 (lv_at hl 1 rfl) ?_
      refine z_if_ne (a := mcClub a) (tgt := 833) hx hb dL_law_818 (by decide) (by omega) (fun h_818 => ?_) (fun h_818 => ?_)
      · skip
        exact absurd h_818 (by omega)
      · skip
        refine lv_aload_n hx hb dL_law_821 rfl (lv_at hl 4 rfl) ?_
        refine lv_iconst (v := zi (0)) hx hb dL_law_822 rfl ?_
        obtain ⟨f9, hf9, hR9⟩ := hO3
        refine z_lald (i := 0) hx hb hK hR9 2 zu_eq rfl (by omega) dL_law_823 ?_
        rw [show f9 (0 : Int).toNat = (zi (u 22 a.toNat)).toInt64 from hf9.trans hv4]
        have hO3 : zOL D tc o v3 H3 := ⟨f9, hf9, hR9⟩
        refine lv_iload hx hb dL_law_824 (lv_at hl 0 rfl) ?_
        refine lv_i2l hx hb dL_law_826 rfl ?_
        refine z_lcmp0 hx hb dL_law_827 ?_
        refine z_if_eq (a := 0) (tgt := 833) hx hb dL_law_828 (by decide) (by omega) (fun h_828 => ?_) (fun h_828 => ?_)
        · skip
          refine lv_goto (tgt := 970) hx hb dL_law_833 (by decide) ?_
          exact kq ((ms u 25 0 0)) _ _ _ _ _ (by show cells + 1 + 0 + 0 ≤ cells + 600; omega) (by show slots + 6 + 0 + 0 ≤ slots + 10960; omega) hIu hUu ⟨hHC, hM, ⟨v3, hO3⟩, ⟨v2, hO2⟩⟩ hS (lv_sub hl [2, 3, 4, 5, 6, 7] rfl)
        · skip
          exact absurd rfl h_828
    · skip
      exact absurd (by omega) h_811
set_option maxHeartbeats 4000000 in
set_option maxRecDepth 100000 in
theorem t_rewardsAnew {p : Program} {l : Launch} {e : Env} {s : State} {m : MethodId} {below : List Frame} {meth : Method} {c : Code} {Q : State → Prop} {b L : Nat} {xs : Nat → Int32} {D : va_G} {tc : Nat → ClassId} {dz m0 : Nat} {aM : Nat → Nat} {o o2 : Nat} {ad : Nat → Nat} {u : zS_} {H : Heap} {locs : List Loc} {ls : Array Slot} {cells slots : Nat} (hflags : l.stackTraces = false) (hx : p.tables.exec = Jvm.exec) (hb : c.code = cL_law) (hml : c.maxLocals = 8) (hown : s.vm.findClass RL = some m.cls) (hX : va_X b L xs s s.heap) (hbl : b < s.heap.size) (hL : L ≤ 3072) (hLA : zLA s D tc dz m0 aM o o2) (hI : zIn u) (hU : zUn u) {kk : Nat} (hkk : 6 * kk + 6 ≤ L) {a : Int} (h0 : -2147483648 ≤ a ∧ a ≤ 2147483647) (e1 : xs (6 * kk + 1) = zi a)
    (hw : zLw s D tc dz ad m0 aM o o2 u H) (hS : va_S (fun q => s.heap.size ≤ q) s.heap H locs) (hl : lv_has ls 8 [(5, .int (zi (6 * (kk : Int)))), (4, .ref (o2)), (3, .ref (o)), (2, .ref (m0)), (1, .ref (ad 0)), (0, .ref (b))]) (hcs : cells + 600 ≤ 601024 ∧ slots + 10960 ≤ 7293034)
    (kq : ∀ (u' : zS_) (H : Heap) (locs : List Loc) (ls : Array Slot) (cells' slots' : Nat), cells' ≤ cells + 600 → slots' ≤ slots + 10960 → zIn u' → zUn u' → zLw s D tc dz ad m0 aM o o2 u' H → va_S (fun q => s.heap.size ≤ q) s.heap H locs → lv_has ls 8 [(5, .int (zi (6 * (kk : Int)))), (4, .ref (o2)), (3, .ref (o)), (2, .ref (m0)), (1, .ref (ad 0)), (0, .ref (b))] → W p l e room_1 s m #[Value.ref b] below meth c H locs cells' slots' Q (F0 m 970 ls [])) : W p l e room_1 s m #[Value.ref b] below meth c H locs cells slots Q (F0 m 836 ls []) := by
  have hW := State.WarmedH.refl s
  have X : zH s (fun q => s.heap.size ≤ q) p s m c cL_law 8 RL := ⟨hx, hb, hml, hown, hW, ⟨Nat.le_refl _, fun _ _ => rfl⟩, fun q h => h, fun q h => h⟩
  have hT := hLA.1.1
  have hK := hLA.1.2.1
  have hbA : ¬ (fun q => s.heap.size ≤ q) b := fun z => absurd z (by show ¬ s.heap.size ≤ b; omega)
  have hc9 : 0 ≤ mcClub a ∧ mcClub a ≤ 3 := by unfold mcClub; omega
  have hI1 := hI.1
  refine lv_aload_n hx hb dL_law_836 rfl (lv_at hl 4 rfl) ?_
  refine lv_aload_n hx hb dL_law_837 rfl (lv_at hl 5 rfl) ?_
  refine lv_iload hx hb dL_law_838 (lv_at hl 0 rfl) ?_
  refine lv_iconst (v := zi (1)) hx hb dL_law_840 rfl ?_
  refine z_iadd (a := 6 * (kk : Int)) (b := 1) hx hb dL_law_841 ?_
  refine z_sld (i := (6 * (kk : Int) + 1)) (v := a) hx hb hX hbl hbA hS (by omega) (by rw [show ((6 * (kk : Int) + 1) : Int).toNat = 6 * kk + 1 by omega]; exact e1) dL_law_842 ?_
  refine lv_aload_n hx hb dL_law_843 rfl (lv_at hl 2 rfl) ?_
  obtain ⟨hHC, hM, ⟨v1, hO⟩, ⟨v2, hO2⟩⟩ := hw
  have hsz := hS.1
  have hfr0 : ∀ q : Nat, H.size ≤ q → zBc s m0 aM o o2 q := zLw.fresh hsz ⟨hHC, hM, ⟨v1, hO⟩, ⟨v2, hO2⟩⟩
  refine z_invSH (n := 3) (B := (fun q => zBc s m0 aM o o2 q ∨ q = o)) (fun q h => h.elim (fun z => z.1) (fun z => by rw [z]; exact hLA.2.2.1.2.2.1)) (c_L_rewardsAnew l hflags hLA.B hLA.2.1 (ad := ad) (u := ms u 25 0 0) (o := o) hLA.2.2.1.2.2.1 (fun z => z.2.2.2.1 rfl) (a := a) h0 (zIn_25 hI) hU) X hS (fun q h => Or.inl (hfr0 q h)) ⟨hHC.c25, ⟨v1, hO⟩, hfr0⟩ hl.1 (q_624 hT hW) (q_0 hT hW) (q_622 hT hW) (q_623 hT hW) (by decide +kernel) rfl ⟨Nat.le_of_ble_eq_true rfl, Nat.le_of_ble_eq_true rfl⟩ ⟨by show cells + 1 ≤ 601024; omega, by show slots + 6 ≤ 7293034; omega⟩ (Nat.le_of_ble_eq_true rfl) dL_law_844 (fun v H1 locs hv hfr hS => ?_) rfl
  have hv : v = some (.int (zi (mcClub a))) ∧ (0 < mcClub a → zHC D tc dz (zBc s m0 aM o o2) ad (ms u 25 0 0) H1) ∧ (mcClub a = 0 → zHC D tc dz (zBc s m0 aM o o2) ad ((ms u 25 0 0)) H1) ∧ ∃ v : Int64, zOL D tc o v H1 ∧ (mcClub a = 0 → v = (zi (u 22 a.toNat)).toInt64) := hv
  obtain ⟨rfl, hc1, hc0, v3, hO3, hv3⟩ := hv
  have hM := mH.frame hM hfr (fun q hq _ hB => hB.elim (fun g => zBc_M g hq) (fun g => (zMm_not hLA).1 (by rw [← g]; exact hq)))
  have hO2 := hO2.frame hfr (fun z => z.elim (fun g => g.2.2.2.2 rfl) (fun g => hLA.2.2.2.1 g.symm))
  clear hHC hfr hfr0 hsz
  refine lv_istore (lv' := [(6, .int (zi (mcClub a))), (5, .int (zi (6 * (kk : Int)))), (4, .ref (o2)), (3, .ref (o)), (2, .ref (m0)), (1, .ref (ad 0)), (0, .ref (b))]) hx hb dL_law_847 hl (by decide) rfl (fun ls hl => ?_)
  by_cases hcd : 0 < mcClub a
  · skip
    have hHC : zHC D tc dz (zBc s m0 aM o o2) ad (ms u 25 0 (mcClub a)) H1 := by
      have g := (hc1 hcd).c25 (x := mcClub a)
      rw [ms_ms] at g
      exact g
    have hIu : zIn (ms u 25 0 (mcClub a)) := zIn_25 hI
    have hUu : zUn (ms u 25 0 (mcClub a)) := hU
    refine lv_aload_n hx hb dL_law_849 rfl (lv_at hl 4 rfl) ?_
    refine lv_aload_n hx hb dL_law_850 rfl (lv_at hl 6 rfl) ?_
    refine lv_iload hx hb dL_law_851 (lv_at hl 1 rfl) ?_
    refine lv_iconst (v := zi (1)) hx hb dL_law_853 rfl ?_
    refine z_iadd (a := 6 * (kk : Int)) (b := 1) hx hb dL_law_854 ?_
    refine z_sld (i := (6 * (kk : Int) + 1)) (v := a) hx hb hX hbl hbA hS (by omega) (by rw [show ((6 * (kk : Int) + 1) : Int).toNat = 6 * kk + 1 by omega]; exact e1) dL_law_855 ?_
    have hsz := hS.1
    have hMw : mH D tc (fun q => zMm m0 aM q ∨ H1.size ≤ q) m0 aM u H1 := hM.mono (fun q _ h => Or.inl h)
    refine z_invVB (n := 1) (C := RX6) (B := (fun q => zMm m0 aM q ∨ H1.size ≤ q)) (fun q h => (hLA.M (H := H1) hsz).2.2.1 q h) (c_X6_rewardsAnew l (hLA.M (H := H1) hsz) (a := a) h0 hI) X hS (fun q h => Or.inr h) hMw hl.1 (q_838 hT hW) (q_7 hT hW) (q_835 hT hW) (q_836 hT hW) (q_837 hT hW) (m_recv hK hMw) (by decide +kernel) rfl ⟨Nat.le_of_ble_eq_true rfl, Nat.le_of_ble_eq_true rfl⟩ ⟨by show cells + 1 + 0 ≤ 601024; omega, by show slots + 6 + 0 ≤ 7293034; omega⟩ (Nat.le_of_ble_eq_true rfl) dL_law_856 (fun v H2 locs hv hfr hS => ?_) rfl
    rw [if_pos hcd, if_pos hcd] at hv
    obtain ⟨rfl, hM⟩ := hv
    have hM := hM.restrict
    have hHC := hHC.frame hfr (fun q hB hq hm => hm.elim (zBc_M hB) (fun g => by omega))
    have hO3 := hO3.frame hfr (fun z => z.elim (zMm_not hLA).1 (fun g => by have := hO3.lt; omega))
    have hO2 := hO2.frame hfr (fun z => z.elim (zMm_not hLA).2 (fun g => by have := hO2.lt; omega))
    clear hfr hMw hsz
    refine lv_istore (lv' := [(7, .int (zi ((-1)))), (6, .int (zi (mcClub a))), (5, .int (zi (6 * (kk : Int)))), (4, .ref (o2)), (3, .ref (o)), (2, .ref (m0)), (1, .ref (ad 0)), (0, .ref (b))]) hx hb dL_law_859 hl (by decide) rfl (fun ls hl => ?_)
    refine lv_aload_n hx hb dL_law_861 rfl (lv_at hl 5 rfl) ?_
    have hsz := hS.1
    have hMw : mH D tc (fun q => zMm m0 aM q ∨ H2.size ≤ q) m0 aM (ms u 25 0 (mcClub a)) H2 := hM.mono (fun q _ h => Or.inl h)
    refine z_invVB (n := 0) (C := RX6) (B := (fun q => zMm m0 aM q ∨ H2.size ≤ q)) (fun q h => (hLA.M (H := H2) hsz).2.2.1 q h) (c_X6_thrown l (hLA.M (H := H2) hsz) (u := (ms u 25 0 (mcClub a)))) X hS (fun q h => Or.inr h) hMw hl.1 (q_746 hT hW) (q_7 hT hW) (q_743 hT hW) (q_744 hT hW) (q_745 hT hW) (m_recv hK hMw) (by decide +kernel) rfl ⟨Nat.le_of_ble_eq_true rfl, Nat.le_of_ble_eq_true rfl⟩ ⟨by show cells + 1 + 0 + 0 ≤ 601024; omega, by show slots + 6 + 0 + 0 ≤ 7293034; omega⟩ (Nat.le_of_ble_eq_true rfl) dL_law_862 (fun v H3 locs hv hfr hS => ?_) rfl
    obtain ⟨rfl, hM⟩ := hv
    have hM := hM.restrict
    have hHC := hHC.frame hfr (fun q hB hq hm => hm.elim (zBc_M hB) (fun g => by omega))
    have hO3 := hO3.frame hfr (fun z => z.elim (zMm_not hLA).1 (fun g => by have := hO3.lt; omega))
    have hO2 := hO2.frame hfr (fun z => z.elim (zMm_not hLA).2 (fun g => by have := hO2.lt; omega))
    clear hfr hMw hsz
    obtain ⟨t25, ht25⟩ : ∃ t25 : Int, t25 = (ms u 25 0 (mcClub a)) 25 0 := ⟨_, rfl⟩
    rw [← ht25]
    rw [ms_s] at ht25
    refine lv_iload hx hb dL_law_865 (lv_at hl 1 rfl) ?_
    refine z_icmp_eq (a := t25) (b := mcClub a) (tgt := 872) hx hb dL_law_867 (by decide) (by omega) (fun h_867 => ?_) (fun h_867 => ?_)
    · skip
      refine lv_iload hx hb dL_law_872 (lv_at hl 1 rfl) ?_
      refine z_if_ne (a := mcClub a) (tgt := 889) hx hb dL_law_874 (by decide) (by omega) (fun h_874 => ?_) (fun h_874 => ?_)
      · skip
        refine lv_goto (tgt := 970) hx hb dL_law_889 (by decide) ?_
        exact kq (ms u 25 0 (mcClub a)) _ _ _ _ _ (by show cells + 1 + 0 + 0 ≤ cells + 600; omega) (by show slots + 6 + 0 + 0 ≤ slots + 10960; omega) hIu hUu ⟨hHC, hM, ⟨v3, hO3⟩, ⟨v2, hO2⟩⟩ hS (lv_sub hl [2, 3, 4, 5, 6, 7] rfl)
      · skip
        exact absurd h_874 (by omega)
    · skip
      exact absurd (by omega) h_867
  · skip
    have hcd9 : mcClub a = 0 := by omega
    have hHC := hc0 hcd9
    have hv4 := hv3 hcd9
    have hIu : zIn ((ms u 25 0 0)) := zIn_25 hI
    have hUu : zUn ((ms u 25 0 0)) := hU
    refine lv_aload_n hx hb dL_law_849 rfl (lv_at hl 4 rfl) ?_
    refine lv_aload_n hx hb dL_law_850 rfl (lv_at hl 6 rfl) ?_
    refine lv_iload hx hb dL_law_851 (lv_at hl 1 rfl) ?_
    refine lv_iconst (v := zi (1)) hx hb dL_law_853 rfl ?_
    refine z_iadd (a := 6 * (kk : Int)) (b := 1) hx hb dL_law_854 ?_
    refine z_sld (i := (6 * (kk : Int) + 1)) (v := a) hx hb hX hbl hbA hS (by omega) (by rw [show ((6 * (kk : Int) + 1) : Int).toNat = 6 * kk + 1 by omega]; exact e1) dL_law_855 ?_
    have hsz := hS.1
    have hMw : mH D tc (fun q => zMm m0 aM q ∨ H1.size ≤ q) m0 aM u H1 := hM.mono (fun q _ h => Or.inl h)
    refine z_invVB (n := 1) (C := RX6) (B := (fun q => zMm m0 aM q ∨ H1.size ≤ q)) (fun q h => (hLA.M (H := H1) hsz).2.2.1 q h) (c_X6_rewardsAnew l (hLA.M (H := H1) hsz) (a := a) h0 hI) X hS (fun q h => Or.inr h) hMw hl.1 (q_838 hT hW) (q_7 hT hW) (q_835 hT hW) (q_836 hT hW) (q_837 hT hW) (m_recv hK hMw) (by decide +kernel) rfl ⟨Nat.le_of_ble_eq_true rfl, Nat.le_of_ble_eq_true rfl⟩ ⟨by show cells + 1 + 0 ≤ 601024; omega, by show slots + 6 + 0 ≤ 7293034; omega⟩ (Nat.le_of_ble_eq_true rfl) dL_law_856 (fun v H2 locs hv hfr hS => ?_) rfl
    rw [if_neg hcd, if_neg hcd] at hv
    obtain ⟨rfl, hM⟩ := hv
    have hM := hM.restrict
    have hHC := hHC.frame hfr (fun q hB hq hm => hm.elim (zBc_M hB) (fun g => by omega))
    have hO3 := hO3.frame hfr (fun z => z.elim (zMm_not hLA).1 (fun g => by have := hO3.lt; omega))
    have hO2 := hO2.frame hfr (fun z => z.elim (zMm_not hLA).2 (fun g => by have := hO2.lt; omega))
    clear hfr hMw hsz
    refine lv_istore (lv' := [(7, .int (zi ((u 22 a.toNat)))), (6, .int (zi (mcClub a))), (5, .int (zi (6 * (kk : Int)))), (4, .ref (o2)), (3, .ref (o)), (2, .ref (m0)), (1, .ref (ad 0)), (0, .ref (b))]) hx hb dL_law_859 hl (by decide) rfl (fun ls hl => ?_)
    refine lv_aload_n hx hb dL_law_861 rfl (lv_at hl 5 rfl) ?_
    have hsz := hS.1
    have hMw : mH D tc (fun q => zMm m0 aM q ∨ H2.size ≤ q) m0 aM ((ms u 25 0 0)) H2 := hM.mono (fun q _ h => Or.inl h)
    refine z_invVB (n := 0) (C := RX6) (B := (fun q => zMm m0 aM q ∨ H2.size ≤ q)) (fun q h => (hLA.M (H := H2) hsz).2.2.1 q h) (c_X6_thrown l (hLA.M (H := H2) hsz) (u := ((ms u 25 0 0)))) X hS (fun q h => Or.inr h) hMw hl.1 (q_746 hT hW) (q_7 hT hW) (q_743 hT hW) (q_744 hT hW) (q_745 hT hW) (m_recv hK hMw) (by decide +kernel) rfl ⟨Nat.le_of_ble_eq_true rfl, Nat.le_of_ble_eq_true rfl⟩ ⟨by show cells + 1 + 0 + 0 ≤ 601024; omega, by show slots + 6 + 0 + 0 ≤ 7293034; omega⟩ (Nat.le_of_ble_eq_true rfl) dL_law_862 (fun v H3 locs hv hfr hS => ?_) rfl
    obtain ⟨rfl, hM⟩ := hv
    have hM := hM.restrict
    have hHC := hHC.frame hfr (fun q hB hq hm => hm.elim (zBc_M hB) (fun g => by omega))
    have hO3 := hO3.frame hfr (fun z => z.elim (zMm_not hLA).1 (fun g => by have := hO3.lt; omega))
    have hO2 := hO2.frame hfr (fun z => z.elim (zMm_not hLA).2 (fun g => by have := hO2.lt; omega))
    clear hfr hMw hsz
    obtain ⟨t25, ht25⟩ : ∃ t25 : Int, t25 = ((ms u 25 0 0)) 25 0 := ⟨_, rfl⟩
    rw [← ht25]
    have h25 : ((ms u 25 0 0)) 25 0 = 0 := by rfl
    rw [h25] at ht25
    refine lv_iload hx hb dL_law_865 (lv_at hl 1 rfl) ?_
    refine z_icmp_eq (a := t25) (b := mcClub a) (tgt := 872) hx hb dL_law_867 (by decide) (by omega) (fun h_867 => ?_) (fun h_867 => ?_)
    · skip
      refine lv_iload hx hb dL_law_872 (lv_at hl 1 rfl) ?_
      refine z_if_ne (a := mcClub a) (tgt := 889) hx hb dL_law_874 (by decide) (by omega) (fun h_874 => ?_) (fun h_874 => ?_)
      · skip
        exact absurd h_874 (by omega)
      · skip
        refine lv_aload_n hx hb dL_law_877 rfl (lv_at hl 4 rfl) ?_
        refine lv_iconst (v := zi (0)) hx hb dL_law_878 rfl ?_
        obtain ⟨f9, hf9, hR9⟩ := hO3
        refine z_lald (i := 0) hx hb hK hR9 2 zu_eq rfl (by omega) dL_law_879 ?_
        rw [show f9 (0 : Int).toNat = (zi (u 22 a.toNat)).toInt64 from hf9.trans hv4]
        have hO3 : zOL D tc o v3 H3 := ⟨f9, hf9, hR9⟩
        refine lv_iload hx hb dL_law_880 (lv_at hl 0 rfl) ?_
        refine lv_i2l hx hb dL_law_882 rfl ?_
        refine z_lcmp0 hx hb dL_law_883 ?_
        refine z_if_eq (a := 0) (tgt := 889) hx hb dL_law_884 (by decide) (by omega) (fun h_884 => ?_) (fun h_884 => ?_)
        · skip
          refine lv_goto (tgt := 970) hx hb dL_law_889 (by decide) ?_
          exact kq ((ms u 25 0 0)) _ _ _ _ _ (by show cells + 1 + 0 + 0 ≤ cells + 600; omega) (by show slots + 6 + 0 + 0 ≤ slots + 10960; omega) hIu hUu ⟨hHC, hM, ⟨v3, hO3⟩, ⟨v2, hO2⟩⟩ hS (lv_sub hl [2, 3, 4, 5, 6, 7] rfl)
        · skip
          exact absurd rfl h_884
    · skip
      exact absurd (by omega) h_867
set_option maxHeartbeats 4000000 in
set_option maxRecDepth 100000 in
theorem t_premium {p : Program} {l : Launch} {e : Env} {s : State} {m : MethodId} {below : List Frame} {meth : Method} {c : Code} {Q : State → Prop} {b L : Nat} {xs : Nat → Int32} {D : va_G} {tc : Nat → ClassId} {dz m0 : Nat} {aM : Nat → Nat} {o o2 : Nat} {ad : Nat → Nat} {u : zS_} {H : Heap} {locs : List Loc} {ls : Array Slot} {cells slots : Nat} (hflags : l.stackTraces = false) (hx : p.tables.exec = Jvm.exec) (hb : c.code = cL_law) (hml : c.maxLocals = 8) (hown : s.vm.findClass RL = some m.cls) (hX : va_X b L xs s s.heap) (hbl : b < s.heap.size) (hL : L ≤ 3072) (hLA : zLA s D tc dz m0 aM o o2) (hI : zIn u) (hU : zUn u) {kk : Nat} (hkk : 6 * kk + 6 ≤ L) {a : Int} (h0 : -2147483648 ≤ a ∧ a ≤ 2147483647) (e1 : xs (6 * kk + 1) = zi a)
    (hw : zLw s D tc dz ad m0 aM o o2 u H) (hS : va_S (fun q => s.heap.size ≤ q) s.heap H locs) (hl : lv_has ls 8 [(5, .int (zi (6 * (kk : Int)))), (4, .ref (o2)), (3, .ref (o)), (2, .ref (m0)), (1, .ref (ad 0)), (0, .ref (b))]) (hcs : cells + 600 ≤ 601024 ∧ slots + 10960 ≤ 7293034)
    (kq : ∀ (u' : zS_) (H : Heap) (locs : List Loc) (ls : Array Slot) (cells' slots' : Nat), cells' ≤ cells + 600 → slots' ≤ slots + 10960 → zIn u' → zUn u' → zLw s D tc dz ad m0 aM o o2 u' H → va_S (fun q => s.heap.size ≤ q) s.heap H locs → lv_has ls 8 [(5, .int (zi (6 * (kk : Int)))), (4, .ref (o2)), (3, .ref (o)), (2, .ref (m0)), (1, .ref (ad 0)), (0, .ref (b))] → W p l e room_1 s m #[Value.ref b] below meth c H locs cells' slots' Q (F0 m 970 ls [])) : W p l e room_1 s m #[Value.ref b] below meth c H locs cells slots Q (F0 m 892 ls []) := by
  have hW := State.WarmedH.refl s
  have X : zH s (fun q => s.heap.size ≤ q) p s m c cL_law 8 RL := ⟨hx, hb, hml, hown, hW, ⟨Nat.le_refl _, fun _ _ => rfl⟩, fun q h => h, fun q h => h⟩
  have hT := hLA.1.1
  have hK := hLA.1.2.1
  have hbA : ¬ (fun q => s.heap.size ≤ q) b := fun z => absurd z (by show ¬ s.heap.size ≤ b; omega)
  have hc9 : 0 ≤ mcCell a ∧ mcCell a ≤ 3 := by unfold mcCell; omega
  have hI1 := hI.1
  refine lv_aload_n hx hb dL_law_892 rfl (lv_at hl 4 rfl) ?_
  refine lv_aload_n hx hb dL_law_893 rfl (lv_at hl 5 rfl) ?_
  refine lv_iload hx hb dL_law_894 (lv_at hl 0 rfl) ?_
  refine lv_iconst (v := zi (1)) hx hb dL_law_896 rfl ?_
  refine z_iadd (a := 6 * (kk : Int)) (b := 1) hx hb dL_law_897 ?_
  refine z_sld (i := (6 * (kk : Int) + 1)) (v := a) hx hb hX hbl hbA hS (by omega) (by rw [show ((6 * (kk : Int) + 1) : Int).toNat = 6 * kk + 1 by omega]; exact e1) dL_law_898 ?_
  refine lv_aload hx hb dL_law_899 (lv_at hl 1 rfl) ?_
  obtain ⟨hHC, hM, ⟨v1, hO⟩, ⟨v2, hO2⟩⟩ := hw
  have hsz := hS.1
  have hfr0 : ∀ q : Nat, H.size ≤ q → zBc s m0 aM o o2 q := zLw.fresh hsz ⟨hHC, hM, ⟨v1, hO⟩, ⟨v2, hO2⟩⟩
  refine z_invSH (n := 3) (B := (fun q => zBc s m0 aM o o2 q ∨ q = o2)) (fun q h => h.elim (fun z => z.1) (fun z => by rw [z]; exact hLA.2.2.1.2.2.2)) (c_L_premium l hflags hLA.B hLA.2.1 (ad := ad) (u := ms u 25 0 0) (o := o2) hLA.2.2.1.2.2.2 (fun z => z.2.2.2.2 rfl) (a := a) h0 (zIn_25 hI) hU) X hS (fun q h => Or.inl (hfr0 q h)) ⟨hHC.c25, ⟨v2, hO2⟩, hfr0⟩ hl.1 (q_640 hT hW) (q_0 hT hW) (q_638 hT hW) (q_639 hT hW) (by decide +kernel) rfl ⟨Nat.le_of_ble_eq_true rfl, Nat.le_of_ble_eq_true rfl⟩ ⟨by show cells + 1 ≤ 601024; omega, by show slots + 6 ≤ 7293034; omega⟩ (Nat.le_of_ble_eq_true rfl) dL_law_901 (fun v H1 locs hv hfr hS => ?_) rfl
  have hv : v = some (.int (zi (mcCell a))) ∧ (0 < mcCell a → zHC D tc dz (zBc s m0 aM o o2) ad (ms u 25 0 0) H1) ∧ (mcCell a = 0 → zHC D tc dz (zBc s m0 aM o o2) ad ((ms u 25 0 0)) H1) ∧ ∃ v : UInt64, zOD D tc o2 v H1 ∧ (mcCell a = 0 → v = FP.f2d (mfl (mmost (ms u 25 0 0) a) (mmany (ms u 25 0 0) a ((ms u 25 0 0) 21 0).toNat))) := hv
  obtain ⟨rfl, hc1, hc0, v3, hO3, hv3⟩ := hv
  have hM := mH.frame hM hfr (fun q hq _ hB => hB.elim (fun g => zBc_M g hq) (fun g => (zMm_not hLA).2 (by rw [← g]; exact hq)))
  have hO := hO.frame hfr (fun z => z.elim (fun g => g.2.2.2.1 rfl) (fun g => hLA.2.2.2.1 g))
  clear hHC hfr hfr0 hsz
  refine lv_istore (lv' := [(6, .int (zi (mcCell a))), (5, .int (zi (6 * (kk : Int)))), (4, .ref (o2)), (3, .ref (o)), (2, .ref (m0)), (1, .ref (ad 0)), (0, .ref (b))]) hx hb dL_law_904 hl (by decide) rfl (fun ls hl => ?_)
  by_cases hcd : 0 < mcCell a
  · skip
    have hHC : zHC D tc dz (zBc s m0 aM o o2) ad (ms u 25 0 (mcCell a)) H1 := by
      have g := (hc1 hcd).c25 (x := mcCell a)
      rw [ms_ms] at g
      exact g
    have hIu : zIn (ms u 25 0 (mcCell a)) := zIn_25 hI
    have hUu : zUn (ms u 25 0 (mcCell a)) := hU
    refine lv_aload_n hx hb dL_law_906 rfl (lv_at hl 4 rfl) ?_
    refine lv_aload_n hx hb dL_law_907 rfl (lv_at hl 6 rfl) ?_
    refine lv_iload hx hb dL_law_908 (lv_at hl 1 rfl) ?_
    refine lv_iconst (v := zi (1)) hx hb dL_law_910 rfl ?_
    refine z_iadd (a := 6 * (kk : Int)) (b := 1) hx hb dL_law_911 ?_
    refine z_sld (i := (6 * (kk : Int) + 1)) (v := a) hx hb hX hbl hbA hS (by omega) (by rw [show ((6 * (kk : Int) + 1) : Int).toNat = 6 * kk + 1 by omega]; exact e1) dL_law_912 ?_
    have hsz := hS.1
    have hMw : mH D tc (fun q => zMm m0 aM q ∨ H1.size ≤ q) m0 aM u H1 := hM.mono (fun q _ h => Or.inl h)
    refine z_invVB (n := 1) (C := RX6) (B := (fun q => zMm m0 aM q ∨ H1.size ≤ q)) (fun q h => (hLA.M (H := H1) hsz).2.2.1 q h) (c_X6_premium l (hLA.M (H := H1) hsz) (a := a) h0 hI) X hS (fun q h => Or.inr h) hMw hl.1 (q_842 hT hW) (q_7 hT hW) (q_839 hT hW) (q_840 hT hW) (q_841 hT hW) (m_recv hK hMw) (by decide +kernel) rfl ⟨Nat.le_of_ble_eq_true rfl, Nat.le_of_ble_eq_true rfl⟩ ⟨by show cells + 1 + 0 ≤ 601024; omega, by show slots + 6 + 0 ≤ 7293034; omega⟩ (Nat.le_of_ble_eq_true rfl) dL_law_913 (fun v H2 locs hv hfr hS => ?_) rfl
    rw [if_pos hcd, if_pos hcd] at hv
    obtain ⟨rfl, hM⟩ := hv
    have hM := hM.restrict
    have hHC := hHC.frame hfr (fun q hB hq hm => hm.elim (zBc_M hB) (fun g => by omega))
    have hO := hO.frame hfr (fun z => z.elim (zMm_not hLA).1 (fun g => by have := hO.lt; omega))
    have hO3 := hO3.frame hfr (fun z => z.elim (zMm_not hLA).2 (fun g => by have := hO3.lt; omega))
    clear hfr hMw hsz
    refine lv_fstore (lv' := [(7, .float (3212836864)), (6, .int (zi (mcCell a))), (5, .int (zi (6 * (kk : Int)))), (4, .ref (o2)), (3, .ref (o)), (2, .ref (m0)), (1, .ref (ad 0)), (0, .ref (b))]) hx hb dL_law_916 hl (by decide) rfl (fun ls hl => ?_)
    refine lv_aload_n hx hb dL_law_918 rfl (lv_at hl 5 rfl) ?_
    have hsz := hS.1
    have hMw : mH D tc (fun q => zMm m0 aM q ∨ H2.size ≤ q) m0 aM (ms u 25 0 (mcCell a)) H2 := hM.mono (fun q _ h => Or.inl h)
    refine z_invVB (n := 0) (C := RX6) (B := (fun q => zMm m0 aM q ∨ H2.size ≤ q)) (fun q h => (hLA.M (H := H2) hsz).2.2.1 q h) (c_X6_thrown l (hLA.M (H := H2) hsz) (u := (ms u 25 0 (mcCell a)))) X hS (fun q h => Or.inr h) hMw hl.1 (q_746 hT hW) (q_7 hT hW) (q_743 hT hW) (q_744 hT hW) (q_745 hT hW) (m_recv hK hMw) (by decide +kernel) rfl ⟨Nat.le_of_ble_eq_true rfl, Nat.le_of_ble_eq_true rfl⟩ ⟨by show cells + 1 + 0 + 0 ≤ 601024; omega, by show slots + 6 + 0 + 0 ≤ 7293034; omega⟩ (Nat.le_of_ble_eq_true rfl) dL_law_919 (fun v H3 locs hv hfr hS => ?_) rfl
    obtain ⟨rfl, hM⟩ := hv
    have hM := hM.restrict
    have hHC := hHC.frame hfr (fun q hB hq hm => hm.elim (zBc_M hB) (fun g => by omega))
    have hO := hO.frame hfr (fun z => z.elim (zMm_not hLA).1 (fun g => by have := hO.lt; omega))
    have hO3 := hO3.frame hfr (fun z => z.elim (zMm_not hLA).2 (fun g => by have := hO3.lt; omega))
    clear hfr hMw hsz
    obtain ⟨t25, ht25⟩ : ∃ t25 : Int, t25 = (ms u 25 0 (mcCell a)) 25 0 := ⟨_, rfl⟩
    rw [← ht25]
    rw [ms_s] at ht25
    refine lv_iload hx hb dL_law_922 (lv_at hl 1 rfl) ?_
    refine z_icmp_eq (a := t25) (b := mcCell a) (tgt := 929) hx hb dL_law_924 (by decide) (by omega) (fun h_924 => ?_) (fun h_924 => ?_)
    · skip
      refine lv_iload hx hb dL_law_929 (lv_at hl 1 rfl) ?_
      refine z_if_ne (a := mcCell a) (tgt := 967) hx hb dL_law_931 (by decide) (by omega) (fun h_931 => ?_) (fun h_931 => ?_)
      · skip
        refine lv_goto (tgt := 970) hx hb dL_law_967 (by decide) ?_
        exact kq (ms u 25 0 (mcCell a)) _ _ _ _ _ (by show cells + 1 + 0 + 0 ≤ cells + 600; omega) (by show slots + 6 + 0 + 0 ≤ slots + 10960; omega) hIu hUu ⟨hHC, hM, ⟨v1, hO⟩, ⟨v3, hO3⟩⟩ hS (lv_sub hl [2, 3, 4, 5, 6, 7] rfl)
      · skip
        exact absurd h_931 (by omega)
    · skip
      exact absurd (by omega) h_924
  · skip
    have hcd9 : mcCell a = 0 := by omega
    have hHC := hc0 hcd9
    have hv4 := hv3 hcd9
    have hIu : zIn ((ms u 25 0 0)) := zIn_25 hI
    have hUu : zUn ((ms u 25 0 0)) := hU
    refine lv_aload_n hx hb dL_law_906 rfl (lv_at hl 4 rfl) ?_
    refine lv_aload_n hx hb dL_law_907 rfl (lv_at hl 6 rfl) ?_
    refine lv_iload hx hb dL_law_908 (lv_at hl 1 rfl) ?_
    refine lv_iconst (v := zi (1)) hx hb dL_law_910 rfl ?_
    refine z_iadd (a := 6 * (kk : Int)) (b := 1) hx hb dL_law_911 ?_
    refine z_sld (i := (6 * (kk : Int) + 1)) (v := a) hx hb hX hbl hbA hS (by omega) (by rw [show ((6 * (kk : Int) + 1) : Int).toNat = 6 * kk + 1 by omega]; exact e1) dL_law_912 ?_
    have hsz := hS.1
    have hMw : mH D tc (fun q => zMm m0 aM q ∨ H1.size ≤ q) m0 aM u H1 := hM.mono (fun q _ h => Or.inl h)
    refine z_invVB (n := 1) (C := RX6) (B := (fun q => zMm m0 aM q ∨ H1.size ≤ q)) (fun q h => (hLA.M (H := H1) hsz).2.2.1 q h) (c_X6_premium l (hLA.M (H := H1) hsz) (a := a) h0 hI) X hS (fun q h => Or.inr h) hMw hl.1 (q_842 hT hW) (q_7 hT hW) (q_839 hT hW) (q_840 hT hW) (q_841 hT hW) (m_recv hK hMw) (by decide +kernel) rfl ⟨Nat.le_of_ble_eq_true rfl, Nat.le_of_ble_eq_true rfl⟩ ⟨by show cells + 1 + 0 ≤ 601024; omega, by show slots + 6 + 0 ≤ 7293034; omega⟩ (Nat.le_of_ble_eq_true rfl) dL_law_913 (fun v H2 locs hv hfr hS => ?_) rfl
    rw [if_neg hcd, if_neg hcd] at hv
    obtain ⟨rfl, hM⟩ := hv
    have hM := hM.restrict
    have hHC := hHC.frame hfr (fun q hB hq hm => hm.elim (zBc_M hB) (fun g => by omega))
    have hO := hO.frame hfr (fun z => z.elim (zMm_not hLA).1 (fun g => by have := hO.lt; omega))
    have hO3 := hO3.frame hfr (fun z => z.elim (zMm_not hLA).2 (fun g => by have := hO3.lt; omega))
    clear hfr hMw hsz
    refine lv_fstore (lv' := [(7, .float (mfl (mmost u a) (mmany u a (u 21 0).toNat))), (6, .int (zi (mcCell a))), (5, .int (zi (6 * (kk : Int)))), (4, .ref (o2)), (3, .ref (o)), (2, .ref (m0)), (1, .ref (ad 0)), (0, .ref (b))]) hx hb dL_law_916 hl (by decide) rfl (fun ls hl => ?_)
    refine lv_aload_n hx hb dL_law_918 rfl (lv_at hl 5 rfl) ?_
    have hsz := hS.1
    have hMw : mH D tc (fun q => zMm m0 aM q ∨ H2.size ≤ q) m0 aM ((ms u 25 0 0)) H2 := hM.mono (fun q _ h => Or.inl h)
    refine z_invVB (n := 0) (C := RX6) (B := (fun q => zMm m0 aM q ∨ H2.size ≤ q)) (fun q h => (hLA.M (H := H2) hsz).2.2.1 q h) (c_X6_thrown l (hLA.M (H := H2) hsz) (u := ((ms u 25 0 0)))) X hS (fun q h => Or.inr h) hMw hl.1 (q_746 hT hW) (q_7 hT hW) (q_743 hT hW) (q_744 hT hW) (q_745 hT hW) (m_recv hK hMw) (by decide +kernel) rfl ⟨Nat.le_of_ble_eq_true rfl, Nat.le_of_ble_eq_true rfl⟩ ⟨by show cells + 1 + 0 + 0 ≤ 601024; omega, by show slots + 6 + 0 + 0 ≤ 7293034; omega⟩ (Nat.le_of_ble_eq_true rfl) dL_law_919 (fun v H3 locs hv hfr hS => ?_) rfl
    obtain ⟨rfl, hM⟩ := hv
    have hM := hM.restrict
    have hHC := hHC.frame hfr (fun q hB hq hm => hm.elim (zBc_M hB) (fun g => by omega))
    have hO := hO.frame hfr (fun z => z.elim (zMm_not hLA).1 (fun g => by have := hO.lt; omega))
    have hO3 := hO3.frame hfr (fun z => z.elim (zMm_not hLA).2 (fun g => by have := hO3.lt; omega))
    clear hfr hMw hsz
    obtain ⟨t25, ht25⟩ : ∃ t25 : Int, t25 = ((ms u 25 0 0)) 25 0 := ⟨_, rfl⟩
    rw [← ht25]
    have h25 : ((ms u 25 0 0)) 25 0 = 0 := by rfl
    rw [h25] at ht25
    refine lv_iload hx hb dL_law_922 (lv_at hl 1 rfl) ?_
    refine z_icmp_eq (a := t25) (b := mcCell a) (tgt := 929) hx hb dL_law_924 (by decide) (by omega) (fun h_924 => ?_) (fun h_924 => ?_)
    · skip
      refine lv_iload hx hb dL_law_929 (lv_at hl 1 rfl) ?_
      refine z_if_ne (a := mcCell a) (tgt := 967) hx hb dL_law_931 (by decide) (by omega) (fun h_931 => ?_) (fun h_931 => ?_)
      · skip
        exact absurd h_931 (by omega)
      · skip
        refine lv_aload hx hb dL_law_934 (lv_at hl 3 rfl) ?_
        refine lv_iconst (v := zi (0)) hx hb dL_law_936 rfl ?_
        have hm0 : 0 ≤ (mmost u a) := zmax_ge _
        have hm9 : (mmost u a) ≤ 9 := zmax_le (by decide) _ (fun i hi => (hI.2.1 _).2)
        have hI1 := hI.1
        have hma := mmany_r (u := u) (a := a) (u 21 0).toNat
        have hfl := mfl_n (mmost u a).toNat (by omega) (mmany u a (u 21 0).toNat).toNat (by omega)
        rw [show (((mmost u a).toNat : Nat) : Int) = (mmost u a) by omega, show (((mmany u a (u 21 0).toNat).toNat : Nat) : Int) = (mmany u a (u 21 0).toNat) by omega] at hfl
        have hcp := mfl_cmp (mmost u a).toNat (by omega) (mmany u a (u 21 0).toNat).toNat (by omega)
        rw [show (((mmost u a).toNat : Nat) : Int) = (mmost u a) by omega, show (((mmany u a (u 21 0).toNat).toNat : Nat) : Int) = (mmany u a (u 21 0).toNat) by omega] at hcp
        have hv5 : v3 = FP.f2d (mfl (mmost u a) (mmany u a (u 21 0).toNat)) := by rw [hv4, mmany_25]; rfl
        obtain ⟨f9, hf9, hR9⟩ := hO3
        refine z_dald (i := 0) hx hb hK hR9 3 zu_eq rfl (by omega) dL_law_937 ?_
        rw [show f9 (0 : Int).toNat = FP.f2d (mfl (mmost u a) (mmany u a (u 21 0).toNat)) from hf9.trans hv5]
        have hO3 : zOD D tc o2 v3 H3 := ⟨f9, hf9, hR9⟩
        refine lv_fload hx hb dL_law_938 (lv_at hl 0 rfl) ?_
        refine lv_f2d hx hb dL_law_940 hfl.2.2.2 ?_
        refine lv_dcmp hx hb dL_law_941 ?_
        rw [hcp]
        refine z_if_eq (a := 0) (tgt := 967) hx hb dL_law_942 (by decide) (by omega) (fun h_942 => ?_) (fun h_942 => ?_)
        · skip
          refine lv_goto (tgt := 970) hx hb dL_law_967 (by decide) ?_
          exact kq ((ms u 25 0 0)) _ _ _ _ _ (by show cells + 1 + 0 + 0 ≤ cells + 600; omega) (by show slots + 6 + 0 + 0 ≤ slots + 10960; omega) hIu hUu ⟨hHC, hM, ⟨v1, hO⟩, ⟨v3, hO3⟩⟩ hS (lv_sub hl [2, 3, 4, 5, 6, 7] rfl)
        · skip
          exact absurd rfl h_942
    · skip
      exact absurd (by omega) h_924
