/-! the law, from its entry -/
set_option maxHeartbeats 4000000 in
set_option maxRecDepth 100000 in
theorem whole_start {p : Program} {e : Env} {s : State} {m : MethodId} {below : List Frame} {meth : Method} {c : Code} (l : Launch) (hflags : l.flags = flags0) {b L : Nat} {xs : Nat → Int32} (hL : L ≤ 3072) (C0 : lw_At p s m meth c b L xs) : W p l e room_1 s m #[Value.ref b] below meth c s.heap [] 0 0 (lw_Z below #[Value.ref b] s) (entryFrame m ([Value.ref b] : List Value).toArray 8) := by
  obtain ⟨hx, hb, hr, hml, hown, hts, hX, hbl, hlocks, hpre⟩ := id C0
  have hst : l.stackTraces = false := by unfold Launch.stackTraces; rw [hflags]; decide
  obtain ⟨D, tc, dz, hZ, hNC⟩ := zB_start hts hpre
  have hT := hZ.1
  have hK := hZ.2.1
  have hW := State.WarmedH.refl s
  have hA : ∀ q : Nat, s.heap.size ≤ q → (fun q : Nat => s.heap.size ≤ q) q := fun _ h => h
  have hbA : ¬ (fun q : Nat => s.heap.size ≤ q) b := Nat.not_le.mpr hbl
  have hS : va_S (fun q : Nat => s.heap.size ≤ q) s.heap s.heap [] := va_S.rf
  have X : zH s (fun q => s.heap.size ≤ q) p s m c cL_law 8 RL := ⟨hx, hb, hml, hown, hW, ⟨Nat.le_refl _, fun _ _ => rfl⟩, fun q h => h, fun q h => h⟩
  have hl := lv_entry ([.ref b]) (n := 8) (Nat.le_of_ble_eq_true rfl)
  rw [lg_entry_eq]
  generalize (lg_sl ([.ref b]) ++ List.replicate (8 - (lg_sl ([.ref b])).length) Slot.unset).toArray = ls at hl ⊢
  have hl : lv_has ls 8 [(0, .ref b)] := hl
  have hR : zR D (fun q => s.heap.size ≤ q) (fun _ => none) s.heap := zR.none
  refine z_new (fs := [.null, .null, .null, .null, .int (zi (0)), .int (zi (0))]) hx hb (q_wsX5 hT hW) tyX5 tyX5_ok hown (q_23 hT hW) (q_24 hT hW) (q_1 hT hW) hK hR hS hA (ci := 6) rfl (fun j hj => match j, hj with | 0, _ => rfl | 1, _ => rfl | 2, _ => rfl | 3, _ => rfl | 4, _ => rfl | 5, _ => rfl | (k + 6), h => absurd h (by omega)) (Nat.le_of_ble_eq_true rfl) (Nat.le_of_ble_eq_true rfl) dL_law_0 (fun xa H hfr hR hS => ?_)
  have hR : zR D (fun q => s.heap.size ≤ q) (zu (fun _ => none) (xa) (.inr (6, [.null, .null, .null, .null, .int (zi (0)), .int (zi (0))]))) H := hR
  have he_1 : (zu (fun _ => none) (xa) (.inr (6, [.null, .null, .null, .null, .int (zi (0)), .int (zi (0))]))) (xa) = some (.inr (6, [.null, .null, .null, .null, .int (zi (0)), .int (zi (0))])) := zu_eq
  refine lv_dup hx hb dL_law_3 rfl ?_
  refine z_invI (n := 0) (c_X5_init l hZ he_1) X hS hR hl.1 rfl (q_27 hT hW) (q_1 hT hW) (q_25 hT hW) (q_26 hT hW) (by decide +kernel) rfl ⟨Nat.le_of_ble_eq_true rfl, Nat.le_of_ble_eq_true rfl⟩ ⟨Nat.le_of_ble_eq_true rfl, Nat.le_of_ble_eq_true rfl⟩ (Nat.le_of_ble_eq_true rfl) dL_law_4 (fun v H locs hv hS => ?_) rfl
  obtain ⟨rfl, ad, rfl, hHC⟩ := hv
  obtain ⟨aB, aC, aD, nd, dd, Wd, w1, hC, hD, hR⟩ := hHC
  refine lv_astore_n (lv' := [(1, .ref (ad 0)), (0, .ref (b))]) hx hb dL_law_7 rfl hl (by decide) rfl (fun ls hl => ?_)
  refine z_new (fs := [.null, .null, .null, .null, .null, .null, .null, .null, .null, .null, .null, .null, .null, .int (zi (0)), .null, .null, .null, .null, .null, .null, .null, .int (zi (0)), .null, .int (zi (0)), .int (zi (0)), .int (zi (0))]) hx hb (q_wsX6 hT hW) tyX6 tyX6_ok hown (q_657 hT hW) (q_658 hT hW) (q_7 hT hW) hK hR hS hA (ci := 7) rfl (fun j hj => match j, hj with | 0, _ => rfl | 1, _ => rfl | 2, _ => rfl | 3, _ => rfl | 4, _ => rfl | 5, _ => rfl | 6, _ => rfl | 7, _ => rfl | 8, _ => rfl | 9, _ => rfl | 10, _ => rfl | 11, _ => rfl | 12, _ => rfl | 13, _ => rfl | 14, _ => rfl | 15, _ => rfl | 16, _ => rfl | 17, _ => rfl | 18, _ => rfl | 19, _ => rfl | 20, _ => rfl | 21, _ => rfl | 22, _ => rfl | 23, _ => rfl | 24, _ => rfl | 25, _ => rfl | (k + 26), h => absurd h (by omega)) (Nat.le_of_ble_eq_true rfl) (Nat.le_of_ble_eq_true rfl) dL_law_8 (fun m0 H hfr hR hS => ?_)
  have hR : zR D (fun q => s.heap.size ≤ q) (zu w1 (m0) (.inr (7, [.null, .null, .null, .null, .null, .null, .null, .null, .null, .null, .null, .null, .null, .int (zi (0)), .null, .null, .null, .null, .null, .null, .null, .int (zi (0)), .null, .int (zi (0)), .int (zi (0)), .int (zi (0))]))) H := hR
  have he_2 : (zu w1 (m0) (.inr (7, [.null, .null, .null, .null, .null, .null, .null, .null, .null, .null, .null, .null, .null, .int (zi (0)), .null, .null, .null, .null, .null, .null, .null, .int (zi (0)), .null, .int (zi (0)), .int (zi (0)), .int (zi (0))]))) (m0) = some (.inr (7, [.null, .null, .null, .null, .null, .null, .null, .null, .null, .null, .null, .null, .null, .int (zi (0)), .null, .null, .null, .null, .null, .null, .null, .int (zi (0)), .null, .int (zi (0)), .int (zi (0)), .int (zi (0))])) := zu_eq
  refine lv_dup hx hb dL_law_11 rfl ?_
  have hfm := hfr
  obtain ⟨H2, hH2⟩ : ∃ H2 : Heap, H2 = H := ⟨_, rfl⟩
  have hm0A := hR.inA he_2
  have hm0L := hR.lt he_2
  have hR1 : zR D (fun q => q = m0 ∨ H2.size ≤ q) (zu (fun _ => none) m0 (.inr (7, [.null, .null, .null, .null, .null, .null, .null, .null, .null, .null, .null, .null, .null, .int (zi (0)), .null, .null, .null, .null, .null, .null, .null, .int (zi (0)), .null, .int (zi (0)), .int (zi (0)), .int (zi (0))]))) H := hR.restrict (fun q e hq => by
    by_cases z : q = m0
    · subst z; exact ⟨zu_eq.trans (zu_eq.symm.trans hq), Or.inl rfl⟩
    · rw [zu_ne z] at hq; cases hq)
  have hRc : zR D (fun q => s.heap.size ≤ q ∧ q ≠ m0 ∧ q < H2.size) w1 H := hR.restrict (fun q e hq => ⟨(zu_ne (hfm q e hq)).trans hq, by
    have g : (zu w1 m0 (.inr (7, [.null, .null, .null, .null, .null, .null, .null, .null, .null, .null, .null, .null, .null, .int (zi (0)), .null, .null, .null, .null, .null, .null, .null, .int (zi (0)), .null, .int (zi (0)), .int (zi (0)), .int (zi (0))]))) q = some e := (zu_ne (hfm q e hq)).trans hq
    exact ⟨hR.inA g, hfm q e hq, by rw [hH2]; exact hR.lt g⟩⟩)
  have hZm : zB s D tc (fun q => q = m0 ∨ H2.size ≤ q) dz := ⟨hZ.1, hZ.2.1, fun q hq => hq.elim (fun z => by rw [z]; exact hm0A) (fun z => Nat.le_trans (by rw [hH2]; exact hS.1) z), hZ.2.2.2⟩
  refine z_invIB (n := 0) (B := (fun q => q = m0 ∨ H2.size ≤ q)) (fun q h => hZm.2.2.1 q h) (c_X6_init l hZm (m0 := m0) zu_eq) X hS (fun q h => Or.inr (by rw [hH2]; exact h)) hR1 hl.1 rfl (q_661 hT hW) (q_7 hT hW) (q_659 hT hW) (q_660 hT hW) (by decide +kernel) rfl ⟨Nat.le_of_ble_eq_true rfl, Nat.le_of_ble_eq_true rfl⟩ ⟨Nat.le_of_ble_eq_true rfl, Nat.le_of_ble_eq_true rfl⟩ (Nat.le_of_ble_eq_true rfl) dL_law_12 (fun v H locs hv hfr hS => ?_) rfl
  obtain ⟨rfl, aM, hM⟩ := hv
  have hRc := hRc.frame (hH2 ▸ hfr) (fun q hq _ hB => hB.elim hq.2.1 (fun g => by have := hq.2.2; omega))
  have hM0 := hM
  obtain ⟨wm, hm, hRm⟩ := hM
  have hRj : zR D (fun q => s.heap.size ≤ q) (zj w1 wm) H := zR.join hRc hRm (fun q h1 h2 => h2.elim h1.2.1 (fun g => by have := h1.2.2; omega)) (fun q h => h.1) (fun q h => hZm.2.2.1 q h)
  have hR := hRj
  have hmk : ∀ k, mar k → s.heap.size ≤ aM k := fun k hk => hZm.2.2.1 _ (hRm.inA (hm.2.1 k hk))
  have hw1m : ∀ q e, wm q = some e → zj w1 wm q = some e := fun q e hq => zj_2 hq (by
    cases g : w1 q with
    | none => rfl
    | some e1 => exact absurd (hRm.inA hq) (fun h2 => h2.elim (hRc.inA g).2.1 (fun g2 => by have := (hRc.inA g).2.2; omega)))
  refine lv_astore_n (lv' := [(2, .ref (m0)), (1, .ref (ad 0)), (0, .ref (b))]) hx hb dL_law_15 rfl hl (by decide) rfl (fun ls hl => ?_)
  refine lv_iconst (v := zi (1)) hx hb dL_law_16 rfl ?_
  refine z_newa (atype := .long) (n := 1) (N := 1) (ty := .long) (a0 := (1, .inr (.inl (fun _ => 0)))) hx hb (q_41 hT hW) rfl hK hR hS hA (by decide +kernel) 2 rfl (fun cA => rfl) (by omega) (by decide +kernel) (Nat.le_of_ble_eq_true rfl) (Nat.le_of_ble_eq_true rfl) dL_law_17 (fun o H hfo hR hS => ?_)
  refine lv_astore_n (lv' := [(3, .ref (o)), (2, .ref (m0)), (1, .ref (ad 0)), (0, .ref (b))]) hx hb dL_law_19 rfl hl (by decide) rfl (fun ls hl => ?_)
  refine lv_iconst (v := zi (1)) hx hb dL_law_20 rfl ?_
  refine z_newa (atype := .double) (n := 1) (N := 1) (ty := .double) (a0 := (1, .inr (.inr (.inr (.inl (fun _ => 0)))))) hx hb (q_846 hT hW) rfl hK hR hS hA (by decide +kernel) 3 rfl (fun cA => rfl) (by omega) (by decide +kernel) (Nat.le_of_ble_eq_true rfl) (Nat.le_of_ble_eq_true rfl) dL_law_21 (fun o2 H hfo2 hR hS => ?_)
  refine lv_astore (lv' := [(4, .ref (o2)), (3, .ref (o)), (2, .ref (m0)), (1, .ref (ad 0)), (0, .ref (b))]) hx hb dL_law_23 hl (by decide) rfl (fun ls hl => ?_)
  refine lv_iconst (v := zi (0)) hx hb dL_law_25 rfl ?_
  refine lv_istore (lv' := [(5, .int (zi (0))), (4, .ref (o2)), (3, .ref (o)), (2, .ref (m0)), (1, .ref (ad 0)), (0, .ref (b))]) hx hb dL_law_26 hl (by decide) rfl (fun ls hl => ?_)
  obtain ⟨E1, hE1⟩ : ∃ E1 : va_E, E1 = .inl (tc 2, (1, .inr (.inl (fun _ => 0)))) := ⟨_, rfl⟩
  obtain ⟨E2, hE2⟩ : ∃ E2 : va_E, E2 = .inl (tc 3, (1, .inr (.inr (.inr (.inl (fun _ => 0)))))) := ⟨_, rfl⟩
  have hfo2 : ∀ q e, zu (zj w1 wm) o E1 q = some e → q ≠ o2 := by rw [hE1]; exact hfo2
  have hR : zR D (fun q => s.heap.size ≤ q) (zu (zu (zj w1 wm) o E1) o2 E2) H := by rw [hE1, hE2]; exact hR
  have k0 : ∀ q e, zj w1 wm q = some e → zu (zj w1 wm) o E1 q = some e := fun q e hq => (zu_ne (hfo q e hq)).trans hq
  have k1 : ∀ q e, zj w1 wm q = some e → zu (zu (zj w1 wm) o E1) o2 E2 q = some e := fun q e hq => (zu_ne (hfo2 q e (k0 q e hq))).trans (k0 q e hq)
  have ho12 : o ≠ o2 := hfo2 o E1 zu_eq
  have hem0 := hw1m _ _ hm.1
  have hm0o : m0 ≠ o := hfo _ _ hem0
  have hm0o2 : m0 ≠ o2 := hfo2 _ _ (k0 _ _ hem0)
  have hmo : ∀ k, mar k → aM k ≠ o ∧ aM k ≠ o2 := fun k hk => by
    have g := hw1m _ _ (hm.2.1 k hk)
    exact ⟨hfo _ _ g, hfo2 _ _ (k0 _ _ g)⟩
  have hoL : s.heap.size ≤ o := hR.inA (q := o) (e := E1) ((zu_ne ho12).trans zu_eq)
  have ho2L : s.heap.size ≤ o2 := hR.inA (q := o2) (e := E2) zu_eq
  have hLA : zLA s D tc dz m0 aM o o2 := ⟨hZ, hNC, ⟨hm0A, hmk, hoL, ho2L⟩, ho12, hm0o.symm, hm0o2.symm, hmo⟩
  have hRm9 : zR D (fun q => q = m0 ∨ H2.size ≤ q) wm H := hR.restrict (fun q e hq => ⟨k1 q e (hw1m q e hq), hRm.inA hq⟩)
  have hRc9 : zR D (zBc s m0 aM o o2) w1 H := hR.restrict (fun q e hq => ⟨k1 q e (zj_1 hq), (hRc.inA hq).1, (hRc.inA hq).2.1, fun k hk z => by
    have g1 := hRc.inA hq
    have g2 := hRm.inA (hm.2.1 k hk)
    rw [← z] at g2
    exact g2.elim g1.2.1 (fun g => absurd g (Nat.not_le.mpr g1.2.2)), hfo _ _ (zj_1 hq), hfo2 _ _ (k0 _ _ (zj_1 hq))⟩)
  have hO1 : zR D (fun q => q = o) (zoL tc o (fun _ => 0)) H := hR.restrict (fun q e hq => by
    by_cases z : q = o
    · subst z
      refine ⟨((zu_ne ho12).trans zu_eq).trans ?_, rfl⟩
      rw [hE1]; exact zu_eq.symm.trans hq
    · rw [show zoL tc o (fun _ => 0) q = none from zu_ne z] at hq
      cases hq)
  have hO2 : zR D (fun q => q = o2) (zoD tc o2 (fun _ => 0)) H := hR.restrict (fun q e hq => by
    by_cases z : q = o2
    · subst z
      refine ⟨zu_eq.trans ?_, rfl⟩
      rw [hE2]; exact zu_eq.symm.trans hq
    · rw [show zoD tc o2 (fun _ => 0) q = none from zu_ne z] at hq
      cases hq)
  have hw : zLw s D tc dz ad m0 aM o o2 mu0 H := ⟨⟨aB, aC, aD, nd, dd, Wd, w1, hC, hD, hRc9⟩, mH.restrict ⟨wm, hm, hRm9⟩, ⟨0, fun _ => 0, rfl, hO1⟩, ⟨0, fun _ => 0, rfl, hO2⟩⟩
  exact whole_loop hst hL C0 hLA 3073 0 mu0 H locs ls _ _ (by omega) (by omega) (Nat.le_of_ble_eq_true rfl) (Nat.le_of_ble_eq_true rfl) zIn_mu0 zUn_mu0 hw hS hl
