/-! the class's public methods -/
def zxI (k : Int) : String := if k = 1 then "java/lang/IndexOutOfBoundsException" else if k = 2 then "java/lang/IllegalArgumentException" else "java/lang/IllegalStateException"
def zxA (k : Int) : String := if k = 1 then "java/lang/IllegalArgumentException" else "java/lang/IllegalStateException"
def zHC (D : va_G) (tc : Nat → ClassId) (dz : Nat) (A : Nat → Prop) (ad : Nat → Nat) (u : zS_) (H : Heap) : Prop := ∃ (aB aC aD : Nat → Nat) (nd : Nat) (dd : Nat → Nat → Int) (Wd : Nat → Int64) (w : zW), zCx tc dz ad aB aC aD nd dd Wd u w ∧ (nd : Int) = zdone u (u 21 0).toNat ∧ zR D A w H
theorem zCx.mkt {tc : Nat → ClassId} {dz : Nat} {ad aB aC aD : Nat → Nat} {nd : Nat} {dd : Nat → Nat → Int} {Wd : Nat → Int64} {u : zS_} {w : zW} (h : zCx tc dz ad aB aC aD nd dd Wd u w) {k : Nat} (hk : k = 23 ∨ k = 24) {x : Int} : zCx tc dz ad aB aC aD nd dd Wd (ms u k 0 x) (zu w (ad 0) (zMk ad (ms u k 0 x 24 0) (ms u k 0 x 23 0))) := by
  have kp : ∀ q e', w q = some e' → (∀ f, e' ≠ .inr (6, f)) → zu w (ad 0) (zMk ad (ms u k 0 x 24 0) (ms u k 0 x 23 0)) q = some e' := fun q e' hq hf => (zu_ne (zne hq h.mk (hf _))).trans hq
  have hkk : ∀ k' j, k' ≠ 23 → k' ≠ 24 → ms u k 0 x k' j = u k' j := fun k' j h1 h2 => ms_ne (by omega)
  refine ⟨zu_eq, kp _ _ h.we (by intro f z; cases z), kp _ _ h.wo (by intro f z; cases z), ?_, kp _ _ h.le (by intro f z; cases z), ?_, ?_, ?_, h.lD.kept (fun q e' hq hf => kp q e' hq (by rcases hf with ⟨f, rfl⟩ | ⟨c, el, rfl⟩ <;> (intro g z; cases z))), ?_, ?_, fun k hk => ⟨kp _ _ (h.de k hk).1 (by intro f z; cases z), (h.de k hk).2⟩, ?_, h.ne⟩
  · intro n q hn hq; rw [hkk 0 _ (by decide) (by decide)]; exact h.wk n q hn hq
  · rw [show (fun j => zi (ms u k 0 x 22 j)) = fun j => zi (u 22 j) from funext fun j => by rw [hkk 22 j (by decide) (by decide)]]
    exact kp _ _ h.pa (by intro f z; cases z)
  · rw [hkk 13 0 (by decide) (by decide)]; exact h.lB.kept (fun q e' hq hf => kp q e' hq (by rcases hf with ⟨f, rfl⟩ | ⟨c, el, rfl⟩ <;> (intro g z; cases z)))
  · rw [hkk 21 0 (by decide) (by decide)]; exact h.lC.kept (fun q e' hq hf => kp q e' hq (by rcases hf with ⟨f, rfl⟩ | ⟨c, el, rfl⟩ <;> (intro g z; cases z)))
  · intro i hi
    rw [hkk 13 0 (by decide) (by decide)] at hi
    obtain ⟨x1, x2, x3, g1, g2⟩ := h.bo i hi
    refine ⟨x1, x2, x3, ?_, ?_⟩
    · unfold zco
      rw [hkk 1 _ (by decide) (by decide), hkk 7 _ (by decide) (by decide), hkk 3 _ (by decide) (by decide), hkk 4 _ (by decide) (by decide), hkk 5 _ (by decide) (by decide), hkk 2 _ (by decide) (by decide), hkk 8 _ (by decide) (by decide), hkk 9 _ (by decide) (by decide), hkk 6 _ (by decide) (by decide)]
      exact kp _ _ g1 (by intro f z; cases z)
    · rw [hkk 9 _ (by decide) (by decide), hkk 12 _ (by decide) (by decide), hkk 8 _ (by decide) (by decide), hkk 11 _ (by decide) (by decide), hkk 10 _ (by decide) (by decide)]
      exact g2
  · intro j hj
    rw [hkk 21 0 (by decide) (by decide)] at hj
    have g := h.ca j hj
    unfold zCk zbo at g ⊢
    rw [hkk 14 _ (by decide) (by decide), hkk 15 _ (by decide) (by decide), hkk 16 _ (by decide) (by decide), hkk 17 _ (by decide) (by decide), hkk 18 _ (by decide) (by decide), hkk 19 _ (by decide) (by decide), hkk 20 _ (by decide) (by decide)]
    exact kp _ _ g (by intro f z; cases z)
  · intro c hc
    rw [hkk 22 _ (by decide) (by decide)]; exact h.su c hc
set_option maxHeartbeats 4000000 in
set_option maxRecDepth 100000 in
theorem c_X5_lend (l : Launch) (hflags : l.stackTraces = false) {S : State} {D : va_G} {tc : Nat → ClassId} {A : Nat → Prop} {dz : Nat} (hZ : zB S D tc A dz) {ad : Nat → Nat} {u : zS_} {a b_ : Int} (h0 : -2147483648 ≤ a ∧ a ≤ 2147483647 ∧ -2147483648 ≤ b_ ∧ b_ ≤ 2147483647) (hI : zIn u) (hU : zUn u) : zMX l S A yX5_lend cX5_lend 5 (Option.some Jvm.ClassFile.FieldType.int) { frames := 8, locals := 220, cells := 2, slots := 12 } [.ref (ad 0), .int (zi (a)), .int (zi (b_))] (zHC D tc dz A ad u) (fun v H => mcLend u a b_ = 0 ∧ v = some (.int (zi (u 2 a.toNat))) ∧ zHC D tc dz A ad (ms u 2 a.toNat b_) H) (fun E H => 0 < mcLend u a b_ ∧ E = zxI (mcLend u a b_) ∧ zHC D tc dz A ad u H) := by
  refine zMX.mk (by decide +kernel) (Nat.le_of_ble_eq_true rfl) ?_
  intro p e s m below meth c ls X0 hnt hR hl
  obtain ⟨hx, hb, hml, hr, hlocks, hown, hnm, hW, hpre, hA⟩ := X0
  have X : zH S A p s m c cX5_lend 5 RX5 := ⟨hx, hb, hml, hown, hW, hpre, hA, hZ.2.2.1⟩
  have hT := hZ.1
  have hK := va_K.moved hW.alike hZ.2.1
  have hS : va_S A s.heap s.heap [] := va_S.rf
  have hl : lv_has ls 5 [(0, .ref (ad 0)), (1, .int (zi (a))), (2, .int (zi (b_)))] := hl
  skip
  obtain ⟨aB, aC, aD, nd, dd, Wd, w, hC, hD, hR⟩ := hR
  have hI1 := hI.1
  refine lv_aload_n hx hb dX5_lend_0 rfl (lv_at hl 0 rfl) ?_
  refine lv_iload_n hx hb dX5_lend_1 rfl (lv_at hl 1 rfl) ?_
  refine z_invVX (n := 1) (C := RX5) (c_X5_boatNumbered l hflags hZ hC hI (a := a) (by omega)) X hS hR hl.1 (q_364 hT hW) (q_1 hT hW) (q_361 hT hW) (q_363 hT hW) (q_p4 hT hW) (z_recv hK hR hC.mk rfl) (by decide +kernel) rfl ⟨Nat.le_of_ble_eq_true rfl, Nat.le_of_ble_eq_true rfl⟩ ⟨Nat.le_of_ble_eq_true rfl, Nat.le_of_ble_eq_true rfl⟩ (Nat.le_of_ble_eq_true rfl) dX5_lend_2 (fun E ce q9 H locs hv hS hq9 hcv hcl => ?_) (fun v H locs hv hS => ?_) rfl
  · skip
    have hv2 := hv.2.1
    have hcd : mcLend u a b_ = 1 := by unfold mcLend; omega
    exact z_out hnt hlocks hq9 hcv hcl hS ⟨by rw [hcd]; decide, by rw [hcd]; exact hv.1, _, _, _, _, _, _, _, hC, hD, hv.2.2⟩ (Nat.le_of_ble_eq_true rfl) (Nat.le_of_ble_eq_true rfl)
  obtain ⟨rfl, hk_1, hR⟩ := hv
  obtain ⟨uo, nx, lf, hbo, hb1, hb2, hb3⟩ := hC.bo a.toNat (by omega)
  have hIb := hI.2.2.1 a.toNat (by omega)
  unfold zIb at hIb
  refine lv_astore_n (lv' := [(3, .ref (aB a.toNat)), (0, .ref (ad 0)), (1, .int (zi (a))), (2, .int (zi (b_)))]) hx hb dX5_lend_5 rfl hl (by decide) rfl (fun ls hl => ?_)
  refine lv_iload_n hx hb dX5_lend_6 rfl (lv_at hl 3 rfl) ?_
  refine z_invSX (n := 1) (c_X5_checkClub l hflags hZ (w := w) (a := b_) (by omega)) X hS hR hl.1 (q_122 hT hW) (q_1 hT hW) (q_120 hT hW) (q_121 hT hW) (by decide +kernel) rfl ⟨Nat.le_of_ble_eq_true rfl, Nat.le_of_ble_eq_true rfl⟩ ⟨Nat.le_of_ble_eq_true rfl, Nat.le_of_ble_eq_true rfl⟩ (Nat.le_of_ble_eq_true rfl) dX5_lend_7 (fun E ce q9 H locs hv hS hq9 hcv hcl => ?_) (fun v H locs hv hS => ?_) rfl
  · skip
    have hv2 := hv.2.1
    have hcd : mcLend u a b_ = 1 := by unfold mcLend; omega
    exact z_out hnt hlocks hq9 hcv hcl hS ⟨by rw [hcd]; decide, by rw [hcd]; exact hv.1, _, _, _, _, _, _, _, hC, hD, hv.2.2⟩ (Nat.le_of_ble_eq_true rfl) (Nat.le_of_ble_eq_true rfl)
  obtain ⟨rfl, hk_2, hR⟩ := hv
  refine lv_aload_n hx hb dX5_lend_10 rfl (lv_at hl 0 rfl) ?_
  refine z_get hx hb (q_wsX0 hT hW) hown hK hR hbo rfl 6 (by decide) (q_256 hT hW) (fun _ h => h) rfl dX5_lend_11 ?_
  refine lv_istore (lv' := [(4, .int (zi (u 2 a.toNat))), (3, .ref (aB a.toNat)), (0, .ref (ad 0)), (1, .int (zi (a))), (2, .int (zi (b_)))]) hx hb dX5_lend_14 hl (by decide) rfl (fun ls hl => ?_)
  refine lv_aload_n hx hb dX5_lend_16 rfl (lv_at hl 1 rfl) ?_
  refine lv_iload_n hx hb dX5_lend_17 rfl (lv_at hl 4 rfl) ?_
  refine z_put hx hb (q_wsX0 hT hW) tyX0 tyX0_ok nmX0 hown hK hR hS hbo rfl 6 (by decide) (q_256 hT hW) (fun _ h => h) rfl (tyX0_ok 6 (by decide)) rfl rfl (Nat.le_of_ble_eq_true rfl) dX5_lend_18 (fun H locs hR hS => ?_)
  have hR : zR D A (zu w (aB a.toNat) (.inr (1, [.int (zi (((a.toNat : Nat) : Int))), .int (zi (u 1 a.toNat)), .int (zi (u 7 a.toNat)), .int (zi (u 3 a.toNat)), .int (zi (u 4 a.toNat)), .int (zi (u 5 a.toNat)), .int (zi (b_)), .int (zi (uo)), .int (zi (u 8 a.toNat)), va_rf (zco u aC a.toNat), .int (zi (nx)), .int (zi (u 6 a.toNat)), .int (zi (lf))]))) H := hR
  have he_3 : (zu w (aB a.toNat) (.inr (1, [.int (zi (((a.toNat : Nat) : Int))), .int (zi (u 1 a.toNat)), .int (zi (u 7 a.toNat)), .int (zi (u 3 a.toNat)), .int (zi (u 4 a.toNat)), .int (zi (u 5 a.toNat)), .int (zi (b_)), .int (zi (uo)), .int (zi (u 8 a.toNat)), va_rf (zco u aC a.toNat), .int (zi (nx)), .int (zi (u 6 a.toNat)), .int (zi (lf))]))) (aB a.toNat) = some (.inr (1, [.int (zi (((a.toNat : Nat) : Int))), .int (zi (u 1 a.toNat)), .int (zi (u 7 a.toNat)), .int (zi (u 3 a.toNat)), .int (zi (u 4 a.toNat)), .int (zi (u 5 a.toNat)), .int (zi (b_)), .int (zi (uo)), .int (zi (u 8 a.toNat)), va_rf (zco u aC a.toNat), .int (zi (nx)), .int (zi (u 6 a.toNat)), .int (zi (lf))])) := zu_eq
  have he_4 : (zu w (aB a.toNat) (.inr (1, [.int (zi (((a.toNat : Nat) : Int))), .int (zi (u 1 a.toNat)), .int (zi (u 7 a.toNat)), .int (zi (u 3 a.toNat)), .int (zi (u 4 a.toNat)), .int (zi (u 5 a.toNat)), .int (zi (b_)), .int (zi (uo)), .int (zi (u 8 a.toNat)), va_rf (zco u aC a.toNat), .int (zi (nx)), .int (zi (u 6 a.toNat)), .int (zi (lf))]))) (ad 0) = some (.inr (6, [.ref (ad 1), .ref (ad 3), .ref (ad 5), .ref (ad 6), .int (zi (u 24 0)), .int (zi (u 23 0))])) := (zu_ne (zne hC.mk hbo (by intro z; cases z))).trans hC.mk
  have he_5 : (zu w (aB a.toNat) (.inr (1, [.int (zi (((a.toNat : Nat) : Int))), .int (zi (u 1 a.toNat)), .int (zi (u 7 a.toNat)), .int (zi (u 3 a.toNat)), .int (zi (u 4 a.toNat)), .int (zi (u 5 a.toNat)), .int (zi (b_)), .int (zi (uo)), .int (zi (u 8 a.toNat)), va_rf (zco u aC a.toNat), .int (zi (nx)), .int (zi (u 6 a.toNat)), .int (zi (lf))]))) (ad 1) = some (.inr (5, [.ref (ad 2)])) := (zu_ne (zne hC.we hbo (by intro z; cases z))).trans hC.we
  have he_6 : (zu w (aB a.toNat) (.inr (1, [.int (zi (((a.toNat : Nat) : Int))), .int (zi (u 1 a.toNat)), .int (zi (u 7 a.toNat)), .int (zi (u 3 a.toNat)), .int (zi (u 4 a.toNat)), .int (zi (u 5 a.toNat)), .int (zi (b_)), .int (zi (uo)), .int (zi (u 8 a.toNat)), va_rf (zco u aC a.toNat), .int (zi (nx)), .int (zi (u 6 a.toNat)), .int (zi (lf))]))) (ad 3) = some (.inr (4, [.ref (ad 4), .ref (ad 7)])) := (zu_ne (zne hC.le hbo (by intro z; cases z))).trans hC.le
  have hC1 : zCx tc dz ad aB aC aD nd dd Wd (ms u 2 a.toNat b_) (zu w (aB a.toNat) (.inr (1, [.int (zi (((a.toNat : Nat) : Int))), .int (zi (u 1 a.toNat)), .int (zi (u 7 a.toNat)), .int (zi (u 3 a.toNat)), .int (zi (u 4 a.toNat)), .int (zi (u 5 a.toNat)), .int (zi (b_)), .int (zi (uo)), .int (zi (u 8 a.toNat)), va_rf (zco u aC a.toNat), .int (zi (nx)), .int (zi (u 6 a.toNat)), .int (zi (lf))]))) := hC.boat (by omega) (by omega) (fun k j h => ms_ne (by omega)) (zBk_of zu_eq rfl rfl rfl rfl rfl ms_s rfl rfl rfl hb1 hb2 hb3)
  refine lv_iload hx hb dX5_lend_21 (lv_at hl 0 rfl) ?_
  exact vx_ret (z_iret hx hb hr hlocks hS (by decide) (by decide) dX5_lend_23 ⟨by unfold mcLend; omega, rfl, _, _, _, _, _, _, _, hC1, hD.trans (zdone_c (u := u) (v := ms u 2 a.toNat b_) _ (fun j _ => Iff.rfl)).symm, hR⟩)
set_option maxHeartbeats 4000000 in
set_option maxRecDepth 100000 in
theorem c_X5_cap (l : Launch) (hflags : l.stackTraces = false) {S : State} {D : va_G} {tc : Nat → ClassId} {A : Nat → Prop} {dz : Nat} (hZ : zB S D tc A dz) {ad : Nat → Nat} {u : zS_} {a : Int} (h0 : -2147483648 ≤ a ∧ a ≤ 2147483647) (hI : zIn u) (hU : zUn u) : zMX l S A yX5_cap cX5_cap 3 (Option.some Jvm.ClassFile.FieldType.int) { frames := 8, locals := 220, cells := 1, slots := 6 } [.ref (ad 0), .int (zi (a))] (zHC D tc dz A ad u) (fun v H => mcCap a = 0 ∧ v = some (.int (zi (u 23 0))) ∧ zHC D tc dz A ad (ms u 23 0 a) H) (fun E H => 0 < mcCap a ∧ E = zxA (mcCap a) ∧ zHC D tc dz A ad u H) := by
  refine zMX.mk (by decide +kernel) (Nat.le_of_ble_eq_true rfl) ?_
  intro p e s m below meth c ls X0 hnt hR hl
  obtain ⟨hx, hb, hml, hr, hlocks, hown, hnm, hW, hpre, hA⟩ := X0
  have X : zH S A p s m c cX5_cap 3 RX5 := ⟨hx, hb, hml, hown, hW, hpre, hA, hZ.2.2.1⟩
  have hT := hZ.1
  have hK := va_K.moved hW.alike hZ.2.1
  have hS : va_S A s.heap s.heap [] := va_S.rf
  have hl : lv_has ls 3 [(0, .ref (ad 0)), (1, .int (zi (a)))] := hl
  skip
  obtain ⟨aB, aC, aD, nd, dd, Wd, w, hC, hD, hR⟩ := hR
  have hI1 := hI.1
  refine lv_iload_n hx hb dX5_cap_0 rfl (lv_at hl 1 rfl) ?_
  refine lv_iconst (v := zi (0)) hx hb dX5_cap_1 rfl ?_
  refine lv_sipush (v := zi (1000)) hx hb dX5_cap_2 rfl ?_
  refine z_invSX (n := 3) (c_X5_checkWithin l hflags hZ (w := w) (a := a) (lo := 0) (hi := 1000) (by omega)) X hS hR hl.1 (q_197 hT hW) (q_1 hT hW) (q_195 hT hW) (q_196 hT hW) (by decide +kernel) rfl ⟨Nat.le_of_ble_eq_true rfl, Nat.le_of_ble_eq_true rfl⟩ ⟨Nat.le_of_ble_eq_true rfl, Nat.le_of_ble_eq_true rfl⟩ (Nat.le_of_ble_eq_true rfl) dX5_cap_5 (fun E ce q9 H locs hv hS hq9 hcv hcl => ?_) (fun v H locs hv hS => ?_) rfl
  · skip
    have hv2 := hv.2.1
    have hcd : mcCap a = 1 := by unfold mcCap; omega
    exact z_out hnt hlocks hq9 hcv hcl hS ⟨by rw [hcd]; decide, by rw [hcd]; exact hv.1, _, _, _, _, _, _, _, hC, hD, hv.2.2⟩ (Nat.le_of_ble_eq_true rfl) (Nat.le_of_ble_eq_true rfl)
  obtain ⟨rfl, hk_1, hR⟩ := hv
  refine lv_aload_n hx hb dX5_cap_8 rfl (lv_at hl 0 rfl) ?_
  refine z_get hx hb (q_wsX5 hT hW) hown hK hR hC.mk rfl 5 (by decide) (q_88 hT hW) (fun _ h => h) rfl dX5_cap_9 ?_
  refine lv_istore_n (lv' := [(2, .int (zi (u 23 0))), (0, .ref (ad 0)), (1, .int (zi (a)))]) hx hb dX5_cap_12 rfl hl (by decide) rfl (fun ls hl => ?_)
  refine lv_aload_n hx hb dX5_cap_13 rfl (lv_at hl 1 rfl) ?_
  refine lv_iload_n hx hb dX5_cap_14 rfl (lv_at hl 2 rfl) ?_
  refine z_put hx hb (q_wsX5 hT hW) tyX5 tyX5_ok nmX5 hown hK hR hS hC.mk rfl 5 (by decide) (q_88 hT hW) (fun _ h => h) rfl (tyX5_ok 5 (by decide)) rfl rfl (Nat.le_of_ble_eq_true rfl) dX5_cap_15 (fun H locs hR hS => ?_)
  have hR : zR D A (zu w (ad 0) (.inr (6, [.ref (ad 1), .ref (ad 3), .ref (ad 5), .ref (ad 6), .int (zi (u 24 0)), .int (zi (a))]))) H := hR
  have he_2 : (zu w (ad 0) (.inr (6, [.ref (ad 1), .ref (ad 3), .ref (ad 5), .ref (ad 6), .int (zi (u 24 0)), .int (zi (a))]))) (ad 0) = some (.inr (6, [.ref (ad 1), .ref (ad 3), .ref (ad 5), .ref (ad 6), .int (zi (u 24 0)), .int (zi (a))])) := zu_eq
  have he_3 : (zu w (ad 0) (.inr (6, [.ref (ad 1), .ref (ad 3), .ref (ad 5), .ref (ad 6), .int (zi (u 24 0)), .int (zi (a))]))) (ad 1) = some (.inr (5, [.ref (ad 2)])) := (zu_ne (zne hC.we hC.mk (by intro z; cases z))).trans hC.we
  have he_4 : (zu w (ad 0) (.inr (6, [.ref (ad 1), .ref (ad 3), .ref (ad 5), .ref (ad 6), .int (zi (u 24 0)), .int (zi (a))]))) (ad 3) = some (.inr (4, [.ref (ad 4), .ref (ad 7)])) := (zu_ne (zne hC.le hC.mk (by intro z; cases z))).trans hC.le
  have hC1 : zCx tc dz ad aB aC aD nd dd Wd (ms u 23 0 a) (zu w (ad 0) (.inr (6, [.ref (ad 1), .ref (ad 3), .ref (ad 5), .ref (ad 6), .int (zi (u 24 0)), .int (zi (a))]))) := hC.mkt (k := 23) (x := a) (Or.inl rfl)
  refine lv_iload_n hx hb dX5_cap_18 rfl (lv_at hl 0 rfl) ?_
  exact vx_ret (z_iret hx hb hr hlocks hS (by decide) (by decide) dX5_cap_19 ⟨by unfold mcCap; omega, rfl, _, _, _, _, _, _, _, hC1, hD.trans (zdone_c (u := u) (v := ms u 23 0 a) _ (fun j _ => Iff.rfl)).symm, hR⟩)
set_option maxHeartbeats 4000000 in
set_option maxRecDepth 100000 in
theorem c_X5_rewards (l : Launch) (hflags : l.stackTraces = false) {S : State} {D : va_G} {tc : Nat → ClassId} {A : Nat → Prop} {dz : Nat} (hZ : zB S D tc A dz) {ad : Nat → Nat} {u : zS_} {a : Int} (h0 : -2147483648 ≤ a ∧ a ≤ 2147483647) (hI : zIn u) (hU : zUn u) : zMX l S A yX5_rewards cX5_rewards 2 (Option.some Jvm.ClassFile.FieldType.int) { frames := 8, locals := 220, cells := 1, slots := 6 } [.ref (ad 0), .int (zi (a))] (zHC D tc dz A ad u) (fun v H => mcClub a = 0 ∧ v = some (.int (zi (u 22 a.toNat))) ∧ zHC D tc dz A ad (u) H) (fun E H => 0 < mcClub a ∧ E = zxI (mcClub a) ∧ zHC D tc dz A ad u H) := by
  refine zMX.mk (by decide +kernel) (Nat.le_of_ble_eq_true rfl) ?_
  intro p e s m below meth c ls X0 hnt hR hl
  obtain ⟨hx, hb, hml, hr, hlocks, hown, hnm, hW, hpre, hA⟩ := X0
  have X : zH S A p s m c cX5_rewards 2 RX5 := ⟨hx, hb, hml, hown, hW, hpre, hA, hZ.2.2.1⟩
  have hT := hZ.1
  have hK := va_K.moved hW.alike hZ.2.1
  have hS : va_S A s.heap s.heap [] := va_S.rf
  have hl : lv_has ls 2 [(0, .ref (ad 0)), (1, .int (zi (a)))] := hl
  skip
  obtain ⟨aB, aC, aD, nd, dd, Wd, w, hC, hD, hR⟩ := hR
  have hI1 := hI.1
  refine lv_iload_n hx hb dX5_rewards_0 rfl (lv_at hl 1 rfl) ?_
  refine z_invSX (n := 1) (c_X5_checkClub l hflags hZ (w := w) (a := a) (by omega)) X hS hR hl.1 (q_122 hT hW) (q_1 hT hW) (q_120 hT hW) (q_121 hT hW) (by decide +kernel) rfl ⟨Nat.le_of_ble_eq_true rfl, Nat.le_of_ble_eq_true rfl⟩ ⟨Nat.le_of_ble_eq_true rfl, Nat.le_of_ble_eq_true rfl⟩ (Nat.le_of_ble_eq_true rfl) dX5_rewards_1 (fun E ce q9 H locs hv hS hq9 hcv hcl => ?_) (fun v H locs hv hS => ?_) rfl
  · skip
    have hv2 := hv.2.1
    have hcd : mcClub a = 1 := by unfold mcClub; omega
    exact z_out hnt hlocks hq9 hcv hcl hS ⟨by rw [hcd]; decide, by rw [hcd]; exact hv.1, _, _, _, _, _, _, _, hC, hD, hv.2.2⟩ (Nat.le_of_ble_eq_true rfl) (Nat.le_of_ble_eq_true rfl)
  obtain ⟨rfl, hk_1, hR⟩ := hv
  refine lv_aload_n hx hb dX5_rewards_4 rfl (lv_at hl 0 rfl) ?_
  refine z_get hx hb (q_wsX5 hT hW) hown hK hR hC.mk rfl 1 (by decide) (q_84 hT hW) (fun _ h => h) rfl dX5_rewards_5 ?_
  refine lv_iload_n hx hb dX5_rewards_8 rfl (lv_at hl 1 rfl) ?_
  refine z_invV (n := 1) (C := RX3) (c_X3_paidTo l hZ hC hI (a := a) (by omega)) X hS hR hl.1 (q_605 hT hW) (q_3 hT hW) (q_602 hT hW) (q_603 hT hW) (q_604 hT hW) (z_recv hK hR hC.le rfl) (by decide +kernel) rfl ⟨Nat.le_of_ble_eq_true rfl, Nat.le_of_ble_eq_true rfl⟩ ⟨Nat.le_of_ble_eq_true rfl, Nat.le_of_ble_eq_true rfl⟩ (Nat.le_of_ble_eq_true rfl) dX5_rewards_9 (fun v H locs hv hS => ?_) rfl
  obtain ⟨rfl, hR⟩ := hv
  exact vx_ret (z_iret hx hb hr hlocks hS (by decide) (by decide) dX5_rewards_12 ⟨by unfold mcClub; omega, rfl, _, _, _, _, _, _, _, hC, hD, hR⟩)
set_option maxHeartbeats 4000000 in
set_option maxRecDepth 100000 in
theorem c_X5_rewardsAnew (l : Launch) (hflags : l.stackTraces = false) {S : State} {D : va_G} {tc : Nat → ClassId} {A : Nat → Prop} {dz : Nat} (hZ : zB S D tc A dz) {ad : Nat → Nat} {u : zS_} {a : Int} (h0 : -2147483648 ≤ a ∧ a ≤ 2147483647) (hI : zIn u) (hU : zUn u) : zMX l S A yX5_rewardsAnew cX5_rewardsAnew 2 (Option.some Jvm.ClassFile.FieldType.int) { frames := 8, locals := 220, cells := 1, slots := 6 } [.ref (ad 0), .int (zi (a))] (zHC D tc dz A ad u) (fun v H => mcClub a = 0 ∧ v = some (.int (zi (u 22 a.toNat))) ∧ zHC D tc dz A ad (u) H) (fun E H => 0 < mcClub a ∧ E = zxI (mcClub a) ∧ zHC D tc dz A ad u H) := by
  refine zMX.mk (by decide +kernel) (Nat.le_of_ble_eq_true rfl) ?_
  intro p e s m below meth c ls X0 hnt hR hl
  obtain ⟨hx, hb, hml, hr, hlocks, hown, hnm, hW, hpre, hA⟩ := X0
  have X : zH S A p s m c cX5_rewardsAnew 2 RX5 := ⟨hx, hb, hml, hown, hW, hpre, hA, hZ.2.2.1⟩
  have hT := hZ.1
  have hK := va_K.moved hW.alike hZ.2.1
  have hS : va_S A s.heap s.heap [] := va_S.rf
  have hl : lv_has ls 2 [(0, .ref (ad 0)), (1, .int (zi (a)))] := hl
  skip
  obtain ⟨aB, aC, aD, nd, dd, Wd, w, hC, hD, hR⟩ := hR
  have hI1 := hI.1
  have hdr9 := zdone_r (u := u) (u 21 0).toNat
  refine lv_iload_n hx hb dX5_rewardsAnew_0 rfl (lv_at hl 1 rfl) ?_
  refine z_invSX (n := 1) (c_X5_checkClub l hflags hZ (w := w) (a := a) (by omega)) X hS hR hl.1 (q_122 hT hW) (q_1 hT hW) (q_120 hT hW) (q_121 hT hW) (by decide +kernel) rfl ⟨Nat.le_of_ble_eq_true rfl, Nat.le_of_ble_eq_true rfl⟩ ⟨Nat.le_of_ble_eq_true rfl, Nat.le_of_ble_eq_true rfl⟩ (Nat.le_of_ble_eq_true rfl) dX5_rewardsAnew_1 (fun E ce q9 H locs hv hS hq9 hcv hcl => ?_) (fun v H locs hv hS => ?_) rfl
  · skip
    have hv2 := hv.2.1
    have hcd : mcClub a = 1 := by unfold mcClub; omega
    exact z_out hnt hlocks hq9 hcv hcl hS ⟨by rw [hcd]; decide, by rw [hcd]; exact hv.1, _, _, _, _, _, _, _, hC, hD, hv.2.2⟩ (Nat.le_of_ble_eq_true rfl) (Nat.le_of_ble_eq_true rfl)
  obtain ⟨rfl, hk_1, hR⟩ := hv
  refine lv_aload_n hx hb dX5_rewardsAnew_4 rfl (lv_at hl 0 rfl) ?_
  refine z_get hx hb (q_wsX5 hT hW) hown hK hR hC.mk rfl 1 (by decide) (q_84 hT hW) (fun _ h => h) rfl dX5_rewardsAnew_5 ?_
  refine lv_iload_n hx hb dX5_rewardsAnew_8 rfl (lv_at hl 1 rfl) ?_
  refine z_invV (n := 1) (C := RX3) (c_X3_foundInLogFor l hZ hC hI (a := a) (by omega) (by omega)) X hS hR hl.1 (q_619 hT hW) (q_3 hT hW) (q_616 hT hW) (q_617 hT hW) (q_618 hT hW) (z_recv hK hR hC.le rfl) (by decide +kernel) rfl ⟨Nat.le_of_ble_eq_true rfl, Nat.le_of_ble_eq_true rfl⟩ ⟨Nat.le_of_ble_eq_true rfl, Nat.le_of_ble_eq_true rfl⟩ (Nat.le_of_ble_eq_true rfl) dX5_rewardsAnew_9 (fun v H locs hv hS => ?_) rfl
  obtain ⟨rfl, hR⟩ := hv
  exact vx_ret (z_iret hx hb hr hlocks hS (by decide) (by decide) dX5_rewardsAnew_12 ⟨by unfold mcClub; omega, rfl, _, _, _, _, _, _, _, hC, hD, hR⟩)
set_option maxHeartbeats 4000000 in
set_option maxRecDepth 100000 in
theorem c_X5_ofBoat (l : Launch) (hflags : l.stackTraces = false) {S : State} {D : va_G} {tc : Nat → ClassId} {A : Nat → Prop} {dz : Nat} (hZ : zB S D tc A dz) {ad : Nat → Nat} {u : zS_} {a n : Int} (h0 : -2147483648 ≤ a ∧ a ≤ 2147483647 ∧ -2147483648 ≤ n ∧ n ≤ 2147483647) (hI : zIn u) (hU : zUn u) : zMX l S A yX5_ofBoat cX5_ofBoat 4 (Option.some Jvm.ClassFile.FieldType.int) { frames := 8, locals := 220, cells := 2, slots := 12 } [.ref (ad 0), .int (zi (a)), .int (zi (n))] (zHC D tc dz A ad u) (fun v H => mcOfB u a n = 0 ∧ v = some (.int (zi (mvOfB u a n))) ∧ zHC D tc dz A ad (u) H) (fun E H => 0 < mcOfB u a n ∧ E = zxI (mcOfB u a n) ∧ zHC D tc dz A ad u H) := by
  refine zMX.mk (by decide +kernel) (Nat.le_of_ble_eq_true rfl) ?_
  intro p e s m below meth c ls X0 hnt hR hl
  obtain ⟨hx, hb, hml, hr, hlocks, hown, hnm, hW, hpre, hA⟩ := X0
  have X : zH S A p s m c cX5_ofBoat 4 RX5 := ⟨hx, hb, hml, hown, hW, hpre, hA, hZ.2.2.1⟩
  have hT := hZ.1
  have hK := va_K.moved hW.alike hZ.2.1
  have hS : va_S A s.heap s.heap [] := va_S.rf
  have hl : lv_has ls 4 [(0, .ref (ad 0)), (1, .int (zi (a))), (2, .int (zi (n)))] := hl
  skip
  obtain ⟨aB, aC, aD, nd, dd, Wd, w, hC, hD, hR⟩ := hR
  have hI1 := hI.1
  refine lv_aload_n hx hb dX5_ofBoat_0 rfl (lv_at hl 0 rfl) ?_
  refine lv_iload_n hx hb dX5_ofBoat_1 rfl (lv_at hl 1 rfl) ?_
  refine z_invVX (n := 1) (C := RX5) (c_X5_boatNumbered l hflags hZ hC hI (a := a) (by omega)) X hS hR hl.1 (q_364 hT hW) (q_1 hT hW) (q_361 hT hW) (q_363 hT hW) (q_p4 hT hW) (z_recv hK hR hC.mk rfl) (by decide +kernel) rfl ⟨Nat.le_of_ble_eq_true rfl, Nat.le_of_ble_eq_true rfl⟩ ⟨Nat.le_of_ble_eq_true rfl, Nat.le_of_ble_eq_true rfl⟩ (Nat.le_of_ble_eq_true rfl) dX5_ofBoat_2 (fun E ce q9 H locs hv hS hq9 hcv hcl => ?_) (fun v H locs hv hS => ?_) rfl
  · skip
    have hv2 := hv.2.1
    have hcd : mcOfB u a n = 1 := by unfold mcOfB; omega
    exact z_out hnt hlocks hq9 hcv hcl hS ⟨by rw [hcd]; decide, by rw [hcd]; exact hv.1, _, _, _, _, _, _, _, hC, hD, hv.2.2⟩ (Nat.le_of_ble_eq_true rfl) (Nat.le_of_ble_eq_true rfl)
  obtain ⟨rfl, hk_1, hR⟩ := hv
  obtain ⟨uo, nx, lf, hbo, hb1, hb2, hb3⟩ := hC.bo a.toNat (by omega)
  have hIb := hI.2.2.1 a.toNat (by omega)
  unfold zIb at hIb
  refine lv_astore_n (lv' := [(3, .ref (aB a.toNat)), (0, .ref (ad 0)), (1, .int (zi (a))), (2, .int (zi (n)))]) hx hb dX5_ofBoat_5 rfl hl (by decide) rfl (fun ls hl => ?_)
  refine lv_iload_n hx hb dX5_ofBoat_6 rfl (lv_at hl 3 rfl) ?_
  refine lv_iconst (v := zi (0)) hx hb dX5_ofBoat_7 rfl ?_
  refine lv_iconst (v := zi (3)) hx hb dX5_ofBoat_8 rfl ?_
  refine z_invSX (n := 3) (c_X5_checkWithin l hflags hZ (w := w) (a := n) (lo := 0) (hi := 3) (by omega)) X hS hR hl.1 (q_197 hT hW) (q_1 hT hW) (q_195 hT hW) (q_196 hT hW) (by decide +kernel) rfl ⟨Nat.le_of_ble_eq_true rfl, Nat.le_of_ble_eq_true rfl⟩ ⟨Nat.le_of_ble_eq_true rfl, Nat.le_of_ble_eq_true rfl⟩ (Nat.le_of_ble_eq_true rfl) dX5_ofBoat_9 (fun E ce q9 H locs hv hS hq9 hcv hcl => ?_) (fun v H locs hv hS => ?_) rfl
  · skip
    have hv2 := hv.2.1
    have hcd : mcOfB u a n = 2 := by unfold mcOfB; omega
    exact z_out hnt hlocks hq9 hcv hcl hS ⟨by rw [hcd]; decide, by rw [hcd]; exact hv.1, _, _, _, _, _, _, _, hC, hD, hv.2.2⟩ (Nat.le_of_ble_eq_true rfl) (Nat.le_of_ble_eq_true rfl)
  obtain ⟨rfl, hk_2, hR⟩ := hv
  refine lv_iload_n hx hb dX5_ofBoat_12 rfl (lv_at hl 3 rfl) ?_
  by_cases hw0 : n = 0
  · skip
    refine lv_tableIn (x := zi n) (tgt := 40) hx hb dX5_ofBoat_13 (by rw [zi_toInt (by omega)]; omega) (by rw [zi_toInt (by omega)]; omega) (by rw [zi_toInt (by omega), hw0]; rfl) (by decide) ?_
    refine lv_aload_n hx hb dX5_ofBoat_40 rfl (lv_at hl 0 rfl) ?_
    refine z_get hx hb (q_wsX0 hT hW) hown hK hR hbo rfl 8 (by decide) (q_260 hT hW) (fun _ h => h) rfl dX5_ofBoat_41 ?_
    exact vx_ret (z_iret hx hb hr hlocks hS (by decide) (by decide) dX5_ofBoat_44 ⟨by unfold mcOfB; omega, by rw [show mvOfB u a n = u 8 a.toNat from by unfold mvOfB; omega], _, _, _, _, _, _, _, hC, hD, hR⟩)
  · skip
    by_cases hw1 : n = 1
    · skip
      refine lv_tableIn (x := zi n) (tgt := 45) hx hb dX5_ofBoat_13 (by rw [zi_toInt (by omega)]; omega) (by rw [zi_toInt (by omega)]; omega) (by rw [zi_toInt (by omega), hw1]; rfl) (by decide) ?_
      refine lv_aload_n hx hb dX5_ofBoat_45 rfl (lv_at hl 0 rfl) ?_
      by_cases h9 : u 9 a.toNat < 0
      · skip
        rw [zco_n h9] at hbo
        refine z_get hx hb (q_wsX0 hT hW) hown hK hR hbo rfl 9 (by decide) (q_262 hT hW) (fun _ h => h) rfl dX5_ofBoat_46 ?_
        refine lv_ifnonnullN hx hb dX5_ofBoat_49 ?_
        refine lv_iconst (v := zi (-1)) hx hb dX5_ofBoat_52 rfl ?_
        refine lv_goto (tgt := 63) hx hb dX5_ofBoat_53 (by decide) ?_
        exact vx_ret (z_iret hx hb hr hlocks hS (by decide) (by decide) dX5_ofBoat_63 ⟨by unfold mcOfB; omega, by rw [show mvOfB u a n = (-1) from by unfold mvOfB; omega], _, _, _, _, _, _, _, hC, hD, hR⟩)
      · skip
        rw [zco_s (by omega)] at hbo
        have hca := hC.ca (u 9 a.toNat).toNat (by omega)
        have hIc := hI.2.2.2 (u 9 a.toNat).toNat (by omega)
        unfold zIc at hIc
        refine z_get hx hb (q_wsX0 hT hW) hown hK hR hbo rfl 9 (by decide) (q_262 hT hW) (fun _ h => h) rfl dX5_ofBoat_46 ?_
        refine lv_ifnonnull (tgt := 56) hx hb dX5_ofBoat_49 (by decide) ?_
        refine lv_aload_n hx hb dX5_ofBoat_56 rfl (lv_at hl 0 rfl) ?_
        refine z_get hx hb (q_wsX0 hT hW) hown hK hR hbo rfl 9 (by decide) (q_262 hT hW) (fun _ h => h) rfl dX5_ofBoat_57 ?_
        refine z_get hx hb (q_wsX1 hT hW) hown hK hR hca rfl 0 (by decide) (q_419 hT hW) (fun _ h => h) rfl dX5_ofBoat_60 ?_
        exact vx_ret (z_iret hx hb hr hlocks hS (by decide) (by decide) dX5_ofBoat_63 ⟨by unfold mcOfB; omega, by rw [show mvOfB u a n = (((u 9 a.toNat).toNat : Nat) : Int) from by unfold mvOfB; omega], _, _, _, _, _, _, _, hC, hD, hR⟩)
    · skip
      by_cases hw2 : n = 2
      · skip
        refine lv_tableIn (x := zi n) (tgt := 64) hx hb dX5_ofBoat_13 (by rw [zi_toInt (by omega)]; omega) (by rw [zi_toInt (by omega)]; omega) (by rw [zi_toInt (by omega), hw2]; rfl) (by decide) ?_
        refine lv_aload_n hx hb dX5_ofBoat_64 rfl (lv_at hl 0 rfl) ?_
        refine z_get hx hb (q_wsX0 hT hW) hown hK hR hbo rfl 10 (by decide) (q_264 hT hW) (fun _ h => h) rfl dX5_ofBoat_65 ?_
        exact vx_ret (z_iret hx hb hr hlocks hS (by decide) (by decide) dX5_ofBoat_68 ⟨by unfold mcOfB; omega, by rw [show mvOfB u a n = nx from by unfold mvOfB; omega], _, _, _, _, _, _, _, hC, hD, hR⟩)
      · skip
        refine lv_tableOut (x := zi n) (tgt := 69) hx hb dX5_ofBoat_13 (by rw [zi_toInt (by omega)]; omega) (by decide) ?_
        refine lv_aload_n hx hb dX5_ofBoat_69 rfl (lv_at hl 0 rfl) ?_
        refine z_get hx hb (q_wsX0 hT hW) hown hK hR hbo rfl 11 (by decide) (q_266 hT hW) (fun _ h => h) rfl dX5_ofBoat_70 ?_
        exact vx_ret (z_iret hx hb hr hlocks hS (by decide) (by decide) dX5_ofBoat_73 ⟨by unfold mcOfB; omega, by rw [show mvOfB u a n = u 6 a.toNat from by unfold mvOfB; omega], _, _, _, _, _, _, _, hC, hD, hR⟩)
theorem zbo_n {u : zS_} {aB : Nat → Nat} {i : Nat} (h : u 18 i < 0) : zbo u aB i = none := if_pos h
theorem zbo_p {u : zS_} {aB : Nat → Nat} {i : Nat} (h : 0 ≤ u 18 i) : zbo u aB i = some (aB (u 18 i).toNat) := if_neg (by omega)
set_option maxHeartbeats 4000000 in
set_option maxRecDepth 100000 in
theorem c_X5_ofCall (l : Launch) (hflags : l.stackTraces = false) {S : State} {D : va_G} {tc : Nat → ClassId} {A : Nat → Prop} {dz : Nat} (hZ : zB S D tc A dz) {ad : Nat → Nat} {u : zS_} {a n : Int} (h0 : -2147483648 ≤ a ∧ a ≤ 2147483647 ∧ -2147483648 ≤ n ∧ n ≤ 2147483647) (hI : zIn u) (hU : zUn u) : zMX l S A yX5_ofCall cX5_ofCall 4 (Option.some Jvm.ClassFile.FieldType.int) { frames := 8, locals := 220, cells := 2, slots := 12 } [.ref (ad 0), .int (zi (a)), .int (zi (n))] (zHC D tc dz A ad u) (fun v H => mcOfC u a n = 0 ∧ v = some (.int (zi (mvOfC u a n))) ∧ zHC D tc dz A ad (u) H) (fun E H => 0 < mcOfC u a n ∧ E = zxI (mcOfC u a n) ∧ zHC D tc dz A ad u H) := by
  refine zMX.mk (by decide +kernel) (Nat.le_of_ble_eq_true rfl) ?_
  intro p e s m below meth c ls X0 hnt hR hl
  obtain ⟨hx, hb, hml, hr, hlocks, hown, hnm, hW, hpre, hA⟩ := X0
  have X : zH S A p s m c cX5_ofCall 4 RX5 := ⟨hx, hb, hml, hown, hW, hpre, hA, hZ.2.2.1⟩
  have hT := hZ.1
  have hK := va_K.moved hW.alike hZ.2.1
  have hS : va_S A s.heap s.heap [] := va_S.rf
  have hl : lv_has ls 4 [(0, .ref (ad 0)), (1, .int (zi (a))), (2, .int (zi (n)))] := hl
  skip
  obtain ⟨aB, aC, aD, nd, dd, Wd, w, hC, hD, hR⟩ := hR
  have hI1 := hI.1
  refine lv_aload_n hx hb dX5_ofCall_0 rfl (lv_at hl 0 rfl) ?_
  refine lv_iload_n hx hb dX5_ofCall_1 rfl (lv_at hl 1 rfl) ?_
  refine z_invVX (n := 1) (C := RX5) (c_X5_callNumbered l hflags hZ hC hI (a := a) (by omega)) X hS hR hl.1 (q_593 hT hW) (q_1 hT hW) (q_590 hT hW) (q_592 hT hW) (q_p15 hT hW) (z_recv hK hR hC.mk rfl) (by decide +kernel) rfl ⟨Nat.le_of_ble_eq_true rfl, Nat.le_of_ble_eq_true rfl⟩ ⟨Nat.le_of_ble_eq_true rfl, Nat.le_of_ble_eq_true rfl⟩ (Nat.le_of_ble_eq_true rfl) dX5_ofCall_2 (fun E ce q9 H locs hv hS hq9 hcv hcl => ?_) (fun v H locs hv hS => ?_) rfl
  · skip
    have hv2 := hv.2.1
    have hcd : mcOfC u a n = 1 := by unfold mcOfC; omega
    exact z_out hnt hlocks hq9 hcv hcl hS ⟨by rw [hcd]; decide, by rw [hcd]; exact hv.1, _, _, _, _, _, _, _, hC, hD, hv.2.2⟩ (Nat.le_of_ble_eq_true rfl) (Nat.le_of_ble_eq_true rfl)
  obtain ⟨rfl, hk_1, hR⟩ := hv
  have hca := hC.ca a.toNat (by omega)
  have hIc := hI.2.2.2 a.toNat (by omega)
  unfold zIc at hIc
  refine lv_astore_n (lv' := [(3, .ref (aC a.toNat)), (0, .ref (ad 0)), (1, .int (zi (a))), (2, .int (zi (n)))]) hx hb dX5_ofCall_5 rfl hl (by decide) rfl (fun ls hl => ?_)
  refine lv_iload_n hx hb dX5_ofCall_6 rfl (lv_at hl 3 rfl) ?_
  refine lv_iconst (v := zi (0)) hx hb dX5_ofCall_7 rfl ?_
  refine lv_iconst (v := zi (3)) hx hb dX5_ofCall_8 rfl ?_
  refine z_invSX (n := 3) (c_X5_checkWithin l hflags hZ (w := w) (a := n) (lo := 0) (hi := 3) (by omega)) X hS hR hl.1 (q_197 hT hW) (q_1 hT hW) (q_195 hT hW) (q_196 hT hW) (by decide +kernel) rfl ⟨Nat.le_of_ble_eq_true rfl, Nat.le_of_ble_eq_true rfl⟩ ⟨Nat.le_of_ble_eq_true rfl, Nat.le_of_ble_eq_true rfl⟩ (Nat.le_of_ble_eq_true rfl) dX5_ofCall_9 (fun E ce q9 H locs hv hS hq9 hcv hcl => ?_) (fun v H locs hv hS => ?_) rfl
  · skip
    have hv2 := hv.2.1
    have hcd : mcOfC u a n = 2 := by unfold mcOfC; omega
    exact z_out hnt hlocks hq9 hcv hcl hS ⟨by rw [hcd]; decide, by rw [hcd]; exact hv.1, _, _, _, _, _, _, _, hC, hD, hv.2.2⟩ (Nat.le_of_ble_eq_true rfl) (Nat.le_of_ble_eq_true rfl)
  obtain ⟨rfl, hk_2, hR⟩ := hv
  refine lv_iload_n hx hb dX5_ofCall_12 rfl (lv_at hl 3 rfl) ?_
  by_cases hw0 : n = 0
  · skip
    refine lv_tableIn (x := zi n) (tgt := 40) hx hb dX5_ofCall_13 (by rw [zi_toInt (by omega)]; omega) (by rw [zi_toInt (by omega)]; omega) (by rw [zi_toInt (by omega), hw0]; rfl) (by decide) ?_
    refine lv_aload_n hx hb dX5_ofCall_40 rfl (lv_at hl 0 rfl) ?_
    refine z_get hx hb (q_wsX1 hT hW) hown hK hR hca rfl 4 (by decide) (q_427 hT hW) (fun _ h => h) rfl dX5_ofCall_41 ?_
    exact vx_ret (z_iret hx hb hr hlocks hS (by decide) (by decide) dX5_ofCall_44 ⟨by unfold mcOfC; omega, by rw [show mvOfC u a n = u 17 a.toNat from by unfold mvOfC; omega], _, _, _, _, _, _, _, hC, hD, hR⟩)
  · skip
    by_cases hw1 : n = 1
    · skip
      refine lv_tableIn (x := zi n) (tgt := 45) hx hb dX5_ofCall_13 (by rw [zi_toInt (by omega)]; omega) (by rw [zi_toInt (by omega)]; omega) (by rw [zi_toInt (by omega), hw1]; rfl) (by decide) ?_
      refine lv_aload_n hx hb dX5_ofCall_45 rfl (lv_at hl 0 rfl) ?_
      by_cases h9 : u 18 a.toNat < 0
      · skip
        unfold zCk at hca
        rw [zbo_n h9] at hca
        refine z_get hx hb (q_wsX1 hT hW) hown hK hR hca rfl 5 (by decide) (q_429 hT hW) (fun _ h => h) rfl dX5_ofCall_46 ?_
        refine lv_ifnonnullN hx hb dX5_ofCall_49 ?_
        refine lv_iconst (v := zi (-1)) hx hb dX5_ofCall_52 rfl ?_
        refine lv_goto (tgt := 63) hx hb dX5_ofCall_53 (by decide) ?_
        exact vx_ret (z_iret hx hb hr hlocks hS (by decide) (by decide) dX5_ofCall_63 ⟨by unfold mcOfC; omega, by rw [show mvOfC u a n = (-1) from by unfold mvOfC; omega], _, _, _, _, _, _, _, hC, hD, hR⟩)
      · skip
        unfold zCk at hca
        rw [zbo_p (by omega)] at hca
        obtain ⟨uo, nx, lf, hbo, hb1, hb2, hb3⟩ := hC.bo (u 18 a.toNat).toNat (by omega)
        have hIb := hI.2.2.1 (u 18 a.toNat).toNat (by omega)
        unfold zIb at hIb
        refine z_get hx hb (q_wsX1 hT hW) hown hK hR hca rfl 5 (by decide) (q_429 hT hW) (fun _ h => h) rfl dX5_ofCall_46 ?_
        refine lv_ifnonnull (tgt := 56) hx hb dX5_ofCall_49 (by decide) ?_
        refine lv_aload_n hx hb dX5_ofCall_56 rfl (lv_at hl 0 rfl) ?_
        refine z_get hx hb (q_wsX1 hT hW) hown hK hR hca rfl 5 (by decide) (q_429 hT hW) (fun _ h => h) rfl dX5_ofCall_57 ?_
        refine z_get hx hb (q_wsX0 hT hW) hown hK hR hbo rfl 0 (by decide) (q_247 hT hW) (fun _ h => h) rfl dX5_ofCall_60 ?_
        exact vx_ret (z_iret hx hb hr hlocks hS (by decide) (by decide) dX5_ofCall_63 ⟨by unfold mcOfC; omega, by rw [show mvOfC u a n = (((u 18 a.toNat).toNat : Nat) : Int) from by unfold mvOfC; omega], _, _, _, _, _, _, _, hC, hD, hR⟩)
    · skip
      by_cases hw2 : n = 2
      · skip
        refine lv_tableIn (x := zi n) (tgt := 64) hx hb dX5_ofCall_13 (by rw [zi_toInt (by omega)]; omega) (by rw [zi_toInt (by omega)]; omega) (by rw [zi_toInt (by omega), hw2]; rfl) (by decide) ?_
        refine lv_aload_n hx hb dX5_ofCall_64 rfl (lv_at hl 0 rfl) ?_
        refine z_get hx hb (q_wsX1 hT hW) hown hK hR hca rfl 6 (by decide) (q_431 hT hW) (fun _ h => h) rfl dX5_ofCall_65 ?_
        exact vx_ret (z_iret hx hb hr hlocks hS (by decide) (by decide) dX5_ofCall_68 ⟨by unfold mcOfC; omega, by rw [show mvOfC u a n = u 19 a.toNat from by unfold mvOfC; omega], _, _, _, _, _, _, _, hC, hD, hR⟩)
      · skip
        refine lv_tableOut (x := zi n) (tgt := 69) hx hb dX5_ofCall_13 (by rw [zi_toInt (by omega)]; omega) (by decide) ?_
        refine lv_aload_n hx hb dX5_ofCall_69 rfl (lv_at hl 0 rfl) ?_
        refine z_get hx hb (q_wsX1 hT hW) hown hK hR hca rfl 7 (by decide) (q_433 hT hW) (fun _ h => h) rfl dX5_ofCall_70 ?_
        exact vx_ret (z_iret hx hb hr hlocks hS (by decide) (by decide) dX5_ofCall_73 ⟨by unfold mcOfC; omega, by rw [show mvOfC u a n = u 20 a.toNat from by unfold mvOfC; omega], _, _, _, _, _, _, _, hC, hD, hR⟩)
theorem zdone_muCall {u : zS_} {a n z : Int} (hI : zIn u) (h : u 17 (u 21 0).toNat = 0) : zdone (muCall u a n z) (muCall u a n z 21 0).toNat = zdone u (u 21 0).toNat := by
  have hI1 := hI.1
  rw [show muCall u a n z 21 0 = u 21 0 + 1 from ms_s, show (u 21 0 + 1).toNat = (u 21 0).toNat + 1 by omega]
  show zdone (muCall u a n z) (u 21 0).toNat + (if u 17 (u 21 0).toNat = 2 then 1 else 0) = _
  rw [if_neg (by omega), zdone_c (u := u) (v := muCall u a n z) _ (fun j _ => Iff.rfl)]
  omega
set_option maxHeartbeats 4000000 in
set_option maxRecDepth 100000 in
theorem c_X5_call (l : Launch) (hflags : l.stackTraces = false) {S : State} {D : va_G} {tc : Nat → ClassId} {A : Nat → Prop} {dz : Nat} (hZ : zB S D tc A dz) {ad : Nat → Nat} {u : zS_} {a n z : Int} (h0 : -2147483648 ≤ a ∧ a ≤ 2147483647 ∧ -2147483648 ≤ n ∧ n ≤ 2147483647 ∧ -2147483648 ≤ z ∧ z ≤ 2147483647) (hI : zIn u) (hU : zUn u) : zMX l S A yX5_call cX5_call 5 (Option.some Jvm.ClassFile.FieldType.int) { frames := 9, locals := 320, cells := 5, slots := 59 } [.ref (ad 0), .int (zi (a)), .int (zi (n)), .int (zi (z))] (zHC D tc dz A ad u) (fun v H => mcCall u a n z = 0 ∧ v = some (.int (zi (u 21 0))) ∧ zHC D tc dz A ad (muCall u a n z) H) (fun E H => 0 < mcCall u a n z ∧ E = zxI (mcCall u a n z) ∧ zHC D tc dz A ad u H) := by
  refine zMX.mk (by decide +kernel) (Nat.le_of_ble_eq_true rfl) ?_
  intro p e s m below meth c ls X0 hnt hR hl
  obtain ⟨hx, hb, hml, hr, hlocks, hown, hnm, hW, hpre, hA⟩ := X0
  have X : zH S A p s m c cX5_call 5 RX5 := ⟨hx, hb, hml, hown, hW, hpre, hA, hZ.2.2.1⟩
  have hT := hZ.1
  have hK := va_K.moved hW.alike hZ.2.1
  have hS : va_S A s.heap s.heap [] := va_S.rf
  have hl : lv_has ls 5 [(0, .ref (ad 0)), (1, .int (zi (a))), (2, .int (zi (n))), (3, .int (zi (z)))] := hl
  skip
  obtain ⟨aB, aC, aD, nd, dd, Wd, w, hC, hD, hR⟩ := hR
  have hI1 := hI.1
  refine lv_iload_n hx hb dX5_call_0 rfl (lv_at hl 1 rfl) ?_
  refine z_invSX (n := 1) (c_X5_checkCell l hflags hZ (w := w) (a := a) (by omega)) X hS hR hl.1 (q_193 hT hW) (q_1 hT hW) (q_191 hT hW) (q_192 hT hW) (by decide +kernel) rfl ⟨Nat.le_of_ble_eq_true rfl, Nat.le_of_ble_eq_true rfl⟩ ⟨Nat.le_of_ble_eq_true rfl, Nat.le_of_ble_eq_true rfl⟩ (Nat.le_of_ble_eq_true rfl) dX5_call_1 (fun E ce q9 H locs hv hS hq9 hcv hcl => ?_) (fun v H locs hv hS => ?_) rfl
  · skip
    have hv2 := hv.2.1
    have hcd : mcCall u a n z = 1 := by unfold mcCall; omega
    exact z_out hnt hlocks hq9 hcv hcl hS ⟨by rw [hcd]; decide, by rw [hcd]; exact hv.1, _, _, _, _, _, _, _, hC, hD, hv.2.2⟩ (Nat.le_of_ble_eq_true rfl) (Nat.le_of_ble_eq_true rfl)
  obtain ⟨rfl, hk_1, hR⟩ := hv
  refine lv_iload_n hx hb dX5_call_4 rfl (lv_at hl 2 rfl) ?_
  refine lv_iconst (v := zi (1)) hx hb dX5_call_5 rfl ?_
  refine lv_bipush (v := zi (50)) hx hb dX5_call_6 rfl ?_
  refine z_invSX (n := 3) (c_X5_checkWithin l hflags hZ (w := w) (a := n) (lo := 1) (hi := 50) (by omega)) X hS hR hl.1 (q_197 hT hW) (q_1 hT hW) (q_195 hT hW) (q_196 hT hW) (by decide +kernel) rfl ⟨Nat.le_of_ble_eq_true rfl, Nat.le_of_ble_eq_true rfl⟩ ⟨Nat.le_of_ble_eq_true rfl, Nat.le_of_ble_eq_true rfl⟩ (Nat.le_of_ble_eq_true rfl) dX5_call_8 (fun E ce q9 H locs hv hS hq9 hcv hcl => ?_) (fun v H locs hv hS => ?_) rfl
  · skip
    have hv2 := hv.2.1
    have hcd : mcCall u a n z = 2 := by unfold mcCall; omega
    exact z_out hnt hlocks hq9 hcv hcl hS ⟨by rw [hcd]; decide, by rw [hcd]; exact hv.1, _, _, _, _, _, _, _, hC, hD, hv.2.2⟩ (Nat.le_of_ble_eq_true rfl) (Nat.le_of_ble_eq_true rfl)
  obtain ⟨rfl, hk_2, hR⟩ := hv
  refine lv_iload_n hx hb dX5_call_11 rfl (lv_at hl 3 rfl) ?_
  refine lv_aload_n hx hb dX5_call_12 rfl (lv_at hl 0 rfl) ?_
  refine z_get hx hb (q_wsX5 hT hW) hown hK hR hC.mk rfl 4 (by decide) (q_87 hT hW) (fun _ h => h) rfl dX5_call_13 ?_
  refine lv_iconst (v := zi (1)) hx hb dX5_call_16 rfl ?_
  refine z_iadd (a := u 24 0) (b := 1) hx hb dX5_call_17 ?_
  refine lv_sipush (v := zi (999)) hx hb dX5_call_18 rfl ?_
  refine z_invSX (n := 3) (c_X5_checkWithin l hflags hZ (w := w) (a := z) (lo := (u 24 0 + 1)) (hi := 999) (by omega)) X hS hR hl.1 (q_197 hT hW) (q_1 hT hW) (q_195 hT hW) (q_196 hT hW) (by decide +kernel) rfl ⟨Nat.le_of_ble_eq_true rfl, Nat.le_of_ble_eq_true rfl⟩ ⟨Nat.le_of_ble_eq_true rfl, Nat.le_of_ble_eq_true rfl⟩ (Nat.le_of_ble_eq_true rfl) dX5_call_21 (fun E ce q9 H locs hv hS hq9 hcv hcl => ?_) (fun v H locs hv hS => ?_) rfl
  · skip
    have hv2 := hv.2.1
    have hcd : mcCall u a n z = 2 := by unfold mcCall; omega
    exact z_out hnt hlocks hq9 hcv hcl hS ⟨by rw [hcd]; decide, by rw [hcd]; exact hv.1, _, _, _, _, _, _, _, hC, hD, hv.2.2⟩ (Nat.le_of_ble_eq_true rfl) (Nat.le_of_ble_eq_true rfl)
  obtain ⟨rfl, hk_3, hR⟩ := hv
  refine lv_aload_n hx hb dX5_call_24 rfl (lv_at hl 0 rfl) ?_
  refine z_get hx hb (q_wsX5 hT hW) hown hK hR hC.mk rfl 3 (by decide) (q_86 hT hW) (fun _ h => h) rfl dX5_call_25 ?_
  refine z_sizeL hZ X hK hl.1 hC.lC hR hS (q_215 hT hW) ⟨Nat.le_of_ble_eq_true rfl, Nat.le_of_ble_eq_true rfl⟩ ⟨Nat.le_of_ble_eq_true rfl, Nat.le_of_ble_eq_true rfl⟩ (Nat.le_of_ble_eq_true rfl) dX5_call_28 (fun H locs hR hS => ?_)
  refine lv_istore (lv' := [(4, .int (zi ((((u 21 0).toNat : Nat) : Int)))), (0, .ref (ad 0)), (1, .int (zi (a))), (2, .int (zi (n))), (3, .int (zi (z)))]) hx hb dX5_call_33 hl (by decide) rfl (fun ls hl => ?_)
  refine lv_iload hx hb dX5_call_35 (lv_at hl 0 rfl) ?_
  refine lv_bipush (v := zi (30)) hx hb dX5_call_37 rfl ?_
  refine z_icmp_lt (a := (((u 21 0).toNat : Nat) : Int)) (b := 30) (tgt := 52) hx hb dX5_call_39 (by decide) (by omega) (fun h_39 => ?_) (fun h_39 => ?_)
  · skip
    refine lv_aload_n hx hb dX5_call_52 rfl (lv_at hl 1 rfl) ?_
    refine z_get hx hb (q_wsX5 hT hW) hown hK hR hC.mk rfl 3 (by decide) (q_86 hT hW) (fun _ h => h) rfl dX5_call_53 ?_
    refine z_new (fs := [.int (zi (0)), .int (zi (0)), .int (zi (0)), .int (zi (0)), .int (zi (0)), .null, .int (zi (0)), .int (zi (0))]) hx hb (q_wsX1 hT hW) tyX1 tyX1_ok hown (q_412 hT hW) (q_413 hT hW) (q_20 hT hW) hK hR hS hA (ci := 2) rfl (fun j hj => match j, hj with | 0, _ => rfl | 1, _ => rfl | 2, _ => rfl | 3, _ => rfl | 4, _ => rfl | 5, _ => rfl | 6, _ => rfl | 7, _ => rfl | (k + 8), h => absurd h (by omega)) (Nat.le_of_ble_eq_true rfl) (Nat.le_of_ble_eq_true rfl) dX5_call_56 (fun qc H hfr hR hS => ?_)
    have hR : zR D A (zu w (qc) (.inr (2, [.int (zi (0)), .int (zi (0)), .int (zi (0)), .int (zi (0)), .int (zi (0)), .null, .int (zi (0)), .int (zi (0))]))) H := hR
    have he_4 : (zu w (qc) (.inr (2, [.int (zi (0)), .int (zi (0)), .int (zi (0)), .int (zi (0)), .int (zi (0)), .null, .int (zi (0)), .int (zi (0))]))) (qc) = some (.inr (2, [.int (zi (0)), .int (zi (0)), .int (zi (0)), .int (zi (0)), .int (zi (0)), .null, .int (zi (0)), .int (zi (0))])) := zu_eq
    have he_5 : (zu w (qc) (.inr (2, [.int (zi (0)), .int (zi (0)), .int (zi (0)), .int (zi (0)), .int (zi (0)), .null, .int (zi (0)), .int (zi (0))]))) (ad 0) = some (.inr (6, [.ref (ad 1), .ref (ad 3), .ref (ad 5), .ref (ad 6), .int (zi (u 24 0)), .int (zi (u 23 0))])) := (zu_ne (hfr _ _ hC.mk)).trans hC.mk
    have he_6 : (zu w (qc) (.inr (2, [.int (zi (0)), .int (zi (0)), .int (zi (0)), .int (zi (0)), .int (zi (0)), .null, .int (zi (0)), .int (zi (0))]))) (ad 1) = some (.inr (5, [.ref (ad 2)])) := (zu_ne (hfr _ _ hC.we)).trans hC.we
    have he_7 : (zu w (qc) (.inr (2, [.int (zi (0)), .int (zi (0)), .int (zi (0)), .int (zi (0)), .int (zi (0)), .null, .int (zi (0)), .int (zi (0))]))) (ad 3) = some (.inr (4, [.ref (ad 4), .ref (ad 7)])) := (zu_ne (hfr _ _ hC.le)).trans hC.le
    refine lv_dup hx hb dX5_call_59 rfl ?_
    refine lv_iload hx hb dX5_call_60 (lv_at hl 0 rfl) ?_
    refine lv_iload_n hx hb dX5_call_62 rfl (lv_at hl 2 rfl) ?_
    refine lv_iload_n hx hb dX5_call_63 rfl (lv_at hl 3 rfl) ?_
    refine lv_iload_n hx hb dX5_call_64 rfl (lv_at hl 4 rfl) ?_
    refine z_invI (n := 4) (c_X1_init l hZ he_4) X hS hR hl.1 rfl (q_416 hT hW) (q_20 hT hW) (q_414 hT hW) (q_415 hT hW) (by decide +kernel) rfl ⟨Nat.le_of_ble_eq_true rfl, Nat.le_of_ble_eq_true rfl⟩ ⟨Nat.le_of_ble_eq_true rfl, Nat.le_of_ble_eq_true rfl⟩ (Nat.le_of_ble_eq_true rfl) dX5_call_65 (fun v H locs hv hS => ?_) rfl
    obtain ⟨rfl, hR⟩ := hv
    rw [zu_zu] at hR
    have hR : zR D A (zu w (qc) (.inr (2, [.int (zi ((((u 21 0).toNat : Nat) : Int))), .int (zi (a)), .int (zi (n)), .int (zi (z)), .int (zi (0)), .null, .int (zi (0)), .int (zi (0))]))) H := hR
    have he_8 : (zu w (qc) (.inr (2, [.int (zi ((((u 21 0).toNat : Nat) : Int))), .int (zi (a)), .int (zi (n)), .int (zi (z)), .int (zi (0)), .null, .int (zi (0)), .int (zi (0))]))) (qc) = some (.inr (2, [.int (zi ((((u 21 0).toNat : Nat) : Int))), .int (zi (a)), .int (zi (n)), .int (zi (z)), .int (zi (0)), .null, .int (zi (0)), .int (zi (0))])) := zu_eq
    have he_9 : (zu w (qc) (.inr (2, [.int (zi ((((u 21 0).toNat : Nat) : Int))), .int (zi (a)), .int (zi (n)), .int (zi (z)), .int (zi (0)), .null, .int (zi (0)), .int (zi (0))]))) (ad 0) = some (.inr (6, [.ref (ad 1), .ref (ad 3), .ref (ad 5), .ref (ad 6), .int (zi (u 24 0)), .int (zi (u 23 0))])) := (zu_ne (hfr _ _ hC.mk)).trans ((zu_ne (hfr _ _ hC.mk)).symm.trans he_5)
    have he_10 : (zu w (qc) (.inr (2, [.int (zi ((((u 21 0).toNat : Nat) : Int))), .int (zi (a)), .int (zi (n)), .int (zi (z)), .int (zi (0)), .null, .int (zi (0)), .int (zi (0))]))) (ad 1) = some (.inr (5, [.ref (ad 2)])) := (zu_ne (hfr _ _ hC.we)).trans ((zu_ne (hfr _ _ hC.we)).symm.trans he_6)
    have he_11 : (zu w (qc) (.inr (2, [.int (zi ((((u 21 0).toNat : Nat) : Int))), .int (zi (a)), .int (zi (n)), .int (zi (z)), .int (zi (0)), .null, .int (zi (0)), .int (zi (0))]))) (ad 3) = some (.inr (4, [.ref (ad 4), .ref (ad 7)])) := (zu_ne (hfr _ _ hC.le)).trans ((zu_ne (hfr _ _ hC.le)).symm.trans he_7)
    have hC0 : zCx tc dz ad aB aC aD nd dd Wd u (zu w (qc) (.inr (2, [.int (zi ((((u 21 0).toNat : Nat) : Int))), .int (zi (a)), .int (zi (n)), .int (zi (z)), .int (zi (0)), .null, .int (zi (0)), .int (zi (0))]))) := hC.mono (fun q e h => (zu_ne (hfr q e h)).trans h)
    refine z_addL hZ X hK hl.1 hC0.lC hR hS (by omega) (fun i hi => ⟨2, _, Or.inr (Or.inl rfl), hC0.ca i hi⟩) he_8 (Or.inr (Or.inl rfl)) (q_296 hT hW) ⟨Nat.le_of_ble_eq_true rfl, Nat.le_of_ble_eq_true rfl⟩ ⟨Nat.le_of_ble_eq_true rfl, Nat.le_of_ble_eq_true rfl⟩ (Nat.le_of_ble_eq_true rfl) dX5_call_68 (fun H locs w1 hadd hR hS => ?_)
    have hC1 := hC0.addC hI (hU.2 _ (by omega)) (a := a) (n := n) (z := z) he_8 hadd
    refine lv_pop hx hb dX5_call_73 rfl ?_
    refine lv_iload hx hb dX5_call_74 (lv_at hl 0 rfl) ?_
    exact vx_ret (z_iret hx hb hr hlocks hS (by decide) (by decide) dX5_call_76 ⟨by unfold mcCall; omega, by rw [show (((u 21 0).toNat : Nat) : Int) = u 21 0 by omega], _, _, _, _, _, _, _, hC1, hD.trans (zdone_muCall hI (hU.2 _ (by omega)).1).symm, hR⟩)
  · skip
    have hcd : mcCall u a n z = 3 := by unfold mcCall; omega
    refine z_thrS hZ hflags X hnt hlocks hl.1 hS (by decide) (q_411 hT) dX5_call_42 dX5_call_45 dX5_call_46 dX5_call_48 dX5_call_51 (by decide) (Nat.le_of_ble_eq_true rfl) (Nat.le_of_ble_eq_true rfl) (Nat.le_of_ble_eq_true rfl) (Nat.le_of_ble_eq_true rfl) (Nat.le_of_ble_eq_true rfl) (fun H' hs1 hs2 => ⟨by rw [hcd]; decide, by rw [hcd]; rfl, _, _, _, _, _, _, _, hC, hD, zR.kept hR (fun q hq _ => hs2 q hq)⟩)
set_option maxHeartbeats 4000000 in
set_option maxRecDepth 100000 in
theorem c_X5_boat (l : Launch) (hflags : l.stackTraces = false) {S : State} {D : va_G} {tc : Nat → ClassId} {A : Nat → Prop} {dz : Nat} (hZ : zB S D tc A dz) {ad : Nat → Nat} {u : zS_} {a b_ k d f : Int} (h0 : -2147483648 ≤ a ∧ a ≤ 2147483647 ∧ -2147483648 ≤ b_ ∧ b_ ≤ 2147483647 ∧ -2147483648 ≤ k ∧ k ≤ 2147483647 ∧ -2147483648 ≤ d ∧ d ≤ 2147483647 ∧ -2147483648 ≤ f ∧ f ≤ 2147483647) (hI : zIn u) (hU : zUn u) : zMX l S A yX5_boat cX5_boat 7 (Option.some Jvm.ClassFile.FieldType.int) { frames := 9, locals := 320, cells := 7, slots := 76 } [.ref (ad 0), .int (zi (a)), .int (zi (b_)), .int (zi (k)), .int (zi (d)), .int (zi (f))] (zHC D tc dz A ad u) (fun v H => mcBoat u a b_ k d f = 0 ∧ v = some (.int (zi (u 13 0))) ∧ zHC D tc dz A ad (muBoat u a b_ k d f) H) (fun E H => 0 < mcBoat u a b_ k d f ∧ E = zxI (mcBoat u a b_ k d f) ∧ zHC D tc dz A ad u H) := by
  refine zMX.mk (by decide +kernel) (Nat.le_of_ble_eq_true rfl) ?_
  intro p e s m below meth c ls X0 hnt hR hl
  obtain ⟨hx, hb, hml, hr, hlocks, hown, hnm, hW, hpre, hA⟩ := X0
  have X : zH S A p s m c cX5_boat 7 RX5 := ⟨hx, hb, hml, hown, hW, hpre, hA, hZ.2.2.1⟩
  have hT := hZ.1
  have hK := va_K.moved hW.alike hZ.2.1
  have hS : va_S A s.heap s.heap [] := va_S.rf
  have hl : lv_has ls 7 [(0, .ref (ad 0)), (1, .int (zi (a))), (2, .int (zi (b_))), (3, .int (zi (k))), (4, .int (zi (d))), (5, .int (zi (f)))] := hl
  skip
  obtain ⟨aB, aC, aD, nd, dd, Wd, w, hC, hD, hR⟩ := hR
  have hI1 := hI.1
  refine lv_iload_n hx hb dX5_boat_0 rfl (lv_at hl 1 rfl) ?_
  refine z_invSX (n := 1) (c_X5_checkClub l hflags hZ (w := w) (a := a) (by omega)) X hS hR hl.1 (q_122 hT hW) (q_1 hT hW) (q_120 hT hW) (q_121 hT hW) (by decide +kernel) rfl ⟨Nat.le_of_ble_eq_true rfl, Nat.le_of_ble_eq_true rfl⟩ ⟨Nat.le_of_ble_eq_true rfl, Nat.le_of_ble_eq_true rfl⟩ (Nat.le_of_ble_eq_true rfl) dX5_boat_1 (fun E ce q9 H locs hv hS hq9 hcv hcl => ?_) (fun v H locs hv hS => ?_) rfl
  · skip
    have hv2 := hv.2.1
    have hcd : mcBoat u a b_ k d f = 1 := by unfold mcBoat; omega
    exact z_out hnt hlocks hq9 hcv hcl hS ⟨by rw [hcd]; decide, by rw [hcd]; exact hv.1, _, _, _, _, _, _, _, hC, hD, hv.2.2⟩ (Nat.le_of_ble_eq_true rfl) (Nat.le_of_ble_eq_true rfl)
  obtain ⟨rfl, hk_1, hR⟩ := hv
  refine lv_iload_n hx hb dX5_boat_4 rfl (lv_at hl 2 rfl) ?_
  refine z_invSX (n := 1) (c_X5_checkCell l hflags hZ (w := w) (a := b_) (by omega)) X hS hR hl.1 (q_193 hT hW) (q_1 hT hW) (q_191 hT hW) (q_192 hT hW) (by decide +kernel) rfl ⟨Nat.le_of_ble_eq_true rfl, Nat.le_of_ble_eq_true rfl⟩ ⟨Nat.le_of_ble_eq_true rfl, Nat.le_of_ble_eq_true rfl⟩ (Nat.le_of_ble_eq_true rfl) dX5_boat_5 (fun E ce q9 H locs hv hS hq9 hcv hcl => ?_) (fun v H locs hv hS => ?_) rfl
  · skip
    have hv2 := hv.2.1
    have hcd : mcBoat u a b_ k d f = 1 := by unfold mcBoat; omega
    exact z_out hnt hlocks hq9 hcv hcl hS ⟨by rw [hcd]; decide, by rw [hcd]; exact hv.1, _, _, _, _, _, _, _, hC, hD, hv.2.2⟩ (Nat.le_of_ble_eq_true rfl) (Nat.le_of_ble_eq_true rfl)
  obtain ⟨rfl, hk_2, hR⟩ := hv
  refine lv_iload_n hx hb dX5_boat_8 rfl (lv_at hl 3 rfl) ?_
  refine lv_iconst (v := zi (1)) hx hb dX5_boat_9 rfl ?_
  refine lv_iconst (v := zi (3)) hx hb dX5_boat_10 rfl ?_
  refine z_invSX (n := 3) (c_X5_checkWithin l hflags hZ (w := w) (a := k) (lo := 1) (hi := 3) (by omega)) X hS hR hl.1 (q_197 hT hW) (q_1 hT hW) (q_195 hT hW) (q_196 hT hW) (by decide +kernel) rfl ⟨Nat.le_of_ble_eq_true rfl, Nat.le_of_ble_eq_true rfl⟩ ⟨Nat.le_of_ble_eq_true rfl, Nat.le_of_ble_eq_true rfl⟩ (Nat.le_of_ble_eq_true rfl) dX5_boat_11 (fun E ce q9 H locs hv hS hq9 hcv hcl => ?_) (fun v H locs hv hS => ?_) rfl
  · skip
    have hv2 := hv.2.1
    have hcd : mcBoat u a b_ k d f = 2 := by unfold mcBoat; omega
    exact z_out hnt hlocks hq9 hcv hcl hS ⟨by rw [hcd]; decide, by rw [hcd]; exact hv.1, _, _, _, _, _, _, _, hC, hD, hv.2.2⟩ (Nat.le_of_ble_eq_true rfl) (Nat.le_of_ble_eq_true rfl)
  obtain ⟨rfl, hk_3, hR⟩ := hv
  refine lv_iload hx hb dX5_boat_14 (lv_at hl 4 rfl) ?_
  refine lv_iconst (v := zi (1)) hx hb dX5_boat_16 rfl ?_
  refine lv_bipush (v := zi (100)) hx hb dX5_boat_17 rfl ?_
  refine z_invSX (n := 3) (c_X5_checkWithin l hflags hZ (w := w) (a := d) (lo := 1) (hi := 100) (by omega)) X hS hR hl.1 (q_197 hT hW) (q_1 hT hW) (q_195 hT hW) (q_196 hT hW) (by decide +kernel) rfl ⟨Nat.le_of_ble_eq_true rfl, Nat.le_of_ble_eq_true rfl⟩ ⟨Nat.le_of_ble_eq_true rfl, Nat.le_of_ble_eq_true rfl⟩ (Nat.le_of_ble_eq_true rfl) dX5_boat_19 (fun E ce q9 H locs hv hS hq9 hcv hcl => ?_) (fun v H locs hv hS => ?_) rfl
  · skip
    have hv2 := hv.2.1
    have hcd : mcBoat u a b_ k d f = 2 := by unfold mcBoat; omega
    exact z_out hnt hlocks hq9 hcv hcl hS ⟨by rw [hcd]; decide, by rw [hcd]; exact hv.1, _, _, _, _, _, _, _, hC, hD, hv.2.2⟩ (Nat.le_of_ble_eq_true rfl) (Nat.le_of_ble_eq_true rfl)
  obtain ⟨rfl, hk_4, hR⟩ := hv
  refine lv_iload hx hb dX5_boat_22 (lv_at hl 5 rfl) ?_
  refine lv_iconst (v := zi (0)) hx hb dX5_boat_24 rfl ?_
  refine lv_bipush (v := zi (9)) hx hb dX5_boat_25 rfl ?_
  refine z_invSX (n := 3) (c_X5_checkWithin l hflags hZ (w := w) (a := f) (lo := 0) (hi := 9) (by omega)) X hS hR hl.1 (q_197 hT hW) (q_1 hT hW) (q_195 hT hW) (q_196 hT hW) (by decide +kernel) rfl ⟨Nat.le_of_ble_eq_true rfl, Nat.le_of_ble_eq_true rfl⟩ ⟨Nat.le_of_ble_eq_true rfl, Nat.le_of_ble_eq_true rfl⟩ (Nat.le_of_ble_eq_true rfl) dX5_boat_27 (fun E ce q9 H locs hv hS hq9 hcv hcl => ?_) (fun v H locs hv hS => ?_) rfl
  · skip
    have hv2 := hv.2.1
    have hcd : mcBoat u a b_ k d f = 2 := by unfold mcBoat; omega
    exact z_out hnt hlocks hq9 hcv hcl hS ⟨by rw [hcd]; decide, by rw [hcd]; exact hv.1, _, _, _, _, _, _, _, hC, hD, hv.2.2⟩ (Nat.le_of_ble_eq_true rfl) (Nat.le_of_ble_eq_true rfl)
  obtain ⟨rfl, hk_5, hR⟩ := hv
  refine lv_aload_n hx hb dX5_boat_30 rfl (lv_at hl 0 rfl) ?_
  refine z_get hx hb (q_wsX5 hT hW) hown hK hR hC.mk rfl 2 (by decide) (q_85 hT hW) (fun _ h => h) rfl dX5_boat_31 ?_
  refine z_sizeL hZ X hK hl.1 hC.lB hR hS (q_215 hT hW) ⟨Nat.le_of_ble_eq_true rfl, Nat.le_of_ble_eq_true rfl⟩ ⟨Nat.le_of_ble_eq_true rfl, Nat.le_of_ble_eq_true rfl⟩ (Nat.le_of_ble_eq_true rfl) dX5_boat_34 (fun H locs hR hS => ?_)
  refine lv_istore (lv' := [(6, .int (zi ((((u 13 0).toNat : Nat) : Int)))), (0, .ref (ad 0)), (1, .int (zi (a))), (2, .int (zi (b_))), (3, .int (zi (k))), (4, .int (zi (d))), (5, .int (zi (f)))]) hx hb dX5_boat_39 hl (by decide) rfl (fun ls hl => ?_)
  refine lv_iload hx hb dX5_boat_41 (lv_at hl 0 rfl) ?_
  refine lv_bipush (v := zi (6)) hx hb dX5_boat_43 rfl ?_
  refine z_icmp_lt (a := (((u 13 0).toNat : Nat) : Int)) (b := 6) (tgt := 58) hx hb dX5_boat_45 (by decide) (by omega) (fun h_45 => ?_) (fun h_45 => ?_)
  · skip
    refine lv_aload_n hx hb dX5_boat_58 rfl (lv_at hl 1 rfl) ?_
    refine z_get hx hb (q_wsX5 hT hW) hown hK hR hC.mk rfl 2 (by decide) (q_85 hT hW) (fun _ h => h) rfl dX5_boat_59 ?_
    refine z_new (fs := [.int (zi (0)), .int (zi (0)), .int (zi (0)), .int (zi (0)), .int (zi (0)), .int (zi (0)), .int (zi (0)), .int (zi (0)), .int (zi (0)), .null, .int (zi (0)), .int (zi (0)), .int (zi (0))]) hx hb (q_wsX0 hT hW) tyX0 tyX0_ok hown (q_240 hT hW) (q_241 hT hW) (q_13 hT hW) hK hR hS hA (ci := 1) rfl (fun j hj => match j, hj with | 0, _ => rfl | 1, _ => rfl | 2, _ => rfl | 3, _ => rfl | 4, _ => rfl | 5, _ => rfl | 6, _ => rfl | 7, _ => rfl | 8, _ => rfl | 9, _ => rfl | 10, _ => rfl | 11, _ => rfl | 12, _ => rfl | (k + 13), h => absurd h (by omega)) (Nat.le_of_ble_eq_true rfl) (Nat.le_of_ble_eq_true rfl) dX5_boat_62 (fun qb H hfr hR hS => ?_)
    have hR : zR D A (zu w (qb) (.inr (1, [.int (zi (0)), .int (zi (0)), .int (zi (0)), .int (zi (0)), .int (zi (0)), .int (zi (0)), .int (zi (0)), .int (zi (0)), .int (zi (0)), .null, .int (zi (0)), .int (zi (0)), .int (zi (0))]))) H := hR
    have he_6 : (zu w (qb) (.inr (1, [.int (zi (0)), .int (zi (0)), .int (zi (0)), .int (zi (0)), .int (zi (0)), .int (zi (0)), .int (zi (0)), .int (zi (0)), .int (zi (0)), .null, .int (zi (0)), .int (zi (0)), .int (zi (0))]))) (qb) = some (.inr (1, [.int (zi (0)), .int (zi (0)), .int (zi (0)), .int (zi (0)), .int (zi (0)), .int (zi (0)), .int (zi (0)), .int (zi (0)), .int (zi (0)), .null, .int (zi (0)), .int (zi (0)), .int (zi (0))])) := zu_eq
    have he_7 : (zu w (qb) (.inr (1, [.int (zi (0)), .int (zi (0)), .int (zi (0)), .int (zi (0)), .int (zi (0)), .int (zi (0)), .int (zi (0)), .int (zi (0)), .int (zi (0)), .null, .int (zi (0)), .int (zi (0)), .int (zi (0))]))) (ad 0) = some (.inr (6, [.ref (ad 1), .ref (ad 3), .ref (ad 5), .ref (ad 6), .int (zi (u 24 0)), .int (zi (u 23 0))])) := (zu_ne (hfr _ _ hC.mk)).trans hC.mk
    have he_8 : (zu w (qb) (.inr (1, [.int (zi (0)), .int (zi (0)), .int (zi (0)), .int (zi (0)), .int (zi (0)), .int (zi (0)), .int (zi (0)), .int (zi (0)), .int (zi (0)), .null, .int (zi (0)), .int (zi (0)), .int (zi (0))]))) (ad 1) = some (.inr (5, [.ref (ad 2)])) := (zu_ne (hfr _ _ hC.we)).trans hC.we
    have he_9 : (zu w (qb) (.inr (1, [.int (zi (0)), .int (zi (0)), .int (zi (0)), .int (zi (0)), .int (zi (0)), .int (zi (0)), .int (zi (0)), .int (zi (0)), .int (zi (0)), .null, .int (zi (0)), .int (zi (0)), .int (zi (0))]))) (ad 3) = some (.inr (4, [.ref (ad 4), .ref (ad 7)])) := (zu_ne (hfr _ _ hC.le)).trans hC.le
    refine lv_dup hx hb dX5_boat_65 rfl ?_
    refine lv_iload hx hb dX5_boat_66 (lv_at hl 0 rfl) ?_
    refine lv_iload_n hx hb dX5_boat_68 rfl (lv_at hl 2 rfl) ?_
    refine lv_iload_n hx hb dX5_boat_69 rfl (lv_at hl 3 rfl) ?_
    refine lv_iload_n hx hb dX5_boat_70 rfl (lv_at hl 4 rfl) ?_
    refine lv_iload hx hb dX5_boat_71 (lv_at hl 5 rfl) ?_
    refine lv_iload hx hb dX5_boat_73 (lv_at hl 6 rfl) ?_
    refine z_invI (n := 6) (c_X0_init l hZ he_6) X hS hR hl.1 rfl (q_244 hT hW) (q_13 hT hW) (q_242 hT hW) (q_243 hT hW) (by decide +kernel) rfl ⟨Nat.le_of_ble_eq_true rfl, Nat.le_of_ble_eq_true rfl⟩ ⟨Nat.le_of_ble_eq_true rfl, Nat.le_of_ble_eq_true rfl⟩ (Nat.le_of_ble_eq_true rfl) dX5_boat_75 (fun v H locs hv hS => ?_) rfl
    obtain ⟨rfl, hR⟩ := hv
    rw [zu_zu] at hR
    have hR : zR D A (zu w (qb) (.inr (1, [.int (zi ((((u 13 0).toNat : Nat) : Int))), .int (zi (a)), .int (zi (f)), .int (zi (b_)), .int (zi (k)), .int (zi (d)), .int (zi (a)), .int (zi (a)), .int (zi (0)), .null, .int (zi ((-1))), .int (zi (d)), .int (zi ((-1)))]))) H := hR
    have he_10 : (zu w (qb) (.inr (1, [.int (zi ((((u 13 0).toNat : Nat) : Int))), .int (zi (a)), .int (zi (f)), .int (zi (b_)), .int (zi (k)), .int (zi (d)), .int (zi (a)), .int (zi (a)), .int (zi (0)), .null, .int (zi ((-1))), .int (zi (d)), .int (zi ((-1)))]))) (qb) = some (.inr (1, [.int (zi ((((u 13 0).toNat : Nat) : Int))), .int (zi (a)), .int (zi (f)), .int (zi (b_)), .int (zi (k)), .int (zi (d)), .int (zi (a)), .int (zi (a)), .int (zi (0)), .null, .int (zi ((-1))), .int (zi (d)), .int (zi ((-1)))])) := zu_eq
    have he_11 : (zu w (qb) (.inr (1, [.int (zi ((((u 13 0).toNat : Nat) : Int))), .int (zi (a)), .int (zi (f)), .int (zi (b_)), .int (zi (k)), .int (zi (d)), .int (zi (a)), .int (zi (a)), .int (zi (0)), .null, .int (zi ((-1))), .int (zi (d)), .int (zi ((-1)))]))) (ad 0) = some (.inr (6, [.ref (ad 1), .ref (ad 3), .ref (ad 5), .ref (ad 6), .int (zi (u 24 0)), .int (zi (u 23 0))])) := (zu_ne (hfr _ _ hC.mk)).trans ((zu_ne (hfr _ _ hC.mk)).symm.trans he_7)
    have he_12 : (zu w (qb) (.inr (1, [.int (zi ((((u 13 0).toNat : Nat) : Int))), .int (zi (a)), .int (zi (f)), .int (zi (b_)), .int (zi (k)), .int (zi (d)), .int (zi (a)), .int (zi (a)), .int (zi (0)), .null, .int (zi ((-1))), .int (zi (d)), .int (zi ((-1)))]))) (ad 1) = some (.inr (5, [.ref (ad 2)])) := (zu_ne (hfr _ _ hC.we)).trans ((zu_ne (hfr _ _ hC.we)).symm.trans he_8)
    have he_13 : (zu w (qb) (.inr (1, [.int (zi ((((u 13 0).toNat : Nat) : Int))), .int (zi (a)), .int (zi (f)), .int (zi (b_)), .int (zi (k)), .int (zi (d)), .int (zi (a)), .int (zi (a)), .int (zi (0)), .null, .int (zi ((-1))), .int (zi (d)), .int (zi ((-1)))]))) (ad 3) = some (.inr (4, [.ref (ad 4), .ref (ad 7)])) := (zu_ne (hfr _ _ hC.le)).trans ((zu_ne (hfr _ _ hC.le)).symm.trans he_9)
    have hC0 : zCx tc dz ad aB aC aD nd dd Wd u (zu w (qb) (.inr (1, [.int (zi ((((u 13 0).toNat : Nat) : Int))), .int (zi (a)), .int (zi (f)), .int (zi (b_)), .int (zi (k)), .int (zi (d)), .int (zi (a)), .int (zi (a)), .int (zi (0)), .null, .int (zi ((-1))), .int (zi (d)), .int (zi ((-1)))]))) := hC.mono (fun q e h => (zu_ne (hfr q e h)).trans h)
    refine z_addL hZ X hK hl.1 hC0.lB hR hS (by omega) (fun i hi => let ⟨_, _, _, g, _⟩ := hC0.bo i hi; ⟨1, _, Or.inl rfl, g⟩) he_10 (Or.inl rfl) (q_296 hT hW) ⟨Nat.le_of_ble_eq_true rfl, Nat.le_of_ble_eq_true rfl⟩ ⟨Nat.le_of_ble_eq_true rfl, Nat.le_of_ble_eq_true rfl⟩ (Nat.le_of_ble_eq_true rfl) dX5_boat_78 (fun H locs w1 hadd hR hS => ?_)
    have hC1 := hC0.addB hI (hU.1 _ (by omega)) (a := a) (b := b_) (k := k) (d := d) (f := f) (uo := a) (lf := -1) he_10 hadd
    refine lv_pop hx hb dX5_boat_83 rfl ?_
    refine lv_iload hx hb dX5_boat_84 (lv_at hl 0 rfl) ?_
    exact vx_ret (z_iret hx hb hr hlocks hS (by decide) (by decide) dX5_boat_86 ⟨by unfold mcBoat; omega, by rw [show (((u 13 0).toNat : Nat) : Int) = u 13 0 by omega], _, _, _, _, _, _, _, hC1, hD.trans (zdone_c (u := u) (v := muBoat u a b_ k d f) _ (fun j _ => Iff.rfl)).symm, hR⟩)
  · skip
    have hcd : mcBoat u a b_ k d f = 3 := by unfold mcBoat; omega
    refine z_thrS hZ hflags X hnt hlocks hl.1 hS (by decide) (q_233 hT) dX5_boat_48 dX5_boat_51 dX5_boat_52 dX5_boat_54 dX5_boat_57 (by decide) (Nat.le_of_ble_eq_true rfl) (Nat.le_of_ble_eq_true rfl) (Nat.le_of_ble_eq_true rfl) (Nat.le_of_ble_eq_true rfl) (Nat.le_of_ble_eq_true rfl) (fun H' hs1 hs2 => ⟨by rw [hcd]; decide, by rw [hcd]; rfl, _, _, _, _, _, _, _, hC, hD, zR.kept hR (fun q hq _ => hs2 q hq)⟩)
set_option maxHeartbeats 4000000 in
set_option maxRecDepth 100000 in
theorem c_X5_pass (l : Launch) (hflags : l.stackTraces = false) {S : State} {D : va_G} {tc : Nat → ClassId} {A : Nat → Prop} {dz : Nat} (hZ : zB S D tc A dz) {ad : Nat → Nat} {u : zS_} {n : Int} (h0 : -2147483648 ≤ n ∧ n ≤ 2147483647) (hI : zIn u) (hU : zUn u) : zMX l S A yX5_pass cX5_pass 3 (Option.some Jvm.ClassFile.FieldType.int) { frames := 12, locals := 480, cells := 577, slots := 10950 } [.ref (ad 0), .int (zi (n))] (zHC D tc dz A ad u) (fun v H => mcPass u n = 0 ∧ v = some (.int (zi (mpass u n.toNat 24 0))) ∧ zHC D tc dz A ad (mpass u n.toNat) H) (fun E H => 0 < mcPass u n ∧ E = zxA (mcPass u n) ∧ zHC D tc dz A ad u H) := by
  refine zMX.mk (by decide +kernel) (Nat.le_of_ble_eq_true rfl) ?_
  intro p e s m below meth c ls X0 hnt hR hl
  obtain ⟨hx, hb, hml, hr, hlocks, hown, hnm, hW, hpre, hA⟩ := X0
  have X : zH S A p s m c cX5_pass 3 RX5 := ⟨hx, hb, hml, hown, hW, hpre, hA, hZ.2.2.1⟩
  have hT := hZ.1
  have hK := va_K.moved hW.alike hZ.2.1
  have hS : va_S A s.heap s.heap [] := va_S.rf
  have hl : lv_has ls 3 [(0, .ref (ad 0)), (1, .int (zi (n)))] := hl
  skip
  obtain ⟨aB, aC, aD, nd, dd, Wd, w, hC, hD, hR⟩ := hR
  have hI1 := hI.1
  refine lv_iload_n hx hb dX5_pass_0 rfl (lv_at hl 1 rfl) ?_
  refine lv_iconst (v := zi (1)) hx hb dX5_pass_1 rfl ?_
  refine lv_bipush (v := zi (48)) hx hb dX5_pass_2 rfl ?_
  refine z_invSX (n := 3) (c_X5_checkWithin l hflags hZ (w := w) (a := n) (lo := 1) (hi := 48) (by omega)) X hS hR hl.1 (q_197 hT hW) (q_1 hT hW) (q_195 hT hW) (q_196 hT hW) (by decide +kernel) rfl ⟨Nat.le_of_ble_eq_true rfl, Nat.le_of_ble_eq_true rfl⟩ ⟨Nat.le_of_ble_eq_true rfl, Nat.le_of_ble_eq_true rfl⟩ (Nat.le_of_ble_eq_true rfl) dX5_pass_4 (fun E ce q9 H locs hv hS hq9 hcv hcl => ?_) (fun v H locs hv hS => ?_) rfl
  · skip
    have hv2 := hv.2.1
    have hcd : mcPass u n = 1 := by unfold mcPass; omega
    exact z_out hnt hlocks hq9 hcv hcl hS ⟨by rw [hcd]; decide, by rw [hcd]; exact hv.1, _, _, _, _, _, _, _, hC, hD, hv.2.2⟩ (Nat.le_of_ble_eq_true rfl) (Nat.le_of_ble_eq_true rfl)
  obtain ⟨rfl, hk_1, hR⟩ := hv
  refine lv_aload_n hx hb dX5_pass_7 rfl (lv_at hl 0 rfl) ?_
  refine z_get hx hb (q_wsX5 hT hW) hown hK hR hC.mk rfl 4 (by decide) (q_87 hT hW) (fun _ h => h) rfl dX5_pass_8 ?_
  refine lv_iload_n hx hb dX5_pass_11 rfl (lv_at hl 1 rfl) ?_
  refine z_iadd (a := u 24 0) (b := n) hx hb dX5_pass_12 ?_
  refine lv_sipush (v := zi (999)) hx hb dX5_pass_13 rfl ?_
  refine z_icmp_le (a := (u 24 0 + n)) (b := 999) (tgt := 29) hx hb dX5_pass_16 (by decide) (by omega) (fun h_16 => ?_) (fun h_16 => ?_)
  · skip
    refine lv_iconst (v := zi (0)) hx hb dX5_pass_29 rfl ?_
    refine lv_istore_n (lv' := [(2, .int (zi (0))), (0, .ref (ad 0)), (1, .int (zi (n)))]) hx hb dX5_pass_30 rfl hl (by decide) rfl (fun ls hl => ?_)
    have hpn : 1 ≤ n ∧ n ≤ 48 ∧ u 24 0 + n ≤ 999 := by omega
    suffices K : ∀ (fu : Nat) (pd : Nat) (U : zS_) (w1 : zW) (aD1 : Nat → Nat) (nd1 : Nat) (dd1 : Nat → Nat → Int) (H : Heap) (locs : List Loc) (ls : Array Slot), (n.toNat - pd) < fu → ((pd : Int) ≤ n) → (U = mpass u pd) → (zCx tc dz ad aB aC aD1 nd1 dd1 Wd U w1) → ((nd1 : Int) = zdone U (U 21 0).toNat) → zR D A w1 H → va_S A s.heap H locs → lv_has ls 3 [(2, .int (zi (((pd : Nat) : Int)))), (0, .ref (ad 0)), (1, .int (zi (n)))] → W p l e { frames := 12, locals := 480, cells := 577, slots := 10950 } s m ([.ref (ad 0), .int (zi (n))] : List Value).toArray below meth c H locs (1 + 12 * pd) (6 + 228 * pd) (vx_MQ below (zQ A (fun v H => mcPass u n = 0 ∧ v = some (.int (zi (mpass u n.toNat 24 0))) ∧ zHC D tc dz A ad (mpass u n.toNat) H)) (zXC A (fun E H => 0 < mcPass u n ∧ E = zxA (mcPass u n) ∧ zHC D tc dz A ad u H)) ([.ref (ad 0), .int (zi (n))] : List Value).toArray s ({ frames := 12, locals := 480, cells := 577, slots := 10950 } : Room).cells ({ frames := 12, locals := 480, cells := 577, slots := 10950 } : Room).slots A) (F0 m 31 ls []) from K _ 0 u w aD nd dd _ _ _ (Nat.lt_succ_self _) (by omega) rfl hC hD hR hS (lv_sub hl [0, 1, 2] rfl)
    intro fu
    induction fu with
    | zero => intro pd U w1 aD1 nd1 dd1 H locs ls hm; exact absurd hm (Nat.not_lt_zero _)
    | succ fu ih31 =>
      intro pd U w1 aD1 nd1 dd1 H locs ls hm hpd hUe hC hD hR hS hl
      have dp := zIn_mpass hI pd (by omega)
      rw [show mpass u pd = U from hUe.symm] at dp
      have dp1 := dp.1.1
      refine lv_iload_n hx hb dX5_pass_31 rfl (lv_at hl 0 rfl) ?_
      refine lv_iload_n hx hb dX5_pass_32 rfl (lv_at hl 2 rfl) ?_
      refine z_icmp_ge (a := ((pd : Nat) : Int)) (b := n) (tgt := 68) hx hb dX5_pass_33 (by decide) (by omega) (fun h_33 => ?_) (fun h_33 => ?_)
      · skip
        have hpq : pd = n.toNat := by omega
        rw [hpq] at hUe
        refine lv_aload_n hx hb dX5_pass_68 rfl (lv_at hl 1 rfl) ?_
        refine z_get hx hb (q_wsX5 hT hW) hown hK hR hC.mk rfl 4 (by decide) (q_87 hT hW) (fun _ h => h) rfl dX5_pass_69 ?_
        exact vx_ret (z_iret hx hb hr hlocks hS (by show 1 + 12 * pd ≤ 577; omega) (by show 6 + 228 * pd ≤ 10950; omega) dX5_pass_72 ⟨by unfold mcPass; omega, by rw [hUe], aB, aC, aD1, nd1, dd1, Wd, w1, by rw [← hUe]; exact hC, by rw [← hUe]; exact hD, hR⟩)
      · skip
        refine lv_aload_n hx hb dX5_pass_36 rfl (lv_at hl 1 rfl) ?_
        refine lv_dup hx hb dX5_pass_37 rfl ?_
        refine z_get hx hb (q_wsX5 hT hW) hown hK hR hC.mk rfl 4 (by decide) (q_87 hT hW) (fun _ h => h) rfl dX5_pass_38 ?_
        refine lv_iconst (v := zi (1)) hx hb dX5_pass_41 rfl ?_
        refine z_iadd (a := U 24 0) (b := 1) hx hb dX5_pass_42 ?_
        refine z_put hx hb (q_wsX5 hT hW) tyX5 tyX5_ok nmX5 hown hK hR hS hC.mk rfl 4 (by decide) (q_87 hT hW) (fun _ h => h) rfl (tyX5_ok 4 (by decide)) rfl rfl (Nat.le_of_ble_eq_true rfl) dX5_pass_43 (fun H locs hR hS => ?_)
        have hR : zR D A (zu w1 (ad 0) (.inr (6, [.ref (ad 1), .ref (ad 3), .ref (ad 5), .ref (ad 6), .int (zi ((U 24 0 + 1))), .int (zi (U 23 0))]))) H := hR
        have he_2 : (zu w1 (ad 0) (.inr (6, [.ref (ad 1), .ref (ad 3), .ref (ad 5), .ref (ad 6), .int (zi ((U 24 0 + 1))), .int (zi (U 23 0))]))) (ad 0) = some (.inr (6, [.ref (ad 1), .ref (ad 3), .ref (ad 5), .ref (ad 6), .int (zi ((U 24 0 + 1))), .int (zi (U 23 0))])) := zu_eq
        have hC1 : zCx tc dz ad aB aC aD1 nd1 dd1 Wd (mh1 U) (zu w1 (ad 0) (.inr (6, [.ref (ad 1), .ref (ad 3), .ref (ad 5), .ref (ad 6), .int (zi ((U 24 0 + 1))), .int (zi (U 23 0))]))) := hC.mkt (k := 24) (x := U 24 0 + 1) (Or.inr rfl)
        have g1 : zIn (mh1 U) := zIn_mh1 dp.1 (by omega)
        have g1i := g1.1
        have k2 := mh2_p g1 (n := (mh1 U 13 0).toNat) (by omega)
        have g2 : zIn (mh2 (mh1 U)) := k2.1
        have g2i := g2.1
        have k3 := mh3_p g2 (n := (mh2 (mh1 U) 13 0).toNat) (by omega)
        have g3 : zIn (mh3 (mh2 (mh1 U))) := k3.1
        have g3i := g3.1
        have k4 := mh4_p g3 (n := (mh3 (mh2 (mh1 U)) 13 0).toNat) (by omega)
        have g4 : zIn (mh4 (mh3 (mh2 (mh1 U)))) := k4.1
        have e21 : mh2 (mh1 U) 21 0 = U 21 0 := k2.2.2.1
        refine lv_aload_n hx hb dX5_pass_46 rfl (lv_at hl 1 rfl) ?_
        refine z_invV (n := 0) (C := RX5) (c_X5_turnBoatsBack l hZ hC1 g1) X hS hR hl.1 (q_463 hT hW) (q_1 hT hW) (q_460 hT hW) (q_462 hT hW) (q_p5 hT hW) (z_recv hK hR hC1.mk rfl) (by decide +kernel) rfl ⟨Nat.le_of_ble_eq_true rfl, Nat.le_of_ble_eq_true rfl⟩ ⟨by show 1 + 12 * pd + 0 ≤ 577; omega, by show 6 + 228 * pd + 0 ≤ 10950; omega⟩ (Nat.le_of_ble_eq_true rfl) dX5_pass_47 (fun v H locs hv hS => ?_) rfl
        obtain ⟨rfl, w2, hC2, hR⟩ := hv
        refine lv_aload_n hx hb dX5_pass_50 rfl (lv_at hl 1 rfl) ?_
        refine z_invV (n := 0) (C := RX5) (c_X5_letBoatsArrive l hZ hC2 g2 (by rw [e21, zdone_mh2 g1, hD]; exact (zdone_c (u := U) (v := mh1 U) _ (fun _ _ => Iff.rfl)).symm)) X hS hR hl.1 (q_484 hT hW) (q_1 hT hW) (q_481 hT hW) (q_483 hT hW) (q_p8 hT hW) (z_recv hK hR hC2.mk rfl) (by decide +kernel) rfl ⟨Nat.le_of_ble_eq_true rfl, Nat.le_of_ble_eq_true rfl⟩ ⟨by show 1 + 12 * pd + 0 + 12 ≤ 577; omega, by show 6 + 228 * pd + 0 + 228 ≤ 10950; omega⟩ (Nat.le_of_ble_eq_true rfl) dX5_pass_51 (fun v H locs hv hS => ?_) rfl
        obtain ⟨rfl, w3, aD3, nd3, dd3, hC3, hD3, hR⟩ := hv
        refine lv_aload_n hx hb dX5_pass_54 rfl (lv_at hl 1 rfl) ?_
        refine z_invV (n := 0) (C := RX5) (c_X5_freeBoatsThatRested l hZ hC3 g3) X hS hR hl.1 (q_547 hT hW) (q_1 hT hW) (q_544 hT hW) (q_546 hT hW) (q_p10 hT hW) (z_recv hK hR hC3.mk rfl) (by decide +kernel) rfl ⟨Nat.le_of_ble_eq_true rfl, Nat.le_of_ble_eq_true rfl⟩ ⟨by show 1 + 12 * pd + 0 + 12 + 0 ≤ 577; omega, by show 6 + 228 * pd + 0 + 228 + 0 ≤ 10950; omega⟩ (Nat.le_of_ble_eq_true rfl) dX5_pass_55 (fun v H locs hv hS => ?_) rfl
        obtain ⟨rfl, w4, hC4, hR⟩ := hv
        refine lv_aload_n hx hb dX5_pass_58 rfl (lv_at hl 1 rfl) ?_
        refine z_invV (n := 0) (C := RX5) (c_X5_answerCalls l hZ hC4 g4) X hS hR hl.1 (q_555 hT hW) (q_1 hT hW) (q_552 hT hW) (q_554 hT hW) (q_p11 hT hW) (z_recv hK hR hC4.mk rfl) (by decide +kernel) rfl ⟨Nat.le_of_ble_eq_true rfl, Nat.le_of_ble_eq_true rfl⟩ ⟨by show 1 + 12 * pd + 0 + 12 + 0 + 0 ≤ 577; omega, by show 6 + 228 * pd + 0 + 228 + 0 + 0 ≤ 10950; omega⟩ (Nat.le_of_ble_eq_true rfl) dX5_pass_59 (fun v H locs hv hS => ?_) rfl
        obtain ⟨rfl, w5, hC5, hR⟩ := hv
        refine z_iinc (a := ((pd : Nat) : Int)) (n := 1) (lv' := [(2, .int (zi ((((pd : Nat) : Int) + 1)))), (0, .ref (ad 0)), (1, .int (zi (n)))]) hx hb dX5_pass_62 hl (k := 0) rfl (by decide) rfl (fun ls hl => ?_)
        refine lv_goto (tgt := 31) hx hb dX5_pass_65 (by decide) ?_
        have hm : mpass u (pd + 1) = mgo U := by rw [hUe]; rfl
        have hg := zIn_mgo dp.1 (by omega)
        refine W.widen (k := 1 + 12 * (pd + 1)) (n := 6 + 228 * (pd + 1)) (by show 1 + 12 * pd + 0 + 12 + 0 + 0 ≤ 1 + 12 * (pd + 1); omega) (by show 6 + 228 * pd + 0 + 228 + 0 + 0 ≤ 6 + 228 * (pd + 1); omega) ?_
        exact ih31 (pd + 1) (mpass u (pd + 1)) w5 aD3 nd3 dd3 _ _ _ (by omega) (by omega) rfl (by rw [hm]; exact hC5) (by rw [hm, hg.2.2.2]; show _ = zdone (mh5 (mh4 (mh3 (mh2 (mh1 U))))) _; rw [zdone_mh5, zdone_mh4, hD3, e21]) hR hS (lv_sub hl [0, 1, 2] rfl)
  · skip
    have hcd : mcPass u n = 2 := by unfold mcPass; omega
    refine z_thrS hZ hflags X hnt hlocks hl.1 hS (by decide) (q_459 hT) dX5_pass_19 dX5_pass_22 dX5_pass_23 dX5_pass_25 dX5_pass_28 (by decide) (Nat.le_of_ble_eq_true rfl) (Nat.le_of_ble_eq_true rfl) (Nat.le_of_ble_eq_true rfl) (Nat.le_of_ble_eq_true rfl) (Nat.le_of_ble_eq_true rfl) (fun H' hs1 hs2 => ⟨by rw [hcd]; decide, by rw [hcd]; rfl, _, _, _, _, _, _, _, hC, hD, zR.kept hR (fun q hq _ => hs2 q hq)⟩)
section ZFO
variable {tc : Nat → ClassId} {dz : Nat} {ad aB aC aD : Nat → Nat} {nd : Nat} {dd : Nat → Nat → Int} {Wd W2 : Nat → Int64} {u v : zS_} {w : zW}
theorem zCx.fore (h : zCx tc dz ad aB aC aD nd dd Wd u w) (hu : ∀ k j, k ≠ 0 → v k j = u k j) (hW : zWk v W2) : zCx tc dz ad aB aC aD nd dd W2 v (zu w (ad 2) (.inl (tc 2, 3024, .inr (.inl W2)))) := by
  have kp : ∀ q e', w q = some e' → (∀ f, e' ≠ .inl (tc 2, 3024, .inr (.inl f))) → zu w (ad 2) (.inl (tc 2, 3024, .inr (.inl W2))) q = some e' := fun q e' hq hf => (zu_ne (zne hq h.wo (hf _))).trans hq
  have kl : ∀ {la n : Nat} {a : Nat → Nat}, zLi tc dz w la n a → zLi tc dz (zu w (ad 2) (.inl (tc 2, 3024, .inr (.inl W2)))) la n a := fun hl => hl.kept (fun q e' hq hf => kp q e' hq (by rcases hf with ⟨f, rfl⟩ | ⟨c, el, rfl⟩ <;> (intro g z; first | cases z | exact zwo_ne c el z.symm)))
  refine ⟨?_, kp _ _ h.we (by intro f z; cases z), zu_eq, hW, kp _ _ h.le (by intro f z; cases z), ?_, ?_, ?_, kl h.lD, ?_, ?_, fun k hk => ⟨kp _ _ (h.de k hk).1 (by intro f z; cases z), (h.de k hk).2⟩, ?_, h.ne⟩
  · rw [hu 24 0 (by decide), hu 23 0 (by decide)]; exact kp _ _ h.mk (by intro f z; cases z)
  · rw [show (fun j => zi (v 22 j)) = fun j => zi (u 22 j) from funext fun j => by rw [hu 22 j (by decide)]]
    exact kp _ _ h.pa (by intro f z; injection z with z; injection z with _ z; injection z with _ z; cases z)
  · rw [hu 13 0 (by decide)]; exact kl h.lB
  · rw [hu 21 0 (by decide)]; exact kl h.lC
  · intro i hi
    rw [hu 13 0 (by decide)] at hi
    obtain ⟨x1, x2, x3, g1, g2⟩ := h.bo i hi
    refine ⟨x1, x2, x3, ?_, ?_⟩
    · unfold zco
      rw [hu 1 _ (by decide), hu 7 _ (by decide), hu 3 _ (by decide), hu 4 _ (by decide), hu 5 _ (by decide), hu 2 _ (by decide), hu 8 _ (by decide), hu 9 _ (by decide), hu 6 _ (by decide)]
      exact kp _ _ g1 (by intro f z; cases z)
    · rw [hu 9 _ (by decide), hu 12 _ (by decide), hu 8 _ (by decide), hu 11 _ (by decide), hu 10 _ (by decide)]
      exact g2
  · intro j hj
    rw [hu 21 0 (by decide)] at hj
    have g := h.ca j hj
    unfold zCk zbo at g ⊢
    rw [hu 14 _ (by decide), hu 15 _ (by decide), hu 16 _ (by decide), hu 17 _ (by decide), hu 18 _ (by decide), hu 19 _ (by decide), hu 20 _ (by decide)]
    exact kp _ _ g (by intro f z; cases z)
  · intro c hc
    rw [hu 22 _ (by decide)]; exact h.su c hc
theorem zWk_put {Pl Ql : Nat → Prop} {n a z st : Int} (h : zWk (mfo u Pl st) Wd) (r : 0 ≤ n ∧ n ≤ 47 ∧ 0 ≤ a ∧ a ≤ z ∧ z ≤ 999) (h2 : ∀ j : Nat, j < 3024 → ∀ k : Nat, k < 16 → (zni (W2 j) k : Int) = if (j : Int) / 63 = n ∧ a ≤ 16 * ((j : Int) % 63) + k ∧ 16 * ((j : Int) % 63) + k ≤ z then st else zni (Wd j) k)
    (hp : ∀ j : Nat, Ql j ↔ Pl j ∨ ((j : Int) / 1000 = n ∧ a ≤ (j : Int) % 1000 ∧ (j : Int) % 1000 ≤ z)) : zWk (mfo u Ql st) W2 := by
  intro m t hm ht
  have h1 := h m t hm ht
  rw [h2 (m * 63 + t / 16) (by omega) (t % 16) (by omega)]
  have e1 : (((m * 63 + t / 16 : Nat) : Int) / 63 = n ∧ a ≤ 16 * (((m * 63 + t / 16 : Nat) : Int) % 63) + ((t % 16 : Nat) : Int) ∧ 16 * (((m * 63 + t / 16 : Nat) : Int) % 63) + ((t % 16 : Nat) : Int) ≤ z) ↔ (((1000 * m + t : Nat) : Int) / 1000 = n ∧ a ≤ ((1000 * m + t : Nat) : Int) % 1000 ∧ ((1000 * m + t : Nat) : Int) % 1000 ≤ z) := by omega
  by_cases g : ((1000 * m + t : Nat) : Int) / 1000 = n ∧ a ≤ ((1000 * m + t : Nat) : Int) % 1000 ∧ ((1000 * m + t : Nat) : Int) % 1000 ≤ z
  · rw [if_pos (e1.mpr g)]
    exact (if_pos ⟨rfl, (hp _).mpr (Or.inr g)⟩).symm
  · rw [if_neg (fun q => g (e1.mp q)), h1]
    unfold mfo
    by_cases g2 : Pl (1000 * m + t)
    · rw [if_pos ⟨rfl, g2⟩, if_pos ⟨rfl, (hp _).mpr (Or.inl g2)⟩]
    · rw [if_neg (fun q => g2 q.2), if_neg (fun q => ((hp _).mp q.2).elim g2 g)]
end ZFO
set_option maxHeartbeats 4000000 in
set_option maxRecDepth 100000 in
theorem c_X5_foretell (l : Launch) (hflags : l.stackTraces = false) {S : State} {D : va_G} {tc : Nat → ClassId} {A : Nat → Prop} {dz : Nat} (hZ : zB S D tc A dz) {ad : Nat → Nat} {u : zS_} {f t a z st : Int} (h0 : -2147483648 ≤ f ∧ f ≤ 2147483647 ∧ -2147483648 ≤ t ∧ t ≤ 2147483647 ∧ -2147483648 ≤ a ∧ a ≤ 2147483647 ∧ -2147483648 ≤ z ∧ z ≤ 2147483647 ∧ -2147483648 ≤ st ∧ st ≤ 2147483647) (hI : zIn u) (hU : zUn u) : zMX l S A yX5_foretell cX5_foretell 10 (Option.some Jvm.ClassFile.FieldType.int) { frames := 8, locals := 220, cells := 6, slots := 36 } [.ref (ad 0), .int (zi (f)), .int (zi (t)), .int (zi (a)), .int (zi (z)), .int (zi (st))] (zHC D tc dz A ad u) (fun v H => mcFore u f t a z st = 0 ∧ v = some (.int (zi ((t % 8 - f % 8 + 1) * (t / 8 - f / 8 + 1)))) ∧ zHC D tc dz A ad (muFore u f t a z st) H) (fun E H => 0 < mcFore u f t a z st ∧ E = zxI (mcFore u f t a z st) ∧ zHC D tc dz A ad u H) := by
  refine zMX.mk (by decide +kernel) (Nat.le_of_ble_eq_true rfl) ?_
  intro p e s m below meth c ls X0 hnt hR hl
  obtain ⟨hx, hb, hml, hr, hlocks, hown, hnm, hW, hpre, hA⟩ := X0
  have X : zH S A p s m c cX5_foretell 10 RX5 := ⟨hx, hb, hml, hown, hW, hpre, hA, hZ.2.2.1⟩
  have hT := hZ.1
  have hK := va_K.moved hW.alike hZ.2.1
  have hS : va_S A s.heap s.heap [] := va_S.rf
  have hl : lv_has ls 10 [(0, .ref (ad 0)), (1, .int (zi (f))), (2, .int (zi (t))), (3, .int (zi (a))), (4, .int (zi (z))), (5, .int (zi (st)))] := hl
  skip
  obtain ⟨aB, aC, aD, nd, dd, Wd, w, hC, hD, hR⟩ := hR
  have hI1 := hI.1
  refine lv_iload_n hx hb dX5_foretell_0 rfl (lv_at hl 1 rfl) ?_
  refine z_invSX (n := 1) (c_X5_checkCell l hflags hZ (w := w) (a := f) (by omega)) X hS hR hl.1 (q_193 hT hW) (q_1 hT hW) (q_191 hT hW) (q_192 hT hW) (by decide +kernel) rfl ⟨Nat.le_of_ble_eq_true rfl, Nat.le_of_ble_eq_true rfl⟩ ⟨Nat.le_of_ble_eq_true rfl, Nat.le_of_ble_eq_true rfl⟩ (Nat.le_of_ble_eq_true rfl) dX5_foretell_1 (fun E ce q9 H locs hv hS hq9 hcv hcl => ?_) (fun v H locs hv hS => ?_) rfl
  · skip
    have hv2 := hv.2.1
    have hcd : mcFore u f t a z st = 1 := by unfold mcFore; omega
    exact z_out hnt hlocks hq9 hcv hcl hS ⟨by rw [hcd]; decide, by rw [hcd]; exact hv.1, _, _, _, _, _, _, _, hC, hD, hv.2.2⟩ (Nat.le_of_ble_eq_true rfl) (Nat.le_of_ble_eq_true rfl)
  obtain ⟨rfl, hk_1, hR⟩ := hv
  refine lv_iload_n hx hb dX5_foretell_4 rfl (lv_at hl 2 rfl) ?_
  refine z_invSX (n := 1) (c_X5_checkCell l hflags hZ (w := w) (a := t) (by omega)) X hS hR hl.1 (q_193 hT hW) (q_1 hT hW) (q_191 hT hW) (q_192 hT hW) (by decide +kernel) rfl ⟨Nat.le_of_ble_eq_true rfl, Nat.le_of_ble_eq_true rfl⟩ ⟨Nat.le_of_ble_eq_true rfl, Nat.le_of_ble_eq_true rfl⟩ (Nat.le_of_ble_eq_true rfl) dX5_foretell_5 (fun E ce q9 H locs hv hS hq9 hcv hcl => ?_) (fun v H locs hv hS => ?_) rfl
  · skip
    have hv2 := hv.2.1
    have hcd : mcFore u f t a z st = 1 := by unfold mcFore; omega
    exact z_out hnt hlocks hq9 hcv hcl hS ⟨by rw [hcd]; decide, by rw [hcd]; exact hv.1, _, _, _, _, _, _, _, hC, hD, hv.2.2⟩ (Nat.le_of_ble_eq_true rfl) (Nat.le_of_ble_eq_true rfl)
  obtain ⟨rfl, hk_2, hR⟩ := hv
  refine lv_iload_n hx hb dX5_foretell_8 rfl (lv_at hl 2 rfl) ?_
  refine z_invS (n := 1) (c_X5_columnOf l hZ (P := zR D A w) (n := t) (by omega)) X hS hR hl.1 (q_391 hT hW) (q_1 hT hW) (q_389 hT hW) (q_390 hT hW) (by decide +kernel) rfl ⟨Nat.le_of_ble_eq_true rfl, Nat.le_of_ble_eq_true rfl⟩ ⟨Nat.le_of_ble_eq_true rfl, Nat.le_of_ble_eq_true rfl⟩ (Nat.le_of_ble_eq_true rfl) dX5_foretell_9 (fun v H locs hv hS => ?_) rfl
  obtain ⟨rfl, hR⟩ := hv
  refine lv_iload_n hx hb dX5_foretell_12 rfl (lv_at hl 1 rfl) ?_
  refine z_invS (n := 1) (c_X5_columnOf l hZ (P := zR D A w) (n := f) (by omega)) X hS hR hl.1 (q_391 hT hW) (q_1 hT hW) (q_389 hT hW) (q_390 hT hW) (by decide +kernel) rfl ⟨Nat.le_of_ble_eq_true rfl, Nat.le_of_ble_eq_true rfl⟩ ⟨Nat.le_of_ble_eq_true rfl, Nat.le_of_ble_eq_true rfl⟩ (Nat.le_of_ble_eq_true rfl) dX5_foretell_13 (fun v H locs hv hS => ?_) rfl
  obtain ⟨rfl, hR⟩ := hv
  refine z_isub (a := (t % 8)) (b := (f % 8)) hx hb dX5_foretell_16 ?_
  refine lv_iconst (v := zi (1)) hx hb dX5_foretell_17 rfl ?_
  refine z_iadd (a := ((t % 8) - (f % 8))) (b := 1) hx hb dX5_foretell_18 ?_
  refine lv_istore (lv' := [(6, .int (zi ((((t % 8) - (f % 8)) + 1)))), (0, .ref (ad 0)), (1, .int (zi (f))), (2, .int (zi (t))), (3, .int (zi (a))), (4, .int (zi (z))), (5, .int (zi (st)))]) hx hb dX5_foretell_19 hl (by decide) rfl (fun ls hl => ?_)
  refine lv_iload_n hx hb dX5_foretell_21 rfl (lv_at hl 3 rfl) ?_
  refine z_invS (n := 1) (c_X5_rowOf l hZ (P := zR D A w) (n := t) (by omega)) X hS hR hl.1 (q_394 hT hW) (q_1 hT hW) (q_392 hT hW) (q_393 hT hW) (by decide +kernel) rfl ⟨Nat.le_of_ble_eq_true rfl, Nat.le_of_ble_eq_true rfl⟩ ⟨Nat.le_of_ble_eq_true rfl, Nat.le_of_ble_eq_true rfl⟩ (Nat.le_of_ble_eq_true rfl) dX5_foretell_22 (fun v H locs hv hS => ?_) rfl
  obtain ⟨rfl, hR⟩ := hv
  refine lv_iload_n hx hb dX5_foretell_25 rfl (lv_at hl 2 rfl) ?_
  refine z_invS (n := 1) (c_X5_rowOf l hZ (P := zR D A w) (n := f) (by omega)) X hS hR hl.1 (q_394 hT hW) (q_1 hT hW) (q_392 hT hW) (q_393 hT hW) (by decide +kernel) rfl ⟨Nat.le_of_ble_eq_true rfl, Nat.le_of_ble_eq_true rfl⟩ ⟨Nat.le_of_ble_eq_true rfl, Nat.le_of_ble_eq_true rfl⟩ (Nat.le_of_ble_eq_true rfl) dX5_foretell_26 (fun v H locs hv hS => ?_) rfl
  obtain ⟨rfl, hR⟩ := hv
  refine z_isub (a := (t / 8)) (b := (f / 8)) hx hb dX5_foretell_29 ?_
  refine lv_iconst (v := zi (1)) hx hb dX5_foretell_30 rfl ?_
  refine z_iadd (a := ((t / 8) - (f / 8))) (b := 1) hx hb dX5_foretell_31 ?_
  refine lv_istore (lv' := [(7, .int (zi ((((t / 8) - (f / 8)) + 1)))), (6, .int (zi ((((t % 8) - (f % 8)) + 1)))), (0, .ref (ad 0)), (1, .int (zi (f))), (2, .int (zi (t))), (3, .int (zi (a))), (4, .int (zi (z))), (5, .int (zi (st)))]) hx hb dX5_foretell_32 hl (by decide) rfl (fun ls hl => ?_)
  refine lv_iload hx hb dX5_foretell_34 (lv_at hl 1 rfl) ?_
  refine lv_iconst (v := zi (1)) hx hb dX5_foretell_36 rfl ?_
  refine z_icmp_lt (a := (((t % 8) - (f % 8)) + 1)) (b := 1) (tgt := 46) hx hb dX5_foretell_37 (by decide) (by omega) (fun h_37 => ?_) (fun h_37 => ?_)
  · skip
    have hcd : mcFore u f t a z st = 2 := by unfold mcFore; omega
    refine z_thrA hZ hflags X hnt hlocks hl.1 hS (by decide) (q_395 hT) dX5_foretell_46 dX5_foretell_49 dX5_foretell_50 dX5_foretell_52 dX5_foretell_55 (by decide) (Nat.le_of_ble_eq_true rfl) (Nat.le_of_ble_eq_true rfl) (Nat.le_of_ble_eq_true rfl) (Nat.le_of_ble_eq_true rfl) (Nat.le_of_ble_eq_true rfl) (fun H' hs1 hs2 => ⟨by rw [hcd]; decide, by rw [hcd]; rfl, _, _, _, _, _, _, _, hC, hD, zR.kept hR (fun q hq _ => hs2 q hq)⟩)
  · skip
    refine lv_iload hx hb dX5_foretell_40 (lv_at hl 0 rfl) ?_
    refine lv_iconst (v := zi (1)) hx hb dX5_foretell_42 rfl ?_
    refine z_icmp_ge (a := (((t / 8) - (f / 8)) + 1)) (b := 1) (tgt := 56) hx hb dX5_foretell_43 (by decide) (by omega) (fun h_43 => ?_) (fun h_43 => ?_)
    · skip
      refine lv_iload_n hx hb dX5_foretell_56 rfl (lv_at hl 5 rfl) ?_
      refine lv_aload_n hx hb dX5_foretell_57 rfl (lv_at hl 2 rfl) ?_
      refine z_get hx hb (q_wsX5 hT hW) hown hK hR hC.mk rfl 4 (by decide) (q_87 hT hW) (fun _ h => h) rfl dX5_foretell_58 ?_
      refine lv_sipush (v := zi (999)) hx hb dX5_foretell_61 rfl ?_
      refine z_invSX (n := 3) (c_X5_checkWithin l hflags hZ (w := w) (a := a) (lo := u 24 0) (hi := 999) (by omega)) X hS hR hl.1 (q_197 hT hW) (q_1 hT hW) (q_195 hT hW) (q_196 hT hW) (by decide +kernel) rfl ⟨Nat.le_of_ble_eq_true rfl, Nat.le_of_ble_eq_true rfl⟩ ⟨Nat.le_of_ble_eq_true rfl, Nat.le_of_ble_eq_true rfl⟩ (Nat.le_of_ble_eq_true rfl) dX5_foretell_64 (fun E ce q9 H locs hv hS hq9 hcv hcl => ?_) (fun v H locs hv hS => ?_) rfl
      · skip
        have hv2 := hv.2.1
        have hcd : mcFore u f t a z st = 2 := by unfold mcFore; omega
        exact z_out hnt hlocks hq9 hcv hcl hS ⟨by rw [hcd]; decide, by rw [hcd]; exact hv.1, _, _, _, _, _, _, _, hC, hD, hv.2.2⟩ (Nat.le_of_ble_eq_true rfl) (Nat.le_of_ble_eq_true rfl)
      obtain ⟨rfl, hk_3, hR⟩ := hv
      refine lv_iload hx hb dX5_foretell_67 (lv_at hl 6 rfl) ?_
      refine lv_iload_n hx hb dX5_foretell_69 rfl (lv_at hl 5 rfl) ?_
      refine lv_sipush (v := zi (999)) hx hb dX5_foretell_70 rfl ?_
      refine z_invSX (n := 3) (c_X5_checkWithin l hflags hZ (w := w) (a := z) (lo := a) (hi := 999) (by omega)) X hS hR hl.1 (q_197 hT hW) (q_1 hT hW) (q_195 hT hW) (q_196 hT hW) (by decide +kernel) rfl ⟨Nat.le_of_ble_eq_true rfl, Nat.le_of_ble_eq_true rfl⟩ ⟨Nat.le_of_ble_eq_true rfl, Nat.le_of_ble_eq_true rfl⟩ (Nat.le_of_ble_eq_true rfl) dX5_foretell_73 (fun E ce q9 H locs hv hS hq9 hcv hcl => ?_) (fun v H locs hv hS => ?_) rfl
      · skip
        have hv2 := hv.2.1
        have hcd : mcFore u f t a z st = 2 := by unfold mcFore; omega
        exact z_out hnt hlocks hq9 hcv hcl hS ⟨by rw [hcd]; decide, by rw [hcd]; exact hv.1, _, _, _, _, _, _, _, hC, hD, hv.2.2⟩ (Nat.le_of_ble_eq_true rfl) (Nat.le_of_ble_eq_true rfl)
      obtain ⟨rfl, hk_4, hR⟩ := hv
      refine lv_iload hx hb dX5_foretell_76 (lv_at hl 7 rfl) ?_
      refine lv_iconst (v := zi (0)) hx hb dX5_foretell_78 rfl ?_
      refine lv_bipush (v := zi (9)) hx hb dX5_foretell_79 rfl ?_
      refine z_invSX (n := 3) (c_X5_checkWithin l hflags hZ (w := w) (a := st) (lo := 0) (hi := 9) (by omega)) X hS hR hl.1 (q_197 hT hW) (q_1 hT hW) (q_195 hT hW) (q_196 hT hW) (by decide +kernel) rfl ⟨Nat.le_of_ble_eq_true rfl, Nat.le_of_ble_eq_true rfl⟩ ⟨Nat.le_of_ble_eq_true rfl, Nat.le_of_ble_eq_true rfl⟩ (Nat.le_of_ble_eq_true rfl) dX5_foretell_81 (fun E ce q9 H locs hv hS hq9 hcv hcl => ?_) (fun v H locs hv hS => ?_) rfl
      · skip
        have hv2 := hv.2.1
        have hcd : mcFore u f t a z st = 2 := by unfold mcFore; omega
        exact z_out hnt hlocks hq9 hcv hcl hS ⟨by rw [hcd]; decide, by rw [hcd]; exact hv.1, _, _, _, _, _, _, _, hC, hD, hv.2.2⟩ (Nat.le_of_ble_eq_true rfl) (Nat.le_of_ble_eq_true rfl)
      obtain ⟨rfl, hk_5, hR⟩ := hv
      refine lv_iconst (v := zi (0)) hx hb dX5_foretell_84 rfl ?_
      refine lv_istore (lv' := [(8, .int (zi (0))), (7, .int (zi ((((t / 8) - (f / 8)) + 1)))), (6, .int (zi ((((t % 8) - (f % 8)) + 1)))), (0, .ref (ad 0)), (1, .int (zi (f))), (2, .int (zi (t))), (3, .int (zi (a))), (4, .int (zi (z))), (5, .int (zi (st)))]) hx hb dX5_foretell_85 hl (by decide) rfl (fun ls hl => ?_)
      have hfr9 : (0 ≤ f ∧ f ≤ 47) ∧ (0 ≤ t ∧ t ≤ 47) ∧ f % 8 ≤ t % 8 ∧ f / 8 ≤ t / 8 ∧ (u 24 0 ≤ a ∧ a ≤ 999) ∧ (a ≤ z ∧ z ≤ 999) ∧ (0 ≤ st ∧ st ≤ 9) := by omega
      have hC9 : zCx tc dz ad aB aC aD nd dd Wd (mfo u (fun j => mrect f t a z j ∧ (j : Int) / 1000 / 8 - f / 8 < ((0 : Nat) : Int)) st) w := by rw [mfo_0 (fun j q => by have q1 := q.1; have q2 := q.2; unfold mrect at q1; omega)]; exact hC
      suffices K : ∀ (fu : Nat) (r : Nat) (W1 : Nat → Int64) (w1 : zW) (H : Heap) (locs : List Loc) (ls : Array Slot), ((t / 8 - f / 8 + 1).toNat - r) < fu → ((r : Int) ≤ t / 8 - f / 8 + 1) → (zCx tc dz ad aB aC aD nd dd W1 (mfo u (fun j => mrect f t a z j ∧ (j : Int) / 1000 / 8 - f / 8 < (r : Int)) st) w1) → zR D A w1 H → va_S A s.heap H locs → lv_has ls 10 [(8, .int (zi (((r : Nat) : Int)))), (7, .int (zi ((t / 8 - f / 8 + 1)))), (6, .int (zi ((t % 8 - f % 8 + 1)))), (0, .ref (ad 0)), (1, .int (zi (f))), (2, .int (zi (t))), (3, .int (zi (a))), (4, .int (zi (z))), (5, .int (zi (st)))] → W p l e { frames := 8, locals := 220, cells := 6, slots := 36 } s m ([.ref (ad 0), .int (zi (f)), .int (zi (t)), .int (zi (a)), .int (zi (z)), .int (zi (st))] : List Value).toArray below meth c H locs (5) (30) (vx_MQ below (zQ A (fun v H => mcFore u f t a z st = 0 ∧ v = some (.int (zi ((t % 8 - f % 8 + 1) * (t / 8 - f / 8 + 1)))) ∧ zHC D tc dz A ad (muFore u f t a z st) H)) (zXC A (fun E H => 0 < mcFore u f t a z st ∧ E = zxI (mcFore u f t a z st) ∧ zHC D tc dz A ad u H)) ([.ref (ad 0), .int (zi (f)), .int (zi (t)), .int (zi (a)), .int (zi (z)), .int (zi (st))] : List Value).toArray s ({ frames := 8, locals := 220, cells := 6, slots := 36 } : Room).cells ({ frames := 8, locals := 220, cells := 6, slots := 36 } : Room).slots A) (F0 m 87 ls []) from K _ 0 Wd w _ _ _ (Nat.lt_succ_self _) (by omega) hC9 hR hS (lv_sub hl [0, 1, 2, 3, 4, 5, 6, 7, 8] rfl)
      intro fu
      induction fu with
      | zero => intro r W1 w1 H locs ls hm; exact absurd hm (Nat.not_lt_zero _)
      | succ fu ih87 =>
        intro r W1 w1 H locs ls hm hr9 hC hR hS hl
        refine lv_iload hx hb dX5_foretell_87 (lv_at hl 0 rfl) ?_
        refine lv_iload hx hb dX5_foretell_89 (lv_at hl 1 rfl) ?_
        refine z_icmp_ge (a := ((r : Nat) : Int)) (b := (t / 8 - f / 8 + 1)) (tgt := 138) hx hb dX5_foretell_91 (by decide) (by omega) (fun h_91 => ?_) (fun h_91 => ?_)
        · skip
          have hmf : mfo u (fun j => mrect f t a z j ∧ (j : Int) / 1000 / 8 - f / 8 < (r : Int)) st = muFore u f t a z st := mfo_c (fun j => ⟨fun q => q.1, fun q => ⟨q, by unfold mrect at q; omega⟩⟩)
          rw [hmf] at hC
          refine lv_iload hx hb dX5_foretell_138 (lv_at hl 2 rfl) ?_
          refine lv_iload hx hb dX5_foretell_140 (lv_at hl 1 rfl) ?_
          refine z_imul (a := (t % 8 - f % 8 + 1)) (b := (t / 8 - f / 8 + 1)) hx hb dX5_foretell_142 ?_
          exact vx_ret (z_iret hx hb hr hlocks hS (by decide) (by decide) dX5_foretell_143 ⟨by unfold mcFore; omega, rfl, aB, aC, aD, nd, dd, W1, w1, hC, by rw [show muFore u f t a z st 21 0 = u 21 0 from mfo_k (by decide)]; exact hD.trans (zdone_c (u := u) (v := muFore u f t a z st) _ (fun j _ => by rw [show muFore u f t a z st 17 j = u 17 j from mfo_k (by decide)])).symm, hR⟩)
        · skip
          refine lv_iconst (v := zi (0)) hx hb dX5_foretell_94 rfl ?_
          refine lv_istore (lv' := [(9, .int (zi (0))), (8, .int (zi (((r : Nat) : Int)))), (7, .int (zi ((t / 8 - f / 8 + 1)))), (6, .int (zi ((t % 8 - f % 8 + 1)))), (0, .ref (ad 0)), (1, .int (zi (f))), (2, .int (zi (t))), (3, .int (zi (a))), (4, .int (zi (z))), (5, .int (zi (st)))]) hx hb dX5_foretell_95 hl (by decide) rfl (fun ls hl => ?_)
          have hC7 : zCx tc dz ad aB aC aD nd dd W1 (mfo u (fun j => mrect f t a z j ∧ ((j : Int) / 1000 / 8 - f / 8 < (r : Int) ∨ ((j : Int) / 1000 / 8 - f / 8 = (r : Int) ∧ (j : Int) / 1000 % 8 - f % 8 < ((0 : Nat) : Int)))) st) w1 := by rw [mfo_c (Ql := (fun j => mrect f t a z j ∧ (j : Int) / 1000 / 8 - f / 8 < (r : Int))) (fun j => ⟨fun q => ⟨q.1, by have q1 := q.1; unfold mrect at q1; omega⟩, fun q => ⟨q.1, Or.inl q.2⟩⟩)]; exact hC
          suffices K : ∀ (fu : Nat) (cn : Nat) (W3 : Nat → Int64) (w3 : zW) (H : Heap) (locs : List Loc) (ls : Array Slot), ((t % 8 - f % 8 + 1).toNat - cn) < fu → ((cn : Int) ≤ t % 8 - f % 8 + 1) → (zCx tc dz ad aB aC aD nd dd W3 (mfo u (fun j => mrect f t a z j ∧ ((j : Int) / 1000 / 8 - f / 8 < (r : Int) ∨ ((j : Int) / 1000 / 8 - f / 8 = (r : Int) ∧ (j : Int) / 1000 % 8 - f % 8 < (cn : Int)))) st) w3) → zR D A w3 H → va_S A s.heap H locs → lv_has ls 10 [(9, .int (zi (((cn : Nat) : Int)))), (8, .int (zi (((r : Nat) : Int)))), (7, .int (zi ((t / 8 - f / 8 + 1)))), (6, .int (zi ((t % 8 - f % 8 + 1)))), (0, .ref (ad 0)), (1, .int (zi (f))), (2, .int (zi (t))), (3, .int (zi (a))), (4, .int (zi (z))), (5, .int (zi (st)))] → W p l e { frames := 8, locals := 220, cells := 6, slots := 36 } s m ([.ref (ad 0), .int (zi (f)), .int (zi (t)), .int (zi (a)), .int (zi (z)), .int (zi (st))] : List Value).toArray below meth c H locs (5) (30) (vx_MQ below (zQ A (fun v H => mcFore u f t a z st = 0 ∧ v = some (.int (zi ((t % 8 - f % 8 + 1) * (t / 8 - f / 8 + 1)))) ∧ zHC D tc dz A ad (muFore u f t a z st) H)) (zXC A (fun E H => 0 < mcFore u f t a z st ∧ E = zxI (mcFore u f t a z st) ∧ zHC D tc dz A ad u H)) ([.ref (ad 0), .int (zi (f)), .int (zi (t)), .int (zi (a)), .int (zi (z)), .int (zi (st))] : List Value).toArray s ({ frames := 8, locals := 220, cells := 6, slots := 36 } : Room).cells ({ frames := 8, locals := 220, cells := 6, slots := 36 } : Room).slots A) (F0 m 97 ls []) from K _ 0 W1 w1 _ _ _ (Nat.lt_succ_self _) (by omega) hC7 hR hS (lv_sub hl [0, 1, 2, 3, 4, 5, 6, 7, 8, 9] rfl)
          intro fu
          induction fu with
          | zero => intro cn W3 w3 H locs ls hm; exact absurd hm (Nat.not_lt_zero _)
          | succ fu ih97 =>
            intro cn W3 w3 H locs ls hm hcn hC hR hS hl
            refine lv_iload hx hb dX5_foretell_97 (lv_at hl 0 rfl) ?_
            refine lv_iload hx hb dX5_foretell_99 (lv_at hl 3 rfl) ?_
            refine z_icmp_ge (a := ((cn : Nat) : Int)) (b := (t % 8 - f % 8 + 1)) (tgt := 132) hx hb dX5_foretell_101 (by decide) (by omega) (fun h_101 => ?_) (fun h_101 => ?_)
            · skip
              have hC8 : zCx tc dz ad aB aC aD nd dd W3 (mfo u (fun j => mrect f t a z j ∧ (j : Int) / 1000 / 8 - f / 8 < ((r + 1 : Nat) : Int)) st) w3 := by rw [mfo_c (Ql := (fun j => mrect f t a z j ∧ ((j : Int) / 1000 / 8 - f / 8 < (r : Int) ∨ ((j : Int) / 1000 / 8 - f / 8 = (r : Int) ∧ (j : Int) / 1000 % 8 - f % 8 < (cn : Int))))) (fun j => ⟨fun q => ⟨q.1, by have q1 := q.1; unfold mrect at q1; omega⟩, fun q => ⟨q.1, by have q1 := q.1; unfold mrect at q1; omega⟩⟩)]; exact hC
              refine z_iinc (a := ((r : Nat) : Int)) (n := 1) (lv' := [(8, .int (zi ((((r : Nat) : Int) + 1)))), (9, .int (zi (((cn : Nat) : Int)))), (7, .int (zi ((t / 8 - f / 8 + 1)))), (6, .int (zi ((t % 8 - f % 8 + 1)))), (0, .ref (ad 0)), (1, .int (zi (f))), (2, .int (zi (t))), (3, .int (zi (a))), (4, .int (zi (z))), (5, .int (zi (st)))]) hx hb dX5_foretell_132 hl (k := 1) rfl (by decide) rfl (fun ls hl => ?_)
              refine lv_goto (tgt := 87) hx hb dX5_foretell_135 (by decide) ?_
              exact ih87 (r + 1) W3 w3 _ _ _ (by omega) (by omega) hC8 hR hS (lv_sub hl [0, 2, 3, 4, 5, 6, 7, 8, 9] rfl)
            · skip
              refine lv_aload_n hx hb dX5_foretell_104 rfl (lv_at hl 4 rfl) ?_
              refine z_get hx hb (q_wsX5 hT hW) hown hK hR hC.mk rfl 0 (by decide) (q_83 hT hW) (fun _ h => h) rfl dX5_foretell_105 ?_
              refine lv_iload_n hx hb dX5_foretell_108 rfl (lv_at hl 5 rfl) ?_
              refine lv_iload hx hb dX5_foretell_109 (lv_at hl 1 rfl) ?_
              refine lv_bipush (v := zi (8)) hx hb dX5_foretell_111 rfl ?_
              refine z_imul (a := ((r : Nat) : Int)) (b := 8) hx hb dX5_foretell_113 ?_
              refine z_iadd (a := f) (b := (((r : Nat) : Int) * 8)) hx hb dX5_foretell_114 ?_
              refine lv_iload hx hb dX5_foretell_115 (lv_at hl 0 rfl) ?_
              refine z_iadd (a := (f + (((r : Nat) : Int) * 8))) (b := ((cn : Nat) : Int)) hx hb dX5_foretell_117 ?_
              refine lv_iload_n hx hb dX5_foretell_118 rfl (lv_at hl 7 rfl) ?_
              refine lv_iload hx hb dX5_foretell_119 (lv_at hl 8 rfl) ?_
              refine lv_iload hx hb dX5_foretell_121 (lv_at hl 9 rfl) ?_
              refine z_invV (n := 4) (C := RX4) (c_X4_put l hZ hC.we hC.wo (n := ((f + (((r : Nat) : Int) * 8)) + ((cn : Nat) : Int))) (a := a) (z := z) (st := st) (by omega)) X hS hR hl.1 (q_399 hT hW) (q_2 hT hW) (q_396 hT hW) (q_397 hT hW) (q_398 hT hW) (z_recv hK hR hC.we rfl) (by decide +kernel) rfl ⟨Nat.le_of_ble_eq_true rfl, Nat.le_of_ble_eq_true rfl⟩ ⟨Nat.le_of_ble_eq_true rfl, Nat.le_of_ble_eq_true rfl⟩ (Nat.le_of_ble_eq_true rfl) dX5_foretell_123 (fun v H locs hv hS => ?_) rfl
              obtain ⟨rfl, W4, hW4, hR⟩ := hv
              have hC4 := hC.fore (v := mfo u (fun j => mrect f t a z j ∧ ((j : Int) / 1000 / 8 - f / 8 < (r : Int) ∨ ((j : Int) / 1000 / 8 - f / 8 = (r : Int) ∧ (j : Int) / 1000 % 8 - f % 8 < ((cn + 1 : Nat) : Int)))) st) (fun k j hk => (mfo_k hk).trans (mfo_k hk).symm) (zWk_put (n := ((f + (((r : Nat) : Int) * 8)) + ((cn : Nat) : Int))) hC.wk (by omega) hW4 (fun j => by unfold mrect; omega))
              refine z_iinc (a := ((cn : Nat) : Int)) (n := 1) (lv' := [(9, .int (zi ((((cn : Nat) : Int) + 1)))), (8, .int (zi (((r : Nat) : Int)))), (7, .int (zi ((t / 8 - f / 8 + 1)))), (6, .int (zi ((t % 8 - f % 8 + 1)))), (0, .ref (ad 0)), (1, .int (zi (f))), (2, .int (zi (t))), (3, .int (zi (a))), (4, .int (zi (z))), (5, .int (zi (st)))]) hx hb dX5_foretell_126 hl (k := 0) rfl (by decide) rfl (fun ls hl => ?_)
              refine lv_goto (tgt := 97) hx hb dX5_foretell_129 (by decide) ?_
              exact ih97 (cn + 1) W4 _ _ _ _ (by omega) (by omega) hC4 hR hS (lv_sub hl [0, 1, 2, 3, 4, 5, 6, 7, 8, 9] rfl)
    · skip
      have hcd : mcFore u f t a z st = 2 := by unfold mcFore; omega
      refine z_thrA hZ hflags X hnt hlocks hl.1 hS (by decide) (q_395 hT) dX5_foretell_46 dX5_foretell_49 dX5_foretell_50 dX5_foretell_52 dX5_foretell_55 (by decide) (Nat.le_of_ble_eq_true rfl) (Nat.le_of_ble_eq_true rfl) (Nat.le_of_ble_eq_true rfl) (Nat.le_of_ble_eq_true rfl) (Nat.le_of_ble_eq_true rfl) (fun H' hs1 hs2 => ⟨by rw [hcd]; decide, by rw [hcd]; rfl, _, _, _, _, _, _, _, hC, hD, zR.kept hR (fun q hq _ => hs2 q hq)⟩)

