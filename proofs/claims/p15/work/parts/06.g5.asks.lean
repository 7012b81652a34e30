/-! what the law asks of the object -/
theorem vB0 {u : zS_} {b : Int} (h : 0 ≤ b ∧ b < u 13 0) : vB u b 0 = u 8 b.toNat := by rw [vB_in h]; rfl
theorem vB1 {u : zS_} {b : Int} (h : 0 ≤ b ∧ b < u 13 0) : vB u b 1 = u 9 b.toNat := by rw [vB_in h]; rfl
theorem vB2a {u : zS_} {b : Int} (h : 0 ≤ b ∧ b < u 13 0) (h8 : u 8 b.toNat = 0) : vB u b 2 = -1 := by rw [vB_in h]; exact if_pos h8
theorem vB2b {u : zS_} {b : Int} (h : 0 ≤ b ∧ b < u 13 0) (h8 : u 8 b.toNat ≠ 0) : vB u b 2 = u 11 b.toNat := by rw [vB_in h]; exact if_neg h8
theorem vB3 {u : zS_} {b : Int} (h : 0 ≤ b ∧ b < u 13 0) : vB u b 3 = u 6 b.toNat := by rw [vB_in h]; rfl
theorem vC0 {u : zS_} {b : Int} (h : 0 ≤ b ∧ b < u 21 0) : vC u b 0 = u 17 b.toNat := by rw [vC_in h]; rfl
theorem vC1 {u : zS_} {b : Int} (h : 0 ≤ b ∧ b < u 21 0) : vC u b 1 = u 18 b.toNat := by rw [vC_in h]; rfl
theorem vC2 {u : zS_} {b : Int} (h : 0 ≤ b ∧ b < u 21 0) : vC u b 2 = u 19 b.toNat := by rw [vC_in h]; rfl
theorem vC3 {u : zS_} {b : Int} (h : 0 ≤ b ∧ b < u 21 0) : vC u b 3 = u 20 b.toNat := by rw [vC_in h]; rfl
set_option maxHeartbeats 4000000 in
set_option maxRecDepth 100000 in
theorem c_L_asks (l : Launch) {S : State} {D : va_G} {tc : Nat → ClassId} {A : Nat → Prop} {dz : Nat} (hZ : zB S D tc A dz) {ad : Nat → Nat} {u : zS_} {now : Int} (hflags : l.stackTraces = false) (hNC : zNC S) (hO : zOk u) (hn : u 24 0 = now) : zM l S A yL_asks cL_asks 6 (Option.some Jvm.ClassFile.FieldType.boolean)  { frames := 10, locals := 300, cells := 500, slots := 3000 } [.ref (ad 0), .int (zi (now))] (zHC D tc dz A ad u) (fun v H => v = some (.int (zi 1)) ∧ zHC D tc dz A ad u H) := by
  refine zM.mk (by decide +kernel) (Nat.le_of_ble_eq_true rfl) ?_
  intro p e s m below meth c ls X0 hR hl
  obtain ⟨hx, hb, hml, hr, hlocks, hown, hnm, hW, hpre, hA⟩ := X0
  have X : zH S A p s m c cL_asks 6 RL := ⟨hx, hb, hml, hown, hW, hpre, hA, hZ.2.2.1⟩
  have hT := hZ.1
  have hK := va_K.moved hW.alike hZ.2.1
  have hS : va_S A s.heap s.heap [] := va_S.rf
  have hl : lv_has ls 6 [(0, .ref (ad 0)), (1, .int (zi (now)))] := hl
  have hHC9 := hR
  have hI1 := hO.1.1
  have K265 : ∀ (H : Heap) (locs : List Loc) (ls : Array Slot) (cells slots : Nat), cells ≤ 468 → slots ≤ 2808 → zHC D tc dz A ad u H → va_S A s.heap H locs → lv_has ls 6 [(2, .int (zi (zrw u (u 21 0).toNat))), (1, .int (zi (now))), (0, .ref (ad 0))] → W p l e { frames := 10, locals := 300, cells := 500, slots := 3000 } s m ([.ref (ad 0), .int (zi (now))] : List Value).toArray below meth c H locs cells slots (MQ below (zQ A (fun v H => v = some (.int (zi 1)) ∧ zHC D tc dz A ad u H)) ([.ref (ad 0), .int (zi (now))] : List Value).toArray s ({ frames := 10, locals := 300, cells := 500, slots := 3000 } : Room).cells ({ frames := 10, locals := 300, cells := 500, slots := 3000 } : Room).slots A) (F0 m 265 ls []) := by
    intro H locs ls cells slots h3 h4 hHC hS hl
    have hsum := hO.2.2.1.2.2
    refine lv_iconst (v := zi (0)) hx hb dL_asks_265 rfl ?_
    refine lv_istore_n (lv' := [(3, .int (zi (0))), (2, .int (zi (zrw u (u 21 0).toNat))), (1, .int (zi (now))), (0, .ref (ad 0))]) hx hb dL_asks_266 rfl hl (by decide) rfl (fun ls hl => ?_)
    refine lv_iconst (v := zi (0)) hx hb dL_asks_267 rfl ?_
    refine lv_istore (lv' := [(4, .int (zi (0))), (3, .int (zi (0))), (2, .int (zi (zrw u (u 21 0).toNat))), (1, .int (zi (now))), (0, .ref (ad 0))]) hx hb dL_asks_268 hl (by decide) rfl (fun ls hl => ?_)
    refine lv_iload hx hb dL_asks_270 (lv_at hl 0 rfl) ?_
    refine lv_iconst (v := zi (3)) hx hb dL_asks_272 rfl ?_
    refine z_icmp_ge (a := 0) (b := 3) (tgt := 308) hx hb dL_asks_273 (by decide) (by omega) (fun h_273 => False.elim (by omega)) (fun _ => ?_)
    refine lv_iload_n hx hb dL_asks_276 rfl (lv_at hl 1 rfl) ?_
    refine lv_aload_n hx hb dL_asks_277 rfl (lv_at hl 4 rfl) ?_
    refine lv_iload hx hb dL_asks_278 (lv_at hl 0 rfl) ?_
    have hHC0 := hHC
    obtain ⟨aB, aC, aD, nd, dd, Wd, w, hC, hD, hRw⟩ := hHC0
    refine z_invVXB (n := 1) (C := RX5) (B := A) (fun q h => h) (c_X5_rewards l hflags hZ (a := 0) (by omega) hO.1 hO.2.1) X hS (fun q h => hA q (Nat.le_trans hS.1 h)) hHC hl.1 (q_601 hT hW) (q_1 hT hW) (q_598 hT hW) (q_599 hT hW) (q_600 hT hW) (z_recv hK hRw hC.mk rfl) (by decide +kernel) rfl ⟨Nat.le_of_ble_eq_true rfl, Nat.le_of_ble_eq_true rfl⟩ ⟨by show cells + 1 ≤ 500; omega, by show slots + 6 ≤ 3000; omega⟩ (Nat.le_of_ble_eq_true rfl) dL_asks_280 (fun E ce q9 H locs hv hfr hS hq9 hcv hcl => ?_) (fun v H locs hv hfr hS => ?_) rfl
    · skip
      have hz := hv.1
      exact absurd hz (by decide)
    · skip
      obtain ⟨hcd, rfl, hHC⟩ := hv
      refine z_iadd (a := 0) (b := u 22 0) hx hb dL_asks_283 ?_
      refine lv_istore_n (lv' := [(3, .int (zi ((0 + u 22 0)))), (4, .int (zi (0))), (2, .int (zi (zrw u (u 21 0).toNat))), (1, .int (zi (now))), (0, .ref (ad 0))]) hx hb dL_asks_284 rfl hl (by decide) rfl (fun ls hl => ?_)
      refine lv_aload_n hx hb dL_asks_285 rfl (lv_at hl 4 rfl) ?_
      refine lv_iload hx hb dL_asks_286 (lv_at hl 1 rfl) ?_
      have hHC0 := hHC
      obtain ⟨aB, aC, aD, nd, dd, Wd, w, hC, hD, hRw⟩ := hHC0
      refine z_invVXB (n := 1) (C := RX5) (B := A) (fun q h => h) (c_X5_rewards l hflags hZ (a := 0) (by omega) hO.1 hO.2.1) X hS (fun q h => hA q (Nat.le_trans hS.1 h)) hHC hl.1 (q_601 hT hW) (q_1 hT hW) (q_598 hT hW) (q_599 hT hW) (q_600 hT hW) (z_recv hK hRw hC.mk rfl) (by decide +kernel) rfl ⟨Nat.le_of_ble_eq_true rfl, Nat.le_of_ble_eq_true rfl⟩ ⟨by show cells + 1 + 1 ≤ 500; omega, by show slots + 6 + 6 ≤ 3000; omega⟩ (Nat.le_of_ble_eq_true rfl) dL_asks_288 (fun E ce q9 H locs hv hfr hS hq9 hcv hcl => ?_) (fun v H locs hv hfr hS => ?_) rfl
      · skip
        have hz := hv.1
        exact absurd hz (by decide)
      · skip
        obtain ⟨hcd, rfl, hHC⟩ := hv
        refine lv_aload_n hx hb dL_asks_291 rfl (lv_at hl 4 rfl) ?_
        refine lv_iload hx hb dL_asks_292 (lv_at hl 1 rfl) ?_
        have hHC0 := hHC
        obtain ⟨aB, aC, aD, nd, dd, Wd, w, hC, hD, hRw⟩ := hHC0
        refine z_invVXB (n := 1) (C := RX5) (B := A) (fun q h => h) (c_X5_rewardsAnew l hflags hZ (a := 0) (by omega) hO.1 hO.2.1) X hS (fun q h => hA q (Nat.le_trans hS.1 h)) hHC hl.1 (q_615 hT hW) (q_1 hT hW) (q_612 hT hW) (q_613 hT hW) (q_614 hT hW) (z_recv hK hRw hC.mk rfl) (by decide +kernel) rfl ⟨Nat.le_of_ble_eq_true rfl, Nat.le_of_ble_eq_true rfl⟩ ⟨by show cells + 1 + 1 + 1 ≤ 500; omega, by show slots + 6 + 6 + 6 ≤ 3000; omega⟩ (Nat.le_of_ble_eq_true rfl) dL_asks_294 (fun E ce q9 H locs hv hfr hS hq9 hcv hcl => ?_) (fun v H locs hv hfr hS => ?_) rfl
        · skip
          have hz := hv.1
          exact absurd hz (by decide)
        · skip
          obtain ⟨hcd, rfl, hHC⟩ := hv
          refine lv_icmp_eq (tgt := 302) hx hb dL_asks_297 (by decide) (fun _ => ?_) (fun h => absurd rfl h)
          refine z_iinc (a := 0) (n := 1) (lv' := [(4, .int (zi (1))), (3, .int (zi ((0 + u 22 0)))), (2, .int (zi (zrw u (u 21 0).toNat))), (1, .int (zi (now))), (0, .ref (ad 0))]) hx hb dL_asks_302 hl (k := 1) rfl (by decide) rfl (fun ls hl => ?_)
          refine lv_goto (tgt := 270) hx hb dL_asks_305 (by decide) ?_
          refine lv_iload hx hb dL_asks_270 (lv_at hl 0 rfl) ?_
          refine lv_iconst (v := zi (3)) hx hb dL_asks_272 rfl ?_
          refine z_icmp_ge (a := 1) (b := 3) (tgt := 308) hx hb dL_asks_273 (by decide) (by omega) (fun h_273 => False.elim (by omega)) (fun _ => ?_)
          refine lv_iload_n hx hb dL_asks_276 rfl (lv_at hl 1 rfl) ?_
          refine lv_aload_n hx hb dL_asks_277 rfl (lv_at hl 4 rfl) ?_
          refine lv_iload hx hb dL_asks_278 (lv_at hl 0 rfl) ?_
          have hHC0 := hHC
          obtain ⟨aB, aC, aD, nd, dd, Wd, w, hC, hD, hRw⟩ := hHC0
          refine z_invVXB (n := 1) (C := RX5) (B := A) (fun q h => h) (c_X5_rewards l hflags hZ (a := 1) (by omega) hO.1 hO.2.1) X hS (fun q h => hA q (Nat.le_trans hS.1 h)) hHC hl.1 (q_601 hT hW) (q_1 hT hW) (q_598 hT hW) (q_599 hT hW) (q_600 hT hW) (z_recv hK hRw hC.mk rfl) (by decide +kernel) rfl ⟨Nat.le_of_ble_eq_true rfl, Nat.le_of_ble_eq_true rfl⟩ ⟨by show cells + 1 + 1 + 1 + 1 ≤ 500; omega, by show slots + 6 + 6 + 6 + 6 ≤ 3000; omega⟩ (Nat.le_of_ble_eq_true rfl) dL_asks_280 (fun E ce q9 H locs hv hfr hS hq9 hcv hcl => ?_) (fun v H locs hv hfr hS => ?_) rfl
          · skip
            have hz := hv.1
            exact absurd hz (by decide)
          · skip
            obtain ⟨hcd, rfl, hHC⟩ := hv
            refine z_iadd (a := (0 + u 22 0)) (b := u 22 1) hx hb dL_asks_283 ?_
            refine lv_istore_n (lv' := [(3, .int (zi (((0 + u 22 0) + u 22 1)))), (4, .int (zi (1))), (2, .int (zi (zrw u (u 21 0).toNat))), (1, .int (zi (now))), (0, .ref (ad 0))]) hx hb dL_asks_284 rfl hl (by decide) rfl (fun ls hl => ?_)
            refine lv_aload_n hx hb dL_asks_285 rfl (lv_at hl 4 rfl) ?_
            refine lv_iload hx hb dL_asks_286 (lv_at hl 1 rfl) ?_
            have hHC0 := hHC
            obtain ⟨aB, aC, aD, nd, dd, Wd, w, hC, hD, hRw⟩ := hHC0
            refine z_invVXB (n := 1) (C := RX5) (B := A) (fun q h => h) (c_X5_rewards l hflags hZ (a := 1) (by omega) hO.1 hO.2.1) X hS (fun q h => hA q (Nat.le_trans hS.1 h)) hHC hl.1 (q_601 hT hW) (q_1 hT hW) (q_598 hT hW) (q_599 hT hW) (q_600 hT hW) (z_recv hK hRw hC.mk rfl) (by decide +kernel) rfl ⟨Nat.le_of_ble_eq_true rfl, Nat.le_of_ble_eq_true rfl⟩ ⟨by show cells + 1 + 1 + 1 + 1 + 1 ≤ 500; omega, by show slots + 6 + 6 + 6 + 6 + 6 ≤ 3000; omega⟩ (Nat.le_of_ble_eq_true rfl) dL_asks_288 (fun E ce q9 H locs hv hfr hS hq9 hcv hcl => ?_) (fun v H locs hv hfr hS => ?_) rfl
            · skip
              have hz := hv.1
              exact absurd hz (by decide)
            · skip
              obtain ⟨hcd, rfl, hHC⟩ := hv
              refine lv_aload_n hx hb dL_asks_291 rfl (lv_at hl 4 rfl) ?_
              refine lv_iload hx hb dL_asks_292 (lv_at hl 1 rfl) ?_
              have hHC0 := hHC
              obtain ⟨aB, aC, aD, nd, dd, Wd, w, hC, hD, hRw⟩ := hHC0
              refine z_invVXB (n := 1) (C := RX5) (B := A) (fun q h => h) (c_X5_rewardsAnew l hflags hZ (a := 1) (by omega) hO.1 hO.2.1) X hS (fun q h => hA q (Nat.le_trans hS.1 h)) hHC hl.1 (q_615 hT hW) (q_1 hT hW) (q_612 hT hW) (q_613 hT hW) (q_614 hT hW) (z_recv hK hRw hC.mk rfl) (by decide +kernel) rfl ⟨Nat.le_of_ble_eq_true rfl, Nat.le_of_ble_eq_true rfl⟩ ⟨by show cells + 1 + 1 + 1 + 1 + 1 + 1 ≤ 500; omega, by show slots + 6 + 6 + 6 + 6 + 6 + 6 ≤ 3000; omega⟩ (Nat.le_of_ble_eq_true rfl) dL_asks_294 (fun E ce q9 H locs hv hfr hS hq9 hcv hcl => ?_) (fun v H locs hv hfr hS => ?_) rfl
              · skip
                have hz := hv.1
                exact absurd hz (by decide)
              · skip
                obtain ⟨hcd, rfl, hHC⟩ := hv
                refine lv_icmp_eq (tgt := 302) hx hb dL_asks_297 (by decide) (fun _ => ?_) (fun h => absurd rfl h)
                refine z_iinc (a := 1) (n := 1) (lv' := [(4, .int (zi (2))), (3, .int (zi (((0 + u 22 0) + u 22 1)))), (2, .int (zi (zrw u (u 21 0).toNat))), (1, .int (zi (now))), (0, .ref (ad 0))]) hx hb dL_asks_302 hl (k := 1) rfl (by decide) rfl (fun ls hl => ?_)
                refine lv_goto (tgt := 270) hx hb dL_asks_305 (by decide) ?_
                refine lv_iload hx hb dL_asks_270 (lv_at hl 0 rfl) ?_
                refine lv_iconst (v := zi (3)) hx hb dL_asks_272 rfl ?_
                refine z_icmp_ge (a := 2) (b := 3) (tgt := 308) hx hb dL_asks_273 (by decide) (by omega) (fun h_273 => False.elim (by omega)) (fun _ => ?_)
                refine lv_iload_n hx hb dL_asks_276 rfl (lv_at hl 1 rfl) ?_
                refine lv_aload_n hx hb dL_asks_277 rfl (lv_at hl 4 rfl) ?_
                refine lv_iload hx hb dL_asks_278 (lv_at hl 0 rfl) ?_
                have hHC0 := hHC
                obtain ⟨aB, aC, aD, nd, dd, Wd, w, hC, hD, hRw⟩ := hHC0
                refine z_invVXB (n := 1) (C := RX5) (B := A) (fun q h => h) (c_X5_rewards l hflags hZ (a := 2) (by omega) hO.1 hO.2.1) X hS (fun q h => hA q (Nat.le_trans hS.1 h)) hHC hl.1 (q_601 hT hW) (q_1 hT hW) (q_598 hT hW) (q_599 hT hW) (q_600 hT hW) (z_recv hK hRw hC.mk rfl) (by decide +kernel) rfl ⟨Nat.le_of_ble_eq_true rfl, Nat.le_of_ble_eq_true rfl⟩ ⟨by show cells + 1 + 1 + 1 + 1 + 1 + 1 + 1 ≤ 500; omega, by show slots + 6 + 6 + 6 + 6 + 6 + 6 + 6 ≤ 3000; omega⟩ (Nat.le_of_ble_eq_true rfl) dL_asks_280 (fun E ce q9 H locs hv hfr hS hq9 hcv hcl => ?_) (fun v H locs hv hfr hS => ?_) rfl
                · skip
                  have hz := hv.1
                  exact absurd hz (by decide)
                · skip
                  obtain ⟨hcd, rfl, hHC⟩ := hv
                  refine z_iadd (a := ((0 + u 22 0) + u 22 1)) (b := u 22 2) hx hb dL_asks_283 ?_
                  refine lv_istore_n (lv' := [(3, .int (zi ((((0 + u 22 0) + u 22 1) + u 22 2)))), (4, .int (zi (2))), (2, .int (zi (zrw u (u 21 0).toNat))), (1, .int (zi (now))), (0, .ref (ad 0))]) hx hb dL_asks_284 rfl hl (by decide) rfl (fun ls hl => ?_)
                  refine lv_aload_n hx hb dL_asks_285 rfl (lv_at hl 4 rfl) ?_
                  refine lv_iload hx hb dL_asks_286 (lv_at hl 1 rfl) ?_
                  have hHC0 := hHC
                  obtain ⟨aB, aC, aD, nd, dd, Wd, w, hC, hD, hRw⟩ := hHC0
                  refine z_invVXB (n := 1) (C := RX5) (B := A) (fun q h => h) (c_X5_rewards l hflags hZ (a := 2) (by omega) hO.1 hO.2.1) X hS (fun q h => hA q (Nat.le_trans hS.1 h)) hHC hl.1 (q_601 hT hW) (q_1 hT hW) (q_598 hT hW) (q_599 hT hW) (q_600 hT hW) (z_recv hK hRw hC.mk rfl) (by decide +kernel) rfl ⟨Nat.le_of_ble_eq_true rfl, Nat.le_of_ble_eq_true rfl⟩ ⟨by show cells + 1 + 1 + 1 + 1 + 1 + 1 + 1 + 1 ≤ 500; omega, by show slots + 6 + 6 + 6 + 6 + 6 + 6 + 6 + 6 ≤ 3000; omega⟩ (Nat.le_of_ble_eq_true rfl) dL_asks_288 (fun E ce q9 H locs hv hfr hS hq9 hcv hcl => ?_) (fun v H locs hv hfr hS => ?_) rfl
                  · skip
                    have hz := hv.1
                    exact absurd hz (by decide)
                  · skip
                    obtain ⟨hcd, rfl, hHC⟩ := hv
                    refine lv_aload_n hx hb dL_asks_291 rfl (lv_at hl 4 rfl) ?_
                    refine lv_iload hx hb dL_asks_292 (lv_at hl 1 rfl) ?_
                    have hHC0 := hHC
                    obtain ⟨aB, aC, aD, nd, dd, Wd, w, hC, hD, hRw⟩ := hHC0
                    refine z_invVXB (n := 1) (C := RX5) (B := A) (fun q h => h) (c_X5_rewardsAnew l hflags hZ (a := 2) (by omega) hO.1 hO.2.1) X hS (fun q h => hA q (Nat.le_trans hS.1 h)) hHC hl.1 (q_615 hT hW) (q_1 hT hW) (q_612 hT hW) (q_613 hT hW) (q_614 hT hW) (z_recv hK hRw hC.mk rfl) (by decide +kernel) rfl ⟨Nat.le_of_ble_eq_true rfl, Nat.le_of_ble_eq_true rfl⟩ ⟨by show cells + 1 + 1 + 1 + 1 + 1 + 1 + 1 + 1 + 1 ≤ 500; omega, by show slots + 6 + 6 + 6 + 6 + 6 + 6 + 6 + 6 + 6 ≤ 3000; omega⟩ (Nat.le_of_ble_eq_true rfl) dL_asks_294 (fun E ce q9 H locs hv hfr hS hq9 hcv hcl => ?_) (fun v H locs hv hfr hS => ?_) rfl
                    · skip
                      have hz := hv.1
                      exact absurd hz (by decide)
                    · skip
                      obtain ⟨hcd, rfl, hHC⟩ := hv
                      refine lv_icmp_eq (tgt := 302) hx hb dL_asks_297 (by decide) (fun _ => ?_) (fun h => absurd rfl h)
                      refine z_iinc (a := 2) (n := 1) (lv' := [(4, .int (zi (3))), (3, .int (zi ((((0 + u 22 0) + u 22 1) + u 22 2)))), (2, .int (zi (zrw u (u 21 0).toNat))), (1, .int (zi (now))), (0, .ref (ad 0))]) hx hb dL_asks_302 hl (k := 1) rfl (by decide) rfl (fun ls hl => ?_)
                      refine lv_goto (tgt := 270) hx hb dL_asks_305 (by decide) ?_
                      refine lv_iload hx hb dL_asks_270 (lv_at hl 0 rfl) ?_
                      refine lv_iconst (v := zi (3)) hx hb dL_asks_272 rfl ?_
                      refine z_icmp_ge (a := 3) (b := 3) (tgt := 308) hx hb dL_asks_273 (by decide) (by omega) (fun _ => ?_) (fun h_273 => False.elim (by omega))
                      refine lv_iload_n hx hb dL_asks_308 rfl (lv_at hl 1 rfl) ?_
                      refine lv_iload_n hx hb dL_asks_309 rfl (lv_at hl 2 rfl) ?_
                      refine lv_icmp_ne (tgt := 317) hx hb dL_asks_310 (by decide) (fun h => absurd (congrArg zi (show (((0 + u 22 0) + u 22 1) + u 22 2) = zrw u (u 21 0).toNat by rw [← hsum]; unfold zgot; omega)) h) (fun _ => ?_)
                      refine lv_iconst (v := zi (1)) hx hb dL_asks_313 rfl ?_
                      refine lv_goto (tgt := 318) hx hb dL_asks_314 (by decide) ?_
                      exact z_zret hx hb hr rfl hlocks hS (by show cells + 1 + 1 + 1 + 1 + 1 + 1 + 1 + 1 + 1 ≤ 500; omega) (by show slots + 6 + 6 + 6 + 6 + 6 + 6 + 6 + 6 + 6 ≤ 3000; omega) dL_asks_318 ⟨rfl, hHC⟩
  have K131 : ∀ (fu b9 : Nat) (H : Heap) (locs : List Loc) (ls : Array Slot) (cells slots : Nat), 6 < fu + b9 → b9 ≤ 6 → cells ≤ 360 + 18 * b9 → slots ≤ 2160 + 108 * b9 → zHC D tc dz A ad u H → va_S A s.heap H locs → lv_has ls 6 [(3, .int (zi ((b9 : Int)))), (2, .int (zi (zrw u (u 21 0).toNat))), (1, .int (zi (now))), (0, .ref (ad 0))] → W p l e { frames := 10, locals := 300, cells := 500, slots := 3000 } s m ([.ref (ad 0), .int (zi (now))] : List Value).toArray below meth c H locs cells slots (MQ below (zQ A (fun v H => v = some (.int (zi 1)) ∧ zHC D tc dz A ad u H)) ([.ref (ad 0), .int (zi (now))] : List Value).toArray s ({ frames := 10, locals := 300, cells := 500, slots := 3000 } : Room).cells ({ frames := 10, locals := 300, cells := 500, slots := 3000 } : Room).slots A) (F0 m 131 ls []) := by
    intro fu
    induction fu with
    | zero => intro b9 H locs ls cells slots h1 h2; omega
    | succ fu ih =>
      intro b9 H locs ls cells slots h1 h2 h3 h4 hHC hS hl
      refine lv_iload_n hx hb dL_asks_131 rfl (lv_at hl 0 rfl) ?_
      refine lv_bipush (v := zi (6)) hx hb dL_asks_132 rfl ?_
      refine z_icmp_ge (a := (b9 : Int)) (b := 6) (tgt := 265) hx hb dL_asks_134 (by decide) (by omega) (fun h_134 => ?_) (fun h_134 => ?_)
      · skip
        exact K265 H locs ls (cells) (slots) (by omega) (by omega) hHC hS (lv_sub hl [1, 2, 3] rfl)
      · skip
        by_cases hb9 : (b9 : Int) < u 13 0
        · skip
          have hr9 : 0 ≤ (b9 : Int) ∧ (b9 : Int) < u 13 0 := ⟨by omega, hb9⟩
          have hIb := hO.1.2.2.1 b9 hb9
          have hTm := hO.2.2.1.1 b9 hb9
          have hTC := hO.2.2.2.1 b9 hb9
          unfold zIb at hIb
          unfold zTm at hTm
          unfold zTC at hTC
          have e0 : vB u (b9 : Int) 0 = u 8 b9 := vB0 hr9
          have e1 : vB u (b9 : Int) 1 = u 9 b9 := vB1 hr9
          have e2a : u 8 b9 = 0 → vB u (b9 : Int) 2 = -1 := fun h => vB2a hr9 h
          have e2b : u 8 b9 ≠ 0 → vB u (b9 : Int) 2 = u 11 b9 := fun h => vB2b hr9 h
          have e3 : vB u (b9 : Int) 3 = u 6 b9 := vB3 hr9
          have e4 : 0 ≤ u 9 b9 → vC u (vB u (b9 : Int) 1) 0 = 1 := fun h => by rw [e1, vC0 (by omega)]; exact (hIb.2.1 h).2.2.2.1
          have hIb1 := hIb.1
          have hIb2 : 0 ≤ u 9 b9 → u 8 b9 = 1 := fun h => (hIb.2.1 h).1
          have hIb3 := hIb.2.2
          clear hIb
          refine lv_aload_n hx hb dL_asks_137 rfl (lv_at hl 3 rfl) ?_
          refine lv_iload_n hx hb dL_asks_138 rfl (lv_at hl 0 rfl) ?_
          refine lv_iconst (v := zi (0)) hx hb dL_asks_139 rfl ?_
          refine z_invSH (n := 3) (B := A) (fun q h => h) (c_L_boat l hZ (ad := ad) (u := u) (a := (b9 : Int)) (n := 0) hflags hNC hO (by omega) (by omega)) X hS (fun q h => hA q (Nat.le_trans hS.1 h)) hHC hl.1 (q_578 hT hW) (q_0 hT hW) (q_576 hT hW) (q_577 hT hW) (by decide +kernel) rfl ⟨Nat.le_of_ble_eq_true rfl, Nat.le_of_ble_eq_true rfl⟩ ⟨by show cells + 2 ≤ 500; omega, by show slots + 12 ≤ 3000; omega⟩ (Nat.le_of_ble_eq_true rfl) dL_asks_140 (fun v H locs hv hfr hS => ?_) rfl
          obtain ⟨rfl, hHC⟩ := hv
          refine lv_istore (lv' := [(4, .int (zi (vB u (b9 : Int) 0))), (3, .int (zi ((b9 : Int)))), (2, .int (zi (zrw u (u 21 0).toNat))), (1, .int (zi (now))), (0, .ref (ad 0))]) hx hb dL_asks_143 hl (by decide) rfl (fun ls hl => ?_)
          refine lv_iload hx hb dL_asks_145 (lv_at hl 0 rfl) ?_
          refine lv_bipush (v := zi (-2)) hx hb dL_asks_147 rfl ?_
          refine z_icmp_eq (a := vB u (b9 : Int) 0) (b := (-2)) (tgt := 259) hx hb dL_asks_149 (by decide) (by omega) (fun h_149 => False.elim (by omega)) (fun h_149 => ?_)
          refine lv_iload hx hb dL_asks_152 (lv_at hl 0 rfl) ?_
          refine z_if_ne (a := vB u (b9 : Int) 0) (tgt := 161) hx hb dL_asks_154 (by decide) (by omega) (fun h_154 => ?_) (fun h_154 => ?_)
          · skip
            refine lv_iconst (v := zi (0)) hx hb dL_asks_161 rfl ?_
            refine lv_aload_n hx hb dL_asks_162 rfl (lv_at hl 4 rfl) ?_
            refine lv_iload_n hx hb dL_asks_163 rfl (lv_at hl 1 rfl) ?_
            refine lv_iconst (v := zi (2)) hx hb dL_asks_164 rfl ?_
            refine z_invSH (n := 3) (B := A) (fun q h => h) (c_L_boat l hZ (ad := ad) (u := u) (a := (b9 : Int)) (n := 2) hflags hNC hO (by omega) (by omega)) X hS (fun q h => hA q (Nat.le_trans hS.1 h)) hHC hl.1 (q_578 hT hW) (q_0 hT hW) (q_576 hT hW) (q_577 hT hW) (by decide +kernel) rfl ⟨Nat.le_of_ble_eq_true rfl, Nat.le_of_ble_eq_true rfl⟩ ⟨by show cells + 2 + 2 ≤ 500; omega, by show slots + 12 + 12 ≤ 3000; omega⟩ (Nat.le_of_ble_eq_true rfl) dL_asks_165 (fun v H locs hv hfr hS => ?_) rfl
            obtain ⟨rfl, hHC⟩ := hv
            refine lv_iconst (v := zi (-1)) hx hb dL_asks_168 rfl ?_
            refine z_icmp_ne (a := vB u (b9 : Int) 2) (b := (-1)) (tgt := 176) hx hb dL_asks_169 (by decide) (by omega) (fun h_169 => ?_) (fun h_169 => ?_)
            · skip
              refine lv_iconst (v := zi (0)) hx hb dL_asks_176 rfl ?_
              refine z_icmp_ne (a := 0) (b := 0) (tgt := 257) hx hb dL_asks_177 (by decide) (by omega) (fun h_177 => False.elim (by omega)) (fun _ => ?_)
              refine lv_iload hx hb dL_asks_180 (lv_at hl 0 rfl) ?_
              refine z_if_le (a := vB u (b9 : Int) 0) (tgt := 195) hx hb dL_asks_182 (by decide) (by omega) (fun h_182 => ?_) (fun h_182 => ?_)
              · skip
                refine lv_iload hx hb dL_asks_195 (lv_at hl 0 rfl) ?_
                refine lv_iconst (v := zi (1)) hx hb dL_asks_197 rfl ?_
                refine z_icmp_eq (a := vB u (b9 : Int) 0) (b := 1) (tgt := 211) hx hb dL_asks_198 (by decide) (by omega) (fun h_198 => ?_) (fun h_198 => ?_)
                · skip
                  refine lv_aload_n hx hb dL_asks_211 rfl (lv_at hl 4 rfl) ?_
                  refine lv_iload_n hx hb dL_asks_212 rfl (lv_at hl 1 rfl) ?_
                  refine lv_iconst (v := zi (1)) hx hb dL_asks_213 rfl ?_
                  refine z_invSH (n := 3) (B := A) (fun q h => h) (c_L_boat l hZ (ad := ad) (u := u) (a := (b9 : Int)) (n := 1) hflags hNC hO (by omega) (by omega)) X hS (fun q h => hA q (Nat.le_trans hS.1 h)) hHC hl.1 (q_578 hT hW) (q_0 hT hW) (q_576 hT hW) (q_577 hT hW) (by decide +kernel) rfl ⟨Nat.le_of_ble_eq_true rfl, Nat.le_of_ble_eq_true rfl⟩ ⟨by show cells + 2 + 2 + 2 ≤ 500; omega, by show slots + 12 + 12 + 12 ≤ 3000; omega⟩ (Nat.le_of_ble_eq_true rfl) dL_asks_214 (fun v H locs hv hfr hS => ?_) rfl
                  obtain ⟨rfl, hHC⟩ := hv
                  refine z_if_lt (a := vB u (b9 : Int) 1) (tgt := 235) hx hb dL_asks_217 (by decide) (by omega) (fun h_217 => ?_) (fun h_217 => ?_)
                  · skip
                    refine lv_aload_n hx hb dL_asks_235 rfl (lv_at hl 4 rfl) ?_
                    refine lv_iload_n hx hb dL_asks_236 rfl (lv_at hl 1 rfl) ?_
                    refine lv_iconst (v := zi (3)) hx hb dL_asks_237 rfl ?_
                    refine z_invSH (n := 3) (B := A) (fun q h => h) (c_L_boat l hZ (ad := ad) (u := u) (a := (b9 : Int)) (n := 3) hflags hNC hO (by omega) (by omega)) X hS (fun q h => hA q (Nat.le_trans hS.1 h)) hHC hl.1 (q_578 hT hW) (q_0 hT hW) (q_576 hT hW) (q_577 hT hW) (by decide +kernel) rfl ⟨Nat.le_of_ble_eq_true rfl, Nat.le_of_ble_eq_true rfl⟩ ⟨by show cells + 2 + 2 + 2 + 2 ≤ 500; omega, by show slots + 12 + 12 + 12 + 12 ≤ 3000; omega⟩ (Nat.le_of_ble_eq_true rfl) dL_asks_238 (fun v H locs hv hfr hS => ?_) rfl
                    obtain ⟨rfl, hHC⟩ := hv
                    refine z_if_lt (a := vB u (b9 : Int) 3) (tgt := 257) hx hb dL_asks_241 (by decide) (by omega) (fun h_241 => False.elim (by omega)) (fun h_241 => ?_)
                    refine lv_aload_n hx hb dL_asks_244 rfl (lv_at hl 4 rfl) ?_
                    refine lv_iload_n hx hb dL_asks_245 rfl (lv_at hl 1 rfl) ?_
                    refine lv_iconst (v := zi (2)) hx hb dL_asks_246 rfl ?_
                    refine z_invSH (n := 3) (B := A) (fun q h => h) (c_L_boat l hZ (ad := ad) (u := u) (a := (b9 : Int)) (n := 2) hflags hNC hO (by omega) (by omega)) X hS (fun q h => hA q (Nat.le_trans hS.1 h)) hHC hl.1 (q_578 hT hW) (q_0 hT hW) (q_576 hT hW) (q_577 hT hW) (by decide +kernel) rfl ⟨Nat.le_of_ble_eq_true rfl, Nat.le_of_ble_eq_true rfl⟩ ⟨by show cells + 2 + 2 + 2 + 2 + 2 ≤ 500; omega, by show slots + 12 + 12 + 12 + 12 + 12 ≤ 3000; omega⟩ (Nat.le_of_ble_eq_true rfl) dL_asks_247 (fun v H locs hv hfr hS => ?_) rfl
                    obtain ⟨rfl, hHC⟩ := hv
                    refine lv_iload_n hx hb dL_asks_250 rfl (lv_at hl 3 rfl) ?_
                    refine lv_bipush (v := zi (20)) hx hb dL_asks_251 rfl ?_
                    refine z_iadd (a := now) (b := 20) hx hb dL_asks_253 ?_
                    refine z_icmp_le (a := vB u (b9 : Int) 2) (b := (now + 20)) (tgt := 259) hx hb dL_asks_254 (by decide) (by omega) (fun h_254 => ?_) (fun h_254 => False.elim (by omega))
                    refine z_iinc (a := (b9 : Int)) (n := 1) (lv' := [(3, .int (zi (((b9 : Int) + 1)))), (4, .int (zi (vB u (b9 : Int) 0))), (2, .int (zi (zrw u (u 21 0).toNat))), (1, .int (zi (now))), (0, .ref (ad 0))]) hx hb dL_asks_259 hl (k := 1) rfl (by decide) rfl (fun ls hl => ?_)
                    refine lv_goto (tgt := 131) hx hb dL_asks_262 (by decide) ?_
                    rw [show (b9 : Int) + 1 = ((b9 + 1 : Nat) : Int) by omega] at hl
                    exact ih (b9 + 1) H locs ls (cells + 2 + 2 + 2 + 2 + 2) (slots + 12 + 12 + 12 + 12 + 12) (by omega) (by omega) (by omega) (by omega) hHC hS (lv_sub hl [0, 2, 3, 4] rfl)
                  · skip
                    refine lv_aload_n hx hb dL_asks_220 rfl (lv_at hl 4 rfl) ?_
                    refine lv_aload_n hx hb dL_asks_221 rfl (lv_at hl 4 rfl) ?_
                    refine lv_iload_n hx hb dL_asks_222 rfl (lv_at hl 1 rfl) ?_
                    refine lv_iconst (v := zi (1)) hx hb dL_asks_223 rfl ?_
                    refine z_invSH (n := 3) (B := A) (fun q h => h) (c_L_boat l hZ (ad := ad) (u := u) (a := (b9 : Int)) (n := 1) hflags hNC hO (by omega) (by omega)) X hS (fun q h => hA q (Nat.le_trans hS.1 h)) hHC hl.1 (q_578 hT hW) (q_0 hT hW) (q_576 hT hW) (q_577 hT hW) (by decide +kernel) rfl ⟨Nat.le_of_ble_eq_true rfl, Nat.le_of_ble_eq_true rfl⟩ ⟨by show cells + 2 + 2 + 2 + 2 ≤ 500; omega, by show slots + 12 + 12 + 12 + 12 ≤ 3000; omega⟩ (Nat.le_of_ble_eq_true rfl) dL_asks_224 (fun v H locs hv hfr hS => ?_) rfl
                    obtain ⟨rfl, hHC⟩ := hv
                    refine lv_iconst (v := zi (0)) hx hb dL_asks_227 rfl ?_
                    refine z_invSH (n := 3) (B := A) (fun q h => h) (c_L_call l hZ (ad := ad) (u := u) (a := vB u (b9 : Int) 1) (n := 0) hflags hNC hO (by omega) (by omega)) X hS (fun q h => hA q (Nat.le_trans hS.1 h)) hHC hl.1 (q_585 hT hW) (q_0 hT hW) (q_583 hT hW) (q_584 hT hW) (by decide +kernel) rfl ⟨Nat.le_of_ble_eq_true rfl, Nat.le_of_ble_eq_true rfl⟩ ⟨by show cells + 2 + 2 + 2 + 2 + 2 ≤ 500; omega, by show slots + 12 + 12 + 12 + 12 + 12 ≤ 3000; omega⟩ (Nat.le_of_ble_eq_true rfl) dL_asks_228 (fun v H locs hv hfr hS => ?_) rfl
                    obtain ⟨rfl, hHC⟩ := hv
                    refine lv_iconst (v := zi (1)) hx hb dL_asks_231 rfl ?_
                    refine z_icmp_ne (a := vC u (vB u (b9 : Int) 1) 0) (b := 1) (tgt := 257) hx hb dL_asks_232 (by decide) (by omega) (fun h_232 => False.elim (by omega)) (fun h_232 => ?_)
                    refine lv_aload_n hx hb dL_asks_235 rfl (lv_at hl 4 rfl) ?_
                    refine lv_iload_n hx hb dL_asks_236 rfl (lv_at hl 1 rfl) ?_
                    refine lv_iconst (v := zi (3)) hx hb dL_asks_237 rfl ?_
                    refine z_invSH (n := 3) (B := A) (fun q h => h) (c_L_boat l hZ (ad := ad) (u := u) (a := (b9 : Int)) (n := 3) hflags hNC hO (by omega) (by omega)) X hS (fun q h => hA q (Nat.le_trans hS.1 h)) hHC hl.1 (q_578 hT hW) (q_0 hT hW) (q_576 hT hW) (q_577 hT hW) (by decide +kernel) rfl ⟨Nat.le_of_ble_eq_true rfl, Nat.le_of_ble_eq_true rfl⟩ ⟨by show cells + 2 + 2 + 2 + 2 + 2 + 2 ≤ 500; omega, by show slots + 12 + 12 + 12 + 12 + 12 + 12 ≤ 3000; omega⟩ (Nat.le_of_ble_eq_true rfl) dL_asks_238 (fun v H locs hv hfr hS => ?_) rfl
                    obtain ⟨rfl, hHC⟩ := hv
                    refine z_if_lt (a := vB u (b9 : Int) 3) (tgt := 257) hx hb dL_asks_241 (by decide) (by omega) (fun h_241 => False.elim (by omega)) (fun h_241 => ?_)
                    refine lv_aload_n hx hb dL_asks_244 rfl (lv_at hl 4 rfl) ?_
                    refine lv_iload_n hx hb dL_asks_245 rfl (lv_at hl 1 rfl) ?_
                    refine lv_iconst (v := zi (2)) hx hb dL_asks_246 rfl ?_
                    refine z_invSH (n := 3) (B := A) (fun q h => h) (c_L_boat l hZ (ad := ad) (u := u) (a := (b9 : Int)) (n := 2) hflags hNC hO (by omega) (by omega)) X hS (fun q h => hA q (Nat.le_trans hS.1 h)) hHC hl.1 (q_578 hT hW) (q_0 hT hW) (q_576 hT hW) (q_577 hT hW) (by decide +kernel) rfl ⟨Nat.le_of_ble_eq_true rfl, Nat.le_of_ble_eq_true rfl⟩ ⟨by show cells + 2 + 2 + 2 + 2 + 2 + 2 + 2 ≤ 500; omega, by show slots + 12 + 12 + 12 + 12 + 12 + 12 + 12 ≤ 3000; omega⟩ (Nat.le_of_ble_eq_true rfl) dL_asks_247 (fun v H locs hv hfr hS => ?_) rfl
                    obtain ⟨rfl, hHC⟩ := hv
                    refine lv_iload_n hx hb dL_asks_250 rfl (lv_at hl 3 rfl) ?_
                    refine lv_bipush (v := zi (20)) hx hb dL_asks_251 rfl ?_
                    refine z_iadd (a := now) (b := 20) hx hb dL_asks_253 ?_
                    refine z_icmp_le (a := vB u (b9 : Int) 2) (b := (now + 20)) (tgt := 259) hx hb dL_asks_254 (by decide) (by omega) (fun h_254 => ?_) (fun h_254 => False.elim (by omega))
                    refine z_iinc (a := (b9 : Int)) (n := 1) (lv' := [(3, .int (zi (((b9 : Int) + 1)))), (4, .int (zi (vB u (b9 : Int) 0))), (2, .int (zi (zrw u (u 21 0).toNat))), (1, .int (zi (now))), (0, .ref (ad 0))]) hx hb dL_asks_259 hl (k := 1) rfl (by decide) rfl (fun ls hl => ?_)
                    refine lv_goto (tgt := 131) hx hb dL_asks_262 (by decide) ?_
                    rw [show (b9 : Int) + 1 = ((b9 + 1 : Nat) : Int) by omega] at hl
                    exact ih (b9 + 1) H locs ls (cells + 2 + 2 + 2 + 2 + 2 + 2 + 2) (slots + 12 + 12 + 12 + 12 + 12 + 12 + 12) (by omega) (by omega) (by omega) (by omega) hHC hS (lv_sub hl [0, 2, 3, 4] rfl)
                · skip
                  refine lv_aload_n hx hb dL_asks_201 rfl (lv_at hl 4 rfl) ?_
                  refine lv_iload_n hx hb dL_asks_202 rfl (lv_at hl 1 rfl) ?_
                  refine lv_iconst (v := zi (1)) hx hb dL_asks_203 rfl ?_
                  refine z_invSH (n := 3) (B := A) (fun q h => h) (c_L_boat l hZ (ad := ad) (u := u) (a := (b9 : Int)) (n := 1) hflags hNC hO (by omega) (by omega)) X hS (fun q h => hA q (Nat.le_trans hS.1 h)) hHC hl.1 (q_578 hT hW) (q_0 hT hW) (q_576 hT hW) (q_577 hT hW) (by decide +kernel) rfl ⟨Nat.le_of_ble_eq_true rfl, Nat.le_of_ble_eq_true rfl⟩ ⟨by show cells + 2 + 2 + 2 ≤ 500; omega, by show slots + 12 + 12 + 12 ≤ 3000; omega⟩ (Nat.le_of_ble_eq_true rfl) dL_asks_204 (fun v H locs hv hfr hS => ?_) rfl
                  obtain ⟨rfl, hHC⟩ := hv
                  refine lv_iconst (v := zi (-1)) hx hb dL_asks_207 rfl ?_
                  refine z_icmp_ne (a := vB u (b9 : Int) 1) (b := (-1)) (tgt := 257) hx hb dL_asks_208 (by decide) (by omega) (fun h_208 => False.elim (by omega)) (fun h_208 => ?_)
                  refine lv_aload_n hx hb dL_asks_211 rfl (lv_at hl 4 rfl) ?_
                  refine lv_iload_n hx hb dL_asks_212 rfl (lv_at hl 1 rfl) ?_
                  refine lv_iconst (v := zi (1)) hx hb dL_asks_213 rfl ?_
                  refine z_invSH (n := 3) (B := A) (fun q h => h) (c_L_boat l hZ (ad := ad) (u := u) (a := (b9 : Int)) (n := 1) hflags hNC hO (by omega) (by omega)) X hS (fun q h => hA q (Nat.le_trans hS.1 h)) hHC hl.1 (q_578 hT hW) (q_0 hT hW) (q_576 hT hW) (q_577 hT hW) (by decide +kernel) rfl ⟨Nat.le_of_ble_eq_true rfl, Nat.le_of_ble_eq_true rfl⟩ ⟨by show cells + 2 + 2 + 2 + 2 ≤ 500; omega, by show slots + 12 + 12 + 12 + 12 ≤ 3000; omega⟩ (Nat.le_of_ble_eq_true rfl) dL_asks_214 (fun v H locs hv hfr hS => ?_) rfl
                  obtain ⟨rfl, hHC⟩ := hv
                  refine z_if_lt (a := vB u (b9 : Int) 1) (tgt := 235) hx hb dL_asks_217 (by decide) (by omega) (fun h_217 => ?_) (fun h_217 => ?_)
                  · skip
                    refine lv_aload_n hx hb dL_asks_235 rfl (lv_at hl 4 rfl) ?_
                    refine lv_iload_n hx hb dL_asks_236 rfl (lv_at hl 1 rfl) ?_
                    refine lv_iconst (v := zi (3)) hx hb dL_asks_237 rfl ?_
                    refine z_invSH (n := 3) (B := A) (fun q h => h) (c_L_boat l hZ (ad := ad) (u := u) (a := (b9 : Int)) (n := 3) hflags hNC hO (by omega) (by omega)) X hS (fun q h => hA q (Nat.le_trans hS.1 h)) hHC hl.1 (q_578 hT hW) (q_0 hT hW) (q_576 hT hW) (q_577 hT hW) (by decide +kernel) rfl ⟨Nat.le_of_ble_eq_true rfl, Nat.le_of_ble_eq_true rfl⟩ ⟨by show cells + 2 + 2 + 2 + 2 + 2 ≤ 500; omega, by show slots + 12 + 12 + 12 + 12 + 12 ≤ 3000; omega⟩ (Nat.le_of_ble_eq_true rfl) dL_asks_238 (fun v H locs hv hfr hS => ?_) rfl
                    obtain ⟨rfl, hHC⟩ := hv
                    refine z_if_lt (a := vB u (b9 : Int) 3) (tgt := 257) hx hb dL_asks_241 (by decide) (by omega) (fun h_241 => False.elim (by omega)) (fun h_241 => ?_)
                    refine lv_aload_n hx hb dL_asks_244 rfl (lv_at hl 4 rfl) ?_
                    refine lv_iload_n hx hb dL_asks_245 rfl (lv_at hl 1 rfl) ?_
                    refine lv_iconst (v := zi (2)) hx hb dL_asks_246 rfl ?_
                    refine z_invSH (n := 3) (B := A) (fun q h => h) (c_L_boat l hZ (ad := ad) (u := u) (a := (b9 : Int)) (n := 2) hflags hNC hO (by omega) (by omega)) X hS (fun q h => hA q (Nat.le_trans hS.1 h)) hHC hl.1 (q_578 hT hW) (q_0 hT hW) (q_576 hT hW) (q_577 hT hW) (by decide +kernel) rfl ⟨Nat.le_of_ble_eq_true rfl, Nat.le_of_ble_eq_true rfl⟩ ⟨by show cells + 2 + 2 + 2 + 2 + 2 + 2 ≤ 500; omega, by show slots + 12 + 12 + 12 + 12 + 12 + 12 ≤ 3000; omega⟩ (Nat.le_of_ble_eq_true rfl) dL_asks_247 (fun v H locs hv hfr hS => ?_) rfl
                    obtain ⟨rfl, hHC⟩ := hv
                    refine lv_iload_n hx hb dL_asks_250 rfl (lv_at hl 3 rfl) ?_
                    refine lv_bipush (v := zi (20)) hx hb dL_asks_251 rfl ?_
                    refine z_iadd (a := now) (b := 20) hx hb dL_asks_253 ?_
                    refine z_icmp_le (a := vB u (b9 : Int) 2) (b := (now + 20)) (tgt := 259) hx hb dL_asks_254 (by decide) (by omega) (fun h_254 => ?_) (fun h_254 => False.elim (by omega))
                    refine z_iinc (a := (b9 : Int)) (n := 1) (lv' := [(3, .int (zi (((b9 : Int) + 1)))), (4, .int (zi (vB u (b9 : Int) 0))), (2, .int (zi (zrw u (u 21 0).toNat))), (1, .int (zi (now))), (0, .ref (ad 0))]) hx hb dL_asks_259 hl (k := 1) rfl (by decide) rfl (fun ls hl => ?_)
                    refine lv_goto (tgt := 131) hx hb dL_asks_262 (by decide) ?_
                    rw [show (b9 : Int) + 1 = ((b9 + 1 : Nat) : Int) by omega] at hl
                    exact ih (b9 + 1) H locs ls (cells + 2 + 2 + 2 + 2 + 2 + 2) (slots + 12 + 12 + 12 + 12 + 12 + 12) (by omega) (by omega) (by omega) (by omega) hHC hS (lv_sub hl [0, 2, 3, 4] rfl)
                  · skip
                    refine lv_aload_n hx hb dL_asks_220 rfl (lv_at hl 4 rfl) ?_
                    refine lv_aload_n hx hb dL_asks_221 rfl (lv_at hl 4 rfl) ?_
                    refine lv_iload_n hx hb dL_asks_222 rfl (lv_at hl 1 rfl) ?_
                    refine lv_iconst (v := zi (1)) hx hb dL_asks_223 rfl ?_
                    refine z_invSH (n := 3) (B := A) (fun q h => h) (c_L_boat l hZ (ad := ad) (u := u) (a := (b9 : Int)) (n := 1) hflags hNC hO (by omega) (by omega)) X hS (fun q h => hA q (Nat.le_trans hS.1 h)) hHC hl.1 (q_578 hT hW) (q_0 hT hW) (q_576 hT hW) (q_577 hT hW) (by decide +kernel) rfl ⟨Nat.le_of_ble_eq_true rfl, Nat.le_of_ble_eq_true rfl⟩ ⟨by show cells + 2 + 2 + 2 + 2 + 2 ≤ 500; omega, by show slots + 12 + 12 + 12 + 12 + 12 ≤ 3000; omega⟩ (Nat.le_of_ble_eq_true rfl) dL_asks_224 (fun v H locs hv hfr hS => ?_) rfl
                    obtain ⟨rfl, hHC⟩ := hv
                    refine lv_iconst (v := zi (0)) hx hb dL_asks_227 rfl ?_
                    refine z_invSH (n := 3) (B := A) (fun q h => h) (c_L_call l hZ (ad := ad) (u := u) (a := vB u (b9 : Int) 1) (n := 0) hflags hNC hO (by omega) (by omega)) X hS (fun q h => hA q (Nat.le_trans hS.1 h)) hHC hl.1 (q_585 hT hW) (q_0 hT hW) (q_583 hT hW) (q_584 hT hW) (by decide +kernel) rfl ⟨Nat.le_of_ble_eq_true rfl, Nat.le_of_ble_eq_true rfl⟩ ⟨by show cells + 2 + 2 + 2 + 2 + 2 + 2 ≤ 500; omega, by show slots + 12 + 12 + 12 + 12 + 12 + 12 ≤ 3000; omega⟩ (Nat.le_of_ble_eq_true rfl) dL_asks_228 (fun v H locs hv hfr hS => ?_) rfl
                    obtain ⟨rfl, hHC⟩ := hv
                    refine lv_iconst (v := zi (1)) hx hb dL_asks_231 rfl ?_
                    refine z_icmp_ne (a := vC u (vB u (b9 : Int) 1) 0) (b := 1) (tgt := 257) hx hb dL_asks_232 (by decide) (by omega) (fun h_232 => False.elim (by omega)) (fun h_232 => ?_)
                    refine lv_aload_n hx hb dL_asks_235 rfl (lv_at hl 4 rfl) ?_
                    refine lv_iload_n hx hb dL_asks_236 rfl (lv_at hl 1 rfl) ?_
                    refine lv_iconst (v := zi (3)) hx hb dL_asks_237 rfl ?_
                    refine z_invSH (n := 3) (B := A) (fun q h => h) (c_L_boat l hZ (ad := ad) (u := u) (a := (b9 : Int)) (n := 3) hflags hNC hO (by omega) (by omega)) X hS (fun q h => hA q (Nat.le_trans hS.1 h)) hHC hl.1 (q_578 hT hW) (q_0 hT hW) (q_576 hT hW) (q_577 hT hW) (by decide +kernel) rfl ⟨Nat.le_of_ble_eq_true rfl, Nat.le_of_ble_eq_true rfl⟩ ⟨by show cells + 2 + 2 + 2 + 2 + 2 + 2 + 2 ≤ 500; omega, by show slots + 12 + 12 + 12 + 12 + 12 + 12 + 12 ≤ 3000; omega⟩ (Nat.le_of_ble_eq_true rfl) dL_asks_238 (fun v H locs hv hfr hS => ?_) rfl
                    obtain ⟨rfl, hHC⟩ := hv
                    refine z_if_lt (a := vB u (b9 : Int) 3) (tgt := 257) hx hb dL_asks_241 (by decide) (by omega) (fun h_241 => False.elim (by omega)) (fun h_241 => ?_)
                    refine lv_aload_n hx hb dL_asks_244 rfl (lv_at hl 4 rfl) ?_
                    refine lv_iload_n hx hb dL_asks_245 rfl (lv_at hl 1 rfl) ?_
                    refine lv_iconst (v := zi (2)) hx hb dL_asks_246 rfl ?_
                    refine z_invSH (n := 3) (B := A) (fun q h => h) (c_L_boat l hZ (ad := ad) (u := u) (a := (b9 : Int)) (n := 2) hflags hNC hO (by omega) (by omega)) X hS (fun q h => hA q (Nat.le_trans hS.1 h)) hHC hl.1 (q_578 hT hW) (q_0 hT hW) (q_576 hT hW) (q_577 hT hW) (by decide +kernel) rfl ⟨Nat.le_of_ble_eq_true rfl, Nat.le_of_ble_eq_true rfl⟩ ⟨by show cells + 2 + 2 + 2 + 2 + 2 + 2 + 2 + 2 ≤ 500; omega, by show slots + 12 + 12 + 12 + 12 + 12 + 12 + 12 + 12 ≤ 3000; omega⟩ (Nat.le_of_ble_eq_true rfl) dL_asks_247 (fun v H locs hv hfr hS => ?_) rfl
                    obtain ⟨rfl, hHC⟩ := hv
                    refine lv_iload_n hx hb dL_asks_250 rfl (lv_at hl 3 rfl) ?_
                    refine lv_bipush (v := zi (20)) hx hb dL_asks_251 rfl ?_
                    refine z_iadd (a := now) (b := 20) hx hb dL_asks_253 ?_
                    refine z_icmp_le (a := vB u (b9 : Int) 2) (b := (now + 20)) (tgt := 259) hx hb dL_asks_254 (by decide) (by omega) (fun h_254 => ?_) (fun h_254 => False.elim (by omega))
                    refine z_iinc (a := (b9 : Int)) (n := 1) (lv' := [(3, .int (zi (((b9 : Int) + 1)))), (4, .int (zi (vB u (b9 : Int) 0))), (2, .int (zi (zrw u (u 21 0).toNat))), (1, .int (zi (now))), (0, .ref (ad 0))]) hx hb dL_asks_259 hl (k := 1) rfl (by decide) rfl (fun ls hl => ?_)
                    refine lv_goto (tgt := 131) hx hb dL_asks_262 (by decide) ?_
                    rw [show (b9 : Int) + 1 = ((b9 + 1 : Nat) : Int) by omega] at hl
                    exact ih (b9 + 1) H locs ls (cells + 2 + 2 + 2 + 2 + 2 + 2 + 2 + 2) (slots + 12 + 12 + 12 + 12 + 12 + 12 + 12 + 12) (by omega) (by omega) (by omega) (by omega) hHC hS (lv_sub hl [0, 2, 3, 4] rfl)
              · skip
                refine lv_aload_n hx hb dL_asks_185 rfl (lv_at hl 4 rfl) ?_
                refine lv_iload_n hx hb dL_asks_186 rfl (lv_at hl 1 rfl) ?_
                refine lv_iconst (v := zi (2)) hx hb dL_asks_187 rfl ?_
                refine z_invSH (n := 3) (B := A) (fun q h => h) (c_L_boat l hZ (ad := ad) (u := u) (a := (b9 : Int)) (n := 2) hflags hNC hO (by omega) (by omega)) X hS (fun q h => hA q (Nat.le_trans hS.1 h)) hHC hl.1 (q_578 hT hW) (q_0 hT hW) (q_576 hT hW) (q_577 hT hW) (by decide +kernel) rfl ⟨Nat.le_of_ble_eq_true rfl, Nat.le_of_ble_eq_true rfl⟩ ⟨by show cells + 2 + 2 + 2 ≤ 500; omega, by show slots + 12 + 12 + 12 ≤ 3000; omega⟩ (Nat.le_of_ble_eq_true rfl) dL_asks_188 (fun v H locs hv hfr hS => ?_) rfl
                obtain ⟨rfl, hHC⟩ := hv
                refine lv_iload_n hx hb dL_asks_191 rfl (lv_at hl 3 rfl) ?_
                refine z_icmp_le (a := vB u (b9 : Int) 2) (b := now) (tgt := 257) hx hb dL_asks_192 (by decide) (by omega) (fun h_192 => False.elim (by omega)) (fun h_192 => ?_)
                refine lv_iload hx hb dL_asks_195 (lv_at hl 0 rfl) ?_
                refine lv_iconst (v := zi (1)) hx hb dL_asks_197 rfl ?_
                refine z_icmp_eq (a := vB u (b9 : Int) 0) (b := 1) (tgt := 211) hx hb dL_asks_198 (by decide) (by omega) (fun h_198 => ?_) (fun h_198 => ?_)
                · skip
                  refine lv_aload_n hx hb dL_asks_211 rfl (lv_at hl 4 rfl) ?_
                  refine lv_iload_n hx hb dL_asks_212 rfl (lv_at hl 1 rfl) ?_
                  refine lv_iconst (v := zi (1)) hx hb dL_asks_213 rfl ?_
                  refine z_invSH (n := 3) (B := A) (fun q h => h) (c_L_boat l hZ (ad := ad) (u := u) (a := (b9 : Int)) (n := 1) hflags hNC hO (by omega) (by omega)) X hS (fun q h => hA q (Nat.le_trans hS.1 h)) hHC hl.1 (q_578 hT hW) (q_0 hT hW) (q_576 hT hW) (q_577 hT hW) (by decide +kernel) rfl ⟨Nat.le_of_ble_eq_true rfl, Nat.le_of_ble_eq_true rfl⟩ ⟨by show cells + 2 + 2 + 2 + 2 ≤ 500; omega, by show slots + 12 + 12 + 12 + 12 ≤ 3000; omega⟩ (Nat.le_of_ble_eq_true rfl) dL_asks_214 (fun v H locs hv hfr hS => ?_) rfl
                  obtain ⟨rfl, hHC⟩ := hv
                  refine z_if_lt (a := vB u (b9 : Int) 1) (tgt := 235) hx hb dL_asks_217 (by decide) (by omega) (fun h_217 => ?_) (fun h_217 => ?_)
                  · skip
                    refine lv_aload_n hx hb dL_asks_235 rfl (lv_at hl 4 rfl) ?_
                    refine lv_iload_n hx hb dL_asks_236 rfl (lv_at hl 1 rfl) ?_
                    refine lv_iconst (v := zi (3)) hx hb dL_asks_237 rfl ?_
                    refine z_invSH (n := 3) (B := A) (fun q h => h) (c_L_boat l hZ (ad := ad) (u := u) (a := (b9 : Int)) (n := 3) hflags hNC hO (by omega) (by omega)) X hS (fun q h => hA q (Nat.le_trans hS.1 h)) hHC hl.1 (q_578 hT hW) (q_0 hT hW) (q_576 hT hW) (q_577 hT hW) (by decide +kernel) rfl ⟨Nat.le_of_ble_eq_true rfl, Nat.le_of_ble_eq_true rfl⟩ ⟨by show cells + 2 + 2 + 2 + 2 + 2 ≤ 500; omega, by show slots + 12 + 12 + 12 + 12 + 12 ≤ 3000; omega⟩ (Nat.le_of_ble_eq_true rfl) dL_asks_238 (fun v H locs hv hfr hS => ?_) rfl
                    obtain ⟨rfl, hHC⟩ := hv
                    refine z_if_lt (a := vB u (b9 : Int) 3) (tgt := 257) hx hb dL_asks_241 (by decide) (by omega) (fun h_241 => False.elim (by omega)) (fun h_241 => ?_)
                    refine lv_aload_n hx hb dL_asks_244 rfl (lv_at hl 4 rfl) ?_
                    refine lv_iload_n hx hb dL_asks_245 rfl (lv_at hl 1 rfl) ?_
                    refine lv_iconst (v := zi (2)) hx hb dL_asks_246 rfl ?_
                    refine z_invSH (n := 3) (B := A) (fun q h => h) (c_L_boat l hZ (ad := ad) (u := u) (a := (b9 : Int)) (n := 2) hflags hNC hO (by omega) (by omega)) X hS (fun q h => hA q (Nat.le_trans hS.1 h)) hHC hl.1 (q_578 hT hW) (q_0 hT hW) (q_576 hT hW) (q_577 hT hW) (by decide +kernel) rfl ⟨Nat.le_of_ble_eq_true rfl, Nat.le_of_ble_eq_true rfl⟩ ⟨by show cells + 2 + 2 + 2 + 2 + 2 + 2 ≤ 500; omega, by show slots + 12 + 12 + 12 + 12 + 12 + 12 ≤ 3000; omega⟩ (Nat.le_of_ble_eq_true rfl) dL_asks_247 (fun v H locs hv hfr hS => ?_) rfl
                    obtain ⟨rfl, hHC⟩ := hv
                    refine lv_iload_n hx hb dL_asks_250 rfl (lv_at hl 3 rfl) ?_
                    refine lv_bipush (v := zi (20)) hx hb dL_asks_251 rfl ?_
                    refine z_iadd (a := now) (b := 20) hx hb dL_asks_253 ?_
                    refine z_icmp_le (a := vB u (b9 : Int) 2) (b := (now + 20)) (tgt := 259) hx hb dL_asks_254 (by decide) (by omega) (fun h_254 => ?_) (fun h_254 => False.elim (by omega))
                    refine z_iinc (a := (b9 : Int)) (n := 1) (lv' := [(3, .int (zi (((b9 : Int) + 1)))), (4, .int (zi (vB u (b9 : Int) 0))), (2, .int (zi (zrw u (u 21 0).toNat))), (1, .int (zi (now))), (0, .ref (ad 0))]) hx hb dL_asks_259 hl (k := 1) rfl (by decide) rfl (fun ls hl => ?_)
                    refine lv_goto (tgt := 131) hx hb dL_asks_262 (by decide) ?_
                    rw [show (b9 : Int) + 1 = ((b9 + 1 : Nat) : Int) by omega] at hl
                    exact ih (b9 + 1) H locs ls (cells + 2 + 2 + 2 + 2 + 2 + 2) (slots + 12 + 12 + 12 + 12 + 12 + 12) (by omega) (by omega) (by omega) (by omega) hHC hS (lv_sub hl [0, 2, 3, 4] rfl)
                  · skip
                    refine lv_aload_n hx hb dL_asks_220 rfl (lv_at hl 4 rfl) ?_
                    refine lv_aload_n hx hb dL_asks_221 rfl (lv_at hl 4 rfl) ?_
                    refine lv_iload_n hx hb dL_asks_222 rfl (lv_at hl 1 rfl) ?_
                    refine lv_iconst (v := zi (1)) hx hb dL_asks_223 rfl ?_
                    refine z_invSH (n := 3) (B := A) (fun q h => h) (c_L_boat l hZ (ad := ad) (u := u) (a := (b9 : Int)) (n := 1) hflags hNC hO (by omega) (by omega)) X hS (fun q h => hA q (Nat.le_trans hS.1 h)) hHC hl.1 (q_578 hT hW) (q_0 hT hW) (q_576 hT hW) (q_577 hT hW) (by decide +kernel) rfl ⟨Nat.le_of_ble_eq_true rfl, Nat.le_of_ble_eq_true rfl⟩ ⟨by show cells + 2 + 2 + 2 + 2 + 2 ≤ 500; omega, by show slots + 12 + 12 + 12 + 12 + 12 ≤ 3000; omega⟩ (Nat.le_of_ble_eq_true rfl) dL_asks_224 (fun v H locs hv hfr hS => ?_) rfl
                    obtain ⟨rfl, hHC⟩ := hv
                    refine lv_iconst (v := zi (0)) hx hb dL_asks_227 rfl ?_
                    refine z_invSH (n := 3) (B := A) (fun q h => h) (c_L_call l hZ (ad := ad) (u := u) (a := vB u (b9 : Int) 1) (n := 0) hflags hNC hO (by omega) (by omega)) X hS (fun q h => hA q (Nat.le_trans hS.1 h)) hHC hl.1 (q_585 hT hW) (q_0 hT hW) (q_583 hT hW) (q_584 hT hW) (by decide +kernel) rfl ⟨Nat.le_of_ble_eq_true rfl, Nat.le_of_ble_eq_true rfl⟩ ⟨by show cells + 2 + 2 + 2 + 2 + 2 + 2 ≤ 500; omega, by show slots + 12 + 12 + 12 + 12 + 12 + 12 ≤ 3000; omega⟩ (Nat.le_of_ble_eq_true rfl) dL_asks_228 (fun v H locs hv hfr hS => ?_) rfl
                    obtain ⟨rfl, hHC⟩ := hv
                    refine lv_iconst (v := zi (1)) hx hb dL_asks_231 rfl ?_
                    refine z_icmp_ne (a := vC u (vB u (b9 : Int) 1) 0) (b := 1) (tgt := 257) hx hb dL_asks_232 (by decide) (by omega) (fun h_232 => False.elim (by omega)) (fun h_232 => ?_)
                    refine lv_aload_n hx hb dL_asks_235 rfl (lv_at hl 4 rfl) ?_
                    refine lv_iload_n hx hb dL_asks_236 rfl (lv_at hl 1 rfl) ?_
                    refine lv_iconst (v := zi (3)) hx hb dL_asks_237 rfl ?_
                    refine z_invSH (n := 3) (B := A) (fun q h => h) (c_L_boat l hZ (ad := ad) (u := u) (a := (b9 : Int)) (n := 3) hflags hNC hO (by omega) (by omega)) X hS (fun q h => hA q (Nat.le_trans hS.1 h)) hHC hl.1 (q_578 hT hW) (q_0 hT hW) (q_576 hT hW) (q_577 hT hW) (by decide +kernel) rfl ⟨Nat.le_of_ble_eq_true rfl, Nat.le_of_ble_eq_true rfl⟩ ⟨by show cells + 2 + 2 + 2 + 2 + 2 + 2 + 2 ≤ 500; omega, by show slots + 12 + 12 + 12 + 12 + 12 + 12 + 12 ≤ 3000; omega⟩ (Nat.le_of_ble_eq_true rfl) dL_asks_238 (fun v H locs hv hfr hS => ?_) rfl
                    obtain ⟨rfl, hHC⟩ := hv
                    refine z_if_lt (a := vB u (b9 : Int) 3) (tgt := 257) hx hb dL_asks_241 (by decide) (by omega) (fun h_241 => False.elim (by omega)) (fun h_241 => ?_)
                    refine lv_aload_n hx hb dL_asks_244 rfl (lv_at hl 4 rfl) ?_
                    refine lv_iload_n hx hb dL_asks_245 rfl (lv_at hl 1 rfl) ?_
                    refine lv_iconst (v := zi (2)) hx hb dL_asks_246 rfl ?_
                    refine z_invSH (n := 3) (B := A) (fun q h => h) (c_L_boat l hZ (ad := ad) (u := u) (a := (b9 : Int)) (n := 2) hflags hNC hO (by omega) (by omega)) X hS (fun q h => hA q (Nat.le_trans hS.1 h)) hHC hl.1 (q_578 hT hW) (q_0 hT hW) (q_576 hT hW) (q_577 hT hW) (by decide +kernel) rfl ⟨Nat.le_of_ble_eq_true rfl, Nat.le_of_ble_eq_true rfl⟩ ⟨by show cells + 2 + 2 + 2 + 2 + 2 + 2 + 2 + 2 ≤ 500; omega, by show slots + 12 + 12 + 12 + 12 + 12 + 12 + 12 + 12 ≤ 3000; omega⟩ (Nat.le_of_ble_eq_true rfl) dL_asks_247 (fun v H locs hv hfr hS => ?_) rfl
                    obtain ⟨rfl, hHC⟩ := hv
                    refine lv_iload_n hx hb dL_asks_250 rfl (lv_at hl 3 rfl) ?_
                    refine lv_bipush (v := zi (20)) hx hb dL_asks_251 rfl ?_
                    refine z_iadd (a := now) (b := 20) hx hb dL_asks_253 ?_
                    refine z_icmp_le (a := vB u (b9 : Int) 2) (b := (now + 20)) (tgt := 259) hx hb dL_asks_254 (by decide) (by omega) (fun h_254 => ?_) (fun h_254 => False.elim (by omega))
                    refine z_iinc (a := (b9 : Int)) (n := 1) (lv' := [(3, .int (zi (((b9 : Int) + 1)))), (4, .int (zi (vB u (b9 : Int) 0))), (2, .int (zi (zrw u (u 21 0).toNat))), (1, .int (zi (now))), (0, .ref (ad 0))]) hx hb dL_asks_259 hl (k := 1) rfl (by decide) rfl (fun ls hl => ?_)
                    refine lv_goto (tgt := 131) hx hb dL_asks_262 (by decide) ?_
                    rw [show (b9 : Int) + 1 = ((b9 + 1 : Nat) : Int) by omega] at hl
                    exact ih (b9 + 1) H locs ls (cells + 2 + 2 + 2 + 2 + 2 + 2 + 2 + 2) (slots + 12 + 12 + 12 + 12 + 12 + 12 + 12 + 12) (by omega) (by omega) (by omega) (by omega) hHC hS (lv_sub hl [0, 2, 3, 4] rfl)
                · skip
                  refine lv_aload_n hx hb dL_asks_201 rfl (lv_at hl 4 rfl) ?_
                  refine lv_iload_n hx hb dL_asks_202 rfl (lv_at hl 1 rfl) ?_
                  refine lv_iconst (v := zi (1)) hx hb dL_asks_203 rfl ?_
                  refine z_invSH (n := 3) (B := A) (fun q h => h) (c_L_boat l hZ (ad := ad) (u := u) (a := (b9 : Int)) (n := 1) hflags hNC hO (by omega) (by omega)) X hS (fun q h => hA q (Nat.le_trans hS.1 h)) hHC hl.1 (q_578 hT hW) (q_0 hT hW) (q_576 hT hW) (q_577 hT hW) (by decide +kernel) rfl ⟨Nat.le_of_ble_eq_true rfl, Nat.le_of_ble_eq_true rfl⟩ ⟨by show cells + 2 + 2 + 2 + 2 ≤ 500; omega, by show slots + 12 + 12 + 12 + 12 ≤ 3000; omega⟩ (Nat.le_of_ble_eq_true rfl) dL_asks_204 (fun v H locs hv hfr hS => ?_) rfl
                  obtain ⟨rfl, hHC⟩ := hv
                  refine lv_iconst (v := zi (-1)) hx hb dL_asks_207 rfl ?_
                  refine z_icmp_ne (a := vB u (b9 : Int) 1) (b := (-1)) (tgt := 257) hx hb dL_asks_208 (by decide) (by omega) (fun h_208 => False.elim (by omega)) (fun h_208 => ?_)
                  refine lv_aload_n hx hb dL_asks_211 rfl (lv_at hl 4 rfl) ?_
                  refine lv_iload_n hx hb dL_asks_212 rfl (lv_at hl 1 rfl) ?_
                  refine lv_iconst (v := zi (1)) hx hb dL_asks_213 rfl ?_
                  refine z_invSH (n := 3) (B := A) (fun q h => h) (c_L_boat l hZ (ad := ad) (u := u) (a := (b9 : Int)) (n := 1) hflags hNC hO (by omega) (by omega)) X hS (fun q h => hA q (Nat.le_trans hS.1 h)) hHC hl.1 (q_578 hT hW) (q_0 hT hW) (q_576 hT hW) (q_577 hT hW) (by decide +kernel) rfl ⟨Nat.le_of_ble_eq_true rfl, Nat.le_of_ble_eq_true rfl⟩ ⟨by show cells + 2 + 2 + 2 + 2 + 2 ≤ 500; omega, by show slots + 12 + 12 + 12 + 12 + 12 ≤ 3000; omega⟩ (Nat.le_of_ble_eq_true rfl) dL_asks_214 (fun v H locs hv hfr hS => ?_) rfl
                  obtain ⟨rfl, hHC⟩ := hv
                  refine z_if_lt (a := vB u (b9 : Int) 1) (tgt := 235) hx hb dL_asks_217 (by decide) (by omega) (fun h_217 => ?_) (fun h_217 => ?_)
                  · skip
                    refine lv_aload_n hx hb dL_asks_235 rfl (lv_at hl 4 rfl) ?_
                    refine lv_iload_n hx hb dL_asks_236 rfl (lv_at hl 1 rfl) ?_
                    refine lv_iconst (v := zi (3)) hx hb dL_asks_237 rfl ?_
                    refine z_invSH (n := 3) (B := A) (fun q h => h) (c_L_boat l hZ (ad := ad) (u := u) (a := (b9 : Int)) (n := 3) hflags hNC hO (by omega) (by omega)) X hS (fun q h => hA q (Nat.le_trans hS.1 h)) hHC hl.1 (q_578 hT hW) (q_0 hT hW) (q_576 hT hW) (q_577 hT hW) (by decide +kernel) rfl ⟨Nat.le_of_ble_eq_true rfl, Nat.le_of_ble_eq_true rfl⟩ ⟨by show cells + 2 + 2 + 2 + 2 + 2 + 2 ≤ 500; omega, by show slots + 12 + 12 + 12 + 12 + 12 + 12 ≤ 3000; omega⟩ (Nat.le_of_ble_eq_true rfl) dL_asks_238 (fun v H locs hv hfr hS => ?_) rfl
                    obtain ⟨rfl, hHC⟩ := hv
                    refine z_if_lt (a := vB u (b9 : Int) 3) (tgt := 257) hx hb dL_asks_241 (by decide) (by omega) (fun h_241 => False.elim (by omega)) (fun h_241 => ?_)
                    refine lv_aload_n hx hb dL_asks_244 rfl (lv_at hl 4 rfl) ?_
                    refine lv_iload_n hx hb dL_asks_245 rfl (lv_at hl 1 rfl) ?_
                    refine lv_iconst (v := zi (2)) hx hb dL_asks_246 rfl ?_
                    refine z_invSH (n := 3) (B := A) (fun q h => h) (c_L_boat l hZ (ad := ad) (u := u) (a := (b9 : Int)) (n := 2) hflags hNC hO (by omega) (by omega)) X hS (fun q h => hA q (Nat.le_trans hS.1 h)) hHC hl.1 (q_578 hT hW) (q_0 hT hW) (q_576 hT hW) (q_577 hT hW) (by decide +kernel) rfl ⟨Nat.le_of_ble_eq_true rfl, Nat.le_of_ble_eq_true rfl⟩ ⟨by show cells + 2 + 2 + 2 + 2 + 2 + 2 + 2 ≤ 500; omega, by show slots + 12 + 12 + 12 + 12 + 12 + 12 + 12 ≤ 3000; omega⟩ (Nat.le_of_ble_eq_true rfl) dL_asks_247 (fun v H locs hv hfr hS => ?_) rfl
                    obtain ⟨rfl, hHC⟩ := hv
                    refine lv_iload_n hx hb dL_asks_250 rfl (lv_at hl 3 rfl) ?_
                    refine lv_bipush (v := zi (20)) hx hb dL_asks_251 rfl ?_
                    refine z_iadd (a := now) (b := 20) hx hb dL_asks_253 ?_
                    refine z_icmp_le (a := vB u (b9 : Int) 2) (b := (now + 20)) (tgt := 259) hx hb dL_asks_254 (by decide) (by omega) (fun h_254 => ?_) (fun h_254 => False.elim (by omega))
                    refine z_iinc (a := (b9 : Int)) (n := 1) (lv' := [(3, .int (zi (((b9 : Int) + 1)))), (4, .int (zi (vB u (b9 : Int) 0))), (2, .int (zi (zrw u (u 21 0).toNat))), (1, .int (zi (now))), (0, .ref (ad 0))]) hx hb dL_asks_259 hl (k := 1) rfl (by decide) rfl (fun ls hl => ?_)
                    refine lv_goto (tgt := 131) hx hb dL_asks_262 (by decide) ?_
                    rw [show (b9 : Int) + 1 = ((b9 + 1 : Nat) : Int) by omega] at hl
                    exact ih (b9 + 1) H locs ls (cells + 2 + 2 + 2 + 2 + 2 + 2 + 2) (slots + 12 + 12 + 12 + 12 + 12 + 12 + 12) (by omega) (by omega) (by omega) (by omega) hHC hS (lv_sub hl [0, 2, 3, 4] rfl)
                  · skip
                    refine lv_aload_n hx hb dL_asks_220 rfl (lv_at hl 4 rfl) ?_
                    refine lv_aload_n hx hb dL_asks_221 rfl (lv_at hl 4 rfl) ?_
                    refine lv_iload_n hx hb dL_asks_222 rfl (lv_at hl 1 rfl) ?_
                    refine lv_iconst (v := zi (1)) hx hb dL_asks_223 rfl ?_
                    refine z_invSH (n := 3) (B := A) (fun q h => h) (c_L_boat l hZ (ad := ad) (u := u) (a := (b9 : Int)) (n := 1) hflags hNC hO (by omega) (by omega)) X hS (fun q h => hA q (Nat.le_trans hS.1 h)) hHC hl.1 (q_578 hT hW) (q_0 hT hW) (q_576 hT hW) (q_577 hT hW) (by decide +kernel) rfl ⟨Nat.le_of_ble_eq_true rfl, Nat.le_of_ble_eq_true rfl⟩ ⟨by show cells + 2 + 2 + 2 + 2 + 2 + 2 ≤ 500; omega, by show slots + 12 + 12 + 12 + 12 + 12 + 12 ≤ 3000; omega⟩ (Nat.le_of_ble_eq_true rfl) dL_asks_224 (fun v H locs hv hfr hS => ?_) rfl
                    obtain ⟨rfl, hHC⟩ := hv
                    refine lv_iconst (v := zi (0)) hx hb dL_asks_227 rfl ?_
                    refine z_invSH (n := 3) (B := A) (fun q h => h) (c_L_call l hZ (ad := ad) (u := u) (a := vB u (b9 : Int) 1) (n := 0) hflags hNC hO (by omega) (by omega)) X hS (fun q h => hA q (Nat.le_trans hS.1 h)) hHC hl.1 (q_585 hT hW) (q_0 hT hW) (q_583 hT hW) (q_584 hT hW) (by decide +kernel) rfl ⟨Nat.le_of_ble_eq_true rfl, Nat.le_of_ble_eq_true rfl⟩ ⟨by show cells + 2 + 2 + 2 + 2 + 2 + 2 + 2 ≤ 500; omega, by show slots + 12 + 12 + 12 + 12 + 12 + 12 + 12 ≤ 3000; omega⟩ (Nat.le_of_ble_eq_true rfl) dL_asks_228 (fun v H locs hv hfr hS => ?_) rfl
                    obtain ⟨rfl, hHC⟩ := hv
                    refine lv_iconst (v := zi (1)) hx hb dL_asks_231 rfl ?_
                    refine z_icmp_ne (a := vC u (vB u (b9 : Int) 1) 0) (b := 1) (tgt := 257) hx hb dL_asks_232 (by decide) (by omega) (fun h_232 => False.elim (by omega)) (fun h_232 => ?_)
                    refine lv_aload_n hx hb dL_asks_235 rfl (lv_at hl 4 rfl) ?_
                    refine lv_iload_n hx hb dL_asks_236 rfl (lv_at hl 1 rfl) ?_
                    refine lv_iconst (v := zi (3)) hx hb dL_asks_237 rfl ?_
                    refine z_invSH (n := 3) (B := A) (fun q h => h) (c_L_boat l hZ (ad := ad) (u := u) (a := (b9 : Int)) (n := 3) hflags hNC hO (by omega) (by omega)) X hS (fun q h => hA q (Nat.le_trans hS.1 h)) hHC hl.1 (q_578 hT hW) (q_0 hT hW) (q_576 hT hW) (q_577 hT hW) (by decide +kernel) rfl ⟨Nat.le_of_ble_eq_true rfl, Nat.le_of_ble_eq_true rfl⟩ ⟨by show cells + 2 + 2 + 2 + 2 + 2 + 2 + 2 + 2 ≤ 500; omega, by show slots + 12 + 12 + 12 + 12 + 12 + 12 + 12 + 12 ≤ 3000; omega⟩ (Nat.le_of_ble_eq_true rfl) dL_asks_238 (fun v H locs hv hfr hS => ?_) rfl
                    obtain ⟨rfl, hHC⟩ := hv
                    refine z_if_lt (a := vB u (b9 : Int) 3) (tgt := 257) hx hb dL_asks_241 (by decide) (by omega) (fun h_241 => False.elim (by omega)) (fun h_241 => ?_)
                    refine lv_aload_n hx hb dL_asks_244 rfl (lv_at hl 4 rfl) ?_
                    refine lv_iload_n hx hb dL_asks_245 rfl (lv_at hl 1 rfl) ?_
                    refine lv_iconst (v := zi (2)) hx hb dL_asks_246 rfl ?_
                    refine z_invSH (n := 3) (B := A) (fun q h => h) (c_L_boat l hZ (ad := ad) (u := u) (a := (b9 : Int)) (n := 2) hflags hNC hO (by omega) (by omega)) X hS (fun q h => hA q (Nat.le_trans hS.1 h)) hHC hl.1 (q_578 hT hW) (q_0 hT hW) (q_576 hT hW) (q_577 hT hW) (by decide +kernel) rfl ⟨Nat.le_of_ble_eq_true rfl, Nat.le_of_ble_eq_true rfl⟩ ⟨by show cells + 2 + 2 + 2 + 2 + 2 + 2 + 2 + 2 + 2 ≤ 500; omega, by show slots + 12 + 12 + 12 + 12 + 12 + 12 + 12 + 12 + 12 ≤ 3000; omega⟩ (Nat.le_of_ble_eq_true rfl) dL_asks_247 (fun v H locs hv hfr hS => ?_) rfl
                    obtain ⟨rfl, hHC⟩ := hv
                    refine lv_iload_n hx hb dL_asks_250 rfl (lv_at hl 3 rfl) ?_
                    refine lv_bipush (v := zi (20)) hx hb dL_asks_251 rfl ?_
                    refine z_iadd (a := now) (b := 20) hx hb dL_asks_253 ?_
                    refine z_icmp_le (a := vB u (b9 : Int) 2) (b := (now + 20)) (tgt := 259) hx hb dL_asks_254 (by decide) (by omega) (fun h_254 => ?_) (fun h_254 => False.elim (by omega))
                    refine z_iinc (a := (b9 : Int)) (n := 1) (lv' := [(3, .int (zi (((b9 : Int) + 1)))), (4, .int (zi (vB u (b9 : Int) 0))), (2, .int (zi (zrw u (u 21 0).toNat))), (1, .int (zi (now))), (0, .ref (ad 0))]) hx hb dL_asks_259 hl (k := 1) rfl (by decide) rfl (fun ls hl => ?_)
                    refine lv_goto (tgt := 131) hx hb dL_asks_262 (by decide) ?_
                    rw [show (b9 : Int) + 1 = ((b9 + 1 : Nat) : Int) by omega] at hl
                    exact ih (b9 + 1) H locs ls (cells + 2 + 2 + 2 + 2 + 2 + 2 + 2 + 2 + 2) (slots + 12 + 12 + 12 + 12 + 12 + 12 + 12 + 12 + 12) (by omega) (by omega) (by omega) (by omega) hHC hS (lv_sub hl [0, 2, 3, 4] rfl)
            · skip
              refine lv_iconst (v := zi (1)) hx hb dL_asks_172 rfl ?_
              refine lv_goto (tgt := 177) hx hb dL_asks_173 (by decide) ?_
              exact False.elim (by omega)
          · skip
            refine lv_iconst (v := zi (1)) hx hb dL_asks_157 rfl ?_
            refine lv_goto (tgt := 162) hx hb dL_asks_158 (by decide) ?_
            refine lv_aload_n hx hb dL_asks_162 rfl (lv_at hl 4 rfl) ?_
            refine lv_iload_n hx hb dL_asks_163 rfl (lv_at hl 1 rfl) ?_
            refine lv_iconst (v := zi (2)) hx hb dL_asks_164 rfl ?_
            refine z_invSH (n := 3) (B := A) (fun q h => h) (c_L_boat l hZ (ad := ad) (u := u) (a := (b9 : Int)) (n := 2) hflags hNC hO (by omega) (by omega)) X hS (fun q h => hA q (Nat.le_trans hS.1 h)) hHC hl.1 (q_578 hT hW) (q_0 hT hW) (q_576 hT hW) (q_577 hT hW) (by decide +kernel) rfl ⟨Nat.le_of_ble_eq_true rfl, Nat.le_of_ble_eq_true rfl⟩ ⟨by show cells + 2 + 2 ≤ 500; omega, by show slots + 12 + 12 ≤ 3000; omega⟩ (Nat.le_of_ble_eq_true rfl) dL_asks_165 (fun v H locs hv hfr hS => ?_) rfl
            obtain ⟨rfl, hHC⟩ := hv
            refine lv_iconst (v := zi (-1)) hx hb dL_asks_168 rfl ?_
            refine z_icmp_ne (a := vB u (b9 : Int) 2) (b := (-1)) (tgt := 176) hx hb dL_asks_169 (by decide) (by omega) (fun h_169 => ?_) (fun h_169 => ?_)
            · skip
              refine lv_iconst (v := zi (0)) hx hb dL_asks_176 rfl ?_
              exact False.elim (by omega)
            · skip
              refine lv_iconst (v := zi (1)) hx hb dL_asks_172 rfl ?_
              refine lv_goto (tgt := 177) hx hb dL_asks_173 (by decide) ?_
              refine z_icmp_ne (a := 1) (b := 1) (tgt := 257) hx hb dL_asks_177 (by decide) (by omega) (fun h_177 => False.elim (by omega)) (fun _ => ?_)
              refine lv_iload hx hb dL_asks_180 (lv_at hl 0 rfl) ?_
              refine z_if_le (a := vB u (b9 : Int) 0) (tgt := 195) hx hb dL_asks_182 (by decide) (by omega) (fun h_182 => ?_) (fun h_182 => ?_)
              · skip
                refine lv_iload hx hb dL_asks_195 (lv_at hl 0 rfl) ?_
                refine lv_iconst (v := zi (1)) hx hb dL_asks_197 rfl ?_
                refine z_icmp_eq (a := vB u (b9 : Int) 0) (b := 1) (tgt := 211) hx hb dL_asks_198 (by decide) (by omega) (fun h_198 => ?_) (fun h_198 => ?_)
                · skip
                  refine lv_aload_n hx hb dL_asks_211 rfl (lv_at hl 4 rfl) ?_
                  refine lv_iload_n hx hb dL_asks_212 rfl (lv_at hl 1 rfl) ?_
                  refine lv_iconst (v := zi (1)) hx hb dL_asks_213 rfl ?_
                  refine z_invSH (n := 3) (B := A) (fun q h => h) (c_L_boat l hZ (ad := ad) (u := u) (a := (b9 : Int)) (n := 1) hflags hNC hO (by omega) (by omega)) X hS (fun q h => hA q (Nat.le_trans hS.1 h)) hHC hl.1 (q_578 hT hW) (q_0 hT hW) (q_576 hT hW) (q_577 hT hW) (by decide +kernel) rfl ⟨Nat.le_of_ble_eq_true rfl, Nat.le_of_ble_eq_true rfl⟩ ⟨by show cells + 2 + 2 + 2 ≤ 500; omega, by show slots + 12 + 12 + 12 ≤ 3000; omega⟩ (Nat.le_of_ble_eq_true rfl) dL_asks_214 (fun v H locs hv hfr hS => ?_) rfl
                  obtain ⟨rfl, hHC⟩ := hv
                  refine z_if_lt (a := vB u (b9 : Int) 1) (tgt := 235) hx hb dL_asks_217 (by decide) (by omega) (fun h_217 => ?_) (fun h_217 => ?_)
                  · skip
                    refine lv_aload_n hx hb dL_asks_235 rfl (lv_at hl 4 rfl) ?_
                    refine lv_iload_n hx hb dL_asks_236 rfl (lv_at hl 1 rfl) ?_
                    refine lv_iconst (v := zi (3)) hx hb dL_asks_237 rfl ?_
                    refine z_invSH (n := 3) (B := A) (fun q h => h) (c_L_boat l hZ (ad := ad) (u := u) (a := (b9 : Int)) (n := 3) hflags hNC hO (by omega) (by omega)) X hS (fun q h => hA q (Nat.le_trans hS.1 h)) hHC hl.1 (q_578 hT hW) (q_0 hT hW) (q_576 hT hW) (q_577 hT hW) (by decide +kernel) rfl ⟨Nat.le_of_ble_eq_true rfl, Nat.le_of_ble_eq_true rfl⟩ ⟨by show cells + 2 + 2 + 2 + 2 ≤ 500; omega, by show slots + 12 + 12 + 12 + 12 ≤ 3000; omega⟩ (Nat.le_of_ble_eq_true rfl) dL_asks_238 (fun v H locs hv hfr hS => ?_) rfl
                    obtain ⟨rfl, hHC⟩ := hv
                    refine z_if_lt (a := vB u (b9 : Int) 3) (tgt := 257) hx hb dL_asks_241 (by decide) (by omega) (fun h_241 => False.elim (by omega)) (fun h_241 => ?_)
                    refine lv_aload_n hx hb dL_asks_244 rfl (lv_at hl 4 rfl) ?_
                    refine lv_iload_n hx hb dL_asks_245 rfl (lv_at hl 1 rfl) ?_
                    refine lv_iconst (v := zi (2)) hx hb dL_asks_246 rfl ?_
                    refine z_invSH (n := 3) (B := A) (fun q h => h) (c_L_boat l hZ (ad := ad) (u := u) (a := (b9 : Int)) (n := 2) hflags hNC hO (by omega) (by omega)) X hS (fun q h => hA q (Nat.le_trans hS.1 h)) hHC hl.1 (q_578 hT hW) (q_0 hT hW) (q_576 hT hW) (q_577 hT hW) (by decide +kernel) rfl ⟨Nat.le_of_ble_eq_true rfl, Nat.le_of_ble_eq_true rfl⟩ ⟨by show cells + 2 + 2 + 2 + 2 + 2 ≤ 500; omega, by show slots + 12 + 12 + 12 + 12 + 12 ≤ 3000; omega⟩ (Nat.le_of_ble_eq_true rfl) dL_asks_247 (fun v H locs hv hfr hS => ?_) rfl
                    obtain ⟨rfl, hHC⟩ := hv
                    refine lv_iload_n hx hb dL_asks_250 rfl (lv_at hl 3 rfl) ?_
                    refine lv_bipush (v := zi (20)) hx hb dL_asks_251 rfl ?_
                    refine z_iadd (a := now) (b := 20) hx hb dL_asks_253 ?_
                    refine z_icmp_le (a := vB u (b9 : Int) 2) (b := (now + 20)) (tgt := 259) hx hb dL_asks_254 (by decide) (by omega) (fun h_254 => ?_) (fun h_254 => False.elim (by omega))
                    refine z_iinc (a := (b9 : Int)) (n := 1) (lv' := [(3, .int (zi (((b9 : Int) + 1)))), (4, .int (zi (vB u (b9 : Int) 0))), (2, .int (zi (zrw u (u 21 0).toNat))), (1, .int (zi (now))), (0, .ref (ad 0))]) hx hb dL_asks_259 hl (k := 1) rfl (by decide) rfl (fun ls hl => ?_)
                    refine lv_goto (tgt := 131) hx hb dL_asks_262 (by decide) ?_
                    rw [show (b9 : Int) + 1 = ((b9 + 1 : Nat) : Int) by omega] at hl
                    exact ih (b9 + 1) H locs ls (cells + 2 + 2 + 2 + 2 + 2) (slots + 12 + 12 + 12 + 12 + 12) (by omega) (by omega) (by omega) (by omega) hHC hS (lv_sub hl [0, 2, 3, 4] rfl)
                  · skip
                    refine lv_aload_n hx hb dL_asks_220 rfl (lv_at hl 4 rfl) ?_
                    refine lv_aload_n hx hb dL_asks_221 rfl (lv_at hl 4 rfl) ?_
                    refine lv_iload_n hx hb dL_asks_222 rfl (lv_at hl 1 rfl) ?_
                    refine lv_iconst (v := zi (1)) hx hb dL_asks_223 rfl ?_
                    refine z_invSH (n := 3) (B := A) (fun q h => h) (c_L_boat l hZ (ad := ad) (u := u) (a := (b9 : Int)) (n := 1) hflags hNC hO (by omega) (by omega)) X hS (fun q h => hA q (Nat.le_trans hS.1 h)) hHC hl.1 (q_578 hT hW) (q_0 hT hW) (q_576 hT hW) (q_577 hT hW) (by decide +kernel) rfl ⟨Nat.le_of_ble_eq_true rfl, Nat.le_of_ble_eq_true rfl⟩ ⟨by show cells + 2 + 2 + 2 + 2 ≤ 500; omega, by show slots + 12 + 12 + 12 + 12 ≤ 3000; omega⟩ (Nat.le_of_ble_eq_true rfl) dL_asks_224 (fun v H locs hv hfr hS => ?_) rfl
                    obtain ⟨rfl, hHC⟩ := hv
                    refine lv_iconst (v := zi (0)) hx hb dL_asks_227 rfl ?_
                    refine z_invSH (n := 3) (B := A) (fun q h => h) (c_L_call l hZ (ad := ad) (u := u) (a := vB u (b9 : Int) 1) (n := 0) hflags hNC hO (by omega) (by omega)) X hS (fun q h => hA q (Nat.le_trans hS.1 h)) hHC hl.1 (q_585 hT hW) (q_0 hT hW) (q_583 hT hW) (q_584 hT hW) (by decide +kernel) rfl ⟨Nat.le_of_ble_eq_true rfl, Nat.le_of_ble_eq_true rfl⟩ ⟨by show cells + 2 + 2 + 2 + 2 + 2 ≤ 500; omega, by show slots + 12 + 12 + 12 + 12 + 12 ≤ 3000; omega⟩ (Nat.le_of_ble_eq_true rfl) dL_asks_228 (fun v H locs hv hfr hS => ?_) rfl
                    obtain ⟨rfl, hHC⟩ := hv
                    refine lv_iconst (v := zi (1)) hx hb dL_asks_231 rfl ?_
                    refine z_icmp_ne (a := vC u (vB u (b9 : Int) 1) 0) (b := 1) (tgt := 257) hx hb dL_asks_232 (by decide) (by omega) (fun h_232 => False.elim (by omega)) (fun h_232 => ?_)
                    refine lv_aload_n hx hb dL_asks_235 rfl (lv_at hl 4 rfl) ?_
                    refine lv_iload_n hx hb dL_asks_236 rfl (lv_at hl 1 rfl) ?_
                    refine lv_iconst (v := zi (3)) hx hb dL_asks_237 rfl ?_
                    refine z_invSH (n := 3) (B := A) (fun q h => h) (c_L_boat l hZ (ad := ad) (u := u) (a := (b9 : Int)) (n := 3) hflags hNC hO (by omega) (by omega)) X hS (fun q h => hA q (Nat.le_trans hS.1 h)) hHC hl.1 (q_578 hT hW) (q_0 hT hW) (q_576 hT hW) (q_577 hT hW) (by decide +kernel) rfl ⟨Nat.le_of_ble_eq_true rfl, Nat.le_of_ble_eq_true rfl⟩ ⟨by show cells + 2 + 2 + 2 + 2 + 2 + 2 ≤ 500; omega, by show slots + 12 + 12 + 12 + 12 + 12 + 12 ≤ 3000; omega⟩ (Nat.le_of_ble_eq_true rfl) dL_asks_238 (fun v H locs hv hfr hS => ?_) rfl
                    obtain ⟨rfl, hHC⟩ := hv
                    refine z_if_lt (a := vB u (b9 : Int) 3) (tgt := 257) hx hb dL_asks_241 (by decide) (by omega) (fun h_241 => False.elim (by omega)) (fun h_241 => ?_)
                    refine lv_aload_n hx hb dL_asks_244 rfl (lv_at hl 4 rfl) ?_
                    refine lv_iload_n hx hb dL_asks_245 rfl (lv_at hl 1 rfl) ?_
                    refine lv_iconst (v := zi (2)) hx hb dL_asks_246 rfl ?_
                    refine z_invSH (n := 3) (B := A) (fun q h => h) (c_L_boat l hZ (ad := ad) (u := u) (a := (b9 : Int)) (n := 2) hflags hNC hO (by omega) (by omega)) X hS (fun q h => hA q (Nat.le_trans hS.1 h)) hHC hl.1 (q_578 hT hW) (q_0 hT hW) (q_576 hT hW) (q_577 hT hW) (by decide +kernel) rfl ⟨Nat.le_of_ble_eq_true rfl, Nat.le_of_ble_eq_true rfl⟩ ⟨by show cells + 2 + 2 + 2 + 2 + 2 + 2 + 2 ≤ 500; omega, by show slots + 12 + 12 + 12 + 12 + 12 + 12 + 12 ≤ 3000; omega⟩ (Nat.le_of_ble_eq_true rfl) dL_asks_247 (fun v H locs hv hfr hS => ?_) rfl
                    obtain ⟨rfl, hHC⟩ := hv
                    refine lv_iload_n hx hb dL_asks_250 rfl (lv_at hl 3 rfl) ?_
                    refine lv_bipush (v := zi (20)) hx hb dL_asks_251 rfl ?_
                    refine z_iadd (a := now) (b := 20) hx hb dL_asks_253 ?_
                    refine z_icmp_le (a := vB u (b9 : Int) 2) (b := (now + 20)) (tgt := 259) hx hb dL_asks_254 (by decide) (by omega) (fun h_254 => ?_) (fun h_254 => False.elim (by omega))
                    refine z_iinc (a := (b9 : Int)) (n := 1) (lv' := [(3, .int (zi (((b9 : Int) + 1)))), (4, .int (zi (vB u (b9 : Int) 0))), (2, .int (zi (zrw u (u 21 0).toNat))), (1, .int (zi (now))), (0, .ref (ad 0))]) hx hb dL_asks_259 hl (k := 1) rfl (by decide) rfl (fun ls hl => ?_)
                    refine lv_goto (tgt := 131) hx hb dL_asks_262 (by decide) ?_
                    rw [show (b9 : Int) + 1 = ((b9 + 1 : Nat) : Int) by omega] at hl
                    exact ih (b9 + 1) H locs ls (cells + 2 + 2 + 2 + 2 + 2 + 2 + 2) (slots + 12 + 12 + 12 + 12 + 12 + 12 + 12) (by omega) (by omega) (by omega) (by omega) hHC hS (lv_sub hl [0, 2, 3, 4] rfl)
                · skip
                  refine lv_aload_n hx hb dL_asks_201 rfl (lv_at hl 4 rfl) ?_
                  refine lv_iload_n hx hb dL_asks_202 rfl (lv_at hl 1 rfl) ?_
                  refine lv_iconst (v := zi (1)) hx hb dL_asks_203 rfl ?_
                  refine z_invSH (n := 3) (B := A) (fun q h => h) (c_L_boat l hZ (ad := ad) (u := u) (a := (b9 : Int)) (n := 1) hflags hNC hO (by omega) (by omega)) X hS (fun q h => hA q (Nat.le_trans hS.1 h)) hHC hl.1 (q_578 hT hW) (q_0 hT hW) (q_576 hT hW) (q_577 hT hW) (by decide +kernel) rfl ⟨Nat.le_of_ble_eq_true rfl, Nat.le_of_ble_eq_true rfl⟩ ⟨by show cells + 2 + 2 + 2 ≤ 500; omega, by show slots + 12 + 12 + 12 ≤ 3000; omega⟩ (Nat.le_of_ble_eq_true rfl) dL_asks_204 (fun v H locs hv hfr hS => ?_) rfl
                  obtain ⟨rfl, hHC⟩ := hv
                  refine lv_iconst (v := zi (-1)) hx hb dL_asks_207 rfl ?_
                  refine z_icmp_ne (a := vB u (b9 : Int) 1) (b := (-1)) (tgt := 257) hx hb dL_asks_208 (by decide) (by omega) (fun h_208 => False.elim (by omega)) (fun h_208 => ?_)
                  refine lv_aload_n hx hb dL_asks_211 rfl (lv_at hl 4 rfl) ?_
                  refine lv_iload_n hx hb dL_asks_212 rfl (lv_at hl 1 rfl) ?_
                  refine lv_iconst (v := zi (1)) hx hb dL_asks_213 rfl ?_
                  refine z_invSH (n := 3) (B := A) (fun q h => h) (c_L_boat l hZ (ad := ad) (u := u) (a := (b9 : Int)) (n := 1) hflags hNC hO (by omega) (by omega)) X hS (fun q h => hA q (Nat.le_trans hS.1 h)) hHC hl.1 (q_578 hT hW) (q_0 hT hW) (q_576 hT hW) (q_577 hT hW) (by decide +kernel) rfl ⟨Nat.le_of_ble_eq_true rfl, Nat.le_of_ble_eq_true rfl⟩ ⟨by show cells + 2 + 2 + 2 + 2 ≤ 500; omega, by show slots + 12 + 12 + 12 + 12 ≤ 3000; omega⟩ (Nat.le_of_ble_eq_true rfl) dL_asks_214 (fun v H locs hv hfr hS => ?_) rfl
                  obtain ⟨rfl, hHC⟩ := hv
                  refine z_if_lt (a := vB u (b9 : Int) 1) (tgt := 235) hx hb dL_asks_217 (by decide) (by omega) (fun h_217 => ?_) (fun h_217 => ?_)
                  · skip
                    refine lv_aload_n hx hb dL_asks_235 rfl (lv_at hl 4 rfl) ?_
                    refine lv_iload_n hx hb dL_asks_236 rfl (lv_at hl 1 rfl) ?_
                    refine lv_iconst (v := zi (3)) hx hb dL_asks_237 rfl ?_
                    refine z_invSH (n := 3) (B := A) (fun q h => h) (c_L_boat l hZ (ad := ad) (u := u) (a := (b9 : Int)) (n := 3) hflags hNC hO (by omega) (by omega)) X hS (fun q h => hA q (Nat.le_trans hS.1 h)) hHC hl.1 (q_578 hT hW) (q_0 hT hW) (q_576 hT hW) (q_577 hT hW) (by decide +kernel) rfl ⟨Nat.le_of_ble_eq_true rfl, Nat.le_of_ble_eq_true rfl⟩ ⟨by show cells + 2 + 2 + 2 + 2 + 2 ≤ 500; omega, by show slots + 12 + 12 + 12 + 12 + 12 ≤ 3000; omega⟩ (Nat.le_of_ble_eq_true rfl) dL_asks_238 (fun v H locs hv hfr hS => ?_) rfl
                    obtain ⟨rfl, hHC⟩ := hv
                    refine z_if_lt (a := vB u (b9 : Int) 3) (tgt := 257) hx hb dL_asks_241 (by decide) (by omega) (fun h_241 => False.elim (by omega)) (fun h_241 => ?_)
                    refine lv_aload_n hx hb dL_asks_244 rfl (lv_at hl 4 rfl) ?_
                    refine lv_iload_n hx hb dL_asks_245 rfl (lv_at hl 1 rfl) ?_
                    refine lv_iconst (v := zi (2)) hx hb dL_asks_246 rfl ?_
                    refine z_invSH (n := 3) (B := A) (fun q h => h) (c_L_boat l hZ (ad := ad) (u := u) (a := (b9 : Int)) (n := 2) hflags hNC hO (by omega) (by omega)) X hS (fun q h => hA q (Nat.le_trans hS.1 h)) hHC hl.1 (q_578 hT hW) (q_0 hT hW) (q_576 hT hW) (q_577 hT hW) (by decide +kernel) rfl ⟨Nat.le_of_ble_eq_true rfl, Nat.le_of_ble_eq_true rfl⟩ ⟨by show cells + 2 + 2 + 2 + 2 + 2 + 2 ≤ 500; omega, by show slots + 12 + 12 + 12 + 12 + 12 + 12 ≤ 3000; omega⟩ (Nat.le_of_ble_eq_true rfl) dL_asks_247 (fun v H locs hv hfr hS => ?_) rfl
                    obtain ⟨rfl, hHC⟩ := hv
                    refine lv_iload_n hx hb dL_asks_250 rfl (lv_at hl 3 rfl) ?_
                    refine lv_bipush (v := zi (20)) hx hb dL_asks_251 rfl ?_
                    refine z_iadd (a := now) (b := 20) hx hb dL_asks_253 ?_
                    refine z_icmp_le (a := vB u (b9 : Int) 2) (b := (now + 20)) (tgt := 259) hx hb dL_asks_254 (by decide) (by omega) (fun h_254 => ?_) (fun h_254 => False.elim (by omega))
                    refine z_iinc (a := (b9 : Int)) (n := 1) (lv' := [(3, .int (zi (((b9 : Int) + 1)))), (4, .int (zi (vB u (b9 : Int) 0))), (2, .int (zi (zrw u (u 21 0).toNat))), (1, .int (zi (now))), (0, .ref (ad 0))]) hx hb dL_asks_259 hl (k := 1) rfl (by decide) rfl (fun ls hl => ?_)
                    refine lv_goto (tgt := 131) hx hb dL_asks_262 (by decide) ?_
                    rw [show (b9 : Int) + 1 = ((b9 + 1 : Nat) : Int) by omega] at hl
                    exact ih (b9 + 1) H locs ls (cells + 2 + 2 + 2 + 2 + 2 + 2) (slots + 12 + 12 + 12 + 12 + 12 + 12) (by omega) (by omega) (by omega) (by omega) hHC hS (lv_sub hl [0, 2, 3, 4] rfl)
                  · skip
                    refine lv_aload_n hx hb dL_asks_220 rfl (lv_at hl 4 rfl) ?_
                    refine lv_aload_n hx hb dL_asks_221 rfl (lv_at hl 4 rfl) ?_
                    refine lv_iload_n hx hb dL_asks_222 rfl (lv_at hl 1 rfl) ?_
                    refine lv_iconst (v := zi (1)) hx hb dL_asks_223 rfl ?_
                    refine z_invSH (n := 3) (B := A) (fun q h => h) (c_L_boat l hZ (ad := ad) (u := u) (a := (b9 : Int)) (n := 1) hflags hNC hO (by omega) (by omega)) X hS (fun q h => hA q (Nat.le_trans hS.1 h)) hHC hl.1 (q_578 hT hW) (q_0 hT hW) (q_576 hT hW) (q_577 hT hW) (by decide +kernel) rfl ⟨Nat.le_of_ble_eq_true rfl, Nat.le_of_ble_eq_true rfl⟩ ⟨by show cells + 2 + 2 + 2 + 2 + 2 ≤ 500; omega, by show slots + 12 + 12 + 12 + 12 + 12 ≤ 3000; omega⟩ (Nat.le_of_ble_eq_true rfl) dL_asks_224 (fun v H locs hv hfr hS => ?_) rfl
                    obtain ⟨rfl, hHC⟩ := hv
                    refine lv_iconst (v := zi (0)) hx hb dL_asks_227 rfl ?_
                    refine z_invSH (n := 3) (B := A) (fun q h => h) (c_L_call l hZ (ad := ad) (u := u) (a := vB u (b9 : Int) 1) (n := 0) hflags hNC hO (by omega) (by omega)) X hS (fun q h => hA q (Nat.le_trans hS.1 h)) hHC hl.1 (q_585 hT hW) (q_0 hT hW) (q_583 hT hW) (q_584 hT hW) (by decide +kernel) rfl ⟨Nat.le_of_ble_eq_true rfl, Nat.le_of_ble_eq_true rfl⟩ ⟨by show cells + 2 + 2 + 2 + 2 + 2 + 2 ≤ 500; omega, by show slots + 12 + 12 + 12 + 12 + 12 + 12 ≤ 3000; omega⟩ (Nat.le_of_ble_eq_true rfl) dL_asks_228 (fun v H locs hv hfr hS => ?_) rfl
                    obtain ⟨rfl, hHC⟩ := hv
                    refine lv_iconst (v := zi (1)) hx hb dL_asks_231 rfl ?_
                    refine z_icmp_ne (a := vC u (vB u (b9 : Int) 1) 0) (b := 1) (tgt := 257) hx hb dL_asks_232 (by decide) (by omega) (fun h_232 => False.elim (by omega)) (fun h_232 => ?_)
                    refine lv_aload_n hx hb dL_asks_235 rfl (lv_at hl 4 rfl) ?_
                    refine lv_iload_n hx hb dL_asks_236 rfl (lv_at hl 1 rfl) ?_
                    refine lv_iconst (v := zi (3)) hx hb dL_asks_237 rfl ?_
                    refine z_invSH (n := 3) (B := A) (fun q h => h) (c_L_boat l hZ (ad := ad) (u := u) (a := (b9 : Int)) (n := 3) hflags hNC hO (by omega) (by omega)) X hS (fun q h => hA q (Nat.le_trans hS.1 h)) hHC hl.1 (q_578 hT hW) (q_0 hT hW) (q_576 hT hW) (q_577 hT hW) (by decide +kernel) rfl ⟨Nat.le_of_ble_eq_true rfl, Nat.le_of_ble_eq_true rfl⟩ ⟨by show cells + 2 + 2 + 2 + 2 + 2 + 2 + 2 ≤ 500; omega, by show slots + 12 + 12 + 12 + 12 + 12 + 12 + 12 ≤ 3000; omega⟩ (Nat.le_of_ble_eq_true rfl) dL_asks_238 (fun v H locs hv hfr hS => ?_) rfl
                    obtain ⟨rfl, hHC⟩ := hv
                    refine z_if_lt (a := vB u (b9 : Int) 3) (tgt := 257) hx hb dL_asks_241 (by decide) (by omega) (fun h_241 => False.elim (by omega)) (fun h_241 => ?_)
                    refine lv_aload_n hx hb dL_asks_244 rfl (lv_at hl 4 rfl) ?_
                    refine lv_iload_n hx hb dL_asks_245 rfl (lv_at hl 1 rfl) ?_
                    refine lv_iconst (v := zi (2)) hx hb dL_asks_246 rfl ?_
                    refine z_invSH (n := 3) (B := A) (fun q h => h) (c_L_boat l hZ (ad := ad) (u := u) (a := (b9 : Int)) (n := 2) hflags hNC hO (by omega) (by omega)) X hS (fun q h => hA q (Nat.le_trans hS.1 h)) hHC hl.1 (q_578 hT hW) (q_0 hT hW) (q_576 hT hW) (q_577 hT hW) (by decide +kernel) rfl ⟨Nat.le_of_ble_eq_true rfl, Nat.le_of_ble_eq_true rfl⟩ ⟨by show cells + 2 + 2 + 2 + 2 + 2 + 2 + 2 + 2 ≤ 500; omega, by show slots + 12 + 12 + 12 + 12 + 12 + 12 + 12 + 12 ≤ 3000; omega⟩ (Nat.le_of_ble_eq_true rfl) dL_asks_247 (fun v H locs hv hfr hS => ?_) rfl
                    obtain ⟨rfl, hHC⟩ := hv
                    refine lv_iload_n hx hb dL_asks_250 rfl (lv_at hl 3 rfl) ?_
                    refine lv_bipush (v := zi (20)) hx hb dL_asks_251 rfl ?_
                    refine z_iadd (a := now) (b := 20) hx hb dL_asks_253 ?_
                    refine z_icmp_le (a := vB u (b9 : Int) 2) (b := (now + 20)) (tgt := 259) hx hb dL_asks_254 (by decide) (by omega) (fun h_254 => ?_) (fun h_254 => False.elim (by omega))
                    refine z_iinc (a := (b9 : Int)) (n := 1) (lv' := [(3, .int (zi (((b9 : Int) + 1)))), (4, .int (zi (vB u (b9 : Int) 0))), (2, .int (zi (zrw u (u 21 0).toNat))), (1, .int (zi (now))), (0, .ref (ad 0))]) hx hb dL_asks_259 hl (k := 1) rfl (by decide) rfl (fun ls hl => ?_)
                    refine lv_goto (tgt := 131) hx hb dL_asks_262 (by decide) ?_
                    rw [show (b9 : Int) + 1 = ((b9 + 1 : Nat) : Int) by omega] at hl
                    exact ih (b9 + 1) H locs ls (cells + 2 + 2 + 2 + 2 + 2 + 2 + 2 + 2) (slots + 12 + 12 + 12 + 12 + 12 + 12 + 12 + 12) (by omega) (by omega) (by omega) (by omega) hHC hS (lv_sub hl [0, 2, 3, 4] rfl)
              · skip
                refine lv_aload_n hx hb dL_asks_185 rfl (lv_at hl 4 rfl) ?_
                refine lv_iload_n hx hb dL_asks_186 rfl (lv_at hl 1 rfl) ?_
                refine lv_iconst (v := zi (2)) hx hb dL_asks_187 rfl ?_
                refine z_invSH (n := 3) (B := A) (fun q h => h) (c_L_boat l hZ (ad := ad) (u := u) (a := (b9 : Int)) (n := 2) hflags hNC hO (by omega) (by omega)) X hS (fun q h => hA q (Nat.le_trans hS.1 h)) hHC hl.1 (q_578 hT hW) (q_0 hT hW) (q_576 hT hW) (q_577 hT hW) (by decide +kernel) rfl ⟨Nat.le_of_ble_eq_true rfl, Nat.le_of_ble_eq_true rfl⟩ ⟨by show cells + 2 + 2 + 2 ≤ 500; omega, by show slots + 12 + 12 + 12 ≤ 3000; omega⟩ (Nat.le_of_ble_eq_true rfl) dL_asks_188 (fun v H locs hv hfr hS => ?_) rfl
                obtain ⟨rfl, hHC⟩ := hv
                refine lv_iload_n hx hb dL_asks_191 rfl (lv_at hl 3 rfl) ?_
                refine z_icmp_le (a := vB u (b9 : Int) 2) (b := now) (tgt := 257) hx hb dL_asks_192 (by decide) (by omega) (fun h_192 => False.elim (by omega)) (fun h_192 => ?_)
                refine lv_iload hx hb dL_asks_195 (lv_at hl 0 rfl) ?_
                refine lv_iconst (v := zi (1)) hx hb dL_asks_197 rfl ?_
                refine z_icmp_eq (a := vB u (b9 : Int) 0) (b := 1) (tgt := 211) hx hb dL_asks_198 (by decide) (by omega) (fun h_198 => ?_) (fun h_198 => ?_)
                · skip
                  refine lv_aload_n hx hb dL_asks_211 rfl (lv_at hl 4 rfl) ?_
                  refine lv_iload_n hx hb dL_asks_212 rfl (lv_at hl 1 rfl) ?_
                  refine lv_iconst (v := zi (1)) hx hb dL_asks_213 rfl ?_
                  refine z_invSH (n := 3) (B := A) (fun q h => h) (c_L_boat l hZ (ad := ad) (u := u) (a := (b9 : Int)) (n := 1) hflags hNC hO (by omega) (by omega)) X hS (fun q h => hA q (Nat.le_trans hS.1 h)) hHC hl.1 (q_578 hT hW) (q_0 hT hW) (q_576 hT hW) (q_577 hT hW) (by decide +kernel) rfl ⟨Nat.le_of_ble_eq_true rfl, Nat.le_of_ble_eq_true rfl⟩ ⟨by show cells + 2 + 2 + 2 + 2 ≤ 500; omega, by show slots + 12 + 12 + 12 + 12 ≤ 3000; omega⟩ (Nat.le_of_ble_eq_true rfl) dL_asks_214 (fun v H locs hv hfr hS => ?_) rfl
                  obtain ⟨rfl, hHC⟩ := hv
                  refine z_if_lt (a := vB u (b9 : Int) 1) (tgt := 235) hx hb dL_asks_217 (by decide) (by omega) (fun h_217 => ?_) (fun h_217 => ?_)
                  · skip
                    refine lv_aload_n hx hb dL_asks_235 rfl (lv_at hl 4 rfl) ?_
                    refine lv_iload_n hx hb dL_asks_236 rfl (lv_at hl 1 rfl) ?_
                    refine lv_iconst (v := zi (3)) hx hb dL_asks_237 rfl ?_
                    refine z_invSH (n := 3) (B := A) (fun q h => h) (c_L_boat l hZ (ad := ad) (u := u) (a := (b9 : Int)) (n := 3) hflags hNC hO (by omega) (by omega)) X hS (fun q h => hA q (Nat.le_trans hS.1 h)) hHC hl.1 (q_578 hT hW) (q_0 hT hW) (q_576 hT hW) (q_577 hT hW) (by decide +kernel) rfl ⟨Nat.le_of_ble_eq_true rfl, Nat.le_of_ble_eq_true rfl⟩ ⟨by show cells + 2 + 2 + 2 + 2 + 2 ≤ 500; omega, by show slots + 12 + 12 + 12 + 12 + 12 ≤ 3000; omega⟩ (Nat.le_of_ble_eq_true rfl) dL_asks_238 (fun v H locs hv hfr hS => ?_) rfl
                    obtain ⟨rfl, hHC⟩ := hv
                    refine z_if_lt (a := vB u (b9 : Int) 3) (tgt := 257) hx hb dL_asks_241 (by decide) (by omega) (fun h_241 => False.elim (by omega)) (fun h_241 => ?_)
                    refine lv_aload_n hx hb dL_asks_244 rfl (lv_at hl 4 rfl) ?_
                    refine lv_iload_n hx hb dL_asks_245 rfl (lv_at hl 1 rfl) ?_
                    refine lv_iconst (v := zi (2)) hx hb dL_asks_246 rfl ?_
                    refine z_invSH (n := 3) (B := A) (fun q h => h) (c_L_boat l hZ (ad := ad) (u := u) (a := (b9 : Int)) (n := 2) hflags hNC hO (by omega) (by omega)) X hS (fun q h => hA q (Nat.le_trans hS.1 h)) hHC hl.1 (q_578 hT hW) (q_0 hT hW) (q_576 hT hW) (q_577 hT hW) (by decide +kernel) rfl ⟨Nat.le_of_ble_eq_true rfl, Nat.le_of_ble_eq_true rfl⟩ ⟨by show cells + 2 + 2 + 2 + 2 + 2 + 2 ≤ 500; omega, by show slots + 12 + 12 + 12 + 12 + 12 + 12 ≤ 3000; omega⟩ (Nat.le_of_ble_eq_true rfl) dL_asks_247 (fun v H locs hv hfr hS => ?_) rfl
                    obtain ⟨rfl, hHC⟩ := hv
                    refine lv_iload_n hx hb dL_asks_250 rfl (lv_at hl 3 rfl) ?_
                    refine lv_bipush (v := zi (20)) hx hb dL_asks_251 rfl ?_
                    refine z_iadd (a := now) (b := 20) hx hb dL_asks_253 ?_
                    refine z_icmp_le (a := vB u (b9 : Int) 2) (b := (now + 20)) (tgt := 259) hx hb dL_asks_254 (by decide) (by omega) (fun h_254 => ?_) (fun h_254 => False.elim (by omega))
                    refine z_iinc (a := (b9 : Int)) (n := 1) (lv' := [(3, .int (zi (((b9 : Int) + 1)))), (4, .int (zi (vB u (b9 : Int) 0))), (2, .int (zi (zrw u (u 21 0).toNat))), (1, .int (zi (now))), (0, .ref (ad 0))]) hx hb dL_asks_259 hl (k := 1) rfl (by decide) rfl (fun ls hl => ?_)
                    refine lv_goto (tgt := 131) hx hb dL_asks_262 (by decide) ?_
                    rw [show (b9 : Int) + 1 = ((b9 + 1 : Nat) : Int) by omega] at hl
                    exact ih (b9 + 1) H locs ls (cells + 2 + 2 + 2 + 2 + 2 + 2) (slots + 12 + 12 + 12 + 12 + 12 + 12) (by omega) (by omega) (by omega) (by omega) hHC hS (lv_sub hl [0, 2, 3, 4] rfl)
                  · skip
                    refine lv_aload_n hx hb dL_asks_220 rfl (lv_at hl 4 rfl) ?_
                    refine lv_aload_n hx hb dL_asks_221 rfl (lv_at hl 4 rfl) ?_
                    refine lv_iload_n hx hb dL_asks_222 rfl (lv_at hl 1 rfl) ?_
                    refine lv_iconst (v := zi (1)) hx hb dL_asks_223 rfl ?_
                    refine z_invSH (n := 3) (B := A) (fun q h => h) (c_L_boat l hZ (ad := ad) (u := u) (a := (b9 : Int)) (n := 1) hflags hNC hO (by omega) (by omega)) X hS (fun q h => hA q (Nat.le_trans hS.1 h)) hHC hl.1 (q_578 hT hW) (q_0 hT hW) (q_576 hT hW) (q_577 hT hW) (by decide +kernel) rfl ⟨Nat.le_of_ble_eq_true rfl, Nat.le_of_ble_eq_true rfl⟩ ⟨by show cells + 2 + 2 + 2 + 2 + 2 ≤ 500; omega, by show slots + 12 + 12 + 12 + 12 + 12 ≤ 3000; omega⟩ (Nat.le_of_ble_eq_true rfl) dL_asks_224 (fun v H locs hv hfr hS => ?_) rfl
                    obtain ⟨rfl, hHC⟩ := hv
                    refine lv_iconst (v := zi (0)) hx hb dL_asks_227 rfl ?_
                    refine z_invSH (n := 3) (B := A) (fun q h => h) (c_L_call l hZ (ad := ad) (u := u) (a := vB u (b9 : Int) 1) (n := 0) hflags hNC hO (by omega) (by omega)) X hS (fun q h => hA q (Nat.le_trans hS.1 h)) hHC hl.1 (q_585 hT hW) (q_0 hT hW) (q_583 hT hW) (q_584 hT hW) (by decide +kernel) rfl ⟨Nat.le_of_ble_eq_true rfl, Nat.le_of_ble_eq_true rfl⟩ ⟨by show cells + 2 + 2 + 2 + 2 + 2 + 2 ≤ 500; omega, by show slots + 12 + 12 + 12 + 12 + 12 + 12 ≤ 3000; omega⟩ (Nat.le_of_ble_eq_true rfl) dL_asks_228 (fun v H locs hv hfr hS => ?_) rfl
                    obtain ⟨rfl, hHC⟩ := hv
                    refine lv_iconst (v := zi (1)) hx hb dL_asks_231 rfl ?_
                    refine z_icmp_ne (a := vC u (vB u (b9 : Int) 1) 0) (b := 1) (tgt := 257) hx hb dL_asks_232 (by decide) (by omega) (fun h_232 => False.elim (by omega)) (fun h_232 => ?_)
                    refine lv_aload_n hx hb dL_asks_235 rfl (lv_at hl 4 rfl) ?_
                    refine lv_iload_n hx hb dL_asks_236 rfl (lv_at hl 1 rfl) ?_
                    refine lv_iconst (v := zi (3)) hx hb dL_asks_237 rfl ?_
                    refine z_invSH (n := 3) (B := A) (fun q h => h) (c_L_boat l hZ (ad := ad) (u := u) (a := (b9 : Int)) (n := 3) hflags hNC hO (by omega) (by omega)) X hS (fun q h => hA q (Nat.le_trans hS.1 h)) hHC hl.1 (q_578 hT hW) (q_0 hT hW) (q_576 hT hW) (q_577 hT hW) (by decide +kernel) rfl ⟨Nat.le_of_ble_eq_true rfl, Nat.le_of_ble_eq_true rfl⟩ ⟨by show cells + 2 + 2 + 2 + 2 + 2 + 2 + 2 ≤ 500; omega, by show slots + 12 + 12 + 12 + 12 + 12 + 12 + 12 ≤ 3000; omega⟩ (Nat.le_of_ble_eq_true rfl) dL_asks_238 (fun v H locs hv hfr hS => ?_) rfl
                    obtain ⟨rfl, hHC⟩ := hv
                    refine z_if_lt (a := vB u (b9 : Int) 3) (tgt := 257) hx hb dL_asks_241 (by decide) (by omega) (fun h_241 => False.elim (by omega)) (fun h_241 => ?_)
                    refine lv_aload_n hx hb dL_asks_244 rfl (lv_at hl 4 rfl) ?_
                    refine lv_iload_n hx hb dL_asks_245 rfl (lv_at hl 1 rfl) ?_
                    refine lv_iconst (v := zi (2)) hx hb dL_asks_246 rfl ?_
                    refine z_invSH (n := 3) (B := A) (fun q h => h) (c_L_boat l hZ (ad := ad) (u := u) (a := (b9 : Int)) (n := 2) hflags hNC hO (by omega) (by omega)) X hS (fun q h => hA q (Nat.le_trans hS.1 h)) hHC hl.1 (q_578 hT hW) (q_0 hT hW) (q_576 hT hW) (q_577 hT hW) (by decide +kernel) rfl ⟨Nat.le_of_ble_eq_true rfl, Nat.le_of_ble_eq_true rfl⟩ ⟨by show cells + 2 + 2 + 2 + 2 + 2 + 2 + 2 + 2 ≤ 500; omega, by show slots + 12 + 12 + 12 + 12 + 12 + 12 + 12 + 12 ≤ 3000; omega⟩ (Nat.le_of_ble_eq_true rfl) dL_asks_247 (fun v H locs hv hfr hS => ?_) rfl
                    obtain ⟨rfl, hHC⟩ := hv
                    refine lv_iload_n hx hb dL_asks_250 rfl (lv_at hl 3 rfl) ?_
                    refine lv_bipush (v := zi (20)) hx hb dL_asks_251 rfl ?_
                    refine z_iadd (a := now) (b := 20) hx hb dL_asks_253 ?_
                    refine z_icmp_le (a := vB u (b9 : Int) 2) (b := (now + 20)) (tgt := 259) hx hb dL_asks_254 (by decide) (by omega) (fun h_254 => ?_) (fun h_254 => False.elim (by omega))
                    refine z_iinc (a := (b9 : Int)) (n := 1) (lv' := [(3, .int (zi (((b9 : Int) + 1)))), (4, .int (zi (vB u (b9 : Int) 0))), (2, .int (zi (zrw u (u 21 0).toNat))), (1, .int (zi (now))), (0, .ref (ad 0))]) hx hb dL_asks_259 hl (k := 1) rfl (by decide) rfl (fun ls hl => ?_)
                    refine lv_goto (tgt := 131) hx hb dL_asks_262 (by decide) ?_
                    rw [show (b9 : Int) + 1 = ((b9 + 1 : Nat) : Int) by omega] at hl
                    exact ih (b9 + 1) H locs ls (cells + 2 + 2 + 2 + 2 + 2 + 2 + 2 + 2) (slots + 12 + 12 + 12 + 12 + 12 + 12 + 12 + 12) (by omega) (by omega) (by omega) (by omega) hHC hS (lv_sub hl [0, 2, 3, 4] rfl)
                · skip
                  refine lv_aload_n hx hb dL_asks_201 rfl (lv_at hl 4 rfl) ?_
                  refine lv_iload_n hx hb dL_asks_202 rfl (lv_at hl 1 rfl) ?_
                  refine lv_iconst (v := zi (1)) hx hb dL_asks_203 rfl ?_
                  refine z_invSH (n := 3) (B := A) (fun q h => h) (c_L_boat l hZ (ad := ad) (u := u) (a := (b9 : Int)) (n := 1) hflags hNC hO (by omega) (by omega)) X hS (fun q h => hA q (Nat.le_trans hS.1 h)) hHC hl.1 (q_578 hT hW) (q_0 hT hW) (q_576 hT hW) (q_577 hT hW) (by decide +kernel) rfl ⟨Nat.le_of_ble_eq_true rfl, Nat.le_of_ble_eq_true rfl⟩ ⟨by show cells + 2 + 2 + 2 + 2 ≤ 500; omega, by show slots + 12 + 12 + 12 + 12 ≤ 3000; omega⟩ (Nat.le_of_ble_eq_true rfl) dL_asks_204 (fun v H locs hv hfr hS => ?_) rfl
                  obtain ⟨rfl, hHC⟩ := hv
                  refine lv_iconst (v := zi (-1)) hx hb dL_asks_207 rfl ?_
                  refine z_icmp_ne (a := vB u (b9 : Int) 1) (b := (-1)) (tgt := 257) hx hb dL_asks_208 (by decide) (by omega) (fun h_208 => False.elim (by omega)) (fun h_208 => ?_)
                  refine lv_aload_n hx hb dL_asks_211 rfl (lv_at hl 4 rfl) ?_
                  refine lv_iload_n hx hb dL_asks_212 rfl (lv_at hl 1 rfl) ?_
                  refine lv_iconst (v := zi (1)) hx hb dL_asks_213 rfl ?_
                  refine z_invSH (n := 3) (B := A) (fun q h => h) (c_L_boat l hZ (ad := ad) (u := u) (a := (b9 : Int)) (n := 1) hflags hNC hO (by omega) (by omega)) X hS (fun q h => hA q (Nat.le_trans hS.1 h)) hHC hl.1 (q_578 hT hW) (q_0 hT hW) (q_576 hT hW) (q_577 hT hW) (by decide +kernel) rfl ⟨Nat.le_of_ble_eq_true rfl, Nat.le_of_ble_eq_true rfl⟩ ⟨by show cells + 2 + 2 + 2 + 2 + 2 ≤ 500; omega, by show slots + 12 + 12 + 12 + 12 + 12 ≤ 3000; omega⟩ (Nat.le_of_ble_eq_true rfl) dL_asks_214 (fun v H locs hv hfr hS => ?_) rfl
                  obtain ⟨rfl, hHC⟩ := hv
                  refine z_if_lt (a := vB u (b9 : Int) 1) (tgt := 235) hx hb dL_asks_217 (by decide) (by omega) (fun h_217 => ?_) (fun h_217 => ?_)
                  · skip
                    refine lv_aload_n hx hb dL_asks_235 rfl (lv_at hl 4 rfl) ?_
                    refine lv_iload_n hx hb dL_asks_236 rfl (lv_at hl 1 rfl) ?_
                    refine lv_iconst (v := zi (3)) hx hb dL_asks_237 rfl ?_
                    refine z_invSH (n := 3) (B := A) (fun q h => h) (c_L_boat l hZ (ad := ad) (u := u) (a := (b9 : Int)) (n := 3) hflags hNC hO (by omega) (by omega)) X hS (fun q h => hA q (Nat.le_trans hS.1 h)) hHC hl.1 (q_578 hT hW) (q_0 hT hW) (q_576 hT hW) (q_577 hT hW) (by decide +kernel) rfl ⟨Nat.le_of_ble_eq_true rfl, Nat.le_of_ble_eq_true rfl⟩ ⟨by show cells + 2 + 2 + 2 + 2 + 2 + 2 ≤ 500; omega, by show slots + 12 + 12 + 12 + 12 + 12 + 12 ≤ 3000; omega⟩ (Nat.le_of_ble_eq_true rfl) dL_asks_238 (fun v H locs hv hfr hS => ?_) rfl
                    obtain ⟨rfl, hHC⟩ := hv
                    refine z_if_lt (a := vB u (b9 : Int) 3) (tgt := 257) hx hb dL_asks_241 (by decide) (by omega) (fun h_241 => False.elim (by omega)) (fun h_241 => ?_)
                    refine lv_aload_n hx hb dL_asks_244 rfl (lv_at hl 4 rfl) ?_
                    refine lv_iload_n hx hb dL_asks_245 rfl (lv_at hl 1 rfl) ?_
                    refine lv_iconst (v := zi (2)) hx hb dL_asks_246 rfl ?_
                    refine z_invSH (n := 3) (B := A) (fun q h => h) (c_L_boat l hZ (ad := ad) (u := u) (a := (b9 : Int)) (n := 2) hflags hNC hO (by omega) (by omega)) X hS (fun q h => hA q (Nat.le_trans hS.1 h)) hHC hl.1 (q_578 hT hW) (q_0 hT hW) (q_576 hT hW) (q_577 hT hW) (by decide +kernel) rfl ⟨Nat.le_of_ble_eq_true rfl, Nat.le_of_ble_eq_true rfl⟩ ⟨by show cells + 2 + 2 + 2 + 2 + 2 + 2 + 2 ≤ 500; omega, by show slots + 12 + 12 + 12 + 12 + 12 + 12 + 12 ≤ 3000; omega⟩ (Nat.le_of_ble_eq_true rfl) dL_asks_247 (fun v H locs hv hfr hS => ?_) rfl
                    obtain ⟨rfl, hHC⟩ := hv
                    refine lv_iload_n hx hb dL_asks_250 rfl (lv_at hl 3 rfl) ?_
                    refine lv_bipush (v := zi (20)) hx hb dL_asks_251 rfl ?_
                    refine z_iadd (a := now) (b := 20) hx hb dL_asks_253 ?_
                    refine z_icmp_le (a := vB u (b9 : Int) 2) (b := (now + 20)) (tgt := 259) hx hb dL_asks_254 (by decide) (by omega) (fun h_254 => ?_) (fun h_254 => False.elim (by omega))
                    refine z_iinc (a := (b9 : Int)) (n := 1) (lv' := [(3, .int (zi (((b9 : Int) + 1)))), (4, .int (zi (vB u (b9 : Int) 0))), (2, .int (zi (zrw u (u 21 0).toNat))), (1, .int (zi (now))), (0, .ref (ad 0))]) hx hb dL_asks_259 hl (k := 1) rfl (by decide) rfl (fun ls hl => ?_)
                    refine lv_goto (tgt := 131) hx hb dL_asks_262 (by decide) ?_
                    rw [show (b9 : Int) + 1 = ((b9 + 1 : Nat) : Int) by omega] at hl
                    exact ih (b9 + 1) H locs ls (cells + 2 + 2 + 2 + 2 + 2 + 2 + 2) (slots + 12 + 12 + 12 + 12 + 12 + 12 + 12) (by omega) (by omega) (by omega) (by omega) hHC hS (lv_sub hl [0, 2, 3, 4] rfl)
                  · skip
                    refine lv_aload_n hx hb dL_asks_220 rfl (lv_at hl 4 rfl) ?_
                    refine lv_aload_n hx hb dL_asks_221 rfl (lv_at hl 4 rfl) ?_
                    refine lv_iload_n hx hb dL_asks_222 rfl (lv_at hl 1 rfl) ?_
                    refine lv_iconst (v := zi (1)) hx hb dL_asks_223 rfl ?_
                    refine z_invSH (n := 3) (B := A) (fun q h => h) (c_L_boat l hZ (ad := ad) (u := u) (a := (b9 : Int)) (n := 1) hflags hNC hO (by omega) (by omega)) X hS (fun q h => hA q (Nat.le_trans hS.1 h)) hHC hl.1 (q_578 hT hW) (q_0 hT hW) (q_576 hT hW) (q_577 hT hW) (by decide +kernel) rfl ⟨Nat.le_of_ble_eq_true rfl, Nat.le_of_ble_eq_true rfl⟩ ⟨by show cells + 2 + 2 + 2 + 2 + 2 + 2 ≤ 500; omega, by show slots + 12 + 12 + 12 + 12 + 12 + 12 ≤ 3000; omega⟩ (Nat.le_of_ble_eq_true rfl) dL_asks_224 (fun v H locs hv hfr hS => ?_) rfl
                    obtain ⟨rfl, hHC⟩ := hv
                    refine lv_iconst (v := zi (0)) hx hb dL_asks_227 rfl ?_
                    refine z_invSH (n := 3) (B := A) (fun q h => h) (c_L_call l hZ (ad := ad) (u := u) (a := vB u (b9 : Int) 1) (n := 0) hflags hNC hO (by omega) (by omega)) X hS (fun q h => hA q (Nat.le_trans hS.1 h)) hHC hl.1 (q_585 hT hW) (q_0 hT hW) (q_583 hT hW) (q_584 hT hW) (by decide +kernel) rfl ⟨Nat.le_of_ble_eq_true rfl, Nat.le_of_ble_eq_true rfl⟩ ⟨by show cells + 2 + 2 + 2 + 2 + 2 + 2 + 2 ≤ 500; omega, by show slots + 12 + 12 + 12 + 12 + 12 + 12 + 12 ≤ 3000; omega⟩ (Nat.le_of_ble_eq_true rfl) dL_asks_228 (fun v H locs hv hfr hS => ?_) rfl
                    obtain ⟨rfl, hHC⟩ := hv
                    refine lv_iconst (v := zi (1)) hx hb dL_asks_231 rfl ?_
                    refine z_icmp_ne (a := vC u (vB u (b9 : Int) 1) 0) (b := 1) (tgt := 257) hx hb dL_asks_232 (by decide) (by omega) (fun h_232 => False.elim (by omega)) (fun h_232 => ?_)
                    refine lv_aload_n hx hb dL_asks_235 rfl (lv_at hl 4 rfl) ?_
                    refine lv_iload_n hx hb dL_asks_236 rfl (lv_at hl 1 rfl) ?_
                    refine lv_iconst (v := zi (3)) hx hb dL_asks_237 rfl ?_
                    refine z_invSH (n := 3) (B := A) (fun q h => h) (c_L_boat l hZ (ad := ad) (u := u) (a := (b9 : Int)) (n := 3) hflags hNC hO (by omega) (by omega)) X hS (fun q h => hA q (Nat.le_trans hS.1 h)) hHC hl.1 (q_578 hT hW) (q_0 hT hW) (q_576 hT hW) (q_577 hT hW) (by decide +kernel) rfl ⟨Nat.le_of_ble_eq_true rfl, Nat.le_of_ble_eq_true rfl⟩ ⟨by show cells + 2 + 2 + 2 + 2 + 2 + 2 + 2 + 2 ≤ 500; omega, by show slots + 12 + 12 + 12 + 12 + 12 + 12 + 12 + 12 ≤ 3000; omega⟩ (Nat.le_of_ble_eq_true rfl) dL_asks_238 (fun v H locs hv hfr hS => ?_) rfl
                    obtain ⟨rfl, hHC⟩ := hv
                    refine z_if_lt (a := vB u (b9 : Int) 3) (tgt := 257) hx hb dL_asks_241 (by decide) (by omega) (fun h_241 => False.elim (by omega)) (fun h_241 => ?_)
                    refine lv_aload_n hx hb dL_asks_244 rfl (lv_at hl 4 rfl) ?_
                    refine lv_iload_n hx hb dL_asks_245 rfl (lv_at hl 1 rfl) ?_
                    refine lv_iconst (v := zi (2)) hx hb dL_asks_246 rfl ?_
                    refine z_invSH (n := 3) (B := A) (fun q h => h) (c_L_boat l hZ (ad := ad) (u := u) (a := (b9 : Int)) (n := 2) hflags hNC hO (by omega) (by omega)) X hS (fun q h => hA q (Nat.le_trans hS.1 h)) hHC hl.1 (q_578 hT hW) (q_0 hT hW) (q_576 hT hW) (q_577 hT hW) (by decide +kernel) rfl ⟨Nat.le_of_ble_eq_true rfl, Nat.le_of_ble_eq_true rfl⟩ ⟨by show cells + 2 + 2 + 2 + 2 + 2 + 2 + 2 + 2 + 2 ≤ 500; omega, by show slots + 12 + 12 + 12 + 12 + 12 + 12 + 12 + 12 + 12 ≤ 3000; omega⟩ (Nat.le_of_ble_eq_true rfl) dL_asks_247 (fun v H locs hv hfr hS => ?_) rfl
                    obtain ⟨rfl, hHC⟩ := hv
                    refine lv_iload_n hx hb dL_asks_250 rfl (lv_at hl 3 rfl) ?_
                    refine lv_bipush (v := zi (20)) hx hb dL_asks_251 rfl ?_
                    refine z_iadd (a := now) (b := 20) hx hb dL_asks_253 ?_
                    refine z_icmp_le (a := vB u (b9 : Int) 2) (b := (now + 20)) (tgt := 259) hx hb dL_asks_254 (by decide) (by omega) (fun h_254 => ?_) (fun h_254 => False.elim (by omega))
                    refine z_iinc (a := (b9 : Int)) (n := 1) (lv' := [(3, .int (zi (((b9 : Int) + 1)))), (4, .int (zi (vB u (b9 : Int) 0))), (2, .int (zi (zrw u (u 21 0).toNat))), (1, .int (zi (now))), (0, .ref (ad 0))]) hx hb dL_asks_259 hl (k := 1) rfl (by decide) rfl (fun ls hl => ?_)
                    refine lv_goto (tgt := 131) hx hb dL_asks_262 (by decide) ?_
                    rw [show (b9 : Int) + 1 = ((b9 + 1 : Nat) : Int) by omega] at hl
                    exact ih (b9 + 1) H locs ls (cells + 2 + 2 + 2 + 2 + 2 + 2 + 2 + 2 + 2) (slots + 12 + 12 + 12 + 12 + 12 + 12 + 12 + 12 + 12) (by omega) (by omega) (by omega) (by omega) hHC hS (lv_sub hl [0, 2, 3, 4] rfl)
        · skip
          have e0 : vB u (b9 : Int) 0 = -2 := vB_out (by omega)
          refine lv_aload_n hx hb dL_asks_137 rfl (lv_at hl 3 rfl) ?_
          refine lv_iload_n hx hb dL_asks_138 rfl (lv_at hl 0 rfl) ?_
          refine lv_iconst (v := zi (0)) hx hb dL_asks_139 rfl ?_
          refine z_invSH (n := 3) (B := A) (fun q h => h) (c_L_boat l hZ (ad := ad) (u := u) (a := (b9 : Int)) (n := 0) hflags hNC hO (by omega) (by omega)) X hS (fun q h => hA q (Nat.le_trans hS.1 h)) hHC hl.1 (q_578 hT hW) (q_0 hT hW) (q_576 hT hW) (q_577 hT hW) (by decide +kernel) rfl ⟨Nat.le_of_ble_eq_true rfl, Nat.le_of_ble_eq_true rfl⟩ ⟨by show cells + 2 ≤ 500; omega, by show slots + 12 ≤ 3000; omega⟩ (Nat.le_of_ble_eq_true rfl) dL_asks_140 (fun v H locs hv hfr hS => ?_) rfl
          obtain ⟨rfl, hHC⟩ := hv
          refine lv_istore (lv' := [(4, .int (zi (vB u (b9 : Int) 0))), (3, .int (zi ((b9 : Int)))), (2, .int (zi (zrw u (u 21 0).toNat))), (1, .int (zi (now))), (0, .ref (ad 0))]) hx hb dL_asks_143 hl (by decide) rfl (fun ls hl => ?_)
          refine lv_iload hx hb dL_asks_145 (lv_at hl 0 rfl) ?_
          refine lv_bipush (v := zi (-2)) hx hb dL_asks_147 rfl ?_
          refine z_icmp_eq (a := vB u (b9 : Int) 0) (b := (-2)) (tgt := 259) hx hb dL_asks_149 (by decide) (by omega) (fun h_149 => ?_) (fun h_149 => False.elim (by omega))
          refine z_iinc (a := (b9 : Int)) (n := 1) (lv' := [(3, .int (zi (((b9 : Int) + 1)))), (4, .int (zi (vB u (b9 : Int) 0))), (2, .int (zi (zrw u (u 21 0).toNat))), (1, .int (zi (now))), (0, .ref (ad 0))]) hx hb dL_asks_259 hl (k := 1) rfl (by decide) rfl (fun ls hl => ?_)
          refine lv_goto (tgt := 131) hx hb dL_asks_262 (by decide) ?_
          rw [show (b9 : Int) + 1 = ((b9 + 1 : Nat) : Int) by omega] at hl
          exact ih (b9 + 1) H locs ls (cells + 2) (slots + 12) (by omega) (by omega) (by omega) (by omega) hHC hS (lv_sub hl [0, 2, 3, 4] rfl)
  have K4 : ∀ (fu c9 : Nat) (H : Heap) (locs : List Loc) (ls : Array Slot) (cells slots : Nat), 30 < fu + c9 → c9 ≤ 30 → (c9 : Int) ≤ u 21 0 → cells ≤ 12 * c9 → slots ≤ 72 * c9 → zHC D tc dz A ad u H → va_S A s.heap H locs → lv_has ls 6 [(3, .int (zi ((c9 : Int)))), (2, .int (zi (zrw u c9))), (1, .int (zi (now))), (0, .ref (ad 0))] → W p l e { frames := 10, locals := 300, cells := 500, slots := 3000 } s m ([.ref (ad 0), .int (zi (now))] : List Value).toArray below meth c H locs cells slots (MQ below (zQ A (fun v H => v = some (.int (zi 1)) ∧ zHC D tc dz A ad u H)) ([.ref (ad 0), .int (zi (now))] : List Value).toArray s ({ frames := 10, locals := 300, cells := 500, slots := 3000 } : Room).cells ({ frames := 10, locals := 300, cells := 500, slots := 3000 } : Room).slots A) (F0 m 4 ls []) := by
    intro fu
    induction fu with
    | zero => intro c9 H locs ls cells slots h1 h2; omega
    | succ fu ih =>
      intro c9 H locs ls cells slots h1 h2 h9 h3 h4 hHC hS hl
      refine lv_iload_n hx hb dL_asks_4 rfl (lv_at hl 0 rfl) ?_
      refine lv_bipush (v := zi (30)) hx hb dL_asks_5 rfl ?_
      refine z_icmp_ge (a := (c9 : Int)) (b := 30) (tgt := 129) hx hb dL_asks_7 (by decide) (by omega) (fun h_7 => ?_) (fun h_7 => ?_)
      · skip
        refine lv_iconst (v := zi (0)) hx hb dL_asks_129 rfl ?_
        refine lv_istore_n (lv' := [(3, .int (zi (0))), (2, .int (zi (zrw u c9))), (1, .int (zi (now))), (0, .ref (ad 0))]) hx hb dL_asks_130 rfl hl (by decide) rfl (fun ls hl => ?_)
        have hcn : c9 = (u 21 0).toNat := by omega
        rw [hcn] at hl
        exact K131 7 0 H locs ls (cells) (slots) (by omega) (by omega) (by omega) (by omega) hHC hS (lv_sub hl [0, 1, 2, 3] rfl)
      · skip
        by_cases hc9 : (c9 : Int) < u 21 0
        · skip
          have hr9 : 0 ≤ (c9 : Int) ∧ (c9 : Int) < u 21 0 := ⟨by omega, hc9⟩
          have hIc := hO.1.2.2.2 c9 hc9
          have hCl := hO.2.2.1.2.1 c9 hc9
          have h19 := hO.2.2.2.2 c9 hc9
          unfold zIc at hIc
          unfold zCl at hCl
          have e0 : vC u (c9 : Int) 0 = u 17 c9 := vC0 hr9
          have e1 : vC u (c9 : Int) 1 = u 18 c9 := vC1 hr9
          have e2 : vC u (c9 : Int) 2 = u 19 c9 := vC2 hr9
          have e3 : vC u (c9 : Int) 3 = u 20 c9 := vC3 hr9
          have e4 : u 17 c9 = 1 → vB u (vC u (c9 : Int) 1) 1 = (c9 : Int) := fun h => by
            have g := hCl.1 h
            rw [e1, vB1 (by omega)]; exact g.2
          have hCl1 : u 17 c9 = 1 → 0 ≤ u 18 c9 := fun h => (hCl.1 h).1
          have hCl2 := hCl.2
          clear hCl
          refine lv_aload_n hx hb dL_asks_10 rfl (lv_at hl 3 rfl) ?_
          refine lv_iload_n hx hb dL_asks_11 rfl (lv_at hl 0 rfl) ?_
          refine lv_iconst (v := zi (0)) hx hb dL_asks_12 rfl ?_
          refine z_invSH (n := 3) (B := A) (fun q h => h) (c_L_call l hZ (ad := ad) (u := u) (a := (c9 : Int)) (n := 0) hflags hNC hO (by omega) (by omega)) X hS (fun q h => hA q (Nat.le_trans hS.1 h)) hHC hl.1 (q_585 hT hW) (q_0 hT hW) (q_583 hT hW) (q_584 hT hW) (by decide +kernel) rfl ⟨Nat.le_of_ble_eq_true rfl, Nat.le_of_ble_eq_true rfl⟩ ⟨by show cells + 2 ≤ 500; omega, by show slots + 12 ≤ 3000; omega⟩ (Nat.le_of_ble_eq_true rfl) dL_asks_13 (fun v H locs hv hfr hS => ?_) rfl
          obtain ⟨rfl, hHC⟩ := hv
          refine lv_istore (lv' := [(4, .int (zi (vC u (c9 : Int) 0))), (3, .int (zi ((c9 : Int)))), (2, .int (zi (zrw u c9))), (1, .int (zi (now))), (0, .ref (ad 0))]) hx hb dL_asks_16 hl (by decide) rfl (fun ls hl => ?_)
          refine lv_iload hx hb dL_asks_18 (lv_at hl 0 rfl) ?_
          refine lv_bipush (v := zi (-2)) hx hb dL_asks_20 rfl ?_
          refine z_icmp_ne (a := vC u (c9 : Int) 0) (b := (-2)) (tgt := 28) hx hb dL_asks_22 (by decide) (by omega) (fun h_22 => ?_) (fun h_22 => False.elim (by omega))
          refine lv_aload_n hx hb dL_asks_28 rfl (lv_at hl 4 rfl) ?_
          refine lv_iload_n hx hb dL_asks_29 rfl (lv_at hl 1 rfl) ?_
          refine lv_iconst (v := zi (1)) hx hb dL_asks_30 rfl ?_
          refine z_invSH (n := 3) (B := A) (fun q h => h) (c_L_call l hZ (ad := ad) (u := u) (a := (c9 : Int)) (n := 1) hflags hNC hO (by omega) (by omega)) X hS (fun q h => hA q (Nat.le_trans hS.1 h)) hHC hl.1 (q_585 hT hW) (q_0 hT hW) (q_583 hT hW) (q_584 hT hW) (by decide +kernel) rfl ⟨Nat.le_of_ble_eq_true rfl, Nat.le_of_ble_eq_true rfl⟩ ⟨by show cells + 2 + 2 ≤ 500; omega, by show slots + 12 + 12 ≤ 3000; omega⟩ (Nat.le_of_ble_eq_true rfl) dL_asks_31 (fun v H locs hv hfr hS => ?_) rfl
          obtain ⟨rfl, hHC⟩ := hv
          refine lv_istore (lv' := [(5, .int (zi (vC u (c9 : Int) 1))), (4, .int (zi (vC u (c9 : Int) 0))), (3, .int (zi ((c9 : Int)))), (2, .int (zi (zrw u c9))), (1, .int (zi (now))), (0, .ref (ad 0))]) hx hb dL_asks_34 hl (by decide) rfl (fun ls hl => ?_)
          refine lv_iload_n hx hb dL_asks_36 rfl (lv_at hl 3 rfl) ?_
          refine lv_aload_n hx hb dL_asks_37 rfl (lv_at hl 5 rfl) ?_
          refine lv_iload_n hx hb dL_asks_38 rfl (lv_at hl 2 rfl) ?_
          refine lv_iconst (v := zi (3)) hx hb dL_asks_39 rfl ?_
          refine z_invSH (n := 3) (B := A) (fun q h => h) (c_L_call l hZ (ad := ad) (u := u) (a := (c9 : Int)) (n := 3) hflags hNC hO (by omega) (by omega)) X hS (fun q h => hA q (Nat.le_trans hS.1 h)) hHC hl.1 (q_585 hT hW) (q_0 hT hW) (q_583 hT hW) (q_584 hT hW) (by decide +kernel) rfl ⟨Nat.le_of_ble_eq_true rfl, Nat.le_of_ble_eq_true rfl⟩ ⟨by show cells + 2 + 2 + 2 ≤ 500; omega, by show slots + 12 + 12 + 12 ≤ 3000; omega⟩ (Nat.le_of_ble_eq_true rfl) dL_asks_40 (fun v H locs hv hfr hS => ?_) rfl
          obtain ⟨rfl, hHC⟩ := hv
          refine z_iadd (a := zrw u c9) (b := vC u (c9 : Int) 3) hx hb dL_asks_43 ?_
          refine lv_istore_n (lv' := [(2, .int (zi ((zrw u c9 + vC u (c9 : Int) 3)))), (5, .int (zi (vC u (c9 : Int) 1))), (4, .int (zi (vC u (c9 : Int) 0))), (3, .int (zi ((c9 : Int)))), (1, .int (zi (now))), (0, .ref (ad 0))]) hx hb dL_asks_44 rfl hl (by decide) rfl (fun ls hl => ?_)
          refine lv_iload hx hb dL_asks_45 (lv_at hl 2 rfl) ?_
          refine lv_iconst (v := zi (1)) hx hb dL_asks_47 rfl ?_
          refine z_icmp_ne (a := vC u (c9 : Int) 0) (b := 1) (tgt := 67) hx hb dL_asks_48 (by decide) (by omega) (fun h_48 => ?_) (fun h_48 => ?_)
          · skip
            refine lv_iload hx hb dL_asks_67 (lv_at hl 2 rfl) ?_
            refine lv_iconst (v := zi (2)) hx hb dL_asks_69 rfl ?_
            refine z_icmp_eq (a := vC u (c9 : Int) 0) (b := 2) (tgt := 82) hx hb dL_asks_70 (by decide) (by omega) (fun h_70 => ?_) (fun h_70 => ?_)
            · skip
              refine lv_aload_n hx hb dL_asks_82 rfl (lv_at hl 5 rfl) ?_
              refine lv_iload_n hx hb dL_asks_83 rfl (lv_at hl 3 rfl) ?_
              refine lv_iconst (v := zi (2)) hx hb dL_asks_84 rfl ?_
              refine z_invSH (n := 3) (B := A) (fun q h => h) (c_L_call l hZ (ad := ad) (u := u) (a := (c9 : Int)) (n := 2) hflags hNC hO (by omega) (by omega)) X hS (fun q h => hA q (Nat.le_trans hS.1 h)) hHC hl.1 (q_585 hT hW) (q_0 hT hW) (q_583 hT hW) (q_584 hT hW) (by decide +kernel) rfl ⟨Nat.le_of_ble_eq_true rfl, Nat.le_of_ble_eq_true rfl⟩ ⟨by show cells + 2 + 2 + 2 + 2 ≤ 500; omega, by show slots + 12 + 12 + 12 + 12 ≤ 3000; omega⟩ (Nat.le_of_ble_eq_true rfl) dL_asks_85 (fun v H locs hv hfr hS => ?_) rfl
              obtain ⟨rfl, hHC⟩ := hv
              refine z_if_ne (a := vC u (c9 : Int) 2) (tgt := 95) hx hb dL_asks_88 (by decide) (by omega) (fun h_88 => ?_) (fun h_88 => ?_)
              · skip
                refine lv_iconst (v := zi (0)) hx hb dL_asks_95 rfl ?_
                refine lv_iload hx hb dL_asks_96 (lv_at hl 1 rfl) ?_
                refine lv_iconst (v := zi (-1)) hx hb dL_asks_98 rfl ?_
                refine z_icmp_ne (a := vC u (c9 : Int) 1) (b := (-1)) (tgt := 106) hx hb dL_asks_99 (by decide) (by omega) (fun h_99 => ?_) (fun h_99 => ?_)
                · skip
                  refine lv_iconst (v := zi (0)) hx hb dL_asks_106 rfl ?_
                  refine z_icmp_ne (a := 0) (b := 0) (tgt := 121) hx hb dL_asks_107 (by decide) (by omega) (fun h_107 => False.elim (by omega)) (fun _ => ?_)
                  refine lv_iload hx hb dL_asks_110 (lv_at hl 2 rfl) ?_
                  refine lv_iconst (v := zi (2)) hx hb dL_asks_112 rfl ?_
                  refine z_icmp_ne (a := vC u (c9 : Int) 0) (b := 2) (tgt := 123) hx hb dL_asks_113 (by decide) (by omega) (fun h_113 => ?_) (fun h_113 => ?_)
                  · skip
                    refine z_iinc (a := (c9 : Int)) (n := 1) (lv' := [(3, .int (zi (((c9 : Int) + 1)))), (2, .int (zi ((zrw u c9 + vC u (c9 : Int) 3)))), (5, .int (zi (vC u (c9 : Int) 1))), (4, .int (zi (vC u (c9 : Int) 0))), (1, .int (zi (now))), (0, .ref (ad 0))]) hx hb dL_asks_123 hl (k := 3) rfl (by decide) rfl (fun ls hl => ?_)
                    refine lv_goto (tgt := 4) hx hb dL_asks_126 (by decide) ?_
                    rw [show (c9 : Int) + 1 = ((c9 + 1 : Nat) : Int) by omega, show zrw u c9 + vC u (c9 : Int) 3 = zrw u (c9 + 1) by rw [e3]; rfl] at hl
                    exact ih (c9 + 1) H locs ls (cells + 2 + 2 + 2 + 2) (slots + 12 + 12 + 12 + 12) (by omega) (by omega) (by omega) (by omega) (by omega) hHC hS (lv_sub hl [0, 1, 4, 5] rfl)
                  · skip
                    refine lv_iload hx hb dL_asks_116 (lv_at hl 1 rfl) ?_
                    refine z_if_ge (a := vC u (c9 : Int) 1) (tgt := 123) hx hb dL_asks_118 (by decide) (by omega) (fun h_118 => ?_) (fun h_118 => False.elim (by omega))
                    refine z_iinc (a := (c9 : Int)) (n := 1) (lv' := [(3, .int (zi (((c9 : Int) + 1)))), (2, .int (zi ((zrw u c9 + vC u (c9 : Int) 3)))), (5, .int (zi (vC u (c9 : Int) 1))), (4, .int (zi (vC u (c9 : Int) 0))), (1, .int (zi (now))), (0, .ref (ad 0))]) hx hb dL_asks_123 hl (k := 3) rfl (by decide) rfl (fun ls hl => ?_)
                    refine lv_goto (tgt := 4) hx hb dL_asks_126 (by decide) ?_
                    rw [show (c9 : Int) + 1 = ((c9 + 1 : Nat) : Int) by omega, show zrw u c9 + vC u (c9 : Int) 3 = zrw u (c9 + 1) by rw [e3]; rfl] at hl
                    exact ih (c9 + 1) H locs ls (cells + 2 + 2 + 2 + 2) (slots + 12 + 12 + 12 + 12) (by omega) (by omega) (by omega) (by omega) (by omega) hHC hS (lv_sub hl [0, 1, 4, 5] rfl)
                · skip
                  refine lv_iconst (v := zi (1)) hx hb dL_asks_102 rfl ?_
                  refine lv_goto (tgt := 107) hx hb dL_asks_103 (by decide) ?_
                  exact False.elim (by omega)
              · skip
                refine lv_iconst (v := zi (1)) hx hb dL_asks_91 rfl ?_
                refine lv_goto (tgt := 96) hx hb dL_asks_92 (by decide) ?_
                refine lv_iload hx hb dL_asks_96 (lv_at hl 1 rfl) ?_
                refine lv_iconst (v := zi (-1)) hx hb dL_asks_98 rfl ?_
                refine z_icmp_ne (a := vC u (c9 : Int) 1) (b := (-1)) (tgt := 106) hx hb dL_asks_99 (by decide) (by omega) (fun h_99 => ?_) (fun h_99 => ?_)
                · skip
                  refine lv_iconst (v := zi (0)) hx hb dL_asks_106 rfl ?_
                  exact False.elim (by omega)
                · skip
                  refine lv_iconst (v := zi (1)) hx hb dL_asks_102 rfl ?_
                  refine lv_goto (tgt := 107) hx hb dL_asks_103 (by decide) ?_
                  refine z_icmp_ne (a := 1) (b := 1) (tgt := 121) hx hb dL_asks_107 (by decide) (by omega) (fun h_107 => False.elim (by omega)) (fun _ => ?_)
                  refine lv_iload hx hb dL_asks_110 (lv_at hl 2 rfl) ?_
                  refine lv_iconst (v := zi (2)) hx hb dL_asks_112 rfl ?_
                  refine z_icmp_ne (a := vC u (c9 : Int) 0) (b := 2) (tgt := 123) hx hb dL_asks_113 (by decide) (by omega) (fun h_113 => ?_) (fun h_113 => ?_)
                  · skip
                    refine z_iinc (a := (c9 : Int)) (n := 1) (lv' := [(3, .int (zi (((c9 : Int) + 1)))), (2, .int (zi ((zrw u c9 + vC u (c9 : Int) 3)))), (5, .int (zi (vC u (c9 : Int) 1))), (4, .int (zi (vC u (c9 : Int) 0))), (1, .int (zi (now))), (0, .ref (ad 0))]) hx hb dL_asks_123 hl (k := 3) rfl (by decide) rfl (fun ls hl => ?_)
                    refine lv_goto (tgt := 4) hx hb dL_asks_126 (by decide) ?_
                    rw [show (c9 : Int) + 1 = ((c9 + 1 : Nat) : Int) by omega, show zrw u c9 + vC u (c9 : Int) 3 = zrw u (c9 + 1) by rw [e3]; rfl] at hl
                    exact ih (c9 + 1) H locs ls (cells + 2 + 2 + 2 + 2) (slots + 12 + 12 + 12 + 12) (by omega) (by omega) (by omega) (by omega) (by omega) hHC hS (lv_sub hl [0, 1, 4, 5] rfl)
                  · skip
                    refine lv_iload hx hb dL_asks_116 (lv_at hl 1 rfl) ?_
                    refine z_if_ge (a := vC u (c9 : Int) 1) (tgt := 123) hx hb dL_asks_118 (by decide) (by omega) (fun h_118 => ?_) (fun h_118 => False.elim (by omega))
                    refine z_iinc (a := (c9 : Int)) (n := 1) (lv' := [(3, .int (zi (((c9 : Int) + 1)))), (2, .int (zi ((zrw u c9 + vC u (c9 : Int) 3)))), (5, .int (zi (vC u (c9 : Int) 1))), (4, .int (zi (vC u (c9 : Int) 0))), (1, .int (zi (now))), (0, .ref (ad 0))]) hx hb dL_asks_123 hl (k := 3) rfl (by decide) rfl (fun ls hl => ?_)
                    refine lv_goto (tgt := 4) hx hb dL_asks_126 (by decide) ?_
                    rw [show (c9 : Int) + 1 = ((c9 + 1 : Nat) : Int) by omega, show zrw u c9 + vC u (c9 : Int) 3 = zrw u (c9 + 1) by rw [e3]; rfl] at hl
                    exact ih (c9 + 1) H locs ls (cells + 2 + 2 + 2 + 2) (slots + 12 + 12 + 12 + 12) (by omega) (by omega) (by omega) (by omega) (by omega) hHC hS (lv_sub hl [0, 1, 4, 5] rfl)
            · skip
              refine lv_aload_n hx hb dL_asks_73 rfl (lv_at hl 5 rfl) ?_
              refine lv_iload_n hx hb dL_asks_74 rfl (lv_at hl 3 rfl) ?_
              refine lv_iconst (v := zi (3)) hx hb dL_asks_75 rfl ?_
              refine z_invSH (n := 3) (B := A) (fun q h => h) (c_L_call l hZ (ad := ad) (u := u) (a := (c9 : Int)) (n := 3) hflags hNC hO (by omega) (by omega)) X hS (fun q h => hA q (Nat.le_trans hS.1 h)) hHC hl.1 (q_585 hT hW) (q_0 hT hW) (q_583 hT hW) (q_584 hT hW) (by decide +kernel) rfl ⟨Nat.le_of_ble_eq_true rfl, Nat.le_of_ble_eq_true rfl⟩ ⟨by show cells + 2 + 2 + 2 + 2 ≤ 500; omega, by show slots + 12 + 12 + 12 + 12 ≤ 3000; omega⟩ (Nat.le_of_ble_eq_true rfl) dL_asks_76 (fun v H locs hv hfr hS => ?_) rfl
              obtain ⟨rfl, hHC⟩ := hv
              refine z_if_ne (a := vC u (c9 : Int) 3) (tgt := 121) hx hb dL_asks_79 (by decide) (by omega) (fun h_79 => False.elim (by omega)) (fun h_79 => ?_)
              refine lv_aload_n hx hb dL_asks_82 rfl (lv_at hl 5 rfl) ?_
              refine lv_iload_n hx hb dL_asks_83 rfl (lv_at hl 3 rfl) ?_
              refine lv_iconst (v := zi (2)) hx hb dL_asks_84 rfl ?_
              refine z_invSH (n := 3) (B := A) (fun q h => h) (c_L_call l hZ (ad := ad) (u := u) (a := (c9 : Int)) (n := 2) hflags hNC hO (by omega) (by omega)) X hS (fun q h => hA q (Nat.le_trans hS.1 h)) hHC hl.1 (q_585 hT hW) (q_0 hT hW) (q_583 hT hW) (q_584 hT hW) (by decide +kernel) rfl ⟨Nat.le_of_ble_eq_true rfl, Nat.le_of_ble_eq_true rfl⟩ ⟨by show cells + 2 + 2 + 2 + 2 + 2 ≤ 500; omega, by show slots + 12 + 12 + 12 + 12 + 12 ≤ 3000; omega⟩ (Nat.le_of_ble_eq_true rfl) dL_asks_85 (fun v H locs hv hfr hS => ?_) rfl
              obtain ⟨rfl, hHC⟩ := hv
              refine z_if_ne (a := vC u (c9 : Int) 2) (tgt := 95) hx hb dL_asks_88 (by decide) (by omega) (fun h_88 => ?_) (fun h_88 => ?_)
              · skip
                refine lv_iconst (v := zi (0)) hx hb dL_asks_95 rfl ?_
                refine lv_iload hx hb dL_asks_96 (lv_at hl 1 rfl) ?_
                refine lv_iconst (v := zi (-1)) hx hb dL_asks_98 rfl ?_
                refine z_icmp_ne (a := vC u (c9 : Int) 1) (b := (-1)) (tgt := 106) hx hb dL_asks_99 (by decide) (by omega) (fun h_99 => ?_) (fun h_99 => ?_)
                · skip
                  refine lv_iconst (v := zi (0)) hx hb dL_asks_106 rfl ?_
                  refine z_icmp_ne (a := 0) (b := 0) (tgt := 121) hx hb dL_asks_107 (by decide) (by omega) (fun h_107 => False.elim (by omega)) (fun _ => ?_)
                  refine lv_iload hx hb dL_asks_110 (lv_at hl 2 rfl) ?_
                  refine lv_iconst (v := zi (2)) hx hb dL_asks_112 rfl ?_
                  refine z_icmp_ne (a := vC u (c9 : Int) 0) (b := 2) (tgt := 123) hx hb dL_asks_113 (by decide) (by omega) (fun h_113 => ?_) (fun h_113 => ?_)
                  · skip
                    refine z_iinc (a := (c9 : Int)) (n := 1) (lv' := [(3, .int (zi (((c9 : Int) + 1)))), (2, .int (zi ((zrw u c9 + vC u (c9 : Int) 3)))), (5, .int (zi (vC u (c9 : Int) 1))), (4, .int (zi (vC u (c9 : Int) 0))), (1, .int (zi (now))), (0, .ref (ad 0))]) hx hb dL_asks_123 hl (k := 3) rfl (by decide) rfl (fun ls hl => ?_)
                    refine lv_goto (tgt := 4) hx hb dL_asks_126 (by decide) ?_
                    rw [show (c9 : Int) + 1 = ((c9 + 1 : Nat) : Int) by omega, show zrw u c9 + vC u (c9 : Int) 3 = zrw u (c9 + 1) by rw [e3]; rfl] at hl
                    exact ih (c9 + 1) H locs ls (cells + 2 + 2 + 2 + 2 + 2) (slots + 12 + 12 + 12 + 12 + 12) (by omega) (by omega) (by omega) (by omega) (by omega) hHC hS (lv_sub hl [0, 1, 4, 5] rfl)
                  · skip
                    refine lv_iload hx hb dL_asks_116 (lv_at hl 1 rfl) ?_
                    refine z_if_ge (a := vC u (c9 : Int) 1) (tgt := 123) hx hb dL_asks_118 (by decide) (by omega) (fun h_118 => ?_) (fun h_118 => False.elim (by omega))
                    refine z_iinc (a := (c9 : Int)) (n := 1) (lv' := [(3, .int (zi (((c9 : Int) + 1)))), (2, .int (zi ((zrw u c9 + vC u (c9 : Int) 3)))), (5, .int (zi (vC u (c9 : Int) 1))), (4, .int (zi (vC u (c9 : Int) 0))), (1, .int (zi (now))), (0, .ref (ad 0))]) hx hb dL_asks_123 hl (k := 3) rfl (by decide) rfl (fun ls hl => ?_)
                    refine lv_goto (tgt := 4) hx hb dL_asks_126 (by decide) ?_
                    rw [show (c9 : Int) + 1 = ((c9 + 1 : Nat) : Int) by omega, show zrw u c9 + vC u (c9 : Int) 3 = zrw u (c9 + 1) by rw [e3]; rfl] at hl
                    exact ih (c9 + 1) H locs ls (cells + 2 + 2 + 2 + 2 + 2) (slots + 12 + 12 + 12 + 12 + 12) (by omega) (by omega) (by omega) (by omega) (by omega) hHC hS (lv_sub hl [0, 1, 4, 5] rfl)
                · skip
                  refine lv_iconst (v := zi (1)) hx hb dL_asks_102 rfl ?_
                  refine lv_goto (tgt := 107) hx hb dL_asks_103 (by decide) ?_
                  exact False.elim (by omega)
              · skip
                refine lv_iconst (v := zi (1)) hx hb dL_asks_91 rfl ?_
                refine lv_goto (tgt := 96) hx hb dL_asks_92 (by decide) ?_
                refine lv_iload hx hb dL_asks_96 (lv_at hl 1 rfl) ?_
                refine lv_iconst (v := zi (-1)) hx hb dL_asks_98 rfl ?_
                refine z_icmp_ne (a := vC u (c9 : Int) 1) (b := (-1)) (tgt := 106) hx hb dL_asks_99 (by decide) (by omega) (fun h_99 => ?_) (fun h_99 => ?_)
                · skip
                  refine lv_iconst (v := zi (0)) hx hb dL_asks_106 rfl ?_
                  exact False.elim (by omega)
                · skip
                  refine lv_iconst (v := zi (1)) hx hb dL_asks_102 rfl ?_
                  refine lv_goto (tgt := 107) hx hb dL_asks_103 (by decide) ?_
                  refine z_icmp_ne (a := 1) (b := 1) (tgt := 121) hx hb dL_asks_107 (by decide) (by omega) (fun h_107 => False.elim (by omega)) (fun _ => ?_)
                  refine lv_iload hx hb dL_asks_110 (lv_at hl 2 rfl) ?_
                  refine lv_iconst (v := zi (2)) hx hb dL_asks_112 rfl ?_
                  refine z_icmp_ne (a := vC u (c9 : Int) 0) (b := 2) (tgt := 123) hx hb dL_asks_113 (by decide) (by omega) (fun h_113 => ?_) (fun h_113 => ?_)
                  · skip
                    refine z_iinc (a := (c9 : Int)) (n := 1) (lv' := [(3, .int (zi (((c9 : Int) + 1)))), (2, .int (zi ((zrw u c9 + vC u (c9 : Int) 3)))), (5, .int (zi (vC u (c9 : Int) 1))), (4, .int (zi (vC u (c9 : Int) 0))), (1, .int (zi (now))), (0, .ref (ad 0))]) hx hb dL_asks_123 hl (k := 3) rfl (by decide) rfl (fun ls hl => ?_)
                    refine lv_goto (tgt := 4) hx hb dL_asks_126 (by decide) ?_
                    rw [show (c9 : Int) + 1 = ((c9 + 1 : Nat) : Int) by omega, show zrw u c9 + vC u (c9 : Int) 3 = zrw u (c9 + 1) by rw [e3]; rfl] at hl
                    exact ih (c9 + 1) H locs ls (cells + 2 + 2 + 2 + 2 + 2) (slots + 12 + 12 + 12 + 12 + 12) (by omega) (by omega) (by omega) (by omega) (by omega) hHC hS (lv_sub hl [0, 1, 4, 5] rfl)
                  · skip
                    refine lv_iload hx hb dL_asks_116 (lv_at hl 1 rfl) ?_
                    refine z_if_ge (a := vC u (c9 : Int) 1) (tgt := 123) hx hb dL_asks_118 (by decide) (by omega) (fun h_118 => ?_) (fun h_118 => False.elim (by omega))
                    refine z_iinc (a := (c9 : Int)) (n := 1) (lv' := [(3, .int (zi (((c9 : Int) + 1)))), (2, .int (zi ((zrw u c9 + vC u (c9 : Int) 3)))), (5, .int (zi (vC u (c9 : Int) 1))), (4, .int (zi (vC u (c9 : Int) 0))), (1, .int (zi (now))), (0, .ref (ad 0))]) hx hb dL_asks_123 hl (k := 3) rfl (by decide) rfl (fun ls hl => ?_)
                    refine lv_goto (tgt := 4) hx hb dL_asks_126 (by decide) ?_
                    rw [show (c9 : Int) + 1 = ((c9 + 1 : Nat) : Int) by omega, show zrw u c9 + vC u (c9 : Int) 3 = zrw u (c9 + 1) by rw [e3]; rfl] at hl
                    exact ih (c9 + 1) H locs ls (cells + 2 + 2 + 2 + 2 + 2) (slots + 12 + 12 + 12 + 12 + 12) (by omega) (by omega) (by omega) (by omega) (by omega) hHC hS (lv_sub hl [0, 1, 4, 5] rfl)
          · skip
            refine lv_iload hx hb dL_asks_51 (lv_at hl 1 rfl) ?_
            refine z_if_lt (a := vC u (c9 : Int) 1) (tgt := 121) hx hb dL_asks_53 (by decide) (by omega) (fun h_53 => False.elim (by omega)) (fun h_53 => ?_)
            refine lv_aload_n hx hb dL_asks_56 rfl (lv_at hl 5 rfl) ?_
            refine lv_iload hx hb dL_asks_57 (lv_at hl 1 rfl) ?_
            refine lv_iconst (v := zi (1)) hx hb dL_asks_59 rfl ?_
            refine z_invSH (n := 3) (B := A) (fun q h => h) (c_L_boat l hZ (ad := ad) (u := u) (a := vC u (c9 : Int) 1) (n := 1) hflags hNC hO (by omega) (by omega)) X hS (fun q h => hA q (Nat.le_trans hS.1 h)) hHC hl.1 (q_578 hT hW) (q_0 hT hW) (q_576 hT hW) (q_577 hT hW) (by decide +kernel) rfl ⟨Nat.le_of_ble_eq_true rfl, Nat.le_of_ble_eq_true rfl⟩ ⟨by show cells + 2 + 2 + 2 + 2 ≤ 500; omega, by show slots + 12 + 12 + 12 + 12 ≤ 3000; omega⟩ (Nat.le_of_ble_eq_true rfl) dL_asks_60 (fun v H locs hv hfr hS => ?_) rfl
            obtain ⟨rfl, hHC⟩ := hv
            refine lv_iload_n hx hb dL_asks_63 rfl (lv_at hl 3 rfl) ?_
            refine z_icmp_ne (a := vB u (vC u (c9 : Int) 1) 1) (b := (c9 : Int)) (tgt := 121) hx hb dL_asks_64 (by decide) (by omega) (fun h_64 => False.elim (by omega)) (fun h_64 => ?_)
            refine lv_iload hx hb dL_asks_67 (lv_at hl 2 rfl) ?_
            refine lv_iconst (v := zi (2)) hx hb dL_asks_69 rfl ?_
            refine z_icmp_eq (a := vC u (c9 : Int) 0) (b := 2) (tgt := 82) hx hb dL_asks_70 (by decide) (by omega) (fun h_70 => ?_) (fun h_70 => ?_)
            · skip
              refine lv_aload_n hx hb dL_asks_82 rfl (lv_at hl 5 rfl) ?_
              refine lv_iload_n hx hb dL_asks_83 rfl (lv_at hl 3 rfl) ?_
              refine lv_iconst (v := zi (2)) hx hb dL_asks_84 rfl ?_
              refine z_invSH (n := 3) (B := A) (fun q h => h) (c_L_call l hZ (ad := ad) (u := u) (a := (c9 : Int)) (n := 2) hflags hNC hO (by omega) (by omega)) X hS (fun q h => hA q (Nat.le_trans hS.1 h)) hHC hl.1 (q_585 hT hW) (q_0 hT hW) (q_583 hT hW) (q_584 hT hW) (by decide +kernel) rfl ⟨Nat.le_of_ble_eq_true rfl, Nat.le_of_ble_eq_true rfl⟩ ⟨by show cells + 2 + 2 + 2 + 2 + 2 ≤ 500; omega, by show slots + 12 + 12 + 12 + 12 + 12 ≤ 3000; omega⟩ (Nat.le_of_ble_eq_true rfl) dL_asks_85 (fun v H locs hv hfr hS => ?_) rfl
              obtain ⟨rfl, hHC⟩ := hv
              refine z_if_ne (a := vC u (c9 : Int) 2) (tgt := 95) hx hb dL_asks_88 (by decide) (by omega) (fun h_88 => ?_) (fun h_88 => ?_)
              · skip
                refine lv_iconst (v := zi (0)) hx hb dL_asks_95 rfl ?_
                refine lv_iload hx hb dL_asks_96 (lv_at hl 1 rfl) ?_
                refine lv_iconst (v := zi (-1)) hx hb dL_asks_98 rfl ?_
                refine z_icmp_ne (a := vC u (c9 : Int) 1) (b := (-1)) (tgt := 106) hx hb dL_asks_99 (by decide) (by omega) (fun h_99 => ?_) (fun h_99 => ?_)
                · skip
                  refine lv_iconst (v := zi (0)) hx hb dL_asks_106 rfl ?_
                  refine z_icmp_ne (a := 0) (b := 0) (tgt := 121) hx hb dL_asks_107 (by decide) (by omega) (fun h_107 => False.elim (by omega)) (fun _ => ?_)
                  refine lv_iload hx hb dL_asks_110 (lv_at hl 2 rfl) ?_
                  refine lv_iconst (v := zi (2)) hx hb dL_asks_112 rfl ?_
                  refine z_icmp_ne (a := vC u (c9 : Int) 0) (b := 2) (tgt := 123) hx hb dL_asks_113 (by decide) (by omega) (fun h_113 => ?_) (fun h_113 => ?_)
                  · skip
                    refine z_iinc (a := (c9 : Int)) (n := 1) (lv' := [(3, .int (zi (((c9 : Int) + 1)))), (2, .int (zi ((zrw u c9 + vC u (c9 : Int) 3)))), (5, .int (zi (vC u (c9 : Int) 1))), (4, .int (zi (vC u (c9 : Int) 0))), (1, .int (zi (now))), (0, .ref (ad 0))]) hx hb dL_asks_123 hl (k := 3) rfl (by decide) rfl (fun ls hl => ?_)
                    refine lv_goto (tgt := 4) hx hb dL_asks_126 (by decide) ?_
                    rw [show (c9 : Int) + 1 = ((c9 + 1 : Nat) : Int) by omega, show zrw u c9 + vC u (c9 : Int) 3 = zrw u (c9 + 1) by rw [e3]; rfl] at hl
                    exact ih (c9 + 1) H locs ls (cells + 2 + 2 + 2 + 2 + 2) (slots + 12 + 12 + 12 + 12 + 12) (by omega) (by omega) (by omega) (by omega) (by omega) hHC hS (lv_sub hl [0, 1, 4, 5] rfl)
                  · skip
                    refine lv_iload hx hb dL_asks_116 (lv_at hl 1 rfl) ?_
                    refine z_if_ge (a := vC u (c9 : Int) 1) (tgt := 123) hx hb dL_asks_118 (by decide) (by omega) (fun h_118 => ?_) (fun h_118 => False.elim (by omega))
                    refine z_iinc (a := (c9 : Int)) (n := 1) (lv' := [(3, .int (zi (((c9 : Int) + 1)))), (2, .int (zi ((zrw u c9 + vC u (c9 : Int) 3)))), (5, .int (zi (vC u (c9 : Int) 1))), (4, .int (zi (vC u (c9 : Int) 0))), (1, .int (zi (now))), (0, .ref (ad 0))]) hx hb dL_asks_123 hl (k := 3) rfl (by decide) rfl (fun ls hl => ?_)
                    refine lv_goto (tgt := 4) hx hb dL_asks_126 (by decide) ?_
                    rw [show (c9 : Int) + 1 = ((c9 + 1 : Nat) : Int) by omega, show zrw u c9 + vC u (c9 : Int) 3 = zrw u (c9 + 1) by rw [e3]; rfl] at hl
                    exact ih (c9 + 1) H locs ls (cells + 2 + 2 + 2 + 2 + 2) (slots + 12 + 12 + 12 + 12 + 12) (by omega) (by omega) (by omega) (by omega) (by omega) hHC hS (lv_sub hl [0, 1, 4, 5] rfl)
                · skip
                  refine lv_iconst (v := zi (1)) hx hb dL_asks_102 rfl ?_
                  refine lv_goto (tgt := 107) hx hb dL_asks_103 (by decide) ?_
                  exact False.elim (by omega)
              · skip
                refine lv_iconst (v := zi (1)) hx hb dL_asks_91 rfl ?_
                refine lv_goto (tgt := 96) hx hb dL_asks_92 (by decide) ?_
                refine lv_iload hx hb dL_asks_96 (lv_at hl 1 rfl) ?_
                refine lv_iconst (v := zi (-1)) hx hb dL_asks_98 rfl ?_
                refine z_icmp_ne (a := vC u (c9 : Int) 1) (b := (-1)) (tgt := 106) hx hb dL_asks_99 (by decide) (by omega) (fun h_99 => ?_) (fun h_99 => ?_)
                · skip
                  refine lv_iconst (v := zi (0)) hx hb dL_asks_106 rfl ?_
                  exact False.elim (by omega)
                · skip
                  refine lv_iconst (v := zi (1)) hx hb dL_asks_102 rfl ?_
                  refine lv_goto (tgt := 107) hx hb dL_asks_103 (by decide) ?_
                  refine z_icmp_ne (a := 1) (b := 1) (tgt := 121) hx hb dL_asks_107 (by decide) (by omega) (fun h_107 => False.elim (by omega)) (fun _ => ?_)
                  refine lv_iload hx hb dL_asks_110 (lv_at hl 2 rfl) ?_
                  refine lv_iconst (v := zi (2)) hx hb dL_asks_112 rfl ?_
                  refine z_icmp_ne (a := vC u (c9 : Int) 0) (b := 2) (tgt := 123) hx hb dL_asks_113 (by decide) (by omega) (fun h_113 => ?_) (fun h_113 => ?_)
                  · skip
                    refine z_iinc (a := (c9 : Int)) (n := 1) (lv' := [(3, .int (zi (((c9 : Int) + 1)))), (2, .int (zi ((zrw u c9 + vC u (c9 : Int) 3)))), (5, .int (zi (vC u (c9 : Int) 1))), (4, .int (zi (vC u (c9 : Int) 0))), (1, .int (zi (now))), (0, .ref (ad 0))]) hx hb dL_asks_123 hl (k := 3) rfl (by decide) rfl (fun ls hl => ?_)
                    refine lv_goto (tgt := 4) hx hb dL_asks_126 (by decide) ?_
                    rw [show (c9 : Int) + 1 = ((c9 + 1 : Nat) : Int) by omega, show zrw u c9 + vC u (c9 : Int) 3 = zrw u (c9 + 1) by rw [e3]; rfl] at hl
                    exact ih (c9 + 1) H locs ls (cells + 2 + 2 + 2 + 2 + 2) (slots + 12 + 12 + 12 + 12 + 12) (by omega) (by omega) (by omega) (by omega) (by omega) hHC hS (lv_sub hl [0, 1, 4, 5] rfl)
                  · skip
                    refine lv_iload hx hb dL_asks_116 (lv_at hl 1 rfl) ?_
                    refine z_if_ge (a := vC u (c9 : Int) 1) (tgt := 123) hx hb dL_asks_118 (by decide) (by omega) (fun h_118 => ?_) (fun h_118 => False.elim (by omega))
                    refine z_iinc (a := (c9 : Int)) (n := 1) (lv' := [(3, .int (zi (((c9 : Int) + 1)))), (2, .int (zi ((zrw u c9 + vC u (c9 : Int) 3)))), (5, .int (zi (vC u (c9 : Int) 1))), (4, .int (zi (vC u (c9 : Int) 0))), (1, .int (zi (now))), (0, .ref (ad 0))]) hx hb dL_asks_123 hl (k := 3) rfl (by decide) rfl (fun ls hl => ?_)
                    refine lv_goto (tgt := 4) hx hb dL_asks_126 (by decide) ?_
                    rw [show (c9 : Int) + 1 = ((c9 + 1 : Nat) : Int) by omega, show zrw u c9 + vC u (c9 : Int) 3 = zrw u (c9 + 1) by rw [e3]; rfl] at hl
                    exact ih (c9 + 1) H locs ls (cells + 2 + 2 + 2 + 2 + 2) (slots + 12 + 12 + 12 + 12 + 12) (by omega) (by omega) (by omega) (by omega) (by omega) hHC hS (lv_sub hl [0, 1, 4, 5] rfl)
            · skip
              refine lv_aload_n hx hb dL_asks_73 rfl (lv_at hl 5 rfl) ?_
              refine lv_iload_n hx hb dL_asks_74 rfl (lv_at hl 3 rfl) ?_
              refine lv_iconst (v := zi (3)) hx hb dL_asks_75 rfl ?_
              refine z_invSH (n := 3) (B := A) (fun q h => h) (c_L_call l hZ (ad := ad) (u := u) (a := (c9 : Int)) (n := 3) hflags hNC hO (by omega) (by omega)) X hS (fun q h => hA q (Nat.le_trans hS.1 h)) hHC hl.1 (q_585 hT hW) (q_0 hT hW) (q_583 hT hW) (q_584 hT hW) (by decide +kernel) rfl ⟨Nat.le_of_ble_eq_true rfl, Nat.le_of_ble_eq_true rfl⟩ ⟨by show cells + 2 + 2 + 2 + 2 + 2 ≤ 500; omega, by show slots + 12 + 12 + 12 + 12 + 12 ≤ 3000; omega⟩ (Nat.le_of_ble_eq_true rfl) dL_asks_76 (fun v H locs hv hfr hS => ?_) rfl
              obtain ⟨rfl, hHC⟩ := hv
              refine z_if_ne (a := vC u (c9 : Int) 3) (tgt := 121) hx hb dL_asks_79 (by decide) (by omega) (fun h_79 => False.elim (by omega)) (fun h_79 => ?_)
              refine lv_aload_n hx hb dL_asks_82 rfl (lv_at hl 5 rfl) ?_
              refine lv_iload_n hx hb dL_asks_83 rfl (lv_at hl 3 rfl) ?_
              refine lv_iconst (v := zi (2)) hx hb dL_asks_84 rfl ?_
              refine z_invSH (n := 3) (B := A) (fun q h => h) (c_L_call l hZ (ad := ad) (u := u) (a := (c9 : Int)) (n := 2) hflags hNC hO (by omega) (by omega)) X hS (fun q h => hA q (Nat.le_trans hS.1 h)) hHC hl.1 (q_585 hT hW) (q_0 hT hW) (q_583 hT hW) (q_584 hT hW) (by decide +kernel) rfl ⟨Nat.le_of_ble_eq_true rfl, Nat.le_of_ble_eq_true rfl⟩ ⟨by show cells + 2 + 2 + 2 + 2 + 2 + 2 ≤ 500; omega, by show slots + 12 + 12 + 12 + 12 + 12 + 12 ≤ 3000; omega⟩ (Nat.le_of_ble_eq_true rfl) dL_asks_85 (fun v H locs hv hfr hS => ?_) rfl
              obtain ⟨rfl, hHC⟩ := hv
              refine z_if_ne (a := vC u (c9 : Int) 2) (tgt := 95) hx hb dL_asks_88 (by decide) (by omega) (fun h_88 => ?_) (fun h_88 => ?_)
              · skip
                refine lv_iconst (v := zi (0)) hx hb dL_asks_95 rfl ?_
                refine lv_iload hx hb dL_asks_96 (lv_at hl 1 rfl) ?_
                refine lv_iconst (v := zi (-1)) hx hb dL_asks_98 rfl ?_
                refine z_icmp_ne (a := vC u (c9 : Int) 1) (b := (-1)) (tgt := 106) hx hb dL_asks_99 (by decide) (by omega) (fun h_99 => ?_) (fun h_99 => ?_)
                · skip
                  refine lv_iconst (v := zi (0)) hx hb dL_asks_106 rfl ?_
                  refine z_icmp_ne (a := 0) (b := 0) (tgt := 121) hx hb dL_asks_107 (by decide) (by omega) (fun h_107 => False.elim (by omega)) (fun _ => ?_)
                  refine lv_iload hx hb dL_asks_110 (lv_at hl 2 rfl) ?_
                  refine lv_iconst (v := zi (2)) hx hb dL_asks_112 rfl ?_
                  refine z_icmp_ne (a := vC u (c9 : Int) 0) (b := 2) (tgt := 123) hx hb dL_asks_113 (by decide) (by omega) (fun h_113 => ?_) (fun h_113 => ?_)
                  · skip
                    refine z_iinc (a := (c9 : Int)) (n := 1) (lv' := [(3, .int (zi (((c9 : Int) + 1)))), (2, .int (zi ((zrw u c9 + vC u (c9 : Int) 3)))), (5, .int (zi (vC u (c9 : Int) 1))), (4, .int (zi (vC u (c9 : Int) 0))), (1, .int (zi (now))), (0, .ref (ad 0))]) hx hb dL_asks_123 hl (k := 3) rfl (by decide) rfl (fun ls hl => ?_)
                    refine lv_goto (tgt := 4) hx hb dL_asks_126 (by decide) ?_
                    rw [show (c9 : Int) + 1 = ((c9 + 1 : Nat) : Int) by omega, show zrw u c9 + vC u (c9 : Int) 3 = zrw u (c9 + 1) by rw [e3]; rfl] at hl
                    exact ih (c9 + 1) H locs ls (cells + 2 + 2 + 2 + 2 + 2 + 2) (slots + 12 + 12 + 12 + 12 + 12 + 12) (by omega) (by omega) (by omega) (by omega) (by omega) hHC hS (lv_sub hl [0, 1, 4, 5] rfl)
                  · skip
                    refine lv_iload hx hb dL_asks_116 (lv_at hl 1 rfl) ?_
                    refine z_if_ge (a := vC u (c9 : Int) 1) (tgt := 123) hx hb dL_asks_118 (by decide) (by omega) (fun h_118 => ?_) (fun h_118 => False.elim (by omega))
                    refine z_iinc (a := (c9 : Int)) (n := 1) (lv' := [(3, .int (zi (((c9 : Int) + 1)))), (2, .int (zi ((zrw u c9 + vC u (c9 : Int) 3)))), (5, .int (zi (vC u (c9 : Int) 1))), (4, .int (zi (vC u (c9 : Int) 0))), (1, .int (zi (now))), (0, .ref (ad 0))]) hx hb dL_asks_123 hl (k := 3) rfl (by decide) rfl (fun ls hl => ?_)
                    refine lv_goto (tgt := 4) hx hb dL_asks_126 (by decide) ?_
                    rw [show (c9 : Int) + 1 = ((c9 + 1 : Nat) : Int) by omega, show zrw u c9 + vC u (c9 : Int) 3 = zrw u (c9 + 1) by rw [e3]; rfl] at hl
                    exact ih (c9 + 1) H locs ls (cells + 2 + 2 + 2 + 2 + 2 + 2) (slots + 12 + 12 + 12 + 12 + 12 + 12) (by omega) (by omega) (by omega) (by omega) (by omega) hHC hS (lv_sub hl [0, 1, 4, 5] rfl)
                · skip
                  refine lv_iconst (v := zi (1)) hx hb dL_asks_102 rfl ?_
                  refine lv_goto (tgt := 107) hx hb dL_asks_103 (by decide) ?_
                  exact False.elim (by omega)
              · skip
                refine lv_iconst (v := zi (1)) hx hb dL_asks_91 rfl ?_
                refine lv_goto (tgt := 96) hx hb dL_asks_92 (by decide) ?_
                refine lv_iload hx hb dL_asks_96 (lv_at hl 1 rfl) ?_
                refine lv_iconst (v := zi (-1)) hx hb dL_asks_98 rfl ?_
                refine z_icmp_ne (a := vC u (c9 : Int) 1) (b := (-1)) (tgt := 106) hx hb dL_asks_99 (by decide) (by omega) (fun h_99 => ?_) (fun h_99 => ?_)
                · skip
                  refine lv_iconst (v := zi (0)) hx hb dL_asks_106 rfl ?_
                  exact False.elim (by omega)
                · skip
                  refine lv_iconst (v := zi (1)) hx hb dL_asks_102 rfl ?_
                  refine lv_goto (tgt := 107) hx hb dL_asks_103 (by decide) ?_
                  refine z_icmp_ne (a := 1) (b := 1) (tgt := 121) hx hb dL_asks_107 (by decide) (by omega) (fun h_107 => False.elim (by omega)) (fun _ => ?_)
                  refine lv_iload hx hb dL_asks_110 (lv_at hl 2 rfl) ?_
                  refine lv_iconst (v := zi (2)) hx hb dL_asks_112 rfl ?_
                  refine z_icmp_ne (a := vC u (c9 : Int) 0) (b := 2) (tgt := 123) hx hb dL_asks_113 (by decide) (by omega) (fun h_113 => ?_) (fun h_113 => ?_)
                  · skip
                    refine z_iinc (a := (c9 : Int)) (n := 1) (lv' := [(3, .int (zi (((c9 : Int) + 1)))), (2, .int (zi ((zrw u c9 + vC u (c9 : Int) 3)))), (5, .int (zi (vC u (c9 : Int) 1))), (4, .int (zi (vC u (c9 : Int) 0))), (1, .int (zi (now))), (0, .ref (ad 0))]) hx hb dL_asks_123 hl (k := 3) rfl (by decide) rfl (fun ls hl => ?_)
                    refine lv_goto (tgt := 4) hx hb dL_asks_126 (by decide) ?_
                    rw [show (c9 : Int) + 1 = ((c9 + 1 : Nat) : Int) by omega, show zrw u c9 + vC u (c9 : Int) 3 = zrw u (c9 + 1) by rw [e3]; rfl] at hl
                    exact ih (c9 + 1) H locs ls (cells + 2 + 2 + 2 + 2 + 2 + 2) (slots + 12 + 12 + 12 + 12 + 12 + 12) (by omega) (by omega) (by omega) (by omega) (by omega) hHC hS (lv_sub hl [0, 1, 4, 5] rfl)
                  · skip
                    refine lv_iload hx hb dL_asks_116 (lv_at hl 1 rfl) ?_
                    refine z_if_ge (a := vC u (c9 : Int) 1) (tgt := 123) hx hb dL_asks_118 (by decide) (by omega) (fun h_118 => ?_) (fun h_118 => False.elim (by omega))
                    refine z_iinc (a := (c9 : Int)) (n := 1) (lv' := [(3, .int (zi (((c9 : Int) + 1)))), (2, .int (zi ((zrw u c9 + vC u (c9 : Int) 3)))), (5, .int (zi (vC u (c9 : Int) 1))), (4, .int (zi (vC u (c9 : Int) 0))), (1, .int (zi (now))), (0, .ref (ad 0))]) hx hb dL_asks_123 hl (k := 3) rfl (by decide) rfl (fun ls hl => ?_)
                    refine lv_goto (tgt := 4) hx hb dL_asks_126 (by decide) ?_
                    rw [show (c9 : Int) + 1 = ((c9 + 1 : Nat) : Int) by omega, show zrw u c9 + vC u (c9 : Int) 3 = zrw u (c9 + 1) by rw [e3]; rfl] at hl
                    exact ih (c9 + 1) H locs ls (cells + 2 + 2 + 2 + 2 + 2 + 2) (slots + 12 + 12 + 12 + 12 + 12 + 12) (by omega) (by omega) (by omega) (by omega) (by omega) hHC hS (lv_sub hl [0, 1, 4, 5] rfl)
        · skip
          have e0 : vC u (c9 : Int) 0 = -2 := vC_out (by omega)
          refine lv_aload_n hx hb dL_asks_10 rfl (lv_at hl 3 rfl) ?_
          refine lv_iload_n hx hb dL_asks_11 rfl (lv_at hl 0 rfl) ?_
          refine lv_iconst (v := zi (0)) hx hb dL_asks_12 rfl ?_
          refine z_invSH (n := 3) (B := A) (fun q h => h) (c_L_call l hZ (ad := ad) (u := u) (a := (c9 : Int)) (n := 0) hflags hNC hO (by omega) (by omega)) X hS (fun q h => hA q (Nat.le_trans hS.1 h)) hHC hl.1 (q_585 hT hW) (q_0 hT hW) (q_583 hT hW) (q_584 hT hW) (by decide +kernel) rfl ⟨Nat.le_of_ble_eq_true rfl, Nat.le_of_ble_eq_true rfl⟩ ⟨by show cells + 2 ≤ 500; omega, by show slots + 12 ≤ 3000; omega⟩ (Nat.le_of_ble_eq_true rfl) dL_asks_13 (fun v H locs hv hfr hS => ?_) rfl
          obtain ⟨rfl, hHC⟩ := hv
          refine lv_istore (lv' := [(4, .int (zi (vC u (c9 : Int) 0))), (3, .int (zi ((c9 : Int)))), (2, .int (zi (zrw u c9))), (1, .int (zi (now))), (0, .ref (ad 0))]) hx hb dL_asks_16 hl (by decide) rfl (fun ls hl => ?_)
          refine lv_iload hx hb dL_asks_18 (lv_at hl 0 rfl) ?_
          refine lv_bipush (v := zi (-2)) hx hb dL_asks_20 rfl ?_
          refine z_icmp_ne (a := vC u (c9 : Int) 0) (b := (-2)) (tgt := 28) hx hb dL_asks_22 (by decide) (by omega) (fun h_22 => False.elim (by omega)) (fun h_22 => ?_)
          refine lv_goto (tgt := 129) hx hb dL_asks_25 (by decide) ?_
          refine lv_iconst (v := zi (0)) hx hb dL_asks_129 rfl ?_
          refine lv_istore_n (lv' := [(3, .int (zi (0))), (4, .int (zi (vC u (c9 : Int) 0))), (2, .int (zi (zrw u c9))), (1, .int (zi (now))), (0, .ref (ad 0))]) hx hb dL_asks_130 rfl hl (by decide) rfl (fun ls hl => ?_)
          have hcn : c9 = (u 21 0).toNat := by omega
          rw [hcn] at hl
          exact K131 7 0 H locs ls (cells + 2) (slots + 12) (by omega) (by omega) (by omega) (by omega) hHC hS (lv_sub hl [0, 2, 3, 4] rfl)
  refine lv_iconst (v := zi (0)) hx hb dL_asks_0 rfl ?_
  refine lv_istore_n (lv' := [(2, .int (zi (0))), (0, .ref (ad 0)), (1, .int (zi (now)))]) hx hb dL_asks_1 rfl hl (by decide) rfl (fun ls hl => ?_)
  refine lv_iconst (v := zi (0)) hx hb dL_asks_2 rfl ?_
  refine lv_istore_n (lv' := [(3, .int (zi (0))), (2, .int (zi (0))), (0, .ref (ad 0)), (1, .int (zi (now)))]) hx hb dL_asks_3 rfl hl (by decide) rfl (fun ls hl => ?_)
  exact K4 31 0 s.heap [] ls 0 0 (by omega) (by omega) (by omega) (by omega) (by omega) hHC9 hS (lv_sub hl [0, 1, 3, 2] rfl)
