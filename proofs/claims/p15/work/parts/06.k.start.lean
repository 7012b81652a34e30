/-! the law, from its entry -/
set_option maxHeartbeats 4000000 in
set_option maxRecDepth 100000 in
theorem whole_start {p : Program} {e : Env} {s : State} {m : MethodId} {below : List Frame} {meth : Method} {c : Code} (l : Launch) (hflags : l.flags = flags0) {b L : Nat} {xs : Nat → Int32} (hL : L ≤ 260) (C0 : lw_At p s m meth c b L xs) : W p l e room_1 s m #[Value.ref b] below meth c s.heap [] 0 0 (lw_Z below #[Value.ref b] s) (entryFrame m ([Value.ref b] : List Value).toArray 10) := by
  obtain ⟨hx, hb, hr, hml, hown, hts, hXs, hbl, hlocks, hpre⟩ := id C0
  have hst : l.stackTraces = false := by unfold Launch.stackTraces; rw [hflags]; decide
  obtain ⟨D, tc, dz, hZ, hNC⟩ := zB_start hts hpre
  have hT := hZ.1
  have hK := hZ.2.1
  have hW := State.WarmedH.refl s
  have hA : ∀ q : Nat, s.heap.size ≤ q → (fun q : Nat => s.heap.size ≤ q) q := fun _ h => h
  have hS : va_S (fun q : Nat => s.heap.size ≤ q) s.heap s.heap [] := va_S.rf
  have X : zH s (fun q : Nat => s.heap.size ≤ q) p s m c cL_law 10 RL := ⟨hx, hb, hml, hown, hW, ⟨Nat.le_refl _, fun _ _ => rfl⟩, fun q h => h, hA⟩
  have hl := lv_entry ([.ref b]) (n := 10) (Nat.le_of_ble_eq_true rfl)
  rw [lg_entry_eq]
  generalize (lg_sl ([.ref b]) ++ List.replicate (10 - (lg_sl ([.ref b])).length) Slot.unset).toArray = ls at hl ⊢
  have hl : lv_has ls 10 [(0, .ref b)] := hl
  have hR : zR D (fun q : Nat => s.heap.size ≤ q) (fun _ => none) s.heap := zR.none
  refine z_new (fs := [.null, .null, .null, .null, .int (zi (0)), .int (zi (0))]) hx hb (q_wsX5 hT hW) tyX5 tyX5_ok hown (q_22 hT hW) (q_23 hT hW) (q_1 hT hW) hK hR hS hA (ci := 6) rfl (fun j hj => match j, hj with | 0, _ => rfl | 1, _ => rfl | 2, _ => rfl | 3, _ => rfl | 4, _ => rfl | 5, _ => rfl | (k + 6), h => absurd h (by omega)) (Nat.le_of_ble_eq_true rfl) (Nat.le_of_ble_eq_true rfl) dL_law_0 (fun xa H hfr hR hS => ?_)
  have hR : zR D (fun q : Nat => s.heap.size ≤ q) (zu (fun _ => none) (xa) (.inr (6, [.null, .null, .null, .null, .int (zi (0)), .int (zi (0))]))) H := hR
  have he_1 : (zu (fun _ => none) (xa) (.inr (6, [.null, .null, .null, .null, .int (zi (0)), .int (zi (0))]))) (xa) = some (.inr (6, [.null, .null, .null, .null, .int (zi (0)), .int (zi (0))])) := zu_eq
  refine lv_dup hx hb dL_law_3 rfl ?_
  refine z_invI (n := 0) (c_X5_init l hZ he_1) X hS hR hl.1 rfl (q_26 hT hW) (q_1 hT hW) (q_24 hT hW) (q_25 hT hW) (by decide +kernel) rfl ⟨Nat.le_of_ble_eq_true rfl, Nat.le_of_ble_eq_true rfl⟩ ⟨Nat.le_of_ble_eq_true rfl, Nat.le_of_ble_eq_true rfl⟩ (Nat.le_of_ble_eq_true rfl) dL_law_4 (fun v H locs hv hS => ?_) rfl
  obtain ⟨rfl, ad, rfl, hHC⟩ := hv
  refine lv_astore_n (lv' := [(1, .ref (ad 0)), (0, .ref (b))]) hx hb dL_law_7 rfl hl (by decide) rfl (fun ls hl => ?_)
  refine lv_iconst (v := zi (0)) hx hb dL_law_8 rfl ?_
  refine lv_istore_n (lv' := [(2, .int (zi (0))), (1, .ref (ad 0)), (0, .ref (b))]) hx hb dL_law_9 rfl hl (by decide) rfl (fun ls hl => ?_)
  refine lv_iconst (v := zi (0)) hx hb dL_law_10 rfl ?_
  refine lv_istore_n (lv' := [(3, .int (zi (0))), (2, .int (zi (0))), (1, .ref (ad 0)), (0, .ref (b))]) hx hb dL_law_11 rfl hl (by decide) rfl (fun ls hl => ?_)
  refine lv_iconst (v := zi (0)) hx hb dL_law_12 rfl ?_
  refine lv_istore (lv' := [(4, .int (zi (0))), (3, .int (zi (0))), (2, .int (zi (0))), (1, .ref (ad 0)), (0, .ref (b))]) hx hb dL_law_13 hl (by decide) rfl (fun ls hl => ?_)
  exact law_loop hst hx hb hml hown hZ hNC hXs hbl hL hr hlocks 47 0 mu0 0 0 H locs ls (0 + 1 + 7) (0 + 6 + 3039) (by omega) (by omega) (by omega) (by omega) zOk_mu0 rfl (by omega) (by omega) hHC hS (lv_sub hl [0, 1, 2, 3, 4] rfl)
