/-! the law, behind its last turn; its loop -/
set_option maxHeartbeats 4000000 in
set_option maxRecDepth 100000 in
theorem law_end {p : Program} {l : Launch} {e : Env} {s : State} {m : MethodId} {below : List Frame} {meth : Method} {c : Code} {b L : Nat} {xs : Nat → Int32} {D : va_G} {tc : Nat → ClassId} {dz : Nat} {ad : Nat → Nat} (hst : l.stackTraces = false) (hx : p.tables.exec = Jvm.exec) (hb : c.code = cL_law) (hml : c.maxLocals = 10) (hown : s.vm.findClass RL = some m.cls) (hZ : zB s D tc (fun q : Nat => s.heap.size ≤ q) dz) (hNC : zNC s) (hXs : va_X b L xs s s.heap) (hbl : b < s.heap.size) (hL : L ≤ 260) (hr : meth.sig.returnType = ret) (hlocks : meth.locks = false) {u : zS_} {now t9 e0 : Int} {H : Heap} {locs : List Loc} {ls : Array Slot} {cells slots : Nat} (hO : zOk u) (hn : u 24 0 = now) (hn2 : 0 ≤ now ∧ now ≤ 300) (hce : cells + 600 ≤ 662435 ∧ slots + 4000 ≤ 7114394) (hHC : zHC D tc dz (fun q : Nat => s.heap.size ≤ q) ad u H) (hS : va_S (fun q : Nat => s.heap.size ≤ q) s.heap H locs) (hl : lv_has ls 10 [(4, .int (zi (e0))), (3, .int (zi (t9))), (2, .int (zi (now))), (1, .ref (ad 0)), (0, .ref (b))]) : W p l e room_1 s m #[Value.ref b] below meth c H locs cells slots (lw_Z below #[Value.ref b] s) (F0 m 215 ls []) := by
  have hW := State.WarmedH.refl s
  have hA : ∀ q : Nat, s.heap.size ≤ q → (fun q : Nat => s.heap.size ≤ q) q := fun q h => h
  have X : zH s (fun q : Nat => s.heap.size ≤ q) p s m c cL_law 10 RL := ⟨hx, hb, hml, hown, hW, ⟨Nat.le_refl _, fun _ _ => rfl⟩, fun q h => h, hA⟩
  have hT := hZ.1
  have hK := hZ.2.1
  have hbA : ¬ (fun q : Nat => s.heap.size ≤ q) b := fun z => absurd z (by show ¬ s.heap.size ≤ b; omega)
  have hI1 := hO.1.1
  refine lv_aload_n hx hb dL_law_215 rfl (lv_at hl 3 rfl) ?_
  refine lv_iload_n hx hb dL_law_216 rfl (lv_at hl 2 rfl) ?_
  refine z_invSB (n := 2) (B := (fun q : Nat => s.heap.size ≤ q)) (fun q h => h) (c_L_asks l hZ (ad := ad) (u := u) (now := now) hst hNC hO hn) X hS (fun q h => hA q (Nat.le_trans hS.1 h)) hHC hl.1 (q_611 hT hW) (q_0 hT hW) (q_609 hT hW) (q_610 hT hW) (by decide +kernel) rfl ⟨Nat.le_of_ble_eq_true rfl, Nat.le_of_ble_eq_true rfl⟩ ⟨by show cells + 500 ≤ 662435; omega, by show slots + 3000 ≤ 7114394; omega⟩ (Nat.le_of_ble_eq_true rfl) dL_law_217 (fun v H locs hv hfr hS => ?_) rfl
  obtain ⟨rfl, hHC⟩ := hv
  refine z_if_eq (a := 1) (tgt := 325) hx hb dL_law_220 (by decide) (by omega) (fun h_220 => False.elim (by omega)) (fun _ => ?_)
  refine lv_aload_n hx hb dL_law_223 rfl (lv_at hl 3 rfl) ?_
  refine lv_iconst (v := zi (0)) hx hb dL_law_224 rfl ?_
  refine lv_iconst (v := zi (-1)) hx hb dL_law_225 rfl ?_
  refine lv_iconst (v := zi (0)) hx hb dL_law_226 rfl ?_
  refine lv_iconst (v := zi (1)) hx hb dL_law_227 rfl ?_
  refine lv_iconst (v := zi (1)) hx hb dL_law_228 rfl ?_
  refine z_invSH (n := 6) (B := (fun q : Nat => s.heap.size ≤ q)) (fun q h => h) (c_L_does0 l hZ (ad := ad) (u := u) (a := (-1)) (b := 0) (cx := 1) (d := 1) hst hNC hO (by omega) (by omega)) X hS (fun q h => hA q (Nat.le_trans hS.1 h)) hHC hl.1 (q_112 hT hW) (q_0 hT hW) (q_110 hT hW) (q_111 hT hW) (by decide +kernel) rfl ⟨Nat.le_of_ble_eq_true rfl, Nat.le_of_ble_eq_true rfl⟩ ⟨by show cells + 500 + 7 ≤ 662435; omega, by show slots + 3000 + 76 ≤ 7114394; omega⟩ (Nat.le_of_ble_eq_true rfl) dL_law_229 (fun v H locs hv hfr hS => ?_) rfl
  skip
  have hcd0 : mcBoat u (-1) 0 1 1 ((-1) + 1) = 1 := by unfold mcBoat; omega
  obtain ⟨rfl, hHC⟩ := hv.2 (by omega)
  refine lv_bipush (v := zi (-2)) hx hb dL_law_232 rfl ?_
  refine z_icmp_ne (a := (-1 - mcBoat u (-1) 0 1 1 ((-1) + 1))) (b := (-2)) (tgt := 325) hx hb dL_law_234 (by decide) (by omega) (fun h_234 => False.elim (by omega)) (fun h_234 => ?_)
  refine lv_aload_n hx hb dL_law_237 rfl (lv_at hl 3 rfl) ?_
  refine lv_iconst (v := zi (1)) hx hb dL_law_238 rfl ?_
  refine lv_bipush (v := zi (6)) hx hb dL_law_239 rfl ?_
  refine lv_iconst (v := zi (0)) hx hb dL_law_241 rfl ?_
  refine lv_iconst (v := zi (0)) hx hb dL_law_242 rfl ?_
  refine lv_iconst (v := zi (0)) hx hb dL_law_243 rfl ?_
  refine z_invSH (n := 6) (B := (fun q : Nat => s.heap.size ≤ q)) (fun q h => h) (c_L_does1 l hZ (ad := ad) (u := u) (a := 6) (b := 0) (cx := 0) (d := 0) hst hNC hO (by omega)) X hS (fun q h => hA q (Nat.le_trans hS.1 h)) hHC hl.1 (q_112 hT hW) (q_0 hT hW) (q_110 hT hW) (q_111 hT hW) (by decide +kernel) rfl ⟨Nat.le_of_ble_eq_true rfl, Nat.le_of_ble_eq_true rfl⟩ ⟨by show cells + 500 + 7 + 2 ≤ 662435; omega, by show slots + 3000 + 76 + 12 ≤ 7114394; omega⟩ (Nat.le_of_ble_eq_true rfl) dL_law_244 (fun v H locs hv hfr hS => ?_) rfl
  skip
  have hcd1 : mcLend u 6 0 = 1 := by unfold mcLend; omega
  obtain ⟨rfl, hHC⟩ := hv.2 (by omega)
  refine lv_bipush (v := zi (-2)) hx hb dL_law_247 rfl ?_
  refine z_icmp_ne (a := (-1 - mcLend u 6 0)) (b := (-2)) (tgt := 325) hx hb dL_law_249 (by decide) (by omega) (fun h_249 => False.elim (by omega)) (fun h_249 => ?_)
  refine lv_aload_n hx hb dL_law_252 rfl (lv_at hl 3 rfl) ?_
  refine lv_iconst (v := zi (2)) hx hb dL_law_253 rfl ?_
  refine lv_iconst (v := zi (0)) hx hb dL_law_254 rfl ?_
  refine lv_bipush (v := zi (48)) hx hb dL_law_255 rfl ?_
  refine lv_iload_n hx hb dL_law_257 rfl (lv_at hl 2 rfl) ?_
  refine lv_iconst (v := zi (1)) hx hb dL_law_258 rfl ?_
  refine z_invSH (n := 6) (B := (fun q : Nat => s.heap.size ≤ q)) (fun q h => h) (c_L_does2 l hZ (ad := ad) (u := u) (a := 0) (b := 48) (cx := now) (d := 1) hst hNC hO (by omega) (by omega)) X hS (fun q h => hA q (Nat.le_trans hS.1 h)) hHC hl.1 (q_112 hT hW) (q_0 hT hW) (q_110 hT hW) (q_111 hT hW) (by decide +kernel) rfl ⟨Nat.le_of_ble_eq_true rfl, Nat.le_of_ble_eq_true rfl⟩ ⟨by show cells + 500 + 7 + 2 + 6 ≤ 662435; omega, by show slots + 3000 + 76 + 12 + 36 ≤ 7114394; omega⟩ (Nat.le_of_ble_eq_true rfl) dL_law_259 (fun v H locs hv hfr hS => ?_) rfl
  skip
  have hcd2 : mcFore u 0 48 now (now + 4) 1 = 1 := by unfold mcFore; omega
  obtain ⟨rfl, hHC⟩ := hv.2 (by omega)
  refine lv_bipush (v := zi (-2)) hx hb dL_law_262 rfl ?_
  refine z_icmp_ne (a := (-1 - mcFore u 0 48 now (now + 4) 1)) (b := (-2)) (tgt := 325) hx hb dL_law_264 (by decide) (by omega) (fun h_264 => False.elim (by omega)) (fun h_264 => ?_)
  refine lv_aload_n hx hb dL_law_267 rfl (lv_at hl 3 rfl) ?_
  refine lv_iconst (v := zi (3)) hx hb dL_law_268 rfl ?_
  refine lv_bipush (v := zi (48)) hx hb dL_law_269 rfl ?_
  refine lv_iconst (v := zi (1)) hx hb dL_law_271 rfl ?_
  refine lv_iload_n hx hb dL_law_272 rfl (lv_at hl 2 rfl) ?_
  refine lv_iconst (v := zi (1)) hx hb dL_law_273 rfl ?_
  refine z_iadd (a := now) (b := 1) hx hb dL_law_274 ?_
  refine lv_iconst (v := zi (0)) hx hb dL_law_275 rfl ?_
  refine z_invSH (n := 6) (B := (fun q : Nat => s.heap.size ≤ q)) (fun q h => h) (c_L_does3 l hZ (ad := ad) (u := u) (a := 48) (b := 1) (cx := (now + 1)) (d := 0) hst hNC hO (by omega)) X hS (fun q h => hA q (Nat.le_trans hS.1 h)) hHC hl.1 (q_112 hT hW) (q_0 hT hW) (q_110 hT hW) (q_111 hT hW) (by decide +kernel) rfl ⟨Nat.le_of_ble_eq_true rfl, Nat.le_of_ble_eq_true rfl⟩ ⟨by show cells + 500 + 7 + 2 + 6 + 5 ≤ 662435; omega, by show slots + 3000 + 76 + 12 + 36 + 59 ≤ 7114394; omega⟩ (Nat.le_of_ble_eq_true rfl) dL_law_276 (fun v H locs hv hfr hS => ?_) rfl
  skip
  have hcd3 : mcCall u 48 1 (now + 1) = 1 := by unfold mcCall; omega
  obtain ⟨rfl, hHC⟩ := hv.2 (by omega)
  refine lv_bipush (v := zi (-2)) hx hb dL_law_279 rfl ?_
  refine z_icmp_ne (a := (-1 - mcCall u 48 1 (now + 1))) (b := (-2)) (tgt := 325) hx hb dL_law_281 (by decide) (by omega) (fun h_281 => False.elim (by omega)) (fun h_281 => ?_)
  refine lv_aload_n hx hb dL_law_284 rfl (lv_at hl 3 rfl) ?_
  refine lv_iconst (v := zi (4)) hx hb dL_law_285 rfl ?_
  refine lv_iconst (v := zi (-1)) hx hb dL_law_286 rfl ?_
  refine lv_iconst (v := zi (0)) hx hb dL_law_287 rfl ?_
  refine lv_iconst (v := zi (0)) hx hb dL_law_288 rfl ?_
  refine lv_iconst (v := zi (0)) hx hb dL_law_289 rfl ?_
  refine z_invSH (n := 6) (B := (fun q : Nat => s.heap.size ≤ q)) (fun q h => h) (c_L_does4 l hZ (ad := ad) (u := u) (a := (-1)) (b := 0) (cx := 0) (d := 0) hst hNC hO (by omega)) X hS (fun q h => hA q (Nat.le_trans hS.1 h)) hHC hl.1 (q_112 hT hW) (q_0 hT hW) (q_110 hT hW) (q_111 hT hW) (by decide +kernel) rfl ⟨Nat.le_of_ble_eq_true rfl, Nat.le_of_ble_eq_true rfl⟩ ⟨by show cells + 500 + 7 + 2 + 6 + 5 + 1 ≤ 662435; omega, by show slots + 3000 + 76 + 12 + 36 + 59 + 6 ≤ 7114394; omega⟩ (Nat.le_of_ble_eq_true rfl) dL_law_290 (fun v H locs hv hfr hS => ?_) rfl
  skip
  have hcd4 : mcCap (-1) = 1 := by unfold mcCap; omega
  obtain ⟨rfl, hHC⟩ := hv.2 (by omega)
  refine lv_bipush (v := zi (-3)) hx hb dL_law_293 rfl ?_
  refine z_icmp_ne (a := (-2 - mcCap (-1))) (b := (-3)) (tgt := 325) hx hb dL_law_295 (by decide) (by omega) (fun h_295 => False.elim (by omega)) (fun h_295 => ?_)
  refine lv_aload_n hx hb dL_law_298 rfl (lv_at hl 3 rfl) ?_
  refine lv_iconst (v := zi (-1)) hx hb dL_law_299 rfl ?_
  refine lv_iconst (v := zi (0)) hx hb dL_law_300 rfl ?_
  refine z_invSH (n := 3) (B := (fun q : Nat => s.heap.size ≤ q)) (fun q h => h) (c_L_boat l hZ (ad := ad) (u := u) (a := (-1)) (n := 0) hst hNC hO (by omega) (by omega)) X hS (fun q h => hA q (Nat.le_trans hS.1 h)) hHC hl.1 (q_578 hT hW) (q_0 hT hW) (q_576 hT hW) (q_577 hT hW) (by decide +kernel) rfl ⟨Nat.le_of_ble_eq_true rfl, Nat.le_of_ble_eq_true rfl⟩ ⟨by show cells + 500 + 7 + 2 + 6 + 5 + 1 + 2 ≤ 662435; omega, by show slots + 3000 + 76 + 12 + 36 + 59 + 6 + 12 ≤ 7114394; omega⟩ (Nat.le_of_ble_eq_true rfl) dL_law_301 (fun v H locs hv hfr hS => ?_) rfl
  obtain ⟨rfl, hHC⟩ := hv
  have hvboat : vB u (-1) 0 = -2 := vB_out (by omega)
  refine lv_bipush (v := zi (-2)) hx hb dL_law_304 rfl ?_
  refine z_icmp_ne (a := vB u (-1) 0) (b := (-2)) (tgt := 325) hx hb dL_law_306 (by decide) (by omega) (fun h_306 => False.elim (by omega)) (fun h_306 => ?_)
  refine lv_aload_n hx hb dL_law_309 rfl (lv_at hl 3 rfl) ?_
  refine lv_bipush (v := zi (30)) hx hb dL_law_310 rfl ?_
  refine lv_iconst (v := zi (0)) hx hb dL_law_312 rfl ?_
  refine z_invSH (n := 3) (B := (fun q : Nat => s.heap.size ≤ q)) (fun q h => h) (c_L_call l hZ (ad := ad) (u := u) (a := 30) (n := 0) hst hNC hO (by omega) (by omega)) X hS (fun q h => hA q (Nat.le_trans hS.1 h)) hHC hl.1 (q_585 hT hW) (q_0 hT hW) (q_583 hT hW) (q_584 hT hW) (by decide +kernel) rfl ⟨Nat.le_of_ble_eq_true rfl, Nat.le_of_ble_eq_true rfl⟩ ⟨by show cells + 500 + 7 + 2 + 6 + 5 + 1 + 2 + 2 ≤ 662435; omega, by show slots + 3000 + 76 + 12 + 36 + 59 + 6 + 12 + 12 ≤ 7114394; omega⟩ (Nat.le_of_ble_eq_true rfl) dL_law_313 (fun v H locs hv hfr hS => ?_) rfl
  obtain ⟨rfl, hHC⟩ := hv
  have hvcall : vC u 30 0 = -2 := vC_out (by omega)
  refine lv_bipush (v := zi (-2)) hx hb dL_law_316 rfl ?_
  refine z_icmp_ne (a := vC u 30 0) (b := (-2)) (tgt := 325) hx hb dL_law_318 (by decide) (by omega) (fun h_318 => False.elim (by omega)) (fun h_318 => ?_)
  refine lv_iconst (v := zi (1)) hx hb dL_law_321 rfl ?_
  refine lv_goto (tgt := 326) hx hb dL_law_322 (by decide) ?_
  refine va_forget (fun q hq => hS.2.2 q hq) ?_
  refine W.widen (k := 662435) (n := 7114394) (by show cells + 500 + 7 + 2 + 6 + 5 + 1 + 2 + 2 ≤ 662435; omega) (by show slots + 3000 + 76 + 12 + 36 + 59 + 6 + 12 + 12 ≤ 7114394; omega) ?_
  exact lw_ret hx hb hr hlocks dL_law_326
set_option maxHeartbeats 4000000 in
set_option maxRecDepth 100000 in
theorem law_loop {p : Program} {l : Launch} {e : Env} {s : State} {m : MethodId} {below : List Frame} {meth : Method} {c : Code} {b L : Nat} {xs : Nat → Int32} {D : va_G} {tc : Nat → ClassId} {dz : Nat} {ad : Nat → Nat} (hst : l.stackTraces = false) (hx : p.tables.exec = Jvm.exec) (hb : c.code = cL_law) (hml : c.maxLocals = 10) (hown : s.vm.findClass RL = some m.cls) (hZ : zB s D tc (fun q : Nat => s.heap.size ≤ q) dz) (hNC : zNC s) (hXs : va_X b L xs s s.heap) (hbl : b < s.heap.size) (hL : L ≤ 260) (hr : meth.sig.returnType = ret) (hlocks : meth.locks = false) : ∀ (fu e9 : Nat) (u : zS_) (now t9 : Int) (H : Heap) (locs : List Loc) (ls : Array Slot) (cells slots : Nat), 46 < fu + e9 → e9 ≤ 46 → cells ≤ 100 + 1100 * e9 → slots ≤ 4000 + 14000 * e9 → zOk u → u 24 0 = now → (0 ≤ now ∧ now ≤ 6 * (e9 : Int)) → (0 ≤ t9 ∧ t9 ≤ (e9 : Int)) → zHC D tc dz (fun q : Nat => s.heap.size ≤ q) ad u H → va_S (fun q : Nat => s.heap.size ≤ q) s.heap H locs → lv_has ls 10 [(4, .int (zi ((e9 : Int)))), (3, .int (zi (t9))), (2, .int (zi (now))), (1, .ref (ad 0)), (0, .ref (b))] → W p l e room_1 s m #[Value.ref b] below meth c H locs cells slots (lw_Z below #[Value.ref b] s) (F0 m 15 ls []) := by
  intro fu
  induction fu with
  | zero => intro e9 u now t9 H locs ls cells slots h1 h2; omega
  | succ fu ih =>
    intro e9 u now t9 H locs ls cells slots h1 h2 h3 h4 hO hn hn2 ht hHC hS hl
    have hW := State.WarmedH.refl s
    have hA : ∀ q : Nat, s.heap.size ≤ q → (fun q : Nat => s.heap.size ≤ q) q := fun q h => h
    have X : zH s (fun q : Nat => s.heap.size ≤ q) p s m c cL_law 10 RL := ⟨hx, hb, hml, hown, hW, ⟨Nat.le_refl _, fun _ _ => rfl⟩, fun q h => h, hA⟩
    have hT := hZ.1
    have hK := hZ.2.1
    have hbA : ¬ (fun q : Nat => s.heap.size ≤ q) b := fun z => absurd z (by show ¬ s.heap.size ≤ b; omega)
    have hI1 := hO.1.1
    refine lv_iload hx hb dL_law_15 (lv_at hl 0 rfl) ?_
    refine lv_bipush (v := zi (46)) hx hb dL_law_17 rfl ?_
    refine z_icmp_ge (a := (e9 : Int)) (b := 46) (tgt := 215) hx hb dL_law_19 (by decide) (by omega) (fun h_19 => ?_) (fun h_19 => ?_)
    · skip
      exact law_end hst hx hb hml hown hZ hNC hXs hbl hL hr hlocks hO hn (by omega) (by omega) hHC hS (lv_sub hl [0, 1, 2, 3, 4] rfl)
    · skip
      refine lv_aload_n hx hb dL_law_22 rfl (lv_at hl 4 rfl) ?_
      refine lv_iconst (v := zi (2)) hx hb dL_law_23 rfl ?_
      refine lv_iload hx hb dL_law_24 (lv_at hl 0 rfl) ?_
      refine z_imul (a := 2) (b := (e9 : Int)) hx hb dL_law_26 ?_
      have hXh := hXs.kept (hS.2.1 b hbl hbA)
      refine z_invS (n := 2) (c_L_cell l hZ (b := b) (L := L) (xs := xs) (k := (2 * (e9 : Int))) hbl hL (by omega)) X hS ⟨rfl, hXh⟩ hl.1 (q_104 hT hW) (q_0 hT hW) (q_102 hT hW) (q_103 hT hW) (by decide +kernel) rfl ⟨Nat.le_of_ble_eq_true rfl, Nat.le_of_ble_eq_true rfl⟩ ⟨by show cells + 0 ≤ 662435; omega, by show slots + 0 ≤ 7114394; omega⟩ (Nat.le_of_ble_eq_true rfl) dL_law_27 (fun v H locs hv hS => ?_) rfl
      obtain ⟨hH, x1, hx1, rfl⟩ := hv
      rw [hH] at hS ⊢
      refine lv_istore (lv' := [(5, .int (zi (x1))), (4, .int (zi ((e9 : Int)))), (3, .int (zi (t9))), (2, .int (zi (now))), (1, .ref (ad 0)), (0, .ref (b))]) hx hb dL_law_30 hl (by decide) rfl (fun ls hl => ?_)
      refine lv_aload_n hx hb dL_law_32 rfl (lv_at hl 5 rfl) ?_
      refine lv_iconst (v := zi (2)) hx hb dL_law_33 rfl ?_
      refine lv_iload hx hb dL_law_34 (lv_at hl 1 rfl) ?_
      refine z_imul (a := 2) (b := (e9 : Int)) hx hb dL_law_36 ?_
      refine lv_iconst (v := zi (1)) hx hb dL_law_37 rfl ?_
      refine z_iadd (a := (2 * (e9 : Int))) (b := 1) hx hb dL_law_38 ?_
      have hXh := hXs.kept (hS.2.1 b hbl hbA)
      refine z_invS (n := 2) (c_L_cell l hZ (b := b) (L := L) (xs := xs) (k := ((2 * (e9 : Int)) + 1)) hbl hL (by omega)) X hS ⟨rfl, hXh⟩ hl.1 (q_104 hT hW) (q_0 hT hW) (q_102 hT hW) (q_103 hT hW) (by decide +kernel) rfl ⟨Nat.le_of_ble_eq_true rfl, Nat.le_of_ble_eq_true rfl⟩ ⟨by show cells + 0 + 0 ≤ 662435; omega, by show slots + 0 + 0 ≤ 7114394; omega⟩ (Nat.le_of_ble_eq_true rfl) dL_law_39 (fun v H locs hv hS => ?_) rfl
      obtain ⟨hH, x2, hx2, rfl⟩ := hv
      rw [hH] at hS ⊢
      refine lv_istore (lv' := [(6, .int (zi (x2))), (5, .int (zi (x1))), (4, .int (zi ((e9 : Int)))), (3, .int (zi (t9))), (2, .int (zi (now))), (1, .ref (ad 0)), (0, .ref (b))]) hx hb dL_law_42 hl (by decide) rfl (fun ls hl => ?_)
      refine lv_iload hx hb dL_law_44 (lv_at hl 2 rfl) ?_
      refine lv_iconst (v := zi (3)) hx hb dL_law_46 rfl ?_
      refine z_icmp_ge (a := (e9 : Int)) (b := 3) (tgt := 54) hx hb dL_law_47 (by decide) (by omega) (fun h_47 => ?_) (fun h_47 => ?_)
      · skip
        refine lv_iload hx hb dL_law_54 (lv_at hl 1 rfl) ?_
        refine lv_iconst (v := zi (3)) hx hb dL_law_56 rfl ?_
        refine lv_ishr hx hb dL_law_57 ?_
        refine lv_bipush (v := zi (13)) hx hb dL_law_58 rfl ?_
        refine z_invS (n := 2) (c_L_low l hZ (x := (zi (x1) >>> (zi (3) &&& 31))) (n := 13) (by omega)) X hS rfl hl.1 (q_108 hT hW) (q_0 hT hW) (q_106 hT hW) (q_107 hT hW) (by decide +kernel) rfl ⟨Nat.le_of_ble_eq_true rfl, Nat.le_of_ble_eq_true rfl⟩ ⟨by show cells + 0 + 0 + 0 ≤ 662435; omega, by show slots + 0 + 0 + 0 ≤ 7114394; omega⟩ (Nat.le_of_ble_eq_true rfl) dL_law_60 (fun v H locs hv hS => ?_) rfl
        obtain ⟨hH, r3, hr3, rfl⟩ := hv
        rw [hH] at hS ⊢
        refine lv_istore (lv' := [(7, .int (zi (r3))), (6, .int (zi (x2))), (5, .int (zi (x1))), (4, .int (zi ((e9 : Int)))), (3, .int (zi (t9))), (2, .int (zi (now))), (1, .ref (ad 0)), (0, .ref (b))]) hx hb dL_law_63 hl (by decide) rfl (fun ls hl => ?_)
        exact law_turn hst hx hb hml hown hZ hNC hXs hbl hL (cells := cells + 0 + 0 + 0) (slots := slots + 0 + 0 + 0) hO hn (by omega) (by omega) (by omega) (by omega) hHC hS (lv_sub hl [0, 1, 2, 3, 4, 5, 6, 7] rfl)
          (fun u' now' t' H locs ls cells' slots' hc' hs' hO' hn' hnr ht' hHC hS hl => law_tail hst hx hb hml hown hZ hNC hXs hbl hL hO' hn' (by omega) (by omega) hHC hS hl
            (fun H locs ls cells2 slots2 hc2 hs2 hHC hS hl => ih (e9 + 1) u' now' t' H locs ls cells2 slots2 (by omega) (by omega) (by omega) (by omega) hO' hn' (by omega) (by omega) hHC hS hl))
      · skip
        refine lv_iconst (v := zi (0)) hx hb dL_law_50 rfl ?_
        refine lv_goto (tgt := 63) hx hb dL_law_51 (by decide) ?_
        refine lv_istore (lv' := [(7, .int (zi (0))), (6, .int (zi (x2))), (5, .int (zi (x1))), (4, .int (zi ((e9 : Int)))), (3, .int (zi (t9))), (2, .int (zi (now))), (1, .ref (ad 0)), (0, .ref (b))]) hx hb dL_law_63 hl (by decide) rfl (fun ls hl => ?_)
        exact law_turn hst hx hb hml hown hZ hNC hXs hbl hL (cells := cells + 0 + 0) (slots := slots + 0 + 0) hO hn (by omega) (by omega) (by omega) (by omega) hHC hS (lv_sub hl [0, 1, 2, 3, 4, 5, 6, 7] rfl)
          (fun u' now' t' H locs ls cells' slots' hc' hs' hO' hn' hnr ht' hHC hS hl => law_tail hst hx hb hml hown hZ hNC hXs hbl hL hO' hn' (by omega) (by omega) hHC hS hl
            (fun H locs ls cells2 slots2 hc2 hs2 hHC hS hl => ih (e9 + 1) u' now' t' H locs ls cells2 slots2 (by omega) (by omega) (by omega) (by omega) hO' hn' (by omega) (by omega) hHC hS hl))
