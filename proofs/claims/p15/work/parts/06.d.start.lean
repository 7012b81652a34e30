/-! what holds at the law's start -/
def zfree (w : Cond) : Bool := match w with
  | .laysStatic .. | .stringRef .. | .arrayOver _ | .arrayClass _ | .interfaceEntry .. => true
  | _ => false
theorem lw_ot1 : lw_tbl.all (fun w => w.onTables || zfree w) = true := by decide +kernel
theorem lw_ot : ∀ w ∈ lw_tbl, (w.onTables || zfree w) = true := List.all_eq_true.mp lw_ot1
theorem zfree_ok {s : State} {A : Array Value} (w : Cond) (h : zfree w = true) (hb : w.before A s = true) : w.before #[] s = true := by
  cases w <;> first | exact hb | (simp [zfree] at h; done)
theorem zT_start {s : State} {A : Array Value} (hts : ∀ w ∈ lw_tbl, w.before A s = true) : zT s := fun w hw => by
  have h1 := lw_ot w hw
  rw [Bool.or_eq_true] at h1
  rcases h1 with h | h
  · exact va_Nw.of h (hts w hw)
  · exact zfree_ok w h (hts w hw)
theorem zarr {s : State} {args : Array Value} {ty : FieldType} (h : (Cond.arrayClass ty).before args s = true) (hn : ∀ C, ty ≠ .object C) : ∃ c : ClassId, ArrOfT s c ty ∧ va_RA s c ty := by
  obtain ⟨c, k, comp, h1, h2, h3⟩ := Cond.arrayClass_spec h
  refine ⟨c, fun N z => ⟨(fun k h => by cases h), k, h2, comp, h3⟩, ?_⟩
  cases ty with
  | object C => exact absurd rfl (hn C)
  | _ => exact h1
theorem zarrO {s : State} {args : Array Value} {C : String} (h : (Cond.arrayOver (.object C)).before args s = true) : ∃ c : ClassId, ArrOfT s c (.object C) ∧ va_RA s c (.object C) := by
  obtain ⟨comp, c, k, h1, h2, h3, h4, h5⟩ := Cond.arrayOver_spec h
  exact ⟨c, fun N z => ⟨(fun k h => by cases h), k, h3, comp, h4⟩, k, comp, h3, h4, h1, h5⟩
set_option maxHeartbeats 4000000 in
set_option maxRecDepth 100000 in
theorem zB_start {s : State} {b : Nat} (hts : ∀ w ∈ lw_tbl, w.before #[Value.ref b] s = true) (hpre : (Jvm.Cond.and given_1 narrow_1).before #[Value.ref b] s = true) : ∃ (D : va_G) (tc : Nat → ClassId) (dz : Nat), zB s D tc (fun q => s.heap.size ≤ q) dz ∧ zNC s := by
  have hT := zT_start hts
  have hW := State.WarmedH.refl s
  have hs := flat_of_before _ hpre
  have hA : ∀ a : Nat, a < s.heap.size → ¬ (fun q => s.heap.size ≤ q) a := fun a h z => absurd z (by show ¬ s.heap.size ≤ a; omega)
  obtain ⟨k0, i0, h0⟩ := u_known (q_wsJx4a65c (args := #[]) hT hW) (fun _ h => h) (q_48 (args := #[]) hT hW)
  obtain ⟨k1, i1, h1⟩ := u_known (q_wsX0 (args := #[]) hT hW) (fun _ h => h) (q_241 (args := #[]) hT hW)
  obtain ⟨k2, i2, h2⟩ := u_known (q_wsX1 (args := #[]) hT hW) (fun _ h => h) (q_413 (args := #[]) hT hW)
  obtain ⟨k3, i3, h3⟩ := u_known (q_wsX2 (args := #[]) hT hW) (fun _ h => h) (q_503 (args := #[]) hT hW)
  obtain ⟨k4, i4, h4⟩ := u_known (q_wsX3 (args := #[]) hT hW) (fun _ h => h) (q_42 (args := #[]) hT hW)
  obtain ⟨k5, i5, h5⟩ := u_known (q_wsX4 (args := #[]) hT hW) (fun _ h => h) (q_31 (args := #[]) hT hW)
  obtain ⟨k6, i6, h6⟩ := u_known (q_wsX5 (args := #[]) hT hW) (fun _ h => h) (q_23 (args := #[]) hT hW)
  obtain ⟨t0, a0⟩ := zarr (q_73 (args := #[]) hT hW) (fun C z => by cases z)
  obtain ⟨t1, a1⟩ := zarr (q_190 (args := #[]) hT hW) (fun C z => by cases z)
  obtain ⟨t2, a2⟩ := zarr (q_40 (args := #[]) hT hW) (fun C z => by cases z)
  obtain ⟨t3, a3⟩ := zarr (q_190 (args := #[]) hT hW) (fun C z => by cases z)
  obtain ⟨t4, a4⟩ := zarrO (q_347 hT)
  obtain ⟨dz, hd1, hd2⟩ := va_Tof (N := 0) (f := fun _ => .null) (tm := .static "java/util/ArrayList" "DEFAULTCAPACITY_EMPTY_ELEMENTDATA" "[Ljava/lang/Object;") (ty := .object "java/lang/Object") (by decide) (hs _ (by decide +kernel)) (va_eqt (hs (.eq (.length (.static "java/util/ArrayList" "DEFAULTCAPACITY_EMPTY_ELEMENTDATA" "[Ljava/lang/Object;")) (.int 0)) (by decide +kernel))) (fun j hj => absurd hj (Nat.not_lt_zero j)) hA
  refine ⟨(fun c => match c with | 0 => k0 | 1 => k1 | 2 => k2 | 3 => k3 | 4 => k4 | 5 => k5 | _ => k6, fun c => match c with | 0 => i0 | 1 => i1 | 2 => i2 | 3 => i3 | 4 => i4 | 5 => i5 | _ => i6), fun k => match k with | 0 => t0 | 1 => t1 | 2 => t2 | 3 => t3 | _ => t4, dz, ⟨hT, ⟨fun c q hq => ?_, fun k q hk => ?_⟩, fun q h => h, va_Zof (hts _ (by decide +kernel)) (hts _ (by decide +kernel)) hd1 hA, hd2, vx_Zqof (hts _ (by decide +kernel)) (hts _ (by decide +kernel)) (hs _ (by decide +kernel)) hA, vx_Zqof (hts _ (by decide +kernel)) (hts _ (by decide +kernel)) (hs _ (by decide +kernel)) hA, va_Mi.of (hs _ (by decide +kernel)), fun k tx hk h => ?_⟩, va_Nc.of (hs _ (by decide +kernel)), va_Nc.of (hs _ (by decide +kernel)), va_Nc.of (hs _ (by decide +kernel))⟩
  · match c, hq with
    | 0, hq => cases hq; exact h0
    | 1, hq => cases hq; exact h1
    | 2, hq => cases hq; exact h2
    | 3, hq => cases hq; exact h3
    | 4, hq => cases hq; exact h4
    | 5, hq => cases hq; exact h5
    | 6, hq => cases hq; exact h6
    | c + 7, hq => cases hq
  · match k, hk with
    | 0, hk => cases hk; exact a0
    | 1, hk => cases hk; exact a1
    | 2, hk => cases hk; exact a2
    | 3, hk => cases hk; exact a3
    | 4, hk => cases hk; exact a4
    | k + 5, hk => cases hk
  · have key : ∀ k ∈ zstr, (Cond.exactly (.string RX5 k) "java/lang/String").before #[Value.ref b] s = true := by
      intro k hk
      simp only [zstr, List.mem_cons, List.not_mem_nil, or_false] at hk
      rcases hk with rfl | rfl | rfl | rfl | rfl | rfl | rfl | rfl | rfl <;> exact hs _ (by decide +kernel)
    obtain ⟨sa, c, cA, kA, q1, -⟩ := Cond.exactly_spec (key k hk)
    exact ⟨sa, vk_R.of (A := #[Value.ref b]) h q1⟩
