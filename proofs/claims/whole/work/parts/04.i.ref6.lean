def mu0 : zS_ := fun k _ => if k = 23 then 200 else 0
/-- the rows of the fields below n are made -/
def mI (tc : Nat → ClassId) (aM : Nat → Nat) (n : Nat) (w : zW) : Prop := (∀ k, k < n → mar k → w (aM k) = some (mA tc (fun _ _ => 0) k)) ∧ ∀ j k, j < n → k < n → mar j → mar k → aM j = aM k → j = k
theorem mI.arr {tc : Nat → ClassId} {aM : Nat → Nat} {n m0 q : Nat} {w : zW} {fs fs' : List Value} (h : mI tc aM n w) (hfr : ∀ (q' : Nat) (e' : va_E), w q' = some e' → q' ≠ q) (hm : w m0 = some (.inr (7, fs))) : mI tc (fun j => if j = n then q else aM j) (n + 1) (zu (zu w q (mA tc (fun _ _ => 0) n)) m0 (.inr (7, fs'))) := by
  have hm0 : m0 ≠ q := hfr _ _ hm
  have key : ∀ k, k < n → mar k → aM k ≠ q ∧ aM k ≠ m0 := fun k h1 h2 => ⟨hfr _ _ (h.1 k h1 h2), zne (h.1 k h1 h2) hm (by intro z; cases z)⟩
  refine ⟨fun k hk hk2 => ?_, fun j k hj hk hj2 hk2 e => ?_⟩
  · by_cases e : k = n
    · subst e
      show zu _ _ _ (if k = k then q else aM k) = _
      rw [if_pos rfl, zu_ne (Ne.symm hm0)]; exact zu_eq
    · have h1 := key k (by omega) hk2
      show zu _ _ _ (if k = n then q else aM k) = _
      rw [if_neg e, zu_ne h1.2, zu_ne h1.1]; exact h.1 k (by omega) hk2
  · have e : (if j = n then q else aM j) = (if k = n then q else aM k) := e
    by_cases e1 : j = n
    · by_cases e2 : k = n
      · omega
      · rw [if_pos e1, if_neg e2] at e
        exact absurd e.symm (key k (by omega) hk2).1
    · by_cases e2 : k = n
      · rw [if_neg e1, if_pos e2] at e
        exact absurd e (key j (by omega) hj2).1
      · rw [if_neg e1, if_neg e2] at e
        exact h.2 j k (by omega) (by omega) hj2 hk2 e
theorem mI.num {tc : Nat → ClassId} {aM : Nat → Nat} {n n' m0 : Nat} {w : zW} {fs fs' : List Value} (h : mI tc aM n w) (hn : ∀ k, k < n' → mar k → k < n) (hm : w m0 = some (.inr (7, fs))) : mI tc aM n' (zu w m0 (.inr (7, fs'))) :=
  ⟨fun k hk hk2 => (zu_ne (zne (h.1 k (hn k hk hk2) hk2) hm (by intro z; cases z))).trans (h.1 k (hn k hk hk2) hk2), fun j k hj hk hj2 hk2 e => h.2 j k (hn j hj hj2) (hn k hk hk2) hj2 hk2 e⟩
theorem mI.skip {tc : Nat → ClassId} {aM : Nat → Nat} {n n' : Nat} {w : zW} (h : mI tc aM n w) (hn : ∀ k, k < n' → mar k → k < n) : mI tc aM n' w :=
  ⟨fun k hk hk2 => h.1 k (hn k hk hk2) hk2, fun j k hj hk hj2 hk2 e => h.2 j k (hn j hj hj2) (hn k hk hk2) hj2 hk2 e⟩
theorem mA_0 {tc : Nat → ClassId} {k : Nat} (hk : mar k) : mA tc mu0 k = mA tc (fun _ _ => 0) k := by
  have e : mu0 k = fun _ => 0 := by
    funext j
    unfold mu0
    rw [if_neg (by unfold mar at hk; omega)]
  unfold mA
  rw [e]
set_option maxHeartbeats 4000000 in
set_option maxRecDepth 100000 in
theorem c_X6_init (l : Launch) {S : State} {D : va_G} {tc : Nat → ClassId} {A : Nat → Prop} {dz : Nat} (hZ : zB S D tc A dz) {w : zW} {m0 : Nat} (hb0 : w m0 = some (.inr (7, [.null, .null, .null, .null, .null, .null, .null, .null, .null, .null, .null, .null, .null, .int (zi (0)), .null, .null, .null, .null, .null, .null, .null, .int (zi (0)), .null, .int (zi (0)), .int (zi (0)), .int (zi (0))]))) : zM l S A yX6_init cX6_init 1 (Option.none : Option Jvm.ClassFile.FieldType) { frames := 2, locals := 60, cells := 21, slots := 48285 } [.ref m0] (zR D A w) (fun v H => v = none ∧ ∃ aM, mH D tc A m0 aM mu0 H) := by
  refine zM.mk (by decide +kernel) (Nat.le_of_ble_eq_true rfl) ?_
  intro p e s m below meth c ls X0 hR hl
  obtain ⟨hx, hb, hml, hr, hlocks, hown, hnm, hW, hpre, hA⟩ := X0
  have X : zH S A p s m c cX6_init 1 RX6 := ⟨hx, hb, hml, hown, hW, hpre, hA, hZ.2.2.1⟩
  have hT := hZ.1
  have hK := va_K.moved hW.alike hZ.2.1
  have hS : va_S A s.heap s.heap [] := va_S.rf
  have hl : lv_has ls 1 [(0, .ref m0)] := hl
  skip
  have hi_a : mI tc (fun _ => 0) 0 w := ⟨fun k hk => absurd hk (Nat.not_lt_zero k), fun j k hj => absurd hj (Nat.not_lt_zero j)⟩
  refine lv_aload_n hx hb dX6_init_0 rfl (lv_at hl 0 rfl) ?_
  refine W.objInit hx hb hown (q_662 hT hW) (q_29 hT hW) (q_30 hT hW) rfl (by rw [hml]; exact hl.1) rfl dX6_init_1 (Nat.le_of_ble_eq_true rfl) (Nat.le_of_ble_eq_true rfl) ?_
  refine W.eq (g2 := F0 m 4 ls []) rfl ?_
  refine lv_aload_n hx hb dX6_init_4 rfl (lv_at hl 0 rfl) ?_
  refine lv_ldc (v := zi 48000) hx hb hown (q_663 hT hW) dX6_init_5 ?_
  refine z_newa (atype := .byte) (n := 48000) (N := 48000) (ty := .byte) (a0 := (48000, .inl (fun _ => zi 0))) hx hb (q_183 hT hW) rfl hK hR hS hA (by decide +kernel) 1 rfl (fun cA => rfl) (by omega) (by decide +kernel) (by decide +kernel) (by decide +kernel) dX6_init_7 (fun q0 H hfr hR hS => ?_)
  have hR : zR D A (zu w q0 (mA tc (fun _ _ => 0) 0)) H := hR
  have hm9 : (zu w q0 (mA tc (fun _ _ => 0) 0)) m0 = some (.inr (7, [.null, .null, .null, .null, .null, .null, .null, .null, .null, .null, .null, .null, .null, .int (zi (0)), .null, .null, .null, .null, .null, .null, .null, .int (zi (0)), .null, .int (zi (0)), .int (zi (0)), .int (zi (0))])) := (zu_ne (hfr _ _ hb0)).trans hb0
  refine z_putF hx hb (q_wsX6 hT hW) tyX6 tyX6_ok nmX6 hown hK hR hS hm9 rfl 0 (by decide) (q_664 hT hW) (fun _ h => h) rfl hnm rfl (tyX6_ok 0 (by decide)) rfl rfl (Nat.le_of_ble_eq_true rfl) dX6_init_9 (fun H locs hR hS => ?_)
  obtain ⟨aM0, ha0⟩ : ∃ z : Nat → Nat, z = fun j => if j = 0 then q0 else (fun _ => 0) j := ⟨_, rfl⟩
  have hi_0 : mI tc aM0 1 (zu (zu w q0 (mA tc (fun _ _ => 0) 0)) m0 (.inr (7, [.ref (q0), .null, .null, .null, .null, .null, .null, .null, .null, .null, .null, .null, .null, .int (zi (0)), .null, .null, .null, .null, .null, .null, .null, .int (zi (0)), .null, .int (zi (0)), .int (zi (0)), .int (zi (0))]))) := by rw [ha0]; exact hi_a.arr hfr hb0
  clear hfr
  obtain ⟨w0, hw0⟩ : ∃ z, z = zu (zu w q0 (mA tc (fun _ _ => 0) 0)) m0 (.inr (7, [.ref (q0), .null, .null, .null, .null, .null, .null, .null, .null, .null, .null, .null, .null, .int (zi (0)), .null, .null, .null, .null, .null, .null, .null, .int (zi (0)), .null, .int (zi (0)), .int (zi (0)), .int (zi (0))])) := ⟨_, rfl⟩
  have hR : zR D A w0 H := by rw [hw0]; exact hR
  rw [← hw0] at hi_0
  have hm_0 : w0 m0 = some (.inr (7, [.ref (q0), .null, .null, .null, .null, .null, .null, .null, .null, .null, .null, .null, .null, .int (zi (0)), .null, .null, .null, .null, .null, .null, .null, .int (zi (0)), .null, .int (zi (0)), .int (zi (0)), .int (zi (0))])) := by rw [hw0]; exact zu_eq
  clear hw0 hm9
  refine lv_aload_n hx hb dX6_init_12 rfl (lv_at hl 0 rfl) ?_
  refine lv_bipush (v := zi (6)) hx hb dX6_init_13 rfl ?_
  refine z_newa (atype := .int) (n := 6) (N := 6) (ty := .int) (a0 := (6, .inl (fun _ => zi 0))) hx hb (q_74 hT hW) rfl hK hR hS hA (by decide +kernel) 0 rfl (fun cA => rfl) (by omega) (by decide +kernel) (by decide +kernel) (by decide +kernel) dX6_init_15 (fun q1 H hfr hR hS => ?_)
  have hR : zR D A (zu w0 q1 (mA tc (fun _ _ => 0) 1)) H := hR
  have hm9 : (zu w0 q1 (mA tc (fun _ _ => 0) 1)) m0 = some (.inr (7, [.ref (q0), .null, .null, .null, .null, .null, .null, .null, .null, .null, .null, .null, .null, .int (zi (0)), .null, .null, .null, .null, .null, .null, .null, .int (zi (0)), .null, .int (zi (0)), .int (zi (0)), .int (zi (0))])) := (zu_ne (hfr _ _ hm_0)).trans hm_0
  refine z_putF hx hb (q_wsX6 hT hW) tyX6 tyX6_ok nmX6 hown hK hR hS hm9 rfl 1 (by decide) (q_665 hT hW) (fun _ h => h) rfl hnm rfl (tyX6_ok 1 (by decide)) rfl rfl (Nat.le_of_ble_eq_true rfl) dX6_init_17 (fun H locs hR hS => ?_)
  obtain ⟨aM1, ha1⟩ : ∃ z : Nat → Nat, z = fun j => if j = 1 then q1 else aM0 j := ⟨_, rfl⟩
  have hi_1 : mI tc aM1 2 (zu (zu w0 q1 (mA tc (fun _ _ => 0) 1)) m0 (.inr (7, [.ref (q0), .ref (q1), .null, .null, .null, .null, .null, .null, .null, .null, .null, .null, .null, .int (zi (0)), .null, .null, .null, .null, .null, .null, .null, .int (zi (0)), .null, .int (zi (0)), .int (zi (0)), .int (zi (0))]))) := by rw [ha1]; exact hi_0.arr hfr hm_0
  clear hfr
  obtain ⟨w1, hw1⟩ : ∃ z, z = zu (zu w0 q1 (mA tc (fun _ _ => 0) 1)) m0 (.inr (7, [.ref (q0), .ref (q1), .null, .null, .null, .null, .null, .null, .null, .null, .null, .null, .null, .int (zi (0)), .null, .null, .null, .null, .null, .null, .null, .int (zi (0)), .null, .int (zi (0)), .int (zi (0)), .int (zi (0))])) := ⟨_, rfl⟩
  have hR : zR D A w1 H := by rw [hw1]; exact hR
  rw [← hw1] at hi_1
  have hm_1 : w1 m0 = some (.inr (7, [.ref (q0), .ref (q1), .null, .null, .null, .null, .null, .null, .null, .null, .null, .null, .null, .int (zi (0)), .null, .null, .null, .null, .null, .null, .null, .int (zi (0)), .null, .int (zi (0)), .int (zi (0)), .int (zi (0))])) := by rw [hw1]; exact zu_eq
  clear hw1 hm9
  refine lv_aload_n hx hb dX6_init_20 rfl (lv_at hl 0 rfl) ?_
  refine lv_bipush (v := zi (6)) hx hb dX6_init_21 rfl ?_
  refine z_newa (atype := .int) (n := 6) (N := 6) (ty := .int) (a0 := (6, .inl (fun _ => zi 0))) hx hb (q_74 hT hW) rfl hK hR hS hA (by decide +kernel) 0 rfl (fun cA => rfl) (by omega) (by decide +kernel) (by decide +kernel) (by decide +kernel) dX6_init_23 (fun q2 H hfr hR hS => ?_)
  have hR : zR D A (zu w1 q2 (mA tc (fun _ _ => 0) 2)) H := hR
  have hm9 : (zu w1 q2 (mA tc (fun _ _ => 0) 2)) m0 = some (.inr (7, [.ref (q0), .ref (q1), .null, .null, .null, .null, .null, .null, .null, .null, .null, .null, .null, .int (zi (0)), .null, .null, .null, .null, .null, .null, .null, .int (zi (0)), .null, .int (zi (0)), .int (zi (0)), .int (zi (0))])) := (zu_ne (hfr _ _ hm_1)).trans hm_1
  refine z_putF hx hb (q_wsX6 hT hW) tyX6 tyX6_ok nmX6 hown hK hR hS hm9 rfl 2 (by decide) (q_666 hT hW) (fun _ h => h) rfl hnm rfl (tyX6_ok 2 (by decide)) rfl rfl (Nat.le_of_ble_eq_true rfl) dX6_init_25 (fun H locs hR hS => ?_)
  obtain ⟨aM2, ha2⟩ : ∃ z : Nat → Nat, z = fun j => if j = 2 then q2 else aM1 j := ⟨_, rfl⟩
  have hi_2 : mI tc aM2 3 (zu (zu w1 q2 (mA tc (fun _ _ => 0) 2)) m0 (.inr (7, [.ref (q0), .ref (q1), .ref (q2), .null, .null, .null, .null, .null, .null, .null, .null, .null, .null, .int (zi (0)), .null, .null, .null, .null, .null, .null, .null, .int (zi (0)), .null, .int (zi (0)), .int (zi (0)), .int (zi (0))]))) := by rw [ha2]; exact hi_1.arr hfr hm_1
  clear hfr
  obtain ⟨w2, hw2⟩ : ∃ z, z = zu (zu w1 q2 (mA tc (fun _ _ => 0) 2)) m0 (.inr (7, [.ref (q0), .ref (q1), .ref (q2), .null, .null, .null, .null, .null, .null, .null, .null, .null, .null, .int (zi (0)), .null, .null, .null, .null, .null, .null, .null, .int (zi (0)), .null, .int (zi (0)), .int (zi (0)), .int (zi (0))])) := ⟨_, rfl⟩
  have hR : zR D A w2 H := by rw [hw2]; exact hR
  rw [← hw2] at hi_2
  have hm_2 : w2 m0 = some (.inr (7, [.ref (q0), .ref (q1), .ref (q2), .null, .null, .null, .null, .null, .null, .null, .null, .null, .null, .int (zi (0)), .null, .null, .null, .null, .null, .null, .null, .int (zi (0)), .null, .int (zi (0)), .int (zi (0)), .int (zi (0))])) := by rw [hw2]; exact zu_eq
  clear hw2 hm9
  refine lv_aload_n hx hb dX6_init_28 rfl (lv_at hl 0 rfl) ?_
  refine lv_bipush (v := zi (6)) hx hb dX6_init_29 rfl ?_
  refine z_newa (atype := .int) (n := 6) (N := 6) (ty := .int) (a0 := (6, .inl (fun _ => zi 0))) hx hb (q_74 hT hW) rfl hK hR hS hA (by decide +kernel) 0 rfl (fun cA => rfl) (by omega) (by decide +kernel) (by decide +kernel) (by decide +kernel) dX6_init_31 (fun q3 H hfr hR hS => ?_)
  have hR : zR D A (zu w2 q3 (mA tc (fun _ _ => 0) 3)) H := hR
  have hm9 : (zu w2 q3 (mA tc (fun _ _ => 0) 3)) m0 = some (.inr (7, [.ref (q0), .ref (q1), .ref (q2), .null, .null, .null, .null, .null, .null, .null, .null, .null, .null, .int (zi (0)), .null, .null, .null, .null, .null, .null, .null, .int (zi (0)), .null, .int (zi (0)), .int (zi (0)), .int (zi (0))])) := (zu_ne (hfr _ _ hm_2)).trans hm_2
  refine z_putF hx hb (q_wsX6 hT hW) tyX6 tyX6_ok nmX6 hown hK hR hS hm9 rfl 3 (by decide) (q_667 hT hW) (fun _ h => h) rfl hnm rfl (tyX6_ok 3 (by decide)) rfl rfl (Nat.le_of_ble_eq_true rfl) dX6_init_33 (fun H locs hR hS => ?_)
  obtain ⟨aM3, ha3⟩ : ∃ z : Nat → Nat, z = fun j => if j = 3 then q3 else aM2 j := ⟨_, rfl⟩
  have hi_3 : mI tc aM3 4 (zu (zu w2 q3 (mA tc (fun _ _ => 0) 3)) m0 (.inr (7, [.ref (q0), .ref (q1), .ref (q2), .ref (q3), .null, .null, .null, .null, .null, .null, .null, .null, .null, .int (zi (0)), .null, .null, .null, .null, .null, .null, .null, .int (zi (0)), .null, .int (zi (0)), .int (zi (0)), .int (zi (0))]))) := by rw [ha3]; exact hi_2.arr hfr hm_2
  clear hfr
  obtain ⟨w3, hw3⟩ : ∃ z, z = zu (zu w2 q3 (mA tc (fun _ _ => 0) 3)) m0 (.inr (7, [.ref (q0), .ref (q1), .ref (q2), .ref (q3), .null, .null, .null, .null, .null, .null, .null, .null, .null, .int (zi (0)), .null, .null, .null, .null, .null, .null, .null, .int (zi (0)), .null, .int (zi (0)), .int (zi (0)), .int (zi (0))])) := ⟨_, rfl⟩
  have hR : zR D A w3 H := by rw [hw3]; exact hR
  rw [← hw3] at hi_3
  have hm_3 : w3 m0 = some (.inr (7, [.ref (q0), .ref (q1), .ref (q2), .ref (q3), .null, .null, .null, .null, .null, .null, .null, .null, .null, .int (zi (0)), .null, .null, .null, .null, .null, .null, .null, .int (zi (0)), .null, .int (zi (0)), .int (zi (0)), .int (zi (0))])) := by rw [hw3]; exact zu_eq
  clear hw3 hm9
  refine lv_aload_n hx hb dX6_init_36 rfl (lv_at hl 0 rfl) ?_
  refine lv_bipush (v := zi (6)) hx hb dX6_init_37 rfl ?_
  refine z_newa (atype := .int) (n := 6) (N := 6) (ty := .int) (a0 := (6, .inl (fun _ => zi 0))) hx hb (q_74 hT hW) rfl hK hR hS hA (by decide +kernel) 0 rfl (fun cA => rfl) (by omega) (by decide +kernel) (by decide +kernel) (by decide +kernel) dX6_init_39 (fun q4 H hfr hR hS => ?_)
  have hR : zR D A (zu w3 q4 (mA tc (fun _ _ => 0) 4)) H := hR
  have hm9 : (zu w3 q4 (mA tc (fun _ _ => 0) 4)) m0 = some (.inr (7, [.ref (q0), .ref (q1), .ref (q2), .ref (q3), .null, .null, .null, .null, .null, .null, .null, .null, .null, .int (zi (0)), .null, .null, .null, .null, .null, .null, .null, .int (zi (0)), .null, .int (zi (0)), .int (zi (0)), .int (zi (0))])) := (zu_ne (hfr _ _ hm_3)).trans hm_3
  refine z_putF hx hb (q_wsX6 hT hW) tyX6 tyX6_ok nmX6 hown hK hR hS hm9 rfl 4 (by decide) (q_668 hT hW) (fun _ h => h) rfl hnm rfl (tyX6_ok 4 (by decide)) rfl rfl (Nat.le_of_ble_eq_true rfl) dX6_init_41 (fun H locs hR hS => ?_)
  obtain ⟨aM4, ha4⟩ : ∃ z : Nat → Nat, z = fun j => if j = 4 then q4 else aM3 j := ⟨_, rfl⟩
  have hi_4 : mI tc aM4 5 (zu (zu w3 q4 (mA tc (fun _ _ => 0) 4)) m0 (.inr (7, [.ref (q0), .ref (q1), .ref (q2), .ref (q3), .ref (q4), .null, .null, .null, .null, .null, .null, .null, .null, .int (zi (0)), .null, .null, .null, .null, .null, .null, .null, .int (zi (0)), .null, .int (zi (0)), .int (zi (0)), .int (zi (0))]))) := by rw [ha4]; exact hi_3.arr hfr hm_3
  clear hfr
  obtain ⟨w4, hw4⟩ : ∃ z, z = zu (zu w3 q4 (mA tc (fun _ _ => 0) 4)) m0 (.inr (7, [.ref (q0), .ref (q1), .ref (q2), .ref (q3), .ref (q4), .null, .null, .null, .null, .null, .null, .null, .null, .int (zi (0)), .null, .null, .null, .null, .null, .null, .null, .int (zi (0)), .null, .int (zi (0)), .int (zi (0)), .int (zi (0))])) := ⟨_, rfl⟩
  have hR : zR D A w4 H := by rw [hw4]; exact hR
  rw [← hw4] at hi_4
  have hm_4 : w4 m0 = some (.inr (7, [.ref (q0), .ref (q1), .ref (q2), .ref (q3), .ref (q4), .null, .null, .null, .null, .null, .null, .null, .null, .int (zi (0)), .null, .null, .null, .null, .null, .null, .null, .int (zi (0)), .null, .int (zi (0)), .int (zi (0)), .int (zi (0))])) := by rw [hw4]; exact zu_eq
  clear hw4 hm9
  refine lv_aload_n hx hb dX6_init_44 rfl (lv_at hl 0 rfl) ?_
  refine lv_bipush (v := zi (6)) hx hb dX6_init_45 rfl ?_
  refine z_newa (atype := .int) (n := 6) (N := 6) (ty := .int) (a0 := (6, .inl (fun _ => zi 0))) hx hb (q_74 hT hW) rfl hK hR hS hA (by decide +kernel) 0 rfl (fun cA => rfl) (by omega) (by decide +kernel) (by decide +kernel) (by decide +kernel) dX6_init_47 (fun q5 H hfr hR hS => ?_)
  have hR : zR D A (zu w4 q5 (mA tc (fun _ _ => 0) 5)) H := hR
  have hm9 : (zu w4 q5 (mA tc (fun _ _ => 0) 5)) m0 = some (.inr (7, [.ref (q0), .ref (q1), .ref (q2), .ref (q3), .ref (q4), .null, .null, .null, .null, .null, .null, .null, .null, .int (zi (0)), .null, .null, .null, .null, .null, .null, .null, .int (zi (0)), .null, .int (zi (0)), .int (zi (0)), .int (zi (0))])) := (zu_ne (hfr _ _ hm_4)).trans hm_4
  refine z_putF hx hb (q_wsX6 hT hW) tyX6 tyX6_ok nmX6 hown hK hR hS hm9 rfl 5 (by decide) (q_669 hT hW) (fun _ h => h) rfl hnm rfl (tyX6_ok 5 (by decide)) rfl rfl (Nat.le_of_ble_eq_true rfl) dX6_init_49 (fun H locs hR hS => ?_)
  obtain ⟨aM5, ha5⟩ : ∃ z : Nat → Nat, z = fun j => if j = 5 then q5 else aM4 j := ⟨_, rfl⟩
  have hi_5 : mI tc aM5 6 (zu (zu w4 q5 (mA tc (fun _ _ => 0) 5)) m0 (.inr (7, [.ref (q0), .ref (q1), .ref (q2), .ref (q3), .ref (q4), .ref (q5), .null, .null, .null, .null, .null, .null, .null, .int (zi (0)), .null, .null, .null, .null, .null, .null, .null, .int (zi (0)), .null, .int (zi (0)), .int (zi (0)), .int (zi (0))]))) := by rw [ha5]; exact hi_4.arr hfr hm_4
  clear hfr
  obtain ⟨w5, hw5⟩ : ∃ z, z = zu (zu w4 q5 (mA tc (fun _ _ => 0) 5)) m0 (.inr (7, [.ref (q0), .ref (q1), .ref (q2), .ref (q3), .ref (q4), .ref (q5), .null, .null, .null, .null, .null, .null, .null, .int (zi (0)), .null, .null, .null, .null, .null, .null, .null, .int (zi (0)), .null, .int (zi (0)), .int (zi (0)), .int (zi (0))])) := ⟨_, rfl⟩
  have hR : zR D A w5 H := by rw [hw5]; exact hR
  rw [← hw5] at hi_5
  have hm_5 : w5 m0 = some (.inr (7, [.ref (q0), .ref (q1), .ref (q2), .ref (q3), .ref (q4), .ref (q5), .null, .null, .null, .null, .null, .null, .null, .int (zi (0)), .null, .null, .null, .null, .null, .null, .null, .int (zi (0)), .null, .int (zi (0)), .int (zi (0)), .int (zi (0))])) := by rw [hw5]; exact zu_eq
  clear hw5 hm9
  refine lv_aload_n hx hb dX6_init_52 rfl (lv_at hl 0 rfl) ?_
  refine lv_bipush (v := zi (6)) hx hb dX6_init_53 rfl ?_
  refine z_newa (atype := .int) (n := 6) (N := 6) (ty := .int) (a0 := (6, .inl (fun _ => zi 0))) hx hb (q_74 hT hW) rfl hK hR hS hA (by decide +kernel) 0 rfl (fun cA => rfl) (by omega) (by decide +kernel) (by decide +kernel) (by decide +kernel) dX6_init_55 (fun q6 H hfr hR hS => ?_)
  have hR : zR D A (zu w5 q6 (mA tc (fun _ _ => 0) 6)) H := hR
  have hm9 : (zu w5 q6 (mA tc (fun _ _ => 0) 6)) m0 = some (.inr (7, [.ref (q0), .ref (q1), .ref (q2), .ref (q3), .ref (q4), .ref (q5), .null, .null, .null, .null, .null, .null, .null, .int (zi (0)), .null, .null, .null, .null, .null, .null, .null, .int (zi (0)), .null, .int (zi (0)), .int (zi (0)), .int (zi (0))])) := (zu_ne (hfr _ _ hm_5)).trans hm_5
  refine z_putF hx hb (q_wsX6 hT hW) tyX6 tyX6_ok nmX6 hown hK hR hS hm9 rfl 6 (by decide) (q_670 hT hW) (fun _ h => h) rfl hnm rfl (tyX6_ok 6 (by decide)) rfl rfl (Nat.le_of_ble_eq_true rfl) dX6_init_57 (fun H locs hR hS => ?_)
  obtain ⟨aM6, ha6⟩ : ∃ z : Nat → Nat, z = fun j => if j = 6 then q6 else aM5 j := ⟨_, rfl⟩
  have hi_6 : mI tc aM6 7 (zu (zu w5 q6 (mA tc (fun _ _ => 0) 6)) m0 (.inr (7, [.ref (q0), .ref (q1), .ref (q2), .ref (q3), .ref (q4), .ref (q5), .ref (q6), .null, .null, .null, .null, .null, .null, .int (zi (0)), .null, .null, .null, .null, .null, .null, .null, .int (zi (0)), .null, .int (zi (0)), .int (zi (0)), .int (zi (0))]))) := by rw [ha6]; exact hi_5.arr hfr hm_5
  clear hfr
  obtain ⟨w6, hw6⟩ : ∃ z, z = zu (zu w5 q6 (mA tc (fun _ _ => 0) 6)) m0 (.inr (7, [.ref (q0), .ref (q1), .ref (q2), .ref (q3), .ref (q4), .ref (q5), .ref (q6), .null, .null, .null, .null, .null, .null, .int (zi (0)), .null, .null, .null, .null, .null, .null, .null, .int (zi (0)), .null, .int (zi (0)), .int (zi (0)), .int (zi (0))])) := ⟨_, rfl⟩
  have hR : zR D A w6 H := by rw [hw6]; exact hR
  rw [← hw6] at hi_6
  have hm_6 : w6 m0 = some (.inr (7, [.ref (q0), .ref (q1), .ref (q2), .ref (q3), .ref (q4), .ref (q5), .ref (q6), .null, .null, .null, .null, .null, .null, .int (zi (0)), .null, .null, .null, .null, .null, .null, .null, .int (zi (0)), .null, .int (zi (0)), .int (zi (0)), .int (zi (0))])) := by rw [hw6]; exact zu_eq
  clear hw6 hm9
  refine lv_aload_n hx hb dX6_init_60 rfl (lv_at hl 0 rfl) ?_
  refine lv_bipush (v := zi (6)) hx hb dX6_init_61 rfl ?_
  refine z_newa (atype := .int) (n := 6) (N := 6) (ty := .int) (a0 := (6, .inl (fun _ => zi 0))) hx hb (q_74 hT hW) rfl hK hR hS hA (by decide +kernel) 0 rfl (fun cA => rfl) (by omega) (by decide +kernel) (by decide +kernel) (by decide +kernel) dX6_init_63 (fun q7 H hfr hR hS => ?_)
  have hR : zR D A (zu w6 q7 (mA tc (fun _ _ => 0) 7)) H := hR
  have hm9 : (zu w6 q7 (mA tc (fun _ _ => 0) 7)) m0 = some (.inr (7, [.ref (q0), .ref (q1), .ref (q2), .ref (q3), .ref (q4), .ref (q5), .ref (q6), .null, .null, .null, .null, .null, .null, .int (zi (0)), .null, .null, .null, .null, .null, .null, .null, .int (zi (0)), .null, .int (zi (0)), .int (zi (0)), .int (zi (0))])) := (zu_ne (hfr _ _ hm_6)).trans hm_6
  refine z_putF hx hb (q_wsX6 hT hW) tyX6 tyX6_ok nmX6 hown hK hR hS hm9 rfl 7 (by decide) (q_671 hT hW) (fun _ h => h) rfl hnm rfl (tyX6_ok 7 (by decide)) rfl rfl (Nat.le_of_ble_eq_true rfl) dX6_init_65 (fun H locs hR hS => ?_)
  obtain ⟨aM7, ha7⟩ : ∃ z : Nat → Nat, z = fun j => if j = 7 then q7 else aM6 j := ⟨_, rfl⟩
  have hi_7 : mI tc aM7 8 (zu (zu w6 q7 (mA tc (fun _ _ => 0) 7)) m0 (.inr (7, [.ref (q0), .ref (q1), .ref (q2), .ref (q3), .ref (q4), .ref (q5), .ref (q6), .ref (q7), .null, .null, .null, .null, .null, .int (zi (0)), .null, .null, .null, .null, .null, .null, .null, .int (zi (0)), .null, .int (zi (0)), .int (zi (0)), .int (zi (0))]))) := by rw [ha7]; exact hi_6.arr hfr hm_6
  clear hfr
  obtain ⟨w7, hw7⟩ : ∃ z, z = zu (zu w6 q7 (mA tc (fun _ _ => 0) 7)) m0 (.inr (7, [.ref (q0), .ref (q1), .ref (q2), .ref (q3), .ref (q4), .ref (q5), .ref (q6), .ref (q7), .null, .null, .null, .null, .null, .int (zi (0)), .null, .null, .null, .null, .null, .null, .null, .int (zi (0)), .null, .int (zi (0)), .int (zi (0)), .int (zi (0))])) := ⟨_, rfl⟩
  have hR : zR D A w7 H := by rw [hw7]; exact hR
  rw [← hw7] at hi_7
  have hm_7 : w7 m0 = some (.inr (7, [.ref (q0), .ref (q1), .ref (q2), .ref (q3), .ref (q4), .ref (q5), .ref (q6), .ref (q7), .null, .null, .null, .null, .null, .int (zi (0)), .null, .null, .null, .null, .null, .null, .null, .int (zi (0)), .null, .int (zi (0)), .int (zi (0)), .int (zi (0))])) := by rw [hw7]; exact zu_eq
  clear hw7 hm9
  refine lv_aload_n hx hb dX6_init_68 rfl (lv_at hl 0 rfl) ?_
  refine lv_bipush (v := zi (6)) hx hb dX6_init_69 rfl ?_
  refine z_newa (atype := .int) (n := 6) (N := 6) (ty := .int) (a0 := (6, .inl (fun _ => zi 0))) hx hb (q_74 hT hW) rfl hK hR hS hA (by decide +kernel) 0 rfl (fun cA => rfl) (by omega) (by decide +kernel) (by decide +kernel) (by decide +kernel) dX6_init_71 (fun q8 H hfr hR hS => ?_)
  have hR : zR D A (zu w7 q8 (mA tc (fun _ _ => 0) 8)) H := hR
  have hm9 : (zu w7 q8 (mA tc (fun _ _ => 0) 8)) m0 = some (.inr (7, [.ref (q0), .ref (q1), .ref (q2), .ref (q3), .ref (q4), .ref (q5), .ref (q6), .ref (q7), .null, .null, .null, .null, .null, .int (zi (0)), .null, .null, .null, .null, .null, .null, .null, .int (zi (0)), .null, .int (zi (0)), .int (zi (0)), .int (zi (0))])) := (zu_ne (hfr _ _ hm_7)).trans hm_7
  refine z_putF hx hb (q_wsX6 hT hW) tyX6 tyX6_ok nmX6 hown hK hR hS hm9 rfl 8 (by decide) (q_672 hT hW) (fun _ h => h) rfl hnm rfl (tyX6_ok 8 (by decide)) rfl rfl (Nat.le_of_ble_eq_true rfl) dX6_init_73 (fun H locs hR hS => ?_)
  obtain ⟨aM8, ha8⟩ : ∃ z : Nat → Nat, z = fun j => if j = 8 then q8 else aM7 j := ⟨_, rfl⟩
  have hi_8 : mI tc aM8 9 (zu (zu w7 q8 (mA tc (fun _ _ => 0) 8)) m0 (.inr (7, [.ref (q0), .ref (q1), .ref (q2), .ref (q3), .ref (q4), .ref (q5), .ref (q6), .ref (q7), .ref (q8), .null, .null, .null, .null, .int (zi (0)), .null, .null, .null, .null, .null, .null, .null, .int (zi (0)), .null, .int (zi (0)), .int (zi (0)), .int (zi (0))]))) := by rw [ha8]; exact hi_7.arr hfr hm_7
  clear hfr
  obtain ⟨w8, hw8⟩ : ∃ z, z = zu (zu w7 q8 (mA tc (fun _ _ => 0) 8)) m0 (.inr (7, [.ref (q0), .ref (q1), .ref (q2), .ref (q3), .ref (q4), .ref (q5), .ref (q6), .ref (q7), .ref (q8), .null, .null, .null, .null, .int (zi (0)), .null, .null, .null, .null, .null, .null, .null, .int (zi (0)), .null, .int (zi (0)), .int (zi (0)), .int (zi (0))])) := ⟨_, rfl⟩
  have hR : zR D A w8 H := by rw [hw8]; exact hR
  rw [← hw8] at hi_8
  have hm_8 : w8 m0 = some (.inr (7, [.ref (q0), .ref (q1), .ref (q2), .ref (q3), .ref (q4), .ref (q5), .ref (q6), .ref (q7), .ref (q8), .null, .null, .null, .null, .int (zi (0)), .null, .null, .null, .null, .null, .null, .null, .int (zi (0)), .null, .int (zi (0)), .int (zi (0)), .int (zi (0))])) := by rw [hw8]; exact zu_eq
  clear hw8 hm9
  refine lv_aload_n hx hb dX6_init_76 rfl (lv_at hl 0 rfl) ?_
  refine lv_bipush (v := zi (6)) hx hb dX6_init_77 rfl ?_
  refine z_newa (atype := .int) (n := 6) (N := 6) (ty := .int) (a0 := (6, .inl (fun _ => zi 0))) hx hb (q_74 hT hW) rfl hK hR hS hA (by decide +kernel) 0 rfl (fun cA => rfl) (by omega) (by decide +kernel) (by decide +kernel) (by decide +kernel) dX6_init_79 (fun q9 H hfr hR hS => ?_)
  have hR : zR D A (zu w8 q9 (mA tc (fun _ _ => 0) 9)) H := hR
  have hm9 : (zu w8 q9 (mA tc (fun _ _ => 0) 9)) m0 = some (.inr (7, [.ref (q0), .ref (q1), .ref (q2), .ref (q3), .ref (q4), .ref (q5), .ref (q6), .ref (q7), .ref (q8), .null, .null, .null, .null, .int (zi (0)), .null, .null, .null, .null, .null, .null, .null, .int (zi (0)), .null, .int (zi (0)), .int (zi (0)), .int (zi (0))])) := (zu_ne (hfr _ _ hm_8)).trans hm_8
  refine z_putF hx hb (q_wsX6 hT hW) tyX6 tyX6_ok nmX6 hown hK hR hS hm9 rfl 9 (by decide) (q_673 hT hW) (fun _ h => h) rfl hnm rfl (tyX6_ok 9 (by decide)) rfl rfl (Nat.le_of_ble_eq_true rfl) dX6_init_81 (fun H locs hR hS => ?_)
  obtain ⟨aM9, ha9⟩ : ∃ z : Nat → Nat, z = fun j => if j = 9 then q9 else aM8 j := ⟨_, rfl⟩
  have hi_9 : mI tc aM9 10 (zu (zu w8 q9 (mA tc (fun _ _ => 0) 9)) m0 (.inr (7, [.ref (q0), .ref (q1), .ref (q2), .ref (q3), .ref (q4), .ref (q5), .ref (q6), .ref (q7), .ref (q8), .ref (q9), .null, .null, .null, .int (zi (0)), .null, .null, .null, .null, .null, .null, .null, .int (zi (0)), .null, .int (zi (0)), .int (zi (0)), .int (zi (0))]))) := by rw [ha9]; exact hi_8.arr hfr hm_8
  clear hfr
  obtain ⟨w9, hw9⟩ : ∃ z, z = zu (zu w8 q9 (mA tc (fun _ _ => 0) 9)) m0 (.inr (7, [.ref (q0), .ref (q1), .ref (q2), .ref (q3), .ref (q4), .ref (q5), .ref (q6), .ref (q7), .ref (q8), .ref (q9), .null, .null, .null, .int (zi (0)), .null, .null, .null, .null, .null, .null, .null, .int (zi (0)), .null, .int (zi (0)), .int (zi (0)), .int (zi (0))])) := ⟨_, rfl⟩
  have hR : zR D A w9 H := by rw [hw9]; exact hR
  rw [← hw9] at hi_9
  have hm_9 : w9 m0 = some (.inr (7, [.ref (q0), .ref (q1), .ref (q2), .ref (q3), .ref (q4), .ref (q5), .ref (q6), .ref (q7), .ref (q8), .ref (q9), .null, .null, .null, .int (zi (0)), .null, .null, .null, .null, .null, .null, .null, .int (zi (0)), .null, .int (zi (0)), .int (zi (0)), .int (zi (0))])) := by rw [hw9]; exact zu_eq
  clear hw9 hm9
  refine lv_aload_n hx hb dX6_init_84 rfl (lv_at hl 0 rfl) ?_
  refine lv_bipush (v := zi (6)) hx hb dX6_init_85 rfl ?_
  refine z_newa (atype := .int) (n := 6) (N := 6) (ty := .int) (a0 := (6, .inl (fun _ => zi 0))) hx hb (q_74 hT hW) rfl hK hR hS hA (by decide +kernel) 0 rfl (fun cA => rfl) (by omega) (by decide +kernel) (by decide +kernel) (by decide +kernel) dX6_init_87 (fun q10 H hfr hR hS => ?_)
  have hR : zR D A (zu w9 q10 (mA tc (fun _ _ => 0) 10)) H := hR
  have hm9 : (zu w9 q10 (mA tc (fun _ _ => 0) 10)) m0 = some (.inr (7, [.ref (q0), .ref (q1), .ref (q2), .ref (q3), .ref (q4), .ref (q5), .ref (q6), .ref (q7), .ref (q8), .ref (q9), .null, .null, .null, .int (zi (0)), .null, .null, .null, .null, .null, .null, .null, .int (zi (0)), .null, .int (zi (0)), .int (zi (0)), .int (zi (0))])) := (zu_ne (hfr _ _ hm_9)).trans hm_9
  refine z_putF hx hb (q_wsX6 hT hW) tyX6 tyX6_ok nmX6 hown hK hR hS hm9 rfl 10 (by decide) (q_674 hT hW) (fun _ h => h) rfl hnm rfl (tyX6_ok 10 (by decide)) rfl rfl (Nat.le_of_ble_eq_true rfl) dX6_init_89 (fun H locs hR hS => ?_)
  obtain ⟨aM10, ha10⟩ : ∃ z : Nat → Nat, z = fun j => if j = 10 then q10 else aM9 j := ⟨_, rfl⟩
  have hi_10 : mI tc aM10 11 (zu (zu w9 q10 (mA tc (fun _ _ => 0) 10)) m0 (.inr (7, [.ref (q0), .ref (q1), .ref (q2), .ref (q3), .ref (q4), .ref (q5), .ref (q6), .ref (q7), .ref (q8), .ref (q9), .ref (q10), .null, .null, .int (zi (0)), .null, .null, .null, .null, .null, .null, .null, .int (zi (0)), .null, .int (zi (0)), .int (zi (0)), .int (zi (0))]))) := by rw [ha10]; exact hi_9.arr hfr hm_9
  clear hfr
  obtain ⟨w10, hw10⟩ : ∃ z, z = zu (zu w9 q10 (mA tc (fun _ _ => 0) 10)) m0 (.inr (7, [.ref (q0), .ref (q1), .ref (q2), .ref (q3), .ref (q4), .ref (q5), .ref (q6), .ref (q7), .ref (q8), .ref (q9), .ref (q10), .null, .null, .int (zi (0)), .null, .null, .null, .null, .null, .null, .null, .int (zi (0)), .null, .int (zi (0)), .int (zi (0)), .int (zi (0))])) := ⟨_, rfl⟩
  have hR : zR D A w10 H := by rw [hw10]; exact hR
  rw [← hw10] at hi_10
  have hm_10 : w10 m0 = some (.inr (7, [.ref (q0), .ref (q1), .ref (q2), .ref (q3), .ref (q4), .ref (q5), .ref (q6), .ref (q7), .ref (q8), .ref (q9), .ref (q10), .null, .null, .int (zi (0)), .null, .null, .null, .null, .null, .null, .null, .int (zi (0)), .null, .int (zi (0)), .int (zi (0)), .int (zi (0))])) := by rw [hw10]; exact zu_eq
  clear hw10 hm9
  refine lv_aload_n hx hb dX6_init_92 rfl (lv_at hl 0 rfl) ?_
  refine lv_bipush (v := zi (6)) hx hb dX6_init_93 rfl ?_
  refine z_newa (atype := .int) (n := 6) (N := 6) (ty := .int) (a0 := (6, .inl (fun _ => zi 0))) hx hb (q_74 hT hW) rfl hK hR hS hA (by decide +kernel) 0 rfl (fun cA => rfl) (by omega) (by decide +kernel) (by decide +kernel) (by decide +kernel) dX6_init_95 (fun q11 H hfr hR hS => ?_)
  have hR : zR D A (zu w10 q11 (mA tc (fun _ _ => 0) 11)) H := hR
  have hm9 : (zu w10 q11 (mA tc (fun _ _ => 0) 11)) m0 = some (.inr (7, [.ref (q0), .ref (q1), .ref (q2), .ref (q3), .ref (q4), .ref (q5), .ref (q6), .ref (q7), .ref (q8), .ref (q9), .ref (q10), .null, .null, .int (zi (0)), .null, .null, .null, .null, .null, .null, .null, .int (zi (0)), .null, .int (zi (0)), .int (zi (0)), .int (zi (0))])) := (zu_ne (hfr _ _ hm_10)).trans hm_10
  refine z_putF hx hb (q_wsX6 hT hW) tyX6 tyX6_ok nmX6 hown hK hR hS hm9 rfl 11 (by decide) (q_675 hT hW) (fun _ h => h) rfl hnm rfl (tyX6_ok 11 (by decide)) rfl rfl (Nat.le_of_ble_eq_true rfl) dX6_init_97 (fun H locs hR hS => ?_)
  obtain ⟨aM11, ha11⟩ : ∃ z : Nat → Nat, z = fun j => if j = 11 then q11 else aM10 j := ⟨_, rfl⟩
  have hi_11 : mI tc aM11 12 (zu (zu w10 q11 (mA tc (fun _ _ => 0) 11)) m0 (.inr (7, [.ref (q0), .ref (q1), .ref (q2), .ref (q3), .ref (q4), .ref (q5), .ref (q6), .ref (q7), .ref (q8), .ref (q9), .ref (q10), .ref (q11), .null, .int (zi (0)), .null, .null, .null, .null, .null, .null, .null, .int (zi (0)), .null, .int (zi (0)), .int (zi (0)), .int (zi (0))]))) := by rw [ha11]; exact hi_10.arr hfr hm_10
  clear hfr
  obtain ⟨w11, hw11⟩ : ∃ z, z = zu (zu w10 q11 (mA tc (fun _ _ => 0) 11)) m0 (.inr (7, [.ref (q0), .ref (q1), .ref (q2), .ref (q3), .ref (q4), .ref (q5), .ref (q6), .ref (q7), .ref (q8), .ref (q9), .ref (q10), .ref (q11), .null, .int (zi (0)), .null, .null, .null, .null, .null, .null, .null, .int (zi (0)), .null, .int (zi (0)), .int (zi (0)), .int (zi (0))])) := ⟨_, rfl⟩
  have hR : zR D A w11 H := by rw [hw11]; exact hR
  rw [← hw11] at hi_11
  have hm_11 : w11 m0 = some (.inr (7, [.ref (q0), .ref (q1), .ref (q2), .ref (q3), .ref (q4), .ref (q5), .ref (q6), .ref (q7), .ref (q8), .ref (q9), .ref (q10), .ref (q11), .null, .int (zi (0)), .null, .null, .null, .null, .null, .null, .null, .int (zi (0)), .null, .int (zi (0)), .int (zi (0)), .int (zi (0))])) := by rw [hw11]; exact zu_eq
  clear hw11 hm9
  refine lv_aload_n hx hb dX6_init_100 rfl (lv_at hl 0 rfl) ?_
  refine lv_bipush (v := zi (6)) hx hb dX6_init_101 rfl ?_
  refine z_newa (atype := .int) (n := 6) (N := 6) (ty := .int) (a0 := (6, .inl (fun _ => zi 0))) hx hb (q_74 hT hW) rfl hK hR hS hA (by decide +kernel) 0 rfl (fun cA => rfl) (by omega) (by decide +kernel) (by decide +kernel) (by decide +kernel) dX6_init_103 (fun q12 H hfr hR hS => ?_)
  have hR : zR D A (zu w11 q12 (mA tc (fun _ _ => 0) 12)) H := hR
  have hm9 : (zu w11 q12 (mA tc (fun _ _ => 0) 12)) m0 = some (.inr (7, [.ref (q0), .ref (q1), .ref (q2), .ref (q3), .ref (q4), .ref (q5), .ref (q6), .ref (q7), .ref (q8), .ref (q9), .ref (q10), .ref (q11), .null, .int (zi (0)), .null, .null, .null, .null, .null, .null, .null, .int (zi (0)), .null, .int (zi (0)), .int (zi (0)), .int (zi (0))])) := (zu_ne (hfr _ _ hm_11)).trans hm_11
  refine z_putF hx hb (q_wsX6 hT hW) tyX6 tyX6_ok nmX6 hown hK hR hS hm9 rfl 12 (by decide) (q_676 hT hW) (fun _ h => h) rfl hnm rfl (tyX6_ok 12 (by decide)) rfl rfl (Nat.le_of_ble_eq_true rfl) dX6_init_105 (fun H locs hR hS => ?_)
  obtain ⟨aM12, ha12⟩ : ∃ z : Nat → Nat, z = fun j => if j = 12 then q12 else aM11 j := ⟨_, rfl⟩
  have hi_12 : mI tc aM12 13 (zu (zu w11 q12 (mA tc (fun _ _ => 0) 12)) m0 (.inr (7, [.ref (q0), .ref (q1), .ref (q2), .ref (q3), .ref (q4), .ref (q5), .ref (q6), .ref (q7), .ref (q8), .ref (q9), .ref (q10), .ref (q11), .ref (q12), .int (zi (0)), .null, .null, .null, .null, .null, .null, .null, .int (zi (0)), .null, .int (zi (0)), .int (zi (0)), .int (zi (0))]))) := by rw [ha12]; exact hi_11.arr hfr hm_11
  clear hfr
  obtain ⟨w12, hw12⟩ : ∃ z, z = zu (zu w11 q12 (mA tc (fun _ _ => 0) 12)) m0 (.inr (7, [.ref (q0), .ref (q1), .ref (q2), .ref (q3), .ref (q4), .ref (q5), .ref (q6), .ref (q7), .ref (q8), .ref (q9), .ref (q10), .ref (q11), .ref (q12), .int (zi (0)), .null, .null, .null, .null, .null, .null, .null, .int (zi (0)), .null, .int (zi (0)), .int (zi (0)), .int (zi (0))])) := ⟨_, rfl⟩
  have hR : zR D A w12 H := by rw [hw12]; exact hR
  rw [← hw12] at hi_12
  have hm_12 : w12 m0 = some (.inr (7, [.ref (q0), .ref (q1), .ref (q2), .ref (q3), .ref (q4), .ref (q5), .ref (q6), .ref (q7), .ref (q8), .ref (q9), .ref (q10), .ref (q11), .ref (q12), .int (zi (0)), .null, .null, .null, .null, .null, .null, .null, .int (zi (0)), .null, .int (zi (0)), .int (zi (0)), .int (zi (0))])) := by rw [hw12]; exact zu_eq
  clear hw12 hm9
  refine lv_aload_n hx hb dX6_init_108 rfl (lv_at hl 0 rfl) ?_
  refine lv_bipush (v := zi (30)) hx hb dX6_init_109 rfl ?_
  refine z_newa (atype := .int) (n := 30) (N := 30) (ty := .int) (a0 := (30, .inl (fun _ => zi 0))) hx hb (q_74 hT hW) rfl hK hR hS hA (by decide +kernel) 0 rfl (fun cA => rfl) (by omega) (by decide +kernel) (by decide +kernel) (by decide +kernel) dX6_init_111 (fun q14 H hfr hR hS => ?_)
  have hs_14 : mI tc aM12 14 w12 := hi_12.skip (fun k hk hk2 => by unfold mar at hk2; omega)
  have hR : zR D A (zu w12 q14 (mA tc (fun _ _ => 0) 14)) H := hR
  have hm9 : (zu w12 q14 (mA tc (fun _ _ => 0) 14)) m0 = some (.inr (7, [.ref (q0), .ref (q1), .ref (q2), .ref (q3), .ref (q4), .ref (q5), .ref (q6), .ref (q7), .ref (q8), .ref (q9), .ref (q10), .ref (q11), .ref (q12), .int (zi (0)), .null, .null, .null, .null, .null, .null, .null, .int (zi (0)), .null, .int (zi (0)), .int (zi (0)), .int (zi (0))])) := (zu_ne (hfr _ _ hm_12)).trans hm_12
  refine z_putF hx hb (q_wsX6 hT hW) tyX6 tyX6_ok nmX6 hown hK hR hS hm9 rfl 14 (by decide) (q_678 hT hW) (fun _ h => h) rfl hnm rfl (tyX6_ok 14 (by decide)) rfl rfl (Nat.le_of_ble_eq_true rfl) dX6_init_113 (fun H locs hR hS => ?_)
  obtain ⟨aM14, ha14⟩ : ∃ z : Nat → Nat, z = fun j => if j = 14 then q14 else aM12 j := ⟨_, rfl⟩
  have hi_14 : mI tc aM14 15 (zu (zu w12 q14 (mA tc (fun _ _ => 0) 14)) m0 (.inr (7, [.ref (q0), .ref (q1), .ref (q2), .ref (q3), .ref (q4), .ref (q5), .ref (q6), .ref (q7), .ref (q8), .ref (q9), .ref (q10), .ref (q11), .ref (q12), .int (zi (0)), .ref (q14), .null, .null, .null, .null, .null, .null, .int (zi (0)), .null, .int (zi (0)), .int (zi (0)), .int (zi (0))]))) := by rw [ha14]; exact hs_14.arr hfr hm_12
  clear hfr
  obtain ⟨w14, hw14⟩ : ∃ z, z = zu (zu w12 q14 (mA tc (fun _ _ => 0) 14)) m0 (.inr (7, [.ref (q0), .ref (q1), .ref (q2), .ref (q3), .ref (q4), .ref (q5), .ref (q6), .ref (q7), .ref (q8), .ref (q9), .ref (q10), .ref (q11), .ref (q12), .int (zi (0)), .ref (q14), .null, .null, .null, .null, .null, .null, .int (zi (0)), .null, .int (zi (0)), .int (zi (0)), .int (zi (0))])) := ⟨_, rfl⟩
  have hR : zR D A w14 H := by rw [hw14]; exact hR
  rw [← hw14] at hi_14
  have hm_14 : w14 m0 = some (.inr (7, [.ref (q0), .ref (q1), .ref (q2), .ref (q3), .ref (q4), .ref (q5), .ref (q6), .ref (q7), .ref (q8), .ref (q9), .ref (q10), .ref (q11), .ref (q12), .int (zi (0)), .ref (q14), .null, .null, .null, .null, .null, .null, .int (zi (0)), .null, .int (zi (0)), .int (zi (0)), .int (zi (0))])) := by rw [hw14]; exact zu_eq
  clear hw14 hm9
  refine lv_aload_n hx hb dX6_init_116 rfl (lv_at hl 0 rfl) ?_
  refine lv_bipush (v := zi (30)) hx hb dX6_init_117 rfl ?_
  refine z_newa (atype := .int) (n := 30) (N := 30) (ty := .int) (a0 := (30, .inl (fun _ => zi 0))) hx hb (q_74 hT hW) rfl hK hR hS hA (by decide +kernel) 0 rfl (fun cA => rfl) (by omega) (by decide +kernel) (by decide +kernel) (by decide +kernel) dX6_init_119 (fun q15 H hfr hR hS => ?_)
  have hR : zR D A (zu w14 q15 (mA tc (fun _ _ => 0) 15)) H := hR
  have hm9 : (zu w14 q15 (mA tc (fun _ _ => 0) 15)) m0 = some (.inr (7, [.ref (q0), .ref (q1), .ref (q2), .ref (q3), .ref (q4), .ref (q5), .ref (q6), .ref (q7), .ref (q8), .ref (q9), .ref (q10), .ref (q11), .ref (q12), .int (zi (0)), .ref (q14), .null, .null, .null, .null, .null, .null, .int (zi (0)), .null, .int (zi (0)), .int (zi (0)), .int (zi (0))])) := (zu_ne (hfr _ _ hm_14)).trans hm_14
  refine z_putF hx hb (q_wsX6 hT hW) tyX6 tyX6_ok nmX6 hown hK hR hS hm9 rfl 15 (by decide) (q_679 hT hW) (fun _ h => h) rfl hnm rfl (tyX6_ok 15 (by decide)) rfl rfl (Nat.le_of_ble_eq_true rfl) dX6_init_121 (fun H locs hR hS => ?_)
  obtain ⟨aM15, ha15⟩ : ∃ z : Nat → Nat, z = fun j => if j = 15 then q15 else aM14 j := ⟨_, rfl⟩
  have hi_15 : mI tc aM15 16 (zu (zu w14 q15 (mA tc (fun _ _ => 0) 15)) m0 (.inr (7, [.ref (q0), .ref (q1), .ref (q2), .ref (q3), .ref (q4), .ref (q5), .ref (q6), .ref (q7), .ref (q8), .ref (q9), .ref (q10), .ref (q11), .ref (q12), .int (zi (0)), .ref (q14), .ref (q15), .null, .null, .null, .null, .null, .int (zi (0)), .null, .int (zi (0)), .int (zi (0)), .int (zi (0))]))) := by rw [ha15]; exact hi_14.arr hfr hm_14
  clear hfr
  obtain ⟨w15, hw15⟩ : ∃ z, z = zu (zu w14 q15 (mA tc (fun _ _ => 0) 15)) m0 (.inr (7, [.ref (q0), .ref (q1), .ref (q2), .ref (q3), .ref (q4), .ref (q5), .ref (q6), .ref (q7), .ref (q8), .ref (q9), .ref (q10), .ref (q11), .ref (q12), .int (zi (0)), .ref (q14), .ref (q15), .null, .null, .null, .null, .null, .int (zi (0)), .null, .int (zi (0)), .int (zi (0)), .int (zi (0))])) := ⟨_, rfl⟩
  have hR : zR D A w15 H := by rw [hw15]; exact hR
  rw [← hw15] at hi_15
  have hm_15 : w15 m0 = some (.inr (7, [.ref (q0), .ref (q1), .ref (q2), .ref (q3), .ref (q4), .ref (q5), .ref (q6), .ref (q7), .ref (q8), .ref (q9), .ref (q10), .ref (q11), .ref (q12), .int (zi (0)), .ref (q14), .ref (q15), .null, .null, .null, .null, .null, .int (zi (0)), .null, .int (zi (0)), .int (zi (0)), .int (zi (0))])) := by rw [hw15]; exact zu_eq
  clear hw15 hm9
  refine lv_aload_n hx hb dX6_init_124 rfl (lv_at hl 0 rfl) ?_
  refine lv_bipush (v := zi (30)) hx hb dX6_init_125 rfl ?_
  refine z_newa (atype := .int) (n := 30) (N := 30) (ty := .int) (a0 := (30, .inl (fun _ => zi 0))) hx hb (q_74 hT hW) rfl hK hR hS hA (by decide +kernel) 0 rfl (fun cA => rfl) (by omega) (by decide +kernel) (by decide +kernel) (by decide +kernel) dX6_init_127 (fun q16 H hfr hR hS => ?_)
  have hR : zR D A (zu w15 q16 (mA tc (fun _ _ => 0) 16)) H := hR
  have hm9 : (zu w15 q16 (mA tc (fun _ _ => 0) 16)) m0 = some (.inr (7, [.ref (q0), .ref (q1), .ref (q2), .ref (q3), .ref (q4), .ref (q5), .ref (q6), .ref (q7), .ref (q8), .ref (q9), .ref (q10), .ref (q11), .ref (q12), .int (zi (0)), .ref (q14), .ref (q15), .null, .null, .null, .null, .null, .int (zi (0)), .null, .int (zi (0)), .int (zi (0)), .int (zi (0))])) := (zu_ne (hfr _ _ hm_15)).trans hm_15
  refine z_putF hx hb (q_wsX6 hT hW) tyX6 tyX6_ok nmX6 hown hK hR hS hm9 rfl 16 (by decide) (q_680 hT hW) (fun _ h => h) rfl hnm rfl (tyX6_ok 16 (by decide)) rfl rfl (Nat.le_of_ble_eq_true rfl) dX6_init_129 (fun H locs hR hS => ?_)
  obtain ⟨aM16, ha16⟩ : ∃ z : Nat → Nat, z = fun j => if j = 16 then q16 else aM15 j := ⟨_, rfl⟩
  have hi_16 : mI tc aM16 17 (zu (zu w15 q16 (mA tc (fun _ _ => 0) 16)) m0 (.inr (7, [.ref (q0), .ref (q1), .ref (q2), .ref (q3), .ref (q4), .ref (q5), .ref (q6), .ref (q7), .ref (q8), .ref (q9), .ref (q10), .ref (q11), .ref (q12), .int (zi (0)), .ref (q14), .ref (q15), .ref (q16), .null, .null, .null, .null, .int (zi (0)), .null, .int (zi (0)), .int (zi (0)), .int (zi (0))]))) := by rw [ha16]; exact hi_15.arr hfr hm_15
  clear hfr
  obtain ⟨w16, hw16⟩ : ∃ z, z = zu (zu w15 q16 (mA tc (fun _ _ => 0) 16)) m0 (.inr (7, [.ref (q0), .ref (q1), .ref (q2), .ref (q3), .ref (q4), .ref (q5), .ref (q6), .ref (q7), .ref (q8), .ref (q9), .ref (q10), .ref (q11), .ref (q12), .int (zi (0)), .ref (q14), .ref (q15), .ref (q16), .null, .null, .null, .null, .int (zi (0)), .null, .int (zi (0)), .int (zi (0)), .int (zi (0))])) := ⟨_, rfl⟩
  have hR : zR D A w16 H := by rw [hw16]; exact hR
  rw [← hw16] at hi_16
  have hm_16 : w16 m0 = some (.inr (7, [.ref (q0), .ref (q1), .ref (q2), .ref (q3), .ref (q4), .ref (q5), .ref (q6), .ref (q7), .ref (q8), .ref (q9), .ref (q10), .ref (q11), .ref (q12), .int (zi (0)), .ref (q14), .ref (q15), .ref (q16), .null, .null, .null, .null, .int (zi (0)), .null, .int (zi (0)), .int (zi (0)), .int (zi (0))])) := by rw [hw16]; exact zu_eq
  clear hw16 hm9
  refine lv_aload_n hx hb dX6_init_132 rfl (lv_at hl 0 rfl) ?_
  refine lv_bipush (v := zi (30)) hx hb dX6_init_133 rfl ?_
  refine z_newa (atype := .int) (n := 30) (N := 30) (ty := .int) (a0 := (30, .inl (fun _ => zi 0))) hx hb (q_74 hT hW) rfl hK hR hS hA (by decide +kernel) 0 rfl (fun cA => rfl) (by omega) (by decide +kernel) (by decide +kernel) (by decide +kernel) dX6_init_135 (fun q17 H hfr hR hS => ?_)
  have hR : zR D A (zu w16 q17 (mA tc (fun _ _ => 0) 17)) H := hR
  have hm9 : (zu w16 q17 (mA tc (fun _ _ => 0) 17)) m0 = some (.inr (7, [.ref (q0), .ref (q1), .ref (q2), .ref (q3), .ref (q4), .ref (q5), .ref (q6), .ref (q7), .ref (q8), .ref (q9), .ref (q10), .ref (q11), .ref (q12), .int (zi (0)), .ref (q14), .ref (q15), .ref (q16), .null, .null, .null, .null, .int (zi (0)), .null, .int (zi (0)), .int (zi (0)), .int (zi (0))])) := (zu_ne (hfr _ _ hm_16)).trans hm_16
  refine z_putF hx hb (q_wsX6 hT hW) tyX6 tyX6_ok nmX6 hown hK hR hS hm9 rfl 17 (by decide) (q_681 hT hW) (fun _ h => h) rfl hnm rfl (tyX6_ok 17 (by decide)) rfl rfl (Nat.le_of_ble_eq_true rfl) dX6_init_137 (fun H locs hR hS => ?_)
  obtain ⟨aM17, ha17⟩ : ∃ z : Nat → Nat, z = fun j => if j = 17 then q17 else aM16 j := ⟨_, rfl⟩
  have hi_17 : mI tc aM17 18 (zu (zu w16 q17 (mA tc (fun _ _ => 0) 17)) m0 (.inr (7, [.ref (q0), .ref (q1), .ref (q2), .ref (q3), .ref (q4), .ref (q5), .ref (q6), .ref (q7), .ref (q8), .ref (q9), .ref (q10), .ref (q11), .ref (q12), .int (zi (0)), .ref (q14), .ref (q15), .ref (q16), .ref (q17), .null, .null, .null, .int (zi (0)), .null, .int (zi (0)), .int (zi (0)), .int (zi (0))]))) := by rw [ha17]; exact hi_16.arr hfr hm_16
  clear hfr
  obtain ⟨w17, hw17⟩ : ∃ z, z = zu (zu w16 q17 (mA tc (fun _ _ => 0) 17)) m0 (.inr (7, [.ref (q0), .ref (q1), .ref (q2), .ref (q3), .ref (q4), .ref (q5), .ref (q6), .ref (q7), .ref (q8), .ref (q9), .ref (q10), .ref (q11), .ref (q12), .int (zi (0)), .ref (q14), .ref (q15), .ref (q16), .ref (q17), .null, .null, .null, .int (zi (0)), .null, .int (zi (0)), .int (zi (0)), .int (zi (0))])) := ⟨_, rfl⟩
  have hR : zR D A w17 H := by rw [hw17]; exact hR
  rw [← hw17] at hi_17
  have hm_17 : w17 m0 = some (.inr (7, [.ref (q0), .ref (q1), .ref (q2), .ref (q3), .ref (q4), .ref (q5), .ref (q6), .ref (q7), .ref (q8), .ref (q9), .ref (q10), .ref (q11), .ref (q12), .int (zi (0)), .ref (q14), .ref (q15), .ref (q16), .ref (q17), .null, .null, .null, .int (zi (0)), .null, .int (zi (0)), .int (zi (0)), .int (zi (0))])) := by rw [hw17]; exact zu_eq
  clear hw17 hm9
  refine lv_aload_n hx hb dX6_init_140 rfl (lv_at hl 0 rfl) ?_
  refine lv_bipush (v := zi (30)) hx hb dX6_init_141 rfl ?_
  refine z_newa (atype := .int) (n := 30) (N := 30) (ty := .int) (a0 := (30, .inl (fun _ => zi 0))) hx hb (q_74 hT hW) rfl hK hR hS hA (by decide +kernel) 0 rfl (fun cA => rfl) (by omega) (by decide +kernel) (by decide +kernel) (by decide +kernel) dX6_init_143 (fun q18 H hfr hR hS => ?_)
  have hR : zR D A (zu w17 q18 (mA tc (fun _ _ => 0) 18)) H := hR
  have hm9 : (zu w17 q18 (mA tc (fun _ _ => 0) 18)) m0 = some (.inr (7, [.ref (q0), .ref (q1), .ref (q2), .ref (q3), .ref (q4), .ref (q5), .ref (q6), .ref (q7), .ref (q8), .ref (q9), .ref (q10), .ref (q11), .ref (q12), .int (zi (0)), .ref (q14), .ref (q15), .ref (q16), .ref (q17), .null, .null, .null, .int (zi (0)), .null, .int (zi (0)), .int (zi (0)), .int (zi (0))])) := (zu_ne (hfr _ _ hm_17)).trans hm_17
  refine z_putF hx hb (q_wsX6 hT hW) tyX6 tyX6_ok nmX6 hown hK hR hS hm9 rfl 18 (by decide) (q_682 hT hW) (fun _ h => h) rfl hnm rfl (tyX6_ok 18 (by decide)) rfl rfl (Nat.le_of_ble_eq_true rfl) dX6_init_145 (fun H locs hR hS => ?_)
  obtain ⟨aM18, ha18⟩ : ∃ z : Nat → Nat, z = fun j => if j = 18 then q18 else aM17 j := ⟨_, rfl⟩
  have hi_18 : mI tc aM18 19 (zu (zu w17 q18 (mA tc (fun _ _ => 0) 18)) m0 (.inr (7, [.ref (q0), .ref (q1), .ref (q2), .ref (q3), .ref (q4), .ref (q5), .ref (q6), .ref (q7), .ref (q8), .ref (q9), .ref (q10), .ref (q11), .ref (q12), .int (zi (0)), .ref (q14), .ref (q15), .ref (q16), .ref (q17), .ref (q18), .null, .null, .int (zi (0)), .null, .int (zi (0)), .int (zi (0)), .int (zi (0))]))) := by rw [ha18]; exact hi_17.arr hfr hm_17
  clear hfr
  obtain ⟨w18, hw18⟩ : ∃ z, z = zu (zu w17 q18 (mA tc (fun _ _ => 0) 18)) m0 (.inr (7, [.ref (q0), .ref (q1), .ref (q2), .ref (q3), .ref (q4), .ref (q5), .ref (q6), .ref (q7), .ref (q8), .ref (q9), .ref (q10), .ref (q11), .ref (q12), .int (zi (0)), .ref (q14), .ref (q15), .ref (q16), .ref (q17), .ref (q18), .null, .null, .int (zi (0)), .null, .int (zi (0)), .int (zi (0)), .int (zi (0))])) := ⟨_, rfl⟩
  have hR : zR D A w18 H := by rw [hw18]; exact hR
  rw [← hw18] at hi_18
  have hm_18 : w18 m0 = some (.inr (7, [.ref (q0), .ref (q1), .ref (q2), .ref (q3), .ref (q4), .ref (q5), .ref (q6), .ref (q7), .ref (q8), .ref (q9), .ref (q10), .ref (q11), .ref (q12), .int (zi (0)), .ref (q14), .ref (q15), .ref (q16), .ref (q17), .ref (q18), .null, .null, .int (zi (0)), .null, .int (zi (0)), .int (zi (0)), .int (zi (0))])) := by rw [hw18]; exact zu_eq
  clear hw18 hm9
  refine lv_aload_n hx hb dX6_init_148 rfl (lv_at hl 0 rfl) ?_
  refine lv_bipush (v := zi (30)) hx hb dX6_init_149 rfl ?_
  refine z_newa (atype := .int) (n := 30) (N := 30) (ty := .int) (a0 := (30, .inl (fun _ => zi 0))) hx hb (q_74 hT hW) rfl hK hR hS hA (by decide +kernel) 0 rfl (fun cA => rfl) (by omega) (by decide +kernel) (by decide +kernel) (by decide +kernel) dX6_init_151 (fun q19 H hfr hR hS => ?_)
  have hR : zR D A (zu w18 q19 (mA tc (fun _ _ => 0) 19)) H := hR
  have hm9 : (zu w18 q19 (mA tc (fun _ _ => 0) 19)) m0 = some (.inr (7, [.ref (q0), .ref (q1), .ref (q2), .ref (q3), .ref (q4), .ref (q5), .ref (q6), .ref (q7), .ref (q8), .ref (q9), .ref (q10), .ref (q11), .ref (q12), .int (zi (0)), .ref (q14), .ref (q15), .ref (q16), .ref (q17), .ref (q18), .null, .null, .int (zi (0)), .null, .int (zi (0)), .int (zi (0)), .int (zi (0))])) := (zu_ne (hfr _ _ hm_18)).trans hm_18
  refine z_putF hx hb (q_wsX6 hT hW) tyX6 tyX6_ok nmX6 hown hK hR hS hm9 rfl 19 (by decide) (q_683 hT hW) (fun _ h => h) rfl hnm rfl (tyX6_ok 19 (by decide)) rfl rfl (Nat.le_of_ble_eq_true rfl) dX6_init_153 (fun H locs hR hS => ?_)
  obtain ⟨aM19, ha19⟩ : ∃ z : Nat → Nat, z = fun j => if j = 19 then q19 else aM18 j := ⟨_, rfl⟩
  have hi_19 : mI tc aM19 20 (zu (zu w18 q19 (mA tc (fun _ _ => 0) 19)) m0 (.inr (7, [.ref (q0), .ref (q1), .ref (q2), .ref (q3), .ref (q4), .ref (q5), .ref (q6), .ref (q7), .ref (q8), .ref (q9), .ref (q10), .ref (q11), .ref (q12), .int (zi (0)), .ref (q14), .ref (q15), .ref (q16), .ref (q17), .ref (q18), .ref (q19), .null, .int (zi (0)), .null, .int (zi (0)), .int (zi (0)), .int (zi (0))]))) := by rw [ha19]; exact hi_18.arr hfr hm_18
  clear hfr
  obtain ⟨w19, hw19⟩ : ∃ z, z = zu (zu w18 q19 (mA tc (fun _ _ => 0) 19)) m0 (.inr (7, [.ref (q0), .ref (q1), .ref (q2), .ref (q3), .ref (q4), .ref (q5), .ref (q6), .ref (q7), .ref (q8), .ref (q9), .ref (q10), .ref (q11), .ref (q12), .int (zi (0)), .ref (q14), .ref (q15), .ref (q16), .ref (q17), .ref (q18), .ref (q19), .null, .int (zi (0)), .null, .int (zi (0)), .int (zi (0)), .int (zi (0))])) := ⟨_, rfl⟩
  have hR : zR D A w19 H := by rw [hw19]; exact hR
  rw [← hw19] at hi_19
  have hm_19 : w19 m0 = some (.inr (7, [.ref (q0), .ref (q1), .ref (q2), .ref (q3), .ref (q4), .ref (q5), .ref (q6), .ref (q7), .ref (q8), .ref (q9), .ref (q10), .ref (q11), .ref (q12), .int (zi (0)), .ref (q14), .ref (q15), .ref (q16), .ref (q17), .ref (q18), .ref (q19), .null, .int (zi (0)), .null, .int (zi (0)), .int (zi (0)), .int (zi (0))])) := by rw [hw19]; exact zu_eq
  clear hw19 hm9
  refine lv_aload_n hx hb dX6_init_156 rfl (lv_at hl 0 rfl) ?_
  refine lv_bipush (v := zi (30)) hx hb dX6_init_157 rfl ?_
  refine z_newa (atype := .int) (n := 30) (N := 30) (ty := .int) (a0 := (30, .inl (fun _ => zi 0))) hx hb (q_74 hT hW) rfl hK hR hS hA (by decide +kernel) 0 rfl (fun cA => rfl) (by omega) (by decide +kernel) (by decide +kernel) (by decide +kernel) dX6_init_159 (fun q20 H hfr hR hS => ?_)
  have hR : zR D A (zu w19 q20 (mA tc (fun _ _ => 0) 20)) H := hR
  have hm9 : (zu w19 q20 (mA tc (fun _ _ => 0) 20)) m0 = some (.inr (7, [.ref (q0), .ref (q1), .ref (q2), .ref (q3), .ref (q4), .ref (q5), .ref (q6), .ref (q7), .ref (q8), .ref (q9), .ref (q10), .ref (q11), .ref (q12), .int (zi (0)), .ref (q14), .ref (q15), .ref (q16), .ref (q17), .ref (q18), .ref (q19), .null, .int (zi (0)), .null, .int (zi (0)), .int (zi (0)), .int (zi (0))])) := (zu_ne (hfr _ _ hm_19)).trans hm_19
  refine z_putF hx hb (q_wsX6 hT hW) tyX6 tyX6_ok nmX6 hown hK hR hS hm9 rfl 20 (by decide) (q_684 hT hW) (fun _ h => h) rfl hnm rfl (tyX6_ok 20 (by decide)) rfl rfl (Nat.le_of_ble_eq_true rfl) dX6_init_161 (fun H locs hR hS => ?_)
  obtain ⟨aM20, ha20⟩ : ∃ z : Nat → Nat, z = fun j => if j = 20 then q20 else aM19 j := ⟨_, rfl⟩
  have hi_20 : mI tc aM20 21 (zu (zu w19 q20 (mA tc (fun _ _ => 0) 20)) m0 (.inr (7, [.ref (q0), .ref (q1), .ref (q2), .ref (q3), .ref (q4), .ref (q5), .ref (q6), .ref (q7), .ref (q8), .ref (q9), .ref (q10), .ref (q11), .ref (q12), .int (zi (0)), .ref (q14), .ref (q15), .ref (q16), .ref (q17), .ref (q18), .ref (q19), .ref (q20), .int (zi (0)), .null, .int (zi (0)), .int (zi (0)), .int (zi (0))]))) := by rw [ha20]; exact hi_19.arr hfr hm_19
  clear hfr
  obtain ⟨w20, hw20⟩ : ∃ z, z = zu (zu w19 q20 (mA tc (fun _ _ => 0) 20)) m0 (.inr (7, [.ref (q0), .ref (q1), .ref (q2), .ref (q3), .ref (q4), .ref (q5), .ref (q6), .ref (q7), .ref (q8), .ref (q9), .ref (q10), .ref (q11), .ref (q12), .int (zi (0)), .ref (q14), .ref (q15), .ref (q16), .ref (q17), .ref (q18), .ref (q19), .ref (q20), .int (zi (0)), .null, .int (zi (0)), .int (zi (0)), .int (zi (0))])) := ⟨_, rfl⟩
  have hR : zR D A w20 H := by rw [hw20]; exact hR
  rw [← hw20] at hi_20
  have hm_20 : w20 m0 = some (.inr (7, [.ref (q0), .ref (q1), .ref (q2), .ref (q3), .ref (q4), .ref (q5), .ref (q6), .ref (q7), .ref (q8), .ref (q9), .ref (q10), .ref (q11), .ref (q12), .int (zi (0)), .ref (q14), .ref (q15), .ref (q16), .ref (q17), .ref (q18), .ref (q19), .ref (q20), .int (zi (0)), .null, .int (zi (0)), .int (zi (0)), .int (zi (0))])) := by rw [hw20]; exact zu_eq
  clear hw20 hm9
  refine lv_aload_n hx hb dX6_init_164 rfl (lv_at hl 0 rfl) ?_
  refine lv_iconst (v := zi (3)) hx hb dX6_init_165 rfl ?_
  refine z_newa (atype := .int) (n := 3) (N := 3) (ty := .int) (a0 := (3, .inl (fun _ => zi 0))) hx hb (q_74 hT hW) rfl hK hR hS hA (by decide +kernel) 0 rfl (fun cA => rfl) (by omega) (by decide +kernel) (by decide +kernel) (by decide +kernel) dX6_init_166 (fun q22 H hfr hR hS => ?_)
  have hs_22 : mI tc aM20 22 w20 := hi_20.skip (fun k hk hk2 => by unfold mar at hk2; omega)
  have hR : zR D A (zu w20 q22 (mA tc (fun _ _ => 0) 22)) H := hR
  have hm9 : (zu w20 q22 (mA tc (fun _ _ => 0) 22)) m0 = some (.inr (7, [.ref (q0), .ref (q1), .ref (q2), .ref (q3), .ref (q4), .ref (q5), .ref (q6), .ref (q7), .ref (q8), .ref (q9), .ref (q10), .ref (q11), .ref (q12), .int (zi (0)), .ref (q14), .ref (q15), .ref (q16), .ref (q17), .ref (q18), .ref (q19), .ref (q20), .int (zi (0)), .null, .int (zi (0)), .int (zi (0)), .int (zi (0))])) := (zu_ne (hfr _ _ hm_20)).trans hm_20
  refine z_putF hx hb (q_wsX6 hT hW) tyX6 tyX6_ok nmX6 hown hK hR hS hm9 rfl 22 (by decide) (q_686 hT hW) (fun _ h => h) rfl hnm rfl (tyX6_ok 22 (by decide)) rfl rfl (Nat.le_of_ble_eq_true rfl) dX6_init_168 (fun H locs hR hS => ?_)
  obtain ⟨aM22, ha22⟩ : ∃ z : Nat → Nat, z = fun j => if j = 22 then q22 else aM20 j := ⟨_, rfl⟩
  have hi_22 : mI tc aM22 23 (zu (zu w20 q22 (mA tc (fun _ _ => 0) 22)) m0 (.inr (7, [.ref (q0), .ref (q1), .ref (q2), .ref (q3), .ref (q4), .ref (q5), .ref (q6), .ref (q7), .ref (q8), .ref (q9), .ref (q10), .ref (q11), .ref (q12), .int (zi (0)), .ref (q14), .ref (q15), .ref (q16), .ref (q17), .ref (q18), .ref (q19), .ref (q20), .int (zi (0)), .ref (q22), .int (zi (0)), .int (zi (0)), .int (zi (0))]))) := by rw [ha22]; exact hs_22.arr hfr hm_20
  clear hfr
  obtain ⟨w22, hw22⟩ : ∃ z, z = zu (zu w20 q22 (mA tc (fun _ _ => 0) 22)) m0 (.inr (7, [.ref (q0), .ref (q1), .ref (q2), .ref (q3), .ref (q4), .ref (q5), .ref (q6), .ref (q7), .ref (q8), .ref (q9), .ref (q10), .ref (q11), .ref (q12), .int (zi (0)), .ref (q14), .ref (q15), .ref (q16), .ref (q17), .ref (q18), .ref (q19), .ref (q20), .int (zi (0)), .ref (q22), .int (zi (0)), .int (zi (0)), .int (zi (0))])) := ⟨_, rfl⟩
  have hR : zR D A w22 H := by rw [hw22]; exact hR
  rw [← hw22] at hi_22
  have hm_22 : w22 m0 = some (.inr (7, [.ref (q0), .ref (q1), .ref (q2), .ref (q3), .ref (q4), .ref (q5), .ref (q6), .ref (q7), .ref (q8), .ref (q9), .ref (q10), .ref (q11), .ref (q12), .int (zi (0)), .ref (q14), .ref (q15), .ref (q16), .ref (q17), .ref (q18), .ref (q19), .ref (q20), .int (zi (0)), .ref (q22), .int (zi (0)), .int (zi (0)), .int (zi (0))])) := by rw [hw22]; exact zu_eq
  clear hw22 hm9
  refine lv_aload_n hx hb dX6_init_171 rfl (lv_at hl 0 rfl) ?_
  refine lv_sipush (v := zi (200)) hx hb dX6_init_172 rfl ?_
  refine z_put hx hb (q_wsX6 hT hW) tyX6 tyX6_ok nmX6 hown hK hR hS hm_22 rfl 23 (by decide) (q_687 hT hW) (fun _ h => h) rfl (tyX6_ok 23 (by decide)) rfl rfl (Nat.le_of_ble_eq_true rfl) dX6_init_175 (fun H locs hR hS => ?_)
  have hi_23 : mI tc aM22 24 (zu w22 m0 (.inr (7, [.ref (q0), .ref (q1), .ref (q2), .ref (q3), .ref (q4), .ref (q5), .ref (q6), .ref (q7), .ref (q8), .ref (q9), .ref (q10), .ref (q11), .ref (q12), .int (zi (0)), .ref (q14), .ref (q15), .ref (q16), .ref (q17), .ref (q18), .ref (q19), .ref (q20), .int (zi (0)), .ref (q22), .int (zi (200)), .int (zi (0)), .int (zi (0))]))) := hi_22.num (fun k hk hk2 => by unfold mar at hk2; omega) hm_22
  have hm_23 : (zu w22 m0 (.inr (7, [.ref (q0), .ref (q1), .ref (q2), .ref (q3), .ref (q4), .ref (q5), .ref (q6), .ref (q7), .ref (q8), .ref (q9), .ref (q10), .ref (q11), .ref (q12), .int (zi (0)), .ref (q14), .ref (q15), .ref (q16), .ref (q17), .ref (q18), .ref (q19), .ref (q20), .int (zi (0)), .ref (q22), .int (zi (200)), .int (zi (0)), .int (zi (0))]))) m0 = some (.inr (7, [.ref (q0), .ref (q1), .ref (q2), .ref (q3), .ref (q4), .ref (q5), .ref (q6), .ref (q7), .ref (q8), .ref (q9), .ref (q10), .ref (q11), .ref (q12), .int (zi (0)), .ref (q14), .ref (q15), .ref (q16), .ref (q17), .ref (q18), .ref (q19), .ref (q20), .int (zi (0)), .ref (q22), .int (zi (200)), .int (zi (0)), .int (zi (0))])) := zu_eq
  have hR : zR D A (zu w22 m0 (.inr (7, [.ref (q0), .ref (q1), .ref (q2), .ref (q3), .ref (q4), .ref (q5), .ref (q6), .ref (q7), .ref (q8), .ref (q9), .ref (q10), .ref (q11), .ref (q12), .int (zi (0)), .ref (q14), .ref (q15), .ref (q16), .ref (q17), .ref (q18), .ref (q19), .ref (q20), .int (zi (0)), .ref (q22), .int (zi (200)), .int (zi (0)), .int (zi (0))]))) H := hR
  have ef : [.ref (q0), .ref (q1), .ref (q2), .ref (q3), .ref (q4), .ref (q5), .ref (q6), .ref (q7), .ref (q8), .ref (q9), .ref (q10), .ref (q11), .ref (q12), .int (zi (0)), .ref (q14), .ref (q15), .ref (q16), .ref (q17), .ref (q18), .ref (q19), .ref (q20), .int (zi (0)), .ref (q22), .int (zi (200)), .int (zi (0)), .int (zi (0))] = mF aM22 mu0 := by
    unfold mF
    rw [show aM22 0 = q0 from by rw [ha22, ha20, ha19, ha18, ha17, ha16, ha15, ha14, ha12, ha11, ha10, ha9, ha8, ha7, ha6, ha5, ha4, ha3, ha2, ha1, ha0]; rfl, show aM22 1 = q1 from by rw [ha22, ha20, ha19, ha18, ha17, ha16, ha15, ha14, ha12, ha11, ha10, ha9, ha8, ha7, ha6, ha5, ha4, ha3, ha2, ha1]; rfl, show aM22 2 = q2 from by rw [ha22, ha20, ha19, ha18, ha17, ha16, ha15, ha14, ha12, ha11, ha10, ha9, ha8, ha7, ha6, ha5, ha4, ha3, ha2]; rfl, show aM22 3 = q3 from by rw [ha22, ha20, ha19, ha18, ha17, ha16, ha15, ha14, ha12, ha11, ha10, ha9, ha8, ha7, ha6, ha5, ha4, ha3]; rfl, show aM22 4 = q4 from by rw [ha22, ha20, ha19, ha18, ha17, ha16, ha15, ha14, ha12, ha11, ha10, ha9, ha8, ha7, ha6, ha5, ha4]; rfl, show aM22 5 = q5 from by rw [ha22, ha20, ha19, ha18, ha17, ha16, ha15, ha14, ha12, ha11, ha10, ha9, ha8, ha7, ha6, ha5]; rfl, show aM22 6 = q6 from by rw [ha22, ha20, ha19, ha18, ha17, ha16, ha15, ha14, ha12, ha11, ha10, ha9, ha8, ha7, ha6]; rfl, show aM22 7 = q7 from by rw [ha22, ha20, ha19, ha18, ha17, ha16, ha15, ha14, ha12, ha11, ha10, ha9, ha8, ha7]; rfl, show aM22 8 = q8 from by rw [ha22, ha20, ha19, ha18, ha17, ha16, ha15, ha14, ha12, ha11, ha10, ha9, ha8]; rfl, show aM22 9 = q9 from by rw [ha22, ha20, ha19, ha18, ha17, ha16, ha15, ha14, ha12, ha11, ha10, ha9]; rfl, show aM22 10 = q10 from by rw [ha22, ha20, ha19, ha18, ha17, ha16, ha15, ha14, ha12, ha11, ha10]; rfl, show aM22 11 = q11 from by rw [ha22, ha20, ha19, ha18, ha17, ha16, ha15, ha14, ha12, ha11]; rfl, show aM22 12 = q12 from by rw [ha22, ha20, ha19, ha18, ha17, ha16, ha15, ha14, ha12]; rfl, show aM22 14 = q14 from by rw [ha22, ha20, ha19, ha18, ha17, ha16, ha15, ha14]; rfl, show aM22 15 = q15 from by rw [ha22, ha20, ha19, ha18, ha17, ha16, ha15]; rfl, show aM22 16 = q16 from by rw [ha22, ha20, ha19, ha18, ha17, ha16]; rfl, show aM22 17 = q17 from by rw [ha22, ha20, ha19, ha18, ha17]; rfl, show aM22 18 = q18 from by rw [ha22, ha20, ha19, ha18]; rfl, show aM22 19 = q19 from by rw [ha22, ha20, ha19]; rfl, show aM22 20 = q20 from by rw [ha22, ha20]; rfl, show aM22 22 = q22 from by rw [ha22]; rfl]
    rfl
  exact z_vret hx hb hr hlocks hS (by decide +kernel) (by decide +kernel) dX6_init_178 ⟨rfl, aM22, (zu w22 m0 (.inr (7, [.ref (q0), .ref (q1), .ref (q2), .ref (q3), .ref (q4), .ref (q5), .ref (q6), .ref (q7), .ref (q8), .ref (q9), .ref (q10), .ref (q11), .ref (q12), .int (zi (0)), .ref (q14), .ref (q15), .ref (q16), .ref (q17), .ref (q18), .ref (q19), .ref (q20), .int (zi (0)), .ref (q22), .int (zi (200)), .int (zi (0)), .int (zi (0))]))), ⟨ef ▸ hm_23, fun k hk => (by rw [mA_0 hk]; exact hi_23.1 k (by unfold mar at hk; omega) hk), fun j k hj hk e => hi_23.2 j k (by unfold mar at hj; omega) (by unfold mar at hk; omega) hj hk e⟩, hR⟩
