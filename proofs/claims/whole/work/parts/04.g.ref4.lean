/-! what each call answers and does: c its way out (0 returns, 1.. the exceptions in their order) -/
def mcBoat (u : zS_) (a b k d f : Int) : Int := if ¬ ((0 ≤ a ∧ a ≤ 2) ∧ (0 ≤ b ∧ b ≤ 47)) then 1 else if ¬ ((1 ≤ k ∧ k ≤ 3) ∧ (1 ≤ d ∧ d ≤ 100) ∧ (0 ≤ f ∧ f ≤ 9)) then 2 else if u 13 0 = 6 then 3 else 0
def muBoat (u : zS_) (a b k d f : Int) : zS_ := ms (ms (ms (ms (ms (ms (ms (ms (ms u 1 (u 13 0).toNat a) 2 (u 13 0).toNat a) 3 (u 13 0).toNat b) 4 (u 13 0).toNat k) 5 (u 13 0).toNat d) 6 (u 13 0).toNat d) 7 (u 13 0).toNat f) 9 (u 13 0).toNat (-1)) 13 0 (u 13 0 + 1)
def mcLend (u : zS_) (a b : Int) : Int := if (0 ≤ a ∧ a ≤ u 13 0 - 1) ∧ (0 ≤ b ∧ b ≤ 2) then 0 else 1
def mcFore (u : zS_) (f t a z st : Int) : Int := if ¬ ((0 ≤ f ∧ f ≤ 47) ∧ (0 ≤ t ∧ t ≤ 47)) then 1 else if f % 8 ≤ t % 8 ∧ f / 8 ≤ t / 8 ∧ (u 24 0 ≤ a ∧ a ≤ 999) ∧ (a ≤ z ∧ z ≤ 999) ∧ (0 ≤ st ∧ st ≤ 9) then 0 else 2
/-- s at the places of P in field 0 -/
noncomputable def mfo (u : zS_) (Pl : Nat → Prop) (st : Int) : zS_ := fun k j => @ite _ (k = 0 ∧ Pl j) (Classical.propDecidable _) st (u k j)
def mrect (f t a z : Int) (j : Nat) : Prop := (j : Int) / 1000 ≤ 47 ∧ (f % 8 ≤ (j : Int) / 1000 % 8 ∧ (j : Int) / 1000 % 8 ≤ t % 8) ∧ (f / 8 ≤ (j : Int) / 1000 / 8 ∧ (j : Int) / 1000 / 8 ≤ t / 8) ∧ a ≤ (j : Int) % 1000 ∧ (j : Int) % 1000 ≤ z
noncomputable def muFore (u : zS_) (f t a z st : Int) : zS_ := mfo u (mrect f t a z) st
theorem mfo_k {u : zS_} {Pl : Nat → Prop} {st : Int} {k j : Nat} (h : k ≠ 0) : mfo u Pl st k j = u k j := if_neg (fun z => h z.1)
theorem mfo_ms {u : zS_} {Pl : Nat → Prop} {st : Int} {i : Nat} : ms (mfo u Pl st) 0 i st = mfo u (fun j => Pl j ∨ j = i) st := by
  funext k j
  unfold ms mfo
  by_cases h : k = 0 ∧ j = i
  · rw [if_pos h, if_pos ⟨h.1, Or.inr h.2⟩]
  · rw [if_neg h]
    by_cases h2 : k = 0 ∧ Pl j
    · rw [if_pos h2, if_pos ⟨h2.1, Or.inl h2.2⟩]
    · rw [if_neg h2, if_neg (fun z => z.2.elim (fun q => h2 ⟨z.1, q⟩) (fun q => h ⟨z.1, q⟩))]
theorem mfo_c {u : zS_} {Pl Ql : Nat → Prop} {st : Int} (h : ∀ j, Pl j ↔ Ql j) : mfo u Pl st = mfo u Ql st := by
  rw [show Pl = Ql from funext fun j => propext (h j)]
theorem mfo_0 {u : zS_} {Pl : Nat → Prop} {st : Int} (h : ∀ j, ¬ Pl j) : mfo u Pl st = u := by
  funext k j
  exact if_neg (fun z => h j z.2)
def mcCall (u : zS_) (a n z : Int) : Int := if ¬ (0 ≤ a ∧ a ≤ 47) then 1 else if ¬ ((1 ≤ n ∧ n ≤ 50) ∧ (u 24 0 + 1 ≤ z ∧ z ≤ 999)) then 2 else if u 21 0 = 30 then 3 else 0
def muCall (u : zS_) (a n z : Int) : zS_ := ms (ms (ms (ms (ms u 14 (u 21 0).toNat a) 15 (u 21 0).toNat n) 16 (u 21 0).toNat z) 18 (u 21 0).toNat (-1)) 21 0 (u 21 0 + 1)
def mcCap (a : Int) : Int := if 0 ≤ a ∧ a ≤ 1000 then 0 else 1
def mcPass (u : zS_) (n : Int) : Int := if ¬ (1 ≤ n ∧ n ≤ 48) then 1 else if 999 < u 24 0 + n then 2 else 0
def mcStorm (u : zS_) (a h : Int) : Int := if ¬ (0 ≤ a ∧ a ≤ 47) then 1 else if u 24 0 ≤ h ∧ h ≤ 999 then 0 else 2
def mcOfB (u : zS_) (a n : Int) : Int := if ¬ (0 ≤ a ∧ a ≤ u 13 0 - 1) then 1 else if 0 ≤ n ∧ n ≤ 3 then 0 else 2
def mvOfB (u : zS_) (a n : Int) : Int := if n = 0 then u 8 a.toNat else if n = 1 then u 9 a.toNat else if n = 2 then (if u 8 a.toNat = 0 then -1 else u 11 a.toNat) else u 6 a.toNat
def mcOfC (u : zS_) (a n : Int) : Int := if ¬ (0 ≤ a ∧ a ≤ u 21 0 - 1) then 1 else if 0 ≤ n ∧ n ≤ 3 then 0 else 2
def mvOfC (u : zS_) (a n : Int) : Int := if n = 0 then u 17 a.toNat else if n = 1 then u 18 a.toNat else if n = 2 then u 19 a.toNat else u 20 a.toNat
def mcClub (a : Int) : Int := if 0 ≤ a ∧ a ≤ 2 then 0 else 1
def mcCell (a : Int) : Int := if 0 ≤ a ∧ a ≤ 47 then 0 else 1
/-- how many of the first n calls are of the cell -/
def mmany (u : zS_) (a : Int) : Nat → Int
  | 0 => 0
  | n + 1 => mmany u a n + (if u 14 n = a then 1 else 0)
theorem mmany_r {u : zS_} {a : Int} (n : Nat) : 0 ≤ mmany u a n ∧ mmany u a n ≤ n := by
  induction n with
  | zero => exact ⟨Int.le_refl 0, Int.le_refl 0⟩
  | succ n ih => unfold mmany; by_cases h : u 14 n = a <;> simp only [h, if_true, if_false] <;> omega
def mmost (u : zS_) (a : Int) : Int := zmax (fun h => u 0 (1000 * a + h).toNat) (u 24 0) (min (u 24 0 + 23) 999 + 1 - u 24 0).toNat
def mfl (x y : Int) : UInt32 := FP.fadd (FP.fmul 1069547520 (FP.i2f (zi x))) (FP.fmul 1048576000 (FP.i2f (zi y)))
theorem mfl_n : ∀ x : Nat, x < 16 → ∀ y : Nat, y < 31 → vf_n32 (FP.fmul 1069547520 (FP.i2f (zi x))) ∧ vf_n32 (FP.fmul 1048576000 (FP.i2f (zi y))) ∧ vf_n32 (mfl x y) ∧ vf_n64 (FP.f2d (mfl x y)) := by
  have h : (List.range 16).all (fun x => (List.range 31).all fun y => decide (FP.fmul 1069547520 (FP.i2f (zi (x : Int))) &&& 0x7fffffff ≤ 0x7f800000) && decide (FP.fmul 1048576000 (FP.i2f (zi (y : Int))) &&& 0x7fffffff ≤ 0x7f800000) && decide (mfl (x : Int) (y : Int) &&& 0x7fffffff ≤ 0x7f800000) && decide (FP.f2d (mfl (x : Int) (y : Int)) &&& 0x7fffffffffffffff ≤ 0x7ff0000000000000)) = true := by decide +kernel
  intro x hx y hy
  have h1 := List.all_eq_true.mp h x (List.mem_range.mpr hx)
  have h2 := List.all_eq_true.mp h1 y (List.mem_range.mpr hy)
  simp only [Bool.and_eq_true, decide_eq_true_eq] at h2
  exact ⟨h2.1.1.1, h2.1.1.2, h2.1.2, h2.2⟩
set_option maxHeartbeats 4000000 in
set_option maxRecDepth 100000 in
theorem c_X6_boat (l : Launch) {S : State} {D : va_G} {tc : Nat → ClassId} {A : Nat → Prop} {dz : Nat} (hZ : zB S D tc A dz) {m0 : Nat} {aM : Nat → Nat} {u : zS_} {a b_ k d f : Int} (h0 : -2147483648 ≤ a ∧ a ≤ 2147483647 ∧ -2147483648 ≤ b_ ∧ b_ ≤ 2147483647 ∧ -2147483648 ≤ k ∧ k ≤ 2147483647 ∧ -2147483648 ≤ d ∧ d ≤ 2147483647 ∧ -2147483648 ≤ f ∧ f ≤ 2147483647) (hI : zIn u) : zM l S A yX6_boat cX6_boat 8 (Option.some Jvm.ClassFile.FieldType.int) { frames := 3, locals := 80, cells := 0, slots := 0 } [.ref m0, .int (zi (a)), .int (zi (b_)), .int (zi (k)), .int (zi (d)), .int (zi (f))] (mH D tc A m0 aM u) (fun v H => v = some (.int (zi (if 0 < mcBoat u a b_ k d f then -1 else u 13 0))) ∧ mH D tc A m0 aM (if 0 < mcBoat u a b_ k d f then ms u 25 0 (mcBoat u a b_ k d f) else muBoat (ms u 25 0 0) a b_ k d f) H) := by
  refine zM.mk (by decide +kernel) (Nat.le_of_ble_eq_true rfl) ?_
  intro p e s m below meth c ls X0 hR hl
  obtain ⟨hx, hb, hml, hr, hlocks, hown, hnm, hW, hpre, hA⟩ := X0
  have X : zH S A p s m c cX6_boat 8 RX6 := ⟨hx, hb, hml, hown, hW, hpre, hA, hZ.2.2.1⟩
  have hT := hZ.1
  have hK := va_K.moved hW.alike hZ.2.1
  have hS : va_S A s.heap s.heap [] := va_S.rf
  have hl : lv_has ls 8 [(0, .ref m0), (1, .int (zi (a))), (2, .int (zi (b_))), (3, .int (zi (k))), (4, .int (zi (d))), (5, .int (zi (f)))] := hl
  skip
  have hI1 := hI.1
  have J26 : ∀ (x1 : Int) (H : Heap) (locs : List Loc) (ls : Array Slot), x1 = (if (0 ≤ a ∧ a ≤ 2) ∧ (0 ≤ b_ ∧ b_ ≤ 47) then 1 else 0) → mH D tc A m0 aM u H → va_S A s.heap H locs → lv_has ls 8 [(0, .ref m0), (1, .int (zi (a))), (2, .int (zi (b_))), (3, .int (zi (k))), (4, .int (zi (d))), (5, .int (zi (f)))] → W p l e { frames := 3, locals := 80, cells := 0, slots := 0 } s m ([.ref m0, .int (zi (a)), .int (zi (b_)), .int (zi (k)), .int (zi (d)), .int (zi (f))] : List Value).toArray below meth c H locs 0 0 (MQ below (zQ A (fun v H => v = some (.int (zi (if 0 < mcBoat u a b_ k d f then -1 else u 13 0))) ∧ mH D tc A m0 aM (if 0 < mcBoat u a b_ k d f then ms u 25 0 (mcBoat u a b_ k d f) else muBoat (ms u 25 0 0) a b_ k d f) H)) ([.ref m0, .int (zi (a)), .int (zi (b_)), .int (zi (k)), .int (zi (d)), .int (zi (f))] : List Value).toArray s ({ frames := 3, locals := 80, cells := 0, slots := 0 } : Room).cells ({ frames := 3, locals := 80, cells := 0, slots := 0 } : Room).slots A) (F0 m 26 ls [.int (zi (x1))]) := by
    intro x1 H locs ls hx1 hR hS hl
    refine lv_istore (lv' := [(6, .int (zi (x1))), (0, .ref m0), (1, .int (zi (a))), (2, .int (zi (b_))), (3, .int (zi (k))), (4, .int (zi (d))), (5, .int (zi (f)))]) hx hb dX6_boat_26 hl (by decide) rfl (fun ls hl => ?_)
    have J67 : ∀ (x2 : Int) (H : Heap) (locs : List Loc) (ls : Array Slot), x2 = (if (1 ≤ k ∧ k ≤ 3) ∧ (1 ≤ d ∧ d ≤ 100) ∧ (0 ≤ f ∧ f ≤ 9) then 1 else 0) → mH D tc A m0 aM u H → va_S A s.heap H locs → lv_has ls 8 [(6, .int (zi (x1))), (0, .ref m0), (1, .int (zi (a))), (2, .int (zi (b_))), (3, .int (zi (k))), (4, .int (zi (d))), (5, .int (zi (f)))] → W p l e { frames := 3, locals := 80, cells := 0, slots := 0 } s m ([.ref m0, .int (zi (a)), .int (zi (b_)), .int (zi (k)), .int (zi (d)), .int (zi (f))] : List Value).toArray below meth c H locs 0 0 (MQ below (zQ A (fun v H => v = some (.int (zi (if 0 < mcBoat u a b_ k d f then -1 else u 13 0))) ∧ mH D tc A m0 aM (if 0 < mcBoat u a b_ k d f then ms u 25 0 (mcBoat u a b_ k d f) else muBoat (ms u 25 0 0) a b_ k d f) H)) ([.ref m0, .int (zi (a)), .int (zi (b_)), .int (zi (k)), .int (zi (d)), .int (zi (f))] : List Value).toArray s ({ frames := 3, locals := 80, cells := 0, slots := 0 } : Room).cells ({ frames := 3, locals := 80, cells := 0, slots := 0 } : Room).slots A) (F0 m 67 ls [.int (zi (x2))]) := by
      intro x2 H locs ls hx2 hR hS hl
      refine lv_istore (lv' := [(7, .int (zi (x2))), (6, .int (zi (x1))), (0, .ref m0), (1, .int (zi (a))), (2, .int (zi (b_))), (3, .int (zi (k))), (4, .int (zi (d))), (5, .int (zi (f)))]) hx hb dX6_boat_67 hl (by decide) rfl (fun ls hl => ?_)
      refine lv_aload_n hx hb dX6_boat_69 rfl (lv_at hl 2 rfl) ?_
      have J102 : ∀ (x : Int) (H : Heap) (locs : List Loc) (ls : Array Slot), x = (mcBoat u a b_ k d f) → mH D tc A m0 aM u H → va_S A s.heap H locs → lv_has ls 8 [(7, .int (zi (x2))), (6, .int (zi (x1))), (0, .ref m0), (1, .int (zi (a))), (2, .int (zi (b_))), (3, .int (zi (k))), (4, .int (zi (d))), (5, .int (zi (f)))] → W p l e { frames := 3, locals := 80, cells := 0, slots := 0 } s m ([.ref m0, .int (zi (a)), .int (zi (b_)), .int (zi (k)), .int (zi (d)), .int (zi (f))] : List Value).toArray below meth c H locs 0 0 (MQ below (zQ A (fun v H => v = some (.int (zi (if 0 < mcBoat u a b_ k d f then -1 else u 13 0))) ∧ mH D tc A m0 aM (if 0 < mcBoat u a b_ k d f then ms u 25 0 (mcBoat u a b_ k d f) else muBoat (ms u 25 0 0) a b_ k d f) H)) ([.ref m0, .int (zi (a)), .int (zi (b_)), .int (zi (k)), .int (zi (d)), .int (zi (f))] : List Value).toArray s ({ frames := 3, locals := 80, cells := 0, slots := 0 } : Room).cells ({ frames := 3, locals := 80, cells := 0, slots := 0 } : Room).slots A) (F0 m 102 ls [.int (zi (x)), .ref m0]) := by
        intro x H locs ls hxe hR hS hl
        have hxu := hxe
        unfold mcBoat at hxu
        refine z_invV (n := 1) (C := RX6) (c_X6_fails l hZ (u := u) (k := x) (by omega)) X hS hR hl.1 (q_758 hT hW) (q_7 hT hW) (q_755 hT hW) (q_757 hT hW) (q_p18 hT hW) (m_recv hK hR) (by decide +kernel) rfl ⟨Nat.le_of_ble_eq_true rfl, Nat.le_of_ble_eq_true rfl⟩ ⟨Nat.le_of_ble_eq_true rfl, Nat.le_of_ble_eq_true rfl⟩ (Nat.le_of_ble_eq_true rfl) dX6_boat_102 (fun v H locs hv hS => ?_) rfl
        obtain ⟨rfl, hR⟩ := hv
        refine z_if_eq (a := (if 0 < x then 1 else 0)) (tgt := 110) hx hb dX6_boat_105 (by decide) (by omega) (fun h_105 => ?_) (fun h_105 => ?_)
        · skip
          have hn6 : u 13 0 < 6 := by omega
          refine lv_aload_n hx hb dX6_boat_110 rfl (lv_at hl 2 rfl) ?_
          refine m_get hx hb (q_wsX6 hT hW) hown hK hR 1 (by decide) (q_665 hT hW) (fun _ h => h) (v := .ref (aM 1)) rfl dX6_boat_111 ?_
          refine lv_aload_n hx hb dX6_boat_114 rfl (lv_at hl 2 rfl) ?_
          refine m_get hx hb (q_wsX6 hT hW) hown hK hR 13 (by decide) (q_677 hT hW) (fun _ h => h) (v := .int (zi (u 13 0))) (congrArg (fun z : Int => some (Value.int (zi z))) (ms_k (by decide))) dX6_boat_115 ?_
          refine lv_iload_n hx hb dX6_boat_118 rfl (lv_at hl 3 rfl) ?_
          refine m_iast (k := 1) (i := (u 13 0)) (x := a) hx hb hK hR hS (by unfold mar; omega) (by decide) (by show 0 ≤ (u 13 0) ∧ (u 13 0) < ((6 : Nat) : Int); omega) dX6_boat_119 (fun H locs hR hS => ?_)
          refine lv_aload_n hx hb dX6_boat_120 rfl (lv_at hl 2 rfl) ?_
          refine m_get hx hb (q_wsX6 hT hW) hown hK hR 2 (by decide) (q_666 hT hW) (fun _ h => h) (v := .ref (aM 2)) rfl dX6_boat_121 ?_
          refine lv_aload_n hx hb dX6_boat_124 rfl (lv_at hl 2 rfl) ?_
          refine m_get hx hb (q_wsX6 hT hW) hown hK hR 13 (by decide) (q_677 hT hW) (fun _ h => h) (v := .int (zi (u 13 0))) (congrArg (fun z : Int => some (Value.int (zi z))) ((ms_k (by decide)).trans (ms_k (by decide)))) dX6_boat_125 ?_
          refine lv_iload_n hx hb dX6_boat_128 rfl (lv_at hl 3 rfl) ?_
          refine m_iast (k := 2) (i := (u 13 0)) (x := a) hx hb hK hR hS (by unfold mar; omega) (by decide) (by show 0 ≤ (u 13 0) ∧ (u 13 0) < ((6 : Nat) : Int); omega) dX6_boat_129 (fun H locs hR hS => ?_)
          refine lv_aload_n hx hb dX6_boat_130 rfl (lv_at hl 2 rfl) ?_
          refine m_get hx hb (q_wsX6 hT hW) hown hK hR 3 (by decide) (q_667 hT hW) (fun _ h => h) (v := .ref (aM 3)) rfl dX6_boat_131 ?_
          refine lv_aload_n hx hb dX6_boat_134 rfl (lv_at hl 2 rfl) ?_
          refine m_get hx hb (q_wsX6 hT hW) hown hK hR 13 (by decide) (q_677 hT hW) (fun _ h => h) (v := .int (zi (u 13 0))) (congrArg (fun z : Int => some (Value.int (zi z))) ((ms_k (by decide)).trans ((ms_k (by decide)).trans (ms_k (by decide))))) dX6_boat_135 ?_
          refine lv_iload_n hx hb dX6_boat_138 rfl (lv_at hl 4 rfl) ?_
          refine m_iast (k := 3) (i := (u 13 0)) (x := b_) hx hb hK hR hS (by unfold mar; omega) (by decide) (by show 0 ≤ (u 13 0) ∧ (u 13 0) < ((6 : Nat) : Int); omega) dX6_boat_139 (fun H locs hR hS => ?_)
          refine lv_aload_n hx hb dX6_boat_140 rfl (lv_at hl 2 rfl) ?_
          refine m_get hx hb (q_wsX6 hT hW) hown hK hR 4 (by decide) (q_668 hT hW) (fun _ h => h) (v := .ref (aM 4)) rfl dX6_boat_141 ?_
          refine lv_aload_n hx hb dX6_boat_144 rfl (lv_at hl 2 rfl) ?_
          refine m_get hx hb (q_wsX6 hT hW) hown hK hR 13 (by decide) (q_677 hT hW) (fun _ h => h) (v := .int (zi (u 13 0))) (congrArg (fun z : Int => some (Value.int (zi z))) ((ms_k (by decide)).trans ((ms_k (by decide)).trans ((ms_k (by decide)).trans (ms_k (by decide)))))) dX6_boat_145 ?_
          refine lv_iload_n hx hb dX6_boat_148 rfl (lv_at hl 5 rfl) ?_
          refine m_iast (k := 4) (i := (u 13 0)) (x := k) hx hb hK hR hS (by unfold mar; omega) (by decide) (by show 0 ≤ (u 13 0) ∧ (u 13 0) < ((6 : Nat) : Int); omega) dX6_boat_149 (fun H locs hR hS => ?_)
          refine lv_aload_n hx hb dX6_boat_150 rfl (lv_at hl 2 rfl) ?_
          refine m_get hx hb (q_wsX6 hT hW) hown hK hR 5 (by decide) (q_669 hT hW) (fun _ h => h) (v := .ref (aM 5)) rfl dX6_boat_151 ?_
          refine lv_aload_n hx hb dX6_boat_154 rfl (lv_at hl 2 rfl) ?_
          refine m_get hx hb (q_wsX6 hT hW) hown hK hR 13 (by decide) (q_677 hT hW) (fun _ h => h) (v := .int (zi (u 13 0))) (congrArg (fun z : Int => some (Value.int (zi z))) ((ms_k (by decide)).trans ((ms_k (by decide)).trans ((ms_k (by decide)).trans ((ms_k (by decide)).trans (ms_k (by decide))))))) dX6_boat_155 ?_
          refine lv_iload hx hb dX6_boat_158 (lv_at hl 6 rfl) ?_
          refine m_iast (k := 5) (i := (u 13 0)) (x := d) hx hb hK hR hS (by unfold mar; omega) (by decide) (by show 0 ≤ (u 13 0) ∧ (u 13 0) < ((6 : Nat) : Int); omega) dX6_boat_160 (fun H locs hR hS => ?_)
          refine lv_aload_n hx hb dX6_boat_161 rfl (lv_at hl 2 rfl) ?_
          refine m_get hx hb (q_wsX6 hT hW) hown hK hR 6 (by decide) (q_670 hT hW) (fun _ h => h) (v := .ref (aM 6)) rfl dX6_boat_162 ?_
          refine lv_aload_n hx hb dX6_boat_165 rfl (lv_at hl 2 rfl) ?_
          refine m_get hx hb (q_wsX6 hT hW) hown hK hR 13 (by decide) (q_677 hT hW) (fun _ h => h) (v := .int (zi (u 13 0))) (congrArg (fun z : Int => some (Value.int (zi z))) ((ms_k (by decide)).trans ((ms_k (by decide)).trans ((ms_k (by decide)).trans ((ms_k (by decide)).trans ((ms_k (by decide)).trans (ms_k (by decide)))))))) dX6_boat_166 ?_
          refine lv_iload hx hb dX6_boat_169 (lv_at hl 6 rfl) ?_
          refine m_iast (k := 6) (i := (u 13 0)) (x := d) hx hb hK hR hS (by unfold mar; omega) (by decide) (by show 0 ≤ (u 13 0) ∧ (u 13 0) < ((6 : Nat) : Int); omega) dX6_boat_171 (fun H locs hR hS => ?_)
          refine lv_aload_n hx hb dX6_boat_172 rfl (lv_at hl 2 rfl) ?_
          refine m_get hx hb (q_wsX6 hT hW) hown hK hR 7 (by decide) (q_671 hT hW) (fun _ h => h) (v := .ref (aM 7)) rfl dX6_boat_173 ?_
          refine lv_aload_n hx hb dX6_boat_176 rfl (lv_at hl 2 rfl) ?_
          refine m_get hx hb (q_wsX6 hT hW) hown hK hR 13 (by decide) (q_677 hT hW) (fun _ h => h) (v := .int (zi (u 13 0))) (congrArg (fun z : Int => some (Value.int (zi z))) ((ms_k (by decide)).trans ((ms_k (by decide)).trans ((ms_k (by decide)).trans ((ms_k (by decide)).trans ((ms_k (by decide)).trans ((ms_k (by decide)).trans (ms_k (by decide))))))))) dX6_boat_177 ?_
          refine lv_iload hx hb dX6_boat_180 (lv_at hl 7 rfl) ?_
          refine m_iast (k := 7) (i := (u 13 0)) (x := f) hx hb hK hR hS (by unfold mar; omega) (by decide) (by show 0 ≤ (u 13 0) ∧ (u 13 0) < ((6 : Nat) : Int); omega) dX6_boat_182 (fun H locs hR hS => ?_)
          refine lv_aload_n hx hb dX6_boat_183 rfl (lv_at hl 2 rfl) ?_
          refine m_get hx hb (q_wsX6 hT hW) hown hK hR 9 (by decide) (q_673 hT hW) (fun _ h => h) (v := .ref (aM 9)) rfl dX6_boat_184 ?_
          refine lv_aload_n hx hb dX6_boat_187 rfl (lv_at hl 2 rfl) ?_
          refine m_get hx hb (q_wsX6 hT hW) hown hK hR 13 (by decide) (q_677 hT hW) (fun _ h => h) (v := .int (zi (u 13 0))) (congrArg (fun z : Int => some (Value.int (zi z))) ((ms_k (by decide)).trans ((ms_k (by decide)).trans ((ms_k (by decide)).trans ((ms_k (by decide)).trans ((ms_k (by decide)).trans ((ms_k (by decide)).trans ((ms_k (by decide)).trans (ms_k (by decide)))))))))) dX6_boat_188 ?_
          refine lv_iconst (v := zi (-1)) hx hb dX6_boat_191 rfl ?_
          refine m_iast (k := 9) (i := (u 13 0)) (x := (-1)) hx hb hK hR hS (by unfold mar; omega) (by decide) (by show 0 ≤ (u 13 0) ∧ (u 13 0) < ((6 : Nat) : Int); omega) dX6_boat_192 (fun H locs hR hS => ?_)
          refine lv_aload_n hx hb dX6_boat_193 rfl (lv_at hl 2 rfl) ?_
          refine lv_dup hx hb dX6_boat_194 rfl ?_
          refine m_get hx hb (q_wsX6 hT hW) hown hK hR 13 (by decide) (q_677 hT hW) (fun _ h => h) (v := .int (zi (u 13 0))) (congrArg (fun z : Int => some (Value.int (zi z))) ((ms_k (by decide)).trans ((ms_k (by decide)).trans ((ms_k (by decide)).trans ((ms_k (by decide)).trans ((ms_k (by decide)).trans ((ms_k (by decide)).trans ((ms_k (by decide)).trans ((ms_k (by decide)).trans (ms_k (by decide))))))))))) dX6_boat_195 ?_
          refine lv_iconst (v := zi (1)) hx hb dX6_boat_198 rfl ?_
          refine z_iadd (a := (u 13 0)) (b := 1) hx hb dX6_boat_199 ?_
          refine m_put (k := 13) (x := ((u 13 0) + 1)) hx hb (q_wsX6 hT hW) hown hK hR hS (by decide) (by unfold mar; omega) (q_677 hT hW) (fun _ h => h) rfl (tyX6_ok 13 (by decide)) (by unfold mF; rw [ms_s, ms_k (by decide), ms_k (by decide), ms_k (by decide), ms_k (by decide)]; rfl) dX6_boat_200 (fun H locs hR hS => ?_)
          refine lv_aload_n hx hb dX6_boat_203 rfl (lv_at hl 2 rfl) ?_
          refine m_get hx hb (q_wsX6 hT hW) hown hK hR 13 (by decide) (q_677 hT hW) (fun _ h => h) (v := .int (zi (((u 13 0) + 1)))) (congrArg (fun z : Int => some (Value.int (zi z))) (ms_s)) dX6_boat_204 ?_
          refine lv_iconst (v := zi (1)) hx hb dX6_boat_207 rfl ?_
          refine z_isub (a := (((u 13 0) + 1))) (b := 1) hx hb dX6_boat_208 ?_
          have hx0 : x = 0 := by omega
          subst hx0
          exact z_iret hx hb hr hlocks hS (by decide) (by decide) dX6_boat_209 ⟨by rw [← hxe, if_neg (Int.lt_irrefl 0), show u 13 0 + 1 - 1 = u 13 0 by omega], by rw [← hxe, if_neg (Int.lt_irrefl 0)]; exact hR⟩
        · skip
          refine lv_iconst (v := zi (-1)) hx hb dX6_boat_108 rfl ?_
          exact z_iret hx hb hr hlocks hS (by decide) (by decide) dX6_boat_109 ⟨by rw [← hxe, if_pos (show 0 < x by omega)], by rw [← hxe, if_pos (show 0 < x by omega)]; exact hR⟩
      refine lv_iload hx hb dX6_boat_70 (lv_at hl 1 rfl) ?_
      refine z_if_ne (a := x1) (tgt := 79) hx hb dX6_boat_72 (by decide) (by omega) (fun h_72 => ?_) (fun h_72 => ?_)
      · skip
        refine lv_iload hx hb dX6_boat_79 (lv_at hl 0 rfl) ?_
        refine z_if_ne (a := x2) (tgt := 88) hx hb dX6_boat_81 (by decide) (by omega) (fun h_81 => ?_) (fun h_81 => ?_)
        · skip
          refine lv_aload_n hx hb dX6_boat_88 rfl (lv_at hl 2 rfl) ?_
          refine m_get hx hb (q_wsX6 hT hW) hown hK hR 13 (by decide) (q_677 hT hW) (fun _ h => h) (v := .int (zi (u 13 0))) (congrArg (fun z : Int => some (Value.int (zi z))) rfl) dX6_boat_89 ?_
          refine lv_bipush (v := zi (6)) hx hb dX6_boat_92 rfl ?_
          refine z_icmp_ne (a := (u 13 0)) (b := 6) (tgt := 101) hx hb dX6_boat_94 (by decide) (by omega) (fun h_94 => ?_) (fun h_94 => ?_)
          · skip
            refine lv_iconst (v := zi (0)) hx hb dX6_boat_101 rfl ?_
            exact J102 _ _ _ _ (by unfold mcBoat; omega) hR hS (lv_sub hl [0, 1, 2, 3, 4, 5, 6, 7] rfl)
          · skip
            refine lv_iconst (v := zi (3)) hx hb dX6_boat_97 rfl ?_
            refine lv_goto (tgt := 102) hx hb dX6_boat_98 (by decide) ?_
            exact J102 _ _ _ _ (by unfold mcBoat; omega) hR hS (lv_sub hl [0, 1, 2, 3, 4, 5, 6, 7] rfl)
        · skip
          refine lv_iconst (v := zi (2)) hx hb dX6_boat_84 rfl ?_
          refine lv_goto (tgt := 102) hx hb dX6_boat_85 (by decide) ?_
          exact J102 _ _ _ _ (by unfold mcBoat; omega) hR hS (lv_sub hl [0, 1, 2, 3, 4, 5, 6, 7] rfl)
      · skip
        refine lv_iconst (v := zi (1)) hx hb dX6_boat_75 rfl ?_
        refine lv_goto (tgt := 102) hx hb dX6_boat_76 (by decide) ?_
        exact J102 _ _ _ _ (by unfold mcBoat; omega) hR hS (lv_sub hl [0, 1, 2, 3, 4, 5, 6, 7] rfl)
    refine lv_aload_n hx hb dX6_boat_28 rfl (lv_at hl 1 rfl) ?_
    refine lv_iload_n hx hb dX6_boat_29 rfl (lv_at hl 4 rfl) ?_
    refine lv_iconst (v := zi (1)) hx hb dX6_boat_30 rfl ?_
    refine lv_iconst (v := zi (3)) hx hb dX6_boat_31 rfl ?_
    refine z_invV (n := 3) (C := RX6) (c_X6_in l hZ (u := u) (a := k) (lo := 1) (hi := 3) (by omega)) X hS hR hl.1 (q_754 hT hW) (q_7 hT hW) (q_751 hT hW) (q_753 hT hW) (q_p17 hT hW) (m_recv hK hR) (by decide +kernel) rfl ⟨Nat.le_of_ble_eq_true rfl, Nat.le_of_ble_eq_true rfl⟩ ⟨Nat.le_of_ble_eq_true rfl, Nat.le_of_ble_eq_true rfl⟩ (Nat.le_of_ble_eq_true rfl) dX6_boat_32 (fun v H locs hv hS => ?_) rfl
    obtain ⟨rfl, hR⟩ := hv
    refine z_if_eq (a := (if 1 ≤ k ∧ k ≤ 3 then 1 else 0)) (tgt := 66) hx hb dX6_boat_35 (by decide) (by omega) (fun h_35 => ?_) (fun h_35 => ?_)
    · skip
      refine lv_iconst (v := zi (0)) hx hb dX6_boat_66 rfl ?_
      exact J67 _ _ _ _ (by omega) hR hS (lv_sub hl [0, 1, 2, 3, 4, 5, 6] rfl)
    · skip
      refine lv_aload_n hx hb dX6_boat_38 rfl (lv_at hl 1 rfl) ?_
      refine lv_iload hx hb dX6_boat_39 (lv_at hl 5 rfl) ?_
      refine lv_iconst (v := zi (1)) hx hb dX6_boat_41 rfl ?_
      refine lv_bipush (v := zi (100)) hx hb dX6_boat_42 rfl ?_
      refine z_invV (n := 3) (C := RX6) (c_X6_in l hZ (u := u) (a := d) (lo := 1) (hi := 100) (by omega)) X hS hR hl.1 (q_754 hT hW) (q_7 hT hW) (q_751 hT hW) (q_753 hT hW) (q_p17 hT hW) (m_recv hK hR) (by decide +kernel) rfl ⟨Nat.le_of_ble_eq_true rfl, Nat.le_of_ble_eq_true rfl⟩ ⟨Nat.le_of_ble_eq_true rfl, Nat.le_of_ble_eq_true rfl⟩ (Nat.le_of_ble_eq_true rfl) dX6_boat_44 (fun v H locs hv hS => ?_) rfl
      obtain ⟨rfl, hR⟩ := hv
      refine z_if_eq (a := (if 1 ≤ d ∧ d ≤ 100 then 1 else 0)) (tgt := 66) hx hb dX6_boat_47 (by decide) (by omega) (fun h_47 => ?_) (fun h_47 => ?_)
      · skip
        refine lv_iconst (v := zi (0)) hx hb dX6_boat_66 rfl ?_
        exact J67 _ _ _ _ (by omega) hR hS (lv_sub hl [0, 1, 2, 3, 4, 5, 6] rfl)
      · skip
        refine lv_aload_n hx hb dX6_boat_50 rfl (lv_at hl 1 rfl) ?_
        refine lv_iload hx hb dX6_boat_51 (lv_at hl 6 rfl) ?_
        refine lv_iconst (v := zi (0)) hx hb dX6_boat_53 rfl ?_
        refine lv_bipush (v := zi (9)) hx hb dX6_boat_54 rfl ?_
        refine z_invV (n := 3) (C := RX6) (c_X6_in l hZ (u := u) (a := f) (lo := 0) (hi := 9) (by omega)) X hS hR hl.1 (q_754 hT hW) (q_7 hT hW) (q_751 hT hW) (q_753 hT hW) (q_p17 hT hW) (m_recv hK hR) (by decide +kernel) rfl ⟨Nat.le_of_ble_eq_true rfl, Nat.le_of_ble_eq_true rfl⟩ ⟨Nat.le_of_ble_eq_true rfl, Nat.le_of_ble_eq_true rfl⟩ (Nat.le_of_ble_eq_true rfl) dX6_boat_56 (fun v H locs hv hS => ?_) rfl
        obtain ⟨rfl, hR⟩ := hv
        refine z_if_eq (a := (if 0 ≤ f ∧ f ≤ 9 then 1 else 0)) (tgt := 66) hx hb dX6_boat_59 (by decide) (by omega) (fun h_59 => ?_) (fun h_59 => ?_)
        · skip
          refine lv_iconst (v := zi (0)) hx hb dX6_boat_66 rfl ?_
          exact J67 _ _ _ _ (by omega) hR hS (lv_sub hl [0, 1, 2, 3, 4, 5, 6] rfl)
        · skip
          refine lv_iconst (v := zi (1)) hx hb dX6_boat_62 rfl ?_
          refine lv_goto (tgt := 67) hx hb dX6_boat_63 (by decide) ?_
          exact J67 _ _ _ _ (by omega) hR hS (lv_sub hl [0, 1, 2, 3, 4, 5, 6] rfl)
  refine lv_aload_n hx hb dX6_boat_0 rfl (lv_at hl 0 rfl) ?_
  refine lv_iload_n hx hb dX6_boat_1 rfl (lv_at hl 1 rfl) ?_
  refine lv_iconst (v := zi (0)) hx hb dX6_boat_2 rfl ?_
  refine lv_iconst (v := zi (2)) hx hb dX6_boat_3 rfl ?_
  refine z_invV (n := 3) (C := RX6) (c_X6_in l hZ (u := u) (a := a) (lo := 0) (hi := 2) (by omega)) X hS hR hl.1 (q_754 hT hW) (q_7 hT hW) (q_751 hT hW) (q_753 hT hW) (q_p17 hT hW) (m_recv hK hR) (by decide +kernel) rfl ⟨Nat.le_of_ble_eq_true rfl, Nat.le_of_ble_eq_true rfl⟩ ⟨Nat.le_of_ble_eq_true rfl, Nat.le_of_ble_eq_true rfl⟩ (Nat.le_of_ble_eq_true rfl) dX6_boat_4 (fun v H locs hv hS => ?_) rfl
  obtain ⟨rfl, hR⟩ := hv
  refine z_if_eq (a := (if 0 ≤ a ∧ a ≤ 2 then 1 else 0)) (tgt := 25) hx hb dX6_boat_7 (by decide) (by omega) (fun h_7 => ?_) (fun h_7 => ?_)
  · skip
    refine lv_iconst (v := zi (0)) hx hb dX6_boat_25 rfl ?_
    exact J26 _ _ _ _ (by omega) hR hS (lv_sub hl [0, 1, 2, 3, 4, 5] rfl)
  · skip
    refine lv_aload_n hx hb dX6_boat_10 rfl (lv_at hl 0 rfl) ?_
    refine lv_iload_n hx hb dX6_boat_11 rfl (lv_at hl 2 rfl) ?_
    refine lv_iconst (v := zi (0)) hx hb dX6_boat_12 rfl ?_
    refine lv_bipush (v := zi (47)) hx hb dX6_boat_13 rfl ?_
    refine z_invV (n := 3) (C := RX6) (c_X6_in l hZ (u := u) (a := b_) (lo := 0) (hi := 47) (by omega)) X hS hR hl.1 (q_754 hT hW) (q_7 hT hW) (q_751 hT hW) (q_753 hT hW) (q_p17 hT hW) (m_recv hK hR) (by decide +kernel) rfl ⟨Nat.le_of_ble_eq_true rfl, Nat.le_of_ble_eq_true rfl⟩ ⟨Nat.le_of_ble_eq_true rfl, Nat.le_of_ble_eq_true rfl⟩ (Nat.le_of_ble_eq_true rfl) dX6_boat_15 (fun v H locs hv hS => ?_) rfl
    obtain ⟨rfl, hR⟩ := hv
    refine z_if_eq (a := (if 0 ≤ b_ ∧ b_ ≤ 47 then 1 else 0)) (tgt := 25) hx hb dX6_boat_18 (by decide) (by omega) (fun h_18 => ?_) (fun h_18 => ?_)
    · skip
      refine lv_iconst (v := zi (0)) hx hb dX6_boat_25 rfl ?_
      exact J26 _ _ _ _ (by omega) hR hS (lv_sub hl [0, 1, 2, 3, 4, 5] rfl)
    · skip
      refine lv_iconst (v := zi (1)) hx hb dX6_boat_21 rfl ?_
      refine lv_goto (tgt := 26) hx hb dX6_boat_22 (by decide) ?_
      exact J26 _ _ _ _ (by omega) hR hS (lv_sub hl [0, 1, 2, 3, 4, 5] rfl)
set_option maxHeartbeats 4000000 in
set_option maxRecDepth 100000 in
theorem c_X6_lend (l : Launch) {S : State} {D : va_G} {tc : Nat → ClassId} {A : Nat → Prop} {dz : Nat} (hZ : zB S D tc A dz) {m0 : Nat} {aM : Nat → Nat} {u : zS_} {a b_ : Int} (h0 : -2147483648 ≤ a ∧ a ≤ 2147483647 ∧ -2147483648 ≤ b_ ∧ b_ ≤ 2147483647) (hI : zIn u) : zM l S A yX6_lend cX6_lend 4 (Option.some Jvm.ClassFile.FieldType.int) { frames := 3, locals := 80, cells := 0, slots := 0 } [.ref m0, .int (zi (a)), .int (zi (b_))] (mH D tc A m0 aM u) (fun v H => v = some (.int (zi (if 0 < mcLend u a b_ then -1 else u 2 a.toNat))) ∧ mH D tc A m0 aM (if 0 < mcLend u a b_ then ms u 25 0 (mcLend u a b_) else ms (ms u 25 0 0) 2 a.toNat b_) H) := by
  refine zM.mk (by decide +kernel) (Nat.le_of_ble_eq_true rfl) ?_
  intro p e s m below meth c ls X0 hR hl
  obtain ⟨hx, hb, hml, hr, hlocks, hown, hnm, hW, hpre, hA⟩ := X0
  have X : zH S A p s m c cX6_lend 4 RX6 := ⟨hx, hb, hml, hown, hW, hpre, hA, hZ.2.2.1⟩
  have hT := hZ.1
  have hK := va_K.moved hW.alike hZ.2.1
  have hS : va_S A s.heap s.heap [] := va_S.rf
  have hl : lv_has ls 4 [(0, .ref m0), (1, .int (zi (a))), (2, .int (zi (b_)))] := hl
  skip
  have hI1 := hI.1
  refine lv_aload_n hx hb dX6_lend_0 rfl (lv_at hl 0 rfl) ?_
  have J24 : ∀ (x : Int) (H : Heap) (locs : List Loc) (ls : Array Slot), x = (mcLend u a b_) → mH D tc A m0 aM u H → va_S A s.heap H locs → lv_has ls 4 [(0, .ref m0), (1, .int (zi (a))), (2, .int (zi (b_)))] → W p l e { frames := 3, locals := 80, cells := 0, slots := 0 } s m ([.ref m0, .int (zi (a)), .int (zi (b_))] : List Value).toArray below meth c H locs 0 0 (MQ below (zQ A (fun v H => v = some (.int (zi (if 0 < mcLend u a b_ then -1 else u 2 a.toNat))) ∧ mH D tc A m0 aM (if 0 < mcLend u a b_ then ms u 25 0 (mcLend u a b_) else ms (ms u 25 0 0) 2 a.toNat b_) H)) ([.ref m0, .int (zi (a)), .int (zi (b_))] : List Value).toArray s ({ frames := 3, locals := 80, cells := 0, slots := 0 } : Room).cells ({ frames := 3, locals := 80, cells := 0, slots := 0 } : Room).slots A) (F0 m 24 ls [.int (zi (x)), .ref m0]) := by
    intro x H locs ls hxe hR hS hl
    have hxu := hxe
    unfold mcLend at hxu
    refine z_invV (n := 1) (C := RX6) (c_X6_fails l hZ (u := u) (k := x) (by omega)) X hS hR hl.1 (q_758 hT hW) (q_7 hT hW) (q_755 hT hW) (q_757 hT hW) (q_p18 hT hW) (m_recv hK hR) (by decide +kernel) rfl ⟨Nat.le_of_ble_eq_true rfl, Nat.le_of_ble_eq_true rfl⟩ ⟨Nat.le_of_ble_eq_true rfl, Nat.le_of_ble_eq_true rfl⟩ (Nat.le_of_ble_eq_true rfl) dX6_lend_24 (fun v H locs hv hS => ?_) rfl
    obtain ⟨rfl, hR⟩ := hv
    refine z_if_eq (a := (if 0 < x then 1 else 0)) (tgt := 32) hx hb dX6_lend_27 (by decide) (by omega) (fun h_27 => ?_) (fun h_27 => ?_)
    · skip
      have hn6 : 0 ≤ a ∧ a ≤ u 13 0 - 1 := by omega
      refine lv_aload_n hx hb dX6_lend_32 rfl (lv_at hl 0 rfl) ?_
      refine m_get hx hb (q_wsX6 hT hW) hown hK hR 2 (by decide) (q_666 hT hW) (fun _ h => h) (v := .ref (aM 2)) rfl dX6_lend_33 ?_
      refine lv_iload_n hx hb dX6_lend_36 rfl (lv_at hl 1 rfl) ?_
      refine m_iald (k := 2) (i := a) (v := u 2 a.toNat) hx hb hK hR (by unfold mar; omega) (by decide) (by show 0 ≤ a ∧ a < ((6 : Nat) : Int); omega) (ms_k (by decide)) dX6_lend_37 ?_
      refine lv_istore_n (lv' := [(3, .int (zi ((u 2 a.toNat)))), (0, .ref m0), (1, .int (zi (a))), (2, .int (zi (b_)))]) hx hb dX6_lend_38 rfl hl (by decide) rfl (fun ls hl => ?_)
      refine lv_aload_n hx hb dX6_lend_39 rfl (lv_at hl 1 rfl) ?_
      refine m_get hx hb (q_wsX6 hT hW) hown hK hR 2 (by decide) (q_666 hT hW) (fun _ h => h) (v := .ref (aM 2)) rfl dX6_lend_40 ?_
      refine lv_iload_n hx hb dX6_lend_43 rfl (lv_at hl 2 rfl) ?_
      refine lv_iload_n hx hb dX6_lend_44 rfl (lv_at hl 3 rfl) ?_
      refine m_iast (k := 2) (i := a) (x := b_) hx hb hK hR hS (by unfold mar; omega) (by decide) (by show 0 ≤ a ∧ a < ((6 : Nat) : Int); omega) dX6_lend_45 (fun H locs hR hS => ?_)
      refine lv_iload_n hx hb dX6_lend_46 rfl (lv_at hl 0 rfl) ?_
      have hx0 : x = 0 := by omega
      subst hx0
      exact z_iret hx hb hr hlocks hS (by decide) (by decide) dX6_lend_47 ⟨by rw [← hxe, if_neg (Int.lt_irrefl 0)], by rw [← hxe, if_neg (Int.lt_irrefl 0)]; exact hR⟩
    · skip
      refine lv_iconst (v := zi (-1)) hx hb dX6_lend_30 rfl ?_
      exact z_iret hx hb hr hlocks hS (by decide) (by decide) dX6_lend_31 ⟨by rw [← hxe, if_pos (show 0 < x by omega)], by rw [← hxe, if_pos (show 0 < x by omega)]; exact hR⟩
  refine lv_aload_n hx hb dX6_lend_1 rfl (lv_at hl 0 rfl) ?_
  refine lv_iload_n hx hb dX6_lend_2 rfl (lv_at hl 1 rfl) ?_
  refine z_invV (n := 1) (C := RX6) (c_X6_isBoat l hZ (u := u) (a := a) (by omega) hI) X hS hR hl.1 (q_766 hT hW) (q_7 hT hW) (q_763 hT hW) (q_765 hT hW) (q_p19 hT hW) (m_recv hK hR) (by decide +kernel) rfl ⟨Nat.le_of_ble_eq_true rfl, Nat.le_of_ble_eq_true rfl⟩ ⟨Nat.le_of_ble_eq_true rfl, Nat.le_of_ble_eq_true rfl⟩ (Nat.le_of_ble_eq_true rfl) dX6_lend_3 (fun v H locs hv hS => ?_) rfl
  obtain ⟨rfl, hR⟩ := hv
  refine z_if_eq (a := (if 0 ≤ a ∧ a ≤ u 13 0 - 1 then 1 else 0)) (tgt := 23) hx hb dX6_lend_6 (by decide) (by omega) (fun h_6 => ?_) (fun h_6 => ?_)
  · skip
    refine lv_iconst (v := zi (1)) hx hb dX6_lend_23 rfl ?_
    exact J24 _ _ _ _ (by unfold mcLend; omega) hR hS (lv_sub hl [0, 1, 2] rfl)
  · skip
    refine lv_aload_n hx hb dX6_lend_9 rfl (lv_at hl 0 rfl) ?_
    refine lv_iload_n hx hb dX6_lend_10 rfl (lv_at hl 2 rfl) ?_
    refine lv_iconst (v := zi (0)) hx hb dX6_lend_11 rfl ?_
    refine lv_iconst (v := zi (2)) hx hb dX6_lend_12 rfl ?_
    refine z_invV (n := 3) (C := RX6) (c_X6_in l hZ (u := u) (a := b_) (lo := 0) (hi := 2) (by omega)) X hS hR hl.1 (q_754 hT hW) (q_7 hT hW) (q_751 hT hW) (q_753 hT hW) (q_p17 hT hW) (m_recv hK hR) (by decide +kernel) rfl ⟨Nat.le_of_ble_eq_true rfl, Nat.le_of_ble_eq_true rfl⟩ ⟨Nat.le_of_ble_eq_true rfl, Nat.le_of_ble_eq_true rfl⟩ (Nat.le_of_ble_eq_true rfl) dX6_lend_13 (fun v H locs hv hS => ?_) rfl
    obtain ⟨rfl, hR⟩ := hv
    refine z_if_eq (a := (if 0 ≤ b_ ∧ b_ ≤ 2 then 1 else 0)) (tgt := 23) hx hb dX6_lend_16 (by decide) (by omega) (fun h_16 => ?_) (fun h_16 => ?_)
    · skip
      refine lv_iconst (v := zi (1)) hx hb dX6_lend_23 rfl ?_
      exact J24 _ _ _ _ (by unfold mcLend; omega) hR hS (lv_sub hl [0, 1, 2] rfl)
    · skip
      refine lv_iconst (v := zi (0)) hx hb dX6_lend_19 rfl ?_
      refine lv_goto (tgt := 24) hx hb dX6_lend_20 (by decide) ?_
      exact J24 _ _ _ _ (by unfold mcLend; omega) hR hS (lv_sub hl [0, 1, 2] rfl)
set_option maxHeartbeats 4000000 in
set_option maxRecDepth 100000 in
theorem c_X6_call (l : Launch) {S : State} {D : va_G} {tc : Nat → ClassId} {A : Nat → Prop} {dz : Nat} (hZ : zB S D tc A dz) {m0 : Nat} {aM : Nat → Nat} {u : zS_} {a n z : Int} (h0 : -2147483648 ≤ a ∧ a ≤ 2147483647 ∧ -2147483648 ≤ n ∧ n ≤ 2147483647 ∧ -2147483648 ≤ z ∧ z ≤ 2147483647) (hI : zIn u) : zM l S A yX6_call cX6_call 5 (Option.some Jvm.ClassFile.FieldType.int) { frames := 3, locals := 80, cells := 0, slots := 0 } [.ref m0, .int (zi (a)), .int (zi (n)), .int (zi (z))] (mH D tc A m0 aM u) (fun v H => v = some (.int (zi (if 0 < mcCall u a n z then -1 else u 21 0))) ∧ mH D tc A m0 aM (if 0 < mcCall u a n z then ms u 25 0 (mcCall u a n z) else muCall (ms u 25 0 0) a n z) H) := by
  refine zM.mk (by decide +kernel) (Nat.le_of_ble_eq_true rfl) ?_
  intro p e s m below meth c ls X0 hR hl
  obtain ⟨hx, hb, hml, hr, hlocks, hown, hnm, hW, hpre, hA⟩ := X0
  have X : zH S A p s m c cX6_call 5 RX6 := ⟨hx, hb, hml, hown, hW, hpre, hA, hZ.2.2.1⟩
  have hT := hZ.1
  have hK := va_K.moved hW.alike hZ.2.1
  have hS : va_S A s.heap s.heap [] := va_S.rf
  have hl : lv_has ls 5 [(0, .ref m0), (1, .int (zi (a))), (2, .int (zi (n))), (3, .int (zi (z)))] := hl
  skip
  have hI1 := hI.1
  have J33 : ∀ (x1 : Int) (H : Heap) (locs : List Loc) (ls : Array Slot), x1 = (if (1 ≤ n ∧ n ≤ 50) ∧ (u 24 0 + 1 ≤ z ∧ z ≤ 999) then 1 else 0) → mH D tc A m0 aM u H → va_S A s.heap H locs → lv_has ls 5 [(0, .ref m0), (1, .int (zi (a))), (2, .int (zi (n))), (3, .int (zi (z)))] → W p l e { frames := 3, locals := 80, cells := 0, slots := 0 } s m ([.ref m0, .int (zi (a)), .int (zi (n)), .int (zi (z))] : List Value).toArray below meth c H locs 0 0 (MQ below (zQ A (fun v H => v = some (.int (zi (if 0 < mcCall u a n z then -1 else u 21 0))) ∧ mH D tc A m0 aM (if 0 < mcCall u a n z then ms u 25 0 (mcCall u a n z) else muCall (ms u 25 0 0) a n z) H)) ([.ref m0, .int (zi (a)), .int (zi (n)), .int (zi (z))] : List Value).toArray s ({ frames := 3, locals := 80, cells := 0, slots := 0 } : Room).cells ({ frames := 3, locals := 80, cells := 0, slots := 0 } : Room).slots A) (F0 m 33 ls [.int (zi (x1))]) := by
    intro x1 H locs ls hx1 hR hS hl
    refine lv_istore (lv' := [(4, .int (zi (x1))), (0, .ref m0), (1, .int (zi (a))), (2, .int (zi (n))), (3, .int (zi (z)))]) hx hb dX6_call_33 hl (by decide) rfl (fun ls hl => ?_)
    refine lv_aload_n hx hb dX6_call_35 rfl (lv_at hl 1 rfl) ?_
    have J74 : ∀ (x : Int) (H : Heap) (locs : List Loc) (ls : Array Slot), x = (mcCall u a n z) → mH D tc A m0 aM u H → va_S A s.heap H locs → lv_has ls 5 [(4, .int (zi (x1))), (0, .ref m0), (1, .int (zi (a))), (2, .int (zi (n))), (3, .int (zi (z)))] → W p l e { frames := 3, locals := 80, cells := 0, slots := 0 } s m ([.ref m0, .int (zi (a)), .int (zi (n)), .int (zi (z))] : List Value).toArray below meth c H locs 0 0 (MQ below (zQ A (fun v H => v = some (.int (zi (if 0 < mcCall u a n z then -1 else u 21 0))) ∧ mH D tc A m0 aM (if 0 < mcCall u a n z then ms u 25 0 (mcCall u a n z) else muCall (ms u 25 0 0) a n z) H)) ([.ref m0, .int (zi (a)), .int (zi (n)), .int (zi (z))] : List Value).toArray s ({ frames := 3, locals := 80, cells := 0, slots := 0 } : Room).cells ({ frames := 3, locals := 80, cells := 0, slots := 0 } : Room).slots A) (F0 m 74 ls [.int (zi (x)), .ref m0]) := by
      intro x H locs ls hxe hR hS hl
      have hxu := hxe
      unfold mcCall at hxu
      refine z_invV (n := 1) (C := RX6) (c_X6_fails l hZ (u := u) (k := x) (by omega)) X hS hR hl.1 (q_758 hT hW) (q_7 hT hW) (q_755 hT hW) (q_757 hT hW) (q_p18 hT hW) (m_recv hK hR) (by decide +kernel) rfl ⟨Nat.le_of_ble_eq_true rfl, Nat.le_of_ble_eq_true rfl⟩ ⟨Nat.le_of_ble_eq_true rfl, Nat.le_of_ble_eq_true rfl⟩ (Nat.le_of_ble_eq_true rfl) dX6_call_74 (fun v H locs hv hS => ?_) rfl
      obtain ⟨rfl, hR⟩ := hv
      refine z_if_eq (a := (if 0 < x then 1 else 0)) (tgt := 82) hx hb dX6_call_77 (by decide) (by omega) (fun h_77 => ?_) (fun h_77 => ?_)
      · skip
        have hn6 : u 21 0 < 30 := by omega
        refine lv_aload_n hx hb dX6_call_82 rfl (lv_at hl 1 rfl) ?_
        refine m_get hx hb (q_wsX6 hT hW) hown hK hR 14 (by decide) (q_678 hT hW) (fun _ h => h) (v := .ref (aM 14)) rfl dX6_call_83 ?_
        refine lv_aload_n hx hb dX6_call_86 rfl (lv_at hl 1 rfl) ?_
        refine m_get hx hb (q_wsX6 hT hW) hown hK hR 21 (by decide) (q_685 hT hW) (fun _ h => h) (v := .int (zi (u 21 0))) (congrArg (fun z : Int => some (Value.int (zi z))) (ms_k (by decide))) dX6_call_87 ?_
        refine lv_iload_n hx hb dX6_call_90 rfl (lv_at hl 2 rfl) ?_
        refine m_iast (k := 14) (i := (u 21 0)) (x := a) hx hb hK hR hS (by unfold mar; omega) (by decide) (by show 0 ≤ (u 21 0) ∧ (u 21 0) < ((30 : Nat) : Int); omega) dX6_call_91 (fun H locs hR hS => ?_)
        refine lv_aload_n hx hb dX6_call_92 rfl (lv_at hl 1 rfl) ?_
        refine m_get hx hb (q_wsX6 hT hW) hown hK hR 15 (by decide) (q_679 hT hW) (fun _ h => h) (v := .ref (aM 15)) rfl dX6_call_93 ?_
        refine lv_aload_n hx hb dX6_call_96 rfl (lv_at hl 1 rfl) ?_
        refine m_get hx hb (q_wsX6 hT hW) hown hK hR 21 (by decide) (q_685 hT hW) (fun _ h => h) (v := .int (zi (u 21 0))) (congrArg (fun z : Int => some (Value.int (zi z))) ((ms_k (by decide)).trans (ms_k (by decide)))) dX6_call_97 ?_
        refine lv_iload_n hx hb dX6_call_100 rfl (lv_at hl 3 rfl) ?_
        refine m_iast (k := 15) (i := (u 21 0)) (x := n) hx hb hK hR hS (by unfold mar; omega) (by decide) (by show 0 ≤ (u 21 0) ∧ (u 21 0) < ((30 : Nat) : Int); omega) dX6_call_101 (fun H locs hR hS => ?_)
        refine lv_aload_n hx hb dX6_call_102 rfl (lv_at hl 1 rfl) ?_
        refine m_get hx hb (q_wsX6 hT hW) hown hK hR 16 (by decide) (q_680 hT hW) (fun _ h => h) (v := .ref (aM 16)) rfl dX6_call_103 ?_
        refine lv_aload_n hx hb dX6_call_106 rfl (lv_at hl 1 rfl) ?_
        refine m_get hx hb (q_wsX6 hT hW) hown hK hR 21 (by decide) (q_685 hT hW) (fun _ h => h) (v := .int (zi (u 21 0))) (congrArg (fun z : Int => some (Value.int (zi z))) ((ms_k (by decide)).trans ((ms_k (by decide)).trans (ms_k (by decide))))) dX6_call_107 ?_
        refine lv_iload_n hx hb dX6_call_110 rfl (lv_at hl 4 rfl) ?_
        refine m_iast (k := 16) (i := (u 21 0)) (x := z) hx hb hK hR hS (by unfold mar; omega) (by decide) (by show 0 ≤ (u 21 0) ∧ (u 21 0) < ((30 : Nat) : Int); omega) dX6_call_111 (fun H locs hR hS => ?_)
        refine lv_aload_n hx hb dX6_call_112 rfl (lv_at hl 1 rfl) ?_
        refine m_get hx hb (q_wsX6 hT hW) hown hK hR 18 (by decide) (q_682 hT hW) (fun _ h => h) (v := .ref (aM 18)) rfl dX6_call_113 ?_
        refine lv_aload_n hx hb dX6_call_116 rfl (lv_at hl 1 rfl) ?_
        refine m_get hx hb (q_wsX6 hT hW) hown hK hR 21 (by decide) (q_685 hT hW) (fun _ h => h) (v := .int (zi (u 21 0))) (congrArg (fun z : Int => some (Value.int (zi z))) ((ms_k (by decide)).trans ((ms_k (by decide)).trans ((ms_k (by decide)).trans (ms_k (by decide)))))) dX6_call_117 ?_
        refine lv_iconst (v := zi (-1)) hx hb dX6_call_120 rfl ?_
        refine m_iast (k := 18) (i := (u 21 0)) (x := (-1)) hx hb hK hR hS (by unfold mar; omega) (by decide) (by show 0 ≤ (u 21 0) ∧ (u 21 0) < ((30 : Nat) : Int); omega) dX6_call_121 (fun H locs hR hS => ?_)
        refine lv_aload_n hx hb dX6_call_122 rfl (lv_at hl 1 rfl) ?_
        refine lv_dup hx hb dX6_call_123 rfl ?_
        refine m_get hx hb (q_wsX6 hT hW) hown hK hR 21 (by decide) (q_685 hT hW) (fun _ h => h) (v := .int (zi (u 21 0))) (congrArg (fun z : Int => some (Value.int (zi z))) ((ms_k (by decide)).trans ((ms_k (by decide)).trans ((ms_k (by decide)).trans ((ms_k (by decide)).trans (ms_k (by decide))))))) dX6_call_124 ?_
        refine lv_iconst (v := zi (1)) hx hb dX6_call_127 rfl ?_
        refine z_iadd (a := (u 21 0)) (b := 1) hx hb dX6_call_128 ?_
        refine m_put (k := 21) (x := ((u 21 0) + 1)) hx hb (q_wsX6 hT hW) hown hK hR hS (by decide) (by unfold mar; omega) (q_685 hT hW) (fun _ h => h) rfl (tyX6_ok 21 (by decide)) (by unfold mF; rw [ms_s, ms_k (by decide), ms_k (by decide), ms_k (by decide), ms_k (by decide)]; rfl) dX6_call_129 (fun H locs hR hS => ?_)
        refine lv_aload_n hx hb dX6_call_132 rfl (lv_at hl 1 rfl) ?_
        refine m_get hx hb (q_wsX6 hT hW) hown hK hR 21 (by decide) (q_685 hT hW) (fun _ h => h) (v := .int (zi (((u 21 0) + 1)))) (congrArg (fun z : Int => some (Value.int (zi z))) (ms_s)) dX6_call_133 ?_
        refine lv_iconst (v := zi (1)) hx hb dX6_call_136 rfl ?_
        refine z_isub (a := (((u 21 0) + 1))) (b := 1) hx hb dX6_call_137 ?_
        have hx0 : x = 0 := by omega
        subst hx0
        exact z_iret hx hb hr hlocks hS (by decide) (by decide) dX6_call_138 ⟨by rw [← hxe, if_neg (Int.lt_irrefl 0), show u 21 0 + 1 - 1 = u 21 0 by omega], by rw [← hxe, if_neg (Int.lt_irrefl 0)]; exact hR⟩
      · skip
        refine lv_iconst (v := zi (-1)) hx hb dX6_call_80 rfl ?_
        exact z_iret hx hb hr hlocks hS (by decide) (by decide) dX6_call_81 ⟨by rw [← hxe, if_pos (show 0 < x by omega)], by rw [← hxe, if_pos (show 0 < x by omega)]; exact hR⟩
    refine lv_aload_n hx hb dX6_call_36 rfl (lv_at hl 1 rfl) ?_
    refine lv_iload_n hx hb dX6_call_37 rfl (lv_at hl 2 rfl) ?_
    refine lv_iconst (v := zi (0)) hx hb dX6_call_38 rfl ?_
    refine lv_bipush (v := zi (47)) hx hb dX6_call_39 rfl ?_
    refine z_invV (n := 3) (C := RX6) (c_X6_in l hZ (u := u) (a := a) (lo := 0) (hi := 47) (by omega)) X hS hR hl.1 (q_754 hT hW) (q_7 hT hW) (q_751 hT hW) (q_753 hT hW) (q_p17 hT hW) (m_recv hK hR) (by decide +kernel) rfl ⟨Nat.le_of_ble_eq_true rfl, Nat.le_of_ble_eq_true rfl⟩ ⟨Nat.le_of_ble_eq_true rfl, Nat.le_of_ble_eq_true rfl⟩ (Nat.le_of_ble_eq_true rfl) dX6_call_41 (fun v H locs hv hS => ?_) rfl
    obtain ⟨rfl, hR⟩ := hv
    refine z_if_ne (a := (if 0 ≤ a ∧ a ≤ 47 then 1 else 0)) (tgt := 51) hx hb dX6_call_44 (by decide) (by omega) (fun h_44 => ?_) (fun h_44 => ?_)
    · skip
      refine lv_iload hx hb dX6_call_51 (lv_at hl 0 rfl) ?_
      refine z_if_ne (a := x1) (tgt := 60) hx hb dX6_call_53 (by decide) (by omega) (fun h_53 => ?_) (fun h_53 => ?_)
      · skip
        refine lv_aload_n hx hb dX6_call_60 rfl (lv_at hl 1 rfl) ?_
        refine m_get hx hb (q_wsX6 hT hW) hown hK hR 21 (by decide) (q_685 hT hW) (fun _ h => h) (v := .int (zi (u 21 0))) (congrArg (fun z : Int => some (Value.int (zi z))) rfl) dX6_call_61 ?_
        refine lv_bipush (v := zi (30)) hx hb dX6_call_64 rfl ?_
        refine z_icmp_ne (a := (u 21 0)) (b := 30) (tgt := 73) hx hb dX6_call_66 (by decide) (by omega) (fun h_66 => ?_) (fun h_66 => ?_)
        · skip
          refine lv_iconst (v := zi (0)) hx hb dX6_call_73 rfl ?_
          exact J74 _ _ _ _ (by unfold mcCall; omega) hR hS (lv_sub hl [0, 1, 2, 3, 4] rfl)
        · skip
          refine lv_iconst (v := zi (3)) hx hb dX6_call_69 rfl ?_
          refine lv_goto (tgt := 74) hx hb dX6_call_70 (by decide) ?_
          exact J74 _ _ _ _ (by unfold mcCall; omega) hR hS (lv_sub hl [0, 1, 2, 3, 4] rfl)
      · skip
        refine lv_iconst (v := zi (2)) hx hb dX6_call_56 rfl ?_
        refine lv_goto (tgt := 74) hx hb dX6_call_57 (by decide) ?_
        exact J74 _ _ _ _ (by unfold mcCall; omega) hR hS (lv_sub hl [0, 1, 2, 3, 4] rfl)
    · skip
      refine lv_iconst (v := zi (1)) hx hb dX6_call_47 rfl ?_
      refine lv_goto (tgt := 74) hx hb dX6_call_48 (by decide) ?_
      exact J74 _ _ _ _ (by unfold mcCall; omega) hR hS (lv_sub hl [0, 1, 2, 3, 4] rfl)
  refine lv_aload_n hx hb dX6_call_0 rfl (lv_at hl 0 rfl) ?_
  refine lv_iload_n hx hb dX6_call_1 rfl (lv_at hl 2 rfl) ?_
  refine lv_iconst (v := zi (1)) hx hb dX6_call_2 rfl ?_
  refine lv_bipush (v := zi (50)) hx hb dX6_call_3 rfl ?_
  refine z_invV (n := 3) (C := RX6) (c_X6_in l hZ (u := u) (a := n) (lo := 1) (hi := 50) (by omega)) X hS hR hl.1 (q_754 hT hW) (q_7 hT hW) (q_751 hT hW) (q_753 hT hW) (q_p17 hT hW) (m_recv hK hR) (by decide +kernel) rfl ⟨Nat.le_of_ble_eq_true rfl, Nat.le_of_ble_eq_true rfl⟩ ⟨Nat.le_of_ble_eq_true rfl, Nat.le_of_ble_eq_true rfl⟩ (Nat.le_of_ble_eq_true rfl) dX6_call_5 (fun v H locs hv hS => ?_) rfl
  obtain ⟨rfl, hR⟩ := hv
  refine z_if_eq (a := (if 1 ≤ n ∧ n ≤ 50 then 1 else 0)) (tgt := 32) hx hb dX6_call_8 (by decide) (by omega) (fun h_8 => ?_) (fun h_8 => ?_)
  · skip
    refine lv_iconst (v := zi (0)) hx hb dX6_call_32 rfl ?_
    exact J33 _ _ _ _ (by omega) hR hS (lv_sub hl [0, 1, 2, 3] rfl)
  · skip
    refine lv_aload_n hx hb dX6_call_11 rfl (lv_at hl 0 rfl) ?_
    refine lv_iload_n hx hb dX6_call_12 rfl (lv_at hl 3 rfl) ?_
    refine lv_aload_n hx hb dX6_call_13 rfl (lv_at hl 0 rfl) ?_
    refine m_get hx hb (q_wsX6 hT hW) hown hK hR 24 (by decide) (q_688 hT hW) (fun _ h => h) (v := .int (zi (u 24 0))) (congrArg (fun z : Int => some (Value.int (zi z))) rfl) dX6_call_14 ?_
    refine lv_iconst (v := zi (1)) hx hb dX6_call_17 rfl ?_
    refine z_iadd (a := (u 24 0)) (b := 1) hx hb dX6_call_18 ?_
    refine lv_sipush (v := zi (999)) hx hb dX6_call_19 rfl ?_
    refine z_invV (n := 3) (C := RX6) (c_X6_in l hZ (u := u) (a := z) (lo := ((u 24 0) + 1)) (hi := 999) (by omega)) X hS hR hl.1 (q_754 hT hW) (q_7 hT hW) (q_751 hT hW) (q_753 hT hW) (q_p17 hT hW) (m_recv hK hR) (by decide +kernel) rfl ⟨Nat.le_of_ble_eq_true rfl, Nat.le_of_ble_eq_true rfl⟩ ⟨Nat.le_of_ble_eq_true rfl, Nat.le_of_ble_eq_true rfl⟩ (Nat.le_of_ble_eq_true rfl) dX6_call_22 (fun v H locs hv hS => ?_) rfl
    obtain ⟨rfl, hR⟩ := hv
    refine z_if_eq (a := (if ((u 24 0) + 1) ≤ z ∧ z ≤ 999 then 1 else 0)) (tgt := 32) hx hb dX6_call_25 (by decide) (by omega) (fun h_25 => ?_) (fun h_25 => ?_)
    · skip
      refine lv_iconst (v := zi (0)) hx hb dX6_call_32 rfl ?_
      exact J33 _ _ _ _ (by omega) hR hS (lv_sub hl [0, 1, 2, 3] rfl)
    · skip
      refine lv_iconst (v := zi (1)) hx hb dX6_call_28 rfl ?_
      refine lv_goto (tgt := 33) hx hb dX6_call_29 (by decide) ?_
      exact J33 _ _ _ _ (by omega) hR hS (lv_sub hl [0, 1, 2, 3] rfl)
set_option maxHeartbeats 4000000 in
set_option maxRecDepth 100000 in
theorem c_X6_cap (l : Launch) {S : State} {D : va_G} {tc : Nat → ClassId} {A : Nat → Prop} {dz : Nat} (hZ : zB S D tc A dz) {m0 : Nat} {aM : Nat → Nat} {u : zS_} {a : Int} (h0 : -2147483648 ≤ a ∧ a ≤ 2147483647) (hI : zIn u) : zM l S A yX6_cap cX6_cap 3 (Option.some Jvm.ClassFile.FieldType.int) { frames := 3, locals := 80, cells := 0, slots := 0 } [.ref m0, .int (zi (a))] (mH D tc A m0 aM u) (fun v H => v = some (.int (zi (if 0 < mcCap a then -1 else u 23 0))) ∧ mH D tc A m0 aM (if 0 < mcCap a then ms u 25 0 (mcCap a) else ms (ms u 25 0 0) 23 0 a) H) := by
  refine zM.mk (by decide +kernel) (Nat.le_of_ble_eq_true rfl) ?_
  intro p e s m below meth c ls X0 hR hl
  obtain ⟨hx, hb, hml, hr, hlocks, hown, hnm, hW, hpre, hA⟩ := X0
  have X : zH S A p s m c cX6_cap 3 RX6 := ⟨hx, hb, hml, hown, hW, hpre, hA, hZ.2.2.1⟩
  have hT := hZ.1
  have hK := va_K.moved hW.alike hZ.2.1
  have hS : va_S A s.heap s.heap [] := va_S.rf
  have hl : lv_has ls 3 [(0, .ref m0), (1, .int (zi (a)))] := hl
  skip
  have hI1 := hI.1
  refine lv_aload_n hx hb dX6_cap_0 rfl (lv_at hl 0 rfl) ?_
  have J18 : ∀ (x : Int) (H : Heap) (locs : List Loc) (ls : Array Slot), x = (mcCap a) → mH D tc A m0 aM u H → va_S A s.heap H locs → lv_has ls 3 [(0, .ref m0), (1, .int (zi (a)))] → W p l e { frames := 3, locals := 80, cells := 0, slots := 0 } s m ([.ref m0, .int (zi (a))] : List Value).toArray below meth c H locs 0 0 (MQ below (zQ A (fun v H => v = some (.int (zi (if 0 < mcCap a then -1 else u 23 0))) ∧ mH D tc A m0 aM (if 0 < mcCap a then ms u 25 0 (mcCap a) else ms (ms u 25 0 0) 23 0 a) H)) ([.ref m0, .int (zi (a))] : List Value).toArray s ({ frames := 3, locals := 80, cells := 0, slots := 0 } : Room).cells ({ frames := 3, locals := 80, cells := 0, slots := 0 } : Room).slots A) (F0 m 18 ls [.int (zi (x)), .ref m0]) := by
    intro x H locs ls hxe hR hS hl
    have hxu := hxe
    unfold mcCap at hxu
    refine z_invV (n := 1) (C := RX6) (c_X6_fails l hZ (u := u) (k := x) (by omega)) X hS hR hl.1 (q_758 hT hW) (q_7 hT hW) (q_755 hT hW) (q_757 hT hW) (q_p18 hT hW) (m_recv hK hR) (by decide +kernel) rfl ⟨Nat.le_of_ble_eq_true rfl, Nat.le_of_ble_eq_true rfl⟩ ⟨Nat.le_of_ble_eq_true rfl, Nat.le_of_ble_eq_true rfl⟩ (Nat.le_of_ble_eq_true rfl) dX6_cap_18 (fun v H locs hv hS => ?_) rfl
    obtain ⟨rfl, hR⟩ := hv
    refine z_if_eq (a := (if 0 < x then 1 else 0)) (tgt := 26) hx hb dX6_cap_21 (by decide) (by omega) (fun h_21 => ?_) (fun h_21 => ?_)
    · skip
      refine lv_aload_n hx hb dX6_cap_26 rfl (lv_at hl 0 rfl) ?_
      refine m_get hx hb (q_wsX6 hT hW) hown hK hR 23 (by decide) (q_687 hT hW) (fun _ h => h) (v := .int (zi (u 23 0))) (congrArg (fun z : Int => some (Value.int (zi z))) (ms_k (by decide))) dX6_cap_27 ?_
      refine lv_istore_n (lv' := [(2, .int (zi ((u 23 0)))), (0, .ref m0), (1, .int (zi (a)))]) hx hb dX6_cap_30 rfl hl (by decide) rfl (fun ls hl => ?_)
      refine lv_aload_n hx hb dX6_cap_31 rfl (lv_at hl 1 rfl) ?_
      refine lv_iload_n hx hb dX6_cap_32 rfl (lv_at hl 2 rfl) ?_
      refine m_put (k := 23) (x := a) hx hb (q_wsX6 hT hW) hown hK hR hS (by decide) (by unfold mar; omega) (q_687 hT hW) (fun _ h => h) rfl (tyX6_ok 23 (by decide)) (by unfold mF; rw [ms_s, ms_k (by decide), ms_k (by decide), ms_k (by decide), ms_k (by decide)]; rfl) dX6_cap_33 (fun H locs hR hS => ?_)
      refine lv_iload_n hx hb dX6_cap_36 rfl (lv_at hl 0 rfl) ?_
      have hx0 : x = 0 := by omega
      subst hx0
      exact z_iret hx hb hr hlocks hS (by decide) (by decide) dX6_cap_37 ⟨by rw [← hxe, if_neg (Int.lt_irrefl 0)], by rw [← hxe, if_neg (Int.lt_irrefl 0)]; exact hR⟩
    · skip
      refine lv_iconst (v := zi (-1)) hx hb dX6_cap_24 rfl ?_
      exact z_iret hx hb hr hlocks hS (by decide) (by decide) dX6_cap_25 ⟨by rw [← hxe, if_pos (show 0 < x by omega)], by rw [← hxe, if_pos (show 0 < x by omega)]; exact hR⟩
  refine lv_aload_n hx hb dX6_cap_1 rfl (lv_at hl 0 rfl) ?_
  refine lv_iload_n hx hb dX6_cap_2 rfl (lv_at hl 1 rfl) ?_
  refine lv_iconst (v := zi (0)) hx hb dX6_cap_3 rfl ?_
  refine lv_sipush (v := zi (1000)) hx hb dX6_cap_4 rfl ?_
  refine z_invV (n := 3) (C := RX6) (c_X6_in l hZ (u := u) (a := a) (lo := 0) (hi := 1000) (by omega)) X hS hR hl.1 (q_754 hT hW) (q_7 hT hW) (q_751 hT hW) (q_753 hT hW) (q_p17 hT hW) (m_recv hK hR) (by decide +kernel) rfl ⟨Nat.le_of_ble_eq_true rfl, Nat.le_of_ble_eq_true rfl⟩ ⟨Nat.le_of_ble_eq_true rfl, Nat.le_of_ble_eq_true rfl⟩ (Nat.le_of_ble_eq_true rfl) dX6_cap_7 (fun v H locs hv hS => ?_) rfl
  obtain ⟨rfl, hR⟩ := hv
  refine z_if_eq (a := (if 0 ≤ a ∧ a ≤ 1000 then 1 else 0)) (tgt := 17) hx hb dX6_cap_10 (by decide) (by omega) (fun h_10 => ?_) (fun h_10 => ?_)
  · skip
    refine lv_iconst (v := zi (1)) hx hb dX6_cap_17 rfl ?_
    exact J18 _ _ _ _ (by unfold mcCap; omega) hR hS (lv_sub hl [0, 1] rfl)
  · skip
    refine lv_iconst (v := zi (0)) hx hb dX6_cap_13 rfl ?_
    refine lv_goto (tgt := 18) hx hb dX6_cap_14 (by decide) ?_
    exact J18 _ _ _ _ (by unfold mcCap; omega) hR hS (lv_sub hl [0, 1] rfl)
set_option maxHeartbeats 4000000 in
set_option maxRecDepth 100000 in
theorem c_X6_storm (l : Launch) {S : State} {D : va_G} {tc : Nat → ClassId} {A : Nat → Prop} {dz : Nat} (hZ : zB S D tc A dz) {m0 : Nat} {aM : Nat → Nat} {u : zS_} {a h : Int} (h0 : -2147483648 ≤ a ∧ a ≤ 2147483647 ∧ -2147483648 ≤ h ∧ h ≤ 2147483647) (hI : zIn u) : zM l S A yX6_storm cX6_storm 3 (Option.some Jvm.ClassFile.FieldType.int) { frames := 3, locals := 80, cells := 0, slots := 0 } [.ref m0, .int (zi (a)), .int (zi (h))] (mH D tc A m0 aM u) (fun v H => v = some (.int (zi (if 0 < mcStorm u a h then -1 else u 0 (1000 * a + h).toNat))) ∧ mH D tc A m0 aM (if 0 < mcStorm u a h then ms u 25 0 (mcStorm u a h) else ms u 25 0 0) H) := by
  refine zM.mk (by decide +kernel) (Nat.le_of_ble_eq_true rfl) ?_
  intro p e s m below meth c ls X0 hR hl
  obtain ⟨hx, hb, hml, hr, hlocks, hown, hnm, hW, hpre, hA⟩ := X0
  have X : zH S A p s m c cX6_storm 3 RX6 := ⟨hx, hb, hml, hown, hW, hpre, hA, hZ.2.2.1⟩
  have hT := hZ.1
  have hK := va_K.moved hW.alike hZ.2.1
  have hS : va_S A s.heap s.heap [] := va_S.rf
  have hl : lv_has ls 3 [(0, .ref m0), (1, .int (zi (a))), (2, .int (zi (h)))] := hl
  skip
  have hI1 := hI.1
  refine lv_aload_n hx hb dX6_storm_0 rfl (lv_at hl 0 rfl) ?_
  have J36 : ∀ (x : Int) (H : Heap) (locs : List Loc) (ls : Array Slot), x = (mcStorm u a h) → mH D tc A m0 aM u H → va_S A s.heap H locs → lv_has ls 3 [(0, .ref m0), (1, .int (zi (a))), (2, .int (zi (h)))] → W p l e { frames := 3, locals := 80, cells := 0, slots := 0 } s m ([.ref m0, .int (zi (a)), .int (zi (h))] : List Value).toArray below meth c H locs 0 0 (MQ below (zQ A (fun v H => v = some (.int (zi (if 0 < mcStorm u a h then -1 else u 0 (1000 * a + h).toNat))) ∧ mH D tc A m0 aM (if 0 < mcStorm u a h then ms u 25 0 (mcStorm u a h) else ms u 25 0 0) H)) ([.ref m0, .int (zi (a)), .int (zi (h))] : List Value).toArray s ({ frames := 3, locals := 80, cells := 0, slots := 0 } : Room).cells ({ frames := 3, locals := 80, cells := 0, slots := 0 } : Room).slots A) (F0 m 36 ls [.int (zi (x)), .ref m0]) := by
    intro x H locs ls hxe hR hS hl
    have hxu := hxe
    unfold mcStorm at hxu
    refine z_invV (n := 1) (C := RX6) (c_X6_fails l hZ (u := u) (k := x) (by omega)) X hS hR hl.1 (q_758 hT hW) (q_7 hT hW) (q_755 hT hW) (q_757 hT hW) (q_p18 hT hW) (m_recv hK hR) (by decide +kernel) rfl ⟨Nat.le_of_ble_eq_true rfl, Nat.le_of_ble_eq_true rfl⟩ ⟨Nat.le_of_ble_eq_true rfl, Nat.le_of_ble_eq_true rfl⟩ (Nat.le_of_ble_eq_true rfl) dX6_storm_36 (fun v H locs hv hS => ?_) rfl
    obtain ⟨rfl, hR⟩ := hv
    refine z_if_eq (a := (if 0 < x then 1 else 0)) (tgt := 44) hx hb dX6_storm_39 (by decide) (by omega) (fun h_39 => ?_) (fun h_39 => ?_)
    · skip
      have hn6 : 0 ≤ a ∧ a ≤ 47 ∧ 0 ≤ h ∧ h ≤ 999 := by omega
      refine lv_aload_n hx hb dX6_storm_44 rfl (lv_at hl 0 rfl) ?_
      refine m_get hx hb (q_wsX6 hT hW) hown hK hR 0 (by decide) (q_664 hT hW) (fun _ h => h) (v := .ref (aM 0)) rfl dX6_storm_45 ?_
      refine lv_sipush (v := zi (1000)) hx hb dX6_storm_48 rfl ?_
      refine lv_iload_n hx hb dX6_storm_51 rfl (lv_at hl 1 rfl) ?_
      refine z_imul (a := 1000) (b := a) hx hb dX6_storm_52 ?_
      refine lv_iload_n hx hb dX6_storm_53 rfl (lv_at hl 2 rfl) ?_
      refine z_iadd (a := (1000 * a)) (b := h) hx hb dX6_storm_54 ?_
      refine m_bald (i := ((1000 * a) + h)) (v := u 0 ((1000 * a) + h).toNat) hx hb hK hR (by omega) (ms_k (by decide)) dX6_storm_55 ?_
      have hx0 : x = 0 := by omega
      subst hx0
      exact z_iret hx hb hr hlocks hS (by decide) (by decide) dX6_storm_56 ⟨by rw [← hxe, if_neg (Int.lt_irrefl 0)], by rw [← hxe, if_neg (Int.lt_irrefl 0)]; exact hR⟩
    · skip
      refine lv_iconst (v := zi (-1)) hx hb dX6_storm_42 rfl ?_
      exact z_iret hx hb hr hlocks hS (by decide) (by decide) dX6_storm_43 ⟨by rw [← hxe, if_pos (show 0 < x by omega)], by rw [← hxe, if_pos (show 0 < x by omega)]; exact hR⟩
  refine lv_aload_n hx hb dX6_storm_1 rfl (lv_at hl 0 rfl) ?_
  refine lv_iload_n hx hb dX6_storm_2 rfl (lv_at hl 1 rfl) ?_
  refine lv_iconst (v := zi (0)) hx hb dX6_storm_3 rfl ?_
  refine lv_bipush (v := zi (47)) hx hb dX6_storm_4 rfl ?_
  refine z_invV (n := 3) (C := RX6) (c_X6_in l hZ (u := u) (a := a) (lo := 0) (hi := 47) (by omega)) X hS hR hl.1 (q_754 hT hW) (q_7 hT hW) (q_751 hT hW) (q_753 hT hW) (q_p17 hT hW) (m_recv hK hR) (by decide +kernel) rfl ⟨Nat.le_of_ble_eq_true rfl, Nat.le_of_ble_eq_true rfl⟩ ⟨Nat.le_of_ble_eq_true rfl, Nat.le_of_ble_eq_true rfl⟩ (Nat.le_of_ble_eq_true rfl) dX6_storm_6 (fun v H locs hv hS => ?_) rfl
  obtain ⟨rfl, hR⟩ := hv
  refine z_if_ne (a := (if 0 ≤ a ∧ a ≤ 47 then 1 else 0)) (tgt := 16) hx hb dX6_storm_9 (by decide) (by omega) (fun h_9 => ?_) (fun h_9 => ?_)
  · skip
    refine lv_aload_n hx hb dX6_storm_16 rfl (lv_at hl 0 rfl) ?_
    refine lv_iload_n hx hb dX6_storm_17 rfl (lv_at hl 2 rfl) ?_
    refine lv_aload_n hx hb dX6_storm_18 rfl (lv_at hl 0 rfl) ?_
    refine m_get hx hb (q_wsX6 hT hW) hown hK hR 24 (by decide) (q_688 hT hW) (fun _ h => h) (v := .int (zi (u 24 0))) (congrArg (fun z : Int => some (Value.int (zi z))) rfl) dX6_storm_19 ?_
    refine lv_sipush (v := zi (999)) hx hb dX6_storm_22 rfl ?_
    refine z_invV (n := 3) (C := RX6) (c_X6_in l hZ (u := u) (a := h) (lo := (u 24 0)) (hi := 999) (by omega)) X hS hR hl.1 (q_754 hT hW) (q_7 hT hW) (q_751 hT hW) (q_753 hT hW) (q_p17 hT hW) (m_recv hK hR) (by decide +kernel) rfl ⟨Nat.le_of_ble_eq_true rfl, Nat.le_of_ble_eq_true rfl⟩ ⟨Nat.le_of_ble_eq_true rfl, Nat.le_of_ble_eq_true rfl⟩ (Nat.le_of_ble_eq_true rfl) dX6_storm_25 (fun v H locs hv hS => ?_) rfl
    obtain ⟨rfl, hR⟩ := hv
    refine z_if_eq (a := (if (u 24 0) ≤ h ∧ h ≤ 999 then 1 else 0)) (tgt := 35) hx hb dX6_storm_28 (by decide) (by omega) (fun h_28 => ?_) (fun h_28 => ?_)
    · skip
      refine lv_iconst (v := zi (2)) hx hb dX6_storm_35 rfl ?_
      exact J36 _ _ _ _ (by unfold mcStorm; omega) hR hS (lv_sub hl [0, 1, 2] rfl)
    · skip
      refine lv_iconst (v := zi (0)) hx hb dX6_storm_31 rfl ?_
      refine lv_goto (tgt := 36) hx hb dX6_storm_32 (by decide) ?_
      exact J36 _ _ _ _ (by unfold mcStorm; omega) hR hS (lv_sub hl [0, 1, 2] rfl)
  · skip
    refine lv_iconst (v := zi (1)) hx hb dX6_storm_12 rfl ?_
    refine lv_goto (tgt := 36) hx hb dX6_storm_13 (by decide) ?_
    exact J36 _ _ _ _ (by unfold mcStorm; omega) hR hS (lv_sub hl [0, 1, 2] rfl)
set_option maxHeartbeats 4000000 in
set_option maxRecDepth 100000 in
theorem c_X6_ofBoat (l : Launch) {S : State} {D : va_G} {tc : Nat → ClassId} {A : Nat → Prop} {dz : Nat} (hZ : zB S D tc A dz) {m0 : Nat} {aM : Nat → Nat} {u : zS_} {a n : Int} (h0 : -2147483648 ≤ a ∧ a ≤ 2147483647 ∧ -2147483648 ≤ n ∧ n ≤ 2147483647) (hI : zIn u) : zM l S A yX6_ofBoat cX6_ofBoat 3 (Option.some Jvm.ClassFile.FieldType.int) { frames := 3, locals := 80, cells := 0, slots := 0 } [.ref m0, .int (zi (a)), .int (zi (n))] (mH D tc A m0 aM u) (fun v H => v = some (.int (zi (if 0 < mcOfB u a n then -1 else mvOfB u a n))) ∧ mH D tc A m0 aM (if 0 < mcOfB u a n then ms u 25 0 (mcOfB u a n) else ms u 25 0 0) H) := by
  refine zM.mk (by decide +kernel) (Nat.le_of_ble_eq_true rfl) ?_
  intro p e s m below meth c ls X0 hR hl
  obtain ⟨hx, hb, hml, hr, hlocks, hown, hnm, hW, hpre, hA⟩ := X0
  have X : zH S A p s m c cX6_ofBoat 3 RX6 := ⟨hx, hb, hml, hown, hW, hpre, hA, hZ.2.2.1⟩
  have hT := hZ.1
  have hK := va_K.moved hW.alike hZ.2.1
  have hS : va_S A s.heap s.heap [] := va_S.rf
  have hl : lv_has ls 3 [(0, .ref m0), (1, .int (zi (a))), (2, .int (zi (n)))] := hl
  skip
  have hI1 := hI.1
  refine lv_aload_n hx hb dX6_ofBoat_0 rfl (lv_at hl 0 rfl) ?_
  have J28 : ∀ (x : Int) (H : Heap) (locs : List Loc) (ls : Array Slot), x = (mcOfB u a n) → mH D tc A m0 aM u H → va_S A s.heap H locs → lv_has ls 3 [(0, .ref m0), (1, .int (zi (a))), (2, .int (zi (n)))] → W p l e { frames := 3, locals := 80, cells := 0, slots := 0 } s m ([.ref m0, .int (zi (a)), .int (zi (n))] : List Value).toArray below meth c H locs 0 0 (MQ below (zQ A (fun v H => v = some (.int (zi (if 0 < mcOfB u a n then -1 else mvOfB u a n))) ∧ mH D tc A m0 aM (if 0 < mcOfB u a n then ms u 25 0 (mcOfB u a n) else ms u 25 0 0) H)) ([.ref m0, .int (zi (a)), .int (zi (n))] : List Value).toArray s ({ frames := 3, locals := 80, cells := 0, slots := 0 } : Room).cells ({ frames := 3, locals := 80, cells := 0, slots := 0 } : Room).slots A) (F0 m 28 ls [.int (zi (x)), .ref m0]) := by
    intro x H locs ls hxe hR hS hl
    have hxu := hxe
    unfold mcOfB at hxu
    refine z_invV (n := 1) (C := RX6) (c_X6_fails l hZ (u := u) (k := x) (by omega)) X hS hR hl.1 (q_758 hT hW) (q_7 hT hW) (q_755 hT hW) (q_757 hT hW) (q_p18 hT hW) (m_recv hK hR) (by decide +kernel) rfl ⟨Nat.le_of_ble_eq_true rfl, Nat.le_of_ble_eq_true rfl⟩ ⟨Nat.le_of_ble_eq_true rfl, Nat.le_of_ble_eq_true rfl⟩ (Nat.le_of_ble_eq_true rfl) dX6_ofBoat_28 (fun v H locs hv hS => ?_) rfl
    obtain ⟨rfl, hR⟩ := hv
    refine z_if_eq (a := (if 0 < x then 1 else 0)) (tgt := 36) hx hb dX6_ofBoat_31 (by decide) (by omega) (fun h_31 => ?_) (fun h_31 => ?_)
    · skip
      have hn6 : 0 ≤ a ∧ a < u 13 0 ∧ 0 ≤ n ∧ n ≤ 3 := by omega
      have hB := hI.2.2.1 a.toNat (by omega)
      unfold zIb at hB
      refine lv_iload_n hx hb dX6_ofBoat_36 rfl (lv_at hl 2 rfl) ?_
      refine z_if_ne (a := n) (tgt := 49) hx hb dX6_ofBoat_37 (by decide) (by omega) (fun h_37 => ?_) (fun h_37 => ?_)
      · skip
        refine lv_iload_n hx hb dX6_ofBoat_49 rfl (lv_at hl 2 rfl) ?_
        refine lv_iconst (v := zi (1)) hx hb dX6_ofBoat_50 rfl ?_
        refine z_icmp_ne (a := n) (b := 1) (tgt := 63) hx hb dX6_ofBoat_51 (by decide) (by omega) (fun h_51 => ?_) (fun h_51 => ?_)
        · skip
          refine lv_iload_n hx hb dX6_ofBoat_63 rfl (lv_at hl 2 rfl) ?_
          refine lv_iconst (v := zi (2)) hx hb dX6_ofBoat_64 rfl ?_
          refine z_icmp_ne (a := n) (b := 2) (tgt := 90) hx hb dX6_ofBoat_65 (by decide) (by omega) (fun h_65 => ?_) (fun h_65 => ?_)
          · skip
            refine lv_aload_n hx hb dX6_ofBoat_90 rfl (lv_at hl 0 rfl) ?_
            refine m_get hx hb (q_wsX6 hT hW) hown hK hR 6 (by decide) (q_670 hT hW) (fun _ h => h) (v := .ref (aM 6)) rfl dX6_ofBoat_91 ?_
            refine lv_iload_n hx hb dX6_ofBoat_94 rfl (lv_at hl 1 rfl) ?_
            refine m_iald (k := 6) (i := a) (v := u 6 a.toNat) hx hb hK hR (by unfold mar; omega) (by decide) (by show 0 ≤ a ∧ a < ((6 : Nat) : Int); omega) (ms_k (by decide)) dX6_ofBoat_95 ?_
            have hx0 : x = 0 := by omega
            subst hx0
            exact z_iret hx hb hr hlocks hS (by decide) (by decide) dX6_ofBoat_96 ⟨by rw [← hxe, if_neg (Int.lt_irrefl 0), show mvOfB u a n = (u 6 a.toNat) from by unfold mvOfB; omega], by rw [← hxe, if_neg (Int.lt_irrefl 0)]; exact hR⟩
          · skip
            refine lv_aload_n hx hb dX6_ofBoat_68 rfl (lv_at hl 0 rfl) ?_
            refine m_get hx hb (q_wsX6 hT hW) hown hK hR 8 (by decide) (q_672 hT hW) (fun _ h => h) (v := .ref (aM 8)) rfl dX6_ofBoat_69 ?_
            refine lv_iload_n hx hb dX6_ofBoat_72 rfl (lv_at hl 1 rfl) ?_
            refine m_iald (k := 8) (i := a) (v := u 8 a.toNat) hx hb hK hR (by unfold mar; omega) (by decide) (by show 0 ≤ a ∧ a < ((6 : Nat) : Int); omega) (ms_k (by decide)) dX6_ofBoat_73 ?_
            refine z_if_ne (a := (u 8 a.toNat)) (tgt := 81) hx hb dX6_ofBoat_74 (by decide) (by omega) (fun h_74 => ?_) (fun h_74 => ?_)
            · skip
              refine lv_aload_n hx hb dX6_ofBoat_81 rfl (lv_at hl 0 rfl) ?_
              refine m_get hx hb (q_wsX6 hT hW) hown hK hR 11 (by decide) (q_675 hT hW) (fun _ h => h) (v := .ref (aM 11)) rfl dX6_ofBoat_82 ?_
              refine lv_iload_n hx hb dX6_ofBoat_85 rfl (lv_at hl 1 rfl) ?_
              refine m_iald (k := 11) (i := a) (v := u 11 a.toNat) hx hb hK hR (by unfold mar; omega) (by decide) (by show 0 ≤ a ∧ a < ((6 : Nat) : Int); omega) (ms_k (by decide)) dX6_ofBoat_86 ?_
              refine lv_goto (tgt := 96) hx hb dX6_ofBoat_87 (by decide) ?_
              have hx0 : x = 0 := by omega
              subst hx0
              exact z_iret hx hb hr hlocks hS (by decide) (by decide) dX6_ofBoat_96 ⟨by rw [← hxe, if_neg (Int.lt_irrefl 0), show mvOfB u a n = (u 11 a.toNat) from by unfold mvOfB; omega], by rw [← hxe, if_neg (Int.lt_irrefl 0)]; exact hR⟩
            · skip
              refine lv_iconst (v := zi (-1)) hx hb dX6_ofBoat_77 rfl ?_
              refine lv_goto (tgt := 96) hx hb dX6_ofBoat_78 (by decide) ?_
              have hx0 : x = 0 := by omega
              subst hx0
              exact z_iret hx hb hr hlocks hS (by decide) (by decide) dX6_ofBoat_96 ⟨by rw [← hxe, if_neg (Int.lt_irrefl 0), show mvOfB u a n = (-1) from by unfold mvOfB; omega], by rw [← hxe, if_neg (Int.lt_irrefl 0)]; exact hR⟩
        · skip
          refine lv_aload_n hx hb dX6_ofBoat_54 rfl (lv_at hl 0 rfl) ?_
          refine m_get hx hb (q_wsX6 hT hW) hown hK hR 9 (by decide) (q_673 hT hW) (fun _ h => h) (v := .ref (aM 9)) rfl dX6_ofBoat_55 ?_
          refine lv_iload_n hx hb dX6_ofBoat_58 rfl (lv_at hl 1 rfl) ?_
          refine m_iald (k := 9) (i := a) (v := u 9 a.toNat) hx hb hK hR (by unfold mar; omega) (by decide) (by show 0 ≤ a ∧ a < ((6 : Nat) : Int); omega) (ms_k (by decide)) dX6_ofBoat_59 ?_
          refine lv_goto (tgt := 96) hx hb dX6_ofBoat_60 (by decide) ?_
          have hx0 : x = 0 := by omega
          subst hx0
          exact z_iret hx hb hr hlocks hS (by decide) (by decide) dX6_ofBoat_96 ⟨by rw [← hxe, if_neg (Int.lt_irrefl 0), show mvOfB u a n = (u 9 a.toNat) from by unfold mvOfB; omega], by rw [← hxe, if_neg (Int.lt_irrefl 0)]; exact hR⟩
      · skip
        refine lv_aload_n hx hb dX6_ofBoat_40 rfl (lv_at hl 0 rfl) ?_
        refine m_get hx hb (q_wsX6 hT hW) hown hK hR 8 (by decide) (q_672 hT hW) (fun _ h => h) (v := .ref (aM 8)) rfl dX6_ofBoat_41 ?_
        refine lv_iload_n hx hb dX6_ofBoat_44 rfl (lv_at hl 1 rfl) ?_
        refine m_iald (k := 8) (i := a) (v := u 8 a.toNat) hx hb hK hR (by unfold mar; omega) (by decide) (by show 0 ≤ a ∧ a < ((6 : Nat) : Int); omega) (ms_k (by decide)) dX6_ofBoat_45 ?_
        refine lv_goto (tgt := 96) hx hb dX6_ofBoat_46 (by decide) ?_
        have hx0 : x = 0 := by omega
        subst hx0
        exact z_iret hx hb hr hlocks hS (by decide) (by decide) dX6_ofBoat_96 ⟨by rw [← hxe, if_neg (Int.lt_irrefl 0), show mvOfB u a n = (u 8 a.toNat) from by unfold mvOfB; omega], by rw [← hxe, if_neg (Int.lt_irrefl 0)]; exact hR⟩
    · skip
      refine lv_iconst (v := zi (-1)) hx hb dX6_ofBoat_34 rfl ?_
      exact z_iret hx hb hr hlocks hS (by decide) (by decide) dX6_ofBoat_35 ⟨by rw [← hxe, if_pos (show 0 < x by omega)], by rw [← hxe, if_pos (show 0 < x by omega)]; exact hR⟩
  refine lv_aload_n hx hb dX6_ofBoat_1 rfl (lv_at hl 0 rfl) ?_
  refine lv_iload_n hx hb dX6_ofBoat_2 rfl (lv_at hl 1 rfl) ?_
  refine z_invV (n := 1) (C := RX6) (c_X6_isBoat l hZ (u := u) (a := a) (by omega) hI) X hS hR hl.1 (q_766 hT hW) (q_7 hT hW) (q_763 hT hW) (q_765 hT hW) (q_p19 hT hW) (m_recv hK hR) (by decide +kernel) rfl ⟨Nat.le_of_ble_eq_true rfl, Nat.le_of_ble_eq_true rfl⟩ ⟨Nat.le_of_ble_eq_true rfl, Nat.le_of_ble_eq_true rfl⟩ (Nat.le_of_ble_eq_true rfl) dX6_ofBoat_3 (fun v H locs hv hS => ?_) rfl
  obtain ⟨rfl, hR⟩ := hv
  refine z_if_ne (a := (if 0 ≤ a ∧ a ≤ u 13 0 - 1 then 1 else 0)) (tgt := 13) hx hb dX6_ofBoat_6 (by decide) (by omega) (fun h_6 => ?_) (fun h_6 => ?_)
  · skip
    refine lv_aload_n hx hb dX6_ofBoat_13 rfl (lv_at hl 0 rfl) ?_
    refine lv_iload_n hx hb dX6_ofBoat_14 rfl (lv_at hl 2 rfl) ?_
    refine lv_iconst (v := zi (0)) hx hb dX6_ofBoat_15 rfl ?_
    refine lv_iconst (v := zi (3)) hx hb dX6_ofBoat_16 rfl ?_
    refine z_invV (n := 3) (C := RX6) (c_X6_in l hZ (u := u) (a := n) (lo := 0) (hi := 3) (by omega)) X hS hR hl.1 (q_754 hT hW) (q_7 hT hW) (q_751 hT hW) (q_753 hT hW) (q_p17 hT hW) (m_recv hK hR) (by decide +kernel) rfl ⟨Nat.le_of_ble_eq_true rfl, Nat.le_of_ble_eq_true rfl⟩ ⟨Nat.le_of_ble_eq_true rfl, Nat.le_of_ble_eq_true rfl⟩ (Nat.le_of_ble_eq_true rfl) dX6_ofBoat_17 (fun v H locs hv hS => ?_) rfl
    obtain ⟨rfl, hR⟩ := hv
    refine z_if_eq (a := (if 0 ≤ n ∧ n ≤ 3 then 1 else 0)) (tgt := 27) hx hb dX6_ofBoat_20 (by decide) (by omega) (fun h_20 => ?_) (fun h_20 => ?_)
    · skip
      refine lv_iconst (v := zi (2)) hx hb dX6_ofBoat_27 rfl ?_
      exact J28 _ _ _ _ (by unfold mcOfB; omega) hR hS (lv_sub hl [0, 1, 2] rfl)
    · skip
      refine lv_iconst (v := zi (0)) hx hb dX6_ofBoat_23 rfl ?_
      refine lv_goto (tgt := 28) hx hb dX6_ofBoat_24 (by decide) ?_
      exact J28 _ _ _ _ (by unfold mcOfB; omega) hR hS (lv_sub hl [0, 1, 2] rfl)
  · skip
    refine lv_iconst (v := zi (1)) hx hb dX6_ofBoat_9 rfl ?_
    refine lv_goto (tgt := 28) hx hb dX6_ofBoat_10 (by decide) ?_
    exact J28 _ _ _ _ (by unfold mcOfB; omega) hR hS (lv_sub hl [0, 1, 2] rfl)
set_option maxHeartbeats 4000000 in
set_option maxRecDepth 100000 in
theorem c_X6_ofCall (l : Launch) {S : State} {D : va_G} {tc : Nat → ClassId} {A : Nat → Prop} {dz : Nat} (hZ : zB S D tc A dz) {m0 : Nat} {aM : Nat → Nat} {u : zS_} {a n : Int} (h0 : -2147483648 ≤ a ∧ a ≤ 2147483647 ∧ -2147483648 ≤ n ∧ n ≤ 2147483647) (hI : zIn u) : zM l S A yX6_ofCall cX6_ofCall 3 (Option.some Jvm.ClassFile.FieldType.int) { frames := 3, locals := 80, cells := 0, slots := 0 } [.ref m0, .int (zi (a)), .int (zi (n))] (mH D tc A m0 aM u) (fun v H => v = some (.int (zi (if 0 < mcOfC u a n then -1 else mvOfC u a n))) ∧ mH D tc A m0 aM (if 0 < mcOfC u a n then ms u 25 0 (mcOfC u a n) else ms u 25 0 0) H) := by
  refine zM.mk (by decide +kernel) (Nat.le_of_ble_eq_true rfl) ?_
  intro p e s m below meth c ls X0 hR hl
  obtain ⟨hx, hb, hml, hr, hlocks, hown, hnm, hW, hpre, hA⟩ := X0
  have X : zH S A p s m c cX6_ofCall 3 RX6 := ⟨hx, hb, hml, hown, hW, hpre, hA, hZ.2.2.1⟩
  have hT := hZ.1
  have hK := va_K.moved hW.alike hZ.2.1
  have hS : va_S A s.heap s.heap [] := va_S.rf
  have hl : lv_has ls 3 [(0, .ref m0), (1, .int (zi (a))), (2, .int (zi (n)))] := hl
  skip
  have hI1 := hI.1
  refine lv_aload_n hx hb dX6_ofCall_0 rfl (lv_at hl 0 rfl) ?_
  have J35 : ∀ (x : Int) (H : Heap) (locs : List Loc) (ls : Array Slot), x = (mcOfC u a n) → mH D tc A m0 aM u H → va_S A s.heap H locs → lv_has ls 3 [(0, .ref m0), (1, .int (zi (a))), (2, .int (zi (n)))] → W p l e { frames := 3, locals := 80, cells := 0, slots := 0 } s m ([.ref m0, .int (zi (a)), .int (zi (n))] : List Value).toArray below meth c H locs 0 0 (MQ below (zQ A (fun v H => v = some (.int (zi (if 0 < mcOfC u a n then -1 else mvOfC u a n))) ∧ mH D tc A m0 aM (if 0 < mcOfC u a n then ms u 25 0 (mcOfC u a n) else ms u 25 0 0) H)) ([.ref m0, .int (zi (a)), .int (zi (n))] : List Value).toArray s ({ frames := 3, locals := 80, cells := 0, slots := 0 } : Room).cells ({ frames := 3, locals := 80, cells := 0, slots := 0 } : Room).slots A) (F0 m 35 ls [.int (zi (x)), .ref m0]) := by
    intro x H locs ls hxe hR hS hl
    have hxu := hxe
    unfold mcOfC at hxu
    refine z_invV (n := 1) (C := RX6) (c_X6_fails l hZ (u := u) (k := x) (by omega)) X hS hR hl.1 (q_758 hT hW) (q_7 hT hW) (q_755 hT hW) (q_757 hT hW) (q_p18 hT hW) (m_recv hK hR) (by decide +kernel) rfl ⟨Nat.le_of_ble_eq_true rfl, Nat.le_of_ble_eq_true rfl⟩ ⟨Nat.le_of_ble_eq_true rfl, Nat.le_of_ble_eq_true rfl⟩ (Nat.le_of_ble_eq_true rfl) dX6_ofCall_35 (fun v H locs hv hS => ?_) rfl
    obtain ⟨rfl, hR⟩ := hv
    refine z_if_eq (a := (if 0 < x then 1 else 0)) (tgt := 43) hx hb dX6_ofCall_38 (by decide) (by omega) (fun h_38 => ?_) (fun h_38 => ?_)
    · skip
      have hn6 : 0 ≤ a ∧ a < u 21 0 ∧ 0 ≤ n ∧ n ≤ 3 := by omega
      refine lv_iload_n hx hb dX6_ofCall_43 rfl (lv_at hl 2 rfl) ?_
      refine z_if_ne (a := n) (tgt := 56) hx hb dX6_ofCall_44 (by decide) (by omega) (fun h_44 => ?_) (fun h_44 => ?_)
      · skip
        refine lv_iload_n hx hb dX6_ofCall_56 rfl (lv_at hl 2 rfl) ?_
        refine lv_iconst (v := zi (1)) hx hb dX6_ofCall_57 rfl ?_
        refine z_icmp_ne (a := n) (b := 1) (tgt := 70) hx hb dX6_ofCall_58 (by decide) (by omega) (fun h_58 => ?_) (fun h_58 => ?_)
        · skip
          refine lv_iload_n hx hb dX6_ofCall_70 rfl (lv_at hl 2 rfl) ?_
          refine lv_iconst (v := zi (2)) hx hb dX6_ofCall_71 rfl ?_
          refine z_icmp_ne (a := n) (b := 2) (tgt := 84) hx hb dX6_ofCall_72 (by decide) (by omega) (fun h_72 => ?_) (fun h_72 => ?_)
          · skip
            refine lv_aload_n hx hb dX6_ofCall_84 rfl (lv_at hl 0 rfl) ?_
            refine m_get hx hb (q_wsX6 hT hW) hown hK hR 20 (by decide) (q_684 hT hW) (fun _ h => h) (v := .ref (aM 20)) rfl dX6_ofCall_85 ?_
            refine lv_iload_n hx hb dX6_ofCall_88 rfl (lv_at hl 1 rfl) ?_
            refine m_iald (k := 20) (i := a) (v := u 20 a.toNat) hx hb hK hR (by unfold mar; omega) (by decide) (by show 0 ≤ a ∧ a < ((30 : Nat) : Int); omega) (ms_k (by decide)) dX6_ofCall_89 ?_
            have hx0 : x = 0 := by omega
            subst hx0
            exact z_iret hx hb hr hlocks hS (by decide) (by decide) dX6_ofCall_90 ⟨by rw [← hxe, if_neg (Int.lt_irrefl 0), show mvOfC u a n = (u 20 a.toNat) from by unfold mvOfC; omega], by rw [← hxe, if_neg (Int.lt_irrefl 0)]; exact hR⟩
          · skip
            refine lv_aload_n hx hb dX6_ofCall_75 rfl (lv_at hl 0 rfl) ?_
            refine m_get hx hb (q_wsX6 hT hW) hown hK hR 19 (by decide) (q_683 hT hW) (fun _ h => h) (v := .ref (aM 19)) rfl dX6_ofCall_76 ?_
            refine lv_iload_n hx hb dX6_ofCall_79 rfl (lv_at hl 1 rfl) ?_
            refine m_iald (k := 19) (i := a) (v := u 19 a.toNat) hx hb hK hR (by unfold mar; omega) (by decide) (by show 0 ≤ a ∧ a < ((30 : Nat) : Int); omega) (ms_k (by decide)) dX6_ofCall_80 ?_
            refine lv_goto (tgt := 90) hx hb dX6_ofCall_81 (by decide) ?_
            have hx0 : x = 0 := by omega
            subst hx0
            exact z_iret hx hb hr hlocks hS (by decide) (by decide) dX6_ofCall_90 ⟨by rw [← hxe, if_neg (Int.lt_irrefl 0), show mvOfC u a n = (u 19 a.toNat) from by unfold mvOfC; omega], by rw [← hxe, if_neg (Int.lt_irrefl 0)]; exact hR⟩
        · skip
          refine lv_aload_n hx hb dX6_ofCall_61 rfl (lv_at hl 0 rfl) ?_
          refine m_get hx hb (q_wsX6 hT hW) hown hK hR 18 (by decide) (q_682 hT hW) (fun _ h => h) (v := .ref (aM 18)) rfl dX6_ofCall_62 ?_
          refine lv_iload_n hx hb dX6_ofCall_65 rfl (lv_at hl 1 rfl) ?_
          refine m_iald (k := 18) (i := a) (v := u 18 a.toNat) hx hb hK hR (by unfold mar; omega) (by decide) (by show 0 ≤ a ∧ a < ((30 : Nat) : Int); omega) (ms_k (by decide)) dX6_ofCall_66 ?_
          refine lv_goto (tgt := 90) hx hb dX6_ofCall_67 (by decide) ?_
          have hx0 : x = 0 := by omega
          subst hx0
          exact z_iret hx hb hr hlocks hS (by decide) (by decide) dX6_ofCall_90 ⟨by rw [← hxe, if_neg (Int.lt_irrefl 0), show mvOfC u a n = (u 18 a.toNat) from by unfold mvOfC; omega], by rw [← hxe, if_neg (Int.lt_irrefl 0)]; exact hR⟩
      · skip
        refine lv_aload_n hx hb dX6_ofCall_47 rfl (lv_at hl 0 rfl) ?_
        refine m_get hx hb (q_wsX6 hT hW) hown hK hR 17 (by decide) (q_681 hT hW) (fun _ h => h) (v := .ref (aM 17)) rfl dX6_ofCall_48 ?_
        refine lv_iload_n hx hb dX6_ofCall_51 rfl (lv_at hl 1 rfl) ?_
        refine m_iald (k := 17) (i := a) (v := u 17 a.toNat) hx hb hK hR (by unfold mar; omega) (by decide) (by show 0 ≤ a ∧ a < ((30 : Nat) : Int); omega) (ms_k (by decide)) dX6_ofCall_52 ?_
        refine lv_goto (tgt := 90) hx hb dX6_ofCall_53 (by decide) ?_
        have hx0 : x = 0 := by omega
        subst hx0
        exact z_iret hx hb hr hlocks hS (by decide) (by decide) dX6_ofCall_90 ⟨by rw [← hxe, if_neg (Int.lt_irrefl 0), show mvOfC u a n = (u 17 a.toNat) from by unfold mvOfC; omega], by rw [← hxe, if_neg (Int.lt_irrefl 0)]; exact hR⟩
    · skip
      refine lv_iconst (v := zi (-1)) hx hb dX6_ofCall_41 rfl ?_
      exact z_iret hx hb hr hlocks hS (by decide) (by decide) dX6_ofCall_42 ⟨by rw [← hxe, if_pos (show 0 < x by omega)], by rw [← hxe, if_pos (show 0 < x by omega)]; exact hR⟩
  refine lv_aload_n hx hb dX6_ofCall_1 rfl (lv_at hl 0 rfl) ?_
  refine lv_iload_n hx hb dX6_ofCall_2 rfl (lv_at hl 1 rfl) ?_
  refine lv_iconst (v := zi (0)) hx hb dX6_ofCall_3 rfl ?_
  refine lv_aload_n hx hb dX6_ofCall_4 rfl (lv_at hl 0 rfl) ?_
  refine m_get hx hb (q_wsX6 hT hW) hown hK hR 21 (by decide) (q_685 hT hW) (fun _ h => h) (v := .int (zi (u 21 0))) (congrArg (fun z : Int => some (Value.int (zi z))) rfl) dX6_ofCall_5 ?_
  refine lv_iconst (v := zi (1)) hx hb dX6_ofCall_8 rfl ?_
  refine z_isub (a := (u 21 0)) (b := 1) hx hb dX6_ofCall_9 ?_
  refine z_invV (n := 3) (C := RX6) (c_X6_in l hZ (u := u) (a := a) (lo := 0) (hi := ((u 21 0) - 1)) (by omega)) X hS hR hl.1 (q_754 hT hW) (q_7 hT hW) (q_751 hT hW) (q_753 hT hW) (q_p17 hT hW) (m_recv hK hR) (by decide +kernel) rfl ⟨Nat.le_of_ble_eq_true rfl, Nat.le_of_ble_eq_true rfl⟩ ⟨Nat.le_of_ble_eq_true rfl, Nat.le_of_ble_eq_true rfl⟩ (Nat.le_of_ble_eq_true rfl) dX6_ofCall_10 (fun v H locs hv hS => ?_) rfl
  obtain ⟨rfl, hR⟩ := hv
  refine z_if_ne (a := (if 0 ≤ a ∧ a ≤ ((u 21 0) - 1) then 1 else 0)) (tgt := 20) hx hb dX6_ofCall_13 (by decide) (by omega) (fun h_13 => ?_) (fun h_13 => ?_)
  · skip
    refine lv_aload_n hx hb dX6_ofCall_20 rfl (lv_at hl 0 rfl) ?_
    refine lv_iload_n hx hb dX6_ofCall_21 rfl (lv_at hl 2 rfl) ?_
    refine lv_iconst (v := zi (0)) hx hb dX6_ofCall_22 rfl ?_
    refine lv_iconst (v := zi (3)) hx hb dX6_ofCall_23 rfl ?_
    refine z_invV (n := 3) (C := RX6) (c_X6_in l hZ (u := u) (a := n) (lo := 0) (hi := 3) (by omega)) X hS hR hl.1 (q_754 hT hW) (q_7 hT hW) (q_751 hT hW) (q_753 hT hW) (q_p17 hT hW) (m_recv hK hR) (by decide +kernel) rfl ⟨Nat.le_of_ble_eq_true rfl, Nat.le_of_ble_eq_true rfl⟩ ⟨Nat.le_of_ble_eq_true rfl, Nat.le_of_ble_eq_true rfl⟩ (Nat.le_of_ble_eq_true rfl) dX6_ofCall_24 (fun v H locs hv hS => ?_) rfl
    obtain ⟨rfl, hR⟩ := hv
    refine z_if_eq (a := (if 0 ≤ n ∧ n ≤ 3 then 1 else 0)) (tgt := 34) hx hb dX6_ofCall_27 (by decide) (by omega) (fun h_27 => ?_) (fun h_27 => ?_)
    · skip
      refine lv_iconst (v := zi (2)) hx hb dX6_ofCall_34 rfl ?_
      exact J35 _ _ _ _ (by unfold mcOfC; omega) hR hS (lv_sub hl [0, 1, 2] rfl)
    · skip
      refine lv_iconst (v := zi (0)) hx hb dX6_ofCall_30 rfl ?_
      refine lv_goto (tgt := 35) hx hb dX6_ofCall_31 (by decide) ?_
      exact J35 _ _ _ _ (by unfold mcOfC; omega) hR hS (lv_sub hl [0, 1, 2] rfl)
  · skip
    refine lv_iconst (v := zi (1)) hx hb dX6_ofCall_16 rfl ?_
    refine lv_goto (tgt := 35) hx hb dX6_ofCall_17 (by decide) ?_
    exact J35 _ _ _ _ (by unfold mcOfC; omega) hR hS (lv_sub hl [0, 1, 2] rfl)
set_option maxHeartbeats 4000000 in
set_option maxRecDepth 100000 in
theorem c_X6_rewards (l : Launch) {S : State} {D : va_G} {tc : Nat → ClassId} {A : Nat → Prop} {dz : Nat} (hZ : zB S D tc A dz) {m0 : Nat} {aM : Nat → Nat} {u : zS_} {a : Int} (h0 : -2147483648 ≤ a ∧ a ≤ 2147483647) (hI : zIn u) : zM l S A yX6_rewards cX6_rewards 2 (Option.some Jvm.ClassFile.FieldType.int) { frames := 3, locals := 80, cells := 0, slots := 0 } [.ref m0, .int (zi (a))] (mH D tc A m0 aM u) (fun v H => v = some (.int (zi (if 0 < mcClub a then -1 else u 22 a.toNat))) ∧ mH D tc A m0 aM (if 0 < mcClub a then ms u 25 0 (mcClub a) else ms u 25 0 0) H) := by
  refine zM.mk (by decide +kernel) (Nat.le_of_ble_eq_true rfl) ?_
  intro p e s m below meth c ls X0 hR hl
  obtain ⟨hx, hb, hml, hr, hlocks, hown, hnm, hW, hpre, hA⟩ := X0
  have X : zH S A p s m c cX6_rewards 2 RX6 := ⟨hx, hb, hml, hown, hW, hpre, hA, hZ.2.2.1⟩
  have hT := hZ.1
  have hK := va_K.moved hW.alike hZ.2.1
  have hS : va_S A s.heap s.heap [] := va_S.rf
  have hl : lv_has ls 2 [(0, .ref m0), (1, .int (zi (a)))] := hl
  skip
  have hI1 := hI.1
  refine lv_aload_n hx hb dX6_rewards_0 rfl (lv_at hl 0 rfl) ?_
  have J16 : ∀ (x : Int) (H : Heap) (locs : List Loc) (ls : Array Slot), x = (mcClub a) → mH D tc A m0 aM u H → va_S A s.heap H locs → lv_has ls 2 [(0, .ref m0), (1, .int (zi (a)))] → W p l e { frames := 3, locals := 80, cells := 0, slots := 0 } s m ([.ref m0, .int (zi (a))] : List Value).toArray below meth c H locs 0 0 (MQ below (zQ A (fun v H => v = some (.int (zi (if 0 < mcClub a then -1 else u 22 a.toNat))) ∧ mH D tc A m0 aM (if 0 < mcClub a then ms u 25 0 (mcClub a) else ms u 25 0 0) H)) ([.ref m0, .int (zi (a))] : List Value).toArray s ({ frames := 3, locals := 80, cells := 0, slots := 0 } : Room).cells ({ frames := 3, locals := 80, cells := 0, slots := 0 } : Room).slots A) (F0 m 16 ls [.int (zi (x)), .ref m0]) := by
    intro x H locs ls hxe hR hS hl
    have hxu := hxe
    unfold mcClub at hxu
    refine z_invV (n := 1) (C := RX6) (c_X6_fails l hZ (u := u) (k := x) (by omega)) X hS hR hl.1 (q_758 hT hW) (q_7 hT hW) (q_755 hT hW) (q_757 hT hW) (q_p18 hT hW) (m_recv hK hR) (by decide +kernel) rfl ⟨Nat.le_of_ble_eq_true rfl, Nat.le_of_ble_eq_true rfl⟩ ⟨Nat.le_of_ble_eq_true rfl, Nat.le_of_ble_eq_true rfl⟩ (Nat.le_of_ble_eq_true rfl) dX6_rewards_16 (fun v H locs hv hS => ?_) rfl
    obtain ⟨rfl, hR⟩ := hv
    refine z_if_eq (a := (if 0 < x then 1 else 0)) (tgt := 26) hx hb dX6_rewards_19 (by decide) (by omega) (fun h_19 => ?_) (fun h_19 => ?_)
    · skip
      have hn6 : 0 ≤ a ∧ a ≤ 2 := by omega
      refine lv_aload_n hx hb dX6_rewards_26 rfl (lv_at hl 0 rfl) ?_
      refine m_get hx hb (q_wsX6 hT hW) hown hK hR 22 (by decide) (q_686 hT hW) (fun _ h => h) (v := .ref (aM 22)) rfl dX6_rewards_27 ?_
      refine lv_iload_n hx hb dX6_rewards_30 rfl (lv_at hl 1 rfl) ?_
      refine m_iald (k := 22) (i := a) (v := u 22 a.toNat) hx hb hK hR (by unfold mar; omega) (by decide) (by show 0 ≤ a ∧ a < ((3 : Nat) : Int); omega) (ms_k (by decide)) dX6_rewards_31 ?_
      have hx0 : x = 0 := by omega
      subst hx0
      exact z_iret hx hb hr hlocks hS (by decide) (by decide) dX6_rewards_32 ⟨by rw [← hxe, if_neg (Int.lt_irrefl 0)], by rw [← hxe, if_neg (Int.lt_irrefl 0)]; exact hR⟩
    · skip
      refine lv_iconst (v := zi (-1)) hx hb dX6_rewards_22 rfl ?_
      refine lv_goto (tgt := 32) hx hb dX6_rewards_23 (by decide) ?_
      exact z_iret hx hb hr hlocks hS (by decide) (by decide) dX6_rewards_32 ⟨by rw [← hxe, if_pos (show 0 < x by omega)], by rw [← hxe, if_pos (show 0 < x by omega)]; exact hR⟩
  refine lv_aload_n hx hb dX6_rewards_1 rfl (lv_at hl 0 rfl) ?_
  refine lv_iload_n hx hb dX6_rewards_2 rfl (lv_at hl 1 rfl) ?_
  refine lv_iconst (v := zi (0)) hx hb dX6_rewards_3 rfl ?_
  refine lv_iconst (v := zi (2)) hx hb dX6_rewards_4 rfl ?_
  refine z_invV (n := 3) (C := RX6) (c_X6_in l hZ (u := u) (a := a) (lo := 0) (hi := 2) (by omega)) X hS hR hl.1 (q_754 hT hW) (q_7 hT hW) (q_751 hT hW) (q_753 hT hW) (q_p17 hT hW) (m_recv hK hR) (by decide +kernel) rfl ⟨Nat.le_of_ble_eq_true rfl, Nat.le_of_ble_eq_true rfl⟩ ⟨Nat.le_of_ble_eq_true rfl, Nat.le_of_ble_eq_true rfl⟩ (Nat.le_of_ble_eq_true rfl) dX6_rewards_5 (fun v H locs hv hS => ?_) rfl
  obtain ⟨rfl, hR⟩ := hv
  refine z_if_eq (a := (if 0 ≤ a ∧ a ≤ 2 then 1 else 0)) (tgt := 15) hx hb dX6_rewards_8 (by decide) (by omega) (fun h_8 => ?_) (fun h_8 => ?_)
  · skip
    refine lv_iconst (v := zi (1)) hx hb dX6_rewards_15 rfl ?_
    exact J16 _ _ _ _ (by unfold mcClub; omega) hR hS (lv_sub hl [0, 1] rfl)
  · skip
    refine lv_iconst (v := zi (0)) hx hb dX6_rewards_11 rfl ?_
    refine lv_goto (tgt := 16) hx hb dX6_rewards_12 (by decide) ?_
    exact J16 _ _ _ _ (by unfold mcClub; omega) hR hS (lv_sub hl [0, 1] rfl)
set_option maxHeartbeats 4000000 in
set_option maxRecDepth 100000 in
theorem c_X6_rewardsAnew (l : Launch) {S : State} {D : va_G} {tc : Nat → ClassId} {A : Nat → Prop} {dz : Nat} (hZ : zB S D tc A dz) {m0 : Nat} {aM : Nat → Nat} {u : zS_} {a : Int} (h0 : -2147483648 ≤ a ∧ a ≤ 2147483647) (hI : zIn u) : zM l S A yX6_rewardsAnew cX6_rewardsAnew 2 (Option.some Jvm.ClassFile.FieldType.int) { frames := 3, locals := 80, cells := 0, slots := 0 } [.ref m0, .int (zi (a))] (mH D tc A m0 aM u) (fun v H => v = some (.int (zi (if 0 < mcClub a then -1 else u 22 a.toNat))) ∧ mH D tc A m0 aM (if 0 < mcClub a then ms u 25 0 (mcClub a) else ms u 25 0 0) H) := by
  refine zM.mk (by decide +kernel) (Nat.le_of_ble_eq_true rfl) ?_
  intro p e s m below meth c ls X0 hR hl
  obtain ⟨hx, hb, hml, hr, hlocks, hown, hnm, hW, hpre, hA⟩ := X0
  have X : zH S A p s m c cX6_rewardsAnew 2 RX6 := ⟨hx, hb, hml, hown, hW, hpre, hA, hZ.2.2.1⟩
  have hT := hZ.1
  have hK := va_K.moved hW.alike hZ.2.1
  have hS : va_S A s.heap s.heap [] := va_S.rf
  have hl : lv_has ls 2 [(0, .ref m0), (1, .int (zi (a)))] := hl
  skip
  have hI1 := hI.1
  refine lv_aload_n hx hb dX6_rewardsAnew_0 rfl (lv_at hl 0 rfl) ?_
  have J16 : ∀ (x : Int) (H : Heap) (locs : List Loc) (ls : Array Slot), x = (mcClub a) → mH D tc A m0 aM u H → va_S A s.heap H locs → lv_has ls 2 [(0, .ref m0), (1, .int (zi (a)))] → W p l e { frames := 3, locals := 80, cells := 0, slots := 0 } s m ([.ref m0, .int (zi (a))] : List Value).toArray below meth c H locs 0 0 (MQ below (zQ A (fun v H => v = some (.int (zi (if 0 < mcClub a then -1 else u 22 a.toNat))) ∧ mH D tc A m0 aM (if 0 < mcClub a then ms u 25 0 (mcClub a) else ms u 25 0 0) H)) ([.ref m0, .int (zi (a))] : List Value).toArray s ({ frames := 3, locals := 80, cells := 0, slots := 0 } : Room).cells ({ frames := 3, locals := 80, cells := 0, slots := 0 } : Room).slots A) (F0 m 16 ls [.int (zi (x)), .ref m0]) := by
    intro x H locs ls hxe hR hS hl
    have hxu := hxe
    unfold mcClub at hxu
    refine z_invV (n := 1) (C := RX6) (c_X6_fails l hZ (u := u) (k := x) (by omega)) X hS hR hl.1 (q_758 hT hW) (q_7 hT hW) (q_755 hT hW) (q_757 hT hW) (q_p18 hT hW) (m_recv hK hR) (by decide +kernel) rfl ⟨Nat.le_of_ble_eq_true rfl, Nat.le_of_ble_eq_true rfl⟩ ⟨Nat.le_of_ble_eq_true rfl, Nat.le_of_ble_eq_true rfl⟩ (Nat.le_of_ble_eq_true rfl) dX6_rewardsAnew_16 (fun v H locs hv hS => ?_) rfl
    obtain ⟨rfl, hR⟩ := hv
    refine z_if_eq (a := (if 0 < x then 1 else 0)) (tgt := 26) hx hb dX6_rewardsAnew_19 (by decide) (by omega) (fun h_19 => ?_) (fun h_19 => ?_)
    · skip
      have hn6 : 0 ≤ a ∧ a ≤ 2 := by omega
      refine lv_aload_n hx hb dX6_rewardsAnew_26 rfl (lv_at hl 0 rfl) ?_
      refine m_get hx hb (q_wsX6 hT hW) hown hK hR 22 (by decide) (q_686 hT hW) (fun _ h => h) (v := .ref (aM 22)) rfl dX6_rewardsAnew_27 ?_
      refine lv_iload_n hx hb dX6_rewardsAnew_30 rfl (lv_at hl 1 rfl) ?_
      refine m_iald (k := 22) (i := a) (v := u 22 a.toNat) hx hb hK hR (by unfold mar; omega) (by decide) (by show 0 ≤ a ∧ a < ((3 : Nat) : Int); omega) (ms_k (by decide)) dX6_rewardsAnew_31 ?_
      have hx0 : x = 0 := by omega
      subst hx0
      exact z_iret hx hb hr hlocks hS (by decide) (by decide) dX6_rewardsAnew_32 ⟨by rw [← hxe, if_neg (Int.lt_irrefl 0)], by rw [← hxe, if_neg (Int.lt_irrefl 0)]; exact hR⟩
    · skip
      refine lv_iconst (v := zi (-1)) hx hb dX6_rewardsAnew_22 rfl ?_
      refine lv_goto (tgt := 32) hx hb dX6_rewardsAnew_23 (by decide) ?_
      exact z_iret hx hb hr hlocks hS (by decide) (by decide) dX6_rewardsAnew_32 ⟨by rw [← hxe, if_pos (show 0 < x by omega)], by rw [← hxe, if_pos (show 0 < x by omega)]; exact hR⟩
  refine lv_aload_n hx hb dX6_rewardsAnew_1 rfl (lv_at hl 0 rfl) ?_
  refine lv_iload_n hx hb dX6_rewardsAnew_2 rfl (lv_at hl 1 rfl) ?_
  refine lv_iconst (v := zi (0)) hx hb dX6_rewardsAnew_3 rfl ?_
  refine lv_iconst (v := zi (2)) hx hb dX6_rewardsAnew_4 rfl ?_
  refine z_invV (n := 3) (C := RX6) (c_X6_in l hZ (u := u) (a := a) (lo := 0) (hi := 2) (by omega)) X hS hR hl.1 (q_754 hT hW) (q_7 hT hW) (q_751 hT hW) (q_753 hT hW) (q_p17 hT hW) (m_recv hK hR) (by decide +kernel) rfl ⟨Nat.le_of_ble_eq_true rfl, Nat.le_of_ble_eq_true rfl⟩ ⟨Nat.le_of_ble_eq_true rfl, Nat.le_of_ble_eq_true rfl⟩ (Nat.le_of_ble_eq_true rfl) dX6_rewardsAnew_5 (fun v H locs hv hS => ?_) rfl
  obtain ⟨rfl, hR⟩ := hv
  refine z_if_eq (a := (if 0 ≤ a ∧ a ≤ 2 then 1 else 0)) (tgt := 15) hx hb dX6_rewardsAnew_8 (by decide) (by omega) (fun h_8 => ?_) (fun h_8 => ?_)
  · skip
    refine lv_iconst (v := zi (1)) hx hb dX6_rewardsAnew_15 rfl ?_
    exact J16 _ _ _ _ (by unfold mcClub; omega) hR hS (lv_sub hl [0, 1] rfl)
  · skip
    refine lv_iconst (v := zi (0)) hx hb dX6_rewardsAnew_11 rfl ?_
    refine lv_goto (tgt := 16) hx hb dX6_rewardsAnew_12 (by decide) ?_
    exact J16 _ _ _ _ (by unfold mcClub; omega) hR hS (lv_sub hl [0, 1] rfl)
