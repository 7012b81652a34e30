/-! numbers: an Int seen as an Int32 -/
def zi (z : Int) : Int32 := Int32.ofInt z
theorem zi_toInt {a : Int} (h : -2147483648 ≤ a ∧ a ≤ 2147483647) : (zi a).toInt = a := Int32.toInt_ofInt_of_le (by omega) (by omega)
theorem zi_of (x : Int32) : zi x.toInt = x := Int32.ofInt_toInt x
theorem zi_ex (x : Int32) : ∃ z : Int, (-2147483648 ≤ z ∧ z ≤ 2147483647) ∧ x = zi z := by
  refine ⟨x.toInt, ⟨?_, ?_⟩, (zi_of x).symm⟩
  · have := Int32.le_toInt x; omega
  · have := Int32.toInt_lt x; omega
theorem zi_add (a b : Int) : zi a + zi b = zi (a + b) := (Int32.ofInt_add a b).symm
theorem zi_sub (a b : Int) : zi a - zi b = zi (a - b) := (Int32.ofInt_sub a b).symm
theorem zi_mul (a b : Int) : zi a * zi b = zi (a * b) := (Int32.ofInt_mul a b).symm
theorem zi_neg (a : Int) : -zi a = zi (-a) := (Int32.ofInt_neg a).symm
theorem zi_lt {a b : Int} (h : -2147483648 ≤ a ∧ a ≤ 2147483647 ∧ -2147483648 ≤ b ∧ b ≤ 2147483647) : zi a < zi b ↔ a < b := by
  rw [Int32.lt_iff_toInt_lt, zi_toInt ⟨h.1, h.2.1⟩, zi_toInt h.2.2]
theorem zi_le {a b : Int} (h : -2147483648 ≤ a ∧ a ≤ 2147483647 ∧ -2147483648 ≤ b ∧ b ≤ 2147483647) : zi a ≤ zi b ↔ a ≤ b := by
  rw [Int32.le_iff_toInt_le, zi_toInt ⟨h.1, h.2.1⟩, zi_toInt h.2.2]
theorem zi_eq {a b : Int} (h : -2147483648 ≤ a ∧ a ≤ 2147483647 ∧ -2147483648 ≤ b ∧ b ≤ 2147483647) : zi a = zi b ↔ a = b := by
  rw [← Int32.toInt_inj, zi_toInt ⟨h.1, h.2.1⟩, zi_toInt h.2.2]
theorem zi_0 : zi 0 = 0 := rfl
theorem zi_tdiv {a b : Int} (h : -2147483648 ≤ a ∧ a ≤ 2147483647 ∧ 0 < b ∧ b ≤ 2147483647) : zi a / zi b = zi (a.tdiv b) := by
  have hb : (zi b).toInt = b := zi_toInt (by omega)
  have ha : (zi a).toInt = a := zi_toInt (by omega)
  have hne : zi b ≠ -1 := by
    intro e
    have := congrArg Int32.toInt e
    rw [hb] at this
    have h1 : (-1 : Int32).toInt = -1 := by decide
    omega
  rw [← Int32.toInt_inj, Int32.toInt_div_of_ne_right _ _ hne, ha, hb]
  have h1 : a.tdiv b ≤ 2147483647 ∧ -2147483648 ≤ a.tdiv b := by
    rcases Int.le_total 0 a with p | p
    · have q1 : a.tdiv b = a / b := Int.tdiv_eq_ediv_of_nonneg p
      have q2 := Int.ediv_nonneg p (Int.le_of_lt h.2.2.1)
      have q3 := Int.ediv_le_self b p
      omega
    · have q1 : a.tdiv b = -((-a) / b) := by
        rw [← Int.neg_tdiv_neg, Int.tdiv_neg, Int.tdiv_eq_ediv_of_nonneg (by omega)]
      have q2 := Int.ediv_nonneg (a := -a) (b := b) (by omega) (by omega)
      have q3 := Int.ediv_le_self (a := -a) b (by omega)
      omega
  exact (zi_toInt ⟨h1.2, h1.1⟩).symm
theorem zi_div {a b : Int} (h : 0 ≤ a ∧ a ≤ 2147483647 ∧ 0 < b ∧ b ≤ 2147483647) : zi a / zi b = zi (a / b) := by
  rw [zi_tdiv ⟨by omega, h.2⟩, Int.tdiv_eq_ediv_of_nonneg h.1]
theorem zi_rem {a b : Int} (h : 0 ≤ a ∧ a ≤ 2147483647 ∧ 0 < b ∧ b ≤ 2147483647) : zi a - zi a / zi b * zi b = zi (a % b) := by
  rw [zi_div h, zi_mul, zi_sub, Int.emod_def, Int.mul_comm]
theorem zi_ne0 {b : Int} (h : 0 < b ∧ b ≤ 2147483647) : ¬ zi b = 0 := by
  intro e
  rw [← zi_0, zi_eq (by omega)] at e
  omega
theorem zi_nI (n : Nat) : nI n = zi (n : Int) := (Int32.ofInt_eq_ofNat).symm
theorem zi_clamp {a : Int} (h : 0 ≤ a ∧ a ≤ 2147483647) : (zi a).toNatClampNeg = a.toNat := by
  unfold Int32.toNatClampNeg
  rw [zi_toInt (by omega)]
theorem zi_in {a : Int} {n : Nat} (h : 0 ≤ a ∧ a < n ∧ n ≤ 2147483647) : vp_in (zi a) n := by
  unfold vp_in
  rw [zi_clamp (by omega), ← zi_0, zi_lt (by omega)]
  omega
/-- a truth value as an int -/
def zb (c : Bool) : Int := if c then 1 else 0
theorem zb_t : zb true = 1 := rfl
theorem zb_f : zb false = 0 := rfl

section ZN
variable {p : Program} {l : Launch} {e : Env} {R : Room} {s : State} {m : MethodId} {args : Array Value} {below : List Frame} {meth : Method} {c : Code} {H : Heap} {locs : List Loc} {cells slots : Nat} {Q : State → Prop}
variable {cc : ByteArray} {pc : Nat} {ls : Array Slot} {rest : List Value} {a b : Int}

theorem z_iadd (hexec : p.tables.exec = Jvm.exec) (hb : c.code = cc) (hdg : decode cc pc = .ok (.iadd, 1)) (k : W p l e R s m args below meth c H locs cells slots Q (F0 m (pc + 1) ls (.int (zi (a + b)) :: rest))) : W p l e R s m args below meth c H locs cells slots Q (F0 m pc ls (.int (zi b) :: .int (zi a) :: rest)) := lv_iadd hexec hb hdg (by rw [zi_add]; exact k)
theorem z_isub (hexec : p.tables.exec = Jvm.exec) (hb : c.code = cc) (hdg : decode cc pc = .ok (.isub, 1)) (k : W p l e R s m args below meth c H locs cells slots Q (F0 m (pc + 1) ls (.int (zi (a - b)) :: rest))) : W p l e R s m args below meth c H locs cells slots Q (F0 m pc ls (.int (zi b) :: .int (zi a) :: rest)) := lv_isub hexec hb hdg (by rw [zi_sub]; exact k)
theorem z_imul (hexec : p.tables.exec = Jvm.exec) (hb : c.code = cc) (hdg : decode cc pc = .ok (.imul, 1)) (k : W p l e R s m args below meth c H locs cells slots Q (F0 m (pc + 1) ls (.int (zi (a * b)) :: rest))) : W p l e R s m args below meth c H locs cells slots Q (F0 m pc ls (.int (zi b) :: .int (zi a) :: rest)) := lv_imul hexec hb hdg (by rw [zi_mul]; exact k)
theorem z_ineg (hexec : p.tables.exec = Jvm.exec) (hb : c.code = cc) (hdg : decode cc pc = .ok (.ineg, 1)) (k : W p l e R s m args below meth c H locs cells slots Q (F0 m (pc + 1) ls (.int (zi (-a)) :: rest))) : W p l e R s m args below meth c H locs cells slots Q (F0 m pc ls (.int (zi a) :: rest)) := lv_ineg hexec hb hdg (by rw [zi_neg]; exact k)
theorem z_idiv (hexec : p.tables.exec = Jvm.exec) (hb : c.code = cc) (hdg : decode cc pc = .ok (.idiv, 1)) (h : 0 ≤ a ∧ a ≤ 2147483647 ∧ 0 < b ∧ b ≤ 2147483647) (k : W p l e R s m args below meth c H locs cells slots Q (F0 m (pc + 1) ls (.int (zi (a / b)) :: rest))) : W p l e R s m args below meth c H locs cells slots Q (F0 m pc ls (.int (zi b) :: .int (zi a) :: rest)) := lv_idiv hexec hb hdg (zi_ne0 (by omega)) (by rw [zi_div h]; exact k)
theorem z_irem (hexec : p.tables.exec = Jvm.exec) (hb : c.code = cc) (hdg : decode cc pc = .ok (.irem, 1)) (h : 0 ≤ a ∧ a ≤ 2147483647 ∧ 0 < b ∧ b ≤ 2147483647) (k : W p l e R s m args below meth c H locs cells slots Q (F0 m (pc + 1) ls (.int (zi (a % b)) :: rest))) : W p l e R s m args below meth c H locs cells slots Q (F0 m pc ls (.int (zi b) :: .int (zi a) :: rest)) := lv_irem hexec hb hdg (zi_ne0 (by omega)) (by rw [zi_rem h]; exact k)
theorem z_idivA (hexec : p.tables.exec = Jvm.exec) (hb : c.code = cc) (hdg : decode cc pc = .ok (.idiv, 1)) (h : a ≤ 2147483647 ∧ 0 < b ∧ b ≤ 2147483647) (k : ∀ r : Int, (-2147483648 ≤ r ∧ r ≤ 2147483647) → (0 ≤ a → r = a / b) → W p l e R s m args below meth c H locs cells slots Q (F0 m (pc + 1) ls (.int (zi r) :: rest))) : W p l e R s m args below meth c H locs cells slots Q (F0 m pc ls (.int (zi b) :: .int (zi a) :: rest)) := by
  refine lv_idiv hexec hb hdg (zi_ne0 (by omega)) ?_
  by_cases h0 : 0 ≤ a
  · rw [zi_div ⟨h0, h⟩]
    refine k _ ?_ (fun _ => rfl)
    have q1 := Int.ediv_nonneg h0 (Int.le_of_lt h.2.1)
    have q2 := Int.ediv_le_self b h0
    have q3 := Int.emod_nonneg a (Int.ne_of_gt h.2.1)
    have q4 := Int.emod_lt_of_pos a h.2.1
    omega
  · obtain ⟨r, hr, e⟩ := zi_ex (zi a / zi b)
    rw [e]
    exact k r hr (fun z => absurd z h0)
theorem z_iremA (hexec : p.tables.exec = Jvm.exec) (hb : c.code = cc) (hdg : decode cc pc = .ok (.irem, 1)) (h : a ≤ 2147483647 ∧ 0 < b ∧ b ≤ 2147483647) (k : ∀ r : Int, (-2147483648 ≤ r ∧ r ≤ 2147483647) → (0 ≤ a → r = a % b) → W p l e R s m args below meth c H locs cells slots Q (F0 m (pc + 1) ls (.int (zi r) :: rest))) : W p l e R s m args below meth c H locs cells slots Q (F0 m pc ls (.int (zi b) :: .int (zi a) :: rest)) := by
  refine lv_irem hexec hb hdg (zi_ne0 (by omega)) ?_
  by_cases h0 : 0 ≤ a
  · rw [zi_rem ⟨h0, h⟩]
    refine k _ ?_ (fun _ => rfl)
    have q1 := Int.ediv_nonneg h0 (Int.le_of_lt h.2.1)
    have q2 := Int.ediv_le_self b h0
    have q3 := Int.emod_nonneg a (Int.ne_of_gt h.2.1)
    have q4 := Int.emod_lt_of_pos a h.2.1
    omega
  · obtain ⟨r, hr, e⟩ := zi_ex (zi a - zi a / zi b * zi b)
    rw [e]
    exact k r hr (fun z => absurd z h0)
theorem z_icmp_lt (hexec : p.tables.exec = Jvm.exec) (hb : c.code = cc) {off : Int} {tgt : Nat} (hdg : decode cc pc = .ok (.if_icmp .lt off, 3)) (ht : (pc : Int) + off = (tgt : Int)) (h : -2147483648 ≤ a ∧ a ≤ 2147483647 ∧ -2147483648 ≤ b ∧ b ≤ 2147483647) (kt : a < b → W p l e R s m args below meth c H locs cells slots Q (F0 m tgt ls rest)) (kf : ¬ (a < b) → W p l e R s m args below meth c H locs cells slots Q (F0 m (pc + 3) ls rest)) : W p l e R s m args below meth c H locs cells slots Q (F0 m pc ls (.int (zi b) :: .int (zi a) :: rest)) := by
  refine lv_icmp_lt (tgt := tgt) hexec hb hdg ht (fun q => kt ?_) (fun q => kf ?_)
  · first | exact (zi_lt (by omega)).mp q | exact fun z => q ((zi_lt (by omega)).mpr z)
  · first | exact (zi_lt (by omega)).mp q | exact fun z => q ((zi_lt (by omega)).mpr z) | exact fun z => z ((zi_lt (by omega)).mp (Decidable.of_not_not q)) | exact fun z => q fun y => z ((zi_lt (by omega)).mp y)
theorem z_if_lt (hexec : p.tables.exec = Jvm.exec) (hb : c.code = cc) {off : Int} {tgt : Nat} (hdg : decode cc pc = .ok (.ifCond .lt off, 3)) (ht : (pc : Int) + off = (tgt : Int)) (h : -2147483648 ≤ a ∧ a ≤ 2147483647) (kt : a < 0 → W p l e R s m args below meth c H locs cells slots Q (F0 m tgt ls rest)) (kf : ¬ (a < 0) → W p l e R s m args below meth c H locs cells slots Q (F0 m (pc + 3) ls rest)) : W p l e R s m args below meth c H locs cells slots Q (F0 m pc ls (.int (zi a) :: rest)) := by
  refine lv_if_lt (tgt := tgt) hexec hb hdg ht (fun q => kt ?_) (fun q => kf ?_)
  · rw [← zi_0] at q
    first | exact (zi_lt (by omega)).mp q | exact fun z => q ((zi_lt (by omega)).mpr z)
  · rw [← zi_0] at q
    first | exact (zi_lt (by omega)).mp q | exact fun z => q ((zi_lt (by omega)).mpr z) | exact fun z => z ((zi_lt (by omega)).mp (Decidable.of_not_not q)) | exact fun z => q fun y => z ((zi_lt (by omega)).mp y)
theorem z_icmp_ge (hexec : p.tables.exec = Jvm.exec) (hb : c.code = cc) {off : Int} {tgt : Nat} (hdg : decode cc pc = .ok (.if_icmp .ge off, 3)) (ht : (pc : Int) + off = (tgt : Int)) (h : -2147483648 ≤ a ∧ a ≤ 2147483647 ∧ -2147483648 ≤ b ∧ b ≤ 2147483647) (kt : b ≤ a → W p l e R s m args below meth c H locs cells slots Q (F0 m tgt ls rest)) (kf : ¬ (b ≤ a) → W p l e R s m args below meth c H locs cells slots Q (F0 m (pc + 3) ls rest)) : W p l e R s m args below meth c H locs cells slots Q (F0 m pc ls (.int (zi b) :: .int (zi a) :: rest)) := by
  refine lv_icmp_ge (tgt := tgt) hexec hb hdg ht (fun q => kt ?_) (fun q => kf ?_)
  · first | exact (zi_le (by omega)).mp q | exact fun z => q ((zi_le (by omega)).mpr z)
  · first | exact (zi_le (by omega)).mp q | exact fun z => q ((zi_le (by omega)).mpr z) | exact fun z => z ((zi_le (by omega)).mp (Decidable.of_not_not q)) | exact fun z => q fun y => z ((zi_le (by omega)).mp y)
theorem z_if_ge (hexec : p.tables.exec = Jvm.exec) (hb : c.code = cc) {off : Int} {tgt : Nat} (hdg : decode cc pc = .ok (.ifCond .ge off, 3)) (ht : (pc : Int) + off = (tgt : Int)) (h : -2147483648 ≤ a ∧ a ≤ 2147483647) (kt : 0 ≤ a → W p l e R s m args below meth c H locs cells slots Q (F0 m tgt ls rest)) (kf : ¬ (0 ≤ a) → W p l e R s m args below meth c H locs cells slots Q (F0 m (pc + 3) ls rest)) : W p l e R s m args below meth c H locs cells slots Q (F0 m pc ls (.int (zi a) :: rest)) := by
  refine lv_if_ge (tgt := tgt) hexec hb hdg ht (fun q => kt ?_) (fun q => kf ?_)
  · rw [← zi_0] at q
    first | exact (zi_le (by omega)).mp q | exact fun z => q ((zi_le (by omega)).mpr z)
  · rw [← zi_0] at q
    first | exact (zi_le (by omega)).mp q | exact fun z => q ((zi_le (by omega)).mpr z) | exact fun z => z ((zi_le (by omega)).mp (Decidable.of_not_not q)) | exact fun z => q fun y => z ((zi_le (by omega)).mp y)
theorem z_icmp_gt (hexec : p.tables.exec = Jvm.exec) (hb : c.code = cc) {off : Int} {tgt : Nat} (hdg : decode cc pc = .ok (.if_icmp .gt off, 3)) (ht : (pc : Int) + off = (tgt : Int)) (h : -2147483648 ≤ a ∧ a ≤ 2147483647 ∧ -2147483648 ≤ b ∧ b ≤ 2147483647) (kt : b < a → W p l e R s m args below meth c H locs cells slots Q (F0 m tgt ls rest)) (kf : ¬ (b < a) → W p l e R s m args below meth c H locs cells slots Q (F0 m (pc + 3) ls rest)) : W p l e R s m args below meth c H locs cells slots Q (F0 m pc ls (.int (zi b) :: .int (zi a) :: rest)) := by
  refine lv_icmp_gt (tgt := tgt) hexec hb hdg ht (fun q => kt ?_) (fun q => kf ?_)
  · first | exact (zi_lt (by omega)).mp q | exact fun z => q ((zi_lt (by omega)).mpr z)
  · first | exact (zi_lt (by omega)).mp q | exact fun z => q ((zi_lt (by omega)).mpr z) | exact fun z => z ((zi_lt (by omega)).mp (Decidable.of_not_not q)) | exact fun z => q fun y => z ((zi_lt (by omega)).mp y)
theorem z_if_gt (hexec : p.tables.exec = Jvm.exec) (hb : c.code = cc) {off : Int} {tgt : Nat} (hdg : decode cc pc = .ok (.ifCond .gt off, 3)) (ht : (pc : Int) + off = (tgt : Int)) (h : -2147483648 ≤ a ∧ a ≤ 2147483647) (kt : 0 < a → W p l e R s m args below meth c H locs cells slots Q (F0 m tgt ls rest)) (kf : ¬ (0 < a) → W p l e R s m args below meth c H locs cells slots Q (F0 m (pc + 3) ls rest)) : W p l e R s m args below meth c H locs cells slots Q (F0 m pc ls (.int (zi a) :: rest)) := by
  refine lv_if_gt (tgt := tgt) hexec hb hdg ht (fun q => kt ?_) (fun q => kf ?_)
  · rw [← zi_0] at q
    first | exact (zi_lt (by omega)).mp q | exact fun z => q ((zi_lt (by omega)).mpr z)
  · rw [← zi_0] at q
    first | exact (zi_lt (by omega)).mp q | exact fun z => q ((zi_lt (by omega)).mpr z) | exact fun z => z ((zi_lt (by omega)).mp (Decidable.of_not_not q)) | exact fun z => q fun y => z ((zi_lt (by omega)).mp y)
theorem z_icmp_le (hexec : p.tables.exec = Jvm.exec) (hb : c.code = cc) {off : Int} {tgt : Nat} (hdg : decode cc pc = .ok (.if_icmp .le off, 3)) (ht : (pc : Int) + off = (tgt : Int)) (h : -2147483648 ≤ a ∧ a ≤ 2147483647 ∧ -2147483648 ≤ b ∧ b ≤ 2147483647) (kt : a ≤ b → W p l e R s m args below meth c H locs cells slots Q (F0 m tgt ls rest)) (kf : ¬ (a ≤ b) → W p l e R s m args below meth c H locs cells slots Q (F0 m (pc + 3) ls rest)) : W p l e R s m args below meth c H locs cells slots Q (F0 m pc ls (.int (zi b) :: .int (zi a) :: rest)) := by
  refine lv_icmp_le (tgt := tgt) hexec hb hdg ht (fun q => kt ?_) (fun q => kf ?_)
  · first | exact (zi_le (by omega)).mp q | exact fun z => q ((zi_le (by omega)).mpr z)
  · first | exact (zi_le (by omega)).mp q | exact fun z => q ((zi_le (by omega)).mpr z) | exact fun z => z ((zi_le (by omega)).mp (Decidable.of_not_not q)) | exact fun z => q fun y => z ((zi_le (by omega)).mp y)
theorem z_if_le (hexec : p.tables.exec = Jvm.exec) (hb : c.code = cc) {off : Int} {tgt : Nat} (hdg : decode cc pc = .ok (.ifCond .le off, 3)) (ht : (pc : Int) + off = (tgt : Int)) (h : -2147483648 ≤ a ∧ a ≤ 2147483647) (kt : a ≤ 0 → W p l e R s m args below meth c H locs cells slots Q (F0 m tgt ls rest)) (kf : ¬ (a ≤ 0) → W p l e R s m args below meth c H locs cells slots Q (F0 m (pc + 3) ls rest)) : W p l e R s m args below meth c H locs cells slots Q (F0 m pc ls (.int (zi a) :: rest)) := by
  refine lv_if_le (tgt := tgt) hexec hb hdg ht (fun q => kt ?_) (fun q => kf ?_)
  · rw [← zi_0] at q
    first | exact (zi_le (by omega)).mp q | exact fun z => q ((zi_le (by omega)).mpr z)
  · rw [← zi_0] at q
    first | exact (zi_le (by omega)).mp q | exact fun z => q ((zi_le (by omega)).mpr z) | exact fun z => z ((zi_le (by omega)).mp (Decidable.of_not_not q)) | exact fun z => q fun y => z ((zi_le (by omega)).mp y)
theorem z_icmp_eq (hexec : p.tables.exec = Jvm.exec) (hb : c.code = cc) {off : Int} {tgt : Nat} (hdg : decode cc pc = .ok (.if_icmp .eq off, 3)) (ht : (pc : Int) + off = (tgt : Int)) (h : -2147483648 ≤ a ∧ a ≤ 2147483647 ∧ -2147483648 ≤ b ∧ b ≤ 2147483647) (kt : a = b → W p l e R s m args below meth c H locs cells slots Q (F0 m tgt ls rest)) (kf : ¬ (a = b) → W p l e R s m args below meth c H locs cells slots Q (F0 m (pc + 3) ls rest)) : W p l e R s m args below meth c H locs cells slots Q (F0 m pc ls (.int (zi b) :: .int (zi a) :: rest)) := by
  refine lv_icmp_eq (tgt := tgt) hexec hb hdg ht (fun q => kt ?_) (fun q => kf ?_)
  · first | exact (zi_eq (by omega)).mp q | exact fun z => q ((zi_eq (by omega)).mpr z)
  · first | exact (zi_eq (by omega)).mp q | exact fun z => q ((zi_eq (by omega)).mpr z) | exact fun z => z ((zi_eq (by omega)).mp (Decidable.of_not_not q)) | exact fun z => q fun y => z ((zi_eq (by omega)).mp y)
theorem z_if_eq (hexec : p.tables.exec = Jvm.exec) (hb : c.code = cc) {off : Int} {tgt : Nat} (hdg : decode cc pc = .ok (.ifCond .eq off, 3)) (ht : (pc : Int) + off = (tgt : Int)) (h : -2147483648 ≤ a ∧ a ≤ 2147483647) (kt : a = 0 → W p l e R s m args below meth c H locs cells slots Q (F0 m tgt ls rest)) (kf : ¬ (a = 0) → W p l e R s m args below meth c H locs cells slots Q (F0 m (pc + 3) ls rest)) : W p l e R s m args below meth c H locs cells slots Q (F0 m pc ls (.int (zi a) :: rest)) := by
  refine lv_if_eq (tgt := tgt) hexec hb hdg ht (fun q => kt ?_) (fun q => kf ?_)
  · rw [← zi_0] at q
    first | exact (zi_eq (by omega)).mp q | exact fun z => q ((zi_eq (by omega)).mpr z)
  · rw [← zi_0] at q
    first | exact (zi_eq (by omega)).mp q | exact fun z => q ((zi_eq (by omega)).mpr z) | exact fun z => z ((zi_eq (by omega)).mp (Decidable.of_not_not q)) | exact fun z => q fun y => z ((zi_eq (by omega)).mp y)
theorem z_icmp_ne (hexec : p.tables.exec = Jvm.exec) (hb : c.code = cc) {off : Int} {tgt : Nat} (hdg : decode cc pc = .ok (.if_icmp .ne off, 3)) (ht : (pc : Int) + off = (tgt : Int)) (h : -2147483648 ≤ a ∧ a ≤ 2147483647 ∧ -2147483648 ≤ b ∧ b ≤ 2147483647) (kt : ¬ a = b → W p l e R s m args below meth c H locs cells slots Q (F0 m tgt ls rest)) (kf : a = b → W p l e R s m args below meth c H locs cells slots Q (F0 m (pc + 3) ls rest)) : W p l e R s m args below meth c H locs cells slots Q (F0 m pc ls (.int (zi b) :: .int (zi a) :: rest)) := by
  refine lv_icmp_ne (tgt := tgt) hexec hb hdg ht (fun q => kt ?_) (fun q => kf ?_)
  · first | exact (zi_eq (by omega)).mp q | exact fun z => q ((zi_eq (by omega)).mpr z)
  · first | exact (zi_eq (by omega)).mp q | exact fun z => q ((zi_eq (by omega)).mpr z) | exact fun z => z ((zi_eq (by omega)).mp (Decidable.of_not_not q)) | exact fun z => q fun y => z ((zi_eq (by omega)).mp y)
theorem z_if_ne (hexec : p.tables.exec = Jvm.exec) (hb : c.code = cc) {off : Int} {tgt : Nat} (hdg : decode cc pc = .ok (.ifCond .ne off, 3)) (ht : (pc : Int) + off = (tgt : Int)) (h : -2147483648 ≤ a ∧ a ≤ 2147483647) (kt : ¬ a = 0 → W p l e R s m args below meth c H locs cells slots Q (F0 m tgt ls rest)) (kf : a = 0 → W p l e R s m args below meth c H locs cells slots Q (F0 m (pc + 3) ls rest)) : W p l e R s m args below meth c H locs cells slots Q (F0 m pc ls (.int (zi a) :: rest)) := by
  refine lv_if_ne (tgt := tgt) hexec hb hdg ht (fun q => kt ?_) (fun q => kf ?_)
  · rw [← zi_0] at q
    first | exact (zi_eq (by omega)).mp q | exact fun z => q ((zi_eq (by omega)).mpr z)
  · rw [← zi_0] at q
    first | exact (zi_eq (by omega)).mp q | exact fun z => q ((zi_eq (by omega)).mpr z) | exact fun z => z ((zi_eq (by omega)).mp (Decidable.of_not_not q)) | exact fun z => q fun y => z ((zi_eq (by omega)).mp y)
theorem z_iinc (hexec : p.tables.exec = Jvm.exec) (hb : c.code = cc) {i nL k : Nat} {n : Int} {lv lv' : List (Nat × Value)} (hdg : decode cc pc = .ok (.iinc i n, 3)) (h : lv_has ls nL lv) (hk : lv[k]? = some (i, .int (zi a))) (hn : i < nL) (hl : (i, Value.int (zi (a + n))) :: lv.filter (fun q => !(q.1 == i) && !(q.1 + 1 == i && q.2.category == 2)) = lv')
    (kk : ∀ ls' : Array Slot, lv_has ls' nL lv' → W p l e R s m args below meth c H locs cells slots Q (F0 m (pc + 3) ls' rest)) : W p l e R s m args below meth c H locs cells slots Q (F0 m pc ls rest) := lv_iinc hexec hb hdg h hk (zi_add a n) hn hl kk
end ZN

