/-! Weather: sixteen hours of four bits in a long -/
theorem zu_self {w : zW} {a : Nat} {e : va_E} (h : w a = some e) : zu w a e = w := by
  funext q
  unfold zu
  by_cases hq : q = a
  · rw [if_pos hq, hq, h]
  · rw [if_neg hq]
theorem zne {w : zW} {a b : Nat} {e1 e2 : va_E} (h1 : w a = some e1) (h2 : w b = some e2) (h : e1 ≠ e2) : a ≠ b := by
  intro z
  rw [z, h2] at h1
  cases h1
  exact h rfl
def zni (x : Int64) (k : Nat) : Nat := (x.toBitVec.toNat >>> (4 * k)) % 16
theorem zni_bit (x : Int64) (k i : Nat) : (zni x k).testBit i = (decide (i < 4) && x.toBitVec.getLsbD (4 * k + i)) := by
  unfold zni
  rw [show (16 : Nat) = 2 ^ 4 from rfl, Nat.testBit_mod_two_pow, Nat.testBit_shiftRight]
  rfl
theorem zni_lt (x : Int64) (k : Nat) : zni x k < 16 := Nat.mod_lt _ (by decide)
theorem zni_sh : ∀ n : Nat, n < 16 → ((zi (4 * (n : Int))).toInt64.toUInt64 &&& Int64.toUInt64 63).toBitVec.toNat % 64 = 4 * n := by decide
theorem zni_at (x : Int64) {h : Int} (h0 : 0 ≤ h ∧ h < 16) : ((x.toUInt64 >>> ((zi (4 * h)).toInt64.toUInt64 &&& Int64.toUInt64 63)).toInt64).toInt32 &&& zi 15 = zi (zni x h.toNat) := by
  obtain ⟨n, rfl⟩ : ∃ n : Nat, h = n := ⟨h.toNat, by omega⟩
  have hn : n < 16 := by omega
  have hs := zni_sh n hn
  generalize ((zi (4 * (n : Int))).toInt64.toUInt64 &&& Int64.toUInt64 63) = sh at hs
  rw [pk_and _ 4 (by decide), zi_nI]
  congr 2
  rw [Int64.toBitVec_toInt32, BitVec.signExtend_eq_setWidth_of_le _ (by decide), BitVec.toNat_setWidth]
  have e1 : ((x.toUInt64 >>> sh).toInt64).toBitVec.toNat = x.toBitVec.toNat >>> (sh.toBitVec.toNat % 64) := UInt64.toNat_shiftRight x.toUInt64 sh
  rw [e1, hs]
  unfold zni
  rw [show ((n : Int)).toNat = n from rfl]
  omega
theorem zni_mix (w m s : Int64) {k : Nat} (hk : k < 16) : (zni m k = 15 → zni ((w &&& (m ^^^ (-1))) ||| (s &&& m)) k = zni s k) ∧ (zni m k = 0 → zni ((w &&& (m ^^^ (-1))) ||| (s &&& m)) k = zni w k) := by
  have e1 : ((w &&& (m ^^^ (-1))) ||| (s &&& m)).toBitVec = ((w.toBitVec &&& (m.toBitVec ^^^ BitVec.allOnes 64)) ||| (s.toBitVec &&& m.toBitVec)) := rfl
  constructor
  · intro h
    refine Nat.eq_of_testBit_eq fun i => ?_
    rw [zni_bit, zni_bit, e1]
    by_cases hi : i < 4
    · have hb := zni_bit m k i
      rw [h] at hb
      have h15 : (15 : Nat).testBit i = true := by
        have : ∀ i, i < 4 → (15 : Nat).testBit i = true := by decide
        exact this i hi
      rw [h15, decide_eq_true hi, Bool.true_and] at hb
      have h64 : 4 * k + i < 64 := by omega
      rw [BitVec.getLsbD_or, BitVec.getLsbD_and, BitVec.getLsbD_and, BitVec.getLsbD_xor, BitVec.getLsbD_allOnes, ← hb, decide_eq_true h64]
      simp
    · simp [hi]
  · intro h
    refine Nat.eq_of_testBit_eq fun i => ?_
    rw [zni_bit, zni_bit, e1]
    by_cases hi : i < 4
    · have hb := zni_bit m k i
      rw [h, Nat.zero_testBit, decide_eq_true hi, Bool.true_and] at hb
      have h64 : 4 * k + i < 64 := by omega
      rw [BitVec.getLsbD_or, BitVec.getLsbD_and, BitVec.getLsbD_and, BitVec.getLsbD_xor, BitVec.getLsbD_allOnes, ← hb, decide_eq_true h64]
      simp
    · simp [hi]
/-- the mask of the hours a to b -/
def zmv (a b : Int) : Int64 := ((-1 : Int64) <<< ((zi (4 * a)).toInt64 &&& 63)) &&& (((-1 : Int64).toUInt64 >>> ((zi (4 * (15 - b))).toInt64.toUInt64 &&& Int64.toUInt64 63)).toInt64)
theorem zmv_k : ∀ a : Nat, a < 16 → ∀ b : Nat, b < 16 → ∀ k : Nat, k < 16 → zni (zmv (a : Int) (b : Int)) k = if a ≤ k ∧ k ≤ b then 15 else 0 := by decide +kernel
def zst (st : Int) : Int64 := (zi st).toInt64 * 1229782938247303441
theorem zst_k : ∀ a : Nat, a < 10 → ∀ k : Nat, k < 16 → zni (zst (a : Int)) k = a := by decide +kernel
/-- a weather's words behind a put -/
theorem zput_step {W1 : Nat → Int64} {a b st : Int} (ha : 0 ≤ a ∧ a < 16) (hb : 0 ≤ b ∧ b < 16) (hs : 0 ≤ st ∧ st ≤ 9) (i : Nat) (j k : Nat) (hk : k < 16) : zni (vp_updL W1 i ((W1 i &&& (zmv a b ^^^ (-1))) ||| (zst st &&& zmv a b)) j) k = if j = i ∧ a ≤ k ∧ k ≤ b then st.toNat else zni (W1 j) k := by
  unfold vp_updL
  by_cases hj : j = i
  · rw [if_pos hj]
    have hm := zmv_k a.toNat (by omega) b.toNat (by omega) k hk
    have hst := zst_k st.toNat (by omega) k hk
    rw [show ((a.toNat : Nat) : Int) = a by omega, show ((b.toNat : Nat) : Int) = b by omega] at hm
    rw [show ((st.toNat : Nat) : Int) = st by omega] at hst
    by_cases hc : a ≤ k ∧ k ≤ b
    · rw [if_pos ⟨hj, hc⟩]
      rw [if_pos (by omega)] at hm
      rw [(zni_mix (W1 i) (zmv a b) (zst st) hk).1 hm, hst]
    · rw [if_neg (fun z => hc z.2)]
      rw [if_neg (by omega)] at hm
      rw [(zni_mix (W1 i) (zmv a b) (zst st) hk).2 hm, hj]
  · rw [if_neg hj, if_neg (fun z => hj z.1)]
/-- the greatest of n numbers from lo on, at least 0 -/
def zmax (f : Int → Int) (lo : Int) : Nat → Int
  | 0 => 0
  | n + 1 => max (zmax f lo n) (f (lo + n))
theorem zmax_ge {f : Int → Int} {lo : Int} (n : Nat) : 0 ≤ zmax f lo n := by
  induction n with
  | zero => exact Int.le_refl 0
  | succ n ih => unfold zmax; omega
theorem zmax_le {f : Int → Int} {lo M : Int} (hM : 0 ≤ M) (n : Nat) (h : ∀ i : Nat, i < n → f (lo + i) ≤ M) : zmax f lo n ≤ M := by
  induction n with
  | zero => exact hM
  | succ n ih =>
    have h1 := ih (fun i hi => h i (by omega))
    have h2 := h n (by omega)
    unfold zmax; omega
set_option maxHeartbeats 4000000 in
set_option maxRecDepth 100000 in
theorem c_X4_maskOf (l : Launch) {S : State} {D : va_G} {tc : Nat → ClassId} {A : Nat → Prop} {dz : Nat} (hZ : zB S D tc A dz) {P : Heap → Prop} {a b : Int} (h0 : 0 ≤ a ∧ a ≤ 15 ∧ 0 ≤ b ∧ b ≤ 15) : zM l S A yX4_maskOf cX4_maskOf 6 (Option.some Jvm.ClassFile.FieldType.long) { frames := 1, locals := 20, cells := 0, slots := 0 } [.int (zi (a)), .int (zi (b))] (P) (fun v H => v = some (.long (zmv a b)) ∧ P H) := by
  refine zM.mk (by decide +kernel) (Nat.le_of_ble_eq_true rfl) ?_
  intro p e s m below meth c ls X0 hR hl
  obtain ⟨hx, hb, hml, hr, hlocks, hown, hnm, hW, hpre, hA⟩ := X0
  have X : zH S A p s m c cX4_maskOf 6 RX4 := ⟨hx, hb, hml, hown, hW, hpre, hA, hZ.2.2.1⟩
  have hT := hZ.1
  have hK := va_K.moved hW.alike hZ.2.1
  have hS : va_S A s.heap s.heap [] := va_S.rf
  have hl : lv_has ls 6 [(0, .int (zi (a))), (1, .int (zi (b)))] := hl
  skip
  refine lv_ldc2 (v := -1) hx hb hown (q_406 hT hW) dX4_maskOf_0 ?_
  refine lv_iconst (v := zi (4)) hx hb dX4_maskOf_3 rfl ?_
  refine lv_iload_n hx hb dX4_maskOf_4 rfl (lv_at hl 0 rfl) ?_
  refine z_imul (a := 4) (b := a) hx hb dX4_maskOf_5 ?_
  refine lv_lshl hx hb dX4_maskOf_6 rfl ?_
  refine lv_lstore_n (lv' := [(2, .long (((-1 : Int64) <<< ((zi ((4 * a))).toInt64 &&& 63)))), (0, .int (zi (a))), (1, .int (zi (b)))]) hx hb dX4_maskOf_7 rfl hl (by decide) rfl (fun ls hl => ?_)
  refine lv_ldc2 (v := -1) hx hb hown (q_406 hT hW) dX4_maskOf_8 ?_
  refine lv_iconst (v := zi (4)) hx hb dX4_maskOf_11 rfl ?_
  refine lv_bipush (v := zi (15)) hx hb dX4_maskOf_12 rfl ?_
  refine lv_iload_n hx hb dX4_maskOf_14 rfl (lv_at hl 2 rfl) ?_
  refine z_isub (a := 15) (b := b) hx hb dX4_maskOf_15 ?_
  refine z_imul (a := 4) (b := (15 - b)) hx hb dX4_maskOf_16 ?_
  refine lv_lushr hx hb dX4_maskOf_17 rfl ?_
  refine lv_lstore (lv' := [(4, .long ((((-1 : Int64)).toUInt64 >>> ((zi ((4 * (15 - b)))).toInt64.toUInt64 &&& Int64.toUInt64 63)).toInt64)), (2, .long (((-1 : Int64) <<< ((zi ((4 * a))).toInt64 &&& 63)))), (0, .int (zi (a))), (1, .int (zi (b)))]) hx hb dX4_maskOf_18 hl (by decide) rfl (fun ls hl => ?_)
  refine lv_lload_n hx hb dX4_maskOf_20 rfl (lv_at hl 1 rfl) ?_
  refine lv_lload hx hb dX4_maskOf_21 (lv_at hl 0 rfl) ?_
  refine lv_land hx hb dX4_maskOf_23 ?_
  exact z_lret hx hb hr hlocks hS (by decide) (by decide) dX4_maskOf_24 ⟨rfl, hR⟩
set_option maxHeartbeats 4000000 in
set_option maxRecDepth 100000 in
theorem c_X4_at (l : Launch) {S : State} {D : va_G} {tc : Nat → ClassId} {A : Nat → Prop} {dz : Nat} (hZ : zB S D tc A dz) {w : zW} {b wa : Nat} {Wd : Nat → Int64} (hb0 : w b = some (.inr (5, [.ref wa]))) (hwa : w wa = some (.inl (tc 2, 3024, .inr (.inl Wd)))) {n h : Int} (h0 : 0 ≤ n ∧ n ≤ 47 ∧ 0 ≤ h ∧ h ≤ 1007) : zM l S A yX4_at cX4_at 4 (Option.some Jvm.ClassFile.FieldType.int) { frames := 1, locals := 20, cells := 0, slots := 0 } [.ref (b), .int (zi (n)), .int (zi (h))] (zR D A w) (fun v H => v = some (.int (zi (zni (Wd (n * 63 + h / 16).toNat) (h % 16).toNat))) ∧ zR D A w H) := by
  refine zM.mk (by decide +kernel) (Nat.le_of_ble_eq_true rfl) ?_
  intro p e s m below meth c ls X0 hR hl
  obtain ⟨hx, hb, hml, hr, hlocks, hown, hnm, hW, hpre, hA⟩ := X0
  have X : zH S A p s m c cX4_at 4 RX4 := ⟨hx, hb, hml, hown, hW, hpre, hA, hZ.2.2.1⟩
  have hT := hZ.1
  have hK := va_K.moved hW.alike hZ.2.1
  have hS : va_S A s.heap s.heap [] := va_S.rf
  have hl : lv_has ls 4 [(0, .ref (b)), (1, .int (zi (n))), (2, .int (zi (h)))] := hl
  skip
  refine lv_iload_n hx hb dX4_at_0 rfl (lv_at hl 1 rfl) ?_
  refine lv_bipush (v := zi (63)) hx hb dX4_at_1 rfl ?_
  refine z_imul (a := n) (b := 63) hx hb dX4_at_3 ?_
  refine lv_iload_n hx hb dX4_at_4 rfl (lv_at hl 2 rfl) ?_
  refine lv_bipush (v := zi (16)) hx hb dX4_at_5 rfl ?_
  refine z_idiv (a := h) (b := 16) hx hb dX4_at_7 (by omega) ?_
  refine z_iadd (a := (n * 63)) (b := (h / 16)) hx hb dX4_at_8 ?_
  refine lv_istore_n (lv' := [(3, .int (zi (((n * 63) + (h / 16))))), (0, .ref (b)), (1, .int (zi (n))), (2, .int (zi (h)))]) hx hb dX4_at_9 rfl hl (by decide) rfl (fun ls hl => ?_)
  refine lv_iload_n hx hb dX4_at_10 rfl (lv_at hl 0 rfl) ?_
  refine z_if_lt (a := ((n * 63) + (h / 16))) (tgt := 23) hx hb dX4_at_11 (by decide) (by omega) (fun h_11 => ?_) (fun h_11 => ?_)
  · skip
    exact absurd h_11 (by omega)
  · skip
    refine lv_iload_n hx hb dX4_at_14 rfl (lv_at hl 0 rfl) ?_
    refine lv_aload_n hx hb dX4_at_15 rfl (lv_at hl 1 rfl) ?_
    refine z_get hx hb (q_wsX4 hT hW) hown hK hR hb0 rfl 0 (by decide) (q_36 hT hW) (fun _ h => h) rfl dX4_at_16 ?_
    refine z_alen hx hb hK hR 2 hwa rfl dX4_at_19 ?_
    refine z_icmp_lt (a := ((n * 63) + (h / 16))) (b := 3024) (tgt := 25) hx hb dX4_at_20 (by decide) (by omega) (fun h_20 => ?_) (fun h_20 => ?_)
    · skip
      refine lv_aload_n hx hb dX4_at_25 rfl (lv_at hl 1 rfl) ?_
      refine z_get hx hb (q_wsX4 hT hW) hown hK hR hb0 rfl 0 (by decide) (q_36 hT hW) (fun _ h => h) rfl dX4_at_26 ?_
      refine lv_iload_n hx hb dX4_at_29 rfl (lv_at hl 0 rfl) ?_
      refine z_lald (i := ((n * 63) + (h / 16))) hx hb hK hR 2 hwa rfl (by omega) dX4_at_30 ?_
      refine lv_iconst (v := zi (4)) hx hb dX4_at_31 rfl ?_
      refine lv_iload_n hx hb dX4_at_32 rfl (lv_at hl 3 rfl) ?_
      refine lv_bipush (v := zi (16)) hx hb dX4_at_33 rfl ?_
      refine z_irem (a := h) (b := 16) hx hb dX4_at_35 (by omega) ?_
      refine z_imul (a := 4) (b := (h % 16)) hx hb dX4_at_36 ?_
      refine lv_lushr hx hb dX4_at_37 rfl ?_
      refine lv_l2i hx hb dX4_at_38 rfl ?_
      refine lv_bipush (v := zi (15)) hx hb dX4_at_39 rfl ?_
      refine lv_iand hx hb dX4_at_41 ?_
      rw [zni_at _ (h := h % 16) (by omega)]
      exact z_iret hx hb hr hlocks hS (by decide) (by decide) dX4_at_42 ⟨rfl, hR⟩
    · skip
      exact absurd h_20 (by omega)
set_option maxHeartbeats 4000000 in
set_option maxRecDepth 100000 in
theorem c_X4_put (l : Launch) {S : State} {D : va_G} {tc : Nat → ClassId} {A : Nat → Prop} {dz : Nat} (hZ : zB S D tc A dz) {w : zW} {b wa : Nat} {Wd : Nat → Int64} (hb0 : w b = some (.inr (5, [.ref wa]))) (hwa : w wa = some (.inl (tc 2, 3024, .inr (.inl Wd)))) {n a z st : Int} (h0 : 0 ≤ n ∧ n ≤ 47 ∧ 0 ≤ a ∧ a ≤ z ∧ z ≤ 999 ∧ 0 ≤ st ∧ st ≤ 9) : zM l S A yX4_put cX4_put 12 (Option.none : Option Jvm.ClassFile.FieldType) { frames := 2, locals := 60, cells := 0, slots := 0 } [.ref (b), .int (zi (n)), .int (zi (a)), .int (zi (z)), .int (zi (st))] (zR D A w) (fun v H => v = none ∧ ∃ W1 : Nat → Int64, (∀ j : Nat, j < 3024 → ∀ k : Nat, k < 16 → (zni (W1 j) k : Int) = if (j : Int) / 63 = n ∧ a ≤ 16 * ((j : Int) % 63) + k ∧ 16 * ((j : Int) % 63) + k ≤ z then st else zni (Wd j) k) ∧ zR D A (zu w wa (.inl (tc 2, 3024, .inr (.inl W1)))) H) := by
  refine zM.mk (by decide +kernel) (Nat.le_of_ble_eq_true rfl) ?_
  intro p e s m below meth c ls X0 hR hl
  obtain ⟨hx, hb, hml, hr, hlocks, hown, hnm, hW, hpre, hA⟩ := X0
  have X : zH S A p s m c cX4_put 12 RX4 := ⟨hx, hb, hml, hown, hW, hpre, hA, hZ.2.2.1⟩
  have hT := hZ.1
  have hK := va_K.moved hW.alike hZ.2.1
  have hS : va_S A s.heap s.heap [] := va_S.rf
  have hl : lv_has ls 12 [(0, .ref (b)), (1, .int (zi (n))), (2, .int (zi (a))), (3, .int (zi (z))), (4, .int (zi (st)))] := hl
  skip
  refine lv_iload hx hb dX4_put_0 (lv_at hl 4 rfl) ?_
  refine lv_i2l hx hb dX4_put_2 rfl ?_
  refine lv_ldc2 (v := 1229782938247303441) hx hb hown (q_400 hT hW) dX4_put_3 ?_
  refine lv_lmul hx hb dX4_put_6 ?_
  refine lv_lstore (lv' := [(5, .long (((zi (st)).toInt64 * (1229782938247303441 : Int64)))), (0, .ref (b)), (1, .int (zi (n))), (2, .int (zi (a))), (3, .int (zi (z))), (4, .int (zi (st)))]) hx hb dX4_put_7 hl (by decide) rfl (fun ls hl => ?_)
  refine lv_iload_n hx hb dX4_put_9 rfl (lv_at hl 3 rfl) ?_
  refine lv_bipush (v := zi (16)) hx hb dX4_put_10 rfl ?_
  refine z_idiv (a := a) (b := 16) hx hb dX4_put_12 (by omega) ?_
  refine lv_istore (lv' := [(7, .int (zi ((a / 16)))), (5, .long (((zi (st)).toInt64 * (1229782938247303441 : Int64)))), (0, .ref (b)), (1, .int (zi (n))), (2, .int (zi (a))), (3, .int (zi (z))), (4, .int (zi (st)))]) hx hb dX4_put_13 hl (by decide) rfl (fun ls hl => ?_)
  suffices K : ∀ (fu : Nat) (wd : Int) (W1 : Nat → Int64) (H : Heap) (locs : List Loc) (ls : Array Slot), (z / 16 + 1 - wd).toNat < fu → (a / 16 ≤ wd ∧ wd ≤ z / 16 + 1) → (∀ j : Nat, j < 3024 → ∀ k : Nat, k < 16 → (zni (W1 j) k : Int) = if (j : Int) / 63 = n ∧ a ≤ 16 * ((j : Int) % 63) + k ∧ 16 * ((j : Int) % 63) + k ≤ z ∧ (j : Int) % 63 < wd then st else zni (Wd j) k) → zR D A (zu w wa (.inl (tc 2, 3024, .inr (.inl W1)))) H → va_S A s.heap H locs → lv_has ls 12 [(7, .int (zi (wd))), (5, .long (zst st)), (0, .ref (b)), (1, .int (zi (n))), (2, .int (zi (a))), (3, .int (zi (z))), (4, .int (zi (st)))] → W p l e { frames := 2, locals := 60, cells := 0, slots := 0 } s m ([.ref (b), .int (zi (n)), .int (zi (a)), .int (zi (z)), .int (zi (st))] : List Value).toArray below meth c H locs 0 0 (MQ below (zQ A (fun v H => v = none ∧ ∃ W1 : Nat → Int64, (∀ j : Nat, j < 3024 → ∀ k : Nat, k < 16 → (zni (W1 j) k : Int) = if (j : Int) / 63 = n ∧ a ≤ 16 * ((j : Int) % 63) + k ∧ 16 * ((j : Int) % 63) + k ≤ z then st else zni (Wd j) k) ∧ zR D A (zu w wa (.inl (tc 2, 3024, .inr (.inl W1)))) H)) ([.ref (b), .int (zi (n)), .int (zi (a)), .int (zi (z)), .int (zi (st))] : List Value).toArray s ({ frames := 2, locals := 60, cells := 0, slots := 0 } : Room).cells ({ frames := 2, locals := 60, cells := 0, slots := 0 } : Room).slots A) (F0 m 15 ls []) from K _ (a / 16) Wd _ _ _ (Nat.lt_succ_self _) (by omega) (fun j hj k hk => by rw [if_neg (by omega)]) (by rw [zu_self hwa]; exact hR) hS (lv_sub hl [0, 1, 2, 3, 4, 5, 6] rfl)
  intro fu
  induction fu with
  | zero => intro wd W1 H locs ls hm; exact absurd hm (Nat.not_lt_zero _)
  | succ fu ih =>
    intro wd W1 H locs ls hm hi hI hR hS hl
    have hne : b ≠ wa := zne hb0 hwa (by intro z; cases z)
    have hb1 : (zu w wa (.inl (tc 2, 3024, .inr (.inl W1)))) b = some (.inr (5, [.ref wa])) := (zu_ne hne).trans hb0
    have hw1 : (zu w wa (.inl (tc 2, 3024, .inr (.inl W1)))) wa = some (.inl (tc 2, 3024, .inr (.inl W1))) := zu_eq
    refine lv_iload hx hb dX4_put_15 (lv_at hl 0 rfl) ?_
    refine lv_iload_n hx hb dX4_put_17 rfl (lv_at hl 5 rfl) ?_
    refine lv_bipush (v := zi (16)) hx hb dX4_put_18 rfl ?_
    refine z_idiv (a := z) (b := 16) hx hb dX4_put_20 (by omega) ?_
    refine z_icmp_gt (a := wd) (b := (z / 16)) (tgt := 110) hx hb dX4_put_21 (by decide) (by omega) (fun h_21 => ?_) (fun h_21 => ?_)
    · skip
      exact z_vret hx hb hr hlocks hS (by decide) (by decide) dX4_put_110 ⟨rfl, W1, fun j hj k hk => by rw [hI j hj k hk]; congr 1; exact propext ⟨fun q => ⟨q.1, q.2.1, q.2.2.1⟩, fun q => ⟨q.1, q.2.1, q.2.2, by omega⟩⟩, hR⟩
    · skip
      refine lv_iload_n hx hb dX4_put_24 rfl (lv_at hl 3 rfl) ?_
      refine lv_bipush (v := zi (63)) hx hb dX4_put_25 rfl ?_
      refine z_imul (a := n) (b := 63) hx hb dX4_put_27 ?_
      refine lv_iload hx hb dX4_put_28 (lv_at hl 0 rfl) ?_
      refine z_iadd (a := (n * 63)) (b := wd) hx hb dX4_put_30 ?_
      refine lv_istore (lv' := [(8, .int (zi (((n * 63) + wd)))), (7, .int (zi (wd))), (5, .long (zst st)), (0, .ref (b)), (1, .int (zi (n))), (2, .int (zi (a))), (3, .int (zi (z))), (4, .int (zi (st)))]) hx hb dX4_put_31 hl (by decide) rfl (fun ls hl => ?_)
      refine lv_iload hx hb dX4_put_33 (lv_at hl 0 rfl) ?_
      refine z_if_lt (a := ((n * 63) + wd)) (tgt := 104) hx hb dX4_put_35 (by decide) (by omega) (fun h_35 => ?_) (fun h_35 => ?_)
      · skip
        exact absurd h_35 (by omega)
      · skip
        refine lv_iload hx hb dX4_put_38 (lv_at hl 0 rfl) ?_
        refine lv_aload_n hx hb dX4_put_40 rfl (lv_at hl 3 rfl) ?_
        refine z_get hx hb (q_wsX4 hT hW) hown hK hR hb1 rfl 0 (by decide) (q_36 hT hW) (fun _ h => h) rfl dX4_put_41 ?_
        refine z_alen hx hb hK hR 2 hw1 rfl dX4_put_44 ?_
        refine z_icmp_ge (a := ((n * 63) + wd)) (b := 3024) (tgt := 104) hx hb dX4_put_45 (by decide) (by omega) (fun h_45 => ?_) (fun h_45 => ?_)
        · skip
          exact absurd h_45 (by omega)
        · skip
          refine lv_iload hx hb dX4_put_48 (lv_at hl 1 rfl) ?_
          refine lv_bipush (v := zi (16)) hx hb dX4_put_50 rfl ?_
          refine z_imul (a := wd) (b := 16) hx hb dX4_put_52 ?_
          refine lv_istore (lv' := [(9, .int (zi ((wd * 16)))), (8, .int (zi (((n * 63) + wd)))), (7, .int (zi (wd))), (5, .long (zst st)), (0, .ref (b)), (1, .int (zi (n))), (2, .int (zi (a))), (3, .int (zi (z))), (4, .int (zi (st)))]) hx hb dX4_put_53 hl (by decide) rfl (fun ls hl => ?_)
          refine lv_iload_n hx hb dX4_put_55 rfl (lv_at hl 6 rfl) ?_
          refine lv_iload hx hb dX4_put_56 (lv_at hl 0 rfl) ?_
          refine z_isub (a := a) (b := (wd * 16)) hx hb dX4_put_58 ?_
          refine lv_iconst (v := zi (0)) hx hb dX4_put_59 rfl ?_
          refine z_max (a := (a - (wd * 16))) (b := 0) hT X hl.1 (q_401 hT hW) (by omega) (Nat.le_of_ble_eq_true rfl) (Nat.le_of_ble_eq_true rfl) (Nat.le_of_ble_eq_true rfl) (Nat.le_of_ble_eq_true rfl) dX4_put_60 ?_
          refine lv_iload_n hx hb dX4_put_63 rfl (lv_at hl 7 rfl) ?_
          refine lv_iload hx hb dX4_put_64 (lv_at hl 0 rfl) ?_
          refine z_isub (a := z) (b := (wd * 16)) hx hb dX4_put_66 ?_
          refine lv_bipush (v := zi (15)) hx hb dX4_put_67 rfl ?_
          refine z_min (a := (z - (wd * 16))) (b := 15) hT X hl.1 (q_402 hT hW) (by omega) (Nat.le_of_ble_eq_true rfl) (Nat.le_of_ble_eq_true rfl) (Nat.le_of_ble_eq_true rfl) (Nat.le_of_ble_eq_true rfl) dX4_put_69 ?_
          obtain ⟨ma, hma⟩ : ∃ x : Int, x = (max ((a - (wd * 16))) 0) := ⟨_, rfl⟩
          obtain ⟨mb, hmb⟩ : ∃ x : Int, x = (min ((z - (wd * 16))) 15) := ⟨_, rfl⟩
          rw [← hma, ← hmb]
          refine z_invS (n := 2) (c_X4_maskOf l hZ (P := zR D A (zu w wa (.inl (tc 2, 3024, .inr (.inl W1)))) ) (a := ma) (b := mb) (by omega)) X hS hR hl.1 (q_405 hT hW) (q_2 hT hW) (q_403 hT hW) (q_404 hT hW) (by decide +kernel) rfl ⟨Nat.le_of_ble_eq_true rfl, Nat.le_of_ble_eq_true rfl⟩ ⟨Nat.le_of_ble_eq_true rfl, Nat.le_of_ble_eq_true rfl⟩ (Nat.le_of_ble_eq_true rfl) dX4_put_72 (fun v H locs hv hS => ?_) rfl
          obtain ⟨rfl, hR⟩ := hv
          refine lv_lstore (lv' := [(10, .long ((zmv ma mb))), (9, .int (zi ((wd * 16)))), (8, .int (zi (((n * 63) + wd)))), (7, .int (zi (wd))), (5, .long (zst st)), (0, .ref (b)), (1, .int (zi (n))), (2, .int (zi (a))), (3, .int (zi (z))), (4, .int (zi (st)))]) hx hb dX4_put_75 hl (by decide) rfl (fun ls hl => ?_)
          refine lv_aload_n hx hb dX4_put_77 rfl (lv_at hl 5 rfl) ?_
          refine z_get hx hb (q_wsX4 hT hW) hown hK hR hb1 rfl 0 (by decide) (q_36 hT hW) (fun _ h => h) rfl dX4_put_78 ?_
          refine lv_iload hx hb dX4_put_81 (lv_at hl 2 rfl) ?_
          refine lv_aload_n hx hb dX4_put_83 rfl (lv_at hl 5 rfl) ?_
          refine z_get hx hb (q_wsX4 hT hW) hown hK hR hb1 rfl 0 (by decide) (q_36 hT hW) (fun _ h => h) rfl dX4_put_84 ?_
          refine lv_iload hx hb dX4_put_87 (lv_at hl 2 rfl) ?_
          refine z_lald (i := ((n * 63) + wd)) hx hb hK hR 2 hw1 rfl (by omega) dX4_put_89 ?_
          refine lv_lload hx hb dX4_put_90 (lv_at hl 0 rfl) ?_
          refine lv_ldc2 (v := -1) hx hb hown (q_406 hT hW) dX4_put_92 ?_
          refine lv_lxor hx hb dX4_put_95 ?_
          refine lv_land hx hb dX4_put_96 ?_
          refine lv_lload hx hb dX4_put_97 (lv_at hl 4 rfl) ?_
          refine lv_lload hx hb dX4_put_99 (lv_at hl 0 rfl) ?_
          refine lv_land hx hb dX4_put_101 ?_
          refine lv_lor hx hb dX4_put_102 ?_
          refine z_last (i := ((n * 63) + wd)) hx hb hK hR hS 2 hw1 rfl (by omega) dX4_put_103 (fun H locs hR hS => ?_)
          rw [zu_zu] at hR
          refine z_iinc (a := wd) (n := 1) (lv' := [(7, .int (zi ((wd + 1)))), (10, .long ((zmv ma mb))), (9, .int (zi ((wd * 16)))), (8, .int (zi (((n * 63) + wd)))), (5, .long (zst st)), (0, .ref (b)), (1, .int (zi (n))), (2, .int (zi (a))), (3, .int (zi (z))), (4, .int (zi (st)))]) hx hb dX4_put_104 hl (k := 3) rfl (by decide) rfl (fun ls hl => ?_)
          refine lv_goto (tgt := 15) hx hb dX4_put_107 (by decide) ?_
          have hstep := fun (j k : Nat) (hk : k < 16) => zput_step (W1 := W1) (a := ma) (b := mb) (st := st) (by omega) (by omega) (by omega) (n * 63 + wd).toNat j k hk
          have hI2 : ∀ j : Nat, j < 3024 → ∀ k : Nat, k < 16 → (zni ((vp_updL W1 (n * 63 + wd).toNat ((W1 (n * 63 + wd).toNat &&& (zmv ma mb ^^^ (-1))) ||| (zst st &&& zmv ma mb))) j) k : Int) = if (j : Int) / 63 = n ∧ a ≤ 16 * ((j : Int) % 63) + k ∧ 16 * ((j : Int) % 63) + k ≤ z ∧ (j : Int) % 63 < wd + 1 then st else zni (Wd j) k := by
            intro j hj k hk
            rw [hstep j k hk]
            have hI1 := hI j hj k hk
            have q1 : ((n * 63 + wd).toNat : Int) = n * 63 + wd := by omega
            by_cases c1 : j = (n * 63 + wd).toNat
            · have c2 : (j : Int) / 63 = n := by omega
              have c3 : (j : Int) % 63 = wd := by omega
              by_cases c4 : ma ≤ k ∧ k ≤ mb
              · rw [if_pos ⟨c1, c4⟩, if_pos ⟨c2, by omega, by omega, by omega⟩]; omega
              · rw [if_neg (fun q => c4 q.2), hI1, if_neg (by omega), if_neg (by omega)]
            · rw [if_neg (fun q => c1 q.1), hI1]
              congr 1
              refine propext ⟨fun q => ⟨q.1, q.2.1, q.2.2.1, by omega⟩, fun q => ⟨q.1, q.2.1, q.2.2.1, ?_⟩⟩
              have : (j : Int) ≠ n * 63 + wd := by omega
              omega
          exact ih (wd + 1) _ _ _ _ (by omega) (by omega) hI2 hR hS (lv_sub hl [0, 4, 5, 6, 7, 8, 9] rfl)

