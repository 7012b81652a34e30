/-! what the law tells of the object, and that two such rows are the same -/
def ztl (u : zS_) (j : Nat) : Int := if j < 24 then vB u ((j / 4 : Nat) : Int) ((j % 4 : Nat) : Int) else if j < 36 then vC u ((j - 24 : Nat) : Int) 0 + 10 * vC u ((j - 24 : Nat) : Int) 1 else if j < 48 then vC u ((j - 36 : Nat) : Int) 3 + 1000 * vC u ((j - 36 : Nat) : Int) 2 else if j < 51 then u 22 (j - 48) else 0
def zTl (u : zS_) (f : Nat → Int32) (n1 n2 : Nat) : Prop := ∀ j : Nat, (j < n1 ∨ (36 ≤ j ∧ j < n2) ∨ 51 ≤ j) → f j = zi (ztl u j)
theorem zTl_set {u : zS_} {f : Nat → Int32} {i : Nat} {x : Int32} {n1 n2 m1 m2 : Nat} (h : zTl u f n1 n2) (hx : x = zi (ztl u i)) (hc : ∀ j : Nat, (j < m1 ∨ (36 ≤ j ∧ j < m2) ∨ 51 ≤ j) → j ≠ i → (j < n1 ∨ (36 ≤ j ∧ j < n2) ∨ 51 ≤ j)) : zTl u (upd f i x) m1 m2 := by
  intro j hj
  unfold upd
  by_cases e : j = i
  · rw [if_pos e, e]; exact hx
  · rw [if_neg e]; exact h j (hc j hj e)
theorem zTl_0 {u : zS_} : zTl u (fun _ => 0) 0 0 := by
  intro j hj
  unfold ztl
  rw [if_neg (by omega), if_neg (by omega), if_neg (by omega), if_neg (by omega)]
  rfl
theorem zt_b {u : zS_} {b k : Nat} (hb : b < 6) (hk : k < 4) : ztl u (4 * (b : Int) + (k : Int)).toNat = vB u (b : Int) (k : Int) := by
  rw [show (4 * (b : Int) + (k : Int)).toNat = 4 * b + k by omega]
  unfold ztl
  rw [if_pos (by omega), show (4 * b + k) / 4 = b by omega, show (4 * b + k) % 4 = k by omega]
theorem zt_c {u : zS_} {c : Nat} (hc : c < 12) : ztl u (24 + (c : Int)).toNat = vC u (c : Int) 0 + 10 * vC u (c : Int) 1 := by
  rw [show (24 + (c : Int)).toNat = 24 + c by omega]
  unfold ztl
  rw [if_neg (by omega), if_pos (by omega), show 24 + c - 24 = c by omega]
theorem zt_d {u : zS_} {c : Nat} (hc : c < 12) : ztl u (36 + (c : Int)).toNat = vC u (c : Int) 3 + 1000 * vC u (c : Int) 2 := by
  rw [show (36 + (c : Int)).toNat = 36 + c by omega]
  unfold ztl
  rw [if_neg (by omega), if_neg (by omega), if_pos (by omega), show 36 + c - 36 = c by omega]
theorem zt_r {u : zS_} {k : Nat} (hk : k < 3) : ztl u (48 + (k : Int)).toNat = u 22 (k : Int).toNat := by
  rw [show (48 + (k : Int)).toNat = 48 + k by omega]
  unfold ztl
  rw [if_neg (by omega), if_neg (by omega), if_neg (by omega), if_pos (by omega), show 48 + k - 48 = k by omega]
  rfl
set_option maxHeartbeats 4000000 in
set_option maxRecDepth 100000 in
theorem c_L_same (l : Launch) {S : State} {D : va_G} {tc : Nat → ClassId} {A : Nat → Prop} {dz : Nat} (hZ : zB S D tc A dz) {H0 : Heap} {r1 r2 : Nat} {f g : Nat → Int32} (he : ∀ j : Nat, j < 64 → f j = g j) : zM l S A yL_same cL_same 3 (Option.some Jvm.ClassFile.FieldType.boolean)  { frames := 1, locals := 20, cells := 0, slots := 0 } [.ref (r1), .ref (r2)] (fun H => H = H0 ∧ zR D (fun q => q = r1) (zoI tc r1 64 f) H ∧ zR D (fun q => q = r2) (zoI tc r2 64 g) H) (fun v H => H = H0 ∧ v = some (.int (zi 1))) := by
  refine zM.mk (by decide +kernel) (Nat.le_of_ble_eq_true rfl) ?_
  intro p e s m below meth c ls X0 hR hl
  obtain ⟨hx, hb, hml, hr, hlocks, hown, hnm, hW, hpre, hA⟩ := X0
  have X : zH S A p s m c cL_same 3 RL := ⟨hx, hb, hml, hown, hW, hpre, hA, hZ.2.2.1⟩
  have hT := hZ.1
  have hK := va_K.moved hW.alike hZ.2.1
  have hS : va_S A s.heap s.heap [] := va_S.rf
  have hl : lv_has ls 3 [(0, .ref (r1)), (1, .ref (r2))] := hl
  obtain ⟨hH0, hR1, hR2⟩ := hR
  have K2 : ∀ (fu k : Nat) (ls : Array Slot), 64 < fu + k → k ≤ 64 → lv_has ls 3 [(2, .int (zi ((k : Int)))), (1, .ref (r2)), (0, .ref (r1))] → W p l e { frames := 1, locals := 20, cells := 0, slots := 0 } s m ([.ref (r1), .ref (r2)] : List Value).toArray below meth c s.heap [] 0 0 (MQ below (zQ A (fun v H => H = H0 ∧ v = some (.int (zi 1)))) ([.ref (r1), .ref (r2)] : List Value).toArray s ({ frames := 1, locals := 20, cells := 0, slots := 0 } : Room).cells ({ frames := 1, locals := 20, cells := 0, slots := 0 } : Room).slots A) (F0 m 2 ls []) := by
    intro fu
    induction fu with
    | zero => intro k ls h1 h2; omega
    | succ fu ih =>
      intro k ls h1 h2 hl
      refine lv_iload_n hx hb dL_same_2 rfl (lv_at hl 0 rfl) ?_
      refine lv_bipush (v := zi (64)) hx hb dL_same_3 rfl ?_
      refine z_icmp_ge (a := (k : Int)) (b := 64) (tgt := 25) hx hb dL_same_5 (by decide) (by omega) (fun h_5 => ?_) (fun h_5 => ?_)
      · skip
        refine lv_iconst (v := zi (1)) hx hb dL_same_25 rfl ?_
        exact z_zret hx hb hr rfl hlocks hS (by show 0 ≤ 0; omega) (by show 0 ≤ 0; omega) dL_same_26 ⟨hH0, rfl⟩
      · skip
        refine lv_aload_n hx hb dL_same_8 rfl (lv_at hl 2 rfl) ?_
        refine lv_iload_n hx hb dL_same_9 rfl (lv_at hl 0 rfl) ?_
        refine z_iald (i := (k : Int)) hx hb hK hR1 0 zu_eq rfl (by omega) dL_same_10 ?_
        refine lv_aload_n hx hb dL_same_11 rfl (lv_at hl 1 rfl) ?_
        refine lv_iload_n hx hb dL_same_12 rfl (lv_at hl 0 rfl) ?_
        refine z_iald (i := (k : Int)) hx hb hK hR2 0 zu_eq rfl (by omega) dL_same_13 ?_
        refine lv_icmp_eq (tgt := 19) hx hb dL_same_14 (by decide) (fun _ => ?_) (fun h => absurd (he _ (by omega)) h)
        refine z_iinc (a := (k : Int)) (n := 1) (lv' := [(2, .int (zi (((k : Int) + 1)))), (1, .ref (r2)), (0, .ref (r1))]) hx hb dL_same_19 hl (k := 0) rfl (by decide) rfl (fun ls hl => ?_)
        refine lv_goto (tgt := 2) hx hb dL_same_22 (by decide) ?_
        rw [show (k : Int) + 1 = ((k + 1 : Nat) : Int) by omega] at hl
        exact ih (k + 1) ls (by omega) (by omega) (lv_sub hl [0, 1, 2] rfl)
  refine lv_iconst (v := zi (0)) hx hb dL_same_0 rfl ?_
  refine lv_istore_n (lv' := [(2, .int (zi (0))), (0, .ref (r1)), (1, .ref (r2))]) hx hb dL_same_1 rfl hl (by decide) rfl (fun ls hl => ?_)
  exact K2 65 0 ls (by omega) (by omega) (lv_sub hl [0, 2, 1] rfl)
